/-! Moments: become, momentAt, remember, recall, begin -/
def mv_c (q : Nat) (m : sv_M) : va_E := .inr (1, [.ref (q + 2), .ref (q + 3), .int m.2.2.1, .int m.2.2.2.1, .int m.2.2.2.2.1, .int m.2.2.2.2.2.1, .int m.2.2.2.2.2.2.1, .int m.2.2.2.2.2.2.2])
def mv_a (f : Nat → Int32) : va_E := .inl (0, 6, .inl f)
/-- a Moment stands at the cells q, q + 1, q + 2 (places q + 1, ..) -/
def mv_h (h : ai_H) (q : Nat) (m : sv_M) : Prop := h[q]? = some (mv_c q m) ∧ h[q + 1]? = some (mv_a m.1) ∧ h[q + 2]? = some (mv_a m.2.1)
def mv_s (h : ai_H) (q : Nat) (m : sv_M) : ai_H := ((h.set q (mv_c q m)).set (q + 1) (mv_a m.1)).set (q + 2) (mv_a m.2.1)
theorem mv_lt {h : ai_H} {q : Nat} {m : sv_M} (hd : mv_h h q m) : q + 2 < h.length := (List.getElem?_eq_some_iff.mp hd.2.2).1
theorem mv_self {h : ai_H} {q : Nat} {m : sv_M} (hd : mv_h h q m) : mv_s h q m = h := by
  unfold mv_s
  have l := mv_lt hd
  apply List.ext_getElem?
  intro j
  simp only [List.getElem?_set, List.length_set]
  obtain ⟨h1, h2, h3⟩ := hd
  by_cases e2 : q + 2 = j
  · subst e2; rw [if_pos rfl, if_pos (by omega), h3]
  · by_cases e1 : q + 1 = j
    · subst e1; simp [h2]; omega
    · by_cases e0 : q = j
      · subst e0; simp [h1]; omega
      · simp [e0, e1, e2]
theorem mv_at {h : ai_H} {q : Nat} (l : q + 2 < h.length) (m : sv_M) : mv_h (mv_s h q m) q m := by
  unfold mv_s mv_h
  simp only [List.getElem?_set, List.length_set]
  refine ⟨?_, ?_, ?_⟩
  · simp; omega
  · simp; omega
  · simp; omega
theorem mv_off {h : ai_H} {q j : Nat} (m : sv_M) (hj : j < q ∨ q + 2 < j) : (mv_s h q m)[j]? = h[j]? := by
  unfold mv_s
  rw [List.getElem?_set_ne (by omega), List.getElem?_set_ne (by omega), List.getElem?_set_ne (by omega)]
theorem mv_other {h : ai_H} {q s : Nat} {ms : sv_M} (m : sv_M) (hs : mv_h h s ms) (ha : s + 2 < q ∨ q + 2 < s) : mv_h (mv_s h q m) s ms := by
  obtain ⟨h1, h2, h3⟩ := hs
  exact ⟨by rw [mv_off m (by omega)]; exact h1, by rw [mv_off m (by omega)]; exact h2, by rw [mv_off m (by omega)]; exact h3⟩
theorem mv_gf {h : ai_H} {q : Nat} {m : sv_M} (hd : mv_h h q m) : ai_gf h (q + 1) 1 0 = some (.ref (q + 2)) ∧ ai_gf h (q + 1) 1 1 = some (.ref (q + 3)) ∧ ai_gf h (q + 1) 1 2 = some (.int m.2.2.1) ∧ ai_gf h (q + 1) 1 3 = some (.int m.2.2.2.1) ∧ ai_gf h (q + 1) 1 4 = some (.int m.2.2.2.2.1) ∧ ai_gf h (q + 1) 1 5 = some (.int m.2.2.2.2.2.1) ∧ ai_gf h (q + 1) 1 6 = some (.int m.2.2.2.2.2.2.1) ∧ ai_gf h (q + 1) 1 7 = some (.int m.2.2.2.2.2.2.2) := by
  have h1 : ai_cell h (q + 1) = some (mv_c q m) := hd.1
  unfold ai_gf
  rw [h1]
  exact ⟨rfl, rfl, rfl, rfl, rfl, rfl, rfl, rfl⟩
theorem mv_ia {h : ai_H} {q : Nat} {m : sv_M} (hd : mv_h h q m) : ai_ia h (q + 2) 0 = some (6, m.1) ∧ ai_ia h (q + 3) 0 = some (6, m.2.1) := by
  have h2 : ai_cell h (q + 2) = some (mv_a m.1) := hd.2.1
  have h3 : ai_cell h (q + 3) = some (mv_a m.2.1) := hd.2.2
  unfold ai_ia
  rw [h2, h3]
  exact ⟨rfl, rfl⟩
theorem mv_ss (h : ai_H) (q : Nat) (m m' : sv_M) : mv_s (mv_s h q m) q m' = mv_s h q m' := by
  unfold mv_s
  apply List.ext_getElem?
  intro j
  simp only [List.getElem?_set, List.length_set]
  by_cases e2 : q + 2 = j
  · simp [e2]
  · by_cases e1 : q + 1 = j
    · simp [e1, e2]
    · by_cases e0 : q = j
      · simp [e0, e1, e2]
      · simp [e0, e1, e2]
theorem mv_pf {h : ai_H} {q : Nat} (l : q + 2 < h.length) (a b : Nat → Int32) (y f k u v o z : Int32) :
    ai_pf (mv_s h q (a, b, y, f, k, u, v, o)) (q + 1) 1 2 (.int z) = some (mv_s h q (a, b, z, f, k, u, v, o)) ∧
    ai_pf (mv_s h q (a, b, y, f, k, u, v, o)) (q + 1) 1 3 (.int z) = some (mv_s h q (a, b, y, z, k, u, v, o)) ∧
    ai_pf (mv_s h q (a, b, y, f, k, u, v, o)) (q + 1) 1 4 (.int z) = some (mv_s h q (a, b, y, f, z, u, v, o)) ∧
    ai_pf (mv_s h q (a, b, y, f, k, u, v, o)) (q + 1) 1 5 (.int z) = some (mv_s h q (a, b, y, f, k, z, v, o)) ∧
    ai_pf (mv_s h q (a, b, y, f, k, u, v, o)) (q + 1) 1 6 (.int z) = some (mv_s h q (a, b, y, f, k, u, z, o)) ∧
    ai_pf (mv_s h q (a, b, y, f, k, u, v, o)) (q + 1) 1 7 (.int z) = some (mv_s h q (a, b, y, f, k, u, v, z)) := by
  have h1 : ai_cell (mv_s h q (a, b, y, f, k, u, v, o)) (q + 1) = some (mv_c q (a, b, y, f, k, u, v, o)) := (mv_at l _).1
  have hs : ∀ m' : sv_M, m'.1 = a → m'.2.1 = b → (mv_s h q (a, b, y, f, k, u, v, o)).set q (mv_c q m') = mv_s h q m' := by
    intro m' e1 e2
    subst e1
    subst e2
    unfold mv_s
    apply List.ext_getElem?
    intro j
    simp only [List.getElem?_set, List.length_set]
    by_cases e2 : q + 2 = j
    · have e3 : ¬ q = j := by omega
      simp [e2, e3]
    · by_cases e1 : q + 1 = j
      · have e3 : ¬ q = j := by omega
        simp [e1, e2, e3]
      · by_cases e0 : q = j
        · simp [e0, e1, e2]
        · simp [e0, e1, e2]
  unfold ai_pf
  rw [h1]
  exact ⟨congrArg some (hs (a, b, z, f, k, u, v, o) rfl rfl), congrArg some (hs (a, b, y, z, k, u, v, o) rfl rfl), congrArg some (hs (a, b, y, f, z, u, v, o) rfl rfl), congrArg some (hs (a, b, y, f, k, z, v, o) rfl rfl), congrArg some (hs (a, b, y, f, k, u, z, o) rfl rfl), congrArg some (hs (a, b, y, f, k, u, v, z) rfl rfl)⟩
theorem mv_pa {h : ai_H} {q : Nat} (l : q + 2 < h.length) (m : sv_M) (g : Nat → Int32) :
    ai_pa (mv_s h q m) (q + 2) 0 g = some (mv_s h q (g, m.2)) ∧ ai_pa (mv_s h q m) (q + 3) 0 g = some (mv_s h q (m.1, g, m.2.2)) := by
  have h2 : ai_cell (mv_s h q m) (q + 2) = some (mv_a m.1) := (mv_at l _).2.1
  have h3 : ai_cell (mv_s h q m) (q + 3) = some (mv_a m.2.1) := (mv_at l _).2.2
  unfold ai_pa
  rw [h2, h3]
  refine ⟨congrArg some ?_, congrArg some ?_⟩
  · show (mv_s h q m).set (q + 1) (mv_a g) = mv_s h q (g, m.2)
    unfold mv_s
    rw [List.set_comm _ _ (by omega), List.set_set]
    rfl
  · show (mv_s h q m).set (q + 2) (mv_a g) = mv_s h q (m.1, g, m.2.2)
    unfold mv_s
    rw [List.set_set]
    rfl
/-- the first j places of g over f -/
def z_cp (f g : Nat → Int32) : Nat → Nat → Int32
  | 0 => f
  | j + 1 => upd (z_cp f g j) j (g j)
theorem z_cp_at (f g : Nat → Int32) : ∀ (j i : Nat), i < j → z_cp f g j i = g i
  | 0, i, h => absurd h (Nat.not_lt_zero i)
  | j + 1, i, h => by
    unfold z_cp
    by_cases e : i = j
    · subst e; exact pk_us
    · rw [pk_un e]; exact z_cp_at f g j i (by omega)
def z_cpm (md ms : sv_M) : sv_M := (z_cp md.1 ms.1 6, z_cp md.2.1 ms.2.1 6, ms.2.2)
theorem x_become (S : ai_S) (h : ai_H) (d s : Nat) (md ms : sv_M) (hd : mv_h h d md) (hs : mv_h h s ms) (ha : s + 2 < d ∨ d + 2 < s) : ai_call S 4 [.ref (d + 1), .ref (s + 1)] h = some (none, mv_s h d (z_cpm md ms)) := by
  rw [e_4]
  have l := mv_lt hd
  obtain ⟨a0, b0, y0, f0, kk0, u0, v0, o0⟩ := md
  obtain ⟨a1, b1, y1, f1, k1, u1, v1, o1⟩ := ms
  have G := fun m : sv_M => mv_gf (mv_at l m)
  have A := fun m : sv_M => mv_ia (mv_at l m)
  have G1 := fun m : sv_M => mv_gf (mv_other m hs ha)
  have A1 := fun m : sv_M => mv_ia (mv_other m hs ha)
  have key : ∀ n j, j + n = 6 → ai_res S 4 1 [.ref (d + 1), .ref (s + 1), .int (nI j)] [] (mv_s h d (z_cp a0 a1 j, z_cp b0 b1 j, y0, f0, kk0, u0, v0, o0)) = some (none, mv_s h d (z_cpm (a0, b0, y0, f0, kk0, u0, v0, o0) (a1, b1, y1, f1, k1, u1, v1, o1))) := by
    intro n
    induction n with
    | zero =>
      intro j hj
      have e6 : j = 6 := by omega
      subst e6
      have h6 : (6 : Int32) ≤ nI 6 := by decide
      simp only [k_4_1, k_4_7, w_l3, gl_2, vi_i, w_c1, t_11, w_l5, gl_0, va_r, va_n, gl_1, w_get, gf_m2, w_putI, pf_m2, gf_m3, pf_m3, gf_m4, pf_m4, gf_m5, pf_m5, gf_m6, pf_m6, gf_m7, pf_m7, t_27, z10, z01, z_bT, z_bF, true_or, or_true, false_or, or_false, Option.bind_some, Option.toList_some, Option.toList_none, List.cons_append, List.nil_append, List.length_cons, List.length_nil, Nat.zero_add, Nat.reduceAdd, Nat.reduceLeDiff, and_self, and_true, true_and, if_true, if_false, reduceCtorEq, ne_eq, not_false_eq_true, not_true_eq_false, ↓reduceIte, Nat.reduceEqDiff, Bool.not_not, h6, (G _).1, (G _).2.1, (G1 _).2.2.1, (G1 _).2.2.2.1, (G1 _).2.2.2.2.1, (G1 _).2.2.2.2.2.1, (G1 _).2.2.2.2.2.2.1, (G1 _).2.2.2.2.2.2.2, (mv_pf l _ _ _ _ _ _ _ _ _).1, (mv_pf l _ _ _ _ _ _ _ _ _).2.1, (mv_pf l _ _ _ _ _ _ _ _ _).2.2.1, (mv_pf l _ _ _ _ _ _ _ _ _).2.2.2.1, (mv_pf l _ _ _ _ _ _ _ _ _).2.2.2.2.1, (mv_pf l _ _ _ _ _ _ _ _ _).2.2.2.2.2]
      rfl
    | succ n ih =>
      intro j hj
      have hlt : ¬ (6 : Int32) ≤ nI j := nI_ge (b := 6) (by omega) (by decide)
      have hj6 : j < 6 := by omega
      have e2 : d + 2 ≠ 0 := by omega
      have e3 : d + 3 ≠ 0 := by omega
      have e4 : s + 2 ≠ 0 := by omega
      have e5 : s + 3 ≠ 0 := by omega
      rw [k_4_1]
      simp only [k_4_0, k_4_2, k_4_3, k_4_4, k_4_5, k_4_6, k_4_7, w_c0, w_s6, sl_2, ll_2, t_0, w_l3, gl_2, vi_i, w_c1, t_11, w_l5, gl_0, va_r, va_n, w_get, gf_m0, ia_m0, pz_m0, gl_1, t_21_2, rc_4, t_21_3, gf_m1, ia_m1, pz_m1, w_inc, t_1, gf_m2, w_putI, pf_m2, gf_m3, pf_m3, gf_m4, pf_m4, gf_m5, pf_m5, gf_m6, pf_m6, gf_m7, pf_m7, t_27, z10, z01, z_bT, z_bF, true_or, or_true, false_or, or_false, Option.bind_some, Option.toList_some, Option.toList_none, List.cons_append, List.nil_append, List.length_cons, List.length_nil, Nat.zero_add, Nat.reduceAdd, Nat.reduceLeDiff, and_self, and_true, true_and, if_true, if_false, reduceCtorEq, ne_eq, not_false_eq_true, not_true_eq_false, ↓reduceIte, Nat.reduceEqDiff, Bool.not_not, hlt, (G _).1, (G _).2.1, (G1 _).1, (G1 _).2.1, (A _).1, (A _).2, (A1 _).1, (A1 _).2, x_at, x_put, ob_s, e2, e3, e4, e5, hj6, (mv_pa l _ _).1, (mv_pa l _ _).2, nI_1]
      exact ih (j + 1) (by omega)
  have k0 := key 6 0 rfl
  have hz : mv_s h d (z_cp a0 a1 0, z_cp b0 b1 0, y0, f0, kk0, u0, v0, o0) = h := mv_self hd
  rw [hz] at k0
  simp only [k_4_0, w_c0, w_s6, sl_2, ll_2, t_0, z10, z01, z_bT, z_bF, true_or, or_true, false_or, or_false, Option.bind_some, Option.toList_some, Option.toList_none, List.cons_append, List.nil_append, List.length_cons, List.length_nil, Nat.zero_add, Nat.reduceAdd, Nat.reduceLeDiff, and_self, and_true, true_and, if_true, if_false, reduceCtorEq, ne_eq, not_false_eq_true, not_true_eq_false, ↓reduceIte, Nat.reduceEqDiff, Bool.not_not]
  exact k0

/-- the moments of the class as such places -/
theorem mv_mom (g : sv_G) (p : sv_G) (sw : Bool) (t : sv_T) (m : sv_M) (pa : sv_P) (im : Nat → sv_M) (kp : Int32) (he : sv_H) (wl : Nat → Int32) (fe : Nat → Int32) (as : Int64) (D : sv_D) : mv_h (HP (g, p, sw, t, m, pa, im, kp, he, wl, fe, as) D) 13 m := ⟨rfl, rfl, rfl⟩
theorem mv_row (g : sv_G) (p : sv_G) (sw : Bool) (t : sv_T) (m : sv_M) (rw : Nat → sv_M) (nx : Int32) (kn : Int32) (im : Nat → sv_M) (kp : Int32) (he : sv_H) (wl : Nat → Int32) (fe : Nat → Int32) (as : Int64) (D : sv_D) {k : Nat} (hk : k < 10) : mv_h (HP (g, p, sw, t, m, (rw, nx, kn), im, kp, he, wl, fe, as) D) (18 + 3 * k) (rw k) := by
  match k, hk with
  | 0, _ => exact ⟨rfl, rfl, rfl⟩
  | 1, _ => exact ⟨rfl, rfl, rfl⟩
  | 2, _ => exact ⟨rfl, rfl, rfl⟩
  | 3, _ => exact ⟨rfl, rfl, rfl⟩
  | 4, _ => exact ⟨rfl, rfl, rfl⟩
  | 5, _ => exact ⟨rfl, rfl, rfl⟩
  | 6, _ => exact ⟨rfl, rfl, rfl⟩
  | 7, _ => exact ⟨rfl, rfl, rfl⟩
  | 8, _ => exact ⟨rfl, rfl, rfl⟩
  | 9, _ => exact ⟨rfl, rfl, rfl⟩
theorem mv_img (g : sv_G) (p : sv_G) (sw : Bool) (t : sv_T) (m : sv_M) (pa : sv_P) (im : Nat → sv_M) (kp : Int32) (he : sv_H) (wl : Nat → Int32) (fe : Nat → Int32) (as : Int64) (D : sv_D) {k : Nat} (hk : k < 2) : mv_h (HP (g, p, sw, t, m, pa, im, kp, he, wl, fe, as) D) (49 + 3 * k) (im k) := by
  match k, hk with
  | 0, _ => exact ⟨rfl, rfl, rfl⟩
  | 1, _ => exact ⟨rfl, rfl, rfl⟩
theorem ms_mom (g : sv_G) (p : sv_G) (sw : Bool) (t : sv_T) (m : sv_M) (pa : sv_P) (im : Nat → sv_M) (kp : Int32) (he : sv_H) (wl : Nat → Int32) (fe : Nat → Int32) (as : Int64) (D : sv_D) (m' : sv_M) : mv_s (HP (g, p, sw, t, m, pa, im, kp, he, wl, fe, as) D) 13 m' = HP (g, p, sw, t, m', pa, im, kp, he, wl, fe, as) D := rfl
theorem ms_row (g : sv_G) (p : sv_G) (sw : Bool) (t : sv_T) (m : sv_M) (rw : Nat → sv_M) (nx : Int32) (kn : Int32) (im : Nat → sv_M) (kp : Int32) (he : sv_H) (wl : Nat → Int32) (fe : Nat → Int32) (as : Int64) (D : sv_D) {k : Nat} (hk : k < 10) (m' : sv_M) : mv_s (HP (g, p, sw, t, m, (rw, nx, kn), im, kp, he, wl, fe, as) D) (18 + 3 * k) m' = HP (g, p, sw, t, m, (va_up rw k m', nx, kn), im, kp, he, wl, fe, as) D := by
  match k, hk with
  | 0, _ => rfl
  | 1, _ => rfl
  | 2, _ => rfl
  | 3, _ => rfl
  | 4, _ => rfl
  | 5, _ => rfl
  | 6, _ => rfl
  | 7, _ => rfl
  | 8, _ => rfl
  | 9, _ => rfl
theorem ms_img (g : sv_G) (p : sv_G) (sw : Bool) (t : sv_T) (m : sv_M) (pa : sv_P) (im : Nat → sv_M) (kp : Int32) (he : sv_H) (wl : Nat → Int32) (fe : Nat → Int32) (as : Int64) (D : sv_D) {k : Nat} (hk : k < 2) (m' : sv_M) : mv_s (HP (g, p, sw, t, m, pa, im, kp, he, wl, fe, as) D) (49 + 3 * k) m' = HP (g, p, sw, t, m, pa, va_up im k m', kp, he, wl, fe, as) D := by
  match k, hk with
  | 0, _ => rfl
  | 1, _ => rfl
/-- momentAt(row, i) -/
theorem x_momentAt (S : ai_S) (q k : Nat) (h : ai_H) (hq : q ≠ 0) {n : Nat} {f : Nat → Option Nat} (hi : ai_ra h q = some (n, f)) (hn : n ≤ 200) (hk : k < n) : ai_call S 81 [.ref q, .int (nI k)] h = some (some (va_rf (f k)), h) := by
  rw [e_81]
  have h1 : ¬ nI k < 0 := nI_pos (by omega)
  have h2 : ¬ Int32.ofNat n ≤ nI k := nI_ge hk (by omega)
  have h3 := nI_clamp (n := k) (by omega)
  simp only [k_81_0, k_81_1, k_81_2, k_81_3, k_81_4, w_l3, gl_1, vi_i, t_4, w_l5, gl_0, va_r, va_n, t_11, w_aald, t_1, w_null, t_0, t_26r, t_26n, z10, z01, z_bT, z_bF, true_or, or_true, false_or, or_false, Option.bind_some, Option.toList_some, Option.toList_none, List.cons_append, List.nil_append, List.length_cons, List.length_nil, Nat.zero_add, Nat.reduceAdd, Nat.reduceLeDiff, and_self, and_true, true_and, if_true, if_false, reduceCtorEq, ne_eq, not_false_eq_true, not_true_eq_false, ↓reduceIte, Nat.reduceEqDiff, Bool.not_not, w_lenr S _ _ _ _ _ _ _ _ _ _ q hq hi, hi, h1, h2, rg_n hk (show n < 2 ^ 31 by omega), h3]
  cases f k <;> rfl
theorem x_momentAtN (S : ai_S) (q : Nat) (i : Int32) (h : ai_H) (hq : q ≠ 0) {n : Nat} {f : Nat → Option Nat} (hi : ai_ra h q = some (n, f)) (ho : i < 0 ∨ Int32.ofNat n ≤ i) : ai_call S 81 [.ref q, .int i] h = some (some .null, h) := by
  rw [e_81]
  by_cases h1 : i < 0
  · simp only [k_81_0, k_81_1, k_81_2, k_81_3, k_81_4, w_l3, gl_1, vi_i, t_4, w_l5, gl_0, va_r, va_n, t_11, w_aald, t_1, w_null, t_0, t_26r, t_26n, z10, z01, z_bT, z_bF, true_or, or_true, false_or, or_false, Option.bind_some, Option.toList_some, Option.toList_none, List.cons_append, List.nil_append, List.length_cons, List.length_nil, Nat.zero_add, Nat.reduceAdd, Nat.reduceLeDiff, and_self, and_true, true_and, if_true, if_false, reduceCtorEq, ne_eq, not_false_eq_true, not_true_eq_false, ↓reduceIte, Nat.reduceEqDiff, Bool.not_not, h1]
  · have h2 := ho.resolve_left h1
    simp only [k_81_0, k_81_1, k_81_2, k_81_3, k_81_4, w_l3, gl_1, vi_i, t_4, w_l5, gl_0, va_r, va_n, t_11, w_aald, t_1, w_null, t_0, t_26r, t_26n, z10, z01, z_bT, z_bF, true_or, or_true, false_or, or_false, Option.bind_some, Option.toList_some, Option.toList_none, List.cons_append, List.nil_append, List.length_cons, List.length_nil, Nat.zero_add, Nat.reduceAdd, Nat.reduceLeDiff, and_self, and_true, true_and, if_true, if_false, reduceCtorEq, ne_eq, not_false_eq_true, not_true_eq_false, ↓reduceIte, Nat.reduceEqDiff, Bool.not_not, w_lenr S _ _ _ _ _ _ _ _ _ _ q hq hi, h1, h2]
theorem rem10 {a : Nat} (h : a < 2 ^ 31) : nI a - nI a / 10 * 10 = nI (a % 10) := pk_rem h (by decide) (by decide)
theorem io_row2 (g : sv_G) (p : sv_G) (sw : Bool) (t : sv_T) (m : sv_M) (rw : Nat → sv_M) (nx : Int32) (kn : Int32) (im : Nat → sv_M) (kp : Int32) (he : sv_H) (wl : Nat → Int32) (fe : Nat → Int32) (as : Int64) (D : sv_D) {k : Nat} (hk : k < 10) : ai_io (HP (g, p, sw, t, m, (rw, nx, kn), im, kp, he, wl, fe, as) D) (18 + 3 * k + 1) 1 = true := by
  rw [show 18 + 3 * k + 1 = 19 + 3 * k by omega]
  exact io_row _ _ hk
theorem io_img2 (g : sv_G) (p : sv_G) (sw : Bool) (t : sv_T) (m : sv_M) (pa : sv_P) (im : Nat → sv_M) (kp : Int32) (he : sv_H) (wl : Nat → Int32) (fe : Nat → Int32) (as : Int64) (D : sv_D) {k : Nat} (hk : k < 2) : ai_io (HP (g, p, sw, t, m, pa, im, kp, he, wl, fe, as) D) (49 + 3 * k + 1) 1 = true := by
  rw [show 49 + 3 * k + 1 = 50 + 3 * k by omega]
  exact io_img _ _ hk
theorem x_remember (S : ai_S) (g : sv_G) (p : sv_G) (sw : Bool) (t : sv_T) (m : sv_M) (rw : Nat → sv_M) (im : Nat → sv_M) (kp : Int32) (he : sv_H) (wl : Nat → Int32) (fe : Nat → Int32) (as : Int64) (D : sv_D) (k j : Nat) (hk : k < 10) (hj : j ≤ 10) : ai_call S 6 [.ref 17, .ref 14] (HP (g, p, sw, t, m, (rw, nI k, nI j), im, kp, he, wl, fe, as) D) = some (none, HP (g, p, sw, t, m, (va_up rw k (z_cpm (rw k) m), nI ((k + 1) % 10), nI (min 10 (j + 1))), im, kp, he, wl, fe, as) D) := by
  generalize hnx : nI k = nx
  generalize hkn : nI j = kn
  rw [e_6]
  have hb : ai_call S 4 [.ref (18 + 3 * k + 1), .ref 14] (HP (g, p, sw, t, m, (rw, nx, kn), im, kp, he, wl, fe, as) D) = _ := x_become S (HP (g, p, sw, t, m, (rw, nx, kn), im, kp, he, wl, fe, as) D) (18 + 3 * k) 13 (rw k) m (mv_row _ _ _ _ _ _ _ _ _ _ _ _ _ _ _ hk) (mv_mom _ _ _ _ _ _ _ _ _ _ _ _ _) (by omega)
  rw [ms_row _ _ _ _ _ _ _ _ _ _ _ _ _ _ _ hk] at hb
  have hq := x_momentAt S 18 k (HP (g, p, sw, t, m, (rw, nx, kn), im, kp, he, wl, fe, as) D) (by decide) (ra_rows _ _) (by decide) hk
  rw [hx_rows_at hk, show 19 + 3 * k = 18 + 3 * k + 1 by omega, hnx] at hq
  have h10 : (10 : Int32) ≠ 0 := by decide
  have hio := fun g p sw t m rw nx kn im kp he wl fe as => io_row2 g p sw t m rw nx kn im kp he wl fe as D hk
  have hm : (if kn + 1 < 10 then kn + 1 else 10) = nI (min 10 (j + 1)) := by
    rw [← hkn, nI_1]
    show (if nI (j + 1) < nI 10 then nI (j + 1) else nI 10) = nI (min 10 (j + 1))
    by_cases hj2 : j + 1 < 10
    · rw [if_pos (nI_lt hj2 (by decide)), Nat.min_eq_right (by omega)]
    · rw [if_neg (nI_nlt (by omega) (by omega)), Nat.min_eq_left (by omega)]
  have hr : nx + 1 - (nx + 1) / 10 * 10 = nI ((k + 1) % 10) := by
    rw [← hnx, nI_1]
    exact rem10 (by omega)
  simp only [k_6_0, k_6_1, k_6_2, k_6_3, k_6_4, w_l5, gl_0, va_r, va_n, w_get, gf_pa0, ra_rows, gf_pa1, t_21_2, rc_4, w_s8r, w_s8n, sl_2, ll_2, gl_2, t_14n, t_14r, gl_1, t_18_2, rc_0, io_m, w_c0, w_b10, w_c1, w_b19, w_putI, pf_pa1, gf_pa2, w_min, pf_pa2, t_0, t_27, z10, z01, z_bT, z_bF, true_or, or_true, false_or, or_false, Option.bind_some, Option.toList_some, Option.toList_none, List.cons_append, List.nil_append, List.length_cons, List.length_nil, Nat.zero_add, Nat.reduceAdd, Nat.reduceLeDiff, and_self, and_true, true_and, if_true, if_false, reduceCtorEq, ne_eq, not_false_eq_true, not_true_eq_false, ↓reduceIte, Nat.reduceEqDiff, Bool.not_not, hq, va_rf, hio, hb, h10, hm, hr, List.map_cons, List.map_nil, Value.category, List.sum_cons, List.sum_nil]
theorem x_recall (S : ai_S) (g : sv_G) (p : sv_G) (sw : Bool) (t : sv_T) (m : sv_M) (rw : Nat → sv_M) (im : Nat → sv_M) (kp : Int32) (he : sv_H) (wl : Nat → Int32) (fe : Nat → Int32) (as : Int64) (D : sv_D) (k j : Nat) (hk : k < 10) (hj : j < 10) : ai_call S 7 [.ref 17, .ref 14] (HP (g, p, sw, t, m, (rw, nI k, nI (j + 1)), im, kp, he, wl, fe, as) D) = some (none, HP (g, p, sw, t, (z_cpm m (rw ((k + 9) % 10))), (rw, nI ((k + 9) % 10), nI j), im, kp, he, wl, fe, as) D) := by
  generalize hnx : nI k = nx
  generalize hkn : nI (j + 1) = kn
  rw [e_7]
  have hk9 : (k + 9) % 10 < 10 := Nat.mod_lt _ (by decide)
  have hr : nx + 10 - 1 - (nx + 10 - 1) / 10 * 10 = nI ((k + 9) % 10) := by
    rw [← hnx, show (10 : Int32) = nI 10 from rfl, nI_add, show k + 10 = k + 9 + 1 by omega, nI_pred]
    exact rem10 (by omega)
  generalize hz : (k + 9) % 10 = z at hr hk9 ⊢
  have hb : ai_call S 4 [.ref 14, .ref (18 + 3 * z + 1)] (HP (g, p, sw, t, m, (rw, nx, kn), im, kp, he, wl, fe, as) D) = _ := x_become S (HP (g, p, sw, t, m, (rw, nx, kn), im, kp, he, wl, fe, as) D) 13 (18 + 3 * z) m (rw z) (mv_mom _ _ _ _ _ _ _ _ _ _ _ _ _) (mv_row _ _ _ _ _ _ _ _ _ _ _ _ _ _ _ hk9) (by omega)
  rw [ms_mom] at hb
  have hq := x_momentAt S 18 z (HP (g, p, sw, t, m, (rw, nx, kn), im, kp, he, wl, fe, as) D) (by decide) (ra_rows _ _) (by decide) hk9
  rw [hx_rows_at hk9, show 19 + 3 * z = 18 + 3 * z + 1 by omega] at hq
  have h10 : (10 : Int32) ≠ 0 := by decide
  have hp : ¬ kn ≤ 0 := by rw [← hkn]; exact nI_nle (by omega) (by omega)
  have hkj : kn - 1 = nI j := by rw [← hkn]; exact nI_pred j
  simp only [k_7_0, k_7_1, k_7_2, k_7_3, k_7_4, k_7_5, w_l5, gl_0, va_r, va_n, w_get, gf_pa1, w_c1, w_b10, w_c0, w_b11, w_b19, w_s6, sl_2, ll_2, gf_pa0, ra_rows, w_l3, gl_2, vi_i, t_21_2, rc_4, w_s8r, w_s8n, sl_3, ll_3, gf_pa2, t_7, gl_3, t_14n, t_14r, gl_1, t_18_2, rc_0, io_m, w_putI, pf_pa1, w_dupi, w_dupr, pf_pa2, t_0, t_27, z10, z01, z_bT, z_bF, true_or, or_true, false_or, or_false, Option.bind_some, Option.toList_some, Option.toList_none, List.cons_append, List.nil_append, List.length_cons, List.length_nil, Nat.zero_add, Nat.reduceAdd, Nat.reduceLeDiff, and_self, and_true, true_and, if_true, if_false, reduceCtorEq, ne_eq, not_false_eq_true, not_true_eq_false, ↓reduceIte, Nat.reduceEqDiff, Bool.not_not, hq, va_rf, hb, h10, hr, hp, hkj]
