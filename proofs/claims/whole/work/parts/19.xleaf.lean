/-! small methods of the class: rows, bits -/
noncomputable def ai_cal2 (S : ai_S) : ai_Cal := ai_call S
def ai_ob {α : Type} (o : Option α) (d : ai_A) (f : α → ai_A) : ai_A := match o with
  | some x => f x
  | none => d
def z_b (c : Prop) [Decidable c] : Int32 := if c then 1 else 0
theorem z10 : ((1 : Int32) = 0) = False := eq_false (by decide)
theorem z01 : ((0 : Int32) = 1) = False := eq_false (by decide)
theorem z_bT [Decidable True] : z_b True = 1 := if_pos trivial
theorem z_bF [Decidable False] : z_b False = 0 := if_neg (fun h => h)
theorem ob_s {α : Type} (x : α) (d : ai_A) (f : α → ai_A) : ai_ob (some x) d f = f x := rfl
theorem z_b_t {c : Prop} [Decidable c] (h : c) : z_b c = 1 := if_pos h
theorem z_b_f {c : Prop} [Decidable c] (h : ¬ c) : z_b c = 0 := if_neg h
/-- at(row, i), i in range -/
theorem x_at (S : ai_S) (q k : Nat) (h : ai_H) (hq : q ≠ 0) : ai_call S 79 [.ref q, .int (nI k)] h = ai_ob (ai_ia h q 0) (ai_cal2 S 79 [.ref q, .int (nI k)] h) fun x => if x.1 ≤ 200 ∧ k < x.1 then some (some (.int (x.2 k)), h) else ai_cal2 S 79 [.ref q, .int (nI k)] h := by
  cases hi : ai_ia h q 0 with
  | none => rfl
  | some x =>
    obtain ⟨n, f⟩ := x
    rw [ob_s]
    by_cases hc : n ≤ 200 ∧ k < n
    · rw [if_pos hc, e_79]
      have h1 : ¬ nI k < 0 := nI_pos (by omega)
      have h2 : ¬ Int32.ofNat n ≤ nI k := nI_ge hc.2 (by omega)
      have h3 := nI_clamp (n := k) (by omega)
      simp only [k_79_0, k_79_1, k_79_2, k_79_3, k_79_4, w_l3, gl_1, vi_i, t_4, w_l5, gl_0, va_r, va_n, t_11, w_ald, t_1, w_c0, t_0, t_23, z10, z01, z_bT, z_bF, true_or, or_true, false_or, or_false, Option.bind_some, Option.toList_some, Option.toList_none, List.cons_append, List.nil_append, List.length_cons, List.length_nil, Nat.zero_add, Nat.reduceAdd, Nat.reduceLeDiff, and_self, and_true, true_and, if_true, if_false, reduceCtorEq, ne_eq, not_false_eq_true, not_true_eq_false, ↓reduceIte, Nat.reduceEqDiff, Bool.not_not, w_len S _ _ _ _ _ _ _ _ _ _ q hq hi, hi, h1, h2, rg_n hc.2 (by omega), h3, hq]
    · rw [if_neg hc]; rfl
/-- put(row, i, v), i in range -/
theorem x_put (S : ai_S) (q k : Nat) (v : Int32) (h : ai_H) (hq : q ≠ 0) : ai_call S 80 [.ref q, .int (nI k), .int v] h = ai_ob (ai_ia h q 0) (ai_cal2 S 80 [.ref q, .int (nI k), .int v] h) fun x => if x.1 ≤ 200 ∧ k < x.1 then (ai_pa h q 0 (upd x.2 k v)).bind (fun h' => some (none, h')) else ai_cal2 S 80 [.ref q, .int (nI k), .int v] h := by
  cases hi : ai_ia h q 0 with
  | none => rfl
  | some x =>
    obtain ⟨n, f⟩ := x
    rw [ob_s]
    by_cases hc : n ≤ 200 ∧ k < n
    · rw [if_pos hc, e_80]
      have h1 : ¬ nI k < 0 := nI_pos (by omega)
      have h2 : ¬ Int32.ofNat n ≤ nI k := nI_ge hc.2 (by omega)
      have h3 := nI_clamp (n := k) (by omega)
      simp only [k_80_0, k_80_1, k_80_2, k_80_3, w_l3, gl_1, vi_i, t_4, w_l5, gl_0, va_r, va_n, t_11, gl_2, w_ast, t_0, t_27, z10, z01, z_bT, z_bF, true_or, or_true, false_or, or_false, Option.bind_some, Option.toList_some, Option.toList_none, List.cons_append, List.nil_append, List.length_cons, List.length_nil, Nat.zero_add, Nat.reduceAdd, Nat.reduceLeDiff, and_self, and_true, true_and, if_true, if_false, reduceCtorEq, ne_eq, not_false_eq_true, not_true_eq_false, ↓reduceIte, Nat.reduceEqDiff, Bool.not_not, w_len S _ _ _ _ _ _ _ _ _ _ q hq hi, hi, h1, h2, rg_n hc.2 (by omega), h3, hq]
    · rw [if_neg hc]; rfl
theorem x_isIn (S : ai_S) (a k : Int32) (h : ai_H) : ai_call S 82 [.int a, .int k] h = some (some (.int (z_b ((a >>> (k &&& 31)) &&& 1 = 1))), h) := by
  rw [e_82]
  by_cases hc : (a >>> (k &&& 31)) &&& 1 = 1
  · simp only [k_82_0, k_82_1, k_82_2, k_82_3, w_l3, gl_0, vi_i, gl_1, w_b16, w_c0, w_b13, t_9, t_1, t_0, t_24_0, t_24_1, z10, z01, z_bT, z_bF, true_or, or_true, false_or, or_false, Option.bind_some, Option.toList_some, Option.toList_none, List.cons_append, List.nil_append, List.length_cons, List.length_nil, Nat.zero_add, Nat.reduceAdd, Nat.reduceLeDiff, and_self, and_true, true_and, if_true, if_false, reduceCtorEq, ne_eq, not_false_eq_true, not_true_eq_false, ↓reduceIte, Nat.reduceEqDiff, Bool.not_not, hc, z_b_t]
  · simp only [k_82_0, k_82_1, k_82_2, k_82_3, w_l3, gl_0, vi_i, gl_1, w_b16, w_c0, w_b13, t_9, t_1, t_0, t_24_0, t_24_1, z10, z01, z_bT, z_bF, true_or, or_true, false_or, or_false, Option.bind_some, Option.toList_some, Option.toList_none, List.cons_append, List.nil_append, List.length_cons, List.length_nil, Nat.zero_add, Nat.reduceAdd, Nat.reduceLeDiff, and_self, and_true, true_and, if_true, if_false, reduceCtorEq, ne_eq, not_false_eq_true, not_true_eq_false, ↓reduceIte, Nat.reduceEqDiff, Bool.not_not, hc, z_b_f]
theorem x_oz (S : ai_S) (a : Int32) (h : ai_H) : ai_call S 83 [.int a] h = some (some (.int (z_b (a = 0 ∨ a = 1))), h) := by
  rw [e_83]
  by_cases hc : a = 0
  · simp only [k_83_0, k_83_1, k_83_2, k_83_3, k_83_4, w_l3, gl_0, vi_i, t_2, w_c0, t_9, t_1, t_0, t_24_0, t_24_1, z10, z01, z_bT, z_bF, true_or, or_true, false_or, or_false, Option.bind_some, Option.toList_some, Option.toList_none, List.cons_append, List.nil_append, List.length_cons, List.length_nil, Nat.zero_add, Nat.reduceAdd, Nat.reduceLeDiff, and_self, and_true, true_and, if_true, if_false, reduceCtorEq, ne_eq, not_false_eq_true, not_true_eq_false, ↓reduceIte, Nat.reduceEqDiff, Bool.not_not, hc, true_or, z_b_t]
  · by_cases hd : a = 1
    · subst hd
      simp only [k_83_0, k_83_1, k_83_2, k_83_3, k_83_4, w_l3, gl_0, vi_i, t_2, w_c0, t_9, t_1, t_0, t_24_0, t_24_1, z10, z01, z_bT, z_bF, true_or, or_true, false_or, or_false, Option.bind_some, Option.toList_some, Option.toList_none, List.cons_append, List.nil_append, List.length_cons, List.length_nil, Nat.zero_add, Nat.reduceAdd, Nat.reduceLeDiff, and_self, and_true, true_and, if_true, if_false, reduceCtorEq, ne_eq, not_false_eq_true, not_true_eq_false, ↓reduceIte, Nat.reduceEqDiff, Bool.not_not, hc, or_true, z_b_t]
    · simp only [k_83_0, k_83_1, k_83_2, k_83_3, k_83_4, w_l3, gl_0, vi_i, t_2, w_c0, t_9, t_1, t_0, t_24_0, t_24_1, z10, z01, z_bT, z_bF, true_or, or_true, false_or, or_false, Option.bind_some, Option.toList_some, Option.toList_none, List.cons_append, List.nil_append, List.length_cons, List.length_nil, Nat.zero_add, Nat.reduceAdd, Nat.reduceLeDiff, and_self, and_true, true_and, if_true, if_false, reduceCtorEq, ne_eq, not_false_eq_true, not_true_eq_false, ↓reduceIte, Nat.reduceEqDiff, Bool.not_not, hc, hd, or_self, z_b_f]
theorem x_isCaller (S : ai_S) (gr : Int32) (vl : Int32) (sg : Int32) (cs : Int32) (pr : Nat → Int32) (ha : Nat → Int32) (la : Nat → Int32) (wa : Nat → Int32) (p : sv_G) (sw : Bool) (t : sv_T) (m : sv_M) (pa : sv_P) (im : Nat → sv_M) (kp : Int32) (he : sv_H) (wl : Nat → Int32) (fe : Nat → Int32) (as : Int64) (D : sv_D) (c : Int32) : ai_call S 30 [.ref 1, .int c] (HP ((gr, vl, sg, cs, pr, ha, la, wa), p, sw, t, m, pa, im, kp, he, wl, fe, as) D) = some (some (.int (z_b (0 ≤ c ∧ c < cs))), HP ((gr, vl, sg, cs, pr, ha, la, wa), p, sw, t, m, pa, im, kp, he, wl, fe, as) D) := by
  rw [e_30]
  by_cases hc : c < 0
  · have h2 : ¬ (0 ≤ c ∧ c < cs) := fun z => Int32.not_le.mpr hc z.1
    simp only [k_30_0, k_30_1, k_30_2, k_30_3, k_30_4, w_l3, gl_1, vi_i, t_4, w_l5, gl_0, va_r, va_n, w_get, gf_x0, gf_g3, gf_p3, t_11, w_c0, t_1, t_0, t_24_0, t_24_1, z10, z01, z_bT, z_bF, true_or, or_true, false_or, or_false, Option.bind_some, Option.toList_some, Option.toList_none, List.cons_append, List.nil_append, List.length_cons, List.length_nil, Nat.zero_add, Nat.reduceAdd, Nat.reduceLeDiff, and_self, and_true, true_and, if_true, if_false, reduceCtorEq, ne_eq, not_false_eq_true, not_true_eq_false, ↓reduceIte, Nat.reduceEqDiff, Bool.not_not, hc, z_b_f h2]
  · have h1 := Int32.not_lt.mp hc
    by_cases hd : cs ≤ c
    · have h2 : ¬ (0 ≤ c ∧ c < cs) := fun z => Int32.not_le.mpr z.2 hd
      simp only [k_30_0, k_30_1, k_30_2, k_30_3, k_30_4, w_l3, gl_1, vi_i, t_4, w_l5, gl_0, va_r, va_n, w_get, gf_x0, gf_g3, gf_p3, t_11, w_c0, t_1, t_0, t_24_0, t_24_1, z10, z01, z_bT, z_bF, true_or, or_true, false_or, or_false, Option.bind_some, Option.toList_some, Option.toList_none, List.cons_append, List.nil_append, List.length_cons, List.length_nil, Nat.zero_add, Nat.reduceAdd, Nat.reduceLeDiff, and_self, and_true, true_and, if_true, if_false, reduceCtorEq, ne_eq, not_false_eq_true, not_true_eq_false, ↓reduceIte, Nat.reduceEqDiff, Bool.not_not, hc, hd, z_b_f h2]
    · have h2 : (0 ≤ c ∧ c < cs) := ⟨h1, Int32.not_le.mp hd⟩
      simp only [k_30_0, k_30_1, k_30_2, k_30_3, k_30_4, w_l3, gl_1, vi_i, t_4, w_l5, gl_0, va_r, va_n, w_get, gf_x0, gf_g3, gf_p3, t_11, w_c0, t_1, t_0, t_24_0, t_24_1, z10, z01, z_bT, z_bF, true_or, or_true, false_or, or_false, Option.bind_some, Option.toList_some, Option.toList_none, List.cons_append, List.nil_append, List.length_cons, List.length_nil, Nat.zero_add, Nat.reduceAdd, Nat.reduceLeDiff, and_self, and_true, true_and, if_true, if_false, reduceCtorEq, ne_eq, not_false_eq_true, not_true_eq_false, ↓reduceIte, Nat.reduceEqDiff, Bool.not_not, hc, hd, z_b_t h2]
theorem x_bruise (S : ai_S) (gr : Int32) (vl : Int32) (sg : Int32) (cs : Int32) (pr : Nat → Int32) (ha : Nat → Int32) (la : Nat → Int32) (wa : Nat → Int32) (p : sv_G) (sw : Bool) (t : sv_T) (m : sv_M) (pa : sv_P) (im : Nat → sv_M) (kp : Int32) (he : sv_H) (wl : Nat → Int32) (fe : Nat → Int32) (as : Int64) (D : sv_D) (t1 : Int32) : ai_call S 40 [.ref 1, .int t1] (HP ((gr, vl, sg, cs, pr, ha, la, wa), p, sw, t, m, pa, im, kp, he, wl, fe, as) D) = some (some (.int (if t1 = 1 then 0 else gr)), HP ((gr, vl, sg, cs, pr, ha, la, wa), p, sw, t, m, pa, im, kp, he, wl, fe, as) D) := by
  rw [e_40]
  by_cases hc : t1 = 1
  · simp only [k_40_0, k_40_1, k_40_2, k_40_3, w_l3, gl_1, vi_i, w_c0, t_9, t_1, w_l5, gl_0, va_r, va_n, w_get, gf_x0, gf_g0, gf_p0, t_0, t_23, z10, z01, z_bT, z_bF, true_or, or_true, false_or, or_false, Option.bind_some, Option.toList_some, Option.toList_none, List.cons_append, List.nil_append, List.length_cons, List.length_nil, Nat.zero_add, Nat.reduceAdd, Nat.reduceLeDiff, and_self, and_true, true_and, if_true, if_false, reduceCtorEq, ne_eq, not_false_eq_true, not_true_eq_false, ↓reduceIte, Nat.reduceEqDiff, Bool.not_not, hc]
  · simp only [k_40_0, k_40_1, k_40_2, k_40_3, w_l3, gl_1, vi_i, w_c0, t_9, t_1, w_l5, gl_0, va_r, va_n, w_get, gf_x0, gf_g0, gf_p0, t_0, t_23, z10, z01, z_bT, z_bF, true_or, or_true, false_or, or_false, Option.bind_some, Option.toList_some, Option.toList_none, List.cons_append, List.nil_append, List.length_cons, List.length_nil, Nat.zero_add, Nat.reduceAdd, Nat.reduceLeDiff, and_self, and_true, true_and, if_true, if_false, reduceCtorEq, ne_eq, not_false_eq_true, not_true_eq_false, ↓reduceIte, Nat.reduceEqDiff, Bool.not_not, hc]
theorem x_warmth (S : ai_S) (g : sv_G) (p : sv_G) (sw : Bool) (t : sv_T) (br : Nat → Int32) (wm : Nat → Int32) (yi : Int32) (lf : Int32) (sh : Int32) (hu : Int32) (ve : Int32) (so : Int32) (pa : sv_P) (im : Nat → sv_M) (kp : Int32) (he : sv_H) (wl : Nat → Int32) (fe : Nat → Int32) (as : Int64) (D : sv_D) (t1 : Int32) : ai_call S 41 [.ref 1, .int t1] (HP (g, p, sw, t, (br, wm, yi, lf, sh, hu, ve, so), pa, im, kp, he, wl, fe, as) D) = some (some (.int (if t1 = 1 then 2 * ve else ve)), HP (g, p, sw, t, (br, wm, yi, lf, sh, hu, ve, so), pa, im, kp, he, wl, fe, as) D) := by
  rw [e_41]
  by_cases hc : t1 = 1
  · simp only [k_41_0, k_41_1, k_41_2, k_41_3, w_l3, gl_1, vi_i, w_c0, t_9, w_l5, gl_0, va_r, va_n, w_get, gf_x3, gf_m6, w_b12, t_1, t_0, t_23, z10, z01, z_bT, z_bF, true_or, or_true, false_or, or_false, Option.bind_some, Option.toList_some, Option.toList_none, List.cons_append, List.nil_append, List.length_cons, List.length_nil, Nat.zero_add, Nat.reduceAdd, Nat.reduceLeDiff, and_self, and_true, true_and, if_true, if_false, reduceCtorEq, ne_eq, not_false_eq_true, not_true_eq_false, ↓reduceIte, Nat.reduceEqDiff, Bool.not_not, hc]
  · simp only [k_41_0, k_41_1, k_41_2, k_41_3, w_l3, gl_1, vi_i, w_c0, t_9, w_l5, gl_0, va_r, va_n, w_get, gf_x3, gf_m6, w_b12, t_1, t_0, t_23, z10, z01, z_bT, z_bF, true_or, or_true, false_or, or_false, Option.bind_some, Option.toList_some, Option.toList_none, List.cons_append, List.nil_append, List.length_cons, List.length_nil, Nat.zero_add, Nat.reduceAdd, Nat.reduceLeDiff, and_self, and_true, true_and, if_true, if_false, reduceCtorEq, ne_eq, not_false_eq_true, not_true_eq_false, ↓reduceIte, Nat.reduceEqDiff, Bool.not_not, hc]
theorem x_countShake (S : ai_S) (gr : Int32) (vl : Int32) (sg : Int32) (cs : Int32) (pr : Nat → Int32) (ha : Nat → Int32) (la : Nat → Int32) (wa : Nat → Int32) (p : sv_G) (sw : Bool) (t : sv_T) (br : Nat → Int32) (wm : Nat → Int32) (yi : Int32) (lf : Int32) (sh : Int32) (hu : Int32) (ve : Int32) (so : Int32) (pa : sv_P) (im : Nat → sv_M) (kp : Int32) (he : sv_H) (wl : Nat → Int32) (fe : Nat → Int32) (as : Int64) (D : sv_D) (c : Int32) : ai_call S 43 [.ref 1, .int c] (HP ((gr, vl, sg, cs, pr, ha, la, wa), p, sw, t, (br, wm, yi, lf, sh, hu, ve, so), pa, im, kp, he, wl, fe, as) D) = some (none, HP ((gr, vl, sg, cs, pr, ha, la, wa), p, sw, t, (br, wm, yi, lf, (if sh + 1 = sg then 0 else sh + 1), hu, ve, (if sh + 1 = sg then c else so)), pa, im, kp, he, wl, fe, as) D) := by
  rw [e_43]
  by_cases hc : sh + 1 = sg
  · simp only [k_43_0, k_43_1, k_43_2, w_l5, gl_0, va_r, va_n, w_get, gf_x3, w_dupi, w_dupr, gf_m4, w_c0, w_b10, w_putI, pf_m4, gf_x0, gf_g2, gf_p2, t_9, w_l3, gl_1, vi_i, pf_m7, t_0, t_27, z10, z01, z_bT, z_bF, true_or, or_true, false_or, or_false, Option.bind_some, Option.toList_some, Option.toList_none, List.cons_append, List.nil_append, List.length_cons, List.length_nil, Nat.zero_add, Nat.reduceAdd, Nat.reduceLeDiff, and_self, and_true, true_and, if_true, if_false, reduceCtorEq, ne_eq, not_false_eq_true, not_true_eq_false, ↓reduceIte, Nat.reduceEqDiff, Bool.not_not, hc]
  · simp only [k_43_0, k_43_1, k_43_2, w_l5, gl_0, va_r, va_n, w_get, gf_x3, w_dupi, w_dupr, gf_m4, w_c0, w_b10, w_putI, pf_m4, gf_x0, gf_g2, gf_p2, t_9, w_l3, gl_1, vi_i, pf_m7, t_0, t_27, z10, z01, z_bT, z_bF, true_or, or_true, false_or, or_false, Option.bind_some, Option.toList_some, Option.toList_none, List.cons_append, List.nil_append, List.length_cons, List.length_nil, Nat.zero_add, Nat.reduceAdd, Nat.reduceLeDiff, and_self, and_true, true_and, if_true, if_false, reduceCtorEq, ne_eq, not_false_eq_true, not_true_eq_false, ↓reduceIte, Nat.reduceEqDiff, Bool.not_not, hc]
/-- he would yield -/
def z_y (ha pr : Nat → Int32) (k : Nat) (b w : Int32) : Prop := ha k ≤ w ∧ pr k ≤ b
theorem x_wouldYield (S : ai_S) (gr : Int32) (vl : Int32) (sg : Int32) (cs : Int32) (pr : Nat → Int32) (ha : Nat → Int32) (la : Nat → Int32) (wa : Nat → Int32) (p : sv_G) (sw : Bool) (t : sv_T) (m : sv_M) (pa : sv_P) (im : Nat → sv_M) (kp : Int32) (he : sv_H) (wl : Nat → Int32) (fe : Nat → Int32) (as : Int64) (D : sv_D) (k : Nat) (b w : Int32) (hk : k < 6) : ai_call S 44 [.ref 1, .int (nI k), .int b, .int w] (HP ((gr, vl, sg, cs, pr, ha, la, wa), p, sw, t, m, pa, im, kp, he, wl, fe, as) D) = some (some (.int (z_b (ha k ≤ w ∧ pr k ≤ b))), HP ((gr, vl, sg, cs, pr, ha, la, wa), p, sw, t, m, pa, im, kp, he, wl, fe, as) D) := by
  rw [e_44]
  have h0 : sq sw + 1 ≠ 0 := Nat.succ_ne_zero _
  have h00 : sq sw + 2 ≠ 0 := Nat.succ_ne_zero _
  by_cases hc : w < ha k
  · have h2 : ¬ (ha k ≤ w ∧ pr k ≤ b) := fun z => Int32.not_le.mpr hc z.1
    simp only [k_44_0, k_44_1, k_44_2, k_44_3, k_44_4, k_44_5, k_44_6, w_l3, gl_3, vi_i, w_l5, gl_0, va_r, va_n, w_get, gf_x0, gf_g5, gf_p5, ia_g5, ia_p5, pz_g5, pz_p5, gl_1, t_19_2, rc_1, t_10, gl_2, gf_g4, gf_p4, ia_g4, ia_p4, pz_g4, pz_p4, w_c0, t_1, t_0, t_24_0, t_24_1, z10, z01, z_bT, z_bF, true_or, or_true, false_or, or_false, Option.bind_some, Option.toList_some, Option.toList_none, List.cons_append, List.nil_append, List.length_cons, List.length_nil, Nat.zero_add, Nat.reduceAdd, Nat.reduceLeDiff, and_self, and_true, true_and, if_true, if_false, reduceCtorEq, ne_eq, not_false_eq_true, not_true_eq_false, ↓reduceIte, Nat.reduceEqDiff, Bool.not_not, x_at, ob_s, hk, h0, h00, hc, z_b_f h2]
  · by_cases hd : b < pr k
    · have h2 : ¬ (ha k ≤ w ∧ pr k ≤ b) := fun z => Int32.not_le.mpr hd z.2
      simp only [k_44_0, k_44_1, k_44_2, k_44_3, k_44_4, k_44_5, k_44_6, w_l3, gl_3, vi_i, w_l5, gl_0, va_r, va_n, w_get, gf_x0, gf_g5, gf_p5, ia_g5, ia_p5, pz_g5, pz_p5, gl_1, t_19_2, rc_1, t_10, gl_2, gf_g4, gf_p4, ia_g4, ia_p4, pz_g4, pz_p4, w_c0, t_1, t_0, t_24_0, t_24_1, z10, z01, z_bT, z_bF, true_or, or_true, false_or, or_false, Option.bind_some, Option.toList_some, Option.toList_none, List.cons_append, List.nil_append, List.length_cons, List.length_nil, Nat.zero_add, Nat.reduceAdd, Nat.reduceLeDiff, and_self, and_true, true_and, if_true, if_false, reduceCtorEq, ne_eq, not_false_eq_true, not_true_eq_false, ↓reduceIte, Nat.reduceEqDiff, Bool.not_not, x_at, ob_s, hk, h0, h00, hc, hd, z_b_f h2]
    · have h2 : (ha k ≤ w ∧ pr k ≤ b) := ⟨Int32.not_lt.mp hc, Int32.not_lt.mp hd⟩
      simp only [k_44_0, k_44_1, k_44_2, k_44_3, k_44_4, k_44_5, k_44_6, w_l3, gl_3, vi_i, w_l5, gl_0, va_r, va_n, w_get, gf_x0, gf_g5, gf_p5, ia_g5, ia_p5, pz_g5, pz_p5, gl_1, t_19_2, rc_1, t_10, gl_2, gf_g4, gf_p4, ia_g4, ia_p4, pz_g4, pz_p4, w_c0, t_1, t_0, t_24_0, t_24_1, z10, z01, z_bT, z_bF, true_or, or_true, false_or, or_false, Option.bind_some, Option.toList_some, Option.toList_none, List.cons_append, List.nil_append, List.length_cons, List.length_nil, Nat.zero_add, Nat.reduceAdd, Nat.reduceLeDiff, and_self, and_true, true_and, if_true, if_false, reduceCtorEq, ne_eq, not_false_eq_true, not_true_eq_false, ↓reduceIte, Nat.reduceEqDiff, Bool.not_not, x_at, ob_s, hk, h0, h00, hc, hd, z_b_t h2]
theorem x_wouldLeave (S : ai_S) (gr : Int32) (vl : Int32) (sg : Int32) (cs : Int32) (pr : Nat → Int32) (ha : Nat → Int32) (la : Nat → Int32) (wa : Nat → Int32) (p : sv_G) (sw : Bool) (t : sv_T) (m : sv_M) (pa : sv_P) (im : Nat → sv_M) (kp : Int32) (he : sv_H) (wl : Nat → Int32) (fe : Nat → Int32) (as : Int64) (D : sv_D) (k : Nat) (b : Int32) (hk : k < 6) : ai_call S 45 [.ref 1, .int (nI k), .int b] (HP ((gr, vl, sg, cs, pr, ha, la, wa), p, sw, t, m, pa, im, kp, he, wl, fe, as) D) = some (some (.int (z_b (pr k + 10 < b))), HP ((gr, vl, sg, cs, pr, ha, la, wa), p, sw, t, m, pa, im, kp, he, wl, fe, as) D) := by
  rw [e_45]
  have h0 : sq sw + 1 ≠ 0 := Nat.succ_ne_zero _
  by_cases hc : b ≤ pr k + 10
  · have h2 : ¬ (pr k + 10 < b) := Int32.not_lt.mpr hc
    simp only [k_45_0, k_45_1, k_45_2, k_45_3, k_45_4, w_l3, gl_2, vi_i, w_l5, gl_0, va_r, va_n, w_get, gf_x0, gf_g4, gf_p4, ia_g4, ia_p4, pz_g4, pz_p4, gl_1, t_19_2, rc_1, w_c1, w_b10, t_13, w_c0, t_1, t_0, t_24_0, t_24_1, z10, z01, z_bT, z_bF, true_or, or_true, false_or, or_false, Option.bind_some, Option.toList_some, Option.toList_none, List.cons_append, List.nil_append, List.length_cons, List.length_nil, Nat.zero_add, Nat.reduceAdd, Nat.reduceLeDiff, and_self, and_true, true_and, if_true, if_false, reduceCtorEq, ne_eq, not_false_eq_true, not_true_eq_false, ↓reduceIte, Nat.reduceEqDiff, Bool.not_not, x_at, ob_s, hk, h0, hc, z_b_f h2]
  · have h2 : (pr k + 10 < b) := Int32.not_le.mp hc
    simp only [k_45_0, k_45_1, k_45_2, k_45_3, k_45_4, w_l3, gl_2, vi_i, w_l5, gl_0, va_r, va_n, w_get, gf_x0, gf_g4, gf_p4, ia_g4, ia_p4, pz_g4, pz_p4, gl_1, t_19_2, rc_1, w_c1, w_b10, t_13, w_c0, t_1, t_0, t_24_0, t_24_1, z10, z01, z_bT, z_bF, true_or, or_true, false_or, or_false, Option.bind_some, Option.toList_some, Option.toList_none, List.cons_append, List.nil_append, List.length_cons, List.length_nil, Nat.zero_add, Nat.reduceAdd, Nat.reduceLeDiff, and_self, and_true, true_and, if_true, if_false, reduceCtorEq, ne_eq, not_false_eq_true, not_true_eq_false, ↓reduceIte, Nat.reduceEqDiff, Bool.not_not, x_at, ob_s, hk, h0, hc, z_b_t h2]
