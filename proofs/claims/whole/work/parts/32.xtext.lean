/-! the class: the Text's small methods -/
theorem x_isDigit (S : ai_S) (c : Int32) (h : ai_H) : ai_call S 23 [.int c] h = some (some (.int (z_b (¬ c < 48 ∧ ¬ 57 < c))), h) := by
  rw [e_23]
  by_cases hc : c < 48
  · have h2 : ¬ (¬ c < 48 ∧ ¬ 57 < c) := fun z => z.1 hc
    rw [z_b_f h2]
    simp only [k_23_0, k_23_1, k_23_2, k_23_3, k_23_4, w_l3, gl_0, vi_i, w_c1, t_10, t_12, w_c0, t_1, t_0, t_24_0, t_24_1, z10, z01, z_bT, z_bF, true_or, or_true, false_or, or_false, Option.bind_some, Option.toList_some, Option.toList_none, List.cons_append, List.nil_append, List.length_cons, List.length_nil, Nat.zero_add, Nat.reduceAdd, Nat.reduceLeDiff, and_self, and_true, true_and, if_true, if_false, reduceCtorEq, ne_eq, not_false_eq_true, not_true_eq_false, ↓reduceIte, Nat.reduceEqDiff, Bool.not_not, hc]
  · by_cases hd : 57 < c
    · have h2 : ¬ (¬ c < 48 ∧ ¬ 57 < c) := fun z => z.2 hd
      simp only [k_23_0, k_23_1, k_23_2, k_23_3, k_23_4, w_l3, gl_0, vi_i, w_c1, t_10, t_12, w_c0, t_1, t_0, t_24_0, t_24_1, z10, z01, z_bT, z_bF, true_or, or_true, false_or, or_false, Option.bind_some, Option.toList_some, Option.toList_none, List.cons_append, List.nil_append, List.length_cons, List.length_nil, Nat.zero_add, Nat.reduceAdd, Nat.reduceLeDiff, and_self, and_true, true_and, if_true, if_false, reduceCtorEq, ne_eq, not_false_eq_true, not_true_eq_false, ↓reduceIte, Nat.reduceEqDiff, Bool.not_not, hc, hd, z_b_f h2]
    · simp only [k_23_0, k_23_1, k_23_2, k_23_3, k_23_4, w_l3, gl_0, vi_i, w_c1, t_10, t_12, w_c0, t_1, t_0, t_24_0, t_24_1, z10, z01, z_bT, z_bF, true_or, or_true, false_or, or_false, Option.bind_some, Option.toList_some, Option.toList_none, List.cons_append, List.nil_append, List.length_cons, List.length_nil, Nat.zero_add, Nat.reduceAdd, Nat.reduceLeDiff, and_self, and_true, true_and, if_true, if_false, reduceCtorEq, ne_eq, not_false_eq_true, not_true_eq_false, ↓reduceIte, Nat.reduceEqDiff, Bool.not_not, hc, hd, z_b_t]
theorem x_tbegin (S : ai_S) (g : sv_G) (p : sv_G) (sw : Bool) (le : Nat → Int32) (ln : Int32) (pc : Int32) (tk : Int32) (tp : Int32) (nu : Int32) (it : Int32) (ns : Int32) (gt : Int32) (vt : Int32) (st : Int32) (m : sv_M) (pa : sv_P) (im : Nat → sv_M) (kp : Int32) (he : sv_H) (wl : Nat → Int32) (fe : Nat → Int32) (as : Int64) (D : sv_D) : ai_call S 15 [.ref 12] (HP (g, p, sw, (le, ln, pc, tk, tp, nu, it, ns, gt, vt, st), m, pa, im, kp, he, wl, fe, as) D) = some (none, HP (g, p, sw, (le, ln, 0, tk, tp, nu, 0, ns, 0, 0, 0), m, pa, im, kp, he, wl, fe, as) D) := by
  rw [e_15]
  simp only [k_15_0, w_l5, gl_0, va_r, va_n, w_c0, w_putI, pf_t2, pf_t6, w_putZ0, w_putZ1, pf_t8, pf_t9, pf_t10, t_27, z10, z01, z_bT, z_bF, true_or, or_true, false_or, or_false, Option.bind_some, Option.toList_some, Option.toList_none, List.cons_append, List.nil_append, List.length_cons, List.length_nil, Nat.zero_add, Nat.reduceAdd, Nat.reduceLeDiff, and_self, and_true, true_and, if_true, if_false, reduceCtorEq, ne_eq, not_false_eq_true, not_true_eq_false, ↓reduceIte, Nat.reduceEqDiff, Bool.not_not]
theorem x_least (S : ai_S) (g : sv_G) (p : sv_G) (sw : Bool) (le : Nat → Int32) (ln : Int32) (pc : Int32) (tk : Int32) (tp : Int32) (nu : Int32) (it : Int32) (ns : Int32) (gt : Int32) (vt : Int32) (st : Int32) (m : sv_M) (pa : sv_P) (im : Nat → sv_M) (kp : Int32) (he : sv_H) (wl : Nat → Int32) (fe : Nat → Int32) (as : Int64) (D : sv_D) : ai_call S 19 [.ref 12] (HP (g, p, sw, (le, ln, pc, tk, tp, nu, it, ns, gt, vt, st), m, pa, im, kp, he, wl, fe, as) D) = some (some (.int (z_b (it = 99 ∧ ns = 0 ∨ it = 115))), HP (g, p, sw, (le, ln, pc, tk, tp, nu, it, ns, gt, vt, st), m, pa, im, kp, he, wl, fe, as) D) := by
  rw [e_19]
  by_cases hc : it = 99
  · by_cases hd : ns = 0
    · have h2 : it = 99 ∧ ns = 0 ∨ it = 115 := Or.inl ⟨hc, hd⟩
      simp only [k_19_0, k_19_1, k_19_2, k_19_3, k_19_4, k_19_5, k_19_6, k_19_7, k_19_8, w_l5, gl_0, va_r, va_n, w_get, gf_t6, w_c1, t_9, gf_t7, t_3, w_c0, t_1, t_0, w_s6, sl_1, ll_1, w_l3, gl_1, vi_i, t_23, z10, z01, z_bT, z_bF, true_or, or_true, false_or, or_false, Option.bind_some, Option.toList_some, Option.toList_none, List.cons_append, List.nil_append, List.length_cons, List.length_nil, Nat.zero_add, Nat.reduceAdd, Nat.reduceLeDiff, and_self, and_true, true_and, if_true, if_false, reduceCtorEq, ne_eq, not_false_eq_true, not_true_eq_false, ↓reduceIte, Nat.reduceEqDiff, Bool.not_not, eq_true hc, eq_true hd, z_b_t h2]
    · have h3 : ¬ it = 115 := by
        rw [hc]
        decide
      have h2 : ¬ (it = 99 ∧ ns = 0 ∨ it = 115) := fun z => z.elim (fun y => hd y.2) h3
      simp only [k_19_0, k_19_1, k_19_2, k_19_3, k_19_4, k_19_5, k_19_6, k_19_7, k_19_8, w_l5, gl_0, va_r, va_n, w_get, gf_t6, w_c1, t_9, gf_t7, t_3, w_c0, t_1, t_0, w_s6, sl_1, ll_1, w_l3, gl_1, vi_i, t_23, z10, z01, z_bT, z_bF, true_or, or_true, false_or, or_false, Option.bind_some, Option.toList_some, Option.toList_none, List.cons_append, List.nil_append, List.length_cons, List.length_nil, Nat.zero_add, Nat.reduceAdd, Nat.reduceLeDiff, and_self, and_true, true_and, if_true, if_false, reduceCtorEq, ne_eq, not_false_eq_true, not_true_eq_false, ↓reduceIte, Nat.reduceEqDiff, Bool.not_not, eq_true hc, hd, h3, z_b_f h2]
  · by_cases h3 : it = 115
    · have h2 : it = 99 ∧ ns = 0 ∨ it = 115 := Or.inr h3
      simp only [k_19_0, k_19_1, k_19_2, k_19_3, k_19_4, k_19_5, k_19_6, k_19_7, k_19_8, w_l5, gl_0, va_r, va_n, w_get, gf_t6, w_c1, t_9, gf_t7, t_3, w_c0, t_1, t_0, w_s6, sl_1, ll_1, w_l3, gl_1, vi_i, t_23, z10, z01, z_bT, z_bF, true_or, or_true, false_or, or_false, Option.bind_some, Option.toList_some, Option.toList_none, List.cons_append, List.nil_append, List.length_cons, List.length_nil, Nat.zero_add, Nat.reduceAdd, Nat.reduceLeDiff, and_self, and_true, true_and, if_true, if_false, reduceCtorEq, ne_eq, not_false_eq_true, not_true_eq_false, ↓reduceIte, Nat.reduceEqDiff, Bool.not_not, hc, eq_true h3, z_b_t h2]
    · have h2 : ¬ (it = 99 ∧ ns = 0 ∨ it = 115) := fun z => z.elim (fun y => hc y.1) h3
      rw [z_b_f h2]
      simp only [k_19_0, k_19_1, k_19_2, k_19_3, k_19_4, k_19_5, k_19_6, k_19_7, k_19_8, w_l5, gl_0, va_r, va_n, w_get, gf_t6, w_c1, t_9, gf_t7, t_3, w_c0, t_1, t_0, w_s6, sl_1, ll_1, w_l3, gl_1, vi_i, t_23, z10, z01, z_bT, z_bF, true_or, or_true, false_or, or_false, Option.bind_some, Option.toList_some, Option.toList_none, List.cons_append, List.nil_append, List.length_cons, List.length_nil, Nat.zero_add, Nat.reduceAdd, Nat.reduceLeDiff, and_self, and_true, true_and, if_true, if_false, reduceCtorEq, ne_eq, not_false_eq_true, not_true_eq_false, ↓reduceIte, Nat.reduceEqDiff, Bool.not_not, hc, h3]
theorem x_mbegin (S : ai_S) (g : sv_G) (p : sv_G) (sw : Bool) (t : sv_T) (br : Nat → Int32) (wm : Nat → Int32) (yi : Int32) (lf : Int32) (sh : Int32) (hu : Int32) (ve : Int32) (so : Int32) (pa : sv_P) (im : Nat → sv_M) (kp : Int32) (he : sv_H) (wl : Nat → Int32) (fe : Nat → Int32) (as : Int64) (D : sv_D) (v : Int32) : ∃ br' wm', (∀ k, k < 6 → br' k = 0 ∧ wm' k = 0) ∧ ai_call S 3 [.ref 14, .int v] (HP (g, p, sw, t, (br, wm, yi, lf, sh, hu, ve, so), pa, im, kp, he, wl, fe, as) D) = some (none, HP (g, p, sw, t, (br', wm', 0, 0, 0, 0, v, (-9)), pa, im, kp, he, wl, fe, as) D) := by
  rw [e_3]
  have key : ∀ j k br wm, k + j = 6 → (∀ i, i < k → br i = 0 ∧ wm i = 0) → ∃ br' wm', (∀ k, k < 6 → br' k = 0 ∧ wm' k = 0) ∧ ai_res S 3 1 [.ref 14, .int v, .int (nI k)] [] (HP (g, p, sw, t, (br, wm, yi, lf, sh, hu, ve, so), pa, im, kp, he, wl, fe, as) D) = some (none, HP (g, p, sw, t, (br', wm', 0, 0, 0, 0, v, (-9)), pa, im, kp, he, wl, fe, as) D) := by
    intro j
    induction j with
    | zero =>
      intro k br wm hk hi
      have e1 : k = 6 := by omega
      subst e1
      refine ⟨br, wm, hi, ?_⟩
      have hge : (6 : Int32) ≤ nI 6 := Int32.le_refl _
      rw [k_3_1]
      simp only [k_3_0, k_3_2, k_3_3, k_3_4, k_3_5, w_c0, w_s6, sl_2, ll_2, t_0, w_l3, gl_2, vi_i, w_c1, t_11, w_l5, gl_0, va_r, va_n, w_get, gf_m0, ia_m0, pz_m0, t_21_3, rc_4, gf_m1, ia_m1, pz_m1, w_inc, t_1, w_putI, pf_m2, pf_m3, pf_m4, pf_m5, gl_1, pf_m6, pf_m7, t_27, z10, z01, z_bT, z_bF, true_or, or_true, false_or, or_false, Option.bind_some, Option.toList_some, Option.toList_none, List.cons_append, List.nil_append, List.length_cons, List.length_nil, Nat.zero_add, Nat.reduceAdd, Nat.reduceLeDiff, and_self, and_true, true_and, if_true, if_false, reduceCtorEq, ne_eq, not_false_eq_true, not_true_eq_false, ↓reduceIte, Nat.reduceEqDiff, Bool.not_not, hge]
    | succ j ih =>
      intro k br wm hk hi
      have hlt : ¬ (6 : Int32) ≤ nI k := nI_ge (b := 6) (by omega) (by omega)
      have hk6 : k < 6 := by omega
      obtain ⟨b2, w2, h1, h2⟩ := ih (k + 1) (upd br k 0) (upd wm k 0) (by omega) (by
        intro i hik
        by_cases he : i = k
        · simp [upd, he]
        · have := hi i (by omega)
          simp [upd, he, this])
      refine ⟨b2, w2, h1, ?_⟩
      rw [k_3_1]
      simp only [k_3_0, k_3_2, k_3_3, k_3_4, k_3_5, w_c0, w_s6, sl_2, ll_2, t_0, w_l3, gl_2, vi_i, w_c1, t_11, w_l5, gl_0, va_r, va_n, w_get, gf_m0, ia_m0, pz_m0, t_21_3, rc_4, gf_m1, ia_m1, pz_m1, w_inc, t_1, w_putI, pf_m2, pf_m3, pf_m4, pf_m5, gl_1, pf_m6, pf_m7, t_27, z10, z01, z_bT, z_bF, true_or, or_true, false_or, or_false, Option.bind_some, Option.toList_some, Option.toList_none, List.cons_append, List.nil_append, List.length_cons, List.length_nil, Nat.zero_add, Nat.reduceAdd, Nat.reduceLeDiff, and_self, and_true, true_and, if_true, if_false, reduceCtorEq, ne_eq, not_false_eq_true, not_true_eq_false, ↓reduceIte, Nat.reduceEqDiff, Bool.not_not, hlt, x_put, ob_s, hk6, nI_1]
      exact h2
  obtain ⟨b2, w2, h1, h2⟩ := key 6 0 br wm (by omega) (fun i hi => absurd hi (Nat.not_lt_zero _))
  refine ⟨b2, w2, h1, ?_⟩
  simp only [k_3_0, w_c0, w_s6, sl_2, ll_2, t_0, z10, z01, z_bT, z_bF, true_or, or_true, false_or, or_false, Option.bind_some, Option.toList_some, Option.toList_none, List.cons_append, List.nil_append, List.length_cons, List.length_nil, Nat.zero_add, Nat.reduceAdd, Nat.reduceLeDiff, and_self, and_true, true_and, if_true, if_false, reduceCtorEq, ne_eq, not_false_eq_true, not_true_eq_false, ↓reduceIte, Nat.reduceEqDiff, Bool.not_not]
  exact h2
def z_most (it ns : Int32) : Int32 := if it = 99 then (if ns = 0 then 30 else if ns = 1 then 30 else if ns = 2 then 9 else 5) else if it = 115 then 60 else 9
theorem x_most (S : ai_S) (g : sv_G) (p : sv_G) (sw : Bool) (le : Nat → Int32) (ln : Int32) (pc : Int32) (tk : Int32) (tp : Int32) (nu : Int32) (it : Int32) (ns : Int32) (gt : Int32) (vt : Int32) (st : Int32) (m : sv_M) (pa : sv_P) (im : Nat → sv_M) (kp : Int32) (he : sv_H) (wl : Nat → Int32) (fe : Nat → Int32) (as : Int64) (D : sv_D) : ai_call S 20 [.ref 12] (HP (g, p, sw, (le, ln, pc, tk, tp, nu, it, ns, gt, vt, st), m, pa, im, kp, he, wl, fe, as) D) = some (some (.int (z_most it ns)), HP (g, p, sw, (le, ln, pc, tk, tp, nu, it, ns, gt, vt, st), m, pa, im, kp, he, wl, fe, as) D) := by
  rw [e_20]
  unfold z_most
  by_cases hc : it = 99
  · rw [if_pos hc]
    by_cases h0 : ns = 0
    · rw [if_pos h0]
      simp only [k_20_0, k_20_1, k_20_2, k_20_3, k_20_4, k_20_5, k_20_6, k_20_7, k_20_8, k_20_9, w_l5, gl_0, va_r, va_n, w_get, gf_t6, w_c1, t_8, t_9, t_1, t_0, t_23, gf_t7, t_16, sw_n, sw_c, w_c0, z10, z01, z_bT, z_bF, true_or, or_true, false_or, or_false, Option.bind_some, Option.toList_some, Option.toList_none, List.cons_append, List.nil_append, List.length_cons, List.length_nil, Nat.zero_add, Nat.reduceAdd, Nat.reduceLeDiff, and_self, and_true, true_and, if_true, if_false, reduceCtorEq, ne_eq, not_false_eq_true, not_true_eq_false, ↓reduceIte, Nat.reduceEqDiff, Bool.not_not, eq_true hc, eq_true h0]
    rw [if_neg h0]
    by_cases h1 : ns = 1
    · rw [if_pos h1]
      simp only [k_20_0, k_20_1, k_20_2, k_20_3, k_20_4, k_20_5, k_20_6, k_20_7, k_20_8, k_20_9, w_l5, gl_0, va_r, va_n, w_get, gf_t6, w_c1, t_8, t_9, t_1, t_0, t_23, gf_t7, t_16, sw_n, sw_c, w_c0, z10, z01, z_bT, z_bF, true_or, or_true, false_or, or_false, Option.bind_some, Option.toList_some, Option.toList_none, List.cons_append, List.nil_append, List.length_cons, List.length_nil, Nat.zero_add, Nat.reduceAdd, Nat.reduceLeDiff, and_self, and_true, true_and, if_true, if_false, reduceCtorEq, ne_eq, not_false_eq_true, not_true_eq_false, ↓reduceIte, Nat.reduceEqDiff, Bool.not_not, eq_true hc, h0, eq_true h1]
    rw [if_neg h1]
    by_cases h2 : ns = 2
    · rw [if_pos h2]
      simp only [k_20_0, k_20_1, k_20_2, k_20_3, k_20_4, k_20_5, k_20_6, k_20_7, k_20_8, k_20_9, w_l5, gl_0, va_r, va_n, w_get, gf_t6, w_c1, t_8, t_9, t_1, t_0, t_23, gf_t7, t_16, sw_n, sw_c, w_c0, z10, z01, z_bT, z_bF, true_or, or_true, false_or, or_false, Option.bind_some, Option.toList_some, Option.toList_none, List.cons_append, List.nil_append, List.length_cons, List.length_nil, Nat.zero_add, Nat.reduceAdd, Nat.reduceLeDiff, and_self, and_true, true_and, if_true, if_false, reduceCtorEq, ne_eq, not_false_eq_true, not_true_eq_false, ↓reduceIte, Nat.reduceEqDiff, Bool.not_not, eq_true hc, h0, h1, eq_true h2]
    rw [if_neg h2]
    simp only [k_20_0, k_20_1, k_20_2, k_20_3, k_20_4, k_20_5, k_20_6, k_20_7, k_20_8, k_20_9, w_l5, gl_0, va_r, va_n, w_get, gf_t6, w_c1, t_8, t_9, t_1, t_0, t_23, gf_t7, t_16, sw_n, sw_c, w_c0, z10, z01, z_bT, z_bF, true_or, or_true, false_or, or_false, Option.bind_some, Option.toList_some, Option.toList_none, List.cons_append, List.nil_append, List.length_cons, List.length_nil, Nat.zero_add, Nat.reduceAdd, Nat.reduceLeDiff, and_self, and_true, true_and, if_true, if_false, reduceCtorEq, ne_eq, not_false_eq_true, not_true_eq_false, ↓reduceIte, Nat.reduceEqDiff, Bool.not_not, eq_true hc, h0, h1, h2]
  · rw [if_neg hc]
    by_cases h3 : it = 115
    · rw [if_pos h3]
      simp only [k_20_0, k_20_1, k_20_2, k_20_3, k_20_4, k_20_5, k_20_6, k_20_7, k_20_8, k_20_9, w_l5, gl_0, va_r, va_n, w_get, gf_t6, w_c1, t_8, t_9, t_1, t_0, t_23, gf_t7, t_16, sw_n, sw_c, w_c0, z10, z01, z_bT, z_bF, true_or, or_true, false_or, or_false, Option.bind_some, Option.toList_some, Option.toList_none, List.cons_append, List.nil_append, List.length_cons, List.length_nil, Nat.zero_add, Nat.reduceAdd, Nat.reduceLeDiff, and_self, and_true, true_and, if_true, if_false, reduceCtorEq, ne_eq, not_false_eq_true, not_true_eq_false, ↓reduceIte, Nat.reduceEqDiff, Bool.not_not, hc, eq_true h3]
    · rw [if_neg h3]
      simp only [k_20_0, k_20_1, k_20_2, k_20_3, k_20_4, k_20_5, k_20_6, k_20_7, k_20_8, k_20_9, w_l5, gl_0, va_r, va_n, w_get, gf_t6, w_c1, t_8, t_9, t_1, t_0, t_23, gf_t7, t_16, sw_n, sw_c, w_c0, z10, z01, z_bT, z_bF, true_or, or_true, false_or, or_false, Option.bind_some, Option.toList_some, Option.toList_none, List.cons_append, List.nil_append, List.length_cons, List.length_nil, Nat.zero_add, Nat.reduceAdd, Nat.reduceLeDiff, and_self, and_true, true_and, if_true, if_false, reduceCtorEq, ne_eq, not_false_eq_true, not_true_eq_false, ↓reduceIte, Nat.reduceEqDiff, Bool.not_not, hc, h3]
theorem x_sbegin (S : ai_S) (g : sv_G) (gr : Int32) (vl : Int32) (sg : Int32) (cs : Int32) (pr : Nat → Int32) (ha : Nat → Int32) (la : Nat → Int32) (wa : Nat → Int32) (sw : Bool) (t : sv_T) (m : sv_M) (pa : sv_P) (im : Nat → sv_M) (kp : Int32) (he : sv_H) (wl : Nat → Int32) (fe : Nat → Int32) (as : Int64) (D : sv_D) : ai_call S 9 [.ref (sq (!sw))] (HP (g, (gr, vl, sg, cs, pr, ha, la, wa), sw, t, m, pa, im, kp, he, wl, fe, as) D) = some (none, HP (g, (4, 3, 20, 0, pr, ha, la, wa), sw, t, m, pa, im, kp, he, wl, fe, as) D) := by
  rw [e_9]
  simp only [k_9_0, w_l5, gl_0, va_r, va_n, w_c0, w_putI, pf_g0, pf_p0, pf_g1, pf_p1, w_c1, pf_g2, pf_p2, pf_g3, pf_p3, t_27, z10, z01, z_bT, z_bF, true_or, or_true, false_or, or_false, Option.bind_some, Option.toList_some, Option.toList_none, List.cons_append, List.nil_append, List.length_cons, List.length_nil, Nat.zero_add, Nat.reduceAdd, Nat.reduceLeDiff, and_self, and_true, true_and, if_true, if_false, reduceCtorEq, ne_eq, not_false_eq_true, not_true_eq_false, ↓reduceIte, Nat.reduceEqDiff, Bool.not_not]
theorem nI_sub1 (n : Nat) : nI (n + 1) - 1 = nI n := by
  rw [← nI_1]
  exact Int32.add_sub_cancel _ _
theorem x_tellCaller (S : ai_S) (g : sv_G) (gr : Int32) (vl : Int32) (sg : Int32) (pr : Nat → Int32) (ha : Nat → Int32) (la : Nat → Int32) (wa : Nat → Int32) (sw : Bool) (t : sv_T) (m : sv_M) (pa : sv_P) (im : Nat → sv_M) (kp : Int32) (he : sv_H) (wl : Nat → Int32) (fe : Nat → Int32) (as : Int64) (D : sv_D) (c : Nat) (hc : c < 6) (k v : Int32) : ai_call S 10 [.ref (sq (!sw)), .int k, .int v] (HP (g, (gr, vl, sg, nI (c + 1), pr, ha, la, wa), sw, t, m, pa, im, kp, he, wl, fe, as) D) = some (none, if k = 0 then HP (g, (gr, vl, sg, nI (c + 1), upd pr c v, ha, la, wa), sw, t, m, pa, im, kp, he, wl, fe, as) D else if k = 1 then HP (g, (gr, vl, sg, nI (c + 1), pr, upd ha c v, la, wa), sw, t, m, pa, im, kp, he, wl, fe, as) D else if k = 2 then HP (g, (gr, vl, sg, nI (c + 1), pr, ha, upd la c v, wa), sw, t, m, pa, im, kp, he, wl, fe, as) D else HP (g, (gr, vl, sg, nI (c + 1), pr, ha, la, upd wa c v), sw, t, m, pa, im, kp, he, wl, fe, as) D) := by
  rw [e_10]
  have q1 : sq (!sw) + 1 ≠ 0 := Nat.succ_ne_zero _
  have q2 : sq (!sw) + 2 ≠ 0 := Nat.succ_ne_zero _
  have q3 : sq (!sw) + 3 ≠ 0 := Nat.succ_ne_zero _
  have q4 : sq (!sw) + 4 ≠ 0 := Nat.succ_ne_zero _
  by_cases h0 : k = 0
  · rw [if_pos h0]
    simp only [k_10_0, k_10_1, k_10_2, k_10_3, k_10_4, k_10_5, k_10_6, k_10_7, k_10_8, w_l3, gl_1, vi_i, t_16, sw_n, sw_c, w_l5, gl_0, va_r, va_n, w_get, gf_g4, gf_p4, ia_g4, ia_p4, pz_g4, pz_p4, gf_g3, gf_p3, w_c0, w_b11, gl_2, t_21_3, rc_4, t_1, gf_g5, gf_p5, ia_g5, ia_p5, pz_g5, pz_p5, gf_g6, gf_p6, ia_g6, ia_p6, pz_g6, pz_p6, gf_g7, gf_p7, ia_g7, ia_p7, pz_g7, pz_p7, t_27, z10, z01, z_bT, z_bF, true_or, or_true, false_or, or_false, Option.bind_some, Option.toList_some, Option.toList_none, List.cons_append, List.nil_append, List.length_cons, List.length_nil, Nat.zero_add, Nat.reduceAdd, Nat.reduceLeDiff, and_self, and_true, true_and, if_true, if_false, reduceCtorEq, ne_eq, not_false_eq_true, not_true_eq_false, ↓reduceIte, Nat.reduceEqDiff, Bool.not_not, eq_true h0, nI_sub1, x_put, ob_s, hc, q1, q2, q3, q4]
  rw [if_neg h0]
  by_cases h1 : k = 1
  · rw [if_pos h1]
    simp only [k_10_0, k_10_1, k_10_2, k_10_3, k_10_4, k_10_5, k_10_6, k_10_7, k_10_8, w_l3, gl_1, vi_i, t_16, sw_n, sw_c, w_l5, gl_0, va_r, va_n, w_get, gf_g4, gf_p4, ia_g4, ia_p4, pz_g4, pz_p4, gf_g3, gf_p3, w_c0, w_b11, gl_2, t_21_3, rc_4, t_1, gf_g5, gf_p5, ia_g5, ia_p5, pz_g5, pz_p5, gf_g6, gf_p6, ia_g6, ia_p6, pz_g6, pz_p6, gf_g7, gf_p7, ia_g7, ia_p7, pz_g7, pz_p7, t_27, z10, z01, z_bT, z_bF, true_or, or_true, false_or, or_false, Option.bind_some, Option.toList_some, Option.toList_none, List.cons_append, List.nil_append, List.length_cons, List.length_nil, Nat.zero_add, Nat.reduceAdd, Nat.reduceLeDiff, and_self, and_true, true_and, if_true, if_false, reduceCtorEq, ne_eq, not_false_eq_true, not_true_eq_false, ↓reduceIte, Nat.reduceEqDiff, Bool.not_not, h0, eq_true h1, nI_sub1, x_put, ob_s, hc, q1, q2, q3, q4]
  rw [if_neg h1]
  by_cases h2 : k = 2
  · rw [if_pos h2]
    simp only [k_10_0, k_10_1, k_10_2, k_10_3, k_10_4, k_10_5, k_10_6, k_10_7, k_10_8, w_l3, gl_1, vi_i, t_16, sw_n, sw_c, w_l5, gl_0, va_r, va_n, w_get, gf_g4, gf_p4, ia_g4, ia_p4, pz_g4, pz_p4, gf_g3, gf_p3, w_c0, w_b11, gl_2, t_21_3, rc_4, t_1, gf_g5, gf_p5, ia_g5, ia_p5, pz_g5, pz_p5, gf_g6, gf_p6, ia_g6, ia_p6, pz_g6, pz_p6, gf_g7, gf_p7, ia_g7, ia_p7, pz_g7, pz_p7, t_27, z10, z01, z_bT, z_bF, true_or, or_true, false_or, or_false, Option.bind_some, Option.toList_some, Option.toList_none, List.cons_append, List.nil_append, List.length_cons, List.length_nil, Nat.zero_add, Nat.reduceAdd, Nat.reduceLeDiff, and_self, and_true, true_and, if_true, if_false, reduceCtorEq, ne_eq, not_false_eq_true, not_true_eq_false, ↓reduceIte, Nat.reduceEqDiff, Bool.not_not, h0, h1, eq_true h2, nI_sub1, x_put, ob_s, hc, q1, q2, q3, q4]
  rw [if_neg h2]
  simp only [k_10_0, k_10_1, k_10_2, k_10_3, k_10_4, k_10_5, k_10_6, k_10_7, k_10_8, w_l3, gl_1, vi_i, t_16, sw_n, sw_c, w_l5, gl_0, va_r, va_n, w_get, gf_g4, gf_p4, ia_g4, ia_p4, pz_g4, pz_p4, gf_g3, gf_p3, w_c0, w_b11, gl_2, t_21_3, rc_4, t_1, gf_g5, gf_p5, ia_g5, ia_p5, pz_g5, pz_p5, gf_g6, gf_p6, ia_g6, ia_p6, pz_g6, pz_p6, gf_g7, gf_p7, ia_g7, ia_p7, pz_g7, pz_p7, t_27, z10, z01, z_bT, z_bF, true_or, or_true, false_or, or_false, Option.bind_some, Option.toList_some, Option.toList_none, List.cons_append, List.nil_append, List.length_cons, List.length_nil, Nat.zero_add, Nat.reduceAdd, Nat.reduceLeDiff, and_self, and_true, true_and, if_true, if_false, reduceCtorEq, ne_eq, not_false_eq_true, not_true_eq_false, ↓reduceIte, Nat.reduceEqDiff, Bool.not_not, h0, h1, h2, nI_sub1, x_put, ob_s, hc, q1, q2, q3, q4]
