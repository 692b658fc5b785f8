/-! the class: the Text's readNumber -/
abbrev z_dig (c : Int32) : Prop := ¬ c < 48 ∧ ¬ 57 < c
def z_c10 (v c : Int32) : Int32 := if 10 * v + c - 48 < 100 then 10 * v + c - 48 else 100
def z_rn (le : Nat → Int32) : Nat → Nat → Int32 → Nat × Int32
  | 0, k, v => (k, v)
  | j + 1, k, v => if z_dig (le k) then z_rn le j (k + 1) (z_c10 v (le k)) else (k, v)
def z_rt (le : Nat → Int32) (tp : Int32) (k : Nat) (r : Nat × Int32) : Int32 := if 99 < r.2 then 258 else if le k = 48 ∧ 1 < nI r.1 - tp then 258 else 257
theorem x_readNumber (S : ai_S) (g : sv_G) (p : sv_G) (sw : Bool) (le : Nat → Int32) (tk : Int32) (tp : Int32) (nu : Int32) (it : Int32) (ns : Int32) (gt : Int32) (vt : Int32) (st : Int32) (m : sv_M) (pa : sv_P) (im : Nat → sv_M) (kp : Int32) (he : sv_H) (wl : Nat → Int32) (fe : Nat → Int32) (as : Int64) (D : sv_D) (n k : Nat) (hn : n ≤ 120) (hk : k < n) : ai_call S 22 [.ref 12] (HP (g, p, sw, (le, nI n, nI k, tk, tp, nu, it, ns, gt, vt, st), m, pa, im, kp, he, wl, fe, as) D) = some (none, HP (g, p, sw, (le, nI n, nI (z_rn le (n - k) k 0).1, z_rt le tp k (z_rn le (n - k) k 0), tp, (z_rn le (n - k) k 0).2, it, ns, gt, vt, st), m, pa, im, kp, he, wl, fe, as) D) := by
  rw [e_22]
  have fin : ∀ i nu z, ai_res S 22 11 [.ref 12, .int (z_b (le k = 48)), z] [] (HP (g, p, sw, (le, nI n, nI i, tk, tp, nu, it, ns, gt, vt, st), m, pa, im, kp, he, wl, fe, as) D) = some (none, HP (g, p, sw, (le, nI n, nI i, z_rt le tp k (i, nu), tp, nu, it, ns, gt, vt, st), m, pa, im, kp, he, wl, fe, as) D) := by
    intro i nu z
    unfold z_rt
    by_cases h1 : 99 < nu
    · rw [if_pos h1]
      by_cases h2 : nI i - tp ≤ 1
      · simp only [k_22_11, k_22_12, k_22_13, k_22_14, k_22_17, k_22_19, w_l5, gl_0, va_r, va_n, w_get, gf_t2, gf_t4, w_b11, w_c0, t_13, t_1, t_0, w_s6, sl_2, ll_2, gf_t5, w_c1, t_12, w_c2, w_putI, pf_t3, t_27, z10, z01, z_bT, z_bF, true_or, or_true, false_or, or_false, Option.bind_some, Option.toList_some, Option.toList_none, List.cons_append, List.nil_append, List.length_cons, List.length_nil, Nat.zero_add, Nat.reduceAdd, Nat.reduceLeDiff, and_self, and_true, true_and, if_true, if_false, reduceCtorEq, ne_eq, not_false_eq_true, not_true_eq_false, ↓reduceIte, Nat.reduceEqDiff, Bool.not_not, h1, h2]
      · simp only [k_22_11, k_22_12, k_22_13, k_22_14, k_22_17, k_22_19, w_l5, gl_0, va_r, va_n, w_get, gf_t2, gf_t4, w_b11, w_c0, t_13, t_1, t_0, w_s6, sl_2, ll_2, gf_t5, w_c1, t_12, w_c2, w_putI, pf_t3, t_27, z10, z01, z_bT, z_bF, true_or, or_true, false_or, or_false, Option.bind_some, Option.toList_some, Option.toList_none, List.cons_append, List.nil_append, List.length_cons, List.length_nil, Nat.zero_add, Nat.reduceAdd, Nat.reduceLeDiff, and_self, and_true, true_and, if_true, if_false, reduceCtorEq, ne_eq, not_false_eq_true, not_true_eq_false, ↓reduceIte, Nat.reduceEqDiff, Bool.not_not, h1, h2]
    · rw [if_neg h1]
      by_cases h3 : le k = 48
      · by_cases h2 : nI i - tp ≤ 1
        · have h4 : ¬ (le k = 48 ∧ 1 < nI i - tp) := fun z => Int32.not_lt.mpr h2 z.2
          rw [if_neg h4]
          simp only [k_22_11, k_22_12, k_22_13, k_22_14, k_22_15, k_22_16, k_22_17, k_22_18, k_22_19, w_l5, gl_0, va_r, va_n, w_get, gf_t2, gf_t4, w_b11, w_c0, t_13, t_1, t_0, w_s6, sl_2, ll_2, gf_t5, w_c1, t_12, w_l3, gl_1, vi_i, t_2, gl_2, w_c2, w_putI, pf_t3, t_27, z10, z01, z_bT, z_bF, true_or, or_true, false_or, or_false, Option.bind_some, Option.toList_some, Option.toList_none, List.cons_append, List.nil_append, List.length_cons, List.length_nil, Nat.zero_add, Nat.reduceAdd, Nat.reduceLeDiff, and_self, and_true, true_and, if_true, if_false, reduceCtorEq, ne_eq, not_false_eq_true, not_true_eq_false, ↓reduceIte, Nat.reduceEqDiff, Bool.not_not, h1, h2, z_b_t h3]
        · have h4 : le k = 48 ∧ 1 < nI i - tp := ⟨h3, Int32.not_le.mp h2⟩
          rw [if_pos h4]
          simp only [k_22_11, k_22_12, k_22_13, k_22_14, k_22_15, k_22_16, k_22_17, k_22_18, k_22_19, w_l5, gl_0, va_r, va_n, w_get, gf_t2, gf_t4, w_b11, w_c0, t_13, t_1, t_0, w_s6, sl_2, ll_2, gf_t5, w_c1, t_12, w_l3, gl_1, vi_i, t_2, gl_2, w_c2, w_putI, pf_t3, t_27, z10, z01, z_bT, z_bF, true_or, or_true, false_or, or_false, Option.bind_some, Option.toList_some, Option.toList_none, List.cons_append, List.nil_append, List.length_cons, List.length_nil, Nat.zero_add, Nat.reduceAdd, Nat.reduceLeDiff, and_self, and_true, true_and, if_true, if_false, reduceCtorEq, ne_eq, not_false_eq_true, not_true_eq_false, ↓reduceIte, Nat.reduceEqDiff, Bool.not_not, h1, h2, z_b_t h3]
      · have h4 : ¬ (le k = 48 ∧ 1 < nI i - tp) := fun z => h3 z.1
        rw [if_neg h4]
        by_cases h2 : nI i - tp ≤ 1
        · simp only [k_22_11, k_22_12, k_22_13, k_22_14, k_22_15, k_22_16, k_22_17, k_22_18, k_22_19, w_l5, gl_0, va_r, va_n, w_get, gf_t2, gf_t4, w_b11, w_c0, t_13, t_1, t_0, w_s6, sl_2, ll_2, gf_t5, w_c1, t_12, w_l3, gl_1, vi_i, t_2, gl_2, w_c2, w_putI, pf_t3, t_27, z10, z01, z_bT, z_bF, true_or, or_true, false_or, or_false, Option.bind_some, Option.toList_some, Option.toList_none, List.cons_append, List.nil_append, List.length_cons, List.length_nil, Nat.zero_add, Nat.reduceAdd, Nat.reduceLeDiff, and_self, and_true, true_and, if_true, if_false, reduceCtorEq, ne_eq, not_false_eq_true, not_true_eq_false, ↓reduceIte, Nat.reduceEqDiff, Bool.not_not, h1, h2, z_b_f h3]
        · simp only [k_22_11, k_22_12, k_22_13, k_22_14, k_22_15, k_22_16, k_22_17, k_22_18, k_22_19, w_l5, gl_0, va_r, va_n, w_get, gf_t2, gf_t4, w_b11, w_c0, t_13, t_1, t_0, w_s6, sl_2, ll_2, gf_t5, w_c1, t_12, w_l3, gl_1, vi_i, t_2, gl_2, w_c2, w_putI, pf_t3, t_27, z10, z01, z_bT, z_bF, true_or, or_true, false_or, or_false, Option.bind_some, Option.toList_some, Option.toList_none, List.cons_append, List.nil_append, List.length_cons, List.length_nil, Nat.zero_add, Nat.reduceAdd, Nat.reduceLeDiff, and_self, and_true, true_and, if_true, if_false, reduceCtorEq, ne_eq, not_false_eq_true, not_true_eq_false, ↓reduceIte, Nat.reduceEqDiff, Bool.not_not, h1, h2, z_b_f h3]
  have key : ∀ j i nu z, i + j = n → ai_res S 22 5 [.ref 12, .int (z_b (le k = 48)), z] [] (HP (g, p, sw, (le, nI n, nI i, tk, tp, nu, it, ns, gt, vt, st), m, pa, im, kp, he, wl, fe, as) D) = some (none, HP (g, p, sw, (le, nI n, nI (z_rn le j i nu).1, z_rt le tp k (z_rn le j i nu), tp, (z_rn le j i nu).2, it, ns, gt, vt, st), m, pa, im, kp, he, wl, fe, as) D) := by
    intro j
    induction j with
    | zero =>
      intro i nu z hi
      have e1 : i = n := by omega
      subst e1
      have hge : nI i ≤ nI i := Int32.le_refl _
      rw [k_22_5]
      simp only [k_22_5, w_l5, gl_0, va_r, va_n, w_get, gf_t2, gf_t1, t_11, z10, z01, z_bT, z_bF, true_or, or_true, false_or, or_false, Option.bind_some, Option.toList_some, Option.toList_none, List.cons_append, List.nil_append, List.length_cons, List.length_nil, Nat.zero_add, Nat.reduceAdd, Nat.reduceLeDiff, and_self, and_true, true_and, if_true, if_false, reduceCtorEq, ne_eq, not_false_eq_true, not_true_eq_false, ↓reduceIte, Nat.reduceEqDiff, Bool.not_not, hge]
      exact fin i nu z
    | succ j ih =>
      intro i nu z hi
      have hlt : ¬ nI n ≤ nI i := nI_ge (by omega) (by omega)
      have hi2 : i < 120 := by omega
      have e0 : z_rn le (j + 1) i nu = if z_dig (le i) then z_rn le j (i + 1) (z_c10 nu (le i)) else (i, nu) := rfl
      rw [k_22_5, e0]
      by_cases hd : z_dig (le i)
      · rw [if_pos hd]
        have h2 := ih (i + 1) (z_c10 nu (le i)) z (by omega)
        have hd2 : ¬ le i < 48 ∧ ¬ 57 < le i := hd
        simp only [k_22_6, k_22_7, k_22_8, k_22_9, k_22_10, w_l5, gl_0, va_r, va_n, w_get, gf_t2, gf_t1, t_11, gf_t0, ia_t, pz_t, t_21_2, rc_4, t_19_1, rc_1, t_2, w_c1, gf_t5, w_b12, w_b10, w_b11, w_min, w_putI, pf_t5, w_dupi, w_dupr, w_c0, pf_t2, t_1, z10, z01, z_bT, z_bF, true_or, or_true, false_or, or_false, Option.bind_some, Option.toList_some, Option.toList_none, List.cons_append, List.nil_append, List.length_cons, List.length_nil, Nat.zero_add, Nat.reduceAdd, Nat.reduceLeDiff, and_self, and_true, true_and, if_true, if_false, reduceCtorEq, ne_eq, not_false_eq_true, not_true_eq_false, ↓reduceIte, Nat.reduceEqDiff, Bool.not_not, hlt, x_at, ob_s, hi2, x_isDigit, z_b_t hd2, nI_1]
        exact h2
      · rw [if_neg hd]
        have hd2 : ¬ (¬ le i < 48 ∧ ¬ 57 < le i) := hd
        rw [← fin i nu z]
        simp only [k_22_6, k_22_7, k_22_8, w_l5, gl_0, va_r, va_n, w_get, gf_t2, gf_t1, t_11, gf_t0, ia_t, pz_t, t_21_2, rc_4, t_19_1, rc_1, t_2, z10, z01, z_bT, z_bF, true_or, or_true, false_or, or_false, Option.bind_some, Option.toList_some, Option.toList_none, List.cons_append, List.nil_append, List.length_cons, List.length_nil, Nat.zero_add, Nat.reduceAdd, Nat.reduceLeDiff, and_self, and_true, true_and, if_true, if_false, reduceCtorEq, ne_eq, not_false_eq_true, not_true_eq_false, ↓reduceIte, Nat.reduceEqDiff, Bool.not_not, hlt, x_at, ob_s, hi2, x_isDigit, z_b_f hd2]
  have hk2 : k < 120 := by omega
  have k0 := key (n - k) k 0
  by_cases h3 : le k = 48
  · have k1 := k0 ai_u (by omega)
    rw [z_b_t h3] at k1
    simp only [k_22_0, k_22_1, k_22_2, k_22_3, k_22_4, w_l5, gl_0, va_r, va_n, w_get, gf_t0, ia_t, pz_t, gf_t2, t_21_2, rc_4, w_c1, t_9, w_c0, t_1, t_0, w_s6, sl_1, ll_1, w_putI, pf_t5, z10, z01, z_bT, z_bF, true_or, or_true, false_or, or_false, Option.bind_some, Option.toList_some, Option.toList_none, List.cons_append, List.nil_append, List.length_cons, List.length_nil, Nat.zero_add, Nat.reduceAdd, Nat.reduceLeDiff, and_self, and_true, true_and, if_true, if_false, reduceCtorEq, ne_eq, not_false_eq_true, not_true_eq_false, ↓reduceIte, Nat.reduceEqDiff, Bool.not_not, x_at, ob_s, hk2, eq_true h3]
    exact k1
  · have k1 := k0 ai_u (by omega)
    rw [z_b_f h3] at k1
    simp only [k_22_0, k_22_1, k_22_2, k_22_3, k_22_4, w_l5, gl_0, va_r, va_n, w_get, gf_t0, ia_t, pz_t, gf_t2, t_21_2, rc_4, w_c1, t_9, w_c0, t_1, t_0, w_s6, sl_1, ll_1, w_putI, pf_t5, z10, z01, z_bT, z_bF, true_or, or_true, false_or, or_false, Option.bind_some, Option.toList_some, Option.toList_none, List.cons_append, List.nil_append, List.length_cons, List.length_nil, Nat.zero_add, Nat.reduceAdd, Nat.reduceLeDiff, and_self, and_true, true_and, if_true, if_false, reduceCtorEq, ne_eq, not_false_eq_true, not_true_eq_false, ↓reduceIte, Nat.reduceEqDiff, Bool.not_not, x_at, ob_s, hk2, h3]
    exact k1
