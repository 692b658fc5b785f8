/-! the class: the Text's readToken -/
theorem x_u5 (S : ai_S) (g : sv_G) (p : sv_G) (sw : Bool) (le : Nat → Int32) (ln : Int32) (pc : Int32) (tk : Int32) (tp : Int32) (nu : Int32) (it : Int32) (ns : Int32) (gt : Int32) (vt : Int32) (st : Int32) (m : sv_M) (pa : sv_P) (im : Nat → sv_M) (kp : Int32) (he : sv_H) (wl : Nat → Int32) (fe : Nat → Int32) (as : Int64) (D : sv_D) : ai_go S 21 [(5, 0, 0, 0, 0), (23, 4, 2, 45, 0), (5, 0, 0, 0, 0), (23, 4, 1, 15, 0)] (10, 6, 5, 0, 0, []) [.ref 12] [] (HP (g, p, sw, (le, ln, pc, tk, tp, nu, it, ns, gt, vt, st), m, pa, im, kp, he, wl, fe, as) D) = if pc < ln then ai_res S 21 6 [.ref 12] [] (HP (g, p, sw, (le, ln, pc, tk, tp, nu, it, ns, gt, vt, st), m, pa, im, kp, he, wl, fe, as) D) else ai_res S 21 5 [.ref 12] [] (HP (g, p, sw, (le, ln, pc, tk, tp, nu, it, ns, gt, vt, st), m, pa, im, kp, he, wl, fe, as) D) := by
  simp only [w_l5, gl_0, va_r, va_n, w_get, gf_t2, gf_t1, t_10, Option.bind_some]
theorem x_u6 (S : ai_S) (g : sv_G) (p : sv_G) (sw : Bool) (le : Nat → Int32) (ln : Int32) (pc : Int32) (tk : Int32) (tp : Int32) (nu : Int32) (it : Int32) (ns : Int32) (gt : Int32) (vt : Int32) (st : Int32) (m : sv_M) (pa : sv_P) (im : Nat → sv_M) (kp : Int32) (he : sv_H) (wl : Nat → Int32) (fe : Nat → Int32) (as : Int64) (D : sv_D) (is : List ai_I) (e : Nat × Nat × Nat × Nat × Nat × List (Int32 × Nat)) : ai_go S 21 ((5, 0, 0, 0, 0) :: (5, 0, 0, 0, 0) :: (23, 4, 2, 45, 0) :: (24, 4, 4, 39, 0) :: is) e [.ref 12] [] (HP (g, p, sw, (le, ln, pc, tk, tp, nu, it, ns, gt, vt, st), m, pa, im, kp, he, wl, fe, as) D) = ai_go S 21 is e [.ref 12] [] (HP (g, p, sw, (le, ln, pc, tk, pc, nu, it, ns, gt, vt, st), m, pa, im, kp, he, wl, fe, as) D) := by
  simp only [w_l5, gl_0, va_r, va_n, w_get, gf_t2, w_putI, pf_t4, Option.bind_some]
theorem x_u7 (S : ai_S) (g : sv_G) (p : sv_G) (sw : Bool) (le : Nat → Int32) (ln : Int32) (pc : Int32) (tk : Int32) (tp : Int32) (nu : Int32) (it : Int32) (ns : Int32) (gt : Int32) (vt : Int32) (st : Int32) (m : sv_M) (pa : sv_P) (im : Nat → sv_M) (kp : Int32) (he : sv_H) (wl : Nat → Int32) (fe : Nat → Int32) (as : Int64) (D : sv_D) : ai_res S 21 4 [.ref 12] [] (HP (g, p, sw, (le, ln, pc, tk, tp, nu, it, ns, gt, vt, st), m, pa, im, kp, he, wl, fe, as) D) = if pc < ln then ai_res S 21 6 [.ref 12] [] (HP (g, p, sw, (le, ln, pc, tk, pc, nu, it, ns, gt, vt, st), m, pa, im, kp, he, wl, fe, as) D) else ai_res S 21 5 [.ref 12] [] (HP (g, p, sw, (le, ln, pc, tk, pc, nu, it, ns, gt, vt, st), m, pa, im, kp, he, wl, fe, as) D) := by
  rw [k_21_4, x_u6, x_u5]
def z_sk (le : Nat → Int32) : Nat → Nat → Nat
  | 0, k => k
  | j + 1, k => if le k = 32 then z_sk le j (k + 1) else k
theorem z_sk_le (le : Nat → Int32) : ∀ j k, z_sk le j k ≤ k + j
  | 0, k => Nat.le_refl _
  | j + 1, k => by
    unfold z_sk
    split
    · have := z_sk_le le j (k + 1)
      omega
    · omega
/-- place, token, tokenPlace, number behind readToken, q the place of the token -/
def z_tok (le : Nat → Int32) (n : Nat) (nu : Int32) (q : Nat) : Nat × Int32 × Nat × Int32 :=
  if n ≤ q then (q, 256, q, nu) else if z_dig (le q) then ((z_rn le (n - q) q 0).1, z_rt le (nI q) q (z_rn le (n - q) q 0), q, (z_rn le (n - q) q 0).2) else (q + 1, le q, q, nu)
def z_rtk (le : Nat → Int32) (n : Nat) (nu : Int32) (k : Nat) : Nat × Int32 × Nat × Int32 := z_tok le n nu (z_sk le (n - k) k)
theorem x_rtq_1 (S : ai_S) (g : sv_G) (p : sv_G) (sw : Bool) (le : Nat → Int32) (tk : Int32) (tp : Int32) (nu : Int32) (it : Int32) (ns : Int32) (gt : Int32) (vt : Int32) (st : Int32) (m : sv_M) (pa : sv_P) (im : Nat → sv_M) (kp : Int32) (he : sv_H) (wl : Nat → Int32) (fe : Nat → Int32) (as : Int64) (D : sv_D) (q : Nat) : ai_res S 21 4 [.ref 12] [] (HP (g, p, sw, (le, nI q, nI q, tk, tp, nu, it, ns, gt, vt, st), m, pa, im, kp, he, wl, fe, as) D) = some (none, HP (g, p, sw, (le, nI q, nI q, 256, nI q, nu, it, ns, gt, vt, st), m, pa, im, kp, he, wl, fe, as) D) := by
  have hlt : ¬ nI q < nI q := Int32.lt_irrefl
  rw [x_u7, if_neg hlt]
  simp only [k_21_5, w_l5, gl_0, va_r, va_n, w_c2, w_putI, pf_t3, t_27, z10, z01, z_bT, z_bF, true_or, or_true, false_or, or_false, Option.bind_some, Option.toList_some, Option.toList_none, List.cons_append, List.nil_append, List.length_cons, List.length_nil, Nat.zero_add, Nat.reduceAdd, Nat.reduceLeDiff, and_self, and_true, true_and, if_true, if_false, reduceCtorEq, ne_eq, not_false_eq_true, not_true_eq_false, ↓reduceIte, Nat.reduceEqDiff, Bool.not_not]
theorem x_rtq_2 (S : ai_S) (g : sv_G) (p : sv_G) (sw : Bool) (le : Nat → Int32) (tk : Int32) (tp : Int32) (nu : Int32) (it : Int32) (ns : Int32) (gt : Int32) (vt : Int32) (st : Int32) (m : sv_M) (pa : sv_P) (im : Nat → sv_M) (kp : Int32) (he : sv_H) (wl : Nat → Int32) (fe : Nat → Int32) (as : Int64) (D : sv_D) (n q : Nat) (hn : n ≤ 120) (hq3 : q < n) (hd : z_dig (le q)) : ai_res S 21 4 [.ref 12] [] (HP (g, p, sw, (le, nI n, nI q, tk, tp, nu, it, ns, gt, vt, st), m, pa, im, kp, he, wl, fe, as) D) = some (none, HP (g, p, sw, (le, nI n, nI (z_rn le (n - q) q 0).1, z_rt le (nI q) q (z_rn le (n - q) q 0), nI q, (z_rn le (n - q) q 0).2, it, ns, gt, vt, st), m, pa, im, kp, he, wl, fe, as) D) := by
  have hlt : nI q < nI n := nI_lt (by omega) (by omega)
  have hq2 : q < 120 := by omega
  have hd2 : ¬ le q < 48 ∧ ¬ 57 < le q := hd
  rw [x_u7, if_pos hlt]
  simp only [k_21_6, k_21_7, k_21_8, k_21_9, k_21_10, k_21_12, w_l5, gl_0, va_r, va_n, w_get, gf_t0, ia_t, pz_t, gf_t2, t_21_2, rc_4, w_putI, pf_t3, gf_t3, t_19_1, rc_1, t_2, t_18_1, rc_0, io_t, t_1, t_27, z10, z01, z_bT, z_bF, true_or, or_true, false_or, or_false, Option.bind_some, Option.toList_some, Option.toList_none, List.cons_append, List.nil_append, List.length_cons, List.length_nil, Nat.zero_add, Nat.reduceAdd, Nat.reduceLeDiff, and_self, and_true, true_and, if_true, if_false, reduceCtorEq, ne_eq, not_false_eq_true, not_true_eq_false, ↓reduceIte, Nat.reduceEqDiff, Bool.not_not, x_at, ob_s, hq2, x_isDigit, z_b_t hd2, x_readNumber, hn, hq3]
theorem x_rtq_3 (S : ai_S) (g : sv_G) (p : sv_G) (sw : Bool) (le : Nat → Int32) (tk : Int32) (tp : Int32) (nu : Int32) (it : Int32) (ns : Int32) (gt : Int32) (vt : Int32) (st : Int32) (m : sv_M) (pa : sv_P) (im : Nat → sv_M) (kp : Int32) (he : sv_H) (wl : Nat → Int32) (fe : Nat → Int32) (as : Int64) (D : sv_D) (n q : Nat) (hn : n ≤ 120) (hq3 : q < n) (hd : ¬ z_dig (le q)) : ai_res S 21 4 [.ref 12] [] (HP (g, p, sw, (le, nI n, nI q, tk, tp, nu, it, ns, gt, vt, st), m, pa, im, kp, he, wl, fe, as) D) = some (none, HP (g, p, sw, (le, nI n, nI (q + 1), le q, nI q, nu, it, ns, gt, vt, st), m, pa, im, kp, he, wl, fe, as) D) := by
  have hlt : nI q < nI n := nI_lt (by omega) (by omega)
  have hq2 : q < 120 := by omega
  have hd2 : ¬ (¬ le q < 48 ∧ ¬ 57 < le q) := hd
  rw [x_u7, if_pos hlt]
  simp only [k_21_6, k_21_7, k_21_8, k_21_11, k_21_12, w_l5, gl_0, va_r, va_n, w_get, gf_t0, ia_t, pz_t, gf_t2, t_21_2, rc_4, w_putI, pf_t3, gf_t3, t_19_1, rc_1, t_2, w_dupi, w_dupr, w_c0, w_b10, pf_t2, t_0, t_27, z10, z01, z_bT, z_bF, true_or, or_true, false_or, or_false, Option.bind_some, Option.toList_some, Option.toList_none, List.cons_append, List.nil_append, List.length_cons, List.length_nil, Nat.zero_add, Nat.reduceAdd, Nat.reduceLeDiff, and_self, and_true, true_and, if_true, if_false, reduceCtorEq, ne_eq, not_false_eq_true, not_true_eq_false, ↓reduceIte, Nat.reduceEqDiff, Bool.not_not, x_at, ob_s, hq2, x_isDigit, z_b_f hd2, nI_1]
theorem x_readToken_q (S : ai_S) (g : sv_G) (p : sv_G) (sw : Bool) (le : Nat → Int32) (tk : Int32) (tp : Int32) (nu : Int32) (it : Int32) (ns : Int32) (gt : Int32) (vt : Int32) (st : Int32) (m : sv_M) (pa : sv_P) (im : Nat → sv_M) (kp : Int32) (he : sv_H) (wl : Nat → Int32) (fe : Nat → Int32) (as : Int64) (D : sv_D) (n q : Nat) (hn : n ≤ 120) (hq : q ≤ n) : ai_res S 21 4 [.ref 12] [] (HP (g, p, sw, (le, nI n, nI q, tk, tp, nu, it, ns, gt, vt, st), m, pa, im, kp, he, wl, fe, as) D) = some (none, HP (g, p, sw, (le, nI n, nI (z_tok le n nu q).1, (z_tok le n nu q).2.1, nI (z_tok le n nu q).2.2.1, (z_tok le n nu q).2.2.2, it, ns, gt, vt, st), m, pa, im, kp, he, wl, fe, as) D) := by
  unfold z_tok
  by_cases h1 : n ≤ q
  · have e1 : q = n := by omega
    subst e1
    rw [if_pos h1]
    apply x_rtq_1
  · rw [if_neg h1]
    by_cases hd : z_dig (le q)
    · rw [if_pos hd]
      apply x_rtq_2 <;> first | assumption | omega
    · rw [if_neg hd]
      apply x_rtq_3 <;> first | assumption | omega
theorem x_readToken (S : ai_S) (g : sv_G) (p : sv_G) (sw : Bool) (le : Nat → Int32) (tk : Int32) (tp : Int32) (nu : Int32) (it : Int32) (ns : Int32) (gt : Int32) (vt : Int32) (st : Int32) (m : sv_M) (pa : sv_P) (im : Nat → sv_M) (kp : Int32) (he : sv_H) (wl : Nat → Int32) (fe : Nat → Int32) (as : Int64) (D : sv_D) (n k : Nat) (hn : n ≤ 120) (hk : k ≤ n) : ai_call S 21 [.ref 12] (HP (g, p, sw, (le, nI n, nI k, tk, tp, nu, it, ns, gt, vt, st), m, pa, im, kp, he, wl, fe, as) D) = some (none, HP (g, p, sw, (le, nI n, nI (z_rtk le n nu k).1, (z_rtk le n nu k).2.1, nI (z_rtk le n nu k).2.2.1, (z_rtk le n nu k).2.2.2, it, ns, gt, vt, st), m, pa, im, kp, he, wl, fe, as) D) := by
  rw [e_21]
  have key : ∀ j i, i + j = n → ai_res S 21 0 [.ref 12] [] (HP (g, p, sw, (le, nI n, nI i, tk, tp, nu, it, ns, gt, vt, st), m, pa, im, kp, he, wl, fe, as) D) = ai_res S 21 4 [.ref 12] [] (HP (g, p, sw, (le, nI n, nI (z_sk le j i), tk, tp, nu, it, ns, gt, vt, st), m, pa, im, kp, he, wl, fe, as) D) := by
    intro j
    induction j with
    | zero =>
      intro i hi
      have e1 : i = n := by omega
      subst e1
      have hge : nI i ≤ nI i := Int32.le_refl _
      rw [k_21_0]
      simp only [w_l5, gl_0, va_r, va_n, w_get, gf_t2, gf_t1, t_11, z10, z01, z_bT, z_bF, true_or, or_true, false_or, or_false, Option.bind_some, Option.toList_some, Option.toList_none, List.cons_append, List.nil_append, List.length_cons, List.length_nil, Nat.zero_add, Nat.reduceAdd, Nat.reduceLeDiff, and_self, and_true, true_and, if_true, if_false, reduceCtorEq, ne_eq, not_false_eq_true, not_true_eq_false, ↓reduceIte, Nat.reduceEqDiff, Bool.not_not, hge]
      rfl
    | succ j ih =>
      intro i hi
      have hlt : ¬ nI n ≤ nI i := nI_ge (by omega) (by omega)
      have hi2 : i < 120 := by omega
      have e0 : z_sk le (j + 1) i = if le i = 32 then z_sk le j (i + 1) else i := rfl
      rw [k_21_0, e0]
      by_cases hd : le i = 32
      · rw [if_pos hd]
        have h2 := ih (i + 1) (by omega)
        simp only [k_21_1, k_21_2, k_21_3, w_l5, gl_0, va_r, va_n, w_get, gf_t2, gf_t1, t_11, gf_t0, ia_t, pz_t, t_21_2, rc_4, w_c1, t_9, w_dupi, w_dupr, w_c0, w_b10, w_putI, pf_t2, t_1, z10, z01, z_bT, z_bF, true_or, or_true, false_or, or_false, Option.bind_some, Option.toList_some, Option.toList_none, List.cons_append, List.nil_append, List.length_cons, List.length_nil, Nat.zero_add, Nat.reduceAdd, Nat.reduceLeDiff, and_self, and_true, true_and, if_true, if_false, reduceCtorEq, ne_eq, not_false_eq_true, not_true_eq_false, ↓reduceIte, Nat.reduceEqDiff, Bool.not_not, hlt, x_at, ob_s, hi2, eq_true hd, nI_1]
        exact h2
      · rw [if_neg hd]
        simp only [k_21_1, k_21_2, w_l5, gl_0, va_r, va_n, w_get, gf_t2, gf_t1, t_11, gf_t0, ia_t, pz_t, t_21_2, rc_4, w_c1, t_9, z10, z01, z_bT, z_bF, true_or, or_true, false_or, or_false, Option.bind_some, Option.toList_some, Option.toList_none, List.cons_append, List.nil_append, List.length_cons, List.length_nil, Nat.zero_add, Nat.reduceAdd, Nat.reduceLeDiff, and_self, and_true, true_and, if_true, if_false, reduceCtorEq, ne_eq, not_false_eq_true, not_true_eq_false, ↓reduceIte, Nat.reduceEqDiff, Bool.not_not, hlt, x_at, ob_s, hi2, hd]
  have hle := z_sk_le le (n - k) k
  rw [show ai_res S 21 0 [.ref 12] [] (HP (g, p, sw, (le, nI n, nI k, tk, tp, nu, it, ns, gt, vt, st), m, pa, im, kp, he, wl, fe, as) D) = _ from key (n - k) k (by omega)]
  have hz := @x_readToken_q
  unfold z_rtk
  apply hz <;> omega
