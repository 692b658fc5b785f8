/-! the reference: comesOf, tune, soft, ask -/
theorem z_s1_0 (pr ha gr ve hd wr : Int32) : z_s1 pr ha 0 gr ve hd wr = if ha ≤ wr + ve ∧ pr ≤ hd + gr then (1, 0, 0) else (if pr + 10 < hd + gr then 2 else 0, hd + gr, wr + ve) := rfl
theorem r_comesOf (S : ai_S) (V : sv_V) (th : Int32) (tr : Int64) (ty : Int32) (nx : Int32) (tk : Int32) (pl : Int32) (va : Int32) (fa : Int32) (to : Int32) (um : Int32) (te : Int32) (hd : Int32) (wr : Int32) (a0 : Nat → Int32) (a1 : Nat → Int32) (a2 : Nat → Int32) (a3 : Nat → Int32) (a4 : Nat → Int32) (a5 : Nat → Int32) (a6 : Nat → Int32) (a7 : Nat → Int32) (a8 : Nat → Int32) (a9 : Nat → Int32) (a10 : Nat → Int32) (a11 : Nat → Int32) (a12 : Nat → Int32) (a13 : Nat → Int32) (c K : Nat) (hc : c < 6) (hK : K < 10) (g v : Int32) : ∃ hd' wr', ai_call S 123 [.ref 62, .int (nI c), .int (nI K), .int g, .int v] (HP V ((th, tr, ty, nx, tk, pl, va, fa, to, um, te, hd, wr), (a0, a1, a2, a3, a4, a5, a6, a7, a8, a9, a10, a11, a12, a13))) = some (some (.int (z_tp a2 a3 c K g v)), HP V ((th, tr, ty, nx, tk, pl, va, fa, to, um, te, hd', wr'), (a0, a1, a2, a3, a4, a5, a6, a7, a8, a9, a10, a11, a12, a13))) := by
  have key : ∀ j i hd wr r, i + j = K → (r = 0 ∨ r = 1) → ∃ hd' wr', ai_res S 123 1 [.ref 62, .int (nI c), .int (nI K), .int g, .int v, .int r, .int (nI i)] [] (HP V ((th, tr, ty, nx, tk, pl, va, fa, to, um, te, hd, wr), (a0, a1, a2, a3, a4, a5, a6, a7, a8, a9, a10, a11, a12, a13))) = some (some (.int (z_try a2 a3 c g v j hd wr r)), HP V ((th, tr, ty, nx, tk, pl, va, fa, to, um, te, hd', wr'), (a0, a1, a2, a3, a4, a5, a6, a7, a8, a9, a10, a11, a12, a13))) := by
    intro j
    induction j with
    | zero =>
      intro i hd wr r hi hr
      have e1 : i = K := by omega
      subst e1
      have hge : nI i ≤ nI i := Int32.le_refl _
      refine ⟨hd, wr, ?_⟩
      rw [k_123_1]
      simp only [k_123_5, w_l4, gl_6, vi_i, w_l3, gl_2, t_11, gl_5, t_23, z10, z01, z_bT, z_bF, true_or, or_true, false_or, or_false, Option.bind_some, Option.toList_some, Option.toList_none, List.cons_append, List.nil_append, List.length_cons, List.length_nil, Nat.zero_add, Nat.reduceAdd, Nat.reduceLeDiff, and_self, and_true, true_and, if_true, if_false, reduceCtorEq, ne_eq, not_false_eq_true, not_true_eq_false, ↓reduceIte, Nat.reduceEqDiff, Bool.not_not, hge]
      rfl
    | succ j ih =>
      intro i hd wr r hi hr
      have hlt : ¬ nI K ≤ nI i := nI_ge (by omega) (by omega)
      have hr2 : ¬ (2 : Int32) ≤ r := by rcases hr with rfl | rfl <;> decide
      rw [k_123_1, z_try]
      have hz := z_s1_0 (a2 c) (a3 c) g v hd wr
      by_cases hy : a3 c ≤ wr + v ∧ a2 c ≤ hd + g
      · rw [if_pos hy]
        rw [if_pos hy] at hz
        obtain ⟨h1, w1, q⟩ := ih (i + 1) 0 0 (r ||| 1) (by omega) (by rcases hr with rfl | rfl <;> decide)
        refine ⟨h1, w1, ?_⟩
        simp only [k_123_2, k_123_3, k_123_4, w_l4, gl_6, vi_i, w_l3, gl_2, t_11, gl_5, w_c0, w_l5, gl_0, va_r, va_n, gl_1, gl_3, gl_4, t_18_5, rc_0, io_d, w_b14, w_s7, sl_5, ll_5, w_inc, sl_6, t_1, z10, z01, z_bT, z_bF, true_or, or_true, false_or, or_false, Option.bind_some, Option.toList_some, Option.toList_none, List.cons_append, List.nil_append, List.length_cons, List.length_nil, Nat.zero_add, Nat.reduceAdd, Nat.reduceLeDiff, and_self, and_true, true_and, if_true, if_false, reduceCtorEq, ne_eq, not_false_eq_true, not_true_eq_false, ↓reduceIte, Nat.reduceEqDiff, Bool.not_not, hlt, hr2, r_shake, hc, hz, nI_1]
        exact q
      · rw [if_neg hy]
        rw [if_neg hy] at hz
        by_cases hl : a2 c + 10 < hd + g
        · rw [if_pos hl]
          rw [if_pos hl] at hz
          refine ⟨hd + g, wr + v, ?_⟩
          have h22 : (2 : Int32) ≤ r ||| 2 := by rcases hr with rfl | rfl <;> decide
          simp only [k_123_2, k_123_3, k_123_4, w_l4, gl_6, vi_i, w_l3, gl_2, t_11, gl_5, w_c0, w_l5, gl_0, va_r, va_n, gl_1, gl_3, gl_4, t_18_5, rc_0, io_d, w_b14, w_s7, sl_5, ll_5, w_inc, sl_6, t_1, z10, z01, z_bT, z_bF, true_or, or_true, false_or, or_false, Option.bind_some, Option.toList_some, Option.toList_none, List.cons_append, List.nil_append, List.length_cons, List.length_nil, Nat.zero_add, Nat.reduceAdd, Nat.reduceLeDiff, and_self, and_true, true_and, if_true, if_false, reduceCtorEq, ne_eq, not_false_eq_true, not_true_eq_false, ↓reduceIte, Nat.reduceEqDiff, Bool.not_not, hlt, hr2, r_shake, hc, hz, nI_1]
          rw [k_123_1]
          by_cases h5 : nI K ≤ nI (i + 1)
          · simp only [k_123_2, k_123_5, w_l4, gl_6, vi_i, w_l3, gl_2, t_11, gl_5, w_c0, t_23, z10, z01, z_bT, z_bF, true_or, or_true, false_or, or_false, Option.bind_some, Option.toList_some, Option.toList_none, List.cons_append, List.nil_append, List.length_cons, List.length_nil, Nat.zero_add, Nat.reduceAdd, Nat.reduceLeDiff, and_self, and_true, true_and, if_true, if_false, reduceCtorEq, ne_eq, not_false_eq_true, not_true_eq_false, ↓reduceIte, Nat.reduceEqDiff, Bool.not_not, h5]
          · simp only [k_123_2, k_123_5, w_l4, gl_6, vi_i, w_l3, gl_2, t_11, gl_5, w_c0, t_23, z10, z01, z_bT, z_bF, true_or, or_true, false_or, or_false, Option.bind_some, Option.toList_some, Option.toList_none, List.cons_append, List.nil_append, List.length_cons, List.length_nil, Nat.zero_add, Nat.reduceAdd, Nat.reduceLeDiff, and_self, and_true, true_and, if_true, if_false, reduceCtorEq, ne_eq, not_false_eq_true, not_true_eq_false, ↓reduceIte, Nat.reduceEqDiff, Bool.not_not, h5, h22]
        · rw [if_neg hl]
          rw [if_neg hl] at hz
          obtain ⟨h1, w1, q⟩ := ih (i + 1) (hd + g) (wr + v) r (by omega) hr
          refine ⟨h1, w1, ?_⟩
          simp only [k_123_2, k_123_3, k_123_4, w_l4, gl_6, vi_i, w_l3, gl_2, t_11, gl_5, w_c0, w_l5, gl_0, va_r, va_n, gl_1, gl_3, gl_4, t_18_5, rc_0, io_d, w_b14, w_s7, sl_5, ll_5, w_inc, sl_6, t_1, z10, z01, z_bT, z_bF, true_or, or_true, false_or, or_false, Option.bind_some, Option.toList_some, Option.toList_none, List.cons_append, List.nil_append, List.length_cons, List.length_nil, Nat.zero_add, Nat.reduceAdd, Nat.reduceLeDiff, and_self, and_true, true_and, if_true, if_false, reduceCtorEq, ne_eq, not_false_eq_true, not_true_eq_false, ↓reduceIte, Nat.reduceEqDiff, Bool.not_not, hlt, hr2, r_shake, hc, hz, nI_1, Int32.or_zero]
          exact q
  obtain ⟨h1, w1, q⟩ := key K 0 0 0 0 (by omega) (Or.inl rfl)
  refine ⟨h1, w1, ?_⟩
  rw [e_123]
  simp only [k_123_0, w_l5, gl_0, va_r, va_n, w_c0, w_putI, pd_24, pd_25, w_s7, sl_5, ll_5, sl_6, ll_6, t_0, z10, z01, z_bT, z_bF, true_or, or_true, false_or, or_false, Option.bind_some, Option.toList_some, Option.toList_none, List.cons_append, List.nil_append, List.length_cons, List.length_nil, Nat.zero_add, Nat.reduceAdd, Nat.reduceLeDiff, and_self, and_true, true_and, if_true, if_false, reduceCtorEq, ne_eq, not_false_eq_true, not_true_eq_false, ↓reduceIte, Nat.reduceEqDiff, Bool.not_not]
  exact q
theorem r_tune_b (S : ai_S) (V : sv_V) (th : Int32) (tr : Int64) (ty : Int32) (nx : Int32) (tk : Int32) (pl : Int32) (va : Int32) (fa : Int32) (to : Int32) (um : Int32) (te : Int32) (hd : Int32) (wr : Int32) (a0 : Nat → Int32) (a1 : Nat → Int32) (a2 : Nat → Int32) (a3 : Nat → Int32) (a4 : Nat → Int32) (a5 : Nat → Int32) (a6 : Nat → Int32) (a7 : Nat → Int32) (a8 : Nat → Int32) (a9 : Nat → Int32) (a10 : Nat → Int32) (a11 : Nat → Int32) (a12 : Nat → Int32) (a13 : Nat → Int32) (n : Nat) (hn : n ≤ 6) (ha : a1 0 = nI n) (set k : Int32) (hb : ¬ ((0 ≤ set ∧ set ≤ nI (2 ^ n) - 1) ∧ (1 ≤ k ∧ k ≤ 5))) : ai_call S 124 [.ref 62, .int set, .int k] (HP V ((th, tr, ty, nx, tk, pl, va, fa, to, um, te, hd, wr), (a0, a1, a2, a3, a4, a5, a6, a7, a8, a9, a10, a11, a12, a13))) = some (some (.int (-1)), HP V ((0, tr, ty, nx, tk, pl, va, fa, to, um, te, hd, wr), (a0, a1, a2, a3, a4, a5, a6, a7, a8, a9, a10, a11, a12, a13))) := by
  rw [e_124]
  by_cases h1 : 0 ≤ set ∧ set ≤ nI (2 ^ n) - 1
  · have h2 : ¬ (1 ≤ k ∧ k ≤ 5) := fun z => hb ⟨h1, z⟩
    simp only [k_124_0, k_124_1, k_124_2, k_124_3, k_124_4, w_l5, gl_0, va_r, va_n, w_c0, w_putI, pd_0, w_l3, gl_1, vi_i, w_get, gd_10, id_1, w_ald, w_b15, w_b11, t_19_3, rc_1, t_2, gl_2, t_3, t_23, z10, z01, z_bT, z_bF, true_or, or_true, false_or, or_false, Option.bind_some, Option.toList_some, Option.toList_none, List.cons_append, List.nil_append, List.length_cons, List.length_nil, Nat.zero_add, Nat.reduceAdd, Nat.reduceLeDiff, and_self, and_true, true_and, if_true, if_false, reduceCtorEq, ne_eq, not_false_eq_true, not_true_eq_false, ↓reduceIte, Nat.reduceEqDiff, Bool.not_not, rl_0_8, rl_1_8, rl_2_8, rl_3_8, rl_4_8, rl_5_8, rl_6_8, rl_7_8, rl_12_18, rl_13_18, rl_14_18, rl_15_18, rl_16_18, rl_17_18, rl_0_2, rl_1_2, cl_0, cl_1, cl_2, cl_3, cl_4, cl_5, cl_6, cl_7, cl_8, cl_9, cl_10, cl_11, cl_12, cl_13, cl_14, cl_15, cl_16, cl_17, ha, z_one_pow n hn, r_in, z_b_t h1, z_b_f h2]
  · simp only [k_124_0, k_124_1, k_124_2, k_124_3, k_124_4, w_l5, gl_0, va_r, va_n, w_c0, w_putI, pd_0, w_l3, gl_1, vi_i, w_get, gd_10, id_1, w_ald, w_b15, w_b11, t_19_3, rc_1, t_2, gl_2, t_3, t_23, z10, z01, z_bT, z_bF, true_or, or_true, false_or, or_false, Option.bind_some, Option.toList_some, Option.toList_none, List.cons_append, List.nil_append, List.length_cons, List.length_nil, Nat.zero_add, Nat.reduceAdd, Nat.reduceLeDiff, and_self, and_true, true_and, if_true, if_false, reduceCtorEq, ne_eq, not_false_eq_true, not_true_eq_false, ↓reduceIte, Nat.reduceEqDiff, Bool.not_not, rl_0_8, rl_1_8, rl_2_8, rl_3_8, rl_4_8, rl_5_8, rl_6_8, rl_7_8, rl_12_18, rl_13_18, rl_14_18, rl_15_18, rl_16_18, rl_17_18, rl_0_2, rl_1_2, cl_0, cl_1, cl_2, cl_3, cl_4, cl_5, cl_6, cl_7, cl_8, cl_9, cl_10, cl_11, cl_12, cl_13, cl_14, cl_15, cl_16, cl_17, ha, z_one_pow n hn, r_in, z_b_f h1]
theorem r_tune (S : ai_S) (V : sv_V) (th : Int32) (tr : Int64) (ty : Int32) (nx : Int32) (tk : Int32) (pl : Int32) (va : Int32) (fa : Int32) (to : Int32) (um : Int32) (te : Int32) (hd : Int32) (wr : Int32) (a0 : Nat → Int32) (a1 : Nat → Int32) (a2 : Nat → Int32) (a3 : Nat → Int32) (a4 : Nat → Int32) (a5 : Nat → Int32) (a6 : Nat → Int32) (a7 : Nat → Int32) (a8 : Nat → Int32) (a9 : Nat → Int32) (a10 : Nat → Int32) (a11 : Nat → Int32) (a12 : Nat → Int32) (a13 : Nat → Int32) (n K : Nat) (hn : n ≤ 6) (hK : K < 10) (ha : a1 0 = nI n) (set : Int32) (h1 : 0 ≤ set ∧ set ≤ nI (2 ^ n) - 1) (h2 : 1 ≤ nI K ∧ nI K ≤ 5) : ∃ hd' wr', ai_call S 124 [.ref 62, .int set, .int (nI K)] (HP V ((th, tr, ty, nx, tk, pl, va, fa, to, um, te, hd, wr), (a0, a1, a2, a3, a4, a5, a6, a7, a8, a9, a10, a11, a12, a13))) = some (some (.int (z_tu (z_tq a2 a3 set K n) 100 0)), HP V ((0, tr, ty, nx, tk, pl, va, fa, to, um, te, hd', wr'), (a0, a1, a2, a3, a4, a5, a6, a7, a8, a9, a10, a11, a12, a13))) := by
  have inner0 : ∀ j c b (hd wr : Int32), c + j = n → ai_res S 124 8 [.ref 62, .int set, .int (nI K), .int (nI b), .int 0, .int (nI c)] [] (HP V ((0, tr, ty, nx, tk, pl, va, fa, to, um, te, hd, wr), (a0, a1, a2, a3, a4, a5, a6, a7, a8, a9, a10, a11, a12, a13))) = ai_res S 124 15 [.ref 62, .int set, .int (nI K), .int (nI b), .int 0, .int (nI n)] [] (HP V ((0, tr, ty, nx, tk, pl, va, fa, to, um, te, hd, wr), (a0, a1, a2, a3, a4, a5, a6, a7, a8, a9, a10, a11, a12, a13))) := by
    intro j
    induction j with
    | zero =>
      intro c b hd wr hc
      have e1 : c = n := by omega
      subst e1
      have hge : nI c ≤ nI c := Int32.le_refl _
      rw [k_124_8]
      simp only [w_l4, gl_5, vi_i, w_l5, gl_0, va_r, va_n, w_get, gd_10, id_1, w_c0, w_ald, t_11, z10, z01, z_bT, z_bF, true_or, or_true, false_or, or_false, Option.bind_some, Option.toList_some, Option.toList_none, List.cons_append, List.nil_append, List.length_cons, List.length_nil, Nat.zero_add, Nat.reduceAdd, Nat.reduceLeDiff, and_self, and_true, true_and, if_true, if_false, reduceCtorEq, ne_eq, not_false_eq_true, not_true_eq_false, ↓reduceIte, Nat.reduceEqDiff, Bool.not_not, rl_0_8, rl_1_8, rl_2_8, rl_3_8, rl_4_8, rl_5_8, rl_6_8, rl_7_8, rl_12_18, rl_13_18, rl_14_18, rl_15_18, rl_16_18, rl_17_18, rl_0_2, rl_1_2, cl_0, cl_1, cl_2, cl_3, cl_4, cl_5, cl_6, cl_7, cl_8, cl_9, cl_10, cl_11, cl_12, cl_13, cl_14, cl_15, cl_16, cl_17, ha, hge]
    | succ j ih =>
      intro c b hd wr hc
      have hlt : ¬ nI n ≤ nI c := nI_ge (by omega) (by omega)
      rw [k_124_8]
      simp only [k_124_9, k_124_13, k_124_14, w_l4, gl_5, vi_i, w_l5, gl_0, va_r, va_n, w_get, gd_10, id_1, w_c0, w_ald, t_11, gl_4, t_2, t_0, w_s7, sl_4, ll_4, w_inc, sl_5, t_1, z10, z01, z_bT, z_bF, true_or, or_true, false_or, or_false, Option.bind_some, Option.toList_some, Option.toList_none, List.cons_append, List.nil_append, List.length_cons, List.length_nil, Nat.zero_add, Nat.reduceAdd, Nat.reduceLeDiff, and_self, and_true, true_and, if_true, if_false, reduceCtorEq, ne_eq, not_false_eq_true, not_true_eq_false, ↓reduceIte, Nat.reduceEqDiff, Bool.not_not, rl_0_8, rl_1_8, rl_2_8, rl_3_8, rl_4_8, rl_5_8, rl_6_8, rl_7_8, rl_12_18, rl_13_18, rl_14_18, rl_15_18, rl_16_18, rl_17_18, rl_0_2, rl_1_2, cl_0, cl_1, cl_2, cl_3, cl_4, cl_5, cl_6, cl_7, cl_8, cl_9, cl_10, cl_11, cl_12, cl_13, cl_14, cl_15, cl_16, cl_17, ha, hlt, nI_1]
      exact ih (c + 1) b hd wr (by omega)
  have inner : ∀ j c b (hd wr : Int32), b < 100 → c + j = n → ∃ hd' wr', ai_res S 124 8 [.ref 62, .int set, .int (nI K), .int (nI b), .int 1, .int (nI c)] [] (HP V ((0, tr, ty, nx, tk, pl, va, fa, to, um, te, hd, wr), (a0, a1, a2, a3, a4, a5, a6, a7, a8, a9, a10, a11, a12, a13))) = ai_res S 124 15 [.ref 62, .int set, .int (nI K), .int (nI b), .int (z_bj a2 a3 set K (nI (b / 10)) (nI (b % 10)) j c), .int (nI n)] [] (HP V ((0, tr, ty, nx, tk, pl, va, fa, to, um, te, hd', wr'), (a0, a1, a2, a3, a4, a5, a6, a7, a8, a9, a10, a11, a12, a13))) := by
    intro j
    induction j with
    | zero =>
      intro c b hd wr hb hc
      have e1 : c = n := by omega
      subst e1
      have hge : nI c ≤ nI c := Int32.le_refl _
      refine ⟨hd, wr, ?_⟩
      rw [k_124_8]
      simp only [w_l4, gl_5, vi_i, w_l5, gl_0, va_r, va_n, w_get, gd_10, id_1, w_c0, w_ald, t_11, z10, z01, z_bT, z_bF, true_or, or_true, false_or, or_false, Option.bind_some, Option.toList_some, Option.toList_none, List.cons_append, List.nil_append, List.length_cons, List.length_nil, Nat.zero_add, Nat.reduceAdd, Nat.reduceLeDiff, and_self, and_true, true_and, if_true, if_false, reduceCtorEq, ne_eq, not_false_eq_true, not_true_eq_false, ↓reduceIte, Nat.reduceEqDiff, Bool.not_not, rl_0_8, rl_1_8, rl_2_8, rl_3_8, rl_4_8, rl_5_8, rl_6_8, rl_7_8, rl_12_18, rl_13_18, rl_14_18, rl_15_18, rl_16_18, rl_17_18, rl_0_2, rl_1_2, cl_0, cl_1, cl_2, cl_3, cl_4, cl_5, cl_6, cl_7, cl_8, cl_9, cl_10, cl_11, cl_12, cl_13, cl_14, cl_15, cl_16, cl_17, ha, hge]
      rfl
    | succ j ih =>
      intro c b hd wr hb hc
      have hlt : ¬ nI n ≤ nI c := nI_ge (by omega) (by omega)
      have hc6 : c < 6 := by omega
      have d1 : nI b / 10 = nI (b / 10) := pk_div (d := 10) (by omega) (by decide) (by decide)
      have d2 : nI b - nI b / 10 * 10 = nI (b % 10) := pk_rem (d := 10) (by omega) (by decide) (by decide)
      rw [d1] at d2
      have d3 : ¬ (10 : Int32) = 0 := by decide
      obtain ⟨h3, w3, q3⟩ := r_comesOf S V 0 tr ty nx tk pl va fa to um te hd wr a0 a1 a2 a3 a4 a5 a6 a7 a8 a9 a10 a11 a12 a13 c K hc6 hK (nI (b / 10)) (nI (b % 10))
      have hb1 := z_and1 (set >>> (nI c &&& 31))
      rw [k_124_8, z_bj]
      by_cases he : z_tp a2 a3 c K (nI (b / 10)) (nI (b % 10)) = z_b (z_bit set c)
      · rw [if_pos he]
        obtain ⟨h4, w4, q4⟩ := ih (c + 1) b h3 w3 hb (by omega)
        refine ⟨h4, w4, ?_⟩
        have he2 : z_tp a2 a3 c K (nI (b / 10)) (nI (b % 10)) = set >>> (nI c &&& 31) &&& 1 := he.trans hb1.symm
        simp only [k_124_9, k_124_10, k_124_11, k_124_12, k_124_14, w_l4, gl_5, vi_i, w_l5, gl_0, va_r, va_n, w_get, gd_10, id_1, w_c0, w_ald, t_11, gl_4, t_2, w_l3, gl_2, gl_3, w_c1, w_b18, w_b19, t_18_5, rc_0, io_d, gl_1, w_b16, w_b13, t_9, t_1, w_s7, sl_4, ll_4, w_inc, sl_5, z10, z01, z_bT, z_bF, true_or, or_true, false_or, or_false, Option.bind_some, Option.toList_some, Option.toList_none, List.cons_append, List.nil_append, List.length_cons, List.length_nil, Nat.zero_add, Nat.reduceAdd, Nat.reduceLeDiff, and_self, and_true, true_and, if_true, if_false, reduceCtorEq, ne_eq, not_false_eq_true, not_true_eq_false, ↓reduceIte, Nat.reduceEqDiff, Bool.not_not, rl_0_8, rl_1_8, rl_2_8, rl_3_8, rl_4_8, rl_5_8, rl_6_8, rl_7_8, rl_12_18, rl_13_18, rl_14_18, rl_15_18, rl_16_18, rl_17_18, rl_0_2, rl_1_2, cl_0, cl_1, cl_2, cl_3, cl_4, cl_5, cl_6, cl_7, cl_8, cl_9, cl_10, cl_11, cl_12, cl_13, cl_14, cl_15, cl_16, cl_17, ha, hlt, d1, d2, d3, q3, eq_true he2, nI_1]
        exact q4
      · rw [if_neg he]
        refine ⟨h3, w3, ?_⟩
        have he2 : ¬ z_tp a2 a3 c K (nI (b / 10)) (nI (b % 10)) = set >>> (nI c &&& 31) &&& 1 := fun z => he (z.trans hb1)
        simp only [k_124_9, k_124_10, k_124_11, k_124_13, k_124_14, w_l4, gl_5, vi_i, w_l5, gl_0, va_r, va_n, w_get, gd_10, id_1, w_c0, w_ald, t_11, gl_4, t_2, w_l3, gl_2, gl_3, w_c1, w_b18, w_b19, t_18_5, rc_0, io_d, gl_1, w_b16, w_b13, t_9, t_0, w_s7, sl_4, ll_4, w_inc, sl_5, t_1, z10, z01, z_bT, z_bF, true_or, or_true, false_or, or_false, Option.bind_some, Option.toList_some, Option.toList_none, List.cons_append, List.nil_append, List.length_cons, List.length_nil, Nat.zero_add, Nat.reduceAdd, Nat.reduceLeDiff, and_self, and_true, true_and, if_true, if_false, reduceCtorEq, ne_eq, not_false_eq_true, not_true_eq_false, ↓reduceIte, Nat.reduceEqDiff, Bool.not_not, rl_0_8, rl_1_8, rl_2_8, rl_3_8, rl_4_8, rl_5_8, rl_6_8, rl_7_8, rl_12_18, rl_13_18, rl_14_18, rl_15_18, rl_16_18, rl_17_18, rl_0_2, rl_1_2, cl_0, cl_1, cl_2, cl_3, cl_4, cl_5, cl_6, cl_7, cl_8, cl_9, cl_10, cl_11, cl_12, cl_13, cl_14, cl_15, cl_16, cl_17, ha, hlt, d1, d2, d3, q3, he2, nI_1]
        exact inner0 j (c + 1) b h3 w3 (by omega)
  have outer : ∀ j b (hd wr : Int32) (x y : Value), b + j = 100 → ∃ hd' wr', ai_res S 124 6 [.ref 62, .int set, .int (nI K), .int (nI b), x, y] [] (HP V ((0, tr, ty, nx, tk, pl, va, fa, to, um, te, hd, wr), (a0, a1, a2, a3, a4, a5, a6, a7, a8, a9, a10, a11, a12, a13))) = some (some (.int (z_tu (z_tq a2 a3 set K n) j b)), HP V ((0, tr, ty, nx, tk, pl, va, fa, to, um, te, hd', wr'), (a0, a1, a2, a3, a4, a5, a6, a7, a8, a9, a10, a11, a12, a13))) := by
    intro j
    induction j with
    | zero =>
      intro b hd wr x y hb
      have e1 : b = 100 := by omega
      subst e1
      have hge : (100 : Int32) ≤ nI 100 := Int32.le_refl _
      refine ⟨hd, wr, ?_⟩
      rw [k_124_6]
      simp only [k_124_18, w_l3, gl_3, vi_i, w_c1, t_11, t_23, z10, z01, z_bT, z_bF, true_or, or_true, false_or, or_false, Option.bind_some, Option.toList_some, Option.toList_none, List.cons_append, List.nil_append, List.length_cons, List.length_nil, Nat.zero_add, Nat.reduceAdd, Nat.reduceLeDiff, and_self, and_true, true_and, if_true, if_false, reduceCtorEq, ne_eq, not_false_eq_true, not_true_eq_false, ↓reduceIte, Nat.reduceEqDiff, Bool.not_not, hge]
      rfl
    | succ j ih =>
      intro b hd wr x y hb
      have hlt : ¬ (100 : Int32) ≤ nI b := nI_ge (b := 100) (by omega) (by decide)
      obtain ⟨h3, w3, q3⟩ := inner n 0 b hd wr (by omega) (by omega)
      have q3' : ai_res S 124 8 [.ref 62, .int set, .int (nI K), .int (nI b), .int 1, .int 0] [] (HP V ((0, tr, ty, nx, tk, pl, va, fa, to, um, te, hd, wr), (a0, a1, a2, a3, a4, a5, a6, a7, a8, a9, a10, a11, a12, a13))) = _ := q3
      rw [k_124_6, z_tu]
      by_cases hz : z_bj a2 a3 set K (nI (b / 10)) (nI (b % 10)) n 0 = 0
      · rw [if_neg (fun z => z hz)]
        obtain ⟨h4, w4, q4⟩ := ih (b + 1) h3 w3 (.int (z_bj a2 a3 set K (nI (b / 10)) (nI (b % 10)) n 0)) (.int (nI n)) (by omega)
        refine ⟨h4, w4, ?_⟩
        simp only [k_124_7, w_l3, gl_3, vi_i, w_c1, t_11, w_c0, w_s7, sl_4, ll_4, sl_5, ll_5, t_0, z10, z01, z_bT, z_bF, true_or, or_true, false_or, or_false, Option.bind_some, Option.toList_some, Option.toList_none, List.cons_append, List.nil_append, List.length_cons, List.length_nil, Nat.zero_add, Nat.reduceAdd, Nat.reduceLeDiff, and_self, and_true, true_and, if_true, if_false, reduceCtorEq, ne_eq, not_false_eq_true, not_true_eq_false, ↓reduceIte, Nat.reduceEqDiff, Bool.not_not, hlt, q3']
        simp only [k_124_15, k_124_17, w_l4, gl_4, vi_i, t_2, w_inc, gl_3, sl_3, t_1, z10, z01, z_bT, z_bF, true_or, or_true, false_or, or_false, Option.bind_some, Option.toList_some, Option.toList_none, List.cons_append, List.nil_append, List.length_cons, List.length_nil, Nat.zero_add, Nat.reduceAdd, Nat.reduceLeDiff, and_self, and_true, true_and, if_true, if_false, reduceCtorEq, ne_eq, not_false_eq_true, not_true_eq_false, ↓reduceIte, Nat.reduceEqDiff, Bool.not_not, hz, nI_1]
        rw [hz] at q4
        exact q4
      · rw [if_pos hz]
        refine ⟨h3, w3, ?_⟩
        simp only [k_124_7, w_l3, gl_3, vi_i, w_c1, t_11, w_c0, w_s7, sl_4, ll_4, sl_5, ll_5, t_0, z10, z01, z_bT, z_bF, true_or, or_true, false_or, or_false, Option.bind_some, Option.toList_some, Option.toList_none, List.cons_append, List.nil_append, List.length_cons, List.length_nil, Nat.zero_add, Nat.reduceAdd, Nat.reduceLeDiff, and_self, and_true, true_and, if_true, if_false, reduceCtorEq, ne_eq, not_false_eq_true, not_true_eq_false, ↓reduceIte, Nat.reduceEqDiff, Bool.not_not, hlt, q3']
        simp only [k_124_15, k_124_16, w_l4, gl_4, vi_i, t_2, w_l3, gl_3, t_23, z10, z01, z_bT, z_bF, true_or, or_true, false_or, or_false, Option.bind_some, Option.toList_some, Option.toList_none, List.cons_append, List.nil_append, List.length_cons, List.length_nil, Nat.zero_add, Nat.reduceAdd, Nat.reduceLeDiff, and_self, and_true, true_and, if_true, if_false, reduceCtorEq, ne_eq, not_false_eq_true, not_true_eq_false, ↓reduceIte, Nat.reduceEqDiff, Bool.not_not, hz]
  obtain ⟨h3, w3, q3⟩ := outer 100 0 hd wr ai_u ai_u (by omega)
  refine ⟨h3, w3, ?_⟩
  rw [e_124]
  simp only [k_124_0, k_124_1, k_124_2, k_124_3, k_124_5, w_l5, gl_0, va_r, va_n, w_c0, w_putI, pd_0, w_l3, gl_1, vi_i, w_get, gd_10, id_1, w_ald, w_b15, w_b11, t_19_3, rc_1, t_2, gl_2, t_3, w_s6, sl_3, ll_3, t_0, z10, z01, z_bT, z_bF, true_or, or_true, false_or, or_false, Option.bind_some, Option.toList_some, Option.toList_none, List.cons_append, List.nil_append, List.length_cons, List.length_nil, Nat.zero_add, Nat.reduceAdd, Nat.reduceLeDiff, and_self, and_true, true_and, if_true, if_false, reduceCtorEq, ne_eq, not_false_eq_true, not_true_eq_false, ↓reduceIte, Nat.reduceEqDiff, Bool.not_not, rl_0_8, rl_1_8, rl_2_8, rl_3_8, rl_4_8, rl_5_8, rl_6_8, rl_7_8, rl_12_18, rl_13_18, rl_14_18, rl_15_18, rl_16_18, rl_17_18, rl_0_2, rl_1_2, cl_0, cl_1, cl_2, cl_3, cl_4, cl_5, cl_6, cl_7, cl_8, cl_9, cl_10, cl_11, cl_12, cl_13, cl_14, cl_15, cl_16, cl_17, ha, z_one_pow n hn, r_in, z_b_t h1, z_b_t h2]
  exact q3
