/-! the reference: soft, ask, odds -/
def zi (b : Bool) : Int32 := if b then 1 else 0
theorem zi_t {b : Bool} (h : b = true) : zi b = 1 := if_pos h
theorem zi_f {b : Bool} (h : ¬ b = true) : zi b = 0 := if_neg h
theorem r_softOnes (S : ai_S) (V : sv_V) (th : Int32) (tr : Int64) (ty : Int32) (nx : Int32) (tk : Int32) (pl : Int32) (va : Int32) (fa : Int32) (to : Int32) (um : Int32) (te : Int32) (hd : Int32) (wr : Int32) (a0 : Nat → Int32) (a1 : Nat → Int32) (a2 : Nat → Int32) (a3 : Nat → Int32) (a4 : Nat → Int32) (a5 : Nat → Int32) (a6 : Nat → Int32) (a7 : Nat → Int32) (a8 : Nat → Int32) (a9 : Nat → Int32) (a10 : Nat → Int32) (a11 : Nat → Int32) (a12 : Nat → Int32) (a13 : Nat → Int32) (s : Nat) (hs : s ≤ 6) (wc tm : Nat → Nat) (gr : Int32) (hgr : a1 1 = gr) (hw : ∀ i, i < s → a10 i = nI (wc i) ∧ wc i < 6 ∧ a11 i = nI (tm i) ∧ tm i < 10) : ∃ hd' wr', ai_call S 130 [.ref 62] (HP V ((th, tr, ty, nx, tk, pl, va, fa, to, um, nI s, hd, wr), (a0, a1, a2, a3, a4, a5, a6, a7, a8, a9, a10, a11, a12, a13))) = some (some (.int (nI (bs (fun v => z_al (fun i v => z_tp a2 a3 (wc i) (tm i) gr (nI v)) a12 v s) 10))), HP V ((th, tr, ty, nx, tk, pl, va, fa, to, um, nI s, hd', wr'), (a0, a1, a2, a3, a4, a5, a6, a7, a8, a9, a10, a11, a12, a13))) := by
  generalize hF : (fun i v => z_tp a2 a3 (wc i) (tm i) gr (nI v)) = F
  have hFi : ∀ i v, z_tp a2 a3 (wc i) (tm i) gr (nI v) = F i v := fun i v => by rw [← hF]
  have inner : ∀ j i v (set : Int32) (hd wr : Int32), i + j = s → v < 10 → ∃ hd' wr', ai_res S 130 3 [.ref 62, .int set, .int (nI v), .int (zi (z_al F a12 v i)), .int (nI i)] [] (HP V ((th, tr, ty, nx, tk, pl, va, fa, to, um, nI s, hd, wr), (a0, a1, a2, a3, a4, a5, a6, a7, a8, a9, a10, a11, a12, a13))) = ai_res S 130 10 [.ref 62, .int set, .int (nI v), .int (zi (z_al F a12 v s)), .int (nI s)] [] (HP V ((th, tr, ty, nx, tk, pl, va, fa, to, um, nI s, hd', wr'), (a0, a1, a2, a3, a4, a5, a6, a7, a8, a9, a10, a11, a12, a13))) := by
    intro j
    induction j with
    | zero =>
      intro i v set hd wr hi hv
      have e1 : i = s := by omega
      subst e1
      have hge : nI i ≤ nI i := Int32.le_refl _
      refine ⟨hd, wr, ?_⟩
      rw [k_130_3]
      simp only [w_l4, gl_4, vi_i, w_l5, gl_0, va_r, va_n, w_get, gd_23, t_11, z10, z01, z_bT, z_bF, true_or, or_true, false_or, or_false, Option.bind_some, Option.toList_some, Option.toList_none, List.cons_append, List.nil_append, List.length_cons, List.length_nil, Nat.zero_add, Nat.reduceAdd, Nat.reduceLeDiff, and_self, and_true, true_and, if_true, if_false, reduceCtorEq, ne_eq, not_false_eq_true, not_true_eq_false, ↓reduceIte, Nat.reduceEqDiff, Bool.not_not, hge]
    | succ j ih =>
      intro i v set hd wr hi hv
      have hlt : ¬ nI s ≤ nI i := nI_ge (by omega) (by omega)
      obtain ⟨w1, w2, w3, w4⟩ := hw i (by omega)
      have hi6 : i < 6 := by omega
      have ci := nI_clamp (n := i) (by omega)
      have e0 : z_al F a12 v (i + 1) = (z_al F a12 v i && decide (F i v &&& 1 = a12 i)) := rfl
      rw [k_130_3]
      by_cases hz : z_al F a12 v i = true
      · obtain ⟨h3, w5, q3⟩ := r_comesOf S V th tr ty nx tk pl va fa to um (nI s) hd wr a0 a1 a2 a3 a4 a5 a6 a7 a8 a9 a10 a11 a12 a13 (wc i) (tm i) w2 w4 gr (nI v)
        rw [hFi] at q3
        obtain ⟨h4, w6, q4⟩ := ih (i + 1) v set h3 w5 (by omega) hv
        refine ⟨h4, w6, ?_⟩
        rw [e0, hz, Bool.true_and] at q4
        by_cases he : F i v &&& 1 = a12 i
        · rw [zi_t (decide_eq_true he)] at q4
          simp only [k_130_4, k_130_5, k_130_6, k_130_7, k_130_9, w_l4, gl_4, vi_i, w_l5, gl_0, va_r, va_n, w_get, gd_23, t_11, w_l3, gl_3, t_2, gd_20, id_10, w_ald, gd_21, id_11, gd_10, id_1, w_c0, gl_2, t_18_5, rc_0, io_d, w_b13, gd_22, id_12, t_9, t_1, w_s6, sl_3, ll_3, w_inc, sl_4, z10, z01, z_bT, z_bF, true_or, or_true, false_or, or_false, Option.bind_some, Option.toList_some, Option.toList_none, List.cons_append, List.nil_append, List.length_cons, List.length_nil, Nat.zero_add, Nat.reduceAdd, Nat.reduceLeDiff, and_self, and_true, true_and, if_true, if_false, reduceCtorEq, ne_eq, not_false_eq_true, not_true_eq_false, ↓reduceIte, Nat.reduceEqDiff, Bool.not_not, rl_0_8, rl_1_8, rl_2_8, rl_3_8, rl_4_8, rl_5_8, rl_6_8, rl_7_8, rl_12_18, rl_13_18, rl_14_18, rl_15_18, rl_16_18, rl_17_18, rl_0_2, rl_1_2, cl_0, cl_1, cl_2, cl_3, cl_4, cl_5, cl_6, cl_7, cl_8, cl_9, cl_10, cl_11, cl_12, cl_13, cl_14, cl_15, cl_16, cl_17, hlt, zi_t hz, rg_n hi6 (by omega), ci, w1, w3, hgr, q3, eq_true he, nI_1]
          exact q4
        · rw [zi_f (by rw [decide_eq_false he]; decide)] at q4
          simp only [k_130_4, k_130_5, k_130_6, k_130_8, k_130_9, w_l4, gl_4, vi_i, w_l5, gl_0, va_r, va_n, w_get, gd_23, t_11, w_l3, gl_3, t_2, gd_20, id_10, w_ald, gd_21, id_11, gd_10, id_1, w_c0, gl_2, t_18_5, rc_0, io_d, w_b13, gd_22, id_12, t_9, t_0, w_s6, sl_3, ll_3, w_inc, sl_4, t_1, z10, z01, z_bT, z_bF, true_or, or_true, false_or, or_false, Option.bind_some, Option.toList_some, Option.toList_none, List.cons_append, List.nil_append, List.length_cons, List.length_nil, Nat.zero_add, Nat.reduceAdd, Nat.reduceLeDiff, and_self, and_true, true_and, if_true, if_false, reduceCtorEq, ne_eq, not_false_eq_true, not_true_eq_false, ↓reduceIte, Nat.reduceEqDiff, Bool.not_not, rl_0_8, rl_1_8, rl_2_8, rl_3_8, rl_4_8, rl_5_8, rl_6_8, rl_7_8, rl_12_18, rl_13_18, rl_14_18, rl_15_18, rl_16_18, rl_17_18, rl_0_2, rl_1_2, cl_0, cl_1, cl_2, cl_3, cl_4, cl_5, cl_6, cl_7, cl_8, cl_9, cl_10, cl_11, cl_12, cl_13, cl_14, cl_15, cl_16, cl_17, hlt, zi_t hz, rg_n hi6 (by omega), ci, w1, w3, hgr, q3, he, nI_1]
          exact q4
      · obtain ⟨h4, w6, q4⟩ := ih (i + 1) v set hd wr (by omega) hv
        refine ⟨h4, w6, ?_⟩
        rw [e0, Bool.eq_false_iff.mpr hz, Bool.false_and, zi_f (by decide)] at q4
        simp only [k_130_4, k_130_8, k_130_9, w_l4, gl_4, vi_i, w_l5, gl_0, va_r, va_n, w_get, gd_23, t_11, w_l3, gl_3, t_2, w_c0, t_0, w_s6, sl_3, ll_3, w_inc, sl_4, t_1, z10, z01, z_bT, z_bF, true_or, or_true, false_or, or_false, Option.bind_some, Option.toList_some, Option.toList_none, List.cons_append, List.nil_append, List.length_cons, List.length_nil, Nat.zero_add, Nat.reduceAdd, Nat.reduceLeDiff, and_self, and_true, true_and, if_true, if_false, reduceCtorEq, ne_eq, not_false_eq_true, not_true_eq_false, ↓reduceIte, Nat.reduceEqDiff, Bool.not_not, hlt, zi_f hz, nI_1]
        exact q4
  have outer : ∀ j v (hd wr : Int32) (x y : Value), v + j = 10 → ∃ hd' wr', ai_res S 130 1 [.ref 62, .int (nI (bs (fun v => z_al F a12 v s) v)), .int (nI v), x, y] [] (HP V ((th, tr, ty, nx, tk, pl, va, fa, to, um, nI s, hd, wr), (a0, a1, a2, a3, a4, a5, a6, a7, a8, a9, a10, a11, a12, a13))) = some (some (.int (nI (bs (fun v => z_al F a12 v s) 10))), HP V ((th, tr, ty, nx, tk, pl, va, fa, to, um, nI s, hd', wr'), (a0, a1, a2, a3, a4, a5, a6, a7, a8, a9, a10, a11, a12, a13))) := by
    intro j
    induction j with
    | zero =>
      intro v hd wr x y hv
      have e1 : v = 10 := by omega
      subst e1
      have hge : (10 : Int32) ≤ nI 10 := Int32.le_refl _
      refine ⟨hd, wr, ?_⟩
      rw [k_130_1]
      simp only [k_130_14, w_l3, gl_2, vi_i, w_c1, t_11, gl_1, t_23, z10, z01, z_bT, z_bF, true_or, or_true, false_or, or_false, Option.bind_some, Option.toList_some, Option.toList_none, List.cons_append, List.nil_append, List.length_cons, List.length_nil, Nat.zero_add, Nat.reduceAdd, Nat.reduceLeDiff, and_self, and_true, true_and, if_true, if_false, reduceCtorEq, ne_eq, not_false_eq_true, not_true_eq_false, ↓reduceIte, Nat.reduceEqDiff, Bool.not_not, hge]
    | succ j ih =>
      intro v hd wr x y hv
      have hlt : ¬ (10 : Int32) ≤ nI v := nI_ge (b := 10) (by omega) (by decide)
      obtain ⟨h3, w3, q3⟩ := inner s 0 v (nI (bs (fun v => z_al F a12 v s) v)) hd wr (by omega) (by omega)
      have q3' : ai_res S 130 3 [.ref 62, .int (nI (bs (fun v => z_al F a12 v s) v)), .int (nI v), .int 1, .int 0] [] (HP V ((th, tr, ty, nx, tk, pl, va, fa, to, um, nI s, hd, wr), (a0, a1, a2, a3, a4, a5, a6, a7, a8, a9, a10, a11, a12, a13))) = _ := q3
      obtain ⟨h4, w4, q4⟩ := ih (v + 1) h3 w3 (.int (zi (z_al F a12 v s))) (.int (nI s)) (by omega)
      refine ⟨h4, w4, ?_⟩
      have e0 : bs (fun v => z_al F a12 v s) (v + 1) = bs (fun v => z_al F a12 v s) v + (if z_al F a12 v s then 2 ^ v else 0) := rfl
      rw [k_130_1]
      simp only [k_130_2, w_l3, gl_2, vi_i, w_c1, t_11, w_c0, w_s6, sl_3, ll_3, w_s7, sl_4, ll_4, t_0, z10, z01, z_bT, z_bF, true_or, or_true, false_or, or_false, Option.bind_some, Option.toList_some, Option.toList_none, List.cons_append, List.nil_append, List.length_cons, List.length_nil, Nat.zero_add, Nat.reduceAdd, Nat.reduceLeDiff, and_self, and_true, true_and, if_true, if_false, reduceCtorEq, ne_eq, not_false_eq_true, not_true_eq_false, ↓reduceIte, Nat.reduceEqDiff, Bool.not_not, hlt]
      rw [q3']
      by_cases hz : z_al F a12 v s = true
      · rw [e0, if_pos hz, ← bs_or, ← z_or, ← z_one_n v (by omega)] at q4
        simp only [zi_t hz] at q4 ⊢
        simp only [k_130_10, k_130_11, k_130_13, w_l3, gl_1, vi_i, gl_3, t_2, w_c0, gl_2, w_b15, t_1, w_b14, w_s6, sl_1, ll_1, w_inc, sl_2, z10, z01, z_bT, z_bF, true_or, or_true, false_or, or_false, Option.bind_some, Option.toList_some, Option.toList_none, List.cons_append, List.nil_append, List.length_cons, List.length_nil, Nat.zero_add, Nat.reduceAdd, Nat.reduceLeDiff, and_self, and_true, true_and, if_true, if_false, reduceCtorEq, ne_eq, not_false_eq_true, not_true_eq_false, ↓reduceIte, Nat.reduceEqDiff, Bool.not_not, nI_1]
        exact q4
      · rw [e0, if_neg hz, Nat.add_zero] at q4
        simp only [zi_f hz] at q4 ⊢
        simp only [k_130_10, k_130_12, k_130_13, w_l3, gl_1, vi_i, gl_3, t_2, w_c0, t_0, w_b14, w_s6, sl_1, ll_1, w_inc, gl_2, sl_2, t_1, z10, z01, z_bT, z_bF, true_or, or_true, false_or, or_false, Option.bind_some, Option.toList_some, Option.toList_none, List.cons_append, List.nil_append, List.length_cons, List.length_nil, Nat.zero_add, Nat.reduceAdd, Nat.reduceLeDiff, and_self, and_true, true_and, if_true, if_false, reduceCtorEq, ne_eq, not_false_eq_true, not_true_eq_false, ↓reduceIte, Nat.reduceEqDiff, Bool.not_not, nI_1, Int32.or_zero]
        exact q4
  obtain ⟨h3, w3, q3⟩ := outer 10 0 hd wr ai_u ai_u (by omega)
  refine ⟨h3, w3, ?_⟩
  rw [e_130]
  simp only [k_130_0, w_c0, w_s6, sl_1, ll_1, sl_2, ll_2, t_0, z10, z01, z_bT, z_bF, true_or, or_true, false_or, or_false, Option.bind_some, Option.toList_some, Option.toList_none, List.cons_append, List.nil_append, List.length_cons, List.length_nil, Nat.zero_add, Nat.reduceAdd, Nat.reduceLeDiff, and_self, and_true, true_and, if_true, if_false, reduceCtorEq, ne_eq, not_false_eq_true, not_true_eq_false, ↓reduceIte, Nat.reduceEqDiff, Bool.not_not]
  exact q3
theorem r_soft (S : ai_S) (V : sv_V) (th : Int32) (tr : Int64) (ty : Int32) (nx : Int32) (tk : Int32) (pl : Int32) (va : Int32) (fa : Int32) (to : Int32) (um : Int32) (te : Int32) (hd : Int32) (wr : Int32) (a0 : Nat → Int32) (a1 : Nat → Int32) (a2 : Nat → Int32) (a3 : Nat → Int32) (a4 : Nat → Int32) (a5 : Nat → Int32) (a6 : Nat → Int32) (a7 : Nat → Int32) (a8 : Nat → Int32) (a9 : Nat → Int32) (a10 : Nat → Int32) (a11 : Nat → Int32) (a12 : Nat → Int32) (a13 : Nat → Int32) (s : Nat) (hs : s ≤ 6) (wc tm : Nat → Nat) (gr : Int32) (hgr : a1 1 = gr) (hw : ∀ i, i < s → a10 i = nI (wc i) ∧ wc i < 6 ∧ a11 i = nI (tm i) ∧ tm i < 10) : ∃ hd' wr', ai_call S 131 [.ref 62] (HP V ((th, tr, ty, nx, tk, pl, va, fa, to, um, nI s, hd, wr), (a0, a1, a2, a3, a4, a5, a6, a7, a8, a9, a10, a11, a12, a13))) = some (some (.int (nI (bs (fun v => z_al (fun i v => z_tp a2 a3 (wc i) (tm i) gr (nI v)) a12 v s) 10))), HP V ((0, tr, ty, nx, tk, pl, va, fa, to, um, nI s, hd', wr'), (a0, a1, a2, a3, a4, a5, a6, a7, a8, a9, a10, a11, a12, a13))) := by
  obtain ⟨h1, w1, q1⟩ := r_softOnes S V 0 tr ty nx tk pl va fa to um te hd wr a0 a1 a2 a3 a4 a5 a6 a7 a8 a9 a10 a11 a12 a13 s hs wc tm gr hgr hw
  refine ⟨h1, w1, ?_⟩
  rw [e_131]
  simp only [k_131_0, k_131_1, w_l5, gl_0, va_r, va_n, w_c0, w_putI, pd_0, t_18_1, rc_0, io_d, t_23, z10, z01, z_bT, z_bF, true_or, or_true, false_or, or_false, Option.bind_some, Option.toList_some, Option.toList_none, List.cons_append, List.nil_append, List.length_cons, List.length_nil, Nat.zero_add, Nat.reduceAdd, Nat.reduceLeDiff, and_self, and_true, true_and, if_true, if_false, reduceCtorEq, ne_eq, not_false_eq_true, not_true_eq_false, ↓reduceIte, Nat.reduceEqDiff, Bool.not_not, q1]
theorem r_ask_b (S : ai_S) (V : sv_V) (th : Int32) (tr : Int64) (ty : Int32) (nx : Int32) (tk : Int32) (pl : Int32) (va : Int32) (fa : Int32) (to : Int32) (um : Int32) (te : Int32) (hd : Int32) (wr : Int32) (a0 : Nat → Int32) (a1 : Nat → Int32) (a2 : Nat → Int32) (a3 : Nat → Int32) (a4 : Nat → Int32) (a5 : Nat → Int32) (a6 : Nat → Int32) (a7 : Nat → Int32) (a8 : Nat → Int32) (a9 : Nat → Int32) (a10 : Nat → Int32) (a11 : Nat → Int32) (a12 : Nat → Int32) (a13 : Nat → Int32) (k : Int32) (h : ¬ (1 ≤ k ∧ k ≤ 9)) : ai_call S 132 [.ref 62, .int k] (HP V ((th, tr, ty, nx, tk, pl, va, fa, to, um, te, hd, wr), (a0, a1, a2, a3, a4, a5, a6, a7, a8, a9, a10, a11, a12, a13))) = some (some (.int (-1)), HP V ((0, tr, ty, nx, tk, pl, va, fa, to, um, te, hd, wr), (a0, a1, a2, a3, a4, a5, a6, a7, a8, a9, a10, a11, a12, a13))) := by
  rw [e_132]
  simp only [k_132_0, k_132_1, k_132_2, w_l5, gl_0, va_r, va_n, w_c0, w_putI, pd_0, w_l3, gl_1, vi_i, w_c1, t_19_3, rc_1, t_3, t_23, z10, z01, z_bT, z_bF, true_or, or_true, false_or, or_false, Option.bind_some, Option.toList_some, Option.toList_none, List.cons_append, List.nil_append, List.length_cons, List.length_nil, Nat.zero_add, Nat.reduceAdd, Nat.reduceLeDiff, and_self, and_true, true_and, if_true, if_false, reduceCtorEq, ne_eq, not_false_eq_true, not_true_eq_false, ↓reduceIte, Nat.reduceEqDiff, Bool.not_not, r_in, z_b_f h]
/-- of the callers below c: the best so far, its part -/
def z_rk (Q : Nat → Nat) (A : Nat) : Nat → Int32 × Nat
  | 0 => (-9, 99)
  | c + 1 => if max (Q c) (A - Q c) < (z_rk Q A c).2 then (nI c, max (Q c) (A - Q c)) else z_rk Q A c
theorem z_rk_le (Q : Nat → Nat) (A : Nat) : ∀ c, (z_rk Q A c).2 ≤ 99
  | 0 => Nat.le_refl _
  | c + 1 => by
    have h := z_rk_le Q A c
    unfold z_rk
    split
    · rename_i h2
      show max (Q c) (A - Q c) ≤ 99
      omega
    · exact h
/-- how many of the velvets below v are of p and odd -/
theorem r_ask (S : ai_S) (V : sv_V) (th : Int32) (tr : Int64) (ty : Int32) (nx : Int32) (tk : Int32) (pl : Int32) (va : Int32) (fa : Int32) (to : Int32) (um : Int32) (te : Int32) (hd : Int32) (wr : Int32) (a0 : Nat → Int32) (a1 : Nat → Int32) (a2 : Nat → Int32) (a3 : Nat → Int32) (a4 : Nat → Int32) (a5 : Nat → Int32) (a6 : Nat → Int32) (a7 : Nat → Int32) (a8 : Nat → Int32) (a9 : Nat → Int32) (a10 : Nat → Int32) (a11 : Nat → Int32) (a12 : Nat → Int32) (a13 : Nat → Int32) (n s K : Nat) (hn : n ≤ 6) (ha : a1 0 = nI n) (hs : s ≤ 6) (hK : K < 10) (h1 : 1 ≤ nI K ∧ nI K ≤ 9) (wc tm : Nat → Nat) (gr : Int32) (hgr : a1 1 = gr) (hw : ∀ i, i < s → a10 i = nI (wc i) ∧ wc i < 6 ∧ a11 i = nI (tm i) ∧ tm i < 10) (p : Nat → Bool) (hp : (fun v => z_al (fun i v => z_tp a2 a3 (wc i) (tm i) gr (nI v)) a12 v s) = p) :
    ∃ hd' wr', ai_call S 132 [.ref 62, .int (nI K)] (HP V ((th, tr, ty, nx, tk, pl, va, fa, to, um, nI s, hd, wr), (a0, a1, a2, a3, a4, a5, a6, a7, a8, a9, a10, a11, a12, a13))) = some (some (.int (if 1 < cnt p 10 then (z_rk (fun c => cnt (fun v => p v && decide (z_tp a2 a3 c K gr (nI v) &&& 1 = 1)) 10) (cnt p 10) n).1 else -9)), HP V ((0, tr, ty, nx, tk, pl, va, fa, to, um, nI s, hd', wr'), (a0, a1, a2, a3, a4, a5, a6, a7, a8, a9, a10, a11, a12, a13))) := by
  obtain ⟨h3, w3, q3⟩ := r_softOnes S V 0 tr ty nx tk pl va fa to um te hd wr a0 a1 a2 a3 a4 a5 a6 a7 a8 a9 a10 a11 a12 a13 s hs wc tm gr hgr hw
  rw [hp] at q3
  have hbl := bs_lt p 10
  have hones : z_on (nI (bs p 10)) 10 = nI (cnt p 10) := by rw [z_on_ct _ (by omega), bs_ct]
  have hbit : ∀ v, v < 10 → (z_bit (nI (bs p 10)) v ↔ p v = true) := by
    intro v hv
    rw [z_bit_n _ v (by omega) (by omega), bs_bit, decide_eq_true hv, Bool.true_and]
  have hcl := cnt_le p 10
  generalize hA : cnt p 10 = A at hones hcl ⊢
  generalize hX : nI (bs p 10) = X at q3 hones hbit
  have inner : ∀ j v c (b1 b2 : Int32) (hd wr : Int32), v + j = 10 → c < 6 → ∃ hd' wr', ai_res S 132 9 [.ref 62, .int (nI K), .int X, .int (nI A), .int b1, .int b2, .int (nI c), .int (nI (cnt (fun v => p v && decide (z_tp a2 a3 c K gr (nI v) &&& 1 = 1)) v)), .int (nI v)] [] (HP V ((0, tr, ty, nx, tk, pl, va, fa, to, um, nI s, hd, wr), (a0, a1, a2, a3, a4, a5, a6, a7, a8, a9, a10, a11, a12, a13))) = ai_res S 132 17 [.ref 62, .int (nI K), .int X, .int (nI A), .int b1, .int b2, .int (nI c), .int (nI (cnt (fun v => p v && decide (z_tp a2 a3 c K gr (nI v) &&& 1 = 1)) 10)), .int (nI 10)] [] (HP V ((0, tr, ty, nx, tk, pl, va, fa, to, um, nI s, hd', wr'), (a0, a1, a2, a3, a4, a5, a6, a7, a8, a9, a10, a11, a12, a13))) := by
    intro j
    induction j with
    | zero =>
      intro v c b1 b2 hd wr hv hc
      have e1 : v = 10 := by omega
      subst e1
      have hge : (10 : Int32) ≤ nI 10 := Int32.le_refl _
      refine ⟨hd, wr, ?_⟩
      rw [k_132_9]
      simp only [w_l4, gl_8, vi_i, w_c1, t_11, z10, z01, z_bT, z_bF, true_or, or_true, false_or, or_false, Option.bind_some, Option.toList_some, Option.toList_none, List.cons_append, List.nil_append, List.length_cons, List.length_nil, Nat.zero_add, Nat.reduceAdd, Nat.reduceLeDiff, and_self, and_true, true_and, if_true, if_false, reduceCtorEq, ne_eq, not_false_eq_true, not_true_eq_false, ↓reduceIte, Nat.reduceEqDiff, Bool.not_not, hge]
    | succ j ih =>
      intro v c b1 b2 hd wr hv hc
      have hlt : ¬ (10 : Int32) ≤ nI v := nI_ge (b := 10) (by omega) (by decide)
      have e0 : cnt (fun v => p v && decide (z_tp a2 a3 c K gr (nI v) &&& 1 = 1)) (v + 1) = cnt (fun v => p v && decide (z_tp a2 a3 c K gr (nI v) &&& 1 = 1)) v + (if (p v && decide (z_tp a2 a3 c K gr (nI v) &&& 1 = 1)) = true then 1 else 0) := rfl
      have hb := hbit v (by omega)
      rw [k_132_9]
      by_cases hz : p v = true
      · have hb2 : (X >>> (nI v &&& 31)) &&& 1 = 1 := hb.mpr hz
        obtain ⟨h4, w4, q4⟩ := r_comesOf S V 0 tr ty nx tk pl va fa to um (nI s) hd wr a0 a1 a2 a3 a4 a5 a6 a7 a8 a9 a10 a11 a12 a13 c K hc hK gr (nI v)
        obtain ⟨h5, w5, q5⟩ := ih (v + 1) c b1 b2 h4 w4 (by omega) hc
        refine ⟨h5, w5, ?_⟩
        rw [e0, hz, Bool.true_and] at q5
        by_cases he : z_tp a2 a3 c K gr (nI v) &&& 1 = 1
        · rw [if_pos (decide_eq_true he)] at q5
          simp only [k_132_10, k_132_11, k_132_12, k_132_13, k_132_14, k_132_16, w_l4, gl_8, vi_i, w_c1, t_11, gl_7, w_l3, gl_2, t_19_2, rc_1, t_2, w_l5, gl_0, va_r, va_n, gl_6, gl_1, w_get, gd_10, id_1, w_c0, w_ald, t_18_5, rc_0, io_d, w_b13, t_9, t_1, w_b10, w_s7, sl_7, ll_7, w_inc, sl_8, z10, z01, z_bT, z_bF, true_or, or_true, false_or, or_false, Option.bind_some, Option.toList_some, Option.toList_none, List.cons_append, List.nil_append, List.length_cons, List.length_nil, Nat.zero_add, Nat.reduceAdd, Nat.reduceLeDiff, and_self, and_true, true_and, if_true, if_false, reduceCtorEq, ne_eq, not_false_eq_true, not_true_eq_false, ↓reduceIte, Nat.reduceEqDiff, Bool.not_not, rl_0_8, rl_1_8, rl_2_8, rl_3_8, rl_4_8, rl_5_8, rl_6_8, rl_7_8, rl_12_18, rl_13_18, rl_14_18, rl_15_18, rl_16_18, rl_17_18, rl_0_2, rl_1_2, cl_0, cl_1, cl_2, cl_3, cl_4, cl_5, cl_6, cl_7, cl_8, cl_9, cl_10, cl_11, cl_12, cl_13, cl_14, cl_15, cl_16, cl_17, hlt, r_has, z_b_t hb2, hgr, q4, he, nI_1]
          exact q5
        · rw [if_neg (by rw [decide_eq_false he]; decide), Nat.add_zero] at q5
          simp only [k_132_10, k_132_11, k_132_12, k_132_13, k_132_15, k_132_16, w_l4, gl_8, vi_i, w_c1, t_11, gl_7, w_l3, gl_2, t_19_2, rc_1, t_2, w_l5, gl_0, va_r, va_n, gl_6, gl_1, w_get, gd_10, id_1, w_c0, w_ald, t_18_5, rc_0, io_d, w_b13, t_9, t_0, w_b10, w_s7, sl_7, ll_7, w_inc, sl_8, t_1, z10, z01, z_bT, z_bF, true_or, or_true, false_or, or_false, Option.bind_some, Option.toList_some, Option.toList_none, List.cons_append, List.nil_append, List.length_cons, List.length_nil, Nat.zero_add, Nat.reduceAdd, Nat.reduceLeDiff, and_self, and_true, true_and, if_true, if_false, reduceCtorEq, ne_eq, not_false_eq_true, not_true_eq_false, ↓reduceIte, Nat.reduceEqDiff, Bool.not_not, rl_0_8, rl_1_8, rl_2_8, rl_3_8, rl_4_8, rl_5_8, rl_6_8, rl_7_8, rl_12_18, rl_13_18, rl_14_18, rl_15_18, rl_16_18, rl_17_18, rl_0_2, rl_1_2, cl_0, cl_1, cl_2, cl_3, cl_4, cl_5, cl_6, cl_7, cl_8, cl_9, cl_10, cl_11, cl_12, cl_13, cl_14, cl_15, cl_16, cl_17, hlt, r_has, z_b_t hb2, hgr, q4, he, nI_1, Int32.add_zero]
          exact q5
      · have hb2 : ¬ (X >>> (nI v &&& 31)) &&& 1 = 1 := fun z => hz (hb.mp z)
        obtain ⟨h5, w5, q5⟩ := ih (v + 1) c b1 b2 hd wr (by omega) hc
        refine ⟨h5, w5, ?_⟩
        rw [e0, Bool.eq_false_iff.mpr hz, Bool.false_and, if_neg (by decide), Nat.add_zero] at q5
        simp only [k_132_10, k_132_11, k_132_15, k_132_16, w_l4, gl_8, vi_i, w_c1, t_11, gl_7, w_l3, gl_2, t_19_2, rc_1, t_2, w_c0, t_0, w_b10, w_s7, sl_7, ll_7, w_inc, sl_8, t_1, z10, z01, z_bT, z_bF, true_or, or_true, false_or, or_false, Option.bind_some, Option.toList_some, Option.toList_none, List.cons_append, List.nil_append, List.length_cons, List.length_nil, Nat.zero_add, Nat.reduceAdd, Nat.reduceLeDiff, and_self, and_true, true_and, if_true, if_false, reduceCtorEq, ne_eq, not_false_eq_true, not_true_eq_false, ↓reduceIte, Nat.reduceEqDiff, Bool.not_not, hlt, r_has, z_b_f hb2, nI_1, Int32.add_zero]
        exact q5
  have hQ : ∀ c, cnt (fun v => p v && decide (z_tp a2 a3 c K gr (nI v) &&& 1 = 1)) 10 ≤ A := by
    intro c
    rw [← hA]
    exact cnt_mono (fun i hi => (Bool.and_eq_true_iff.mp hi).1) 10
  have hAA : nI A ≤ 1 ↔ ¬ 1 < A := by
    rw [show (1 : Int32) = nI 1 from rfl, nI_leI (by omega) (by omega)]
    omega
  by_cases hAl : 1 < A
  · rw [if_pos hAl]
    have hA1 : ¬ nI A ≤ 1 := fun z => hAA.mp z hAl
    have outer : ∀ j c (hd wr : Int32) (x y : Value), c + j = n → ∃ hd' wr', ai_res S 132 6 [.ref 62, .int (nI K), .int X, .int (nI A), .int (z_rk (fun c => cnt (fun v => p v && decide (z_tp a2 a3 c K gr (nI v) &&& 1 = 1)) 10) A c).1, .int (nI (z_rk (fun c => cnt (fun v => p v && decide (z_tp a2 a3 c K gr (nI v) &&& 1 = 1)) 10) A c).2), .int (nI c), x, y] [] (HP V ((0, tr, ty, nx, tk, pl, va, fa, to, um, nI s, hd, wr), (a0, a1, a2, a3, a4, a5, a6, a7, a8, a9, a10, a11, a12, a13))) = some (some (.int (z_rk (fun c => cnt (fun v => p v && decide (z_tp a2 a3 c K gr (nI v) &&& 1 = 1)) 10) A n).1), HP V ((0, tr, ty, nx, tk, pl, va, fa, to, um, nI s, hd', wr'), (a0, a1, a2, a3, a4, a5, a6, a7, a8, a9, a10, a11, a12, a13))) := by
      intro j
      induction j with
      | zero =>
        intro c hd wr x y hc
        have e1 : c = n := by omega
        subst e1
        have hge : nI c ≤ nI c := Int32.le_refl _
        refine ⟨hd, wr, ?_⟩
        rw [k_132_6]
        simp only [k_132_27, w_l4, gl_6, vi_i, w_l5, gl_0, va_r, va_n, w_get, gd_10, id_1, w_c0, w_ald, t_11, gl_4, t_23, z10, z01, z_bT, z_bF, true_or, or_true, false_or, or_false, Option.bind_some, Option.toList_some, Option.toList_none, List.cons_append, List.nil_append, List.length_cons, List.length_nil, Nat.zero_add, Nat.reduceAdd, Nat.reduceLeDiff, and_self, and_true, true_and, if_true, if_false, reduceCtorEq, ne_eq, not_false_eq_true, not_true_eq_false, ↓reduceIte, Nat.reduceEqDiff, Bool.not_not, rl_0_8, rl_1_8, rl_2_8, rl_3_8, rl_4_8, rl_5_8, rl_6_8, rl_7_8, rl_12_18, rl_13_18, rl_14_18, rl_15_18, rl_16_18, rl_17_18, rl_0_2, rl_1_2, cl_0, cl_1, cl_2, cl_3, cl_4, cl_5, cl_6, cl_7, cl_8, cl_9, cl_10, cl_11, cl_12, cl_13, cl_14, cl_15, cl_16, cl_17, ha, hge]
      | succ j ih =>
        intro c hd wr x y hc
        have hlt : ¬ nI n ≤ nI c := nI_ge (by omega) (by omega)
        obtain ⟨h4, w4, q4⟩ := inner 10 0 c (z_rk (fun c => cnt (fun v => p v && decide (z_tp a2 a3 c K gr (nI v) &&& 1 = 1)) 10) A c).1 (nI (z_rk (fun c => cnt (fun v => p v && decide (z_tp a2 a3 c K gr (nI v) &&& 1 = 1)) 10) A c).2) hd wr (by omega) (by omega)
        have hQc := hQ c
        have hle := z_rk_le (fun c => cnt (fun v => p v && decide (z_tp a2 a3 c K gr (nI v) &&& 1 = 1)) 10) A c
        have e0 : z_rk (fun c => cnt (fun v => p v && decide (z_tp a2 a3 c K gr (nI v) &&& 1 = 1)) 10) A (c + 1) = if max (cnt (fun v => p v && decide (z_tp a2 a3 c K gr (nI v) &&& 1 = 1)) 10) (A - cnt (fun v => p v && decide (z_tp a2 a3 c K gr (nI v) &&& 1 = 1)) 10) < (z_rk (fun c => cnt (fun v => p v && decide (z_tp a2 a3 c K gr (nI v) &&& 1 = 1)) 10) A c).2 then (nI c, max (cnt (fun v => p v && decide (z_tp a2 a3 c K gr (nI v) &&& 1 = 1)) 10) (A - cnt (fun v => p v && decide (z_tp a2 a3 c K gr (nI v) &&& 1 = 1)) 10)) else z_rk (fun c => cnt (fun v => p v && decide (z_tp a2 a3 c K gr (nI v) &&& 1 = 1)) 10) A c := rfl
        have hih := fun hd wr x y => ih (c + 1) hd wr x y (by omega)
        rw [e0] at hih
        generalize hB : z_rk (fun c => cnt (fun v => p v && decide (z_tp a2 a3 c K gr (nI v) &&& 1 = 1)) 10) A c = B at q4 hle hih ⊢
        have q4' : ai_res S 132 9 [.ref 62, .int (nI K), .int X, .int (nI A), .int B.1, .int (nI B.2), .int (nI c), .int 0, .int 0] [] (HP V ((0, tr, ty, nx, tk, pl, va, fa, to, um, nI s, hd, wr), (a0, a1, a2, a3, a4, a5, a6, a7, a8, a9, a10, a11, a12, a13))) = _ := q4
        generalize hy : cnt (fun v => p v && decide (z_tp a2 a3 c K gr (nI v) &&& 1 = 1)) 10 = Y at q4' hQc hih
        have e1 : nI A - nI Y = nI (A - Y) := pk_sub hQc
        have emax : (if nI Y ≤ nI (A - Y) then nI (A - Y) else nI Y) = nI (max Y (A - Y)) := by
          by_cases hm : Y ≤ A - Y
          · rw [if_pos (nI_le hm (by omega)), Nat.max_eq_right hm]
          · rw [if_neg (nI_ge (by omega) (by omega)), Nat.max_eq_left (by omega)]
        have i1 : nI (A - Y) ≤ nI (A - Y) := Int32.le_refl _
        by_cases hm : Y ≤ A - Y
        · have hm1 : nI Y ≤ nI (A - Y) := nI_le hm (by omega)
          rw [Nat.max_eq_right hm] at hih
          by_cases hb : A - Y < B.2
          · rw [if_pos hb] at hih
            obtain ⟨h5, w5, q5⟩ := hih h4 w4 (.int (nI Y)) (.int (nI (A - Y)))
            refine ⟨h5, w5, ?_⟩
            have hb1 : ¬ nI B.2 ≤ nI (A - Y) := nI_ge hb (by omega)
            rw [k_132_6]
            simp only [k_132_7, k_132_8, w_l4, gl_6, vi_i, w_l5, gl_0, va_r, va_n, w_get, gd_10, id_1, w_c0, w_ald, t_11, w_l3, gl_3, t_13, w_s7, sl_7, ll_7, sl_8, ll_8, t_0, z10, z01, z_bT, z_bF, true_or, or_true, false_or, or_false, Option.bind_some, Option.toList_some, Option.toList_none, List.cons_append, List.nil_append, List.length_cons, List.length_nil, Nat.zero_add, Nat.reduceAdd, Nat.reduceLeDiff, and_self, and_true, true_and, if_true, if_false, reduceCtorEq, ne_eq, not_false_eq_true, not_true_eq_false, ↓reduceIte, Nat.reduceEqDiff, Bool.not_not, rl_0_8, rl_1_8, rl_2_8, rl_3_8, rl_4_8, rl_5_8, rl_6_8, rl_7_8, rl_12_18, rl_13_18, rl_14_18, rl_15_18, rl_16_18, rl_17_18, rl_0_2, rl_1_2, cl_0, cl_1, cl_2, cl_3, cl_4, cl_5, cl_6, cl_7, cl_8, cl_9, cl_10, cl_11, cl_12, cl_13, cl_14, cl_15, cl_16, cl_17, ha, hlt, hA1]
            rw [q4']
            simp only [k_132_17, k_132_19, k_132_20, k_132_21, k_132_23, k_132_24, k_132_26, w_l4, gl_7, vi_i, w_l3, gl_3, w_b11, t_13, t_0, w_s7, sl_8, ll_8, gl_8, gl_5, t_11, gl_6, t_1, sl_4, ll_4, sl_5, ll_5, w_inc, sl_6, z10, z01, z_bT, z_bF, true_or, or_true, false_or, or_false, Option.bind_some, Option.toList_some, Option.toList_none, List.cons_append, List.nil_append, List.length_cons, List.length_nil, Nat.zero_add, Nat.reduceAdd, Nat.reduceLeDiff, and_self, and_true, true_and, if_true, if_false, reduceCtorEq, ne_eq, not_false_eq_true, not_true_eq_false, ↓reduceIte, Nat.reduceEqDiff, Bool.not_not, e1, hm1, hb1, nI_1]
            exact q5
          · rw [if_neg hb] at hih
            obtain ⟨h5, w5, q5⟩ := hih h4 w4 (.int (nI Y)) (.int (nI (A - Y)))
            refine ⟨h5, w5, ?_⟩
            have hb1 : nI B.2 ≤ nI (A - Y) := nI_le (by omega) (by omega)
            rw [k_132_6]
            simp only [k_132_7, k_132_8, w_l4, gl_6, vi_i, w_l5, gl_0, va_r, va_n, w_get, gd_10, id_1, w_c0, w_ald, t_11, w_l3, gl_3, t_13, w_s7, sl_7, ll_7, sl_8, ll_8, t_0, z10, z01, z_bT, z_bF, true_or, or_true, false_or, or_false, Option.bind_some, Option.toList_some, Option.toList_none, List.cons_append, List.nil_append, List.length_cons, List.length_nil, Nat.zero_add, Nat.reduceAdd, Nat.reduceLeDiff, and_self, and_true, true_and, if_true, if_false, reduceCtorEq, ne_eq, not_false_eq_true, not_true_eq_false, ↓reduceIte, Nat.reduceEqDiff, Bool.not_not, rl_0_8, rl_1_8, rl_2_8, rl_3_8, rl_4_8, rl_5_8, rl_6_8, rl_7_8, rl_12_18, rl_13_18, rl_14_18, rl_15_18, rl_16_18, rl_17_18, rl_0_2, rl_1_2, cl_0, cl_1, cl_2, cl_3, cl_4, cl_5, cl_6, cl_7, cl_8, cl_9, cl_10, cl_11, cl_12, cl_13, cl_14, cl_15, cl_16, cl_17, ha, hlt, hA1]
            rw [q4']
            simp only [k_132_17, k_132_19, k_132_20, k_132_22, k_132_23, k_132_25, k_132_26, w_l4, gl_7, vi_i, w_l3, gl_3, w_b11, t_13, t_0, w_s7, sl_8, ll_8, gl_8, gl_5, t_11, gl_4, sl_4, ll_4, sl_5, ll_5, w_inc, gl_6, sl_6, t_1, z10, z01, z_bT, z_bF, true_or, or_true, false_or, or_false, Option.bind_some, Option.toList_some, Option.toList_none, List.cons_append, List.nil_append, List.length_cons, List.length_nil, Nat.zero_add, Nat.reduceAdd, Nat.reduceLeDiff, and_self, and_true, true_and, if_true, if_false, reduceCtorEq, ne_eq, not_false_eq_true, not_true_eq_false, ↓reduceIte, Nat.reduceEqDiff, Bool.not_not, e1, hm1, hb1, nI_1]
            exact q5
        · have hm1 : ¬ nI Y ≤ nI (A - Y) := nI_ge (by omega) (by omega)
          rw [Nat.max_eq_left (by omega)] at hih
          by_cases hb : Y < B.2
          · rw [if_pos hb] at hih
            obtain ⟨h5, w5, q5⟩ := hih h4 w4 (.int (nI Y)) (.int (nI Y))
            refine ⟨h5, w5, ?_⟩
            have hb1 : ¬ nI B.2 ≤ nI Y := nI_ge hb (by omega)
            rw [k_132_6]
            simp only [k_132_7, k_132_8, w_l4, gl_6, vi_i, w_l5, gl_0, va_r, va_n, w_get, gd_10, id_1, w_c0, w_ald, t_11, w_l3, gl_3, t_13, w_s7, sl_7, ll_7, sl_8, ll_8, t_0, z10, z01, z_bT, z_bF, true_or, or_true, false_or, or_false, Option.bind_some, Option.toList_some, Option.toList_none, List.cons_append, List.nil_append, List.length_cons, List.length_nil, Nat.zero_add, Nat.reduceAdd, Nat.reduceLeDiff, and_self, and_true, true_and, if_true, if_false, reduceCtorEq, ne_eq, not_false_eq_true, not_true_eq_false, ↓reduceIte, Nat.reduceEqDiff, Bool.not_not, rl_0_8, rl_1_8, rl_2_8, rl_3_8, rl_4_8, rl_5_8, rl_6_8, rl_7_8, rl_12_18, rl_13_18, rl_14_18, rl_15_18, rl_16_18, rl_17_18, rl_0_2, rl_1_2, cl_0, cl_1, cl_2, cl_3, cl_4, cl_5, cl_6, cl_7, cl_8, cl_9, cl_10, cl_11, cl_12, cl_13, cl_14, cl_15, cl_16, cl_17, ha, hlt, hA1]
            rw [q4']
            simp only [k_132_17, k_132_18, k_132_20, k_132_21, k_132_23, k_132_24, k_132_26, w_l4, gl_7, vi_i, w_l3, gl_3, w_b11, t_13, t_1, w_s7, sl_8, ll_8, gl_8, gl_5, t_11, gl_6, sl_4, ll_4, sl_5, ll_5, w_inc, sl_6, z10, z01, z_bT, z_bF, true_or, or_true, false_or, or_false, Option.bind_some, Option.toList_some, Option.toList_none, List.cons_append, List.nil_append, List.length_cons, List.length_nil, Nat.zero_add, Nat.reduceAdd, Nat.reduceLeDiff, and_self, and_true, true_and, if_true, if_false, reduceCtorEq, ne_eq, not_false_eq_true, not_true_eq_false, ↓reduceIte, Nat.reduceEqDiff, Bool.not_not, e1, hm1, hb1, nI_1]
            exact q5
          · rw [if_neg hb] at hih
            obtain ⟨h5, w5, q5⟩ := hih h4 w4 (.int (nI Y)) (.int (nI Y))
            refine ⟨h5, w5, ?_⟩
            have hb1 : nI B.2 ≤ nI Y := nI_le (by omega) (by omega)
            rw [k_132_6]
            simp only [k_132_7, k_132_8, w_l4, gl_6, vi_i, w_l5, gl_0, va_r, va_n, w_get, gd_10, id_1, w_c0, w_ald, t_11, w_l3, gl_3, t_13, w_s7, sl_7, ll_7, sl_8, ll_8, t_0, z10, z01, z_bT, z_bF, true_or, or_true, false_or, or_false, Option.bind_some, Option.toList_some, Option.toList_none, List.cons_append, List.nil_append, List.length_cons, List.length_nil, Nat.zero_add, Nat.reduceAdd, Nat.reduceLeDiff, and_self, and_true, true_and, if_true, if_false, reduceCtorEq, ne_eq, not_false_eq_true, not_true_eq_false, ↓reduceIte, Nat.reduceEqDiff, Bool.not_not, rl_0_8, rl_1_8, rl_2_8, rl_3_8, rl_4_8, rl_5_8, rl_6_8, rl_7_8, rl_12_18, rl_13_18, rl_14_18, rl_15_18, rl_16_18, rl_17_18, rl_0_2, rl_1_2, cl_0, cl_1, cl_2, cl_3, cl_4, cl_5, cl_6, cl_7, cl_8, cl_9, cl_10, cl_11, cl_12, cl_13, cl_14, cl_15, cl_16, cl_17, ha, hlt, hA1]
            rw [q4']
            simp only [k_132_17, k_132_18, k_132_20, k_132_22, k_132_23, k_132_25, k_132_26, w_l4, gl_7, vi_i, w_l3, gl_3, w_b11, t_13, t_1, w_s7, sl_8, ll_8, gl_8, gl_5, t_11, gl_4, t_0, sl_4, ll_4, sl_5, ll_5, w_inc, gl_6, sl_6, z10, z01, z_bT, z_bF, true_or, or_true, false_or, or_false, Option.bind_some, Option.toList_some, Option.toList_none, List.cons_append, List.nil_append, List.length_cons, List.length_nil, Nat.zero_add, Nat.reduceAdd, Nat.reduceLeDiff, and_self, and_true, true_and, if_true, if_false, reduceCtorEq, ne_eq, not_false_eq_true, not_true_eq_false, ↓reduceIte, Nat.reduceEqDiff, Bool.not_not, e1, hm1, hb1, nI_1]
            exact q5
    obtain ⟨h5, w5, q5⟩ := outer n 0 h3 w3 ai_u ai_u (by omega)
    refine ⟨h5, w5, ?_⟩
    rw [e_132]
    simp only [k_132_0, k_132_1, k_132_3, k_132_4, k_132_5, w_l5, gl_0, va_r, va_n, w_c0, w_putI, pd_0, w_l3, gl_1, vi_i, w_c1, t_19_3, rc_1, t_3, t_18_1, rc_0, io_d, w_s6, sl_2, ll_2, gl_2, t_19_1, sl_3, ll_3, w_s7, sl_4, ll_4, sl_5, ll_5, sl_6, ll_6, t_0, z10, z01, z_bT, z_bF, true_or, or_true, false_or, or_false, Option.bind_some, Option.toList_some, Option.toList_none, List.cons_append, List.nil_append, List.length_cons, List.length_nil, Nat.zero_add, Nat.reduceAdd, Nat.reduceLeDiff, and_self, and_true, true_and, if_true, if_false, reduceCtorEq, ne_eq, not_false_eq_true, not_true_eq_false, ↓reduceIte, Nat.reduceEqDiff, Bool.not_not, r_in, z_b_t h1, q3, r_ones, hones]
    exact q5
  · rw [if_neg hAl]
    have hA1 : nI A ≤ 1 := hAA.mpr hAl
    refine ⟨h3, w3, ?_⟩
    rw [e_132]
    by_cases hn0 : nI n ≤ 0
    · simp only [k_132_0, k_132_1, k_132_3, k_132_4, k_132_5, k_132_6, k_132_27, w_l5, gl_0, va_r, va_n, w_c0, w_putI, pd_0, w_l3, gl_1, vi_i, w_c1, t_19_3, rc_1, t_3, t_18_1, rc_0, io_d, w_s6, sl_2, ll_2, gl_2, t_19_1, sl_3, ll_3, w_s7, sl_4, ll_4, sl_5, ll_5, sl_6, ll_6, t_0, w_l4, gl_6, w_get, gd_10, id_1, w_ald, t_11, gl_4, t_23, z10, z01, z_bT, z_bF, true_or, or_true, false_or, or_false, Option.bind_some, Option.toList_some, Option.toList_none, List.cons_append, List.nil_append, List.length_cons, List.length_nil, Nat.zero_add, Nat.reduceAdd, Nat.reduceLeDiff, and_self, and_true, true_and, if_true, if_false, reduceCtorEq, ne_eq, not_false_eq_true, not_true_eq_false, ↓reduceIte, Nat.reduceEqDiff, Bool.not_not, rl_0_8, rl_1_8, rl_2_8, rl_3_8, rl_4_8, rl_5_8, rl_6_8, rl_7_8, rl_12_18, rl_13_18, rl_14_18, rl_15_18, rl_16_18, rl_17_18, rl_0_2, rl_1_2, cl_0, cl_1, cl_2, cl_3, cl_4, cl_5, cl_6, cl_7, cl_8, cl_9, cl_10, cl_11, cl_12, cl_13, cl_14, cl_15, cl_16, cl_17, ha, r_in, z_b_t h1, q3, r_ones, hones, hn0]
    · simp only [k_132_0, k_132_1, k_132_3, k_132_4, k_132_5, k_132_6, k_132_7, k_132_27, w_l5, gl_0, va_r, va_n, w_c0, w_putI, pd_0, w_l3, gl_1, vi_i, w_c1, t_19_3, rc_1, t_3, t_18_1, rc_0, io_d, w_s6, sl_2, ll_2, gl_2, t_19_1, sl_3, ll_3, w_s7, sl_4, ll_4, sl_5, ll_5, sl_6, ll_6, t_0, w_l4, gl_6, w_get, gd_10, id_1, w_ald, t_11, gl_3, t_13, gl_4, t_23, z10, z01, z_bT, z_bF, true_or, or_true, false_or, or_false, Option.bind_some, Option.toList_some, Option.toList_none, List.cons_append, List.nil_append, List.length_cons, List.length_nil, Nat.zero_add, Nat.reduceAdd, Nat.reduceLeDiff, and_self, and_true, true_and, if_true, if_false, reduceCtorEq, ne_eq, not_false_eq_true, not_true_eq_false, ↓reduceIte, Nat.reduceEqDiff, Bool.not_not, rl_0_8, rl_1_8, rl_2_8, rl_3_8, rl_4_8, rl_5_8, rl_6_8, rl_7_8, rl_12_18, rl_13_18, rl_14_18, rl_15_18, rl_16_18, rl_17_18, rl_0_2, rl_1_2, cl_0, cl_1, cl_2, cl_3, cl_4, cl_5, cl_6, cl_7, cl_8, cl_9, cl_10, cl_11, cl_12, cl_13, cl_14, cl_15, cl_16, cl_17, ha, r_in, z_b_t h1, q3, r_ones, hones, hn0, hA1]
theorem r_odds_b (S : ai_S) (V : sv_V) (th : Int32) (tr : Int64) (ty : Int32) (nx : Int32) (tk : Int32) (pl : Int32) (va : Int32) (fa : Int32) (to : Int32) (um : Int32) (te : Int32) (hd : Int32) (wr : Int32) (a0 : Nat → Int32) (a1 : Nat → Int32) (a2 : Nat → Int32) (a3 : Nat → Int32) (a4 : Nat → Int32) (a5 : Nat → Int32) (a6 : Nat → Int32) (a7 : Nat → Int32) (a8 : Nat → Int32) (a9 : Nat → Int32) (a10 : Nat → Int32) (a11 : Nat → Int32) (a12 : Nat → Int32) (a13 : Nat → Int32) (x k w : Int32) (hb : ¬ ((0 ≤ x ∧ x ≤ 10) ∧ (0 ≤ k ∧ k ≤ 6) ∧ (0 ≤ w ∧ w ≤ 1))) : ai_call S 127 [.ref 62, .int x, .int k, .int w] (HP V ((th, tr, ty, nx, tk, pl, va, fa, to, um, te, hd, wr), (a0, a1, a2, a3, a4, a5, a6, a7, a8, a9, a10, a11, a12, a13))) = some (some (.int (-1)), HP V ((0, tr, ty, nx, tk, pl, va, fa, to, um, te, hd, wr), (a0, a1, a2, a3, a4, a5, a6, a7, a8, a9, a10, a11, a12, a13))) := by
  rw [e_127]
  by_cases h1 : 0 ≤ x ∧ x ≤ 10
  · by_cases h2 : 0 ≤ k ∧ k ≤ 6
    · have h3 : ¬ (0 ≤ w ∧ w ≤ 1) := fun z => hb ⟨h1, h2, z⟩
      simp only [k_127_0, k_127_1, k_127_2, k_127_3, k_127_4, k_127_5, k_127_6, w_l5, gl_0, va_r, va_n, w_c0, w_putI, pd_0, w_l3, gl_1, vi_i, w_c1, t_19_3, rc_1, t_2, gl_2, gl_3, t_3, t_23, z10, z01, z_bT, z_bF, true_or, or_true, false_or, or_false, Option.bind_some, Option.toList_some, Option.toList_none, List.cons_append, List.nil_append, List.length_cons, List.length_nil, Nat.zero_add, Nat.reduceAdd, Nat.reduceLeDiff, and_self, and_true, true_and, if_true, if_false, reduceCtorEq, ne_eq, not_false_eq_true, not_true_eq_false, ↓reduceIte, Nat.reduceEqDiff, Bool.not_not, r_in, z_b_t h1, z_b_t h2, z_b_f h3]
    · simp only [k_127_0, k_127_1, k_127_2, k_127_3, k_127_4, k_127_5, k_127_6, w_l5, gl_0, va_r, va_n, w_c0, w_putI, pd_0, w_l3, gl_1, vi_i, w_c1, t_19_3, rc_1, t_2, gl_2, gl_3, t_3, t_23, z10, z01, z_bT, z_bF, true_or, or_true, false_or, or_false, Option.bind_some, Option.toList_some, Option.toList_none, List.cons_append, List.nil_append, List.length_cons, List.length_nil, Nat.zero_add, Nat.reduceAdd, Nat.reduceLeDiff, and_self, and_true, true_and, if_true, if_false, reduceCtorEq, ne_eq, not_false_eq_true, not_true_eq_false, ↓reduceIte, Nat.reduceEqDiff, Bool.not_not, r_in, z_b_t h1, z_b_f h2]
  · simp only [k_127_0, k_127_1, k_127_2, k_127_3, k_127_4, k_127_5, k_127_6, w_l5, gl_0, va_r, va_n, w_c0, w_putI, pd_0, w_l3, gl_1, vi_i, w_c1, t_19_3, rc_1, t_2, gl_2, gl_3, t_3, t_23, z10, z01, z_bT, z_bF, true_or, or_true, false_or, or_false, Option.bind_some, Option.toList_some, Option.toList_none, List.cons_append, List.nil_append, List.length_cons, List.length_nil, Nat.zero_add, Nat.reduceAdd, Nat.reduceLeDiff, and_self, and_true, true_and, if_true, if_false, reduceCtorEq, ne_eq, not_false_eq_true, not_true_eq_false, ↓reduceIte, Nat.reduceEqDiff, Bool.not_not, r_in, z_b_f h1]
theorem r_odds (S : ai_S) (V : sv_V) (th : Int32) (tr : Int64) (ty : Int32) (nx : Int32) (tk : Int32) (pl : Int32) (va : Int32) (fa : Int32) (to : Int32) (um : Int32) (te : Int32) (hd : Int32) (wr : Int32) (a0 : Nat → Int32) (a1 : Nat → Int32) (a2 : Nat → Int32) (a3 : Nat → Int32) (a4 : Nat → Int32) (a5 : Nat → Int32) (a6 : Nat → Int32) (a7 : Nat → Int32) (a8 : Nat → Int32) (a9 : Nat → Int32) (a10 : Nat → Int32) (a11 : Nat → Int32) (a12 : Nat → Int32) (a13 : Nat → Int32) (n l X K : Nat) (hn : n ≤ 6) (ha : a1 0 = nI n) (hl : l < 64) (h13 : a6 13 = nI l) (hc : z_ct l ≤ n) (hX : X ≤ 10) (hK : K ≤ 6) (w : Int32) (hw : w = 0 ∨ w = 1) : ai_call S 127 [.ref 62, .int (nI X), .int (nI K), .int w] (HP V ((th, tr, ty, nx, tk, pl, va, fa, to, um, te, hd, wr), (a0, a1, a2, a3, a4, a5, a6, a7, a8, a9, a10, a11, a12, a13))) = some (some (.int (z_odds X K (n - z_ct l) w)), HP V ((0, tr, ty, nx, tk, pl, va, fa, to, um, te, hd, wr), (a0, a1, a2, a3, a4, a5, a6, a7, a8, a9, a10, a11, a12, a13))) := by
  have h1 : 0 ≤ nI X ∧ nI X ≤ 10 := ⟨nI_pos' (by omega), nI_le (b := 10) hX (by decide)⟩
  have h2 : 0 ≤ nI K ∧ nI K ≤ 6 := ⟨nI_pos' (by omega), nI_le (b := 6) hK (by decide)⟩
  have h3 : 0 ≤ w ∧ w ≤ 1 := by rcases hw with rfl | rfl <;> decide
  have eh : nI n - nI (z_ct l) = nI (n - z_ct l) := pk_sub hc
  have hh : n - z_ct l ≤ 6 := by omega
  unfold z_odds
  generalize n - z_ct l = h at eh hh ⊢
  have hU := z_U_le X hX K hK h hh
  obtain ⟨t1, t2⟩ := z_ten h hh
  have hpl := z_pow_le h hh
  have key : ∀ j s (x : Value), s + j = 2 ^ h → ai_res S 127 9 [.ref 62, .int (nI X), .int (nI K), .int w, .int (nI h), .int (nI (z_U X K h s)), .int (nI s), x] [] (HP V ((0, tr, ty, nx, tk, pl, va, fa, to, um, te, hd, wr), (a0, a1, a2, a3, a4, a5, a6, a7, a8, a9, a10, a11, a12, a13))) = ai_res S 127 19 [.ref 62, .int (nI X), .int (nI K), .int w, .int (nI h), .int (nI (z_U X K h (2 ^ h))), .int (nI (2 ^ h)), x] [] (HP V ((0, tr, ty, nx, tk, pl, va, fa, to, um, te, hd, wr), (a0, a1, a2, a3, a4, a5, a6, a7, a8, a9, a10, a11, a12, a13))) := by
    intro j
    induction j with
    | zero =>
      intro s x hs
      have e1 : s = 2 ^ h := by omega
      subst e1
      have hge : nI (2 ^ h) ≤ nI (2 ^ h) := Int32.le_refl _
      rw [k_127_9]
      simp only [w_l4, gl_6, vi_i, w_c0, gl_4, w_b15, t_11, z10, z01, z_bT, z_bF, true_or, or_true, false_or, or_false, Option.bind_some, Option.toList_some, Option.toList_none, List.cons_append, List.nil_append, List.length_cons, List.length_nil, Nat.zero_add, Nat.reduceAdd, Nat.reduceLeDiff, and_self, and_true, true_and, if_true, if_false, reduceCtorEq, ne_eq, not_false_eq_true, not_true_eq_false, ↓reduceIte, Nat.reduceEqDiff, Bool.not_not, z_one_pow h hh, hge]
    | succ j ih =>
      intro s x hs
      have hlt : ¬ nI (2 ^ h) ≤ nI s := nI_ge (by omega) (by omega)
      have hcs := z_ct_le h hh s (by omega)
      have h2 := fun x => ih (s + 1) x (by omega)
      have e10 : (10 : Int32) - nI X = nI (10 - X) := pk_sub (a := 10) hX
      have ehs : nI h - nI (z_ct s) = nI (h - z_ct s) := pk_sub hcs
      have hq1 : z_ct s < 100 := by omega
      have hq2 : h - z_ct s < 100 := by omega
      have hon := z_on_ct s (by omega)
      rw [k_127_9]
      by_cases hz : K < z_ct s
      · have hz2 : nI K < nI (z_ct s) := nI_lt hz (by omega)
        simp only [k_127_10, k_127_11, k_127_17, k_127_18, w_l4, gl_6, vi_i, w_c0, gl_4, w_b15, t_11, gl_5, t_19_1, rc_1, w_l3, gl_2, t_12, t_0, w_b10, w_s7, sl_5, ll_5, w_inc, sl_6, t_1, z10, z01, z_bT, z_bF, true_or, or_true, false_or, or_false, Option.bind_some, Option.toList_some, Option.toList_none, List.cons_append, List.nil_append, List.length_cons, List.length_nil, Nat.zero_add, Nat.reduceAdd, Nat.reduceLeDiff, and_self, and_true, true_and, if_true, if_false, reduceCtorEq, ne_eq, not_false_eq_true, not_true_eq_false, ↓reduceIte, Nat.reduceEqDiff, Bool.not_not, z_one_pow h hh, hlt, r_ones, hon, hz2, nI_1, Int32.add_zero]
        rw [z_U, if_pos hz] at h2
        exact h2 _
      · have hz2 : ¬ nI K < nI (z_ct s) := nI_nlt (by omega) (by omega)
        simp only [k_127_10, k_127_11, k_127_12, k_127_13, k_127_14, k_127_15, k_127_16, k_127_18, w_l4, gl_6, vi_i, w_c0, gl_4, w_b15, t_11, gl_5, t_19_1, rc_1, w_l3, gl_2, t_12, gl_1, t_19_2, w_c1, w_b11, w_b12, t_1, w_b10, w_s7, sl_5, ll_5, w_inc, sl_6, z10, z01, z_bT, z_bF, true_or, or_true, false_or, or_false, Option.bind_some, Option.toList_some, Option.toList_none, List.cons_append, List.nil_append, List.length_cons, List.length_nil, Nat.zero_add, Nat.reduceAdd, Nat.reduceLeDiff, and_self, and_true, true_and, if_true, if_false, reduceCtorEq, ne_eq, not_false_eq_true, not_true_eq_false, ↓reduceIte, Nat.reduceEqDiff, Bool.not_not, z_one_pow h hh, hlt, r_ones, hon, hz2, nI_1, r_power, hq1, hq2, e10, ehs, z_pw_n, pk_mul, nI_add]
        rw [z_U, if_neg hz] at h2
        exact h2 _
  have k0 := key (2 ^ h) 0 ai_u (by omega)
  have k0' : ai_res S 127 9 [.ref 62, .int (nI X), .int (nI K), .int w, .int (nI h), .int 0, .int 0, ai_u] [] (HP V ((0, tr, ty, nx, tk, pl, va, fa, to, um, te, hd, wr), (a0, a1, a2, a3, a4, a5, a6, a7, a8, a9, a10, a11, a12, a13))) = _ := k0
  have hp10 : z_pw 10 h = nI (10 ^ h) := z_pw_n 10 h
  have hh100 : h < 100 := by omega
  generalize z_U X K h (2 ^ h) = U at hU k0' ⊢
  have hcd := fun hp : ai_H => r_gcd S hp U (10 ^ h) hU t1
  rw [Nat.gcd_comm U] at hcd
  have hg : 0 < Nat.gcd (10 ^ h) U := Nat.gcd_pos_of_pos_left _ t2
  have hgl : Nat.gcd (10 ^ h) U ≤ 10 ^ h := Nat.gcd_le_left _ t2
  have g0 : ¬ nI (Nat.gcd (10 ^ h) U) = 0 := nI_ne0 hg (by omega)
  have d1 : nI U / nI (Nat.gcd (10 ^ h) U) = nI (U / Nat.gcd (10 ^ h) U) := pk_div (by omega) hg (by omega)
  have d2 : nI (10 ^ h) / nI (Nat.gcd (10 ^ h) U) = nI (10 ^ h / Nat.gcd (10 ^ h) U) := pk_div (by omega) hg (by omega)
  have hon := z_on_ct l (by omega)
  rw [e_127]
  simp only [k_127_0, k_127_1, k_127_2, k_127_3, k_127_4, k_127_5, k_127_7, k_127_8, w_l5, gl_0, va_r, va_n, w_c0, w_putI, pd_0, w_l3, gl_1, vi_i, w_c1, t_19_3, rc_1, t_2, gl_2, gl_3, t_3, w_get, gd_10, id_1, w_ald, gd_15, id_6, t_19_1, w_b11, w_s7, sl_4, ll_4, sl_5, ll_5, sl_6, ll_6, t_0, z10, z01, z_bT, z_bF, true_or, or_true, false_or, or_false, Option.bind_some, Option.toList_some, Option.toList_none, List.cons_append, List.nil_append, List.length_cons, List.length_nil, Nat.zero_add, Nat.reduceAdd, Nat.reduceLeDiff, and_self, and_true, true_and, if_true, if_false, reduceCtorEq, ne_eq, not_false_eq_true, not_true_eq_false, ↓reduceIte, Nat.reduceEqDiff, Bool.not_not, rl_0_8, rl_1_8, rl_2_8, rl_3_8, rl_4_8, rl_5_8, rl_6_8, rl_7_8, rl_12_18, rl_13_18, rl_14_18, rl_15_18, rl_16_18, rl_17_18, rl_0_2, rl_1_2, cl_0, cl_1, cl_2, cl_3, cl_4, cl_5, cl_6, cl_7, cl_8, cl_9, cl_10, cl_11, cl_12, cl_13, cl_14, cl_15, cl_16, cl_17, r_in, z_b_t h1, z_b_t h2, z_b_t h3, ha, h13, r_ones, hon, eh]
  rw [k0']
  rcases hw with rfl | rfl
  · simp only [k_127_19, k_127_20, k_127_21, k_127_22, k_127_24, w_c1, w_l4, gl_4, vi_i, t_19_2, rc_1, w_s7, sl_6, ll_6, gl_5, gl_6, sl_7, ll_7, w_l3, gl_3, t_3, gl_7, w_b18, t_1, t_23, z10, z01, z_bT, z_bF, true_or, or_true, false_or, or_false, Option.bind_some, Option.toList_some, Option.toList_none, List.cons_append, List.nil_append, List.length_cons, List.length_nil, Nat.zero_add, Nat.reduceAdd, Nat.reduceLeDiff, and_self, and_true, true_and, if_true, if_false, reduceCtorEq, ne_eq, not_false_eq_true, not_true_eq_false, ↓reduceIte, Nat.reduceEqDiff, Bool.not_not, r_power, hh100, hp10, hcd, g0, d1]
  · simp only [k_127_19, k_127_20, k_127_21, k_127_23, k_127_24, w_c1, w_l4, gl_4, vi_i, t_19_2, rc_1, w_s7, sl_6, ll_6, gl_5, gl_6, sl_7, ll_7, w_l3, gl_3, t_3, gl_7, w_b18, t_0, t_23, z10, z01, z_bT, z_bF, true_or, or_true, false_or, or_false, Option.bind_some, Option.toList_some, Option.toList_none, List.cons_append, List.nil_append, List.length_cons, List.length_nil, Nat.zero_add, Nat.reduceAdd, Nat.reduceLeDiff, and_self, and_true, true_and, if_true, if_false, reduceCtorEq, ne_eq, not_false_eq_true, not_true_eq_false, ↓reduceIte, Nat.reduceEqDiff, Bool.not_not, r_power, hh100, hp10, hcd, g0, d2]
