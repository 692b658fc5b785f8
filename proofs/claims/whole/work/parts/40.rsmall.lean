/-! the reference: small methods -/
theorem rl_0_8 (f : ai_A) : ai_rg (0 : Int32) 8 f = f := if_neg (by decide)
theorem rl_1_8 (f : ai_A) : ai_rg (1 : Int32) 8 f = f := if_neg (by decide)
theorem rl_2_8 (f : ai_A) : ai_rg (2 : Int32) 8 f = f := if_neg (by decide)
theorem rl_3_8 (f : ai_A) : ai_rg (3 : Int32) 8 f = f := if_neg (by decide)
theorem rl_4_8 (f : ai_A) : ai_rg (4 : Int32) 8 f = f := if_neg (by decide)
theorem rl_5_8 (f : ai_A) : ai_rg (5 : Int32) 8 f = f := if_neg (by decide)
theorem rl_6_8 (f : ai_A) : ai_rg (6 : Int32) 8 f = f := if_neg (by decide)
theorem rl_7_8 (f : ai_A) : ai_rg (7 : Int32) 8 f = f := if_neg (by decide)
theorem rl_12_18 (f : ai_A) : ai_rg (12 : Int32) 18 f = f := if_neg (by decide)
theorem rl_13_18 (f : ai_A) : ai_rg (13 : Int32) 18 f = f := if_neg (by decide)
theorem rl_14_18 (f : ai_A) : ai_rg (14 : Int32) 18 f = f := if_neg (by decide)
theorem rl_15_18 (f : ai_A) : ai_rg (15 : Int32) 18 f = f := if_neg (by decide)
theorem rl_16_18 (f : ai_A) : ai_rg (16 : Int32) 18 f = f := if_neg (by decide)
theorem rl_17_18 (f : ai_A) : ai_rg (17 : Int32) 18 f = f := if_neg (by decide)
theorem rl_0_2 (f : ai_A) : ai_rg (0 : Int32) 2 f = f := if_neg (by decide)
theorem rl_1_2 (f : ai_A) : ai_rg (1 : Int32) 2 f = f := if_neg (by decide)
theorem cl_0 : (0 : Int32).toNatClampNeg = 0 := by decide
theorem cl_1 : (1 : Int32).toNatClampNeg = 1 := by decide
theorem cl_2 : (2 : Int32).toNatClampNeg = 2 := by decide
theorem cl_3 : (3 : Int32).toNatClampNeg = 3 := by decide
theorem cl_4 : (4 : Int32).toNatClampNeg = 4 := by decide
theorem cl_5 : (5 : Int32).toNatClampNeg = 5 := by decide
theorem cl_6 : (6 : Int32).toNatClampNeg = 6 := by decide
theorem cl_7 : (7 : Int32).toNatClampNeg = 7 := by decide
theorem cl_8 : (8 : Int32).toNatClampNeg = 8 := by decide
theorem cl_9 : (9 : Int32).toNatClampNeg = 9 := by decide
theorem cl_10 : (10 : Int32).toNatClampNeg = 10 := by decide
theorem cl_11 : (11 : Int32).toNatClampNeg = 11 := by decide
theorem cl_12 : (12 : Int32).toNatClampNeg = 12 := by decide
theorem cl_13 : (13 : Int32).toNatClampNeg = 13 := by decide
theorem cl_14 : (14 : Int32).toNatClampNeg = 14 := by decide
theorem cl_15 : (15 : Int32).toNatClampNeg = 15 := by decide
theorem cl_16 : (16 : Int32).toNatClampNeg = 16 := by decide
theorem cl_17 : (17 : Int32).toNatClampNeg = 17 := by decide
theorem z_add0 (c : Int32) : (0 : Int32) + c = c := Int32.zero_add c
theorem z_add6 (k : Nat) : (6 : Int32) + nI k = nI (6 + k) := nI_add 6 k
theorem z_b_iff {p q : Prop} [Decidable p] [Decidable q] (h : p ↔ q) : z_b p = z_b q := by
  by_cases hp : p
  · rw [z_b_t hp, z_b_t (h.mp hp)]
  · rw [z_b_f hp, z_b_f (fun z => hp (h.mpr z))]
theorem r_in (S : ai_S) (v l u : Int32) (h : ai_H) : ai_call S 85 [.int v, .int l, .int u] h = some (some (.int (z_b (l ≤ v ∧ v ≤ u))), h) := by
  rw [e_85]
  by_cases h1 : v < l
  · have h3 : ¬ (l ≤ v ∧ v ≤ u) := fun z => Int32.not_le.mpr h1 z.1
    rw [z_b_f h3]
    simp only [k_85_0, k_85_1, k_85_2, k_85_3, k_85_4, w_l3, gl_0, vi_i, gl_1, t_10, gl_2, t_12, w_c0, t_1, t_0, t_24_0, t_24_1, z10, z01, z_bT, z_bF, true_or, or_true, false_or, or_false, Option.bind_some, Option.toList_some, Option.toList_none, List.cons_append, List.nil_append, List.length_cons, List.length_nil, Nat.zero_add, Nat.reduceAdd, Nat.reduceLeDiff, and_self, and_true, true_and, if_true, if_false, reduceCtorEq, ne_eq, not_false_eq_true, not_true_eq_false, ↓reduceIte, Nat.reduceEqDiff, Bool.not_not, h1]
  · by_cases h2 : u < v
    · have h3 : ¬ (l ≤ v ∧ v ≤ u) := fun z => Int32.not_le.mpr h2 z.2
      rw [z_b_f h3]
      simp only [k_85_0, k_85_1, k_85_2, k_85_3, k_85_4, w_l3, gl_0, vi_i, gl_1, t_10, gl_2, t_12, w_c0, t_1, t_0, t_24_0, t_24_1, z10, z01, z_bT, z_bF, true_or, or_true, false_or, or_false, Option.bind_some, Option.toList_some, Option.toList_none, List.cons_append, List.nil_append, List.length_cons, List.length_nil, Nat.zero_add, Nat.reduceAdd, Nat.reduceLeDiff, and_self, and_true, true_and, if_true, if_false, reduceCtorEq, ne_eq, not_false_eq_true, not_true_eq_false, ↓reduceIte, Nat.reduceEqDiff, Bool.not_not, h1, h2]
    · have h3 : l ≤ v ∧ v ≤ u := ⟨Int32.not_lt.mp h1, Int32.not_lt.mp h2⟩
      rw [z_b_t h3]
      simp only [k_85_0, k_85_1, k_85_2, k_85_3, k_85_4, w_l3, gl_0, vi_i, gl_1, t_10, gl_2, t_12, w_c0, t_1, t_0, t_24_0, t_24_1, z10, z01, z_bT, z_bF, true_or, or_true, false_or, or_false, Option.bind_some, Option.toList_some, Option.toList_none, List.cons_append, List.nil_append, List.length_cons, List.length_nil, Nat.zero_add, Nat.reduceAdd, Nat.reduceLeDiff, and_self, and_true, true_and, if_true, if_false, reduceCtorEq, ne_eq, not_false_eq_true, not_true_eq_false, ↓reduceIte, Nat.reduceEqDiff, Bool.not_not, h1, h2]
theorem r_has (S : ai_S) (a k : Int32) (h : ai_H) : ai_call S 86 [.int a, .int k] h = some (some (.int (z_b ((a >>> (k &&& 31)) &&& 1 = 1))), h) := by
  rw [e_86]
  by_cases hc : (a >>> (k &&& 31)) &&& 1 = 1
  · simp only [k_86_0, k_86_1, k_86_2, k_86_3, w_l3, gl_0, vi_i, gl_1, w_b16, w_c0, w_b13, t_9, t_1, t_0, t_24_0, t_24_1, z10, z01, z_bT, z_bF, true_or, or_true, false_or, or_false, Option.bind_some, Option.toList_some, Option.toList_none, List.cons_append, List.nil_append, List.length_cons, List.length_nil, Nat.zero_add, Nat.reduceAdd, Nat.reduceLeDiff, and_self, and_true, true_and, if_true, if_false, reduceCtorEq, ne_eq, not_false_eq_true, not_true_eq_false, ↓reduceIte, Nat.reduceEqDiff, Bool.not_not, hc, z_b_t]
  · simp only [k_86_0, k_86_1, k_86_2, k_86_3, w_l3, gl_0, vi_i, gl_1, w_b16, w_c0, w_b13, t_9, t_1, t_0, t_24_0, t_24_1, z10, z01, z_bT, z_bF, true_or, or_true, false_or, or_false, Option.bind_some, Option.toList_some, Option.toList_none, List.cons_append, List.nil_append, List.length_cons, List.length_nil, Nat.zero_add, Nat.reduceAdd, Nat.reduceLeDiff, and_self, and_true, true_and, if_true, if_false, reduceCtorEq, ne_eq, not_false_eq_true, not_true_eq_false, ↓reduceIte, Nat.reduceEqDiff, Bool.not_not, hc, z_b_f]
def z_on (a : Int32) : Nat → Int32
  | 0 => 0
  | k + 1 => z_on a k + ((a >>> (nI k &&& 31)) &&& 1)
theorem r_ones (S : ai_S) (a : Int32) (h : ai_H) : ai_call S 87 [.int a] h = some (some (.int (z_on a 10)), h) := by
  rw [e_87]
  have key : ∀ j k, k + j = 10 → ai_res S 87 1 [.int a, .int (z_on a k), .int (nI k)] [] h = some (some (.int (z_on a 10)), h) := by
    intro j
    induction j with
    | zero =>
      intro k hk
      have e1 : k = 10 := by omega
      subst e1
      have hge : (10 : Int32) ≤ nI 10 := Int32.le_refl _
      rw [k_87_1]
      simp only [k_87_0, k_87_2, k_87_3, w_c0, w_s6, sl_1, ll_1, sl_2, ll_2, t_0, w_l3, gl_2, vi_i, w_c1, t_11, gl_1, gl_0, w_b16, w_b13, w_b10, w_inc, t_1, t_23, z10, z01, z_bT, z_bF, true_or, or_true, false_or, or_false, Option.bind_some, Option.toList_some, Option.toList_none, List.cons_append, List.nil_append, List.length_cons, List.length_nil, Nat.zero_add, Nat.reduceAdd, Nat.reduceLeDiff, and_self, and_true, true_and, if_true, if_false, reduceCtorEq, ne_eq, not_false_eq_true, not_true_eq_false, ↓reduceIte, Nat.reduceEqDiff, Bool.not_not, hge]
    | succ j ih =>
      intro k hk
      have hlt : ¬ (10 : Int32) ≤ nI k := nI_ge (b := 10) (by omega) (by omega)
      have h2 := ih (k + 1) (by omega)
      rw [k_87_1]
      simp only [k_87_0, k_87_2, k_87_3, w_c0, w_s6, sl_1, ll_1, sl_2, ll_2, t_0, w_l3, gl_2, vi_i, w_c1, t_11, gl_1, gl_0, w_b16, w_b13, w_b10, w_inc, t_1, t_23, z10, z01, z_bT, z_bF, true_or, or_true, false_or, or_false, Option.bind_some, Option.toList_some, Option.toList_none, List.cons_append, List.nil_append, List.length_cons, List.length_nil, Nat.zero_add, Nat.reduceAdd, Nat.reduceLeDiff, and_self, and_true, true_and, if_true, if_false, reduceCtorEq, ne_eq, not_false_eq_true, not_true_eq_false, ↓reduceIte, Nat.reduceEqDiff, Bool.not_not, hlt, nI_1]
      exact h2
  have k0 := key 10 0 rfl
  simp only [k_87_0, w_c0, w_s6, sl_1, ll_1, sl_2, ll_2, t_0, z10, z01, z_bT, z_bF, true_or, or_true, false_or, or_false, Option.bind_some, Option.toList_some, Option.toList_none, List.cons_append, List.nil_append, List.length_cons, List.length_nil, Nat.zero_add, Nat.reduceAdd, Nat.reduceLeDiff, and_self, and_true, true_and, if_true, if_false, reduceCtorEq, ne_eq, not_false_eq_true, not_true_eq_false, ↓reduceIte, Nat.reduceEqDiff, Bool.not_not]
  exact k0
theorem z_on_ct : ∀ s, s < 1024 → z_on (nI s) 10 = nI (z_ct s) := by decide +kernel
theorem z_cs (c : Int32) (n : Nat) (hn : n ≤ 6) : (0 ≤ c ∧ c ≤ nI n - 1) ↔ (0 ≤ c ∧ c < nI n) := by
  cases n with
  | zero =>
    have e : nI 0 - 1 = -1 := by decide
    have e2 : nI 0 = 0 := rfl
    rw [e, e2]
    constructor
    · intro h
      have := h.1
      have := h.2
      exact absurd (Int32.le_trans h.1 h.2) (by decide)
    · intro h
      exact absurd h.2 (Int32.not_lt.mpr h.1)
  | succ n =>
    rw [nI_pred]
    constructor
    · intro h
      exact ⟨h.1, Int32.lt_of_le_of_lt h.2 (nI_lt (Nat.lt_succ_self n) (by omega))⟩
    · intro h
      obtain ⟨k, hk, rfl⟩ := z_in (by omega) h
      exact ⟨h.1, nI_le (by omega) (by omega)⟩
def z_N (x : Int32) : Prop := ∃ n, n ≤ 6 ∧ x = nI n
theorem r_isCaller (S : ai_S) (V : sv_V) (th : Int32) (tr : Int64) (ty : Int32) (nx : Int32) (tk : Int32) (pl : Int32) (va : Int32) (fa : Int32) (to : Int32) (um : Int32) (te : Int32) (hd : Int32) (wr : Int32) (a0 : Nat → Int32) (a1 : Nat → Int32) (a2 : Nat → Int32) (a3 : Nat → Int32) (a4 : Nat → Int32) (a5 : Nat → Int32) (a6 : Nat → Int32) (a7 : Nat → Int32) (a8 : Nat → Int32) (a9 : Nat → Int32) (a10 : Nat → Int32) (a11 : Nat → Int32) (a12 : Nat → Int32) (a13 : Nat → Int32) (hN : z_N (a1 0)) (c : Int32) : ai_call S 102 [.ref 62, .int c] (HP V ((th, tr, ty, nx, tk, pl, va, fa, to, um, te, hd, wr), (a0, a1, a2, a3, a4, a5, a6, a7, a8, a9, a10, a11, a12, a13))) = some (some (.int (z_b (0 ≤ c ∧ c < a1 0))), HP V ((th, tr, ty, nx, tk, pl, va, fa, to, um, te, hd, wr), (a0, a1, a2, a3, a4, a5, a6, a7, a8, a9, a10, a11, a12, a13))) := by
  obtain ⟨n, hn, ha⟩ := hN
  rw [e_102]
  by_cases hc : 0 ≤ c ∧ c < nI n
  · have hc2 := (z_cs c n hn).mpr hc
    rw [ha, z_b_t hc]
    simp only [k_102_0, k_102_1, w_l3, gl_1, vi_i, w_c0, w_l5, gl_0, va_r, va_n, w_get, gd_10, id_1, w_ald, w_b11, t_19_3, rc_1, t_24_0, t_24_1, z10, z01, z_bT, z_bF, true_or, or_true, false_or, or_false, Option.bind_some, Option.toList_some, Option.toList_none, List.cons_append, List.nil_append, List.length_cons, List.length_nil, Nat.zero_add, Nat.reduceAdd, Nat.reduceLeDiff, and_self, and_true, true_and, if_true, if_false, reduceCtorEq, ne_eq, not_false_eq_true, not_true_eq_false, ↓reduceIte, Nat.reduceEqDiff, Bool.not_not, rl_0_8, rl_1_8, rl_2_8, rl_3_8, rl_4_8, rl_5_8, rl_6_8, rl_7_8, rl_12_18, rl_13_18, rl_14_18, rl_15_18, rl_16_18, rl_17_18, rl_0_2, rl_1_2, cl_0, cl_1, cl_2, cl_3, cl_4, cl_5, cl_6, cl_7, cl_8, cl_9, cl_10, cl_11, cl_12, cl_13, cl_14, cl_15, cl_16, cl_17, ha, r_in, z_b_t hc2]
  · have hc2 := fun z => hc ((z_cs c n hn).mp z)
    rw [ha, z_b_f hc]
    simp only [k_102_0, k_102_1, w_l3, gl_1, vi_i, w_c0, w_l5, gl_0, va_r, va_n, w_get, gd_10, id_1, w_ald, w_b11, t_19_3, rc_1, t_24_0, t_24_1, z10, z01, z_bT, z_bF, true_or, or_true, false_or, or_false, Option.bind_some, Option.toList_some, Option.toList_none, List.cons_append, List.nil_append, List.length_cons, List.length_nil, Nat.zero_add, Nat.reduceAdd, Nat.reduceLeDiff, and_self, and_true, true_and, if_true, if_false, reduceCtorEq, ne_eq, not_false_eq_true, not_true_eq_false, ↓reduceIte, Nat.reduceEqDiff, Bool.not_not, rl_0_8, rl_1_8, rl_2_8, rl_3_8, rl_4_8, rl_5_8, rl_6_8, rl_7_8, rl_12_18, rl_13_18, rl_14_18, rl_15_18, rl_16_18, rl_17_18, rl_0_2, rl_1_2, cl_0, cl_1, cl_2, cl_3, cl_4, cl_5, cl_6, cl_7, cl_8, cl_9, cl_10, cl_11, cl_12, cl_13, cl_14, cl_15, cl_16, cl_17, ha, r_in, z_b_f hc2]
theorem r_ringOf (S : ai_S) (V : sv_V) (th : Int32) (tr : Int64) (ty : Int32) (nx : Int32) (tk : Int32) (pl : Int32) (va : Int32) (fa : Int32) (to : Int32) (um : Int32) (te : Int32) (hd : Int32) (wr : Int32) (a0 : Nat → Int32) (a1 : Nat → Int32) (a2 : Nat → Int32) (a3 : Nat → Int32) (a4 : Nat → Int32) (a5 : Nat → Int32) (a6 : Nat → Int32) (a7 : Nat → Int32) (a8 : Nat → Int32) (a9 : Nat → Int32) (a10 : Nat → Int32) (a11 : Nat → Int32) (a12 : Nat → Int32) (a13 : Nat → Int32) (n : Nat) (hn : n ≤ 6) (ha : a1 0 = nI n) (c : Nat) (hc : c < n) : ai_call S 103 [.ref 62, .int (nI c)] (HP V ((th, tr, ty, nx, tk, pl, va, fa, to, um, te, hd, wr), (a0, a1, a2, a3, a4, a5, a6, a7, a8, a9, a10, a11, a12, a13))) = some (some (.int (z_ring a5 n c)), HP V ((th, tr, ty, nx, tk, pl, va, fa, to, um, te, hd, wr), (a0, a1, a2, a3, a4, a5, a6, a7, a8, a9, a10, a11, a12, a13))) := by
  rw [e_103]
  have hN : z_N (nI n) := ⟨n, hn, rfl⟩
  have key : ∀ j o s, s + j = 7 → o < 6 → ai_res S 103 1 [.ref 62, .int (nI c), .int (nI o), .int (nI s)] [] (HP V ((th, tr, ty, nx, tk, pl, va, fa, to, um, te, hd, wr), (a0, a1, a2, a3, a4, a5, a6, a7, a8, a9, a10, a11, a12, a13))) = some (some (.int (z_rg a5 n c j o s)), HP V ((th, tr, ty, nx, tk, pl, va, fa, to, um, te, hd, wr), (a0, a1, a2, a3, a4, a5, a6, a7, a8, a9, a10, a11, a12, a13))) := by
    intro j
    induction j with
    | zero =>
      intro o s hs ho
      have e1 : s = 7 := by omega
      subst e1
      have hge : (6 : Int32) < nI 7 := by decide
      rw [k_103_1]
      simp only [k_103_0, k_103_2, k_103_3, k_103_4, k_103_5, k_103_6, k_103_7, k_103_8, w_l3, gl_1, vi_i, w_s6, sl_2, ll_2, w_c0, sl_3, ll_3, t_0, gl_3, w_c1, t_12, w_l5, gl_0, va_r, va_n, w_get, gd_14, id_5, gl_2, w_ald, t_18_2, rc_0, io_d, t_3, t_23, t_9, w_inc, t_1, z10, z01, z_bT, z_bF, true_or, or_true, false_or, or_false, Option.bind_some, Option.toList_some, Option.toList_none, List.cons_append, List.nil_append, List.length_cons, List.length_nil, Nat.zero_add, Nat.reduceAdd, Nat.reduceLeDiff, and_self, and_true, true_and, if_true, if_false, reduceCtorEq, ne_eq, not_false_eq_true, not_true_eq_false, ↓reduceIte, Nat.reduceEqDiff, Bool.not_not, hge]
      rfl
    | succ j ih =>
      intro o s hs ho
      have hlt : ¬ (6 : Int32) < nI s := nI_nlt (b := s) (a := 6) (by omega) (by decide)
      have ho2 : o < 12 := by omega
      have hcl := nI_clamp (n := o) (by omega)
      rw [k_103_1, z_rg]
      by_cases hv : 0 ≤ a5 o ∧ a5 o < nI n
      · obtain ⟨o2, h2, e2⟩ := z_in (by omega) hv
        have h3 := ih o2 (s + 1) (by omega) (by omega)
        rw [e2] at hv
        rw [if_pos (by rw [e2]; exact hv), e2]
        by_cases he : nI o2 = nI c
        · rw [if_pos he]
          have hv2 := hv
          rw [he] at hv2
          simp only [k_103_0, k_103_2, k_103_3, k_103_4, k_103_5, k_103_6, k_103_7, k_103_8, w_l3, gl_1, vi_i, w_s6, sl_2, ll_2, w_c0, sl_3, ll_3, t_0, gl_3, w_c1, t_12, w_l5, gl_0, va_r, va_n, w_get, gd_14, id_5, gl_2, w_ald, t_18_2, rc_0, io_d, t_3, t_23, t_9, w_inc, t_1, z10, z01, z_bT, z_bF, true_or, or_true, false_or, or_false, Option.bind_some, Option.toList_some, Option.toList_none, List.cons_append, List.nil_append, List.length_cons, List.length_nil, Nat.zero_add, Nat.reduceAdd, Nat.reduceLeDiff, and_self, and_true, true_and, if_true, if_false, reduceCtorEq, ne_eq, not_false_eq_true, not_true_eq_false, ↓reduceIte, Nat.reduceEqDiff, Bool.not_not, hlt, rg_n ho2 (by omega), hcl, e2, r_isCaller, hN, ha, z_b_t hv2, he]
        · rw [if_neg he, nI_clamp (by omega)]
          simp only [k_103_0, k_103_2, k_103_3, k_103_4, k_103_5, k_103_6, k_103_7, k_103_8, w_l3, gl_1, vi_i, w_s6, sl_2, ll_2, w_c0, sl_3, ll_3, t_0, gl_3, w_c1, t_12, w_l5, gl_0, va_r, va_n, w_get, gd_14, id_5, gl_2, w_ald, t_18_2, rc_0, io_d, t_3, t_23, t_9, w_inc, t_1, z10, z01, z_bT, z_bF, true_or, or_true, false_or, or_false, Option.bind_some, Option.toList_some, Option.toList_none, List.cons_append, List.nil_append, List.length_cons, List.length_nil, Nat.zero_add, Nat.reduceAdd, Nat.reduceLeDiff, and_self, and_true, true_and, if_true, if_false, reduceCtorEq, ne_eq, not_false_eq_true, not_true_eq_false, ↓reduceIte, Nat.reduceEqDiff, Bool.not_not, hlt, rg_n ho2 (by omega), hcl, e2, r_isCaller, hN, ha, z_b_t hv, he, nI_1]
          exact h3
      · rw [if_neg hv]
        simp only [k_103_0, k_103_2, k_103_3, k_103_4, k_103_5, k_103_6, k_103_7, k_103_8, w_l3, gl_1, vi_i, w_s6, sl_2, ll_2, w_c0, sl_3, ll_3, t_0, gl_3, w_c1, t_12, w_l5, gl_0, va_r, va_n, w_get, gd_14, id_5, gl_2, w_ald, t_18_2, rc_0, io_d, t_3, t_23, t_9, w_inc, t_1, z10, z01, z_bT, z_bF, true_or, or_true, false_or, or_false, Option.bind_some, Option.toList_some, Option.toList_none, List.cons_append, List.nil_append, List.length_cons, List.length_nil, Nat.zero_add, Nat.reduceAdd, Nat.reduceLeDiff, and_self, and_true, true_and, if_true, if_false, reduceCtorEq, ne_eq, not_false_eq_true, not_true_eq_false, ↓reduceIte, Nat.reduceEqDiff, Bool.not_not, hlt, rg_n ho2 (by omega), hcl, r_isCaller, hN, ha, z_b_f hv]
  have k0 := key 6 c 1 rfl (by omega)
  simp only [k_103_0, w_l3, gl_1, vi_i, w_s6, sl_2, ll_2, w_c0, sl_3, ll_3, t_0, z10, z01, z_bT, z_bF, true_or, or_true, false_or, or_false, Option.bind_some, Option.toList_some, Option.toList_none, List.cons_append, List.nil_append, List.length_cons, List.length_nil, Nat.zero_add, Nat.reduceAdd, Nat.reduceLeDiff, and_self, and_true, true_and, if_true, if_false, reduceCtorEq, ne_eq, not_false_eq_true, not_true_eq_false, ↓reduceIte, Nat.reduceEqDiff, Bool.not_not]
  exact k0
