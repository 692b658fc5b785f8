/-! the reference: embassy -/
def rz (S : ai_S) (V : sv_V) (th : Int32) (tr : Int64) (um : Int32) (te : Int32) (hd : Int32) (wr : Int32) (a0 : Nat → Int32) (a6 : Nat → Int32) (a7 : Nat → Int32) (a8 : Nat → Int32) (a9 : Nat → Int32) (a10 : Nat → Int32) (a11 : Nat → Int32) (a12 : Nat → Int32) (a13 : Nat → Int32) (n : Nat) (b1 b2 b3 b4 b5 : Nat → Int32) : (Nat × zp_S) ⊕ Nat → ai_A → Prop
  | .inl (i, s), X => s.2.2.2.1 ≤ 6 ∧ ∃ (nx tk pl va to : Int32) (a1 a2 a3 a4 a5 : Nat → Int32) (x : Value), RS s to a1 a2 a3 a4 a5 ∧ kp5 b1 b2 b3 b4 b5 a1 a2 a3 a4 a5 ∧ X = ai_res S 100 22 [.ref 62, .int (nI i), x] [] (HP V ((th, tr, nI n, nx, tk, pl, va, -1, to, um, te, hd, wr), (a0, a1, a2, a3, a4, a5, a6, a7, a8, a9, a10, a11, a12, a13)))
  | .inr q, X => q ≤ 120 ∧ ∃ (fa nx tk pl va to : Int32) (a1 a2 a3 a4 a5 : Nat → Int32), kp5 b1 b2 b3 b4 b5 a1 a2 a3 a4 a5 ∧ X = some (some (.int (-10 - nI q)), HP V ((th, tr, nI n, nx, tk, pl, va, fa, to, um, te, hd, wr), (a0, a1, a2, a3, a4, a5, a6, a7, a8, a9, a10, a11, a12, a13)))
theorem rz_bad (S : ai_S) (V : sv_V) (th : Int32) (tr : Int64) (ty : Int32) (nx : Int32) (tk : Int32) (pl : Int32) (va : Int32) (to : Int32) (um : Int32) (te : Int32) (hd : Int32) (wr : Int32) (a0 : Nat → Int32) (a1 : Nat → Int32) (a2 : Nat → Int32) (a3 : Nat → Int32) (a4 : Nat → Int32) (a5 : Nat → Int32) (a6 : Nat → Int32) (a7 : Nat → Int32) (a8 : Nat → Int32) (a9 : Nat → Int32) (a10 : Nat → Int32) (a11 : Nat → Int32) (a12 : Nat → Int32) (a13 : Nat → Int32) (q : Nat) (hq : q ≤ 120) (i : Int32) (x : Value) : ai_res S 100 2 [.ref 62, .int i, x] [] (HP V ((th, tr, ty, nx, tk, pl, va, nI q, to, um, te, hd, wr), (a0, a1, a2, a3, a4, a5, a6, a7, a8, a9, a10, a11, a12, a13))) = some (some (.int (-10 - nI q)), HP V ((th, tr, ty, nx, tk, pl, va, nI q, to, um, te, hd, wr), (a0, a1, a2, a3, a4, a5, a6, a7, a8, a9, a10, a11, a12, a13))) := by
  have hqw := z_nIlt q (show q < 2 ^ 31 by omega)
  rw [k_100_2]
  simp only [k_100_3, k_100_19, k_100_20, k_100_21, w_l5, gl_0, va_r, va_n, t_18_1, rc_0, io_d, t_2, t_3, w_c1, w_get, gd_8, w_b11, t_23, z10, z01, z_bT, z_bF, true_or, or_true, false_or, or_false, Option.bind_some, Option.toList_some, Option.toList_none, List.cons_append, List.nil_append, List.length_cons, List.length_nil, Nat.zero_add, Nat.reduceAdd, Nat.reduceLeDiff, and_self, and_true, true_and, if_true, if_false, reduceCtorEq, ne_eq, not_false_eq_true, not_true_eq_false, ↓reduceIte, Nat.reduceEqDiff, Bool.not_not, r_isWell, hqw]
theorem rz_go (S : ai_S) (V : sv_V) (th : Int32) (tr : Int64) (um : Int32) (te : Int32) (hd : Int32) (wr : Int32) (a0 : Nat → Int32) (a6 : Nat → Int32) (a7 : Nat → Int32) (a8 : Nat → Int32) (a9 : Nat → Int32) (a10 : Nat → Int32) (a11 : Nat → Int32) (a12 : Nat → Int32) (a13 : Nat → Int32) (n : Nat) (b1 b2 b3 b4 b5 : Nat → Int32) (hn : n ≤ 120) (hle : z_ok a0 n) : ∀ (f k i : Nat) (va to : Int32) (a1 a2 a3 a4 a5 : Nat → Int32) (x : Value) (s : zp_S), n < f + (z_rtk a0 n 0 k).2.2.1 → k ≤ n → s.2.2.2.1 ≤ 6 → vc (z_rtk a0 n 0) k va → RS s to a1 a2 a3 a4 a5 → kp5 b1 b2 b3 b4 b5 a1 a2 a3 a4 a5 →
    rz S V th tr um te hd wr a0 a6 a7 a8 a9 a10 a11 a12 a13 n b1 b2 b3 b4 b5 (zp_go (z_rtk a0 n 0) f k s i) (ai_res S 100 2 [.ref 62, .int (nI i), x] [] (HP V ((th, tr, nI n, nI (z_rtk a0 n 0 k).1, z_code (z_rtk a0 n 0 k).2.1, nI (z_rtk a0 n 0 k).2.2.1, va, -1, to, um, te, hd, wr), (a0, a1, a2, a3, a4, a5, a6, a7, a8, a9, a10, a11, a12, a13)))) := by
  intro f
  induction f with
  | zero =>
    intro k i va to a1 a2 a3 a4 a5 x s hf hk hc hv hR hK
    have h := (zp_T_ok a0 n k hk).2.2.1
    omega
  | succ f ih =>
    intro k i va to a1 a2 a3 a4 a5 x s hf hk hc hv hR hK
    obtain ⟨o1, o2, o3, o4⟩ := zp_T_ok a0 n k hk
    unfold zp_go
    by_cases h6 : (z_rtk a0 n 0 k).2.1 = 256
    · rw [if_pos h6]
      refine ⟨hc, nI (z_rtk a0 n 0 k).1, z_code (z_rtk a0 n 0 k).2.1, nI (z_rtk a0 n 0 k).2.2.1, va, to, a1, a2, a3, a4, a5, x, hR, hK, ?_⟩
      have h0 := (z_code_0 _).mpr h6
      rw [k_100_2]
      simp only [k_100_3, k_100_4, k_100_19, k_100_20, w_l5, gl_0, va_r, va_n, t_18_1, rc_0, io_d, t_2, w_get, gd_5, t_3, z10, z01, z_bT, z_bF, true_or, or_true, false_or, or_false, Option.bind_some, Option.toList_some, Option.toList_none, List.cons_append, List.nil_append, List.length_cons, List.length_nil, Nat.zero_add, Nat.reduceAdd, Nat.reduceLeDiff, and_self, and_true, true_and, if_true, if_false, reduceCtorEq, ne_eq, not_false_eq_true, not_true_eq_false, ↓reduceIte, Nat.reduceEqDiff, Bool.not_not, r_isWell, z_m1lt, eq_true h0]
    · rw [if_neg h6]
      have hz := rq_l S V th tr va to um te hd wr a0 a1 a2 a3 a4 a5 a6 a7 a8 a9 a10 a11 a12 a13 n k b1 b2 b3 b4 b5 hn hk hle (nI i) x h6 s hc hv hR hK
      cases hi : zp_item (z_rtk a0 n 0) k s with
      | inl y =>
        obtain ⟨s2, k2⟩ := y
        rw [hi] at hz
        obtain ⟨z1, z2, va2, to2, c1, c2, c3, c4, c5, x2, z3, z4, z5, z6⟩ := hz
        have hkk : (z_rtk a0 n 0 k).1 ≤ k2 := zp_item_le (zp_T_ok a0 n) hk hi
        have o5 := (zp_T_ok a0 n k2 z1).2.1
        have o6 := o4 h6
        have h2 := ih k2 (i + 1) va2 to2 c1 c2 c3 c4 c5 x2 s2 (by omega) z1 z2 z3 z4 z5
        rw [nI_1] at z6
        rw [z6]
        exact h2
      | inr q =>
        rw [hi] at hz
        obtain ⟨hq, nx2, tk2, pl2, va2, to2, c1, c2, c3, c4, c5, x2, z5, z6⟩ := hz
        rw [z6, rz_bad (hq := hq) ..]
        exact ⟨hq, _, _, _, _, _, _, _, _, _, _, _, z5, rfl⟩
theorem r_settles (S : ai_S) (V : sv_V) (th : Int32) (tr : Int64) (ty : Int32) (nx : Int32) (tk : Int32) (pl : Int32) (va : Int32) (fa : Int32) (to : Int32) (um : Int32) (te : Int32) (hd : Int32) (wr : Int32) (a0 : Nat → Int32) (a1 : Nat → Int32) (a2 : Nat → Int32) (a3 : Nat → Int32) (a4 : Nat → Int32) (a5 : Nat → Int32) (a6 : Nat → Int32) (a7 : Nat → Int32) (a8 : Nat → Int32) (a9 : Nat → Int32) (a10 : Nat → Int32) (a11 : Nat → Int32) (a12 : Nat → Int32) (a13 : Nat → Int32) : ∃ a1' a2' a3' a4' a5' a6', (∀ i, i < 4 → a1' i = a1 (4 + i)) ∧ (∀ i, i < 6 → a2' i = a2 (6 + i) ∧ a3' i = a3 (6 + i) ∧ a4' i = a4 (6 + i) ∧ a5' i = a5 (6 + i)) ∧ (∀ i, i < 18 → a6' i = if i = 16 then a1 6 else 0) ∧ ai_call S 101 [.ref 62] (HP V ((th, tr, ty, nx, tk, pl, va, fa, to, um, te, hd, wr), (a0, a1, a2, a3, a4, a5, a6, a7, a8, a9, a10, a11, a12, a13))) = some (none, HP V ((th, tr, 0, nx, tk, pl, va, fa, to, 0, 0, hd, wr), (a0, a1', a2', a3', a4', a5', a6', a7, upd (upd a8 0 0) 1 0, a9, a10, a11, a12, a13))) := by
  have hb : vp_nar .boolean 0 = 0 := by decide
  have z4 : ∀ k : Nat, (4 : Int32) + nI k = nI (4 + k) := fun k => nI_add 4 k
  have l3 : ∀ j k c1 c2 c3 c4 c5 c6, k + j = 18 → (∀ i, i < k → c6 i = 0) → ∃ a6', (∀ i, i < 18 → a6' i = if i = 16 then c1 2 else 0) ∧ ai_res S 101 7 [.ref 62, .int (nI k)] [] (HP V ((th, tr, ty, nx, tk, pl, va, fa, to, um, te, hd, wr), (a0, c1, c2, c3, c4, c5, c6, a7, a8, a9, a10, a11, a12, a13))) = some (none, HP V ((th, tr, 0, nx, tk, pl, va, fa, to, 0, 0, hd, wr), (a0, c1, c2, c3, c4, c5, a6', a7, upd (upd a8 0 0) 1 0, a9, a10, a11, a12, a13))) := by
    intro j
    induction j with
    | zero =>
      intro k c1 c2 c3 c4 c5 c6 hk h6
      have e1 : k = 18 := by omega
      subst e1
      have hge : (18 : Int32) ≤ nI 18 := Int32.le_refl _
      refine ⟨upd c6 16 (c1 2), ?_, ?_⟩
      · intro i hi
        by_cases h : i = 16
        · rw [if_pos h, h, pk_us]
        · rw [if_neg h, pk_un h]
          exact h6 i hi
      · rw [k_101_7]
        simp only [k_101_9, w_l3, gl_1, vi_i, w_c1, t_11, w_l5, gl_0, va_r, va_n, w_get, gd_15, id_6, zd_6, gd_10, id_1, zd_1, w_c0, w_ald, w_ast, w_putI, pd_3, pd_23, pd_19, gd_17, id_8, zd_8, w_bst, t_27, z10, z01, z_bT, z_bF, true_or, or_true, false_or, or_false, Option.bind_some, Option.toList_some, Option.toList_none, List.cons_append, List.nil_append, List.length_cons, List.length_nil, Nat.zero_add, Nat.reduceAdd, Nat.reduceLeDiff, and_self, and_true, true_and, if_true, if_false, reduceCtorEq, ne_eq, not_false_eq_true, not_true_eq_false, ↓reduceIte, Nat.reduceEqDiff, Bool.not_not, rl_0_8, rl_1_8, rl_2_8, rl_3_8, rl_4_8, rl_5_8, rl_6_8, rl_7_8, rl_12_18, rl_13_18, rl_14_18, rl_15_18, rl_16_18, rl_17_18, rl_0_2, rl_1_2, cl_0, cl_1, cl_2, cl_3, cl_4, cl_5, cl_6, cl_7, cl_8, cl_9, cl_10, cl_11, cl_12, cl_13, cl_14, cl_15, cl_16, cl_17, hge, hb]
    | succ j ih =>
      intro k c1 c2 c3 c4 c5 c6 hk h6
      have hlt : ¬ (18 : Int32) ≤ nI k := nI_ge (b := 18) (by omega) (by omega)
      obtain ⟨b6, p1, p2⟩ := ih (k + 1) c1 c2 c3 c4 c5 (upd c6 k 0) (by omega) (fun i hi => by
        by_cases h : i = k
        · rw [h, pk_us]
        · rw [pk_un h]
          exact h6 i (by omega))
      refine ⟨b6, p1, ?_⟩
      have i18 : k < 18 := by omega
      have ck := nI_clamp (n := k) (by omega)
      rw [k_101_7]
      simp only [k_101_8, w_l3, gl_1, vi_i, w_c1, t_11, w_l5, gl_0, va_r, va_n, w_get, gd_15, id_6, zd_6, w_c0, w_ast, w_inc, sl_1, t_1, z10, z01, z_bT, z_bF, true_or, or_true, false_or, or_false, Option.bind_some, Option.toList_some, Option.toList_none, List.cons_append, List.nil_append, List.length_cons, List.length_nil, Nat.zero_add, Nat.reduceAdd, Nat.reduceLeDiff, and_self, and_true, true_and, if_true, if_false, reduceCtorEq, ne_eq, not_false_eq_true, not_true_eq_false, ↓reduceIte, Nat.reduceEqDiff, Bool.not_not, hlt, rg_n i18 (by omega), ck, nI_1]
      exact p2
  have l2 : ∀ j k c1 c2 c3 c4 c5, k + j = 6 → (∀ i, i < k → c2 i = a2 (6 + i) ∧ c3 i = a3 (6 + i) ∧ c4 i = a4 (6 + i) ∧ c5 i = a5 (6 + i)) → (∀ i, 6 ≤ i → c2 i = a2 i ∧ c3 i = a3 i ∧ c4 i = a4 i ∧ c5 i = a5 i) → ∃ a2' a3' a4' a5' a6', (∀ i, i < 6 → a2' i = a2 (6 + i) ∧ a3' i = a3 (6 + i) ∧ a4' i = a4 (6 + i) ∧ a5' i = a5 (6 + i)) ∧ (∀ i, i < 18 → a6' i = if i = 16 then c1 2 else 0) ∧ ai_res S 101 4 [.ref 62, .int (nI k)] [] (HP V ((th, tr, ty, nx, tk, pl, va, fa, to, um, te, hd, wr), (a0, c1, c2, c3, c4, c5, a6, a7, a8, a9, a10, a11, a12, a13))) = some (none, HP V ((th, tr, 0, nx, tk, pl, va, fa, to, 0, 0, hd, wr), (a0, c1, a2', a3', a4', a5', a6', a7, upd (upd a8 0 0) 1 0, a9, a10, a11, a12, a13))) := by
    intro j
    induction j with
    | zero =>
      intro k c1 c2 c3 c4 c5 hk h2 h3
      have e1 : k = 6 := by omega
      subst e1
      have hge : (6 : Int32) ≤ nI 6 := Int32.le_refl _
      obtain ⟨b6, p1, p2⟩ := l3 18 0 c1 c2 c3 c4 c5 a6 (by omega) (fun i hi => absurd hi (Nat.not_lt_zero _))
      refine ⟨c2, c3, c4, c5, b6, h2, p1, ?_⟩
      have p2' : ai_res S 101 7 [.ref 62, .int 0] [] (HP V ((th, tr, ty, nx, tk, pl, va, fa, to, um, te, hd, wr), (a0, c1, c2, c3, c4, c5, a6, a7, a8, a9, a10, a11, a12, a13))) = _ := p2
      rw [k_101_4]
      simp only [k_101_6, w_l3, gl_1, vi_i, w_c1, t_11, w_c0, w_s6, sl_1, ll_1, t_0, z10, z01, z_bT, z_bF, true_or, or_true, false_or, or_false, Option.bind_some, Option.toList_some, Option.toList_none, List.cons_append, List.nil_append, List.length_cons, List.length_nil, Nat.zero_add, Nat.reduceAdd, Nat.reduceLeDiff, and_self, and_true, true_and, if_true, if_false, reduceCtorEq, ne_eq, not_false_eq_true, not_true_eq_false, ↓reduceIte, Nat.reduceEqDiff, Bool.not_not, hge]
      exact p2'
    | succ j ih =>
      intro k c1 c2 c3 c4 c5 hk h2 h3
      have hlt : ¬ (6 : Int32) ≤ nI k := nI_ge (b := 6) (by omega) (by omega)
      obtain ⟨y1, y2, y3, y4⟩ := h3 (6 + k) (by omega)
      obtain ⟨d2, d3, d4, d5, d6, p1, p2, p3⟩ := ih (k + 1) c1 (upd c2 k (c2 (6 + k))) (upd c3 k (c3 (6 + k))) (upd c4 k (c4 (6 + k))) (upd c5 k (c5 (6 + k))) (by omega) (fun i hi => by
        by_cases h : i = k
        · rw [h, pk_us, pk_us, pk_us, pk_us]
          exact ⟨y1, y2, y3, y4⟩
        · rw [pk_un h, pk_un h, pk_un h, pk_un h]
          exact h2 i (by omega)) (fun i hi => by
        rw [pk_un (by omega), pk_un (by omega), pk_un (by omega), pk_un (by omega)]
        exact h3 i hi)
      refine ⟨d2, d3, d4, d5, d6, p1, p2, ?_⟩
      have i12 : k < 12 := by omega
      have i12b : 6 + k < 12 := by omega
      have ck := nI_clamp (n := k) (by omega)
      have ck2 := nI_clamp (n := 6 + k) (by omega)
      rw [k_101_4]
      simp only [k_101_5, w_l3, gl_1, vi_i, w_c1, t_11, w_l5, gl_0, va_r, va_n, w_get, gd_11, id_2, zd_2, w_b10, w_ald, w_ast, gd_12, id_3, zd_3, gd_13, id_4, zd_4, gd_14, id_5, zd_5, w_inc, sl_1, t_1, z10, z01, z_bT, z_bF, true_or, or_true, false_or, or_false, Option.bind_some, Option.toList_some, Option.toList_none, List.cons_append, List.nil_append, List.length_cons, List.length_nil, Nat.zero_add, Nat.reduceAdd, Nat.reduceLeDiff, and_self, and_true, true_and, if_true, if_false, reduceCtorEq, ne_eq, not_false_eq_true, not_true_eq_false, ↓reduceIte, Nat.reduceEqDiff, Bool.not_not, hlt, z_add6, rg_n i12 (by omega), rg_n i12b (by omega), ck, ck2, nI_1]
      exact p3
  have l1 : ∀ j k c1, k + j = 4 → (∀ i, i < k → c1 i = a1 (4 + i)) → (∀ i, 4 ≤ i → c1 i = a1 i) → ∃ a1' a2' a3' a4' a5' a6', (∀ i, i < 4 → a1' i = a1 (4 + i)) ∧ (∀ i, i < 6 → a2' i = a2 (6 + i) ∧ a3' i = a3 (6 + i) ∧ a4' i = a4 (6 + i) ∧ a5' i = a5 (6 + i)) ∧ (∀ i, i < 18 → a6' i = if i = 16 then a1 6 else 0) ∧ ai_res S 101 1 [.ref 62, .int (nI k)] [] (HP V ((th, tr, ty, nx, tk, pl, va, fa, to, um, te, hd, wr), (a0, c1, a2, a3, a4, a5, a6, a7, a8, a9, a10, a11, a12, a13))) = some (none, HP V ((th, tr, 0, nx, tk, pl, va, fa, to, 0, 0, hd, wr), (a0, a1', a2', a3', a4', a5', a6', a7, upd (upd a8 0 0) 1 0, a9, a10, a11, a12, a13))) := by
    intro j
    induction j with
    | zero =>
      intro k c1 hk h2 h3
      have e1 : k = 4 := by omega
      subst e1
      have hge : (4 : Int32) ≤ nI 4 := Int32.le_refl _
      obtain ⟨d2, d3, d4, d5, d6, p1, p2, p3⟩ := l2 6 0 c1 a2 a3 a4 a5 (by omega) (fun i hi => absurd hi (Nat.not_lt_zero _)) (fun i _ => ⟨rfl, rfl, rfl, rfl⟩)
      refine ⟨c1, d2, d3, d4, d5, d6, h2, p1, fun i hi => by rw [p2 i hi, h2 2 (by omega)], ?_⟩
      have p3' : ai_res S 101 4 [.ref 62, .int 0] [] (HP V ((th, tr, ty, nx, tk, pl, va, fa, to, um, te, hd, wr), (a0, c1, a2, a3, a4, a5, a6, a7, a8, a9, a10, a11, a12, a13))) = _ := p3
      rw [k_101_1]
      simp only [k_101_3, w_l3, gl_1, vi_i, w_c0, t_11, w_s6, sl_1, ll_1, t_0, z10, z01, z_bT, z_bF, true_or, or_true, false_or, or_false, Option.bind_some, Option.toList_some, Option.toList_none, List.cons_append, List.nil_append, List.length_cons, List.length_nil, Nat.zero_add, Nat.reduceAdd, Nat.reduceLeDiff, and_self, and_true, true_and, if_true, if_false, reduceCtorEq, ne_eq, not_false_eq_true, not_true_eq_false, ↓reduceIte, Nat.reduceEqDiff, Bool.not_not, hge]
      exact p3'
    | succ j ih =>
      intro k c1 hk h2 h3
      have hlt : ¬ (4 : Int32) ≤ nI k := nI_ge (b := 4) (by omega) (by omega)
      have y1 := h3 (4 + k) (by omega)
      obtain ⟨d1, d2, d3, d4, d5, d6, p0, p1, p2, p3⟩ := ih (k + 1) (upd c1 k (c1 (4 + k))) (by omega) (fun i hi => by
        by_cases h : i = k
        · rw [h, pk_us, y1]
        · rw [pk_un h]
          exact h2 i (by omega)) (fun i hi => by
        rw [pk_un (by omega)]
        exact h3 i hi)
      refine ⟨d1, d2, d3, d4, d5, d6, p0, p1, p2, ?_⟩
      have i8 : k < 8 := by omega
      have i8b : 4 + k < 8 := by omega
      have ck := nI_clamp (n := k) (by omega)
      have ck2 := nI_clamp (n := 4 + k) (by omega)
      rw [k_101_1]
      simp only [k_101_2, w_l3, gl_1, vi_i, w_c0, t_11, w_l5, gl_0, va_r, va_n, w_get, gd_10, id_1, zd_1, w_b10, w_ald, w_ast, w_inc, sl_1, t_1, z10, z01, z_bT, z_bF, true_or, or_true, false_or, or_false, Option.bind_some, Option.toList_some, Option.toList_none, List.cons_append, List.nil_append, List.length_cons, List.length_nil, Nat.zero_add, Nat.reduceAdd, Nat.reduceLeDiff, and_self, and_true, true_and, if_true, if_false, reduceCtorEq, ne_eq, not_false_eq_true, not_true_eq_false, ↓reduceIte, Nat.reduceEqDiff, Bool.not_not, hlt, z4, rg_n i8 (by omega), rg_n i8b (by omega), ck, ck2, nI_1]
      exact p3
  obtain ⟨d1, d2, d3, d4, d5, d6, p0, p1, p2, p3⟩ := l1 4 0 a1 (by omega) (fun i hi => absurd hi (Nat.not_lt_zero _)) (fun i _ => rfl)
  refine ⟨d1, d2, d3, d4, d5, d6, p0, p1, p2, ?_⟩
  rw [e_101]
  simp only [k_101_0, w_c0, w_s6, sl_1, ll_1, t_0, z10, z01, z_bT, z_bF, true_or, or_true, false_or, or_false, Option.bind_some, Option.toList_some, Option.toList_none, List.cons_append, List.nil_append, List.length_cons, List.length_nil, Nat.zero_add, Nat.reduceAdd, Nat.reduceLeDiff, and_self, and_true, true_and, if_true, if_false, reduceCtorEq, ne_eq, not_false_eq_true, not_true_eq_false, ↓reduceIte, Nat.reduceEqDiff, Bool.not_not]
  exact p3
/-- what embassy leaves: items and the reference's rows, or the fault -/
def rw2 (V : sv_V) (tr : Int64) (hd : Int32) (wr : Int32) (a0 : Nat → Int32) (a7 : Nat → Int32) (a9 : Nat → Int32) (a10 : Nat → Int32) (a11 : Nat → Int32) (a12 : Nat → Int32) (a13 : Nat → Int32) (um te : Int32) (n : Nat) (b1 b2 b3 b4 b5 a6 a8 : Nat → Int32) : (Nat × zp_S) ⊕ Nat → ai_A → Prop
  | .inl (i, s), X => ∃ (fa nx tk pl va to : Int32) (a1 a2 a3 a4 a5 a6 : Nat → Int32), a1 0 = nI s.2.2.2.1 ∧ a1 1 = s.1 ∧ a1 2 = s.2.1 ∧ a1 3 = s.2.2.1 ∧ (∀ i, i < s.2.2.2.1 → a2 i = s.2.2.2.2.1 i ∧ a3 i = s.2.2.2.2.2.1 i ∧ a4 i = s.2.2.2.2.2.2.1 i ∧ a5 i = s.2.2.2.2.2.2.2.1 i) ∧ (∀ i, i < 18 → a6 i = if i = 16 then s.2.1 else 0) ∧ X = some (some (.int (nI i)), HP V ((0, tr, 0, nx, tk, pl, va, fa, to, 0, 0, hd, wr), (a0, a1, a2, a3, a4, a5, a6, a7, upd (upd a8 0 0) 1 0, a9, a10, a11, a12, a13)))
  | .inr q, X => q ≤ 120 ∧ ∃ (fa nx tk pl va to : Int32) (a1 a2 a3 a4 a5 : Nat → Int32), kp5 b1 b2 b3 b4 b5 a1 a2 a3 a4 a5 ∧ X = some (some (.int (-10 - nI q)), HP V ((0, tr, nI n, nx, tk, pl, va, fa, to, um, te, hd, wr), (a0, a1, a2, a3, a4, a5, a6, a7, a8, a9, a10, a11, a12, a13)))
theorem r_embassy (S : ai_S) (V : sv_V) (th : Int32) (tr : Int64) (nx : Int32) (tk : Int32) (pl : Int32) (va : Int32) (fa : Int32) (to : Int32) (um : Int32) (te : Int32) (hd : Int32) (wr : Int32) (a0 : Nat → Int32) (a1 : Nat → Int32) (a2 : Nat → Int32) (a3 : Nat → Int32) (a4 : Nat → Int32) (a5 : Nat → Int32) (a6 : Nat → Int32) (a7 : Nat → Int32) (a8 : Nat → Int32) (a9 : Nat → Int32) (a10 : Nat → Int32) (a11 : Nat → Int32) (a12 : Nat → Int32) (a13 : Nat → Int32) (n : Nat) (hn : n ≤ 120) (hle : z_ok a0 n) (pr ha la wa : Nat → Int32) :
    rw2 V tr hd wr a0 a7 a9 a10 a11 a12 a13 um te n a1 a2 a3 a4 a5 a6 a8 (zp_go (z_rtk a0 n 0) 200 0 (4, 3, 20, 0, pr, ha, la, wa, 0, 0, 0) 0) (ai_call S 100 [.ref 62] (HP V ((th, tr, nI n, nx, tk, pl, va, fa, to, um, te, hd, wr), (a0, a1, a2, a3, a4, a5, a6, a7, a8, a9, a10, a11, a12, a13)))) := by
  have hadv := r_advances S V 0 tr tk pl va (-1) 0 um te hd wr a0 (upd (upd (upd (upd a1 4 0) 5 4) 6 3) 7 20) a2 a3 a4 a5 a6 a7 a8 a9 a10 a11 a12 a13 n 0 hn (Nat.zero_le _) hle
  have hadv' : ai_call S 92 [.ref 62] (HP V ((0, tr, nI n, 0, tk, pl, va, -1, 0, um, te, hd, wr), (a0, upd (upd (upd (upd a1 4 0) 5 4) 6 3) 7 20, a2, a3, a4, a5, a6, a7, a8, a9, a10, a11, a12, a13))) = _ := hadv
  have hK : kp5 a1 a2 a3 a4 a5 (upd (upd (upd (upd a1 4 0) 5 4) 6 3) 7 20) a2 a3 a4 a5 := ⟨fun i hi => by rw [pk_un (by omega), pk_un (by omega), pk_un (by omega), pk_un (by omega)], fun i _ => ⟨rfl, rfl, rfl, rfl⟩⟩
  have hR : RS (4, 3, 20, 0, pr, ha, la, wa, 0, 0, 0) 0 (upd (upd (upd (upd a1 4 0) 5 4) 6 3) 7 20) a2 a3 a4 a5 := ⟨by rw [pk_un (by omega), pk_un (by omega), pk_un (by omega), pk_us]; rfl, by rw [pk_un (by omega), pk_un (by omega), pk_us], by rw [pk_un (by omega), pk_us], by rw [pk_us], fun i hi => absurd hi (Nat.not_lt_zero _), 0, by omega, rfl, ⟨fun _ => rfl, fun _ => rfl⟩, ⟨fun _ => rfl, fun _ => rfl⟩, ⟨fun _ => rfl, fun _ => rfl⟩⟩
  have hg := rz_go S V 0 tr um te hd wr a0 a6 a7 a8 a9 a10 a11 a12 a13 n a1 a2 a3 a4 a5 hn hle 200 0 0 (z_va a0 n va 0) 0 (upd (upd (upd (upd a1 4 0) 5 4) 6 3) 7 20) a2 a3 a4 a5 ai_u (4, 3, 20, 0, pr, ha, la, wa, 0, 0, 0) (by omega) (Nat.zero_le _) (Nat.zero_le _) (vc_va a0 n va 0 hle) hR hK
  have hstart : ai_call S 100 [.ref 62] (HP V ((th, tr, nI n, nx, tk, pl, va, fa, to, um, te, hd, wr), (a0, a1, a2, a3, a4, a5, a6, a7, a8, a9, a10, a11, a12, a13))) = ai_res S 100 2 [.ref 62, .int (nI 0), ai_u] [] (HP V ((0, tr, nI n, nI (z_rtk a0 n 0 0).1, z_code (z_rtk a0 n 0 0).2.1, nI (z_rtk a0 n 0 0).2.2.1, z_va a0 n va 0, -1, 0, um, te, hd, wr), (a0, upd (upd (upd (upd a1 4 0) 5 4) 6 3) 7 20, a2, a3, a4, a5, a6, a7, a8, a9, a10, a11, a12, a13))) := by
    rw [e_100]
    simp only [k_100_0, k_100_1, w_l5, gl_0, va_r, va_n, w_c0, w_putI, pd_0, pd_8, pd_4, t_18_1, rc_0, io_d, w_s6, sl_1, ll_1, z10, z01, z_bT, z_bF, true_or, or_true, false_or, or_false, Option.bind_some, Option.toList_some, Option.toList_none, List.cons_append, List.nil_append, List.length_cons, List.length_nil, Nat.zero_add, Nat.reduceAdd, Nat.reduceLeDiff, and_self, and_true, true_and, if_true, if_false, reduceCtorEq, ne_eq, not_false_eq_true, not_true_eq_false, ↓reduceIte, Nat.reduceEqDiff, Bool.not_not, r_begins, hadv']
    rfl
  rw [hstart]
  cases hz : zp_go (z_rtk a0 n 0) 200 0 (4, 3, 20, 0, pr, ha, la, wa, 0, 0, 0) 0 with
  | inl y =>
    obtain ⟨i, s⟩ := y
    rw [hz] at hg
    obtain ⟨z0, nx2, tk2, pl2, va2, to2, c1, c2, c3, c4, c5, x2, z1, z2, z3⟩ := hg
    rw [z3]
    obtain ⟨gr, vl, sg, c, pr2, ha2, la2, wa2, gt, vt, st⟩ := s
    obtain ⟨r4, r5, r6, r7, rr, -⟩ := z1
    obtain ⟨d1, d2, d3, d4, d5, d6, p0, p1, p2, p3⟩ := r_settles S V 0 tr (nI n) nx2 tk2 pl2 va2 (-1) to2 um te hd wr a0 c1 c2 c3 c4 c5 a6 a7 a8 a9 a10 a11 a12 a13
    have hc6 : c ≤ 6 := z0
    refine ⟨-1, nx2, tk2, pl2, va2, to2, d1, d2, d3, d4, d5, d6, by rw [p0 0 (by omega)]; exact r4, by rw [p0 1 (by omega)]; exact r5, by rw [p0 2 (by omega)]; exact r6, by rw [p0 3 (by omega)]; exact r7, fun i hi => ?_, fun i hi => by rw [p2 i hi, r6], ?_⟩
    · have hi2 : i < c := hi
      obtain ⟨y1, y2, y3, y4⟩ := p1 i (by omega)
      obtain ⟨w1, w2, w3, w4⟩ := rr i hi
      exact ⟨y1.trans w1, y2.trans w2, y3.trans w3, y4.trans w4⟩
    · simp only [k_100_22, k_100_23, w_l5, gl_0, va_r, va_n, t_18_1, rc_0, io_d, w_l3, gl_1, vi_i, t_23, z10, z01, z_bT, z_bF, true_or, or_true, false_or, or_false, Option.bind_some, Option.toList_some, Option.toList_none, List.cons_append, List.nil_append, List.length_cons, List.length_nil, Nat.zero_add, Nat.reduceAdd, Nat.reduceLeDiff, and_self, and_true, true_and, if_true, if_false, reduceCtorEq, ne_eq, not_false_eq_true, not_true_eq_false, ↓reduceIte, Nat.reduceEqDiff, Bool.not_not, p3]
  | inr q =>
    rw [hz] at hg
    obtain ⟨hq, fa2, nx2, tk2, pl2, va2, to2, c1, c2, c3, c4, c5, z2, z3⟩ := hg
    exact ⟨hq, fa2, nx2, tk2, pl2, va2, to2, c1, c2, c3, c4, c5, z2, z3⟩
