/-! the reference: gain -/
theorem z_subc (a b : Nat) (ha : a ≤ 100) (hb : b ≤ 100) : (0 < nI a - nI b ↔ nI b < nI a) ∧ (nI a - nI b = 0 ↔ nI a = nI b) := by
  have h := pk_sub_toInt (a := a) (b := b) (by omega) (by omega)
  have e0 : (0 : Int32).toInt = 0 := by decide
  constructor
  · rw [Int32.lt_iff_toInt_lt, h, e0, nI_ltI (by omega) (by omega)]
    omega
  · rw [← Int32.toInt_inj, h, e0, nI_eq (by omega) (by omega)]
    omega
theorem z_land_n (la : Nat → Int32) (set : Int32) : ∀ n, (∀ k, k < n → ∃ l, l ≤ 9 ∧ la k = nI l) → ∃ m, m ≤ 9 * n ∧ z_land la set n = nI m
  | 0, _ => ⟨0, Nat.le_refl _, rfl⟩
  | n + 1, h => by
    obtain ⟨m, hm, e⟩ := z_land_n la set n (fun k hk => h k (by omega))
    obtain ⟨l, hl, e2⟩ := h n (by omega)
    rw [z_land]
    split
    · exact ⟨m + l, by omega, by rw [e, e2, nI_add]⟩
    · exact ⟨m, by omega, e⟩
def z_gm (la : Nat → Int32) (W : Nat → Nat) (n N : Nat) : Nat → Nat
  | 0 => 0
  | s + 1 => if z_len W (nI (s + 1)) n ≤ N ∧ (z_land la (nI (z_gm la W n N s)) n < z_land la (nI (s + 1)) n ∨ z_land la (nI (s + 1)) n = z_land la (nI (z_gm la W n N s)) n ∧ z_len W (nI (s + 1)) n < z_len W (nI (z_gm la W n N s)) n) then s + 1 else z_gm la W n N s
/-- how long a caller's way is, for the reference; 1000000: none -/
def z_wm (ha pr s : Nat → Int32) (gr ve yl : Int32) (c : Nat) : Nat := if z_bit yl c then 1000000 else if z_FF (z_wy ha pr c gr ve (s c) (s (6 + c))) (z_wl pr c gr (s c)) (z_dY ha pr c gr ve (s c) (s (6 + c))) (z_dL pr c gr (s c)) 10 0 = 1000 then 1000000 else z_FF (z_wy ha pr c gr ve (s c) (s (6 + c))) (z_wl pr c gr (s c)) (z_dY ha pr c gr ve (s c) (s (6 + c))) (z_dL pr c gr (s c)) 10 0
theorem z_wm_le (ha pr s : Nat → Int32) (gr ve yl : Int32) (c : Nat) : z_wm ha pr s gr ve yl c ≤ 1000000 := by
  unfold z_wm
  split
  · exact Nat.le_refl _
  · split
    · exact Nat.le_refl _
    · have := z_FF_le (z_wy ha pr c gr ve (s c) (s (6 + c))) (z_wl pr c gr (s c)) (z_dY ha pr c gr ve (s c) (s (6 + c))) (z_dL pr c gr (s c)) 10 0
      omega
theorem z_len_le2 (W : Nat → Nat) (M : Nat) (hW : ∀ c, W c ≤ M) (set : Int32) : ∀ n, z_len W set n ≤ M * n
  | 0 => Nat.zero_le _
  | k + 1 => by
    have h := z_len_le2 W M hW set k
    have h2 := hW k
    unfold z_len
    rw [Nat.mul_succ]
    split <;> omega
theorem r_gain_b (S : ai_S) (V : sv_V) (th : Int32) (tr : Int64) (ty : Int32) (nx : Int32) (tk : Int32) (pl : Int32) (va : Int32) (fa : Int32) (to : Int32) (um : Int32) (te : Int32) (hd : Int32) (wr : Int32) (a0 : Nat → Int32) (a1 : Nat → Int32) (a2 : Nat → Int32) (a3 : Nat → Int32) (a4 : Nat → Int32) (a5 : Nat → Int32) (a6 : Nat → Int32) (a7 : Nat → Int32) (a8 : Nat → Int32) (a9 : Nat → Int32) (a10 : Nat → Int32) (a11 : Nat → Int32) (a12 : Nat → Int32) (a13 : Nat → Int32) (x w : Int32) (hb : ¬ ((0 ≤ x ∧ x ≤ 40) ∧ (0 ≤ w ∧ w ≤ 1))) : ai_call S 122 [.ref 62, .int x, .int w] (HP V ((th, tr, ty, nx, tk, pl, va, fa, to, um, te, hd, wr), (a0, a1, a2, a3, a4, a5, a6, a7, a8, a9, a10, a11, a12, a13))) = some (some (.int (-1)), HP V ((0, tr, ty, nx, tk, pl, va, fa, to, um, te, hd, wr), (a0, a1, a2, a3, a4, a5, a6, a7, a8, a9, a10, a11, a12, a13))) := by
  rw [e_122]
  by_cases h1 : 0 ≤ x ∧ x ≤ 40
  · have h2 : ¬ (0 ≤ w ∧ w ≤ 1) := fun z => hb ⟨h1, z⟩
    simp only [k_122_0, k_122_1, k_122_2, k_122_3, k_122_4, w_l5, gl_0, va_r, va_n, w_c0, w_putI, pd_0, w_l3, gl_1, vi_i, w_c1, t_19_3, rc_1, t_2, gl_2, t_3, t_23, z10, z01, z_bT, z_bF, true_or, or_true, false_or, or_false, Option.bind_some, Option.toList_some, Option.toList_none, List.cons_append, List.nil_append, List.length_cons, List.length_nil, Nat.zero_add, Nat.reduceAdd, Nat.reduceLeDiff, and_self, and_true, true_and, if_true, if_false, reduceCtorEq, ne_eq, not_false_eq_true, not_true_eq_false, ↓reduceIte, Nat.reduceEqDiff, Bool.not_not, r_in, z_b_t h1, z_b_f h2]
  · simp only [k_122_0, k_122_1, k_122_2, k_122_3, k_122_4, w_l5, gl_0, va_r, va_n, w_c0, w_putI, pd_0, w_l3, gl_1, vi_i, w_c1, t_19_3, rc_1, t_2, gl_2, t_3, t_23, z10, z01, z_bT, z_bF, true_or, or_true, false_or, or_false, Option.bind_some, Option.toList_some, Option.toList_none, List.cons_append, List.nil_append, List.length_cons, List.length_nil, Nat.zero_add, Nat.reduceAdd, Nat.reduceLeDiff, and_self, and_true, true_and, if_true, if_false, reduceCtorEq, ne_eq, not_false_eq_true, not_true_eq_false, ↓reduceIte, Nat.reduceEqDiff, Bool.not_not, r_in, z_b_f h1]
theorem r_gain1 (S : ai_S) (V : sv_V) (th : Int32) (tr : Int64) (ty : Int32) (nx : Int32) (tk : Int32) (pl : Int32) (va : Int32) (fa : Int32) (to : Int32) (um : Int32) (te : Int32) (hd : Int32) (wr : Int32) (a0 : Nat → Int32) (a1 : Nat → Int32) (a2 : Nat → Int32) (a3 : Nat → Int32) (a4 : Nat → Int32) (a5 : Nat → Int32) (a6 : Nat → Int32) (a7 : Nat → Int32) (a8 : Nat → Int32) (a9 : Nat → Int32) (a10 : Nat → Int32) (a11 : Nat → Int32) (a12 : Nat → Int32) (a13 : Nat → Int32) (n : Nat) (hn : n ≤ 6) (ha : a1 0 = nI n) (gr ve : Int32) (hgr : a1 1 = gr) (hve : a6 16 = ve) (N w : Int32) (y z : Value) : ∀ j c a13 (x : Value) (hd wr : Int32), c + j = n → (∀ i, i < c → a13 i = nI (z_wm a3 a2 a6 gr ve (a6 12 ||| a6 13) i)) → ∃ a13' hd' wr' x', (∀ i, i < n → a13' i = nI (z_wm a3 a2 a6 gr ve (a6 12 ||| a6 13) i)) ∧ ai_res S 122 6 [.ref 62, .int N, .int w, .int (nI c), x, y, z] [] (HP V ((th, tr, ty, nx, tk, pl, va, fa, to, um, te, hd, wr), (a0, a1, a2, a3, a4, a5, a6, a7, a8, a9, a10, a11, a12, a13))) = ai_res S 122 15 [.ref 62, .int N, .int w, .int (nI n), x', y, z] [] (HP V ((th, tr, ty, nx, tk, pl, va, fa, to, um, te, hd', wr'), (a0, a1, a2, a3, a4, a5, a6, a7, a8, a9, a10, a11, a12, a13'))) := by
  intro j
  induction j with
  | zero =>
    intro c a13 x hd wr hc hw
    have e1 : c = n := by omega
    subst e1
    have hge : nI c ≤ nI c := Int32.le_refl _
    refine ⟨a13, hd, wr, x, hw, ?_⟩
    rw [k_122_6]
    simp only [w_l3, gl_3, vi_i, w_l5, gl_0, va_r, va_n, w_get, gd_10, id_1, zd_1, w_c0, w_ald, t_11, z10, z01, z_bT, z_bF, true_or, or_true, false_or, or_false, Option.bind_some, Option.toList_some, Option.toList_none, List.cons_append, List.nil_append, List.length_cons, List.length_nil, Nat.zero_add, Nat.reduceAdd, Nat.reduceLeDiff, and_self, and_true, true_and, if_true, if_false, reduceCtorEq, ne_eq, not_false_eq_true, not_true_eq_false, ↓reduceIte, Nat.reduceEqDiff, Bool.not_not, rl_0_8, rl_1_8, rl_2_8, rl_3_8, rl_4_8, rl_5_8, rl_6_8, rl_7_8, rl_12_18, rl_13_18, rl_14_18, rl_15_18, rl_16_18, rl_17_18, rl_0_2, rl_1_2, cl_0, cl_1, cl_2, cl_3, cl_4, cl_5, cl_6, cl_7, cl_8, cl_9, cl_10, cl_11, cl_12, cl_13, cl_14, cl_15, cl_16, cl_17, ha, hge]
  | succ j ih =>
    intro c a13 x hd wr hc hw
    have hlt : ¬ nI n ≤ nI c := nI_ge (by omega) (by omega)
    have hc6 : c < 6 := by omega
    have ci := nI_clamp (n := c) (by omega)
    by_cases hg : z_bit (a6 12 ||| a6 13) c
    · have hv : z_wm a3 a2 a6 gr ve (a6 12 ||| a6 13) c = 1000000 := by rw [z_wm, if_pos hg]
      obtain ⟨b13, h4, w4, x4, p4, q4⟩ := ih (c + 1) (upd a13 c 1000000) (.int (-9)) hd wr (by omega) (fun i hi => by
        by_cases he : i = c
        · subst he
          rw [pk_us, hv]
          rfl
        · rw [pk_un he]
          exact hw i (by omega))
      refine ⟨b13, h4, w4, x4, p4, ?_⟩
      rw [k_122_6]
      simp only [k_122_7, k_122_8, k_122_9, k_122_11, k_122_12, k_122_14, w_l3, gl_3, vi_i, w_l5, gl_0, va_r, va_n, w_get, gd_10, id_1, zd_1, w_c0, w_ald, t_11, t_18_2, rc_0, io_d, t_2, w_c1, t_1, w_s7, sl_4, ll_4, gd_26, id_13, zd_13, w_l4, gl_4, t_9, w_c40, w_ast, w_inc, sl_3, z10, z01, z_bT, z_bF, true_or, or_true, false_or, or_false, Option.bind_some, Option.toList_some, Option.toList_none, List.cons_append, List.nil_append, List.length_cons, List.length_nil, Nat.zero_add, Nat.reduceAdd, Nat.reduceLeDiff, and_self, and_true, true_and, if_true, if_false, reduceCtorEq, ne_eq, not_false_eq_true, not_true_eq_false, ↓reduceIte, Nat.reduceEqDiff, Bool.not_not, rl_0_8, rl_1_8, rl_2_8, rl_3_8, rl_4_8, rl_5_8, rl_6_8, rl_7_8, rl_12_18, rl_13_18, rl_14_18, rl_15_18, rl_16_18, rl_17_18, rl_0_2, rl_1_2, cl_0, cl_1, cl_2, cl_3, cl_4, cl_5, cl_6, cl_7, cl_8, cl_9, cl_10, cl_11, cl_12, cl_13, cl_14, cl_15, cl_16, cl_17, ha, hlt, r_isGone, z_b_t hg, rg_n hc6 (by omega), ci, nI_1, eq_self]
      exact q4
    · obtain ⟨h3, w3, q3⟩ := r_wayBy S V th tr ty nx tk pl va fa to um te hd wr a0 a1 a2 a3 a4 a5 a6 a7 a8 a9 a10 a11 a12 a13 c hc6 gr ve hgr hve
      have hF := z_FF_U (z_wy a3 a2 c gr ve (a6 c) (a6 (6 + c))) (z_wl a2 c gr (a6 c)) (z_dY a3 a2 c gr ve (a6 c) (a6 (6 + c))) (z_dL a2 c gr (a6 c))
      have hgl := z_gr_lt (z_wy a3 a2 c gr ve (a6 c) (a6 (6 + c))) (z_wl a2 c gr (a6 c)) (z_dY a3 a2 c gr ve (a6 c) (a6 (6 + c))) (z_dL a2 c gr (a6 c))
      by_cases hne : z_FF (z_wy a3 a2 c gr ve (a6 c) (a6 (6 + c))) (z_wl a2 c gr (a6 c)) (z_dY a3 a2 c gr ve (a6 c) (a6 (6 + c))) (z_dL a2 c gr (a6 c)) 10 0 = 1000
      · have hv : z_wm a3 a2 a6 gr ve (a6 12 ||| a6 13) c = 1000000 := by rw [z_wm, if_neg hg, if_pos hne]
        rw [z_wb, if_pos hne] at q3
        obtain ⟨b13, h4, w4, x4, p4, q4⟩ := ih (c + 1) (upd a13 c 1000000) (.int (-9)) h3 w3 (by omega) (fun i hi => by
          by_cases he : i = c
          · subst he
            rw [pk_us, hv]
            rfl
          · rw [pk_un he]
            exact hw i (by omega))
        refine ⟨b13, h4, w4, x4, p4, ?_⟩
        rw [k_122_6]
        simp only [k_122_7, k_122_8, k_122_10, k_122_11, k_122_12, k_122_14, w_l3, gl_3, vi_i, w_l5, gl_0, va_r, va_n, w_get, gd_10, id_1, zd_1, w_c0, w_ald, t_11, t_18_2, rc_0, io_d, t_2, w_s7, sl_4, ll_4, gd_26, id_13, zd_13, w_l4, gl_4, w_c1, t_9, w_c40, t_1, w_ast, w_inc, sl_3, z10, z01, z_bT, z_bF, true_or, or_true, false_or, or_false, Option.bind_some, Option.toList_some, Option.toList_none, List.cons_append, List.nil_append, List.length_cons, List.length_nil, Nat.zero_add, Nat.reduceAdd, Nat.reduceLeDiff, and_self, and_true, true_and, if_true, if_false, reduceCtorEq, ne_eq, not_false_eq_true, not_true_eq_false, ↓reduceIte, Nat.reduceEqDiff, Bool.not_not, rl_0_8, rl_1_8, rl_2_8, rl_3_8, rl_4_8, rl_5_8, rl_6_8, rl_7_8, rl_12_18, rl_13_18, rl_14_18, rl_15_18, rl_16_18, rl_17_18, rl_0_2, rl_1_2, cl_0, cl_1, cl_2, cl_3, cl_4, cl_5, cl_6, cl_7, cl_8, cl_9, cl_10, cl_11, cl_12, cl_13, cl_14, cl_15, cl_16, cl_17, ha, hlt, r_isGone, z_b_f hg, q3, rg_n hc6 (by omega), ci, nI_1, eq_self]
        exact q4
      · obtain ⟨u1, u2, u3⟩ := hF hne
        have hv : z_wm a3 a2 a6 gr ve (a6 12 ||| a6 13) c = z_FF (z_wy a3 a2 c gr ve (a6 c) (a6 (6 + c))) (z_wl a2 c gr (a6 c)) (z_dY a3 a2 c gr ve (a6 c) (a6 (6 + c))) (z_dL a2 c gr (a6 c)) 10 0 := by rw [z_wm, if_neg hg, if_neg hne]
        rw [z_wb, if_neg hne] at q3
        have hg2 := hgl (z_FF (z_wy a3 a2 c gr ve (a6 c) (a6 (6 + c))) (z_wl a2 c gr (a6 c)) (z_dY a3 a2 c gr ve (a6 c) (a6 (6 + c))) (z_dL a2 c gr (a6 c)) 10 0) 0 0
        have p10 : ∀ n, n ≤ 10 → 2 ^ n ≤ 1024 := by decide
        have hp := p10 _ u3
        rw [← hv] at q3 hg2 u2 u3 hp
        generalize z_gr (z_wy a3 a2 c gr ve (a6 c) (a6 (6 + c))) (z_wl a2 c gr (a6 c)) (z_dY a3 a2 c gr ve (a6 c) (a6 (6 + c))) (z_dL a2 c gr (a6 c)) (z_wm a3 a2 a6 gr ve (a6 12 ||| a6 13) c) 0 0 = G at q3 hg2
        generalize hU : z_wm a3 a2 a6 gr ve (a6 12 ||| a6 13) c = U at q3 hg2 u2 u3 hp
        have m9 : ¬ nI (16 * G + U) = -9 := by
          intro z
          have := nI_pos' (n := 16 * G + U) (by omega)
          rw [z] at this
          exact absurd this (by decide)
        have d0 : ¬ (16 : Int32) = 0 := by decide
        have d2 : nI (16 * G + U) - nI (16 * G + U) / 16 * 16 = nI U := by
          rw [show nI (16 * G + U) - nI (16 * G + U) / 16 * 16 = nI ((16 * G + U) % 16) from pk_rem (d := 16) (by omega) (by decide) (by decide)]
          congr 1
          omega
        obtain ⟨b13, h4, w4, x4, p4, q4⟩ := ih (c + 1) (upd a13 c (nI U)) (.int (nI (16 * G + U))) h3 w3 (by omega) (fun i hi => by
          by_cases he : i = c
          · subst he
            rw [pk_us, hU]
          · rw [pk_un he]
            exact hw i (by omega))
        refine ⟨b13, h4, w4, x4, p4, ?_⟩
        rw [k_122_6]
        simp only [k_122_7, k_122_8, k_122_10, k_122_11, k_122_13, k_122_14, w_l3, gl_3, vi_i, w_l5, gl_0, va_r, va_n, w_get, gd_10, id_1, zd_1, w_c0, w_ald, t_11, t_18_2, rc_0, io_d, t_2, w_s7, sl_4, ll_4, gd_26, id_13, zd_13, w_l4, gl_4, w_c1, t_9, w_b19, t_0, w_ast, w_inc, sl_3, t_1, z10, z01, z_bT, z_bF, true_or, or_true, false_or, or_false, Option.bind_some, Option.toList_some, Option.toList_none, List.cons_append, List.nil_append, List.length_cons, List.length_nil, Nat.zero_add, Nat.reduceAdd, Nat.reduceLeDiff, and_self, and_true, true_and, if_true, if_false, reduceCtorEq, ne_eq, not_false_eq_true, not_true_eq_false, ↓reduceIte, Nat.reduceEqDiff, Bool.not_not, rl_0_8, rl_1_8, rl_2_8, rl_3_8, rl_4_8, rl_5_8, rl_6_8, rl_7_8, rl_12_18, rl_13_18, rl_14_18, rl_15_18, rl_16_18, rl_17_18, rl_0_2, rl_1_2, cl_0, cl_1, cl_2, cl_3, cl_4, cl_5, cl_6, cl_7, cl_8, cl_9, cl_10, cl_11, cl_12, cl_13, cl_14, cl_15, cl_16, cl_17, ha, hlt, r_isGone, z_b_f hg, q3, rg_n hc6 (by omega), ci, nI_1, m9, d0, d2]
        exact q4
theorem r_gain2 (S : ai_S) (V : sv_V) (th : Int32) (tr : Int64) (ty : Int32) (nx : Int32) (tk : Int32) (pl : Int32) (va : Int32) (fa : Int32) (to : Int32) (um : Int32) (te : Int32) (hd : Int32) (wr : Int32) (a0 : Nat → Int32) (a1 : Nat → Int32) (a2 : Nat → Int32) (a3 : Nat → Int32) (a4 : Nat → Int32) (a5 : Nat → Int32) (a6 : Nat → Int32) (a7 : Nat → Int32) (a8 : Nat → Int32) (a9 : Nat → Int32) (a10 : Nat → Int32) (a11 : Nat → Int32) (a12 : Nat → Int32) (a13 : Nat → Int32) (n N : Nat) (hn : n ≤ 6) (hN : N ≤ 40) (ha : a1 0 = nI n) (hla : ∀ k, k < n → ∃ l, l ≤ 9 ∧ a4 k = nI l) (W : Nat → Nat) (hWle : ∀ c, W c ≤ 1000000) (hW : ∀ k, k < n → a13 k = nI (W k)) (w : Int32) : ∀ j s (y z : Value), s + 1 + j = 2 ^ n → ∃ y' z', ai_res S 122 16 [.ref 62, .int (nI N), .int w, .int (nI (z_gm a4 W n N s)), .int (nI (s + 1)), y, z] [] (HP V ((th, tr, ty, nx, tk, pl, va, fa, to, um, te, hd, wr), (a0, a1, a2, a3, a4, a5, a6, a7, a8, a9, a10, a11, a12, a13))) = ai_res S 122 32 [.ref 62, .int (nI N), .int w, .int (nI (z_gm a4 W n N (2 ^ n - 1))), .int (nI (2 ^ n)), y', z'] [] (HP V ((th, tr, ty, nx, tk, pl, va, fa, to, um, te, hd, wr), (a0, a1, a2, a3, a4, a5, a6, a7, a8, a9, a10, a11, a12, a13))) := by
  have hp2 := z_pow_le n hn
  have hlo := r_landOf S V th tr ty nx tk pl va fa to um te hd wr a0 a1 a2 a3 a4 a5 a6 a7 a8 a9 a10 a11 a12 a13 n hn ha
  have hsf := fun set => r_shakesFor S V th tr ty nx tk pl va fa to um te hd wr a0 a1 a2 a3 a4 a5 a6 a7 a8 a9 a10 a11 a12 a13 n hn ha set W hW
  intro j
  induction j with
  | zero =>
    intro s y z hs
    have e1 : 2 ^ n - 1 = s := by omega
    have e2 : s + 1 = 2 ^ n := by omega
    have hge : nI (2 ^ n) ≤ nI (2 ^ n) := Int32.le_refl _
    refine ⟨y, z, ?_⟩
    rw [e1, e2, k_122_16]
    simp only [w_l4, gl_4, vi_i, w_c0, w_l5, gl_0, va_r, va_n, w_get, gd_10, id_1, zd_1, w_ald, w_b15, t_11, z10, z01, z_bT, z_bF, true_or, or_true, false_or, or_false, Option.bind_some, Option.toList_some, Option.toList_none, List.cons_append, List.nil_append, List.length_cons, List.length_nil, Nat.zero_add, Nat.reduceAdd, Nat.reduceLeDiff, and_self, and_true, true_and, if_true, if_false, reduceCtorEq, ne_eq, not_false_eq_true, not_true_eq_false, ↓reduceIte, Nat.reduceEqDiff, Bool.not_not, rl_0_8, rl_1_8, rl_2_8, rl_3_8, rl_4_8, rl_5_8, rl_6_8, rl_7_8, rl_12_18, rl_13_18, rl_14_18, rl_15_18, rl_16_18, rl_17_18, rl_0_2, rl_1_2, cl_0, cl_1, cl_2, cl_3, cl_4, cl_5, cl_6, cl_7, cl_8, cl_9, cl_10, cl_11, cl_12, cl_13, cl_14, cl_15, cl_16, cl_17, ha, z_one_pow n hn, hge]
  | succ j ih =>
    intro s y z hs
    have hlt : ¬ nI (2 ^ n) ≤ nI (s + 1) := nI_ge (by omega) (by omega)
    have h3 := fun y z => ih (s + 1) y z (by omega)
    have l1 := z_len_le2 W 1000000 hWle (nI (s + 1)) n
    have l2 := z_len_le2 W 1000000 hWle (nI (z_gm a4 W n N s)) n
    obtain ⟨m1, hm1, em1⟩ := z_land_n a4 (nI (s + 1)) n hla
    obtain ⟨m2, hm2, em2⟩ := z_land_n a4 (nI (z_gm a4 W n N s)) n hla
    have e0 : z_gm a4 W n N (s + 1) = if z_len W (nI (s + 1)) n ≤ N ∧ (z_land a4 (nI (z_gm a4 W n N s)) n < z_land a4 (nI (s + 1)) n ∨ z_land a4 (nI (s + 1)) n = z_land a4 (nI (z_gm a4 W n N s)) n ∧ z_len W (nI (s + 1)) n < z_len W (nI (z_gm a4 W n N s)) n) then s + 1 else z_gm a4 W n N s := rfl
    rw [e0, em1, em2] at h3
    have hlo1 := hlo (nI (s + 1))
    have hlo2 := hlo (nI (z_gm a4 W n N s))
    have hsf1 := hsf (nI (s + 1))
    have hsf2 := hsf (nI (z_gm a4 W n N s))
    rw [em1] at hlo1
    rw [em2] at hlo2
    obtain ⟨c1, c2⟩ := z_subc m1 m2 (by omega) (by omega)
    generalize z_len W (nI (s + 1)) n = L1 at h3 l1 hsf1
    generalize z_len W (nI (z_gm a4 W n N s)) n = L2 at h3 l2 hsf2
    generalize z_gm a4 W n N s = B at h3 hlo2 hsf2 ⊢
    have q4 : nI N < nI L1 ↔ N < L1 := nI_ltI (by omega) (by omega)
    have q7 : nI L2 ≤ nI L1 ↔ L2 ≤ L1 := nI_leI (by omega) (by omega)
    rw [k_122_16]
    by_cases h5 : nI m2 < nI m1
    · have h5' := c1.mpr h5
      by_cases h4 : N < L1
      · rw [if_neg (fun z => by omega)] at h3
        simp only [k_122_17, k_122_18, k_122_19, k_122_24, k_122_26, k_122_27, k_122_28, k_122_30, k_122_31, w_l4, gl_4, vi_i, w_c0, w_l5, gl_0, va_r, va_n, w_get, gd_10, id_1, zd_1, w_ald, w_b15, t_11, t_18_2, rc_0, io_d, w_l3, gl_3, w_b11, w_s7, sl_5, ll_5, gl_5, t_6, t_1, sl_6, ll_6, gl_6, t_2, gl_1, t_12, t_0, w_s6, sl_3, ll_3, w_inc, sl_4, z10, z01, z_bT, z_bF, true_or, or_true, false_or, or_false, Option.bind_some, Option.toList_some, Option.toList_none, List.cons_append, List.nil_append, List.length_cons, List.length_nil, Nat.zero_add, Nat.reduceAdd, Nat.reduceLeDiff, and_self, and_true, true_and, if_true, if_false, reduceCtorEq, ne_eq, not_false_eq_true, not_true_eq_false, ↓reduceIte, Nat.reduceEqDiff, Bool.not_not, rl_0_8, rl_1_8, rl_2_8, rl_3_8, rl_4_8, rl_5_8, rl_6_8, rl_7_8, rl_12_18, rl_13_18, rl_14_18, rl_15_18, rl_16_18, rl_17_18, rl_0_2, rl_1_2, cl_0, cl_1, cl_2, cl_3, cl_4, cl_5, cl_6, cl_7, cl_8, cl_9, cl_10, cl_11, cl_12, cl_13, cl_14, cl_15, cl_16, cl_17, ha, z_one_pow n hn, hlt, hlo1, hlo2, hsf1, h5', q4, h4, nI_1]
        exact h3 _ _
      · rw [if_pos ⟨by omega, Or.inl h5⟩] at h3
        simp only [k_122_17, k_122_18, k_122_19, k_122_24, k_122_26, k_122_27, k_122_28, k_122_29, k_122_31, w_l4, gl_4, vi_i, w_c0, w_l5, gl_0, va_r, va_n, w_get, gd_10, id_1, zd_1, w_ald, w_b15, t_11, t_18_2, rc_0, io_d, w_l3, gl_3, w_b11, w_s7, sl_5, ll_5, gl_5, t_6, t_1, sl_6, ll_6, gl_6, t_2, gl_1, t_12, w_s6, sl_3, ll_3, w_inc, sl_4, z10, z01, z_bT, z_bF, true_or, or_true, false_or, or_false, Option.bind_some, Option.toList_some, Option.toList_none, List.cons_append, List.nil_append, List.length_cons, List.length_nil, Nat.zero_add, Nat.reduceAdd, Nat.reduceLeDiff, and_self, and_true, true_and, if_true, if_false, reduceCtorEq, ne_eq, not_false_eq_true, not_true_eq_false, ↓reduceIte, Nat.reduceEqDiff, Bool.not_not, rl_0_8, rl_1_8, rl_2_8, rl_3_8, rl_4_8, rl_5_8, rl_6_8, rl_7_8, rl_12_18, rl_13_18, rl_14_18, rl_15_18, rl_16_18, rl_17_18, rl_0_2, rl_1_2, cl_0, cl_1, cl_2, cl_3, cl_4, cl_5, cl_6, cl_7, cl_8, cl_9, cl_10, cl_11, cl_12, cl_13, cl_14, cl_15, cl_16, cl_17, ha, z_one_pow n hn, hlt, hlo1, hlo2, hsf1, h5', q4, h4, nI_1]
        exact h3 _ _
    · have h5' : ¬ 0 < nI m1 - nI m2 := fun z => h5 (c1.mp z)
      by_cases h6 : nI m1 = nI m2
      · have h6' := c2.mpr h6
        by_cases h7 : L2 ≤ L1
        · rw [if_neg (fun z => by rcases z.2 with h | h; exact h5 h; omega)] at h3
          simp only [k_122_17, k_122_18, k_122_19, k_122_20, k_122_21, k_122_22, k_122_23, k_122_25, k_122_26, k_122_30, k_122_31, w_l4, gl_4, vi_i, w_c0, w_l5, gl_0, va_r, va_n, w_get, gd_10, id_1, zd_1, w_ald, w_b15, t_11, t_18_2, rc_0, io_d, w_l3, gl_3, w_b11, w_s7, sl_5, ll_5, gl_5, t_6, t_3, t_0, sl_6, ll_6, gl_6, t_2, w_s6, sl_3, ll_3, w_inc, sl_4, t_1, z10, z01, z_bT, z_bF, true_or, or_true, false_or, or_false, Option.bind_some, Option.toList_some, Option.toList_none, List.cons_append, List.nil_append, List.length_cons, List.length_nil, Nat.zero_add, Nat.reduceAdd, Nat.reduceLeDiff, and_self, and_true, true_and, if_true, if_false, reduceCtorEq, ne_eq, not_false_eq_true, not_true_eq_false, ↓reduceIte, Nat.reduceEqDiff, Bool.not_not, rl_0_8, rl_1_8, rl_2_8, rl_3_8, rl_4_8, rl_5_8, rl_6_8, rl_7_8, rl_12_18, rl_13_18, rl_14_18, rl_15_18, rl_16_18, rl_17_18, rl_0_2, rl_1_2, cl_0, cl_1, cl_2, cl_3, cl_4, cl_5, cl_6, cl_7, cl_8, cl_9, cl_10, cl_11, cl_12, cl_13, cl_14, cl_15, cl_16, cl_17, ha, z_one_pow n hn, hlt, hlo1, hlo2, hsf1, hsf2, h5', h6', q7, h7, nI_1]
          exact h3 _ _
        · by_cases h4 : N < L1
          · rw [if_neg (fun z => by omega)] at h3
            simp only [k_122_17, k_122_18, k_122_19, k_122_20, k_122_21, k_122_22, k_122_23, k_122_24, k_122_26, k_122_27, k_122_28, k_122_30, k_122_31, w_l4, gl_4, vi_i, w_c0, w_l5, gl_0, va_r, va_n, w_get, gd_10, id_1, zd_1, w_ald, w_b15, t_11, t_18_2, rc_0, io_d, w_l3, gl_3, w_b11, w_s7, sl_5, ll_5, gl_5, t_6, t_3, t_1, sl_6, ll_6, gl_6, t_2, gl_1, t_12, t_0, w_s6, sl_3, ll_3, w_inc, sl_4, z10, z01, z_bT, z_bF, true_or, or_true, false_or, or_false, Option.bind_some, Option.toList_some, Option.toList_none, List.cons_append, List.nil_append, List.length_cons, List.length_nil, Nat.zero_add, Nat.reduceAdd, Nat.reduceLeDiff, and_self, and_true, true_and, if_true, if_false, reduceCtorEq, ne_eq, not_false_eq_true, not_true_eq_false, ↓reduceIte, Nat.reduceEqDiff, Bool.not_not, rl_0_8, rl_1_8, rl_2_8, rl_3_8, rl_4_8, rl_5_8, rl_6_8, rl_7_8, rl_12_18, rl_13_18, rl_14_18, rl_15_18, rl_16_18, rl_17_18, rl_0_2, rl_1_2, cl_0, cl_1, cl_2, cl_3, cl_4, cl_5, cl_6, cl_7, cl_8, cl_9, cl_10, cl_11, cl_12, cl_13, cl_14, cl_15, cl_16, cl_17, ha, z_one_pow n hn, hlt, hlo1, hlo2, hsf1, hsf2, h5', h6', q7, h7, q4, h4, nI_1]
            exact h3 _ _
          · rw [if_pos ⟨by omega, Or.inr ⟨h6, by omega⟩⟩] at h3
            simp only [k_122_17, k_122_18, k_122_19, k_122_20, k_122_21, k_122_22, k_122_23, k_122_24, k_122_26, k_122_27, k_122_28, k_122_29, k_122_31, w_l4, gl_4, vi_i, w_c0, w_l5, gl_0, va_r, va_n, w_get, gd_10, id_1, zd_1, w_ald, w_b15, t_11, t_18_2, rc_0, io_d, w_l3, gl_3, w_b11, w_s7, sl_5, ll_5, gl_5, t_6, t_3, t_1, sl_6, ll_6, gl_6, t_2, gl_1, t_12, w_s6, sl_3, ll_3, w_inc, sl_4, z10, z01, z_bT, z_bF, true_or, or_true, false_or, or_false, Option.bind_some, Option.toList_some, Option.toList_none, List.cons_append, List.nil_append, List.length_cons, List.length_nil, Nat.zero_add, Nat.reduceAdd, Nat.reduceLeDiff, and_self, and_true, true_and, if_true, if_false, reduceCtorEq, ne_eq, not_false_eq_true, not_true_eq_false, ↓reduceIte, Nat.reduceEqDiff, Bool.not_not, rl_0_8, rl_1_8, rl_2_8, rl_3_8, rl_4_8, rl_5_8, rl_6_8, rl_7_8, rl_12_18, rl_13_18, rl_14_18, rl_15_18, rl_16_18, rl_17_18, rl_0_2, rl_1_2, cl_0, cl_1, cl_2, cl_3, cl_4, cl_5, cl_6, cl_7, cl_8, cl_9, cl_10, cl_11, cl_12, cl_13, cl_14, cl_15, cl_16, cl_17, ha, z_one_pow n hn, hlt, hlo1, hlo2, hsf1, hsf2, h5', h6', q7, h7, q4, h4, nI_1]
            exact h3 _ _
      · have h6' : ¬ nI m1 - nI m2 = 0 := fun z => h6 (c2.mp z)
        rw [if_neg (fun z => by rcases z.2 with h | h; exact h5 h; exact h6 h.1)] at h3
        simp only [k_122_17, k_122_18, k_122_19, k_122_20, k_122_25, k_122_26, k_122_30, k_122_31, w_l4, gl_4, vi_i, w_c0, w_l5, gl_0, va_r, va_n, w_get, gd_10, id_1, zd_1, w_ald, w_b15, t_11, t_18_2, rc_0, io_d, w_l3, gl_3, w_b11, w_s7, sl_5, ll_5, gl_5, t_6, t_3, t_0, sl_6, ll_6, gl_6, t_2, w_s6, sl_3, ll_3, w_inc, sl_4, t_1, z10, z01, z_bT, z_bF, true_or, or_true, false_or, or_false, Option.bind_some, Option.toList_some, Option.toList_none, List.cons_append, List.nil_append, List.length_cons, List.length_nil, Nat.zero_add, Nat.reduceAdd, Nat.reduceLeDiff, and_self, and_true, true_and, if_true, if_false, reduceCtorEq, ne_eq, not_false_eq_true, not_true_eq_false, ↓reduceIte, Nat.reduceEqDiff, Bool.not_not, rl_0_8, rl_1_8, rl_2_8, rl_3_8, rl_4_8, rl_5_8, rl_6_8, rl_7_8, rl_12_18, rl_13_18, rl_14_18, rl_15_18, rl_16_18, rl_17_18, rl_0_2, rl_1_2, cl_0, cl_1, cl_2, cl_3, cl_4, cl_5, cl_6, cl_7, cl_8, cl_9, cl_10, cl_11, cl_12, cl_13, cl_14, cl_15, cl_16, cl_17, ha, z_one_pow n hn, hlt, hlo1, hlo2, h5', h6', nI_1]
        exact h3 _ _
theorem r_gain (S : ai_S) (V : sv_V) (th : Int32) (tr : Int64) (ty : Int32) (nx : Int32) (tk : Int32) (pl : Int32) (va : Int32) (fa : Int32) (to : Int32) (um : Int32) (te : Int32) (hd : Int32) (wr : Int32) (a0 : Nat → Int32) (a1 : Nat → Int32) (a2 : Nat → Int32) (a3 : Nat → Int32) (a4 : Nat → Int32) (a5 : Nat → Int32) (a6 : Nat → Int32) (a7 : Nat → Int32) (a8 : Nat → Int32) (a9 : Nat → Int32) (a10 : Nat → Int32) (a11 : Nat → Int32) (a12 : Nat → Int32) (a13 : Nat → Int32) (n N : Nat) (hn : n ≤ 6) (hN : N ≤ 40) (ha : a1 0 = nI n) (hla : ∀ k, k < n → ∃ l, l ≤ 9 ∧ a4 k = nI l) (gr ve : Int32) (hgr : a1 1 = gr) (hve : a6 16 = ve) (w : Int32) (hw : w = 0 ∨ w = 1) : ∃ a13' hd' wr', ai_call S 122 [.ref 62, .int (nI N), .int w] (HP V ((th, tr, ty, nx, tk, pl, va, fa, to, um, te, hd, wr), (a0, a1, a2, a3, a4, a5, a6, a7, a8, a9, a10, a11, a12, a13))) = some (some (.int (if w = 0 then z_land a4 (nI (z_gm a4 (z_wm a3 a2 a6 gr ve (a6 12 ||| a6 13)) n N (2 ^ n - 1))) n else nI (z_gm a4 (z_wm a3 a2 a6 gr ve (a6 12 ||| a6 13)) n N (2 ^ n - 1)))), HP V ((0, tr, ty, nx, tk, pl, va, fa, to, um, te, hd', wr'), (a0, a1, a2, a3, a4, a5, a6, a7, a8, a9, a10, a11, a12, a13'))) := by
  obtain ⟨b13, h3, w3, x3, p3, q3⟩ := r_gain1 S V 0 tr ty nx tk pl va fa to um te hd wr a0 a1 a2 a3 a4 a5 a6 a7 a8 a9 a10 a11 a12 a13 n hn ha gr ve hgr hve (nI N) w ai_u ai_u n 0 a13 ai_u hd wr (by omega) (fun i hi => absurd hi (Nat.not_lt_zero _))
  refine ⟨b13, h3, w3, ?_⟩
  have hWle := z_wm_le a3 a2 a6 gr ve (a6 12 ||| a6 13)
  generalize z_wm a3 a2 a6 gr ve (a6 12 ||| a6 13) = W at p3 hWle ⊢
  have hp1 : 0 < 2 ^ n := Nat.pos_of_ne_zero (by intro z; simp at z)
  have hp2 := z_pow_le n hn
  have h1 : 0 ≤ nI N ∧ nI N ≤ 40 := ⟨nI_pos' (by omega), nI_le (b := 40) hN (by decide)⟩
  have h2 : 0 ≤ w ∧ w ≤ 1 := by rcases hw with rfl | rfl <;> decide
  have hlo := r_landOf S V 0 tr ty nx tk pl va fa to um te h3 w3 a0 a1 a2 a3 a4 a5 a6 a7 a8 a9 a10 a11 a12 b13 n hn ha
  have hsf := fun set => r_shakesFor S V 0 tr ty nx tk pl va fa to um te h3 w3 a0 a1 a2 a3 a4 a5 a6 a7 a8 a9 a10 a11 a12 b13 n hn ha set W p3
  have hlt : ¬ nI (2 ^ n) ≤ 0 := nI_nle hp1 (by omega)
  have hzz : ∀ x : Int32, x - x = 0 := fun x => Int32.sub_self x
  have h00 : ¬ (0 : Int32) < 0 := by decide
  have q3' : ai_res S 122 6 [.ref 62, .int (nI N), .int w, .int 0, ai_u, ai_u, ai_u] [] (HP V ((0, tr, ty, nx, tk, pl, va, fa, to, um, te, hd, wr), (a0, a1, a2, a3, a4, a5, a6, a7, a8, a9, a10, a11, a12, a13))) = _ := q3
  obtain ⟨y', z', g2⟩ := r_gain2 S V 0 tr ty nx tk pl va fa to um te h3 w3 a0 a1 a2 a3 a4 a5 a6 a7 a8 a9 a10 a11 a12 b13 n N hn hN ha hla W hWle p3 w (2 ^ n - 1) 0 (.int 0) (.int 0) (by omega)
  have g2' : ai_res S 122 16 [.ref 62, .int (nI N), .int w, .int 0, .int 1, .int 0, .int 0] [] (HP V ((0, tr, ty, nx, tk, pl, va, fa, to, um, te, h3, w3), (a0, a1, a2, a3, a4, a5, a6, a7, a8, a9, a10, a11, a12, b13))) = _ := g2
  have e01 : (0 : Int32) + 1 = 1 := by decide
  have hrefl : ∀ x : Int32, x ≤ x := fun x => Int32.le_refl x
  have hlo0 := hlo 0
  have hsf0 := hsf 0
  have first : ai_res S 122 16 [.ref 62, .int (nI N), .int w, .int 0, .int 0, ai_u, ai_u] [] (HP V ((0, tr, ty, nx, tk, pl, va, fa, to, um, te, h3, w3), (a0, a1, a2, a3, a4, a5, a6, a7, a8, a9, a10, a11, a12, b13))) = ai_res S 122 16 [.ref 62, .int (nI N), .int w, .int 0, .int 1, .int 0, .int 0] [] (HP V ((0, tr, ty, nx, tk, pl, va, fa, to, um, te, h3, w3), (a0, a1, a2, a3, a4, a5, a6, a7, a8, a9, a10, a11, a12, b13))) := by
    rw [k_122_16]
    simp only [k_122_17, k_122_18, k_122_19, k_122_20, k_122_21, k_122_22, k_122_23, k_122_25, k_122_26, k_122_30, k_122_31, w_l4, gl_4, vi_i, w_c0, w_l5, gl_0, va_r, va_n, w_get, gd_10, id_1, zd_1, w_ald, w_b15, t_11, t_18_2, rc_0, io_d, w_l3, gl_3, w_b11, w_s7, sl_5, ll_5, gl_5, t_6, t_3, t_0, sl_6, ll_6, gl_6, t_2, w_s6, sl_3, ll_3, w_inc, sl_4, t_1, z10, z01, z_bT, z_bF, true_or, or_true, false_or, or_false, Option.bind_some, Option.toList_some, Option.toList_none, List.cons_append, List.nil_append, List.length_cons, List.length_nil, Nat.zero_add, Nat.reduceAdd, Nat.reduceLeDiff, and_self, and_true, true_and, if_true, if_false, reduceCtorEq, ne_eq, not_false_eq_true, not_true_eq_false, ↓reduceIte, Nat.reduceEqDiff, Bool.not_not, rl_0_8, rl_1_8, rl_2_8, rl_3_8, rl_4_8, rl_5_8, rl_6_8, rl_7_8, rl_12_18, rl_13_18, rl_14_18, rl_15_18, rl_16_18, rl_17_18, rl_0_2, rl_1_2, cl_0, cl_1, cl_2, cl_3, cl_4, cl_5, cl_6, cl_7, cl_8, cl_9, cl_10, cl_11, cl_12, cl_13, cl_14, cl_15, cl_16, cl_17, ha, z_one_pow n hn, hlt, hlo0, hsf0, hzz, h00, hrefl, e01]
  rw [e_122]
  simp only [k_122_0, k_122_1, k_122_2, k_122_3, k_122_5, w_l5, gl_0, va_r, va_n, w_c0, w_putI, pd_0, w_l3, gl_1, vi_i, w_c1, t_19_3, rc_1, t_2, gl_2, t_3, w_s6, sl_3, ll_3, t_0, z10, z01, z_bT, z_bF, true_or, or_true, false_or, or_false, Option.bind_some, Option.toList_some, Option.toList_none, List.cons_append, List.nil_append, List.length_cons, List.length_nil, Nat.zero_add, Nat.reduceAdd, Nat.reduceLeDiff, and_self, and_true, true_and, if_true, if_false, reduceCtorEq, ne_eq, not_false_eq_true, not_true_eq_false, ↓reduceIte, Nat.reduceEqDiff, Bool.not_not, r_in, z_b_t h1, z_b_t h2]
  rw [q3']
  simp only [k_122_15, w_c0, w_s6, sl_3, ll_3, w_s7, sl_4, ll_4, t_0, z10, z01, z_bT, z_bF, true_or, or_true, false_or, or_false, Option.bind_some, Option.toList_some, Option.toList_none, List.cons_append, List.nil_append, List.length_cons, List.length_nil, Nat.zero_add, Nat.reduceAdd, Nat.reduceLeDiff, and_self, and_true, true_and, if_true, if_false, reduceCtorEq, ne_eq, not_false_eq_true, not_true_eq_false, ↓reduceIte, Nat.reduceEqDiff, Bool.not_not]
  rw [first, g2']
  have hlo1 := hlo (nI (z_gm a4 W n N (2 ^ n - 1)))
  rcases hw with rfl | rfl
  · simp only [k_122_32, k_122_33, k_122_34, k_122_36, w_l3, gl_2, vi_i, t_3, w_l5, gl_0, va_r, va_n, gl_3, t_18_2, rc_0, io_d, t_1, t_23, z10, z01, z_bT, z_bF, true_or, or_true, false_or, or_false, Option.bind_some, Option.toList_some, Option.toList_none, List.cons_append, List.nil_append, List.length_cons, List.length_nil, Nat.zero_add, Nat.reduceAdd, Nat.reduceLeDiff, and_self, and_true, true_and, if_true, if_false, reduceCtorEq, ne_eq, not_false_eq_true, not_true_eq_false, ↓reduceIte, Nat.reduceEqDiff, Bool.not_not, hlo1]
  · simp only [k_122_32, k_122_35, k_122_36, w_l3, gl_2, vi_i, t_3, gl_3, t_0, t_23, z10, z01, z_bT, z_bF, true_or, or_true, false_or, or_false, Option.bind_some, Option.toList_some, Option.toList_none, List.cons_append, List.nil_append, List.length_cons, List.length_nil, Nat.zero_add, Nat.reduceAdd, Nat.reduceLeDiff, and_self, and_true, true_and, if_true, if_false, reduceCtorEq, ne_eq, not_false_eq_true, not_true_eq_false, ↓reduceIte, Nat.reduceEqDiff, Bool.not_not]
