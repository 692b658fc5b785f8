/-! the reference: yieldsBy, wayBy, way, gain -/
def z_dY (ha pr : Nat → Int32) (c : Nat) (gr ve b w : Int32) : ∀ d p, Decidable (z_wy ha pr c gr ve b w d p) := fun _ _ => inferInstance
def z_dL (pr : Nat → Int32) (c : Nat) (gr b : Int32) : ∀ d p, Decidable (z_wl pr c gr b d p) := fun _ _ => inferInstance
/-- how bruised and warm he is, p plain of d shakes -/
abbrev z_hB (gr b : Int32) (p : Nat) : Int32 := b + nI p * gr
abbrev z_hW (ve w : Int32) (d p : Nat) : Int32 := w + nI p * ve + nI (d - p) * (2 * ve)
theorem z_hB1 (gr b : Int32) (p : Nat) : z_hB gr b p + gr = z_hB gr b (p + 1) := by
  unfold z_hB
  rw [← nI_1, Int32.add_mul, Int32.one_mul, Int32.add_assoc]
theorem z_hW0 (ve w : Int32) (d p : Nat) : z_hW ve w d p + ve = z_hW ve w (d + 1) (p + 1) := by
  unfold z_hW
  rw [show d + 1 - (p + 1) = d - p by omega, ← nI_1, Int32.add_mul, Int32.one_mul, Int32.add_assoc, Int32.add_assoc w, Int32.add_assoc w, Int32.add_comm (nI (d - p) * (2 * ve)) ve, Int32.add_assoc]
theorem z_hW1 (ve w : Int32) (d p : Nat) (hp : p ≤ d) : z_hW ve w d p + 2 * ve = z_hW ve w (d + 1) p := by
  unfold z_hW
  rw [show d + 1 - p = (d - p) + 1 by omega, ← nI_1, show (nI (d - p) + 1) * (2 * ve) = nI (d - p) * (2 * ve) + 2 * ve by rw [Int32.add_mul, Int32.one_mul], Int32.add_assoc]
theorem r_yieldsBy (S : ai_S) (V : sv_V) (th : Int32) (tr : Int64) (ty : Int32) (nx : Int32) (tk : Int32) (pl : Int32) (va : Int32) (fa : Int32) (to : Int32) (um : Int32) (te : Int32) (hd : Int32) (wr : Int32) (a0 : Nat → Int32) (a1 : Nat → Int32) (a2 : Nat → Int32) (a3 : Nat → Int32) (a4 : Nat → Int32) (a5 : Nat → Int32) (a6 : Nat → Int32) (a7 : Nat → Int32) (a8 : Nat → Int32) (a9 : Nat → Int32) (a10 : Nat → Int32) (a11 : Nat → Int32) (a12 : Nat → Int32) (a13 : Nat → Int32) (c row n : Nat) (hc : c < 6) (hn : n ≤ 10) (hr : row < 1024) (gr ve : Int32) (hgr : a1 1 = gr) (hve : a6 16 = ve) : ∃ hd' wr', ai_call S 117 [.ref 62, .int (nI c), .int (nI row), .int (nI n)] (HP V ((th, tr, ty, nx, tk, pl, va, fa, to, um, te, hd, wr), (a0, a1, a2, a3, a4, a5, a6, a7, a8, a9, a10, a11, a12, a13))) = some (some (.int (zi (z_sim (z_wy a3 a2 c gr ve (a6 c) (a6 (6 + c))) (z_wl a2 c gr (a6 c)) (z_dY a3 a2 c gr ve (a6 c) (a6 (6 + c))) (z_dL a2 c gr (a6 c)) row n 0 0))), HP V ((th, tr, ty, nx, tk, pl, va, fa, to, um, te, hd', wr'), (a0, a1, a2, a3, a4, a5, a6, a7, a8, a9, a10, a11, a12, a13))) := by
  have key : ∀ k d p, d + k = n → p ≤ d → ∃ hd' wr', ai_res S 117 2 [.ref 62, .int (nI c), .int (nI row), .int (nI n), .int 0, .int (nI k - 1)] [] (HP V ((th, tr, ty, nx, tk, pl, va, fa, to, um, te, z_hB gr (a6 c) p, z_hW ve (a6 (6 + c)) d p), (a0, a1, a2, a3, a4, a5, a6, a7, a8, a9, a10, a11, a12, a13))) = some (some (.int (zi (z_sim (z_wy a3 a2 c gr ve (a6 c) (a6 (6 + c))) (z_wl a2 c gr (a6 c)) (z_dY a3 a2 c gr ve (a6 c) (a6 (6 + c))) (z_dL a2 c gr (a6 c)) row k d p))), HP V ((th, tr, ty, nx, tk, pl, va, fa, to, um, te, hd', wr'), (a0, a1, a2, a3, a4, a5, a6, a7, a8, a9, a10, a11, a12, a13))) := by
    intro k
    induction k with
    | zero =>
      intro d p hdk hp
      refine ⟨z_hB gr (a6 c) p, z_hW ve (a6 (6 + c)) d p, ?_⟩
      have h0 : nI 0 - 1 < 0 := by decide
      rw [k_117_2]
      simp only [k_117_7, k_117_9, k_117_10, w_l4, gl_5, vi_i, t_4, gl_4, w_c0, t_9, t_0, t_24_0, t_24_1, z10, z01, z_bT, z_bF, true_or, or_true, false_or, or_false, Option.bind_some, Option.toList_some, Option.toList_none, List.cons_append, List.nil_append, List.length_cons, List.length_nil, Nat.zero_add, Nat.reduceAdd, Nat.reduceLeDiff, and_self, and_true, true_and, if_true, if_false, reduceCtorEq, ne_eq, not_false_eq_true, not_true_eq_false, ↓reduceIte, Nat.reduceEqDiff, Bool.not_not, h0]
      rfl
    | succ k ih =>
      intro d p hdk hp
      rw [nI_sub1]
      have h0 : ¬ nI k < 0 := nI_pos (by omega)
      have e10 : ((1 : Int32) = 0) = False := z10
      have hsh : (nI row >>> (nI k &&& 31)) &&& 1 = zi (row.testBit k) := by
        rw [z_and1]
        by_cases hb : row.testBit k = true
        · rw [z_b_t ((z_bit_n row k (by omega) (by omega)).mpr hb), zi_t hb]
        · rw [z_b_f (fun z => hb ((z_bit_n row k (by omega) (by omega)).mp z)), zi_f hb]
      have hs1 : z_s1 (a2 c) (a3 c) (zi (row.testBit k)) gr ve (z_hB gr (a6 c) p) (z_hW ve (a6 (6 + c)) d p) = if (z_wy a3 a2 c gr ve (a6 c) (a6 (6 + c))) (d + 1) (if row.testBit k then p else p + 1) then (1, 0, 0) else (if (z_wl a2 c gr (a6 c)) (d + 1) (if row.testBit k then p else p + 1) then 2 else 0, z_hB gr (a6 c) (if row.testBit k then p else p + 1), z_hW ve (a6 (6 + c)) (d + 1) (if row.testBit k then p else p + 1)) := by
        by_cases hb : row.testBit k = true
        · rw [zi_t hb, if_pos hb]
          have e1 : z_hB gr (a6 c) p + 0 = z_hB gr (a6 c) p := Int32.add_zero _
          unfold z_s1
          rw [if_neg (show ¬ (1 : Int32) = 0 by decide), if_neg (show ¬ (1 : Int32) = 0 by decide), e1, z_hW1 _ _ _ _ hp]
        · rw [zi_f hb, if_neg hb, z_s1_0, z_hB1, z_hW0]
      rw [k_117_2]
      by_cases hy : (z_wy a3 a2 c gr ve (a6 c) (a6 (6 + c))) (d + 1) (if row.testBit k then p else p + 1)
      · rw [if_pos hy] at hs1
        rw [z_sim_y (z_wy a3 a2 c gr ve (a6 c) (a6 (6 + c))) (z_wl a2 c gr (a6 c)) (z_dY a3 a2 c gr ve (a6 c) (a6 (6 + c))) (z_dL a2 c gr (a6 c)) row k d p hy]
        simp only [k_117_3, k_117_5, k_117_6, w_l4, gl_5, vi_i, t_4, gl_4, t_2, w_l5, gl_0, va_r, va_n, w_l3, gl_1, gl_2, w_b16, w_c0, w_b13, w_get, gd_10, id_1, w_ald, gd_15, id_6, w_c1, t_18_5, rc_0, io_d, w_s7, sl_4, ll_4, w_inc, sl_5, t_1, z10, z01, z_bT, z_bF, true_or, or_true, false_or, or_false, Option.bind_some, Option.toList_some, Option.toList_none, List.cons_append, List.nil_append, List.length_cons, List.length_nil, Nat.zero_add, Nat.reduceAdd, Nat.reduceLeDiff, and_self, and_true, true_and, if_true, if_false, reduceCtorEq, ne_eq, not_false_eq_true, not_true_eq_false, ↓reduceIte, Nat.reduceEqDiff, Bool.not_not, rl_0_8, rl_1_8, rl_2_8, rl_3_8, rl_4_8, rl_5_8, rl_6_8, rl_7_8, rl_12_18, rl_13_18, rl_14_18, rl_15_18, rl_16_18, rl_17_18, rl_0_2, rl_1_2, cl_0, cl_1, cl_2, cl_3, cl_4, cl_5, cl_6, cl_7, cl_8, cl_9, cl_10, cl_11, cl_12, cl_13, cl_14, cl_15, cl_16, cl_17, h0, hgr, hve, hsh, r_shake, hc, hs1]
        refine ⟨0, 0, ?_⟩
        cases k with
        | zero =>
          have h1 : nI 0 + -1 < 0 := by decide
          rw [k_117_2]
          simp only [k_117_7, k_117_8, k_117_10, w_l4, gl_5, vi_i, t_4, gl_4, w_c0, t_9, t_1, t_24_0, t_24_1, z10, z01, z_bT, z_bF, true_or, or_true, false_or, or_false, Option.bind_some, Option.toList_some, Option.toList_none, List.cons_append, List.nil_append, List.length_cons, List.length_nil, Nat.zero_add, Nat.reduceAdd, Nat.reduceLeDiff, and_self, and_true, true_and, if_true, if_false, reduceCtorEq, ne_eq, not_false_eq_true, not_true_eq_false, ↓reduceIte, Nat.reduceEqDiff, Bool.not_not, h1]
          rfl
        | succ k =>
          rw [pk_m1]
          have h1 : ¬ nI k < 0 := nI_pos (by omega)
          rw [k_117_2]
          simp only [k_117_3, k_117_4, w_l4, gl_5, vi_i, t_4, gl_4, t_2, w_c0, t_24_0, t_24_1, z10, z01, z_bT, z_bF, true_or, or_true, false_or, or_false, Option.bind_some, Option.toList_some, Option.toList_none, List.cons_append, List.nil_append, List.length_cons, List.length_nil, Nat.zero_add, Nat.reduceAdd, Nat.reduceLeDiff, and_self, and_true, true_and, if_true, if_false, reduceCtorEq, ne_eq, not_false_eq_true, not_true_eq_false, ↓reduceIte, Nat.reduceEqDiff, Bool.not_not, h1]
          rfl
      · rw [if_neg hy] at hs1
        by_cases hl : (z_wl a2 c gr (a6 c)) (d + 1) (if row.testBit k then p else p + 1)
        · rw [if_pos hl] at hs1
          rw [z_sim_l (z_wy a3 a2 c gr ve (a6 c) (a6 (6 + c))) (z_wl a2 c gr (a6 c)) (z_dY a3 a2 c gr ve (a6 c) (a6 (6 + c))) (z_dL a2 c gr (a6 c)) row k d p hy hl]
          simp only [k_117_3, k_117_5, k_117_6, w_l4, gl_5, vi_i, t_4, gl_4, t_2, w_l5, gl_0, va_r, va_n, w_l3, gl_1, gl_2, w_b16, w_c0, w_b13, w_get, gd_10, id_1, w_ald, gd_15, id_6, w_c1, t_18_5, rc_0, io_d, w_s7, sl_4, ll_4, w_inc, sl_5, t_1, z10, z01, z_bT, z_bF, true_or, or_true, false_or, or_false, Option.bind_some, Option.toList_some, Option.toList_none, List.cons_append, List.nil_append, List.length_cons, List.length_nil, Nat.zero_add, Nat.reduceAdd, Nat.reduceLeDiff, and_self, and_true, true_and, if_true, if_false, reduceCtorEq, ne_eq, not_false_eq_true, not_true_eq_false, ↓reduceIte, Nat.reduceEqDiff, Bool.not_not, rl_0_8, rl_1_8, rl_2_8, rl_3_8, rl_4_8, rl_5_8, rl_6_8, rl_7_8, rl_12_18, rl_13_18, rl_14_18, rl_15_18, rl_16_18, rl_17_18, rl_0_2, rl_1_2, cl_0, cl_1, cl_2, cl_3, cl_4, cl_5, cl_6, cl_7, cl_8, cl_9, cl_10, cl_11, cl_12, cl_13, cl_14, cl_15, cl_16, cl_17, h0, hgr, hve, hsh, r_shake, hc, hs1]
          refine ⟨z_hB gr (a6 c) (if row.testBit k then p else p + 1), z_hW ve (a6 (6 + c)) (d + 1) (if row.testBit k then p else p + 1), ?_⟩
          have e20 : ¬ (2 : Int32) = 0 := by decide
          have e21 : ¬ (2 : Int32) = 1 := by decide
          cases k with
          | zero =>
            have h1 : nI 0 + -1 < 0 := by decide
            rw [k_117_2]
            simp only [k_117_7, k_117_9, k_117_10, w_l4, gl_5, vi_i, t_4, gl_4, w_c0, t_9, t_0, t_24_0, t_24_1, z10, z01, z_bT, z_bF, true_or, or_true, false_or, or_false, Option.bind_some, Option.toList_some, Option.toList_none, List.cons_append, List.nil_append, List.length_cons, List.length_nil, Nat.zero_add, Nat.reduceAdd, Nat.reduceLeDiff, and_self, and_true, true_and, if_true, if_false, reduceCtorEq, ne_eq, not_false_eq_true, not_true_eq_false, ↓reduceIte, Nat.reduceEqDiff, Bool.not_not, h1, e21]
            rfl
          | succ k =>
            rw [pk_m1]
            have h1 : ¬ nI k < 0 := nI_pos (by omega)
            rw [k_117_2]
            simp only [k_117_3, k_117_4, w_l4, gl_5, vi_i, t_4, gl_4, t_2, w_c0, t_24_0, t_24_1, z10, z01, z_bT, z_bF, true_or, or_true, false_or, or_false, Option.bind_some, Option.toList_some, Option.toList_none, List.cons_append, List.nil_append, List.length_cons, List.length_nil, Nat.zero_add, Nat.reduceAdd, Nat.reduceLeDiff, and_self, and_true, true_and, if_true, if_false, reduceCtorEq, ne_eq, not_false_eq_true, not_true_eq_false, ↓reduceIte, Nat.reduceEqDiff, Bool.not_not, h1, e20]
            rfl
        · rw [if_neg hl] at hs1
          rw [z_sim_n (z_wy a3 a2 c gr ve (a6 c) (a6 (6 + c))) (z_wl a2 c gr (a6 c)) (z_dY a3 a2 c gr ve (a6 c) (a6 (6 + c))) (z_dL a2 c gr (a6 c)) row k d p hy hl]
          obtain ⟨h3, w3, q3⟩ := ih (d + 1) (if row.testBit k then p else p + 1) (by omega) (by split <;> omega)
          refine ⟨h3, w3, ?_⟩
          simp only [k_117_3, k_117_5, k_117_6, w_l4, gl_5, vi_i, t_4, gl_4, t_2, w_l5, gl_0, va_r, va_n, w_l3, gl_1, gl_2, w_b16, w_c0, w_b13, w_get, gd_10, id_1, w_ald, gd_15, id_6, w_c1, t_18_5, rc_0, io_d, w_s7, sl_4, ll_4, w_inc, sl_5, t_1, z10, z01, z_bT, z_bF, true_or, or_true, false_or, or_false, Option.bind_some, Option.toList_some, Option.toList_none, List.cons_append, List.nil_append, List.length_cons, List.length_nil, Nat.zero_add, Nat.reduceAdd, Nat.reduceLeDiff, and_self, and_true, true_and, if_true, if_false, reduceCtorEq, ne_eq, not_false_eq_true, not_true_eq_false, ↓reduceIte, Nat.reduceEqDiff, Bool.not_not, rl_0_8, rl_1_8, rl_2_8, rl_3_8, rl_4_8, rl_5_8, rl_6_8, rl_7_8, rl_12_18, rl_13_18, rl_14_18, rl_15_18, rl_16_18, rl_17_18, rl_0_2, rl_1_2, cl_0, cl_1, cl_2, cl_3, cl_4, cl_5, cl_6, cl_7, cl_8, cl_9, cl_10, cl_11, cl_12, cl_13, cl_14, cl_15, cl_16, cl_17, h0, hgr, hve, hsh, r_shake, hc, hs1]
          rw [show nI k + -1 = nI k - 1 from (Int32.sub_eq_add_neg _ _).symm]
          exact q3
  obtain ⟨h3, w3, q3⟩ := key n 0 0 (by omega) (Nat.le_refl _)
  refine ⟨h3, w3, ?_⟩
  have e1 : z_hB gr (a6 c) 0 = a6 c := by
    unfold z_hB
    rw [show nI 0 = 0 from rfl, Int32.zero_mul, Int32.add_zero]
  have e2 : z_hW ve (a6 (6 + c)) 0 0 = a6 (6 + c) := by
    unfold z_hW
    rw [show nI 0 = 0 from rfl, Int32.zero_mul, Int32.add_zero, Int32.zero_mul, Int32.add_zero]
  rw [e1, e2] at q3
  rw [e_117]
  simp only [k_117_0, k_117_1, w_l5, gl_0, va_r, va_n, w_l3, gl_1, vi_i, t_18_2, rc_0, io_d, w_c0, w_s7, sl_4, ll_4, gl_3, w_b11, sl_5, ll_5, t_0, z10, z01, z_bT, z_bF, true_or, or_true, false_or, or_false, Option.bind_some, Option.toList_some, Option.toList_none, List.cons_append, List.nil_append, List.length_cons, List.length_nil, Nat.zero_add, Nat.reduceAdd, Nat.reduceLeDiff, and_self, and_true, true_and, if_true, if_false, reduceCtorEq, ne_eq, not_false_eq_true, not_true_eq_false, ↓reduceIte, Nat.reduceEqDiff, Bool.not_not, r_aside, hc]
  exact q3
