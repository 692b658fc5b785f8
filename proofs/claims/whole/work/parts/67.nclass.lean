/-! constructors: the past, the class -/
def pF (n : Nat) : Nat → Nat → Option Nat
  | 0 => fun _ => none
  | i + 1 => va_up (pF n i) i (some (n + 2 + 3 * i + 1))
def tR (n : Nat) : Nat → ai_H
  | 0 => []
  | i + 1 => tR n i ++ tM (n + 2 + 3 * i)
def tP (n i : Nat) : ai_H := .inr (2, [.ref (n + 2), .int 0, .int 0]) :: .inl (2, 10, .inr (.inr (.inr (.inr (pF n i))))) :: tR n i
theorem tR_len (n : Nat) : ∀ i, (tR n i).length = 3 * i
  | 0 => rfl
  | i + 1 => by
    show (tR n i ++ tM (n + 2 + 3 * i)).length = _
    rw [List.length_append, tR_len n i]
    show 3 * i + 3 = 3 * (i + 1)
    omega
theorem ap_2 {P : ai_H} {n : Nat} (hP : P.length = n) (x y : va_E) (T : ai_H) : (P ++ x :: y :: T)[n + 1]? = some y := by
  have e : P ++ x :: y :: T = (P ++ [x]) ++ y :: T := by simp
  rw [e]
  exact ap_at (by rw [List.length_append, hP]; rfl) y T
theorem ap_ra {P : ai_H} {n : Nat} (hP : P.length = n) (x : va_E) (k : Nat) (f : Nat → Option Nat) (T : ai_H) : ai_ra (P ++ x :: .inl (2, k, .inr (.inr (.inr (.inr f)))) :: T) (n + 2) = some (k, f) := by
  have h : ai_cell (P ++ x :: .inl (2, k, .inr (.inr (.inr (.inr f)))) :: T) (n + 2) = some (.inl (2, k, .inr (.inr (.inr (.inr f))))) := ap_2 hP _ _ _
  unfold ai_ra
  rw [h]
  rfl
theorem ap_pra {P : ai_H} {n : Nat} (hP : P.length = n) (x : va_E) (k : Nat) (f g : Nat → Option Nat) (T : ai_H) : ai_pra (P ++ x :: .inl (2, k, .inr (.inr (.inr (.inr f)))) :: T) (n + 2) g = some (P ++ x :: .inl (2, k, .inr (.inr (.inr (.inr g)))) :: T) := by
  have h : ai_cell (P ++ x :: .inl (2, k, .inr (.inr (.inr (.inr f)))) :: T) (n + 2) = some (.inl (2, k, .inr (.inr (.inr (.inr f))))) := ap_2 hP _ _ _
  unfold ai_pra
  rw [h]
  show some ((P ++ x :: .inl (2, k, .inr (.inr (.inr (.inr f)))) :: T).set (n + 1) (.inl (2, k, .inr (.inr (.inr (.inr g)))))) = _
  have e : ∀ y : va_E, P ++ x :: y :: T = (P ++ [x]) ++ y :: T := by simp
  rw [e, e, ap_set (by rw [List.length_append, hP]; rfl)]
theorem ap_ioM {H : ai_H} {n : Nat} (hH : H.length = n) : ai_io (H ++ tM n) (n + 1) 1 = true := by
  have h : ai_cell (H ++ tM n) (n + 1) = some (mv_c n cM) := ap_at hH _ _
  unfold ai_io
  rw [h]
  rfl
theorem n_P (S : ai_S) (P : ai_H) (n : Nat) (hP : P.length = n) : ai_call S 5 [.ref (n + 1)] (P ++ [.inr (2, ai_fresh 2)]) = some (none, P ++ tP n 10) := by
  have key : ∀ j i, i + j = 10 → ai_res S 5 1 [.ref (n + 1), .int (nI i)] [] (P ++ tP n i) = some (none, P ++ tP n 10) := by
    intro j
    induction j with
    | zero =>
      intro i hi
      have e : i = 10 := by omega
      subst e
      have hge : (10 : Int32) ≤ nI 10 := Int32.le_refl _
      have hgf : Int32.ofNat 10 ≤ nI 10 := Int32.le_refl _
      have g1 : ai_gf (P ++ tP n 10) (n + 1) 2 0 = some (.ref (n + 2)) := ap_gf hP 2 0 _ _
      have ga : ai_ra (P ++ tP n 10) (n + 2) = some (10, pF n 10) := ap_ra hP _ _ _ _
      generalize P ++ tP n 10 = H at g1 ga
      rw [k_5_1]
      simp only [k_5_4, w_l3, gl_1, vi_i, w_l5, gl_0, va_r, va_n, w_get, gf_pa0, ra_rows, t_11, t_27, z10, z01, z_bT, z_bF, true_or, or_true, false_or, or_false, Option.bind_some, Option.toList_some, Option.toList_none, List.cons_append, List.nil_append, List.length_cons, List.length_nil, Nat.zero_add, Nat.reduceAdd, Nat.reduceLeDiff, and_self, and_true, true_and, if_true, if_false, reduceCtorEq, ne_eq, not_false_eq_true, not_true_eq_false, ↓reduceIte, Nat.reduceEqDiff, Bool.not_not, g1, w_lenr S _ _ _ _ _ _ _ _ _ _ (n + 2) (by omega) ga, hge, hgf]
    | succ j ih =>
      intro i hi
      have hlt : ¬ (10 : Int32) ≤ nI i := nI_ge (b := 10) (by omega) (by omega)
      have hlf : ¬ Int32.ofNat 10 ≤ nI i := nI_ge (b := 10) (by omega) (by omega)
      have ga : ai_ra (P ++ tP n i) (n + 2) = some (10, pF n i) := ap_ra hP _ _ _ _
      have hH : (P ++ tP n i).length = n + 2 + 3 * i := by
        rw [List.length_append, hP]
        show n + ((tR n i).length + 1 + 1) = _
        rw [tR_len]
        omega
      have g1 : ai_gf (P ++ tP n i) (n + 1) 2 0 = some (.ref (n + 2)) := ap_gf hP 2 0 _ _
      have g2 : ai_call S 2 [.ref (n + 2 + 3 * i + 1)] ((P ++ tP n i) ++ [.inr (1, ai_fresh 1)]) = some (none, (P ++ tP n i) ++ tM (n + 2 + 3 * i)) := n_M S _ _ hH
      have eH : (P ++ tP n i) ++ tM (n + 2 + 3 * i) = P ++ .inr (2, [.ref (n + 2), .int 0, .int 0]) :: .inl (2, 10, .inr (.inr (.inr (.inr (pF n i))))) :: (tR n i ++ tM (n + 2 + 3 * i)) := List.append_assoc _ _ _
      have g3 : ai_ra ((P ++ tP n i) ++ tM (n + 2 + 3 * i)) (n + 2) = some (10, pF n i) := by
        rw [eH]
        exact ap_ra hP _ _ _ _
      have g4 : ai_io ((P ++ tP n i) ++ tM (n + 2 + 3 * i)) (n + 2 + 3 * i + 1) 1 = true := ap_ioM hH
      have g5 : ai_pra ((P ++ tP n i) ++ tM (n + 2 + 3 * i)) (n + 2) (va_up (pF n i) i (some (n + 2 + 3 * i + 1))) = some (P ++ tP n (i + 1)) := by
        rw [eH]
        exact ap_pra hP _ _ _ _ _
      have h10 : i < 10 := by omega
      have hcl := nI_clamp (n := i) (by omega)
      have h2 := ih (i + 1) (by omega)
      generalize P ++ tP n (i + 1) = H3 at g5 h2
      generalize (P ++ tP n i) ++ tM (n + 2 + 3 * i) = H2 at g2 g3 g4 g5
      generalize P ++ tP n i = H at hH g1 g2 ga
      rw [k_5_1]
      simp only [k_5_2, k_5_3, w_l3, gl_1, vi_i, w_l5, gl_0, va_r, va_n, w_get, gf_pa0, ra_rows, t_11, w_dupi, w_dupr, t_22_1, rc_5, w_inc, sl_1, t_1, z10, z01, z_bT, z_bF, true_or, or_true, false_or, or_false, Option.bind_some, Option.toList_some, Option.toList_none, List.cons_append, List.nil_append, List.length_cons, List.length_nil, Nat.zero_add, Nat.reduceAdd, Nat.reduceLeDiff, and_self, and_true, true_and, if_true, if_false, reduceCtorEq, ne_eq, not_false_eq_true, not_true_eq_false, ↓reduceIte, Nat.reduceEqDiff, Bool.not_not, w_lenr S _ _ _ _ _ _ _ _ _ _ (n + 2) (by omega) ga, hlt, hlf, nw_o, hH, g1, g2, nw_aast, g3, rg_n h10 (by omega), hcl, g4, g5, nI_1]
      exact h2
  have k0 := key 10 0 rfl
  rw [e_5, fr_2, k_5_0]
  simp (config := { decide := true }) only [w_l5, gl_0, va_r, va_n, w_c0, w_c1, w_putI, w_putF, w_s6, w_s7, sl_1, ll_1, t_0, nw_obj, nw_r10, ap_pf hP, List.set_cons_zero, List.set_cons_succ, List.append_assoc, List.length_append, Nat.add_assoc, hP, z10, z01, z_bT, z_bF, true_or, or_true, false_or, or_false, Option.bind_some, Option.toList_some, Option.toList_none, List.cons_append, List.nil_append, List.length_cons, List.length_nil, Nat.zero_add, Nat.reduceAdd, Nat.reduceLeDiff, and_self, and_true, true_and, if_true, if_false, reduceCtorEq, ne_eq, not_false_eq_true, not_true_eq_false, ↓reduceIte, Nat.reduceEqDiff, Bool.not_not]
  exact k0
theorem n_begin (S : ai_S) (h : ai_H) (q : Nat) (md : sv_M) (hd : mv_h h q md) (v : Int32) : ai_call S 3 [.ref (q + 1), .int v] h = some (none, mv_s h q (z_cp md.1 cz 6, z_cp md.2.1 cz 6, 0, 0, 0, 0, v, -9)) := by
  rw [e_3]
  have l := mv_lt hd
  obtain ⟨a0, b0, y0, f0, kk0, u0, v0, o0⟩ := md
  have G := fun m : sv_M => mv_gf (mv_at l m)
  have A := fun m : sv_M => mv_ia (mv_at l m)
  have key : ∀ n j, j + n = 6 → ai_res S 3 1 [.ref (q + 1), .int v, .int (nI j)] [] (mv_s h q (z_cp a0 cz j, z_cp b0 cz j, y0, f0, kk0, u0, v0, o0)) = some (none, mv_s h q (z_cp a0 cz 6, z_cp b0 cz 6, 0, 0, 0, 0, v, -9)) := by
    intro n
    induction n with
    | zero =>
      intro j hj
      have e6 : j = 6 := by omega
      subst e6
      have h6 : (6 : Int32) ≤ nI 6 := by decide
      simp only [k_3_1, k_3_5, w_l3, gl_2, vi_i, w_c1, t_11, w_l5, gl_0, va_r, va_n, w_c0, w_putI, pf_m2, pf_m3, pf_m4, pf_m5, gl_1, pf_m6, pf_m7, t_27, z10, z01, z_bT, z_bF, true_or, or_true, false_or, or_false, Option.bind_some, Option.toList_some, Option.toList_none, List.cons_append, List.nil_append, List.length_cons, List.length_nil, Nat.zero_add, Nat.reduceAdd, Nat.reduceLeDiff, and_self, and_true, true_and, if_true, if_false, reduceCtorEq, ne_eq, not_false_eq_true, not_true_eq_false, ↓reduceIte, Nat.reduceEqDiff, Bool.not_not, h6, (mv_pf l _ _ _ _ _ _ _ _ _).1, (mv_pf l _ _ _ _ _ _ _ _ _).2.1, (mv_pf l _ _ _ _ _ _ _ _ _).2.2.1, (mv_pf l _ _ _ _ _ _ _ _ _).2.2.2.1, (mv_pf l _ _ _ _ _ _ _ _ _).2.2.2.2.1, (mv_pf l _ _ _ _ _ _ _ _ _).2.2.2.2.2]
    | succ n ih =>
      intro j hj
      have hlt : ¬ (6 : Int32) ≤ nI j := nI_ge (b := 6) (by omega) (by decide)
      have hj6 : j < 6 := by omega
      have e2 : q + 2 ≠ 0 := by omega
      have e3 : q + 3 ≠ 0 := by omega
      rw [k_3_1]
      simp only [k_3_0, k_3_2, k_3_3, k_3_4, k_3_5, w_c0, w_s6, sl_2, ll_2, t_0, w_l3, gl_2, vi_i, w_c1, t_11, w_l5, gl_0, va_r, va_n, w_get, gf_m0, ia_m0, pz_m0, t_21_3, rc_4, gf_m1, ia_m1, pz_m1, w_inc, t_1, w_putI, pf_m2, pf_m3, pf_m4, pf_m5, gl_1, pf_m6, pf_m7, t_27, z10, z01, z_bT, z_bF, true_or, or_true, false_or, or_false, Option.bind_some, Option.toList_some, Option.toList_none, List.cons_append, List.nil_append, List.length_cons, List.length_nil, Nat.zero_add, Nat.reduceAdd, Nat.reduceLeDiff, and_self, and_true, true_and, if_true, if_false, reduceCtorEq, ne_eq, not_false_eq_true, not_true_eq_false, ↓reduceIte, Nat.reduceEqDiff, Bool.not_not, hlt, (G _).1, (G _).2.1, (A _).1, (A _).2, x_put, ob_s, e2, e3, hj6, (mv_pa l _ _).1, (mv_pa l _ _).2, nI_1]
      exact ih (j + 1) (by omega)
  have k0 := key 6 0 rfl
  have hz : mv_s h q (z_cp a0 cz 0, z_cp b0 cz 0, y0, f0, kk0, u0, v0, o0) = h := mv_self hd
  rw [hz] at k0
  simp only [k_3_0, w_c0, w_s6, sl_2, ll_2, t_0, z10, z01, z_bT, z_bF, true_or, or_true, false_or, or_false, Option.bind_some, Option.toList_some, Option.toList_none, List.cons_append, List.nil_append, List.length_cons, List.length_nil, Nat.zero_add, Nat.reduceAdd, Nat.reduceLeDiff, and_self, and_true, true_and, if_true, if_false, reduceCtorEq, ne_eq, not_false_eq_true, not_true_eq_false, ↓reduceIte, Nat.reduceEqDiff, Bool.not_not]
  exact k0
theorem c_b0 (S : ai_S) (H H2 : ai_H) (q : ai_call S 8 [.ref (H.length + 1)] (H ++ [.inr (3, ai_fresh 3)]) = some (none, H2)) : ai_res S 24 0 [.ref 1, ai_u] [] H = ai_res S 24 1 [.ref 1, ai_u] [.ref (H.length + 1), .ref 1] H2 := by
  rw [k_24_0]
  simp only [w_l5, gl_0, va_r, nw_obj, nw_o, w_dupr, t_20_1, rc_2, t_22_1, rc_5, q, z10, z01, z_bT, z_bF, true_or, or_true, false_or, or_false, Option.bind_some, Option.toList_some, Option.toList_none, List.cons_append, List.nil_append, List.length_cons, List.length_nil, Nat.zero_add, Nat.reduceAdd, Nat.reduceLeDiff, and_self, and_true, true_and, if_true, if_false, reduceCtorEq, ne_eq, not_false_eq_true, not_true_eq_false, ↓reduceIte, Nat.reduceEqDiff, Bool.not_not]
theorem c_b1 (S : ai_S) (v : Nat) (H H1 H2 : ai_H) (p : ai_pf H 1 5 0 (.ref v) = some H1) (q : ai_call S 8 [.ref (H1.length + 1)] (H1 ++ [.inr (3, ai_fresh 3)]) = some (none, H2)) : ai_res S 24 1 [.ref 1, ai_u] [.ref v, .ref 1] H = ai_res S 24 2 [.ref 1, ai_u] [.ref (H1.length + 1), .ref 1] H2 := by
  rw [k_24_1]
  simp only [w_putR, w_l5, gl_0, va_r, nw_o, w_dupr, t_20_1, rc_2, t_22_1, rc_5, p, q, z10, z01, z_bT, z_bF, true_or, or_true, false_or, or_false, Option.bind_some, Option.toList_some, Option.toList_none, List.cons_append, List.nil_append, List.length_cons, List.length_nil, Nat.zero_add, Nat.reduceAdd, Nat.reduceLeDiff, and_self, and_true, true_and, if_true, if_false, reduceCtorEq, ne_eq, not_false_eq_true, not_true_eq_false, ↓reduceIte, Nat.reduceEqDiff, Bool.not_not]
theorem c_b2 (S : ai_S) (v : Nat) (H H1 H2 : ai_H) (p : ai_pf H 1 5 1 (.ref v) = some H1) (q : ai_call S 11 [.ref (H1.length + 1)] (H1 ++ [.inr (4, ai_fresh 4)]) = some (none, H2)) : ai_res S 24 2 [.ref 1, ai_u] [.ref v, .ref 1] H = ai_res S 24 3 [.ref 1, ai_u] [.ref (H1.length + 1), .ref 1] H2 := by
  rw [k_24_2]
  simp only [w_putR, w_l5, gl_0, va_r, nw_o, w_dupr, t_20_1, rc_2, t_22_1, rc_5, p, q, z10, z01, z_bT, z_bF, true_or, or_true, false_or, or_false, Option.bind_some, Option.toList_some, Option.toList_none, List.cons_append, List.nil_append, List.length_cons, List.length_nil, Nat.zero_add, Nat.reduceAdd, Nat.reduceLeDiff, and_self, and_true, true_and, if_true, if_false, reduceCtorEq, ne_eq, not_false_eq_true, not_true_eq_false, ↓reduceIte, Nat.reduceEqDiff, Bool.not_not]
theorem c_b3 (S : ai_S) (v : Nat) (H H1 H2 : ai_H) (p : ai_pf H 1 5 2 (.ref v) = some H1) (q : ai_call S 2 [.ref (H1.length + 1)] (H1 ++ [.inr (1, ai_fresh 1)]) = some (none, H2)) : ai_res S 24 3 [.ref 1, ai_u] [.ref v, .ref 1] H = ai_res S 24 4 [.ref 1, ai_u] [.ref (H1.length + 1), .ref 1] H2 := by
  rw [k_24_3]
  simp only [w_putF, w_l5, gl_0, va_r, nw_o, w_dupr, t_20_1, rc_2, t_22_1, rc_5, p, q, z10, z01, z_bT, z_bF, true_or, or_true, false_or, or_false, Option.bind_some, Option.toList_some, Option.toList_none, List.cons_append, List.nil_append, List.length_cons, List.length_nil, Nat.zero_add, Nat.reduceAdd, Nat.reduceLeDiff, and_self, and_true, true_and, if_true, if_false, reduceCtorEq, ne_eq, not_false_eq_true, not_true_eq_false, ↓reduceIte, Nat.reduceEqDiff, Bool.not_not]
theorem c_b4 (S : ai_S) (v : Nat) (H H1 H2 : ai_H) (p : ai_pf H 1 5 3 (.ref v) = some H1) (q : ai_call S 5 [.ref (H1.length + 1)] (H1 ++ [.inr (2, ai_fresh 2)]) = some (none, H2)) : ai_res S 24 4 [.ref 1, ai_u] [.ref v, .ref 1] H = ai_res S 24 5 [.ref 1, ai_u] [.ref (H1.length + 1), .ref 1] H2 := by
  rw [k_24_4]
  simp only [w_putF, w_l5, gl_0, va_r, nw_o, w_dupr, t_20_1, rc_2, t_22_1, rc_5, p, q, z10, z01, z_bT, z_bF, true_or, or_true, false_or, or_false, Option.bind_some, Option.toList_some, Option.toList_none, List.cons_append, List.nil_append, List.length_cons, List.length_nil, Nat.zero_add, Nat.reduceAdd, Nat.reduceLeDiff, and_self, and_true, true_and, if_true, if_false, reduceCtorEq, ne_eq, not_false_eq_true, not_true_eq_false, ↓reduceIte, Nat.reduceEqDiff, Bool.not_not]
theorem c_b5 (S : ai_S) (v : Nat) (H H1 H2 : ai_H) (p : ai_pf H 1 5 4 (.ref v) = some H1) (p2 : ai_pf (H1 ++ [.inl (2, 2, .inr (.inr (.inr (.inr (fun _ => none)))))]) 1 5 5 (.ref (H1.length + 1)) = some H2) : ai_res S 24 5 [.ref 1, ai_u] [.ref v, .ref 1] H = ai_res S 24 6 [.ref 1, .int (nI 0)] [] H2 := by
  rw [k_24_5]
  simp only [w_putF, w_l5, gl_0, va_r, w_c0, w_c1, nw_r2, w_s6, w_s7, sl_1, ll_1, t_0, p, p2, nI_0, z10, z01, z_bT, z_bF, true_or, or_true, false_or, or_false, Option.bind_some, Option.toList_some, Option.toList_none, List.cons_append, List.nil_append, List.length_cons, List.length_nil, Nat.zero_add, Nat.reduceAdd, Nat.reduceLeDiff, and_self, and_true, true_and, if_true, if_false, reduceCtorEq, ne_eq, not_false_eq_true, not_true_eq_false, ↓reduceIte, Nat.reduceEqDiff, Bool.not_not]
theorem c_b6 (S : ai_S) (i : Nat) (hi : i < 2) (H H2 H3 : ai_H) (f : Nat → Option Nat) (g1 : ai_gf H 1 5 5 = some (.ref 49)) (g0 : ai_ra H 49 = some (2, f)) (q : ai_call S 2 [.ref (H.length + 1)] (H ++ [.inr (1, ai_fresh 1)]) = some (none, H2)) (g3 : ai_ra H2 49 = some (2, f)) (g4 : ai_io H2 (H.length + 1) 1 = true) (g5 : ai_pra H2 49 (va_up f i (some (H.length + 1))) = some H3) : ai_res S 24 6 [.ref 1, .int (nI i)] [] H = ai_res S 24 6 [.ref 1, .int (nI (i + 1))] [] H3 := by
  have hlt : ¬ (2 : Int32) ≤ nI i := nI_ge (b := 2) (by omega) (by omega)
  have hlf : ¬ Int32.ofNat 2 ≤ nI i := nI_ge (b := 2) (by omega) (by omega)
  have hcl := nI_clamp (n := i) (by omega)
  rw [k_24_6]
  simp only [w_l5, w_l3, w_l4, gl_0, gl_1, sl_1, va_r, vi_i, w_c0, w_c1, t_11, k_24_7, k_24_8, w_get, nw_o, w_dupr, t_20_1, rc_2, t_22_1, rc_5, nw_aast, w_inc, t_1, w_lenr S _ _ _ _ _ _ _ _ _ _ 49 (by decide) g0, hlt, hlf, g1, q, g3, rg_n hi (by omega), hcl, g4, g5, nI_1, z10, z01, z_bT, z_bF, true_or, or_true, false_or, or_false, Option.bind_some, Option.toList_some, Option.toList_none, List.cons_append, List.nil_append, List.length_cons, List.length_nil, Nat.zero_add, Nat.reduceAdd, Nat.reduceLeDiff, and_self, and_true, true_and, if_true, if_false, reduceCtorEq, ne_eq, not_false_eq_true, not_true_eq_false, ↓reduceIte, Nat.reduceEqDiff, Bool.not_not]
theorem c_b7 (S : ai_S) (H : ai_H) (f : Nat → Option Nat) (g1 : ai_gf H 1 5 5 = some (.ref 49)) (g0 : ai_ra H 49 = some (2, f)) : ai_res S 24 6 [.ref 1, .int (nI 2)] [] H = ai_res S 24 9 [.ref 1, .int (nI 2)] [] H := by
  have hge : (2 : Int32) ≤ nI 2 := Int32.le_refl _
  have hgf : Int32.ofNat 2 ≤ nI 2 := Int32.le_refl _
  rw [k_24_6]
  simp only [w_l5, w_l3, w_l4, gl_0, gl_1, va_r, vi_i, w_c0, w_c1, w_get, t_11, g1, w_lenr S _ _ _ _ _ _ _ _ _ _ 49 (by decide) g0, hge, hgf, z10, z01, z_bT, z_bF, true_or, or_true, false_or, or_false, Option.bind_some, Option.toList_some, Option.toList_none, List.cons_append, List.nil_append, List.length_cons, List.length_nil, Nat.zero_add, Nat.reduceAdd, Nat.reduceLeDiff, and_self, and_true, true_and, if_true, if_false, reduceCtorEq, ne_eq, not_false_eq_true, not_true_eq_false, ↓reduceIte, Nat.reduceEqDiff, Bool.not_not]
theorem c_b9 (S : ai_S) (x : Value) (H H2 : ai_H) (q : ai_call S 0 [.ref (H.length + 1)] (H ++ [.inr (0, ai_fresh 0)]) = some (none, H2)) : ai_res S 24 9 [.ref 1, x] [] H = ai_res S 24 10 [.ref 1, x] [.ref (H.length + 1), .ref 1] H2 := by
  rw [k_24_9]
  simp only [w_l5, gl_0, va_r, nw_o, w_dupr, t_20_1, rc_2, t_22_1, rc_5, q, z10, z01, z_bT, z_bF, true_or, or_true, false_or, or_false, Option.bind_some, Option.toList_some, Option.toList_none, List.cons_append, List.nil_append, List.length_cons, List.length_nil, Nat.zero_add, Nat.reduceAdd, Nat.reduceLeDiff, and_self, and_true, true_and, if_true, if_false, reduceCtorEq, ne_eq, not_false_eq_true, not_true_eq_false, ↓reduceIte, Nat.reduceEqDiff, Bool.not_not]
theorem c_b10 (S : ai_S) (x : Value) (v : Nat) (H H1 H2 H3 H4 : ai_H) (p1 : ai_pf H 1 5 7 (.ref v) = some H1) (p2 : ai_pf (H1 ++ [.inl (0, 6, .inl (fun _ => 0))]) 1 5 8 (.ref (H1.length + 1)) = some H2) (p3 : ai_pf (H2 ++ [.inl (0, 121, .inl (fun _ => 0))]) 1 5 9 (.ref (H2.length + 1)) = some H3) (g1 : ai_gf H3 1 5 3 = some (.ref 14)) (g2 : ai_gf H3 1 5 0 = some (.ref 2)) (g3 : ai_gf H3 2 3 1 = some (.int 3)) (g4 : ai_io H3 14 1 = true) (q : ai_call S 3 [.ref 14, .int 3] H3 = some (none, H4)) : ai_res S 24 10 [.ref 1, x] [.ref v, .ref 1] H = some (none, H4) := by
  rw [k_24_10]
  simp only [w_putF, w_l5, gl_0, va_r, w_c0, w_c1, nw_i6, nw_i121, w_get, k_24_11, t_27, z10, z01, z_bT, z_bF, true_or, or_true, false_or, or_false, Option.bind_some, Option.toList_some, Option.toList_none, List.cons_append, List.nil_append, List.length_cons, List.length_nil, Nat.zero_add, Nat.reduceAdd, Nat.reduceLeDiff, and_self, and_true, true_and, if_true, if_false, reduceCtorEq, ne_eq, not_false_eq_true, not_true_eq_false, ↓reduceIte, Nat.reduceEqDiff, Bool.not_not, t_18_2, t_20_2, t_21_2, t_22_2, rc_0, rc_2, rc_4, rc_5, p1, p2, p3, g1, g2, g3, g4, q]
