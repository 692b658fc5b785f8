/-! the class: reckonWay, turnOfWay -/
/-- what the table holds: all rows below row d (done > d) -/
def z_tab (F : Nat → Nat → Nat) (fe : Nat → Int32) (d : Nat) : Prop := ∀ d', d < d' → d' ≤ 10 → ∀ u, u ≤ d' → fe (11 * d' + u) = nI (F (10 - d') u)
theorem x_reckonWay (S : ai_S) (gr : Int32) (vl : Int32) (sg : Int32) (cs : Int32) (pr : Nat → Int32) (ha : Nat → Int32) (la : Nat → Int32) (wa : Nat → Int32) (p : sv_G) (sw : Bool) (t : sv_T) (br : Nat → Int32) (wm : Nat → Int32) (yi : Int32) (lf : Int32) (sh : Int32) (hu : Int32) (ve : Int32) (so : Int32) (pa : sv_P) (im : Nat → sv_M) (kp : Int32) (he : sv_H) (wl : Nat → Int32) (fe : Nat → Int32) (as : Int64) (D : sv_D) (c : Nat) (hc : c < 6) : ∃ fe', ai_call S 51 [.ref 1, .int (nI c)] (HP ((gr, vl, sg, cs, pr, ha, la, wa), p, sw, t, (br, wm, yi, lf, sh, hu, ve, so), pa, im, kp, he, wl, fe, as) D) = some (some (.int (nI (z_F (z_wy ha pr c gr ve (br c) (wm c)) (z_wl pr c gr (br c)) 10 0))), HP ((gr, vl, sg, cs, pr, ha, la, wa), p, sw, t, (br, wm, yi, lf, sh, hu, ve, so), pa, im, kp, he, wl, fe', as) D) ∧ ∀ d', d' ≤ 10 → ∀ u, u ≤ d' → fe' (11 * d' + u) = nI (z_F (z_wy ha pr c gr ve (br c) (wm c)) (z_wl pr c gr (br c)) (10 - d') u) := by
  have inner : ∀ j u d fe, d ≤ 10 → u + j = d + 1 → z_tab (z_F (z_wy ha pr c gr ve (br c) (wm c)) (z_wl pr c gr (br c))) fe d → (∀ u', u' < u → fe (11 * d + u') = nI (z_F (z_wy ha pr c gr ve (br c) (wm c)) (z_wl pr c gr (br c)) (10 - d) u')) → ∃ fe2, z_tab (z_F (z_wy ha pr c gr ve (br c) (wm c)) (z_wl pr c gr (br c))) fe2 d ∧ (∀ u', u' ≤ d → fe2 (11 * d + u') = nI (z_F (z_wy ha pr c gr ve (br c) (wm c)) (z_wl pr c gr (br c)) (10 - d) u')) ∧ ai_res S 51 3 [.ref 1, .int (nI c), .int (nI d), .int (nI u)] [] (HP ((gr, vl, sg, cs, pr, ha, la, wa), p, sw, t, (br, wm, yi, lf, sh, hu, ve, so), pa, im, kp, he, wl, fe, as) D) = ai_res S 51 1 [.ref 1, .int (nI c), .int (nI d + -1), .int (nI (d + 1))] [] (HP ((gr, vl, sg, cs, pr, ha, la, wa), p, sw, t, (br, wm, yi, lf, sh, hu, ve, so), pa, im, kp, he, wl, fe2, as) D) := by
    intro j
    induction j with
    | zero =>
      intro u d fe hd hq ht hrow
      have e1 : u = d + 1 := by omega
      subst e1
      have hgt : nI d < nI (d + 1) := nI_lt (by omega) (by omega)
      refine ⟨fe, ht, fun u' h => hrow u' (by omega), ?_⟩
      rw [k_51_3]
      simp only [k_51_0, k_51_2, k_51_4, k_51_5, k_51_6, k_51_7, k_51_8, k_51_9, k_51_10, k_51_11, w_c1, w_s6, sl_2, ll_2, t_0, w_l3, gl_2, vi_i, t_4, w_c0, sl_3, ll_3, gl_3, t_12, w_l5, gl_0, va_r, va_n, w_get, gf_x9, ia_fe, pz_fe, t_19_2, rc_1, gl_1, t_18_4, rc_0, io_x, t_19_3, w_inc, t_1, t_23, z10, z01, z_bT, z_bF, true_or, or_true, false_or, or_false, Option.bind_some, Option.toList_some, Option.toList_none, List.cons_append, List.nil_append, List.length_cons, List.length_nil, Nat.zero_add, Nat.reduceAdd, Nat.reduceLeDiff, and_self, and_true, true_and, if_true, if_false, reduceCtorEq, ne_eq, not_false_eq_true, not_true_eq_false, ↓reduceIte, Nat.reduceEqDiff, Bool.not_not, hgt]
    | succ j ih =>
      intro u d fe hd hq ht hrow
      have hud : u ≤ d := by omega
      have hng : ¬ nI d < nI u := nI_nlt (by omega) (by omega)
      have hix : 11 * d + u < 121 := by omega
      have hfb := x_fewestBehind S gr vl sg cs pr ha la wa p sw t br wm yi lf sh hu ve so pa im kp he wl fe as D c d u hc hd hud (fun h10 => ⟨by rw [ht (d + 1) (by omega) (by omega) (u + 1) (by omega)]; rw [show 10 - (d + 1) = 9 - d by omega], by rw [ht (d + 1) (by omega) (by omega) u (by omega)]; rw [show 10 - (d + 1) = 9 - d by omega]⟩)
      obtain ⟨fe2, g1, g2, g3⟩ := ih (u + 1) d (upd fe (11 * d + u) (nI (z_F (z_wy ha pr c gr ve (br c) (wm c)) (z_wl pr c gr (br c)) (10 - d) u))) hd (by omega) (fun d' h1 h2 u' h3 => by rw [pk_un (by omega)]; exact ht d' h1 h2 u' h3) (fun u' h => by
        by_cases he : u' = u
        · subst he; exact pk_us
        · rw [pk_un (by omega)]; exact hrow u' (by omega))
      refine ⟨fe2, g1, g2, ?_⟩
      rw [← g3, k_51_3]
      simp only [k_51_0, k_51_2, k_51_4, k_51_5, k_51_6, k_51_7, k_51_8, k_51_9, k_51_10, k_51_11, w_c1, w_s6, sl_2, ll_2, t_0, w_l3, gl_2, vi_i, t_4, w_c0, sl_3, ll_3, gl_3, t_12, w_l5, gl_0, va_r, va_n, w_get, gf_x9, ia_fe, pz_fe, t_19_2, rc_1, gl_1, t_18_4, rc_0, io_x, t_19_3, w_inc, t_1, t_23, z10, z01, z_bT, z_bF, true_or, or_true, false_or, or_false, Option.bind_some, Option.toList_some, Option.toList_none, List.cons_append, List.nil_append, List.length_cons, List.length_nil, Nat.zero_add, Nat.reduceAdd, Nat.reduceLeDiff, and_self, and_true, true_and, if_true, if_false, reduceCtorEq, ne_eq, not_false_eq_true, not_true_eq_false, ↓reduceIte, Nat.reduceEqDiff, Bool.not_not, hng, x_cell, z_cell, hfb, x_put, ob_s, hix, nI_1]
  have outer : ∀ d fe (x : Value), d ≤ 10 → z_tab (z_F (z_wy ha pr c gr ve (br c) (wm c)) (z_wl pr c gr (br c))) fe d → ∃ fe2, (∀ d', d' ≤ 10 → ∀ u, u ≤ d' → fe2 (11 * d' + u) = nI (z_F (z_wy ha pr c gr ve (br c) (wm c)) (z_wl pr c gr (br c)) (10 - d') u)) ∧ ai_res S 51 1 [.ref 1, .int (nI c), .int (nI d), x] [] (HP ((gr, vl, sg, cs, pr, ha, la, wa), p, sw, t, (br, wm, yi, lf, sh, hu, ve, so), pa, im, kp, he, wl, fe, as) D) = some (some (.int (nI (z_F (z_wy ha pr c gr ve (br c) (wm c)) (z_wl pr c gr (br c)) 10 0))), HP ((gr, vl, sg, cs, pr, ha, la, wa), p, sw, t, (br, wm, yi, lf, sh, hu, ve, so), pa, im, kp, he, wl, fe2, as) D) := by
    intro d
    induction d with
    | zero =>
      intro fe x hd ht
      obtain ⟨fe2, g1, g2, g3⟩ := inner 1 0 0 fe (by omega) rfl ht (fun u' h => absurd h (Nat.not_lt_zero _))
      have hall : ∀ d', d' ≤ 10 → ∀ u, u ≤ d' → fe2 (11 * d' + u) = nI (z_F (z_wy ha pr c gr ve (br c) (wm c)) (z_wl pr c gr (br c)) (10 - d') u) := by
        intro d' h1 u h2
        by_cases h0 : d' = 0
        · subst h0; exact g2 u h2
        · exact g1 d' (by omega) h1 u h2
      refine ⟨fe2, hall, ?_⟩
      have h0 : ¬ nI 0 < 0 := by decide
      have h1 : nI 0 + -1 < 0 := by decide
      have h00 : fe2 0 = nI (z_F (z_wy ha pr c gr ve (br c) (wm c)) (z_wl pr c gr (br c)) 10 0) := hall 0 (by omega) 0 (by omega)
      have e0 : (0 : Int32) * 11 + 0 = nI 0 := by decide
      rw [k_51_1]
      simp only [k_51_0, k_51_2, k_51_4, k_51_5, k_51_6, k_51_7, k_51_8, k_51_9, k_51_10, k_51_11, w_c1, w_s6, sl_2, ll_2, t_0, w_l3, gl_2, vi_i, t_4, w_c0, sl_3, ll_3, gl_3, t_12, w_l5, gl_0, va_r, va_n, w_get, gf_x9, ia_fe, pz_fe, t_19_2, rc_1, gl_1, t_18_4, rc_0, io_x, t_19_3, w_inc, t_1, t_23, z10, z01, z_bT, z_bF, true_or, or_true, false_or, or_false, Option.bind_some, Option.toList_some, Option.toList_none, List.cons_append, List.nil_append, List.length_cons, List.length_nil, Nat.zero_add, Nat.reduceAdd, Nat.reduceLeDiff, and_self, and_true, true_and, if_true, if_false, reduceCtorEq, ne_eq, not_false_eq_true, not_true_eq_false, ↓reduceIte, Nat.reduceEqDiff, Bool.not_not, h0]
      have g4 : ai_res S 51 3 [.ref 1, .int (nI c), .int (nI 0), .int 0] [] (HP ((gr, vl, sg, cs, pr, ha, la, wa), p, sw, t, (br, wm, yi, lf, sh, hu, ve, so), pa, im, kp, he, wl, fe, as) D) = _ := g3
      rw [g4, k_51_1]
      simp only [k_51_0, k_51_2, k_51_4, k_51_5, k_51_6, k_51_7, k_51_8, k_51_9, k_51_10, k_51_11, w_c1, w_s6, sl_2, ll_2, t_0, w_l3, gl_2, vi_i, t_4, w_c0, sl_3, ll_3, gl_3, t_12, w_l5, gl_0, va_r, va_n, w_get, gf_x9, ia_fe, pz_fe, t_19_2, rc_1, gl_1, t_18_4, rc_0, io_x, t_19_3, w_inc, t_1, t_23, z10, z01, z_bT, z_bF, true_or, or_true, false_or, or_false, Option.bind_some, Option.toList_some, Option.toList_none, List.cons_append, List.nil_append, List.length_cons, List.length_nil, Nat.zero_add, Nat.reduceAdd, Nat.reduceLeDiff, and_self, and_true, true_and, if_true, if_false, reduceCtorEq, ne_eq, not_false_eq_true, not_true_eq_false, ↓reduceIte, Nat.reduceEqDiff, Bool.not_not, h1, x_cell, e0, x_at, ob_s, h00]
      rfl
    | succ d ih =>
      intro fe x hd ht
      obtain ⟨fe2, g1, g2, g3⟩ := inner (d + 2) 0 (d + 1) fe hd (by omega) ht (fun u' h => absurd h (Nat.not_lt_zero _))
      obtain ⟨fe3, f1, f2⟩ := ih fe2 (.int (nI (d + 1 + 1))) (by omega) (fun d' h1 h2 u h3 => by
        by_cases he : d' = d + 1
        · subst he; exact g2 u h3
        · exact g1 d' (by omega) h2 u h3)
      refine ⟨fe3, f1, ?_⟩
      have h0 : ¬ nI (d + 1) < 0 := nI_pos (by omega)
      have g4 : ai_res S 51 3 [.ref 1, .int (nI c), .int (nI (d + 1)), .int 0] [] (HP ((gr, vl, sg, cs, pr, ha, la, wa), p, sw, t, (br, wm, yi, lf, sh, hu, ve, so), pa, im, kp, he, wl, fe, as) D) = _ := g3
      rw [k_51_1]
      simp only [k_51_0, k_51_2, k_51_4, k_51_5, k_51_6, k_51_7, k_51_8, k_51_9, k_51_10, k_51_11, w_c1, w_s6, sl_2, ll_2, t_0, w_l3, gl_2, vi_i, t_4, w_c0, sl_3, ll_3, gl_3, t_12, w_l5, gl_0, va_r, va_n, w_get, gf_x9, ia_fe, pz_fe, t_19_2, rc_1, gl_1, t_18_4, rc_0, io_x, t_19_3, w_inc, t_1, t_23, z10, z01, z_bT, z_bF, true_or, or_true, false_or, or_false, Option.bind_some, Option.toList_some, Option.toList_none, List.cons_append, List.nil_append, List.length_cons, List.length_nil, Nat.zero_add, Nat.reduceAdd, Nat.reduceLeDiff, and_self, and_true, true_and, if_true, if_false, reduceCtorEq, ne_eq, not_false_eq_true, not_true_eq_false, ↓reduceIte, Nat.reduceEqDiff, Bool.not_not, h0]
      rw [g4, pk_m1]
      exact f2
  obtain ⟨fe2, f1, f2⟩ := outer 10 fe ai_u (by omega) (fun d' h1 h2 => by omega)
  refine ⟨fe2, ?_, f1⟩
  rw [e_51]
  simp only [k_51_0, w_c1, w_s6, sl_2, ll_2, t_0, z10, z01, z_bT, z_bF, true_or, or_true, false_or, or_false, Option.bind_some, Option.toList_some, Option.toList_none, List.cons_append, List.nil_append, List.length_cons, List.length_nil, Nat.zero_add, Nat.reduceAdd, Nat.reduceLeDiff, and_self, and_true, true_and, if_true, if_false, reduceCtorEq, ne_eq, not_false_eq_true, not_true_eq_false, ↓reduceIte, Nat.reduceEqDiff, Bool.not_not]
  exact f2
