/-! the class: ask, keep, back, odds -/
/-- of the callers below c: the best so far, its part -/
def z_ask (q : Nat → Int32) (all : Int32) : Nat → Int32 × Int32
  | 0 => (-9, all + 1)
  | c + 1 => if (if q c < all - q c then all - q c else q c) < (z_ask q all c).2 then (nI c, if q c < all - q c then all - q c else q c) else z_ask q all c
theorem x_ask_b (S : ai_S) (h : ai_H) (k : Int32) (hb : k < 1 ∨ ¬ k ≤ 9) : ai_call S 66 [.ref 1, .int k] h = some (some (.int (-1)), h) := by
  rw [e_66]
  by_cases h0 : k < 1
  · simp only [k_66_0, k_66_1, k_66_2, w_l3, gl_1, vi_i, w_c0, t_10, w_c1, t_13, t_23, z10, z01, z_bT, z_bF, true_or, or_true, false_or, or_false, Option.bind_some, Option.toList_some, Option.toList_none, List.cons_append, List.nil_append, List.length_cons, List.length_nil, Nat.zero_add, Nat.reduceAdd, Nat.reduceLeDiff, and_self, and_true, true_and, if_true, if_false, reduceCtorEq, ne_eq, not_false_eq_true, not_true_eq_false, ↓reduceIte, Nat.reduceEqDiff, Bool.not_not, h0]
  · have h1 := hb.resolve_left h0
    simp only [k_66_0, k_66_1, k_66_2, w_l3, gl_1, vi_i, w_c0, t_10, w_c1, t_13, t_23, z10, z01, z_bT, z_bF, true_or, or_true, false_or, or_false, Option.bind_some, Option.toList_some, Option.toList_none, List.cons_append, List.nil_append, List.length_cons, List.length_nil, Nat.zero_add, Nat.reduceAdd, Nat.reduceLeDiff, and_self, and_true, true_and, if_true, if_false, reduceCtorEq, ne_eq, not_false_eq_true, not_true_eq_false, ↓reduceIte, Nat.reduceEqDiff, Bool.not_not, h0, h1]
theorem x_ask_n (S : ai_S) (gr : Int32) (vl : Int32) (sg : Int32) (cs : Int32) (pr : Nat → Int32) (ha : Nat → Int32) (la : Nat → Int32) (wa : Nat → Int32) (p : sv_G) (sw : Bool) (t : sv_T) (m : sv_M) (pa : sv_P) (im : Nat → sv_M) (kp : Int32) (wh : Nat → Int32) (ti : Nat → Int32) (yd : Nat → Int32) (wl : Nat → Int32) (fe : Nat → Int32) (as : Int64) (D : sv_D) (s K : Nat) (hs : s ≤ 6) (wc tk : Nat → Nat) (hw : ∀ i, i < s → wh i = nI (wc i) ∧ wc i < 6 ∧ ti i = nI (tk i) ∧ tk i < 10) (h0 : ¬ nI K < 1) (h1 : nI K ≤ 9) (h2 : ¬ 1 < z_pop (z_so (fun i => z_Y pr ha gr (wc i) (tk i)) yd s)) : ai_call S 66 [.ref 1, .int (nI K)] (HP ((gr, vl, sg, cs, pr, ha, la, wa), p, sw, t, m, pa, im, kp, (wh, ti, yd, nI s), wl, fe, as) D) = some (some (.int (-9)), HP ((gr, vl, sg, cs, pr, ha, la, wa), p, sw, t, m, pa, im, kp, (wh, ti, yd, nI s), wl, fe, as) D) := by
  rw [e_66]
  simp only [k_66_0, k_66_1, k_66_2, k_66_3, k_66_4, k_66_5, k_66_6, k_66_7, k_66_9, k_66_10, k_66_11, k_66_12, k_66_13, k_66_14, w_l3, gl_1, vi_i, w_c0, t_10, w_c1, t_13, t_23, w_l5, gl_0, va_r, va_n, t_18_1, rc_0, io_x, w_s6, sl_2, ll_2, gl_2, t_19_1, rc_1, sl_3, ll_3, gl_3, t_12, w_s7, sl_4, ll_4, w_b10, sl_5, ll_5, sl_6, ll_6, t_0, w_l4, gl_6, w_get, gf_x0, gf_g3, gf_p3, t_11, t_18_3, w_b13, sl_7, ll_7, gl_7, w_b11, w_max, sl_8, ll_8, gl_8, gl_5, w_inc, t_1, gl_4, z10, z01, z_bT, z_bF, true_or, or_true, false_or, or_false, Option.bind_some, Option.toList_some, Option.toList_none, List.cons_append, List.nil_append, List.length_cons, List.length_nil, Nat.zero_add, Nat.reduceAdd, Nat.reduceLeDiff, and_self, and_true, true_and, if_true, if_false, reduceCtorEq, ne_eq, not_false_eq_true, not_true_eq_false, ↓reduceIte, Nat.reduceEqDiff, Bool.not_not, h0, h1, x_soft (hs := hs) (wc := wc) (tk := tk) (hw := hw), x_pop, h2]
theorem x_ask (S : ai_S) (gr : Int32) (vl : Int32) (sg : Int32) (pr : Nat → Int32) (ha : Nat → Int32) (la : Nat → Int32) (wa : Nat → Int32) (p : sv_G) (sw : Bool) (t : sv_T) (m : sv_M) (pa : sv_P) (im : Nat → sv_M) (kp : Int32) (wh : Nat → Int32) (ti : Nat → Int32) (yd : Nat → Int32) (wl : Nat → Int32) (fe : Nat → Int32) (as : Int64) (D : sv_D) (n s K : Nat) (hn : n ≤ 6) (hs : s ≤ 6) (hK : K < 10) (wc tk : Nat → Nat) (hw : ∀ i, i < s → wh i = nI (wc i) ∧ wc i < 6 ∧ ti i = nI (tk i) ∧ tk i < 10) (h0 : ¬ nI K < 1) (h1 : nI K ≤ 9) (so al : Int32) (hso : z_so (fun i => z_Y pr ha gr (wc i) (tk i)) yd s = so) (hal : z_pop so = al) (h2 : 1 < al) : ai_call S 66 [.ref 1, .int (nI K)] (HP ((gr, vl, sg, nI n, pr, ha, la, wa), p, sw, t, m, pa, im, kp, (wh, ti, yd, nI s), wl, fe, as) D) = some (some (.int (z_ask (fun c => z_pop (so &&& z_Y pr ha gr c K)) al n).1), HP ((gr, vl, sg, nI n, pr, ha, la, wa), p, sw, t, m, pa, im, kp, (wh, ti, yd, nI s), wl, fe, as) D) := by
  rw [e_66]
  generalize hq : (fun c => z_pop (so &&& z_Y pr ha gr c K)) = q
  have hqc : ∀ c, z_pop (so &&& z_Y pr ha gr c K) = q c := fun c => by rw [← hq]
  have key : ∀ j c (x y : Value), c + j = n → ai_res S 66 8 [.ref 1, .int (nI K), .int so, .int al, .int (z_ask q al c).1, .int (z_ask q al c).2, .int (nI c), x, y] [] (HP ((gr, vl, sg, nI n, pr, ha, la, wa), p, sw, t, m, pa, im, kp, (wh, ti, yd, nI s), wl, fe, as) D) = some (some (.int (z_ask q al n).1), HP ((gr, vl, sg, nI n, pr, ha, la, wa), p, sw, t, m, pa, im, kp, (wh, ti, yd, nI s), wl, fe, as) D) := by
    intro j
    induction j with
    | zero =>
      intro c x y hc
      have e1 : c = n := by omega
      subst e1
      have hge : nI c ≤ nI c := Int32.le_refl _
      rw [k_66_8]
      simp only [k_66_0, k_66_1, k_66_2, k_66_3, k_66_4, k_66_5, k_66_6, k_66_7, k_66_9, k_66_10, k_66_11, k_66_12, k_66_13, k_66_14, w_l3, gl_1, vi_i, w_c0, t_10, w_c1, t_13, t_23, w_l5, gl_0, va_r, va_n, t_18_1, rc_0, io_x, w_s6, sl_2, ll_2, gl_2, t_19_1, rc_1, sl_3, ll_3, gl_3, t_12, w_s7, sl_4, ll_4, w_b10, sl_5, ll_5, sl_6, ll_6, t_0, w_l4, gl_6, w_get, gf_x0, gf_g3, gf_p3, t_11, t_18_3, w_b13, sl_7, ll_7, gl_7, w_b11, w_max, sl_8, ll_8, gl_8, gl_5, w_inc, t_1, gl_4, z10, z01, z_bT, z_bF, true_or, or_true, false_or, or_false, Option.bind_some, Option.toList_some, Option.toList_none, List.cons_append, List.nil_append, List.length_cons, List.length_nil, Nat.zero_add, Nat.reduceAdd, Nat.reduceLeDiff, and_self, and_true, true_and, if_true, if_false, reduceCtorEq, ne_eq, not_false_eq_true, not_true_eq_false, ↓reduceIte, Nat.reduceEqDiff, Bool.not_not, hge]
    | succ j ih =>
      intro c x y hc
      have hlt : ¬ nI n ≤ nI c := nI_ge (by omega) (by omega)
      have hc6 : c < 6 := by omega
      have h3 := fun x y => ih (c + 1) x y (by omega)
      rw [k_66_8]
      by_cases hz : (if q c < al - q c then al - q c else q c) < (z_ask q al c).2
      · simp only [k_66_0, k_66_1, k_66_2, k_66_3, k_66_4, k_66_5, k_66_6, k_66_7, k_66_9, k_66_10, k_66_11, k_66_12, k_66_13, k_66_14, w_l3, gl_1, vi_i, w_c0, t_10, w_c1, t_13, t_23, w_l5, gl_0, va_r, va_n, t_18_1, rc_0, io_x, w_s6, sl_2, ll_2, gl_2, t_19_1, rc_1, sl_3, ll_3, gl_3, t_12, w_s7, sl_4, ll_4, w_b10, sl_5, ll_5, sl_6, ll_6, t_0, w_l4, gl_6, w_get, gf_x0, gf_g3, gf_p3, t_11, t_18_3, w_b13, sl_7, ll_7, gl_7, w_b11, w_max, sl_8, ll_8, gl_8, gl_5, w_inc, t_1, gl_4, z10, z01, z_bT, z_bF, true_or, or_true, false_or, or_false, Option.bind_some, Option.toList_some, Option.toList_none, List.cons_append, List.nil_append, List.length_cons, List.length_nil, Nat.zero_add, Nat.reduceAdd, Nat.reduceLeDiff, and_self, and_true, true_and, if_true, if_false, reduceCtorEq, ne_eq, not_false_eq_true, not_true_eq_false, ↓reduceIte, Nat.reduceEqDiff, Bool.not_not, hlt, x_yieldingVelvets, hc6, hK, x_pop, hqc, nI_1, Int32.not_le.mpr hz, List.map_nil, List.sum_nil]
        rw [z_ask, if_pos hz] at h3
        exact h3 _ _
      · simp only [k_66_0, k_66_1, k_66_2, k_66_3, k_66_4, k_66_5, k_66_6, k_66_7, k_66_9, k_66_10, k_66_11, k_66_12, k_66_13, k_66_14, w_l3, gl_1, vi_i, w_c0, t_10, w_c1, t_13, t_23, w_l5, gl_0, va_r, va_n, t_18_1, rc_0, io_x, w_s6, sl_2, ll_2, gl_2, t_19_1, rc_1, sl_3, ll_3, gl_3, t_12, w_s7, sl_4, ll_4, w_b10, sl_5, ll_5, sl_6, ll_6, t_0, w_l4, gl_6, w_get, gf_x0, gf_g3, gf_p3, t_11, t_18_3, w_b13, sl_7, ll_7, gl_7, w_b11, w_max, sl_8, ll_8, gl_8, gl_5, w_inc, t_1, gl_4, z10, z01, z_bT, z_bF, true_or, or_true, false_or, or_false, Option.bind_some, Option.toList_some, Option.toList_none, List.cons_append, List.nil_append, List.length_cons, List.length_nil, Nat.zero_add, Nat.reduceAdd, Nat.reduceLeDiff, and_self, and_true, true_and, if_true, if_false, reduceCtorEq, ne_eq, not_false_eq_true, not_true_eq_false, ↓reduceIte, Nat.reduceEqDiff, Bool.not_not, hlt, x_yieldingVelvets, hc6, hK, x_pop, hqc, nI_1, Int32.not_lt.mp hz, List.map_nil, List.sum_nil]
        rw [z_ask, if_neg hz] at h3
        exact h3 _ _
  have k0 := key n 0 ai_u ai_u (by omega)
  simp only [k_66_0, k_66_1, k_66_2, k_66_3, k_66_4, k_66_5, k_66_6, k_66_7, k_66_9, k_66_10, k_66_11, k_66_12, k_66_13, k_66_14, w_l3, gl_1, vi_i, w_c0, t_10, w_c1, t_13, t_23, w_l5, gl_0, va_r, va_n, t_18_1, rc_0, io_x, w_s6, sl_2, ll_2, gl_2, t_19_1, rc_1, sl_3, ll_3, gl_3, t_12, w_s7, sl_4, ll_4, w_b10, sl_5, ll_5, sl_6, ll_6, t_0, w_l4, gl_6, w_get, gf_x0, gf_g3, gf_p3, t_11, t_18_3, w_b13, sl_7, ll_7, gl_7, w_b11, w_max, sl_8, ll_8, gl_8, gl_5, w_inc, t_1, gl_4, z10, z01, z_bT, z_bF, true_or, or_true, false_or, or_false, Option.bind_some, Option.toList_some, Option.toList_none, List.cons_append, List.nil_append, List.length_cons, List.length_nil, Nat.zero_add, Nat.reduceAdd, Nat.reduceLeDiff, and_self, and_true, true_and, if_true, if_false, reduceCtorEq, ne_eq, not_false_eq_true, not_true_eq_false, ↓reduceIte, Nat.reduceEqDiff, Bool.not_not, h0, h1, x_soft (hs := hs) (wc := wc) (tk := tk) (hw := hw), hso, x_pop, hal, h2]
  exact k0

theorem x_keep_b (S : ai_S) (g : sv_G) (p : sv_G) (sw : Bool) (t : sv_T) (m : sv_M) (pa : sv_P) (im : Nat → sv_M) (kp : Int32) (he : sv_H) (wl : Nat → Int32) (fe : Nat → Int32) (as : Int64) (D : sv_D) (i : Int32) (hb : i < 0 ∨ 2 ≤ i) : ai_call S 69 [.ref 1, .int i] (HP (g, p, sw, t, m, pa, im, kp, he, wl, fe, as) D) = some (some (.int (-1)), HP (g, p, sw, t, m, pa, im, kp, he, wl, fe, as) D) := by
  rw [e_69]
  simp only [k_69_0, k_69_1, k_69_2, w_l5, gl_0, va_r, va_n, w_get, gf_x5, ra_imgs, w_l3, gl_1, vi_i, t_19_2, rc_1, w_s8r, w_s8n, sl_2, ll_2, gl_2, t_15n, t_15r, w_c0, t_23, z10, z01, z_bT, z_bF, true_or, or_true, false_or, or_false, Option.bind_some, Option.toList_some, Option.toList_none, List.cons_append, List.nil_append, List.length_cons, List.length_nil, Nat.zero_add, Nat.reduceAdd, Nat.reduceLeDiff, and_self, and_true, true_and, if_true, if_false, reduceCtorEq, ne_eq, not_false_eq_true, not_true_eq_false, ↓reduceIte, Nat.reduceEqDiff, Bool.not_not, x_momentAtN S 49 i _ (by decide) (ra_imgs _ _) hb]
theorem x_keep (S : ai_S) (g : sv_G) (p : sv_G) (sw : Bool) (t : sv_T) (br : Nat → Int32) (wm : Nat → Int32) (yi : Int32) (lf : Int32) (sh : Int32) (hu : Int32) (ve : Int32) (so : Int32) (pa : sv_P) (im : Nat → sv_M) (kp : Int32) (he : sv_H) (wl : Nat → Int32) (fe : Nat → Int32) (as : Int64) (D : sv_D) (i : Nat) (hi : i < 2) : ai_call S 69 [.ref 1, .int (nI i)] (HP (g, p, sw, t, (br, wm, yi, lf, sh, hu, ve, so), pa, im, kp, he, wl, fe, as) D) = some (some (.int (z_pop yi)), HP (g, p, sw, t, (br, wm, yi, lf, sh, hu, ve, so), pa, va_up im i (z_cpm (im i) (br, wm, yi, lf, sh, hu, ve, so)), (kp ||| z_one i), he, wl, fe, as) D) := by
  rw [e_69]
  have hb : ai_call S 4 [.ref (49 + 3 * i + 1), .ref 14] (HP (g, p, sw, t, (br, wm, yi, lf, sh, hu, ve, so), pa, im, kp, he, wl, fe, as) D) = _ := x_become S (HP (g, p, sw, t, (br, wm, yi, lf, sh, hu, ve, so), pa, im, kp, he, wl, fe, as) D) (49 + 3 * i) 13 (im i) (br, wm, yi, lf, sh, hu, ve, so) (mv_img _ _ _ _ _ _ _ _ _ _ _ _ _ hi) (mv_mom _ _ _ _ _ _ _ _ _ _ _ _ _) (by omega)
  rw [ms_img _ _ _ _ _ _ _ _ _ _ _ _ _ hi] at hb
  have hq := x_momentAt S 49 i (HP (g, p, sw, t, (br, wm, yi, lf, sh, hu, ve, so), pa, im, kp, he, wl, fe, as) D) (by decide) (ra_imgs _ _) (by decide) hi
  rw [hx_imgs_at hi, show 50 + 3 * i = 49 + 3 * i + 1 by omega] at hq
  have hio := fun g p sw t m pa im kp he wl fe as => io_img2 g p sw t m pa im kp he wl fe as D hi
  simp only [k_69_0, k_69_1, k_69_2, k_69_3, k_69_4, k_69_5, w_l5, gl_0, va_r, va_n, w_get, gf_x5, ra_imgs, w_l3, gl_1, vi_i, t_19_2, rc_1, w_s8r, w_s8n, sl_2, ll_2, gl_2, t_15n, t_15r, w_c0, t_23, gf_x3, t_18_2, rc_0, io_m, w_dupi, w_dupr, gf_x6, w_b15, w_b14, w_putI, pf_x6, gf_m2, t_19_1, z10, z01, z_bT, z_bF, true_or, or_true, false_or, or_false, Option.bind_some, Option.toList_some, Option.toList_none, List.cons_append, List.nil_append, List.length_cons, List.length_nil, Nat.zero_add, Nat.reduceAdd, Nat.reduceLeDiff, and_self, and_true, true_and, if_true, if_false, reduceCtorEq, ne_eq, not_false_eq_true, not_true_eq_false, ↓reduceIte, Nat.reduceEqDiff, Bool.not_not, hq, va_rf, hio, hb, x_pop]
  rfl
theorem x_back_b (S : ai_S) (g : sv_G) (p : sv_G) (sw : Bool) (t : sv_T) (m : sv_M) (pa : sv_P) (im : Nat → sv_M) (kp : Int32) (he : sv_H) (wl : Nat → Int32) (fe : Nat → Int32) (as : Int64) (D : sv_D) (i : Int32) (hb : i < 0 ∨ 2 ≤ i) : ai_call S 70 [.ref 1, .int i] (HP (g, p, sw, t, m, pa, im, kp, he, wl, fe, as) D) = some (some (.int (-1)), HP (g, p, sw, t, m, pa, im, kp, he, wl, fe, as) D) := by
  rw [e_70]
  simp only [k_70_0, k_70_1, k_70_2, w_l5, gl_0, va_r, va_n, w_get, gf_x5, ra_imgs, w_l3, gl_1, vi_i, t_19_2, rc_1, w_s8r, w_s8n, sl_2, ll_2, gl_2, t_15n, t_15r, w_c0, t_23, z10, z01, z_bT, z_bF, true_or, or_true, false_or, or_false, Option.bind_some, Option.toList_some, Option.toList_none, List.cons_append, List.nil_append, List.length_cons, List.length_nil, Nat.zero_add, Nat.reduceAdd, Nat.reduceLeDiff, and_self, and_true, true_and, if_true, if_false, reduceCtorEq, ne_eq, not_false_eq_true, not_true_eq_false, ↓reduceIte, Nat.reduceEqDiff, Bool.not_not, x_momentAtN S 49 i _ (by decide) (ra_imgs _ _) hb]
theorem x_back_s (S : ai_S) (g : sv_G) (p : sv_G) (sw : Bool) (t : sv_T) (m : sv_M) (pa : sv_P) (im : Nat → sv_M) (kp : Int32) (he : sv_H) (wl : Nat → Int32) (fe : Nat → Int32) (as : Int64) (D : sv_D) (i : Nat) (hi : i < 2) (hk : ¬ z_bit kp i) : ai_call S 70 [.ref 1, .int (nI i)] (HP (g, p, sw, t, m, pa, im, kp, he, wl, fe, as) D) = some (some (.int (-2)), HP (g, p, sw, t, m, pa, im, kp, he, wl, fe, as) D) := by
  rw [e_70]
  have hq := x_momentAt S 49 i (HP (g, p, sw, t, m, pa, im, kp, he, wl, fe, as) D) (by decide) (ra_imgs _ _) (by decide) hi
  rw [hx_imgs_at hi, show 50 + 3 * i = 49 + 3 * i + 1 by omega] at hq
  simp only [k_70_0, k_70_1, k_70_2, k_70_3, k_70_4, k_70_5, k_70_6, k_70_7, k_70_8, w_l5, gl_0, va_r, va_n, w_get, gf_x5, ra_imgs, w_l3, gl_1, vi_i, t_19_2, rc_1, w_s8r, w_s8n, sl_2, ll_2, gl_2, t_15n, t_15r, w_c0, t_23, gf_x6, t_3, w_c1, gf_x3, t_18_2, rc_0, io_m, gf_x4, w_putI, pf_pa2, gf_m2, t_19_1, z10, z01, z_bT, z_bF, true_or, or_true, false_or, or_false, Option.bind_some, Option.toList_some, Option.toList_none, List.cons_append, List.nil_append, List.length_cons, List.length_nil, Nat.zero_add, Nat.reduceAdd, Nat.reduceLeDiff, and_self, and_true, true_and, if_true, if_false, reduceCtorEq, ne_eq, not_false_eq_true, not_true_eq_false, ↓reduceIte, Nat.reduceEqDiff, Bool.not_not, hq, va_rf, x_isIn, z_b_f hk]
theorem x_back (S : ai_S) (g : sv_G) (p : sv_G) (sw : Bool) (t : sv_T) (m : sv_M) (rw : Nat → sv_M) (nx : Int32) (kn : Int32) (im : Nat → sv_M) (kp : Int32) (he : sv_H) (wl : Nat → Int32) (fe : Nat → Int32) (as : Int64) (D : sv_D) (i : Nat) (hi : i < 2) (hk : z_bit kp i) : ai_call S 70 [.ref 1, .int (nI i)] (HP (g, p, sw, t, m, (rw, nx, kn), im, kp, he, wl, fe, as) D) = some (some (.int (z_pop (im i).2.2.1)), HP (g, p, sw, t, (z_cpm m (im i)), (rw, nx, 0), im, kp, he, wl, fe, as) D) := by
  rw [e_70]
  have hb : ai_call S 4 [.ref 14, .ref (49 + 3 * i + 1)] (HP (g, p, sw, t, m, (rw, nx, kn), im, kp, he, wl, fe, as) D) = _ := x_become S (HP (g, p, sw, t, m, (rw, nx, kn), im, kp, he, wl, fe, as) D) 13 (49 + 3 * i) m (im i) (mv_mom _ _ _ _ _ _ _ _ _ _ _ _ _) (mv_img _ _ _ _ _ _ _ _ _ _ _ _ _ hi) (by omega)
  rw [ms_mom] at hb
  have hq := x_momentAt S 49 i (HP (g, p, sw, t, m, (rw, nx, kn), im, kp, he, wl, fe, as) D) (by decide) (ra_imgs _ _) (by decide) hi
  rw [hx_imgs_at hi, show 50 + 3 * i = 49 + 3 * i + 1 by omega] at hq
  unfold z_cpm at hb ⊢
  generalize im i = mi at hb ⊢
  obtain ⟨a1, b1, y1, f1, k1, u1, v1, o1⟩ := mi
  simp only [k_70_0, k_70_1, k_70_2, k_70_3, k_70_4, k_70_5, k_70_6, k_70_7, k_70_8, w_l5, gl_0, va_r, va_n, w_get, gf_x5, ra_imgs, w_l3, gl_1, vi_i, t_19_2, rc_1, w_s8r, w_s8n, sl_2, ll_2, gl_2, t_15n, t_15r, w_c0, t_23, gf_x6, t_3, w_c1, gf_x3, t_18_2, rc_0, io_m, gf_x4, w_putI, pf_pa2, gf_m2, t_19_1, z10, z01, z_bT, z_bF, true_or, or_true, false_or, or_false, Option.bind_some, Option.toList_some, Option.toList_none, List.cons_append, List.nil_append, List.length_cons, List.length_nil, Nat.zero_add, Nat.reduceAdd, Nat.reduceLeDiff, and_self, and_true, true_and, if_true, if_false, reduceCtorEq, ne_eq, not_false_eq_true, not_true_eq_false, ↓reduceIte, Nat.reduceEqDiff, Bool.not_not, hq, va_rf, x_isIn, z_b_t hk, hb, x_pop]
def z_pw (b : Int32) : Nat → Int32
  | 0 => 1
  | e + 1 => z_pw b e * b
theorem x_power (S : ai_S) (h : ai_H) (b : Int32) (e : Nat) (he : e < 100) : ai_call S 61 [.int b, .int (nI e)] h = some (some (.int (z_pw b e)), h) := by
  rw [e_61]
  have key : ∀ j i, i + j = e → ai_res S 61 1 [.int b, .int (nI e), .int (z_pw b i), .int (nI i)] [] h = some (some (.int (z_pw b e)), h) := by
    intro j
    induction j with
    | zero =>
      intro i hi
      have e1 : i = e := by omega
      subst e1
      have hge : nI i ≤ nI i := Int32.le_refl _
      rw [k_61_1]
      simp only [k_61_0, k_61_2, k_61_3, w_c0, w_s6, sl_2, ll_2, sl_3, ll_3, t_0, w_l3, gl_3, vi_i, gl_1, t_11, gl_2, gl_0, w_b12, w_inc, t_1, t_23, z10, z01, z_bT, z_bF, true_or, or_true, false_or, or_false, Option.bind_some, Option.toList_some, Option.toList_none, List.cons_append, List.nil_append, List.length_cons, List.length_nil, Nat.zero_add, Nat.reduceAdd, Nat.reduceLeDiff, and_self, and_true, true_and, if_true, if_false, reduceCtorEq, ne_eq, not_false_eq_true, not_true_eq_false, ↓reduceIte, Nat.reduceEqDiff, Bool.not_not, hge]
    | succ j ih =>
      intro i hi
      have hlt : ¬ nI e ≤ nI i := nI_ge (by omega) (by omega)
      rw [k_61_1]
      simp only [k_61_0, k_61_2, k_61_3, w_c0, w_s6, sl_2, ll_2, sl_3, ll_3, t_0, w_l3, gl_3, vi_i, gl_1, t_11, gl_2, gl_0, w_b12, w_inc, t_1, t_23, z10, z01, z_bT, z_bF, true_or, or_true, false_or, or_false, Option.bind_some, Option.toList_some, Option.toList_none, List.cons_append, List.nil_append, List.length_cons, List.length_nil, Nat.zero_add, Nat.reduceAdd, Nat.reduceLeDiff, and_self, and_true, true_and, if_true, if_false, reduceCtorEq, ne_eq, not_false_eq_true, not_true_eq_false, ↓reduceIte, Nat.reduceEqDiff, Bool.not_not, hlt, nI_1]
      exact ih (i + 1) (by omega)
  have k0 := key e 0 (by omega)
  simp only [k_61_0, w_c0, w_s6, sl_2, ll_2, sl_3, ll_3, t_0, z10, z01, z_bT, z_bF, true_or, or_true, false_or, or_false, Option.bind_some, Option.toList_some, Option.toList_none, List.cons_append, List.nil_append, List.length_cons, List.length_nil, Nat.zero_add, Nat.reduceAdd, Nat.reduceLeDiff, and_self, and_true, true_and, if_true, if_false, reduceCtorEq, ne_eq, not_false_eq_true, not_true_eq_false, ↓reduceIte, Nat.reduceEqDiff, Bool.not_not]
  exact k0
