/-! the class: way -/
/-- fewest more shakes, 10 - r shakes done, p of them plain: Y who yields, L who leaves -/
def z_F (Y L : Nat → Nat → Prop) [∀ d p, Decidable (Y d p)] [∀ d p, Decidable (L d p)] : Nat → Nat → Nat
  | 0, p => if Y 10 p then 0 else 1000
  | r + 1, p => if 0 < 9 - r ∧ Y (9 - r) p then 0 else if 0 < 9 - r ∧ L (9 - r) p then 1000 else min 1000 (1 + min (z_F Y L r (p + 1)) (z_F Y L r p))
abbrev z_wy (ha pr : Nat → Int32) (c : Nat) (gr ve b w : Int32) (d p : Nat) : Prop := ha c ≤ w + nI p * ve + nI (d - p) * (2 * ve) ∧ pr c ≤ b + nI p * gr
abbrev z_wl (pr : Nat → Int32) (c : Nat) (gr b : Int32) (_ p : Nat) : Prop := pr c + 10 < b + nI p * gr
theorem z_F_le (Y L : Nat → Nat → Prop) [∀ d p, Decidable (Y d p)] [∀ d p, Decidable (L d p)] : ∀ r p, z_F Y L r p ≤ 1000
  | 0, p => by unfold z_F; split <;> omega
  | r + 1, p => by unfold z_F; split; omega; split; omega; omega
theorem x_cell (S : ai_S) (h : ai_H) (a b : Int32) : ai_call S 52 [.int a, .int b] h = some (some (.int (a * 11 + b)), h) := by
  rw [e_52]
  simp only [k_52_0, w_l3, gl_0, vi_i, w_c1, w_b12, gl_1, w_b10, t_23, z10, z01, z_bT, z_bF, true_or, or_true, false_or, or_false, Option.bind_some, Option.toList_some, Option.toList_none, List.cons_append, List.nil_append, List.length_cons, List.length_nil, Nat.zero_add, Nat.reduceAdd, Nat.reduceLeDiff, and_self, and_true, true_and, if_true, if_false, reduceCtorEq, ne_eq, not_false_eq_true, not_true_eq_false, ↓reduceIte, Nat.reduceEqDiff, Bool.not_not]
theorem z_cell (d p : Nat) : nI d * 11 + nI p = nI (11 * d + p) := by
  rw [show (11 : Int32) = nI 11 from rfl, pk_mul, nI_add, Nat.mul_comm]
theorem x_fewestNext0 (S : ai_S) (g : sv_G) (p : sv_G) (sw : Bool) (t : sv_T) (m : sv_M) (pa : sv_P) (im : Nat → sv_M) (kp : Int32) (he : sv_H) (wl : Nat → Int32) (fe : Nat → Int32) (as : Int64) (D : sv_D) (d u : Nat) (hd : d < 10) (hp : u ≤ d) : ai_call S 54 [.ref 1, .int (nI d), .int (nI u), .int 0] (HP (g, p, sw, t, m, pa, im, kp, he, wl, fe, as) D) = some (some (.int (fe (11 * (d + 1) + (u + 1)))), HP (g, p, sw, t, m, pa, im, kp, he, wl, fe, as) D) := by
  have e1 : nI (u + 1) - 0 = nI (u + 1) := by rw [show (0 : Int32) = nI 0 from rfl, pk_sub (Nat.zero_le _)]; rfl
  have h1 : 11 * (d + 1) + (u + 1) < 121 := by omega
  rw [e_54]
  simp only [k_54_0, k_54_1, k_54_2, w_l5, gl_0, va_r, va_n, w_get, gf_x9, ia_fe, pz_fe, w_l3, gl_1, vi_i, w_c0, w_b10, gl_2, gl_3, w_b11, t_19_2, rc_1, t_23, z10, z01, z_bT, z_bF, true_or, or_true, false_or, or_false, Option.bind_some, Option.toList_some, Option.toList_none, List.cons_append, List.nil_append, List.length_cons, List.length_nil, Nat.zero_add, Nat.reduceAdd, Nat.reduceLeDiff, and_self, and_true, true_and, if_true, if_false, reduceCtorEq, ne_eq, not_false_eq_true, not_true_eq_false, ↓reduceIte, Nat.reduceEqDiff, Bool.not_not, x_cell, nI_1, e1, z_cell, x_at, ob_s, h1]
theorem x_fewestNext1 (S : ai_S) (g : sv_G) (p : sv_G) (sw : Bool) (t : sv_T) (m : sv_M) (pa : sv_P) (im : Nat → sv_M) (kp : Int32) (he : sv_H) (wl : Nat → Int32) (fe : Nat → Int32) (as : Int64) (D : sv_D) (d u : Nat) (hd : d < 10) (hp : u ≤ d) : ai_call S 54 [.ref 1, .int (nI d), .int (nI u), .int 1] (HP (g, p, sw, t, m, pa, im, kp, he, wl, fe, as) D) = some (some (.int (fe (11 * (d + 1) + u))), HP (g, p, sw, t, m, pa, im, kp, he, wl, fe, as) D) := by
  have e2 : nI (u + 1) - 1 = nI u := nI_pred u
  have h2 : 11 * (d + 1) + u < 121 := by omega
  rw [e_54]
  simp only [k_54_0, k_54_1, k_54_2, w_l5, gl_0, va_r, va_n, w_get, gf_x9, ia_fe, pz_fe, w_l3, gl_1, vi_i, w_c0, w_b10, gl_2, gl_3, w_b11, t_19_2, rc_1, t_23, z10, z01, z_bT, z_bF, true_or, or_true, false_or, or_false, Option.bind_some, Option.toList_some, Option.toList_none, List.cons_append, List.nil_append, List.length_cons, List.length_nil, Nat.zero_add, Nat.reduceAdd, Nat.reduceLeDiff, and_self, and_true, true_and, if_true, if_false, reduceCtorEq, ne_eq, not_false_eq_true, not_true_eq_false, ↓reduceIte, Nat.reduceEqDiff, Bool.not_not, x_cell, nI_1, e2, z_cell, x_at, ob_s, h2]
theorem z_min (x y : Nat) (hx : x < 2 ^ 31) (hy : y < 2 ^ 31) : (if nI y < nI x then nI y else nI x) = nI (min x y) := by
  by_cases h : y < x
  · rw [if_pos (nI_lt h hx), Nat.min_eq_right (by omega)]
  · rw [if_neg (nI_nlt (by omega) hy), Nat.min_eq_left (by omega)]
theorem z_tail (F1 F2 : Nat) (h1 : F1 ≤ 1000) (h2 : F2 ≤ 1000) : (if 1 + (if nI F2 < nI F1 then nI F2 else nI F1) < 1000 then 1 + (if nI F2 < nI F1 then nI F2 else nI F1) else 1000) = nI (min 1000 (1 + min F1 F2)) := by
  rw [z_min _ _ (by omega) (by omega), show (1 : Int32) + nI (min F1 F2) = nI (1 + min F1 F2) from nI_add 1 _]
  exact z_min 1000 _ (by omega) (by omega)
theorem x_fewestBehind (S : ai_S) (gr : Int32) (vl : Int32) (sg : Int32) (cs : Int32) (pr : Nat → Int32) (ha : Nat → Int32) (la : Nat → Int32) (wa : Nat → Int32) (p : sv_G) (sw : Bool) (t : sv_T) (br : Nat → Int32) (wm : Nat → Int32) (yi : Int32) (lf : Int32) (sh : Int32) (hu : Int32) (ve : Int32) (so : Int32) (pa : sv_P) (im : Nat → sv_M) (kp : Int32) (he : sv_H) (wl : Nat → Int32) (fe : Nat → Int32) (as : Int64) (D : sv_D) (c d u : Nat) (hc : c < 6) (hd : d ≤ 10) (hp : u ≤ d) (hF : d < 10 → fe (11 * (d + 1) + (u + 1)) = nI (z_F (z_wy ha pr c gr ve (br c) (wm c)) (z_wl pr c gr (br c)) (9 - d) (u + 1)) ∧ fe (11 * (d + 1) + u) = nI (z_F (z_wy ha pr c gr ve (br c) (wm c)) (z_wl pr c gr (br c)) (9 - d) u)) :
    ai_call S 53 [.ref 1, .int (nI c), .int (nI d), .int (nI u)] (HP ((gr, vl, sg, cs, pr, ha, la, wa), p, sw, t, (br, wm, yi, lf, sh, hu, ve, so), pa, im, kp, he, wl, fe, as) D) = some (some (.int (nI (z_F (z_wy ha pr c gr ve (br c) (wm c)) (z_wl pr c gr (br c)) (10 - d) u))), HP ((gr, vl, sg, cs, pr, ha, la, wa), p, sw, t, (br, wm, yi, lf, sh, hu, ve, so), pa, im, kp, he, wl, fe, as) D) := by
  rw [e_53]
  have e1 : nI d - nI u = nI (d - u) := pk_sub hp
  by_cases hy : 0 < d ∧ z_wy ha pr c gr ve (br c) (wm c) d u
  · have q1 : ¬ nI d ≤ 0 := nI_nle hy.1 (by omega)
    have hz : z_F (z_wy ha pr c gr ve (br c) (wm c)) (z_wl pr c gr (br c)) (10 - d) u = 0 := by
      by_cases h10 : d = 10
      · subst h10; show z_F _ _ 0 u = 0; rw [z_F, if_pos hy.2]
      · obtain ⟨r, hr⟩ : ∃ r, 10 - d = r + 1 := ⟨9 - d, by omega⟩
        rw [hr, z_F, show 9 - r = d by omega, if_pos hy]
    rw [hz]
    simp only [k_53_0, k_53_1, k_53_2, k_53_3, k_53_4, k_53_5, k_53_6, k_53_7, k_53_8, k_53_9, k_53_10, k_53_11, k_53_12, k_53_13, k_53_14, k_53_15, k_53_16, w_l3, gl_2, vi_i, gl_3, w_b11, w_s7, sl_4, ll_4, w_l5, gl_0, va_r, va_n, w_get, gf_x3, gf_m0, ia_m0, pz_m0, gl_1, t_19_2, rc_1, w_c0, t_18_2, rc_0, io_x, w_b12, w_b10, sl_5, ll_5, gf_m1, ia_m1, pz_m1, w_l4, gl_4, sl_6, ll_6, t_7, gl_5, gl_6, t_18_4, t_2, t_23, w_c1, t_8, t_18_3, w_c2, w_min, z10, z01, z_bT, z_bF, true_or, or_true, false_or, or_false, Option.bind_some, Option.toList_some, Option.toList_none, List.cons_append, List.nil_append, List.length_cons, List.length_nil, Nat.zero_add, Nat.reduceAdd, Nat.reduceLeDiff, and_self, and_true, true_and, if_true, if_false, reduceCtorEq, ne_eq, not_false_eq_true, not_true_eq_false, ↓reduceIte, Nat.reduceEqDiff, Bool.not_not, x_at, ob_s, hc, x_bruise, x_warmth, e1, q1, x_wouldYield, z_b_t hy.2]
    rfl
  · by_cases h10 : d = 10
    · have hny : ¬ z_wy ha pr c gr ve (br c) (wm c) d u := fun z => hy ⟨by omega, z⟩
      have q1 : ¬ nI d ≤ 0 := nI_nle (by omega) (by omega)
      have q2 : nI d = 10 := by rw [h10]; rfl
      have hz : z_F (z_wy ha pr c gr ve (br c) (wm c)) (z_wl pr c gr (br c)) (10 - d) u = 1000 := by
        subst h10; show z_F _ _ 0 u = 1000; rw [z_F, if_neg hny]
      rw [hz]
      simp only [k_53_0, k_53_1, k_53_2, k_53_3, k_53_4, k_53_5, k_53_6, k_53_7, k_53_8, k_53_9, k_53_10, k_53_11, k_53_12, k_53_13, k_53_14, k_53_15, k_53_16, w_l3, gl_2, vi_i, gl_3, w_b11, w_s7, sl_4, ll_4, w_l5, gl_0, va_r, va_n, w_get, gf_x3, gf_m0, ia_m0, pz_m0, gl_1, t_19_2, rc_1, w_c0, t_18_2, rc_0, io_x, w_b12, w_b10, sl_5, ll_5, gf_m1, ia_m1, pz_m1, w_l4, gl_4, sl_6, ll_6, t_7, gl_5, gl_6, t_18_4, t_2, t_23, w_c1, t_8, t_18_3, w_c2, w_min, z10, z01, z_bT, z_bF, true_or, or_true, false_or, or_false, Option.bind_some, Option.toList_some, Option.toList_none, List.cons_append, List.nil_append, List.length_cons, List.length_nil, Nat.zero_add, Nat.reduceAdd, Nat.reduceLeDiff, and_self, and_true, true_and, if_true, if_false, reduceCtorEq, ne_eq, not_false_eq_true, not_true_eq_false, ↓reduceIte, Nat.reduceEqDiff, Bool.not_not, x_at, ob_s, hc, x_bruise, x_warmth, e1, q1, x_wouldYield, z_b_f hny, eq_true q2]
      rfl
    · have q2 : ¬ nI d = 10 := fun z => h10 ((nI_eq (a := d) (b := 10) (by omega) (by decide)).mp z)
      obtain ⟨f1, f2⟩ := hF (by omega)
      obtain ⟨r, hr⟩ : ∃ r, 10 - d = r + 1 := ⟨9 - d, by omega⟩
      have hr2 : 9 - d = r := by omega
      have hr3 : 9 - r = d := by omega
      rw [hr2] at f1 f2
      have l1 := z_F_le (z_wy ha pr c gr ve (br c) (wm c)) (z_wl pr c gr (br c)) r (u + 1)
      have l2 := z_F_le (z_wy ha pr c gr ve (br c) (wm c)) (z_wl pr c gr (br c)) r u
      have hd10 : d < 10 := by omega
      rw [hr, z_F, hr3, if_neg hy]
      by_cases hl : 0 < d ∧ z_wl pr c gr (br c) d u
      · rw [if_pos hl]
        have hny : ¬ z_wy ha pr c gr ve (br c) (wm c) d u := fun z => hy ⟨hl.1, z⟩
        have q1 : ¬ nI d ≤ 0 := nI_nle hl.1 (by omega)
        simp only [k_53_0, k_53_1, k_53_2, k_53_3, k_53_4, k_53_5, k_53_6, k_53_7, k_53_8, k_53_9, k_53_10, k_53_11, k_53_12, k_53_13, k_53_14, k_53_15, k_53_16, w_l3, gl_2, vi_i, gl_3, w_b11, w_s7, sl_4, ll_4, w_l5, gl_0, va_r, va_n, w_get, gf_x3, gf_m0, ia_m0, pz_m0, gl_1, t_19_2, rc_1, w_c0, t_18_2, rc_0, io_x, w_b12, w_b10, sl_5, ll_5, gf_m1, ia_m1, pz_m1, w_l4, gl_4, sl_6, ll_6, t_7, gl_5, gl_6, t_18_4, t_2, t_23, w_c1, t_8, t_18_3, w_c2, w_min, z10, z01, z_bT, z_bF, true_or, or_true, false_or, or_false, Option.bind_some, Option.toList_some, Option.toList_none, List.cons_append, List.nil_append, List.length_cons, List.length_nil, Nat.zero_add, Nat.reduceAdd, Nat.reduceLeDiff, and_self, and_true, true_and, if_true, if_false, reduceCtorEq, ne_eq, not_false_eq_true, not_true_eq_false, ↓reduceIte, Nat.reduceEqDiff, Bool.not_not, x_at, ob_s, hc, x_bruise, x_warmth, e1, q1, q2, x_wouldYield, z_b_f hny, x_wouldLeave, z_b_t hl.2]
        rfl
      · rw [if_neg hl, ← z_tail _ _ l1 l2]
        by_cases hd0 : d = 0
        · have q1 : nI d ≤ 0 := by rw [hd0]; decide
          simp only [k_53_0, k_53_1, k_53_2, k_53_3, k_53_4, k_53_5, k_53_6, k_53_7, k_53_8, k_53_9, k_53_10, k_53_11, k_53_12, k_53_13, k_53_14, k_53_15, k_53_16, w_l3, gl_2, vi_i, gl_3, w_b11, w_s7, sl_4, ll_4, w_l5, gl_0, va_r, va_n, w_get, gf_x3, gf_m0, ia_m0, pz_m0, gl_1, t_19_2, rc_1, w_c0, t_18_2, rc_0, io_x, w_b12, w_b10, sl_5, ll_5, gf_m1, ia_m1, pz_m1, w_l4, gl_4, sl_6, ll_6, t_7, gl_5, gl_6, t_18_4, t_2, t_23, w_c1, t_8, t_18_3, w_c2, w_min, z10, z01, z_bT, z_bF, true_or, or_true, false_or, or_false, Option.bind_some, Option.toList_some, Option.toList_none, List.cons_append, List.nil_append, List.length_cons, List.length_nil, Nat.zero_add, Nat.reduceAdd, Nat.reduceLeDiff, and_self, and_true, true_and, if_true, if_false, reduceCtorEq, ne_eq, not_false_eq_true, not_true_eq_false, ↓reduceIte, Nat.reduceEqDiff, Bool.not_not, x_at, ob_s, hc, x_bruise, x_warmth, e1, q1, q2, x_fewestNext0, x_fewestNext1, hd10, hp, f1, f2, List.map_cons, List.map_nil, Value.category, List.sum_cons, List.sum_nil]
        · have hny : ¬ z_wy ha pr c gr ve (br c) (wm c) d u := fun z => hy ⟨by omega, z⟩
          have hnl : ¬ z_wl pr c gr (br c) d u := fun z => hl ⟨by omega, z⟩
          have q1 : ¬ nI d ≤ 0 := nI_nle (by omega) (by omega)
          simp only [k_53_0, k_53_1, k_53_2, k_53_3, k_53_4, k_53_5, k_53_6, k_53_7, k_53_8, k_53_9, k_53_10, k_53_11, k_53_12, k_53_13, k_53_14, k_53_15, k_53_16, w_l3, gl_2, vi_i, gl_3, w_b11, w_s7, sl_4, ll_4, w_l5, gl_0, va_r, va_n, w_get, gf_x3, gf_m0, ia_m0, pz_m0, gl_1, t_19_2, rc_1, w_c0, t_18_2, rc_0, io_x, w_b12, w_b10, sl_5, ll_5, gf_m1, ia_m1, pz_m1, w_l4, gl_4, sl_6, ll_6, t_7, gl_5, gl_6, t_18_4, t_2, t_23, w_c1, t_8, t_18_3, w_c2, w_min, z10, z01, z_bT, z_bF, true_or, or_true, false_or, or_false, Option.bind_some, Option.toList_some, Option.toList_none, List.cons_append, List.nil_append, List.length_cons, List.length_nil, Nat.zero_add, Nat.reduceAdd, Nat.reduceLeDiff, and_self, and_true, true_and, if_true, if_false, reduceCtorEq, ne_eq, not_false_eq_true, not_true_eq_false, ↓reduceIte, Nat.reduceEqDiff, Bool.not_not, x_at, ob_s, hc, x_bruise, x_warmth, e1, q1, q2, x_wouldYield, z_b_f hny, x_wouldLeave, z_b_f hnl, x_fewestNext0, x_fewestNext1, hd10, hp, f1, f2, List.map_cons, List.map_nil, Value.category, List.sum_cons, List.sum_nil]
