/-! the class: turnOfWay, mayBeWon, way -/
/-- plain shakes of the first i of the way -/
def z_pl (F : Nat → Nat → Nat) : Nat → Nat
  | 0 => 0
  | i + 1 => if F (9 - i) (z_pl F i) < F (9 - i) (z_pl F i + 1) then z_pl F i else z_pl F i + 1
/-- the i-th shake: turned? -/
def z_tn (F : Nat → Nat → Nat) (i : Nat) : Int32 := if F (9 - i) (z_pl F i) < F (9 - i) (z_pl F i + 1) then 1 else 0
theorem z_pl_le (F : Nat → Nat → Nat) : ∀ i, z_pl F i ≤ i
  | 0 => Nat.le_refl _
  | i + 1 => by
    have h := z_pl_le F i
    unfold z_pl
    split <;> omega
theorem x_turnOfWay (S : ai_S) (g : sv_G) (p : sv_G) (sw : Bool) (t : sv_T) (m : sv_M) (pa : sv_P) (im : Nat → sv_M) (kp : Int32) (he : sv_H) (wl : Nat → Int32) (fe : Nat → Int32) (as : Int64) (D : sv_D) (F : Nat → Nat → Nat) (hF : ∀ r u, F r u ≤ 1000) (hfe : ∀ d', d' ≤ 10 → ∀ u, u ≤ d' → fe (11 * d' + u) = nI (F (10 - d') u)) (k : Nat) (hk : k < 10) : ai_call S 55 [.ref 1, .int (nI k)] (HP (g, p, sw, t, m, pa, im, kp, he, wl, fe, as) D) = some (some (.int (z_tn F k)), HP (g, p, sw, t, m, pa, im, kp, he, wl, fe, as) D) := by
  rw [e_55]
  have key : ∀ j i (tu : Int32), i + j = k + 1 → (0 < i → tu = z_tn F (i - 1)) → ai_res S 55 1 [.ref 1, .int (nI k), .int (nI (z_pl F i)), .int tu, .int (nI i)] [] (HP (g, p, sw, t, m, pa, im, kp, he, wl, fe, as) D) = some (some (.int (z_tn F k)), HP (g, p, sw, t, m, pa, im, kp, he, wl, fe, as) D) := by
    intro j
    induction j with
    | zero =>
      intro i tu hi ht
      have e1 : i = k + 1 := by omega
      subst e1
      have hgt : nI k < nI (k + 1) := nI_lt (by omega) (by omega)
      have e2 := ht (by omega)
      rw [Nat.add_sub_cancel] at e2
      rw [k_55_1, e2]
      simp only [k_55_0, k_55_2, k_55_3, k_55_4, k_55_5, k_55_6, k_55_7, k_55_8, w_c0, w_s6, sl_2, ll_2, sl_3, ll_3, w_s7, sl_4, ll_4, t_0, w_l4, gl_4, vi_i, w_l3, gl_1, t_12, w_l5, gl_0, va_r, va_n, gl_2, t_18_4, rc_0, io_x, t_1, gl_3, w_b11, w_b10, w_inc, t_23, z10, z01, z_bT, z_bF, true_or, or_true, false_or, or_false, Option.bind_some, Option.toList_some, Option.toList_none, List.cons_append, List.nil_append, List.length_cons, List.length_nil, Nat.zero_add, Nat.reduceAdd, Nat.reduceLeDiff, and_self, and_true, true_and, if_true, if_false, reduceCtorEq, ne_eq, not_false_eq_true, not_true_eq_false, ↓reduceIte, Nat.reduceEqDiff, Bool.not_not, hgt]
    | succ j ih =>
      intro i tu hi ht
      have hng : ¬ nI k < nI i := nI_nlt (by omega) (by omega)
      have hi10 : i < 10 := by omega
      have hpl := z_pl_le F i
      have a1 := hfe (i + 1) (by omega) (z_pl F i + 1) (by omega)
      have a2 := hfe (i + 1) (by omega) (z_pl F i) (by omega)
      rw [show 10 - (i + 1) = 9 - i by omega] at a1 a2
      have l1 := hF (9 - i) (z_pl F i + 1)
      have l2 := hF (9 - i) (z_pl F i)
      rw [k_55_1]
      by_cases hz : F (9 - i) (z_pl F i) < F (9 - i) (z_pl F i + 1)
      · have hz2 : nI (F (9 - i) (z_pl F i)) < nI (F (9 - i) (z_pl F i + 1)) := nI_lt hz (by omega)
        have h3 := ih (i + 1) 1 (by omega) (fun _ => by rw [Nat.add_sub_cancel, z_tn, if_pos hz])
        have e3 : nI (z_pl F i) + (1 - 1) = nI (z_pl F i) := by rw [show (1 : Int32) - 1 = nI 0 from rfl, nI_add]; rfl
        rw [z_pl, if_pos hz] at h3
        simp only [k_55_0, k_55_2, k_55_3, k_55_4, k_55_5, k_55_6, k_55_7, k_55_8, w_c0, w_s6, sl_2, ll_2, sl_3, ll_3, w_s7, sl_4, ll_4, t_0, w_l4, gl_4, vi_i, w_l3, gl_1, t_12, w_l5, gl_0, va_r, va_n, gl_2, t_18_4, rc_0, io_x, t_1, gl_3, w_b11, w_b10, w_inc, t_23, z10, z01, z_bT, z_bF, true_or, or_true, false_or, or_false, Option.bind_some, Option.toList_some, Option.toList_none, List.cons_append, List.nil_append, List.length_cons, List.length_nil, Nat.zero_add, Nat.reduceAdd, Nat.reduceLeDiff, and_self, and_true, true_and, if_true, if_false, reduceCtorEq, ne_eq, not_false_eq_true, not_true_eq_false, ↓reduceIte, Nat.reduceEqDiff, Bool.not_not, hng, x_fewestNext0, x_fewestNext1, hi10, hpl, a1, a2, hz2, nI_1, e3]
        exact h3
      · have hz2 : ¬ nI (F (9 - i) (z_pl F i)) < nI (F (9 - i) (z_pl F i + 1)) := nI_nlt (by omega) (by omega)
        have h3 := ih (i + 1) 0 (by omega) (fun _ => by rw [Nat.add_sub_cancel, z_tn, if_neg hz])
        have e3 : nI (z_pl F i) + (1 - 0) = nI (z_pl F i + 1) := by rw [show (1 : Int32) - 0 = nI 1 from rfl, nI_add]
        rw [z_pl, if_neg hz] at h3
        simp only [k_55_0, k_55_2, k_55_3, k_55_4, k_55_5, k_55_6, k_55_7, k_55_8, w_c0, w_s6, sl_2, ll_2, sl_3, ll_3, w_s7, sl_4, ll_4, t_0, w_l4, gl_4, vi_i, w_l3, gl_1, t_12, w_l5, gl_0, va_r, va_n, gl_2, t_18_4, rc_0, io_x, t_1, gl_3, w_b11, w_b10, w_inc, t_23, z10, z01, z_bT, z_bF, true_or, or_true, false_or, or_false, Option.bind_some, Option.toList_some, Option.toList_none, List.cons_append, List.nil_append, List.length_cons, List.length_nil, Nat.zero_add, Nat.reduceAdd, Nat.reduceLeDiff, and_self, and_true, true_and, if_true, if_false, reduceCtorEq, ne_eq, not_false_eq_true, not_true_eq_false, ↓reduceIte, Nat.reduceEqDiff, Bool.not_not, hng, x_fewestNext0, x_fewestNext1, hi10, hpl, a1, a2, hz2, nI_1, e3]
        exact h3
  have k0 := key (k + 1) 0 0 (by omega) (fun h => absurd h (Nat.lt_irrefl _))
  simp only [k_55_0, w_c0, w_s6, sl_2, ll_2, sl_3, ll_3, w_s7, sl_4, ll_4, t_0, z10, z01, z_bT, z_bF, true_or, or_true, false_or, or_false, Option.bind_some, Option.toList_some, Option.toList_none, List.cons_append, List.nil_append, List.length_cons, List.length_nil, Nat.zero_add, Nat.reduceAdd, Nat.reduceLeDiff, and_self, and_true, true_and, if_true, if_false, reduceCtorEq, ne_eq, not_false_eq_true, not_true_eq_false, ↓reduceIte, Nat.reduceEqDiff, Bool.not_not]
  exact k0
theorem x_mayBeWon (S : ai_S) (g : sv_G) (p : sv_G) (sw : Bool) (t : sv_T) (br : Nat → Int32) (wm : Nat → Int32) (yi : Int32) (lf : Int32) (sh : Int32) (hu : Int32) (ve : Int32) (so : Int32) (pa : sv_P) (im : Nat → sv_M) (kp : Int32) (he : sv_H) (wl : Nat → Int32) (fe : Nat → Int32) (as : Int64) (D : sv_D) (k : Nat) : ai_call S 50 [.ref 1, .int (nI k)] (HP (g, p, sw, t, (br, wm, yi, lf, sh, hu, ve, so), pa, im, kp, he, wl, fe, as) D) = some (some (.int (z_b (¬ z_bit (yi ||| lf) k))), HP (g, p, sw, t, (br, wm, yi, lf, sh, hu, ve, so), pa, im, kp, he, wl, fe, as) D) := by
  rw [e_50]
  by_cases hb : z_bit (yi ||| lf) k
  · have hn : ¬ ¬ z_bit (yi ||| lf) k := fun z => z hb
    rw [z_b_f hn]
    simp only [k_50_0, k_50_1, k_50_2, k_50_3, k_50_4, w_l5, gl_0, va_r, va_n, w_get, gf_x3, gf_m2, gf_m3, w_b14, w_l3, gl_1, vi_i, t_19_2, rc_1, t_3, w_c0, t_1, t_0, t_24_0, t_24_1, z10, z01, z_bT, z_bF, true_or, or_true, false_or, or_false, Option.bind_some, Option.toList_some, Option.toList_none, List.cons_append, List.nil_append, List.length_cons, List.length_nil, Nat.zero_add, Nat.reduceAdd, Nat.reduceLeDiff, and_self, and_true, true_and, if_true, if_false, reduceCtorEq, ne_eq, not_false_eq_true, not_true_eq_false, ↓reduceIte, Nat.reduceEqDiff, Bool.not_not, x_isIn, z_b_t hb]
  · rw [z_b_t hb]
    simp only [k_50_0, k_50_1, k_50_2, k_50_3, k_50_4, w_l5, gl_0, va_r, va_n, w_get, gf_x3, gf_m2, gf_m3, w_b14, w_l3, gl_1, vi_i, t_19_2, rc_1, t_3, w_c0, t_1, t_0, t_24_0, t_24_1, z10, z01, z_bT, z_bF, true_or, or_true, false_or, or_false, Option.bind_some, Option.toList_some, Option.toList_none, List.cons_append, List.nil_append, List.length_cons, List.length_nil, Nat.zero_add, Nat.reduceAdd, Nat.reduceLeDiff, and_self, and_true, true_and, if_true, if_false, reduceCtorEq, ne_eq, not_false_eq_true, not_true_eq_false, ↓reduceIte, Nat.reduceEqDiff, Bool.not_not, x_isIn, z_b_f hb]
theorem x_way_b (S : ai_S) (gr : Int32) (vl : Int32) (sg : Int32) (cs : Int32) (pr : Nat → Int32) (ha : Nat → Int32) (la : Nat → Int32) (wa : Nat → Int32) (p : sv_G) (sw : Bool) (t : sv_T) (m : sv_M) (pa : sv_P) (im : Nat → sv_M) (kp : Int32) (he : sv_H) (wl : Nat → Int32) (fe : Nat → Int32) (as : Int64) (D : sv_D) (c k : Int32) (hb : ¬ ((0 ≤ c ∧ c < cs) ∧ ¬ k < -1 ∧ k < 10)) : ai_call S 46 [.ref 1, .int c, .int k] (HP ((gr, vl, sg, cs, pr, ha, la, wa), p, sw, t, m, pa, im, kp, he, wl, fe, as) D) = some (some (.int (-1)), HP ((gr, vl, sg, cs, pr, ha, la, wa), p, sw, t, m, pa, im, kp, he, wl, fe, as) D) := by
  rw [e_46]
  by_cases hc : 0 ≤ c ∧ c < cs
  · by_cases h1 : k < -1
    · simp only [k_46_0, k_46_1, k_46_2, k_46_3, k_46_4, w_l5, gl_0, va_r, va_n, w_l3, gl_1, vi_i, t_18_2, rc_0, io_x, t_2, gl_2, w_c0, t_10, w_c1, t_23, z10, z01, z_bT, z_bF, true_or, or_true, false_or, or_false, Option.bind_some, Option.toList_some, Option.toList_none, List.cons_append, List.nil_append, List.length_cons, List.length_nil, Nat.zero_add, Nat.reduceAdd, Nat.reduceLeDiff, and_self, and_true, true_and, if_true, if_false, reduceCtorEq, ne_eq, not_false_eq_true, not_true_eq_false, ↓reduceIte, Nat.reduceEqDiff, Bool.not_not, x_isCaller, z_b_t hc, h1]
    · have h2 : ¬ k < 10 := fun z => hb ⟨hc, h1, z⟩
      simp only [k_46_0, k_46_1, k_46_2, k_46_3, k_46_4, w_l5, gl_0, va_r, va_n, w_l3, gl_1, vi_i, t_18_2, rc_0, io_x, t_2, gl_2, w_c0, t_10, w_c1, t_23, z10, z01, z_bT, z_bF, true_or, or_true, false_or, or_false, Option.bind_some, Option.toList_some, Option.toList_none, List.cons_append, List.nil_append, List.length_cons, List.length_nil, Nat.zero_add, Nat.reduceAdd, Nat.reduceLeDiff, and_self, and_true, true_and, if_true, if_false, reduceCtorEq, ne_eq, not_false_eq_true, not_true_eq_false, ↓reduceIte, Nat.reduceEqDiff, Bool.not_not, x_isCaller, z_b_t hc, h1, h2]
  · simp only [k_46_0, k_46_1, k_46_2, k_46_3, k_46_4, w_l5, gl_0, va_r, va_n, w_l3, gl_1, vi_i, t_18_2, rc_0, io_x, t_2, gl_2, w_c0, t_10, w_c1, t_23, z10, z01, z_bT, z_bF, true_or, or_true, false_or, or_false, Option.bind_some, Option.toList_some, Option.toList_none, List.cons_append, List.nil_append, List.length_cons, List.length_nil, Nat.zero_add, Nat.reduceAdd, Nat.reduceLeDiff, and_self, and_true, true_and, if_true, if_false, reduceCtorEq, ne_eq, not_false_eq_true, not_true_eq_false, ↓reduceIte, Nat.reduceEqDiff, Bool.not_not, x_isCaller, z_b_f hc]
theorem x_way_s (S : ai_S) (gr : Int32) (vl : Int32) (sg : Int32) (cs : Int32) (pr : Nat → Int32) (ha : Nat → Int32) (la : Nat → Int32) (wa : Nat → Int32) (p : sv_G) (sw : Bool) (t : sv_T) (br : Nat → Int32) (wm : Nat → Int32) (yi : Int32) (lf : Int32) (sh : Int32) (hu : Int32) (ve : Int32) (so : Int32) (pa : sv_P) (im : Nat → sv_M) (kp : Int32) (he : sv_H) (wl : Nat → Int32) (fe : Nat → Int32) (as : Int64) (D : sv_D) (c : Nat) (k : Int32) (hc : 0 ≤ nI c ∧ nI c < cs) (h1 : ¬ k < -1) (h2 : k < 10) (hw : z_bit (yi ||| lf) c) : ai_call S 46 [.ref 1, .int (nI c), .int k] (HP ((gr, vl, sg, cs, pr, ha, la, wa), p, sw, t, (br, wm, yi, lf, sh, hu, ve, so), pa, im, kp, he, wl, fe, as) D) = some (some (.int (-2)), HP ((gr, vl, sg, cs, pr, ha, la, wa), p, sw, t, (br, wm, yi, lf, sh, hu, ve, so), pa, im, kp, he, wl, fe, as) D) := by
  rw [e_46]
  have hn : ¬ ¬ z_bit (yi ||| lf) c := fun z => z hw
  simp only [k_46_0, k_46_1, k_46_2, k_46_3, k_46_4, k_46_5, k_46_6, k_46_7, w_l5, gl_0, va_r, va_n, w_l3, gl_1, vi_i, t_18_2, rc_0, io_x, t_2, gl_2, w_c0, t_10, w_c1, t_23, t_3, z10, z01, z_bT, z_bF, true_or, or_true, false_or, or_false, Option.bind_some, Option.toList_some, Option.toList_none, List.cons_append, List.nil_append, List.length_cons, List.length_nil, Nat.zero_add, Nat.reduceAdd, Nat.reduceLeDiff, and_self, and_true, true_and, if_true, if_false, reduceCtorEq, ne_eq, not_false_eq_true, not_true_eq_false, ↓reduceIte, Nat.reduceEqDiff, Bool.not_not, x_isCaller, z_b_t hc, h1, h2, x_mayBeWon, z_b_f hn]
/-- way's answer: F the fewest -/
def z_way (F : Nat → Nat → Nat) (k : Int32) : Int32 := if F 10 0 = 1000 then -9 else if k < nI (F 10 0) then (if k = -1 then nI (F 10 0) else z_tn F k.toNatClampNeg) else -9
theorem x_way (S : ai_S) (gr : Int32) (vl : Int32) (sg : Int32) (cs : Int32) (pr : Nat → Int32) (ha : Nat → Int32) (la : Nat → Int32) (wa : Nat → Int32) (p : sv_G) (sw : Bool) (t : sv_T) (br : Nat → Int32) (wm : Nat → Int32) (yi : Int32) (lf : Int32) (sh : Int32) (hu : Int32) (ve : Int32) (so : Int32) (pa : sv_P) (im : Nat → sv_M) (kp : Int32) (he : sv_H) (wl : Nat → Int32) (fe : Nat → Int32) (as : Int64) (D : sv_D) (c : Nat) (k : Int32) (hc6 : c < 6) (hc : 0 ≤ nI c ∧ nI c < cs) (h1 : ¬ k < -1) (h2 : k < 10) (hw : ¬ z_bit (yi ||| lf) c) : ∃ fe', ai_call S 46 [.ref 1, .int (nI c), .int k] (HP ((gr, vl, sg, cs, pr, ha, la, wa), p, sw, t, (br, wm, yi, lf, sh, hu, ve, so), pa, im, kp, he, wl, fe, as) D) = some (some (.int (z_way (z_F (z_wy ha pr c gr ve (br c) (wm c)) (z_wl pr c gr (br c))) k)), HP ((gr, vl, sg, cs, pr, ha, la, wa), p, sw, t, (br, wm, yi, lf, sh, hu, ve, so), pa, im, kp, he, wl, fe', as) D) := by
  obtain ⟨fe', r1, r2⟩ := x_reckonWay S gr vl sg cs pr ha la wa p sw t br wm yi lf sh hu ve so pa im kp he wl fe as D c hc6
  refine ⟨fe', ?_⟩
  rw [e_46]
  have hF := z_F_le (z_wy ha pr c gr ve (br c) (wm c)) (z_wl pr c gr (br c))
  have hF0 := hF 10 0
  unfold z_way
  by_cases h3 : z_F (z_wy ha pr c gr ve (br c) (wm c)) (z_wl pr c gr (br c)) 10 0 = 1000
  · have q1 : nI (z_F (z_wy ha pr c gr ve (br c) (wm c)) (z_wl pr c gr (br c)) 10 0) = 1000 := by rw [h3]; rfl
    rw [if_pos h3]
    simp only [k_46_0, k_46_1, k_46_2, k_46_3, k_46_4, k_46_5, k_46_6, k_46_7, k_46_8, k_46_9, k_46_10, k_46_11, k_46_12, k_46_13, k_46_14, k_46_15, w_l5, gl_0, va_r, va_n, w_l3, gl_1, vi_i, t_18_2, rc_0, io_x, t_2, gl_2, w_c0, t_10, w_c1, t_23, t_3, w_s6, sl_3, ll_3, gl_3, w_c2, t_8, t_9, t_1, z10, z01, z_bT, z_bF, true_or, or_true, false_or, or_false, Option.bind_some, Option.toList_some, Option.toList_none, List.cons_append, List.nil_append, List.length_cons, List.length_nil, Nat.zero_add, Nat.reduceAdd, Nat.reduceLeDiff, and_self, and_true, true_and, if_true, if_false, reduceCtorEq, ne_eq, not_false_eq_true, not_true_eq_false, ↓reduceIte, Nat.reduceEqDiff, Bool.not_not, x_isCaller, z_b_t hc, h1, h2, x_mayBeWon, z_b_t hw, r1, eq_true q1]
  · have q1 : ¬ nI (z_F (z_wy ha pr c gr ve (br c) (wm c)) (z_wl pr c gr (br c)) 10 0) = 1000 := fun z => h3 ((nI_eq (b := 1000) (by omega) (by decide)).mp z)
    rw [if_neg h3]
    by_cases h4 : k < nI (z_F (z_wy ha pr c gr ve (br c) (wm c)) (z_wl pr c gr (br c)) 10 0)
    · rw [if_pos h4]
      by_cases h5 : k = -1
      · rw [if_pos h5]
        simp only [k_46_0, k_46_1, k_46_2, k_46_3, k_46_4, k_46_5, k_46_6, k_46_7, k_46_8, k_46_9, k_46_10, k_46_11, k_46_12, k_46_13, k_46_14, k_46_15, w_l5, gl_0, va_r, va_n, w_l3, gl_1, vi_i, t_18_2, rc_0, io_x, t_2, gl_2, w_c0, t_10, w_c1, t_23, t_3, w_s6, sl_3, ll_3, gl_3, w_c2, t_8, t_9, t_1, z10, z01, z_bT, z_bF, true_or, or_true, false_or, or_false, Option.bind_some, Option.toList_some, Option.toList_none, List.cons_append, List.nil_append, List.length_cons, List.length_nil, Nat.zero_add, Nat.reduceAdd, Nat.reduceLeDiff, and_self, and_true, true_and, if_true, if_false, reduceCtorEq, ne_eq, not_false_eq_true, not_true_eq_false, ↓reduceIte, Nat.reduceEqDiff, Bool.not_not, x_isCaller, z_b_t hc, h1, h2, x_mayBeWon, z_b_t hw, r1, q1, h4, eq_true h5]
      · rw [if_neg h5]
        have hk : ∃ k', k' < 10 ∧ k = nI k' := by
          have h6 : 0 ≤ k := by
            rw [Int32.le_iff_toInt_le]
            rw [Int32.lt_iff_toInt_lt] at h1
            have e1 : (-1 : Int32).toInt = -1 := by decide
            have e0 : (0 : Int32).toInt = 0 := by decide
            have e2 : k.toInt ≠ -1 := fun z => h5 (Int32.toInt_inj.mp (by rw [z, e1]))
            omega
          exact z_in (n := 10) (by decide) ⟨h6, h2⟩
        obtain ⟨k', hk1, rfl⟩ := hk
        rw [nI_clamp (by omega)]
        have ht := fun g p sw t m pa im kp he wl as D => x_turnOfWay S g p sw t m pa im kp he wl fe' as D (z_F (z_wy ha pr c gr ve (br c) (wm c)) (z_wl pr c gr (br c))) hF r2 k' hk1
        simp only [k_46_0, k_46_1, k_46_2, k_46_3, k_46_4, k_46_5, k_46_6, k_46_7, k_46_8, k_46_9, k_46_10, k_46_11, k_46_12, k_46_13, k_46_14, k_46_15, w_l5, gl_0, va_r, va_n, w_l3, gl_1, vi_i, t_18_2, rc_0, io_x, t_2, gl_2, w_c0, t_10, w_c1, t_23, t_3, w_s6, sl_3, ll_3, gl_3, w_c2, t_8, t_9, t_1, z10, z01, z_bT, z_bF, true_or, or_true, false_or, or_false, Option.bind_some, Option.toList_some, Option.toList_none, List.cons_append, List.nil_append, List.length_cons, List.length_nil, Nat.zero_add, Nat.reduceAdd, Nat.reduceLeDiff, and_self, and_true, true_and, if_true, if_false, reduceCtorEq, ne_eq, not_false_eq_true, not_true_eq_false, ↓reduceIte, Nat.reduceEqDiff, Bool.not_not, x_isCaller, z_b_t hc, h1, h2, x_mayBeWon, z_b_t hw, r1, q1, h4, h5, ht]
    · rw [if_neg h4]
      simp only [k_46_0, k_46_1, k_46_2, k_46_3, k_46_4, k_46_5, k_46_6, k_46_7, k_46_8, k_46_9, k_46_10, k_46_11, k_46_12, k_46_13, k_46_14, k_46_15, w_l5, gl_0, va_r, va_n, w_l3, gl_1, vi_i, t_18_2, rc_0, io_x, t_2, gl_2, w_c0, t_10, w_c1, t_23, t_3, w_s6, sl_3, ll_3, gl_3, w_c2, t_8, t_9, t_1, z10, z01, z_bT, z_bF, true_or, or_true, false_or, or_false, Option.bind_some, Option.toList_some, Option.toList_none, List.cons_append, List.nil_append, List.length_cons, List.length_nil, Nat.zero_add, Nat.reduceAdd, Nat.reduceLeDiff, and_self, and_true, true_and, if_true, if_false, reduceCtorEq, ne_eq, not_false_eq_true, not_true_eq_false, ↓reduceIte, Nat.reduceEqDiff, Bool.not_not, x_isCaller, z_b_t hc, h1, h2, x_mayBeWon, z_b_t hw, r1, q1, h4]
