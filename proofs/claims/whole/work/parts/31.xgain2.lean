/-! the class: gain -/
/-- the best of the sets 1 .. s: set, land, shakes -/
def z_gn (la : Nat → Int32) (W : Nat → Nat) (n N : Nat) : Nat → Nat × Int32 × Nat
  | 0 => (0, 0, 0)
  | s + 1 => if z_len W (nI (s + 1)) n ≤ N ∧ ((z_gn la W n N s).2.1 < z_land la (nI (s + 1)) n ∨ z_land la (nI (s + 1)) n = (z_gn la W n N s).2.1 ∧ z_len W (nI (s + 1)) n < (z_gn la W n N s).2.2) then (s + 1, z_land la (nI (s + 1)) n, z_len W (nI (s + 1)) n) else z_gn la W n N s
theorem z_gn_le (la : Nat → Int32) (W : Nat → Nat) (n N : Nat) : ∀ s, (z_gn la W n N s).2.2 ≤ N
  | 0 => Nat.zero_le _
  | s + 1 => by
    unfold z_gn
    split
    · rename_i h
      exact h.1
    · exact z_gn_le la W n N s
theorem x_gain_b (S : ai_S) (h : ai_H) (n w : Int32) (hb : ¬ (¬ n < 0 ∧ ¬ 40 < n ∧ (w = 0 ∨ w = 1))) : ai_call S 47 [.ref 1, .int n, .int w] h = some (some (.int (-1)), h) := by
  rw [e_47]
  by_cases h0 : n < 0
  · simp only [k_47_0, k_47_1, k_47_2, k_47_3, k_47_4, w_l3, gl_1, vi_i, t_4, w_c1, t_12, gl_2, t_19_1, rc_1, t_3, w_c0, t_23, z10, z01, z_bT, z_bF, true_or, or_true, false_or, or_false, Option.bind_some, Option.toList_some, Option.toList_none, List.cons_append, List.nil_append, List.length_cons, List.length_nil, Nat.zero_add, Nat.reduceAdd, Nat.reduceLeDiff, and_self, and_true, true_and, if_true, if_false, reduceCtorEq, ne_eq, not_false_eq_true, not_true_eq_false, ↓reduceIte, Nat.reduceEqDiff, Bool.not_not, h0]
  by_cases h1 : 40 < n
  · simp only [k_47_0, k_47_1, k_47_2, k_47_3, k_47_4, w_l3, gl_1, vi_i, t_4, w_c1, t_12, gl_2, t_19_1, rc_1, t_3, w_c0, t_23, z10, z01, z_bT, z_bF, true_or, or_true, false_or, or_false, Option.bind_some, Option.toList_some, Option.toList_none, List.cons_append, List.nil_append, List.length_cons, List.length_nil, Nat.zero_add, Nat.reduceAdd, Nat.reduceLeDiff, and_self, and_true, true_and, if_true, if_false, reduceCtorEq, ne_eq, not_false_eq_true, not_true_eq_false, ↓reduceIte, Nat.reduceEqDiff, Bool.not_not, h0, h1]
  · have h4 : ¬ (w = 0 ∨ w = 1) := fun z => hb ⟨h0, h1, z⟩
    simp only [k_47_0, k_47_1, k_47_2, k_47_3, k_47_4, w_l3, gl_1, vi_i, t_4, w_c1, t_12, gl_2, t_19_1, rc_1, t_3, w_c0, t_23, z10, z01, z_bT, z_bF, true_or, or_true, false_or, or_false, Option.bind_some, Option.toList_some, Option.toList_none, List.cons_append, List.nil_append, List.length_cons, List.length_nil, Nat.zero_add, Nat.reduceAdd, Nat.reduceLeDiff, and_self, and_true, true_and, if_true, if_false, reduceCtorEq, ne_eq, not_false_eq_true, not_true_eq_false, ↓reduceIte, Nat.reduceEqDiff, Bool.not_not, h0, h1, x_oz, z_b_f h4]
theorem x_gain (S : ai_S) (gr : Int32) (vl : Int32) (sg : Int32) (pr : Nat → Int32) (ha : Nat → Int32) (la : Nat → Int32) (wa : Nat → Int32) (p : sv_G) (sw : Bool) (t : sv_T) (br : Nat → Int32) (wm : Nat → Int32) (yi : Int32) (lf : Int32) (sh : Int32) (hu : Int32) (ve : Int32) (so : Int32) (pa : sv_P) (im : Nat → sv_M) (kp : Int32) (he : sv_H) (wl : Nat → Int32) (fe : Nat → Int32) (as : Int64) (D : sv_D) (n N : Nat) (hn : n ≤ 6) (hN : N ≤ 40) (w : Int32) (hw : w = 0 ∨ w = 1) : ∃ wl' fe', ai_call S 47 [.ref 1, .int (nI N), .int w] (HP ((gr, vl, sg, nI n, pr, ha, la, wa), p, sw, t, (br, wm, yi, lf, sh, hu, ve, so), pa, im, kp, he, wl, fe, as) D) = some (some (.int (if w = 0 then (z_gn la (z_wn ha pr br wm gr ve (yi ||| lf)) n N (2 ^ n - 1)).2.1 else nI (z_gn la (z_wn ha pr br wm gr ve (yi ||| lf)) n N (2 ^ n - 1)).1)), HP ((gr, vl, sg, nI n, pr, ha, la, wa), p, sw, t, (br, wm, yi, lf, sh, hu, ve, so), pa, im, kp, he, wl', fe', as) D) := by
  obtain ⟨wl', fe', m1, m2⟩ := x_measureWays S gr vl sg pr ha la wa p sw t br wm yi lf sh hu ve so pa im kp he wl fe as D n hn
  refine ⟨wl', fe', ?_⟩
  rw [e_47]
  have hWle := z_wn_le ha pr br wm gr ve (yi ||| lf)
  generalize hW : z_wn ha pr br wm gr ve (yi ||| lf) = W at m2 hWle ⊢
  have h0 : ¬ nI N < 0 := nI_pos (by omega)
  have h1 : ¬ (40 : Int32) < nI N := nI_nlt (a := 40) hN (by decide)
  have hp2 := z_pow_le n hn
  have hp1 : 0 < 2 ^ n := Nat.pos_of_ne_zero (by intro z; simp at z)
  have hlen := fun s => x_lengthOfWays S gr vl sg pr ha la wa p sw t (br, wm, yi, lf, sh, hu, ve, so) pa im kp he wl' fe' as D n hn s W m2
  have key : ∀ j s (x y z : Value), s + 1 + j = 2 ^ n → ai_res S 47 7 [.ref 1, .int (nI N), .int w, .int (nI (z_gn la W n N s).1), .int (z_gn la W n N s).2.1, .int (nI (z_gn la W n N s).2.2), .int (nI (s + 1)), x, y, z] [] (HP ((gr, vl, sg, nI n, pr, ha, la, wa), p, sw, t, (br, wm, yi, lf, sh, hu, ve, so), pa, im, kp, he, wl', fe', as) D) = some (some (.int (if w = 0 then (z_gn la W n N (2 ^ n - 1)).2.1 else nI (z_gn la W n N (2 ^ n - 1)).1)), HP ((gr, vl, sg, nI n, pr, ha, la, wa), p, sw, t, (br, wm, yi, lf, sh, hu, ve, so), pa, im, kp, he, wl', fe', as) D) := by
    intro j
    induction j with
    | zero =>
      intro s x y z hs
      have e1 : 2 ^ n - 1 = s := by omega
      have e2 : s + 1 = 2 ^ n := by omega
      rw [e1, e2]
      have hge : nI (2 ^ n) ≤ nI (2 ^ n) := Int32.le_refl _
      rw [k_47_7]
      rcases hw with rfl | rfl
      · simp only [k_47_0, k_47_1, k_47_2, k_47_3, k_47_4, k_47_5, k_47_6, k_47_8, k_47_9, k_47_10, k_47_11, k_47_12, k_47_13, k_47_14, k_47_15, k_47_16, k_47_17, k_47_18, k_47_19, k_47_20, k_47_21, k_47_22, w_l3, gl_1, vi_i, t_4, w_c1, t_12, gl_2, t_19_1, rc_1, t_3, w_c0, t_23, w_l5, gl_0, va_r, va_n, t_18_1, rc_0, io_x, w_s6, sl_3, ll_3, w_s7, sl_4, ll_4, sl_5, ll_5, sl_6, ll_6, t_0, w_l4, gl_6, w_get, gf_x0, gf_g3, gf_p3, w_b15, t_11, t_18_2, sl_7, ll_7, sl_8, ll_8, gl_8, gl_4, t_9, gl_7, gl_5, t_1, sl_9, ll_9, gl_9, t_2, w_inc, gl_3, z10, z01, z_bT, z_bF, true_or, or_true, false_or, or_false, Option.bind_some, Option.toList_some, Option.toList_none, List.cons_append, List.nil_append, List.length_cons, List.length_nil, Nat.zero_add, Nat.reduceAdd, Nat.reduceLeDiff, and_self, and_true, true_and, if_true, if_false, reduceCtorEq, ne_eq, not_false_eq_true, not_true_eq_false, ↓reduceIte, Nat.reduceEqDiff, Bool.not_not, z_one_pow n hn, hge]
      · simp only [k_47_0, k_47_1, k_47_2, k_47_3, k_47_4, k_47_5, k_47_6, k_47_8, k_47_9, k_47_10, k_47_11, k_47_12, k_47_13, k_47_14, k_47_15, k_47_16, k_47_17, k_47_18, k_47_19, k_47_20, k_47_21, k_47_22, w_l3, gl_1, vi_i, t_4, w_c1, t_12, gl_2, t_19_1, rc_1, t_3, w_c0, t_23, w_l5, gl_0, va_r, va_n, t_18_1, rc_0, io_x, w_s6, sl_3, ll_3, w_s7, sl_4, ll_4, sl_5, ll_5, sl_6, ll_6, t_0, w_l4, gl_6, w_get, gf_x0, gf_g3, gf_p3, w_b15, t_11, t_18_2, sl_7, ll_7, sl_8, ll_8, gl_8, gl_4, t_9, gl_7, gl_5, t_1, sl_9, ll_9, gl_9, t_2, w_inc, gl_3, z10, z01, z_bT, z_bF, true_or, or_true, false_or, or_false, Option.bind_some, Option.toList_some, Option.toList_none, List.cons_append, List.nil_append, List.length_cons, List.length_nil, Nat.zero_add, Nat.reduceAdd, Nat.reduceLeDiff, and_self, and_true, true_and, if_true, if_false, reduceCtorEq, ne_eq, not_false_eq_true, not_true_eq_false, ↓reduceIte, Nat.reduceEqDiff, Bool.not_not, z_one_pow n hn, hge]
    | succ j ih =>
      intro s x y z hs
      have hlt : ¬ nI (2 ^ n) ≤ nI (s + 1) := nI_ge (by omega) (by omega)
      have h3 := fun x y z => ih (s + 1) x y z (by omega)
      have l1 := z_len_le W hWle (nI (s + 1)) n
      rw [k_47_7]
      have hbl := z_gn_le la W n N s
      have hlo := x_landOf S gr vl sg pr ha la wa p sw t (br, wm, yi, lf, sh, hu, ve, so) pa im kp he wl' fe' as D n hn (nI (s + 1))
      have hle := hlen (nI (s + 1))
      rw [z_gn] at h3
      generalize z_len W (nI (s + 1)) n = LN at h3 l1 hle
      generalize z_land la (nI (s + 1)) n = LD at h3 hlo
      generalize z_gn la W n N s = B at h3 hbl ⊢
      obtain ⟨B1, B2, B3⟩ := B
      dsimp only at h3 hbl ⊢
      have q4 : nI N < nI LN ↔ N < LN := nI_ltI (by omega) (by omega)
      have q7 : nI B3 ≤ nI LN ↔ B3 ≤ LN := nI_leI (by omega) (by omega)
      by_cases h5 : B2 < LD
      · by_cases h4 : N < LN
        · rw [if_neg (fun z => by omega)] at h3
          simp only [k_47_0, k_47_1, k_47_2, k_47_3, k_47_4, k_47_5, k_47_6, k_47_8, k_47_9, k_47_10, k_47_11, k_47_12, k_47_13, k_47_14, k_47_15, k_47_16, k_47_17, k_47_18, k_47_19, k_47_20, k_47_21, k_47_22, w_l3, gl_1, vi_i, t_4, w_c1, t_12, gl_2, t_19_1, rc_1, t_3, w_c0, t_23, w_l5, gl_0, va_r, va_n, t_18_1, rc_0, io_x, w_s6, sl_3, ll_3, w_s7, sl_4, ll_4, sl_5, ll_5, sl_6, ll_6, t_0, w_l4, gl_6, w_get, gf_x0, gf_g3, gf_p3, w_b15, t_11, t_18_2, sl_7, ll_7, sl_8, ll_8, gl_8, gl_4, t_9, gl_7, gl_5, t_1, sl_9, ll_9, gl_9, t_2, w_inc, gl_3, z10, z01, z_bT, z_bF, true_or, or_true, false_or, or_false, Option.bind_some, Option.toList_some, Option.toList_none, List.cons_append, List.nil_append, List.length_cons, List.length_nil, Nat.zero_add, Nat.reduceAdd, Nat.reduceLeDiff, and_self, and_true, true_and, if_true, if_false, reduceCtorEq, ne_eq, not_false_eq_true, not_true_eq_false, ↓reduceIte, Nat.reduceEqDiff, Bool.not_not, z_one_pow n hn, hlt, hle, hlo, h5, q4, h4, nI_1]
          exact h3 _ _ _
        · rw [if_pos ⟨by omega, Or.inl h5⟩] at h3
          simp only [k_47_0, k_47_1, k_47_2, k_47_3, k_47_4, k_47_5, k_47_6, k_47_8, k_47_9, k_47_10, k_47_11, k_47_12, k_47_13, k_47_14, k_47_15, k_47_16, k_47_17, k_47_18, k_47_19, k_47_20, k_47_21, k_47_22, w_l3, gl_1, vi_i, t_4, w_c1, t_12, gl_2, t_19_1, rc_1, t_3, w_c0, t_23, w_l5, gl_0, va_r, va_n, t_18_1, rc_0, io_x, w_s6, sl_3, ll_3, w_s7, sl_4, ll_4, sl_5, ll_5, sl_6, ll_6, t_0, w_l4, gl_6, w_get, gf_x0, gf_g3, gf_p3, w_b15, t_11, t_18_2, sl_7, ll_7, sl_8, ll_8, gl_8, gl_4, t_9, gl_7, gl_5, t_1, sl_9, ll_9, gl_9, t_2, w_inc, gl_3, z10, z01, z_bT, z_bF, true_or, or_true, false_or, or_false, Option.bind_some, Option.toList_some, Option.toList_none, List.cons_append, List.nil_append, List.length_cons, List.length_nil, Nat.zero_add, Nat.reduceAdd, Nat.reduceLeDiff, and_self, and_true, true_and, if_true, if_false, reduceCtorEq, ne_eq, not_false_eq_true, not_true_eq_false, ↓reduceIte, Nat.reduceEqDiff, Bool.not_not, z_one_pow n hn, hlt, hle, hlo, h5, q4, h4, nI_1]
          exact h3 _ _ _
      · by_cases h6 : LD = B2
        · by_cases h7 : B3 ≤ LN
          · rw [if_neg (fun z => by rcases z.2 with h | h; exact h5 h; omega)] at h3
            simp only [k_47_0, k_47_1, k_47_2, k_47_3, k_47_4, k_47_5, k_47_6, k_47_8, k_47_9, k_47_10, k_47_11, k_47_12, k_47_13, k_47_14, k_47_15, k_47_16, k_47_17, k_47_18, k_47_19, k_47_20, k_47_21, k_47_22, w_l3, gl_1, vi_i, t_4, w_c1, t_12, gl_2, t_19_1, rc_1, t_3, w_c0, t_23, w_l5, gl_0, va_r, va_n, t_18_1, rc_0, io_x, w_s6, sl_3, ll_3, w_s7, sl_4, ll_4, sl_5, ll_5, sl_6, ll_6, t_0, w_l4, gl_6, w_get, gf_x0, gf_g3, gf_p3, w_b15, t_11, t_18_2, sl_7, ll_7, sl_8, ll_8, gl_8, gl_4, t_9, gl_7, gl_5, t_1, sl_9, ll_9, gl_9, t_2, w_inc, gl_3, z10, z01, z_bT, z_bF, true_or, or_true, false_or, or_false, Option.bind_some, Option.toList_some, Option.toList_none, List.cons_append, List.nil_append, List.length_cons, List.length_nil, Nat.zero_add, Nat.reduceAdd, Nat.reduceLeDiff, and_self, and_true, true_and, if_true, if_false, reduceCtorEq, ne_eq, not_false_eq_true, not_true_eq_false, ↓reduceIte, Nat.reduceEqDiff, Bool.not_not, z_one_pow n hn, hlt, hle, hlo, h5, eq_true h6, q4, q7, h7, nI_1]
            by_cases h4 : N < LN
            · simp only [h4, if_true]
              exact h3 _ _ _
            · simp only [h4, if_false]
              exact h3 _ _ _
          · by_cases h4 : N < LN
            · rw [if_neg (fun z => by omega)] at h3
              simp only [k_47_0, k_47_1, k_47_2, k_47_3, k_47_4, k_47_5, k_47_6, k_47_8, k_47_9, k_47_10, k_47_11, k_47_12, k_47_13, k_47_14, k_47_15, k_47_16, k_47_17, k_47_18, k_47_19, k_47_20, k_47_21, k_47_22, w_l3, gl_1, vi_i, t_4, w_c1, t_12, gl_2, t_19_1, rc_1, t_3, w_c0, t_23, w_l5, gl_0, va_r, va_n, t_18_1, rc_0, io_x, w_s6, sl_3, ll_3, w_s7, sl_4, ll_4, sl_5, ll_5, sl_6, ll_6, t_0, w_l4, gl_6, w_get, gf_x0, gf_g3, gf_p3, w_b15, t_11, t_18_2, sl_7, ll_7, sl_8, ll_8, gl_8, gl_4, t_9, gl_7, gl_5, t_1, sl_9, ll_9, gl_9, t_2, w_inc, gl_3, z10, z01, z_bT, z_bF, true_or, or_true, false_or, or_false, Option.bind_some, Option.toList_some, Option.toList_none, List.cons_append, List.nil_append, List.length_cons, List.length_nil, Nat.zero_add, Nat.reduceAdd, Nat.reduceLeDiff, and_self, and_true, true_and, if_true, if_false, reduceCtorEq, ne_eq, not_false_eq_true, not_true_eq_false, ↓reduceIte, Nat.reduceEqDiff, Bool.not_not, z_one_pow n hn, hlt, hle, hlo, h5, eq_true h6, q4, q7, h7, h4, nI_1]
              exact h3 _ _ _
            · rw [if_pos ⟨by omega, Or.inr ⟨h6, by omega⟩⟩] at h3
              simp only [k_47_0, k_47_1, k_47_2, k_47_3, k_47_4, k_47_5, k_47_6, k_47_8, k_47_9, k_47_10, k_47_11, k_47_12, k_47_13, k_47_14, k_47_15, k_47_16, k_47_17, k_47_18, k_47_19, k_47_20, k_47_21, k_47_22, w_l3, gl_1, vi_i, t_4, w_c1, t_12, gl_2, t_19_1, rc_1, t_3, w_c0, t_23, w_l5, gl_0, va_r, va_n, t_18_1, rc_0, io_x, w_s6, sl_3, ll_3, w_s7, sl_4, ll_4, sl_5, ll_5, sl_6, ll_6, t_0, w_l4, gl_6, w_get, gf_x0, gf_g3, gf_p3, w_b15, t_11, t_18_2, sl_7, ll_7, sl_8, ll_8, gl_8, gl_4, t_9, gl_7, gl_5, t_1, sl_9, ll_9, gl_9, t_2, w_inc, gl_3, z10, z01, z_bT, z_bF, true_or, or_true, false_or, or_false, Option.bind_some, Option.toList_some, Option.toList_none, List.cons_append, List.nil_append, List.length_cons, List.length_nil, Nat.zero_add, Nat.reduceAdd, Nat.reduceLeDiff, and_self, and_true, true_and, if_true, if_false, reduceCtorEq, ne_eq, not_false_eq_true, not_true_eq_false, ↓reduceIte, Nat.reduceEqDiff, Bool.not_not, z_one_pow n hn, hlt, hle, hlo, h5, eq_true h6, q4, q7, h7, h4, nI_1]
              exact h3 _ _ _
        · rw [if_neg (fun z => by rcases z.2 with h | h; exact h5 h; exact h6 h.1)] at h3
          simp only [k_47_0, k_47_1, k_47_2, k_47_3, k_47_4, k_47_5, k_47_6, k_47_8, k_47_9, k_47_10, k_47_11, k_47_12, k_47_13, k_47_14, k_47_15, k_47_16, k_47_17, k_47_18, k_47_19, k_47_20, k_47_21, k_47_22, w_l3, gl_1, vi_i, t_4, w_c1, t_12, gl_2, t_19_1, rc_1, t_3, w_c0, t_23, w_l5, gl_0, va_r, va_n, t_18_1, rc_0, io_x, w_s6, sl_3, ll_3, w_s7, sl_4, ll_4, sl_5, ll_5, sl_6, ll_6, t_0, w_l4, gl_6, w_get, gf_x0, gf_g3, gf_p3, w_b15, t_11, t_18_2, sl_7, ll_7, sl_8, ll_8, gl_8, gl_4, t_9, gl_7, gl_5, t_1, sl_9, ll_9, gl_9, t_2, w_inc, gl_3, z10, z01, z_bT, z_bF, true_or, or_true, false_or, or_false, Option.bind_some, Option.toList_some, Option.toList_none, List.cons_append, List.nil_append, List.length_cons, List.length_nil, Nat.zero_add, Nat.reduceAdd, Nat.reduceLeDiff, and_self, and_true, true_and, if_true, if_false, reduceCtorEq, ne_eq, not_false_eq_true, not_true_eq_false, ↓reduceIte, Nat.reduceEqDiff, Bool.not_not, z_one_pow n hn, hlt, hle, hlo, h5, h6, q4, nI_1]
          by_cases h4 : N < LN
          · simp only [h4, if_true]
            exact h3 _ _ _
          · simp only [h4, if_false]
            exact h3 _ _ _
  have k0 := key (2 ^ n - 1) 0 ai_u ai_u ai_u (by omega)
  simp only [k_47_0, k_47_1, k_47_2, k_47_3, k_47_4, k_47_5, k_47_6, k_47_8, k_47_9, k_47_10, k_47_11, k_47_12, k_47_13, k_47_14, k_47_15, k_47_16, k_47_17, k_47_18, k_47_19, k_47_20, k_47_21, k_47_22, w_l3, gl_1, vi_i, t_4, w_c1, t_12, gl_2, t_19_1, rc_1, t_3, w_c0, t_23, w_l5, gl_0, va_r, va_n, t_18_1, rc_0, io_x, w_s6, sl_3, ll_3, w_s7, sl_4, ll_4, sl_5, ll_5, sl_6, ll_6, t_0, w_l4, gl_6, w_get, gf_x0, gf_g3, gf_p3, w_b15, t_11, t_18_2, sl_7, ll_7, sl_8, ll_8, gl_8, gl_4, t_9, gl_7, gl_5, t_1, sl_9, ll_9, gl_9, t_2, w_inc, gl_3, z10, z01, z_bT, z_bF, true_or, or_true, false_or, or_false, Option.bind_some, Option.toList_some, Option.toList_none, List.cons_append, List.nil_append, List.length_cons, List.length_nil, Nat.zero_add, Nat.reduceAdd, Nat.reduceLeDiff, and_self, and_true, true_and, if_true, if_false, reduceCtorEq, ne_eq, not_false_eq_true, not_true_eq_false, ↓reduceIte, Nat.reduceEqDiff, Bool.not_not, h0, h1, x_oz, z_b_t hw, m1]
  exact k0
