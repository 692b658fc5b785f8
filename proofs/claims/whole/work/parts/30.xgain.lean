/-! the class: measureWays, lengthOfWays, gain -/
/-- how long a caller's way is; 1000: none -/
def z_wn (ha pr br wm : Nat → Int32) (gr ve yl : Int32) (c : Nat) : Nat := if z_bit yl c then 1000 else z_F (z_wy ha pr c gr ve (br c) (wm c)) (z_wl pr c gr (br c)) 10 0
theorem z_wn_le (ha pr br wm : Nat → Int32) (gr ve yl : Int32) (c : Nat) : z_wn ha pr br wm gr ve yl c ≤ 1000 := by
  unfold z_wn
  split
  · exact Nat.le_refl _
  · exact z_F_le _ _ _ _
theorem x_measureWays (S : ai_S) (gr : Int32) (vl : Int32) (sg : Int32) (pr : Nat → Int32) (ha : Nat → Int32) (la : Nat → Int32) (wa : Nat → Int32) (p : sv_G) (sw : Bool) (t : sv_T) (br : Nat → Int32) (wm : Nat → Int32) (yi : Int32) (lf : Int32) (sh : Int32) (hu : Int32) (ve : Int32) (so : Int32) (pa : sv_P) (im : Nat → sv_M) (kp : Int32) (he : sv_H) (wl : Nat → Int32) (fe : Nat → Int32) (as : Int64) (D : sv_D) (n : Nat) (hn : n ≤ 6) : ∃ wl' fe', ai_call S 56 [.ref 1] (HP ((gr, vl, sg, nI n, pr, ha, la, wa), p, sw, t, (br, wm, yi, lf, sh, hu, ve, so), pa, im, kp, he, wl, fe, as) D) = some (none, HP ((gr, vl, sg, nI n, pr, ha, la, wa), p, sw, t, (br, wm, yi, lf, sh, hu, ve, so), pa, im, kp, he, wl', fe', as) D) ∧ ∀ c, c < n → wl' c = nI (z_wn ha pr br wm gr ve (yi ||| lf) c) := by
  have key : ∀ j c wl fe, c + j = n → (∀ c', c' < c → wl c' = nI (z_wn ha pr br wm gr ve (yi ||| lf) c')) → ∃ wl' fe', ai_res S 56 1 [.ref 1, .int (nI c)] [] (HP ((gr, vl, sg, nI n, pr, ha, la, wa), p, sw, t, (br, wm, yi, lf, sh, hu, ve, so), pa, im, kp, he, wl, fe, as) D) = some (none, HP ((gr, vl, sg, nI n, pr, ha, la, wa), p, sw, t, (br, wm, yi, lf, sh, hu, ve, so), pa, im, kp, he, wl', fe', as) D) ∧ ∀ c, c < n → wl' c = nI (z_wn ha pr br wm gr ve (yi ||| lf) c) := by
    intro j
    induction j with
    | zero =>
      intro c wl fe hc hw
      have e1 : c = n := by omega
      subst e1
      have hge : nI c ≤ nI c := Int32.le_refl _
      refine ⟨wl, fe, ?_, hw⟩
      rw [k_56_1]
      simp only [k_56_0, k_56_2, k_56_3, k_56_4, k_56_5, k_56_6, k_56_7, k_56_8, k_56_9, w_c0, w_s6, sl_1, ll_1, t_0, w_l3, gl_1, vi_i, w_l5, gl_0, va_r, va_n, w_get, gf_x0, gf_g3, gf_p3, t_11, gf_x8, ia_wl, pz_wl, t_18_2, rc_0, io_x, t_2, t_1, w_c2, t_19_3, rc_1, w_inc, t_27, z10, z01, z_bT, z_bF, true_or, or_true, false_or, or_false, Option.bind_some, Option.toList_some, Option.toList_none, List.cons_append, List.nil_append, List.length_cons, List.length_nil, Nat.zero_add, Nat.reduceAdd, Nat.reduceLeDiff, and_self, and_true, true_and, if_true, if_false, reduceCtorEq, ne_eq, not_false_eq_true, not_true_eq_false, ↓reduceIte, Nat.reduceEqDiff, Bool.not_not, hge]
    | succ j ih =>
      intro c wl fe hc hw
      have hlt : ¬ nI n ≤ nI c := nI_ge (by omega) (by omega)
      have hc6 : c < 6 := by omega
      by_cases hb : z_bit (yi ||| lf) c
      · have hv : nI (z_wn ha pr br wm gr ve (yi ||| lf) c) = 1000 := by rw [z_wn, if_pos hb]; rfl
        obtain ⟨wl', fe', g1, g2⟩ := ih (c + 1) (upd wl c 1000) fe (by omega) (fun c' h => by
          by_cases he : c' = c
          · subst he; rw [pk_us]; exact hv.symm
          · rw [pk_un he]; exact hw c' (by omega))
        refine ⟨wl', fe', ?_, g2⟩
        have hn2 : ¬ ¬ z_bit (yi ||| lf) c := fun z => z hb
        rw [k_56_1]
        simp only [k_56_0, k_56_2, k_56_3, k_56_4, k_56_5, k_56_6, k_56_7, k_56_8, k_56_9, w_c0, w_s6, sl_1, ll_1, t_0, w_l3, gl_1, vi_i, w_l5, gl_0, va_r, va_n, w_get, gf_x0, gf_g3, gf_p3, t_11, gf_x8, ia_wl, pz_wl, t_18_2, rc_0, io_x, t_2, t_1, w_c2, t_19_3, rc_1, w_inc, t_27, z10, z01, z_bT, z_bF, true_or, or_true, false_or, or_false, Option.bind_some, Option.toList_some, Option.toList_none, List.cons_append, List.nil_append, List.length_cons, List.length_nil, Nat.zero_add, Nat.reduceAdd, Nat.reduceLeDiff, and_self, and_true, true_and, if_true, if_false, reduceCtorEq, ne_eq, not_false_eq_true, not_true_eq_false, ↓reduceIte, Nat.reduceEqDiff, Bool.not_not, hlt, x_mayBeWon, z_b_f hn2, x_put, ob_s, hc6, nI_1]
        exact g1
      · obtain ⟨fe1, r1, -⟩ := x_reckonWay S gr vl sg (nI n) pr ha la wa p sw t br wm yi lf sh hu ve so pa im kp he wl fe as D c hc6
        have hv : z_wn ha pr br wm gr ve (yi ||| lf) c = z_F (z_wy ha pr c gr ve (br c) (wm c)) (z_wl pr c gr (br c)) 10 0 := by rw [z_wn, if_neg hb]
        rw [← hv] at r1
        obtain ⟨wl', fe', g1, g2⟩ := ih (c + 1) (upd wl c (nI (z_wn ha pr br wm gr ve (yi ||| lf) c))) fe1 (by omega) (fun c' h => by
          by_cases he : c' = c
          · subst he; rw [pk_us]
          · rw [pk_un he]; exact hw c' (by omega))
        refine ⟨wl', fe', ?_, g2⟩
        rw [k_56_1]
        simp only [k_56_0, k_56_2, k_56_3, k_56_4, k_56_5, k_56_6, k_56_7, k_56_8, k_56_9, w_c0, w_s6, sl_1, ll_1, t_0, w_l3, gl_1, vi_i, w_l5, gl_0, va_r, va_n, w_get, gf_x0, gf_g3, gf_p3, t_11, gf_x8, ia_wl, pz_wl, t_18_2, rc_0, io_x, t_2, t_1, w_c2, t_19_3, rc_1, w_inc, t_27, z10, z01, z_bT, z_bF, true_or, or_true, false_or, or_false, Option.bind_some, Option.toList_some, Option.toList_none, List.cons_append, List.nil_append, List.length_cons, List.length_nil, Nat.zero_add, Nat.reduceAdd, Nat.reduceLeDiff, and_self, and_true, true_and, if_true, if_false, reduceCtorEq, ne_eq, not_false_eq_true, not_true_eq_false, ↓reduceIte, Nat.reduceEqDiff, Bool.not_not, hlt, x_mayBeWon, z_b_t hb, r1, x_put, ob_s, hc6, nI_1]
        exact g1
  obtain ⟨wl', fe', g1, g2⟩ := key n 0 wl fe (by omega) (fun c' h => absurd h (Nat.not_lt_zero _))
  refine ⟨wl', fe', ?_, g2⟩
  rw [e_56]
  simp only [k_56_0, w_c0, w_s6, sl_1, ll_1, t_0, z10, z01, z_bT, z_bF, true_or, or_true, false_or, or_false, Option.bind_some, Option.toList_some, Option.toList_none, List.cons_append, List.nil_append, List.length_cons, List.length_nil, Nat.zero_add, Nat.reduceAdd, Nat.reduceLeDiff, and_self, and_true, true_and, if_true, if_false, reduceCtorEq, ne_eq, not_false_eq_true, not_true_eq_false, ↓reduceIte, Nat.reduceEqDiff, Bool.not_not]
  exact g1
/-- how many shakes a set's ways are together -/
def z_len (W : Nat → Nat) (set : Int32) : Nat → Nat
  | 0 => 0
  | k + 1 => if z_bit set k then z_len W set k + W k else z_len W set k
theorem z_len_le (W : Nat → Nat) (hW : ∀ c, W c ≤ 1000) (set : Int32) : ∀ n, z_len W set n ≤ 1000 * n
  | 0 => Nat.le_refl _
  | k + 1 => by
    have h := z_len_le W hW set k
    have h2 := hW k
    unfold z_len
    split <;> omega
theorem x_lengthOfWays (S : ai_S) (gr : Int32) (vl : Int32) (sg : Int32) (pr : Nat → Int32) (ha : Nat → Int32) (la : Nat → Int32) (wa : Nat → Int32) (p : sv_G) (sw : Bool) (t : sv_T) (m : sv_M) (pa : sv_P) (im : Nat → sv_M) (kp : Int32) (he : sv_H) (wl : Nat → Int32) (fe : Nat → Int32) (as : Int64) (D : sv_D) (n : Nat) (hn : n ≤ 6) (set : Int32) (W : Nat → Nat) (hwl : ∀ c, c < n → wl c = nI (W c)) : ai_call S 57 [.ref 1, .int set] (HP ((gr, vl, sg, nI n, pr, ha, la, wa), p, sw, t, m, pa, im, kp, he, wl, fe, as) D) = some (some (.int (nI (z_len W set n))), HP ((gr, vl, sg, nI n, pr, ha, la, wa), p, sw, t, m, pa, im, kp, he, wl, fe, as) D) := by
  rw [e_57]
  have key : ∀ j k, k + j = n → ai_res S 57 1 [.ref 1, .int set, .int (nI (z_len W set k)), .int (nI k)] [] (HP ((gr, vl, sg, nI n, pr, ha, la, wa), p, sw, t, m, pa, im, kp, he, wl, fe, as) D) = some (some (.int (nI (z_len W set n))), HP ((gr, vl, sg, nI n, pr, ha, la, wa), p, sw, t, m, pa, im, kp, he, wl, fe, as) D) := by
    intro j
    induction j with
    | zero =>
      intro k hk
      have e1 : k = n := by omega
      subst e1
      have hge : nI k ≤ nI k := Int32.le_refl _
      rw [k_57_1]
      simp only [k_57_0, k_57_2, k_57_3, k_57_4, k_57_5, k_57_6, k_57_7, w_c0, w_s6, sl_2, ll_2, sl_3, ll_3, t_0, w_l3, gl_3, vi_i, w_l5, gl_0, va_r, va_n, w_get, gf_x0, gf_g3, gf_p3, t_11, gl_1, t_19_2, rc_1, t_2, gl_2, gf_x8, ia_wl, pz_wl, w_b10, w_inc, t_1, t_23, z10, z01, z_bT, z_bF, true_or, or_true, false_or, or_false, Option.bind_some, Option.toList_some, Option.toList_none, List.cons_append, List.nil_append, List.length_cons, List.length_nil, Nat.zero_add, Nat.reduceAdd, Nat.reduceLeDiff, and_self, and_true, true_and, if_true, if_false, reduceCtorEq, ne_eq, not_false_eq_true, not_true_eq_false, ↓reduceIte, Nat.reduceEqDiff, Bool.not_not, hge]
    | succ j ih =>
      intro k hk
      have hlt : ¬ nI n ≤ nI k := nI_ge (by omega) (by omega)
      have hk6 : k < 6 := by omega
      have h2 := ih (k + 1) (by omega)
      have hv := hwl k (by omega)
      rw [k_57_1]
      by_cases hb : z_bit set k
      · simp only [k_57_0, k_57_2, k_57_3, k_57_4, k_57_5, k_57_6, k_57_7, w_c0, w_s6, sl_2, ll_2, sl_3, ll_3, t_0, w_l3, gl_3, vi_i, w_l5, gl_0, va_r, va_n, w_get, gf_x0, gf_g3, gf_p3, t_11, gl_1, t_19_2, rc_1, t_2, gl_2, gf_x8, ia_wl, pz_wl, w_b10, w_inc, t_1, t_23, z10, z01, z_bT, z_bF, true_or, or_true, false_or, or_false, Option.bind_some, Option.toList_some, Option.toList_none, List.cons_append, List.nil_append, List.length_cons, List.length_nil, Nat.zero_add, Nat.reduceAdd, Nat.reduceLeDiff, and_self, and_true, true_and, if_true, if_false, reduceCtorEq, ne_eq, not_false_eq_true, not_true_eq_false, ↓reduceIte, Nat.reduceEqDiff, Bool.not_not, hlt, x_isIn, z_b_t hb, x_at, ob_s, hk6, nI_1, hv, nI_add]
        rw [z_len, if_pos hb] at h2
        exact h2
      · simp only [k_57_0, k_57_2, k_57_3, k_57_4, k_57_5, k_57_6, k_57_7, w_c0, w_s6, sl_2, ll_2, sl_3, ll_3, t_0, w_l3, gl_3, vi_i, w_l5, gl_0, va_r, va_n, w_get, gf_x0, gf_g3, gf_p3, t_11, gl_1, t_19_2, rc_1, t_2, gl_2, gf_x8, ia_wl, pz_wl, w_b10, w_inc, t_1, t_23, z10, z01, z_bT, z_bF, true_or, or_true, false_or, or_false, Option.bind_some, Option.toList_some, Option.toList_none, List.cons_append, List.nil_append, List.length_cons, List.length_nil, Nat.zero_add, Nat.reduceAdd, Nat.reduceLeDiff, and_self, and_true, true_and, if_true, if_false, reduceCtorEq, ne_eq, not_false_eq_true, not_true_eq_false, ↓reduceIte, Nat.reduceEqDiff, Bool.not_not, hlt, x_isIn, z_b_f hb, x_at, ob_s, hk6, nI_1]
        rw [z_len, if_neg hb] at h2
        exact h2
  have k0 := key n 0 (by omega)
  simp only [k_57_0, w_c0, w_s6, sl_2, ll_2, sl_3, ll_3, t_0, z10, z01, z_bT, z_bF, true_or, or_true, false_or, or_false, Option.bind_some, Option.toList_some, Option.toList_none, List.cons_append, List.nil_append, List.length_cons, List.length_nil, Nat.zero_add, Nat.reduceAdd, Nat.reduceLeDiff, and_self, and_true, true_and, if_true, if_false, reduceCtorEq, ne_eq, not_false_eq_true, not_true_eq_false, ↓reduceIte, Nat.reduceEqDiff, Bool.not_not]
  exact k0
