/-! the reference: the text's tokens -/
def z_lt (le : Nat → Int32) (n k : Nat) : Int32 := if k < n then le k else -1
theorem r_letterAt (S : ai_S) (V : sv_V) (th : Int32) (tr : Int64) (nx : Int32) (tk : Int32) (pl : Int32) (va : Int32) (fa : Int32) (to : Int32) (um : Int32) (te : Int32) (hd : Int32) (wr : Int32) (a0 : Nat → Int32) (a1 : Nat → Int32) (a2 : Nat → Int32) (a3 : Nat → Int32) (a4 : Nat → Int32) (a5 : Nat → Int32) (a6 : Nat → Int32) (a7 : Nat → Int32) (a8 : Nat → Int32) (a9 : Nat → Int32) (a10 : Nat → Int32) (a11 : Nat → Int32) (a12 : Nat → Int32) (a13 : Nat → Int32) (n k : Nat) (hn : n ≤ 120) (hk : k ≤ n) : ai_call S 90 [.ref 62, .int (nI k)] (HP V ((th, tr, nI n, nx, tk, pl, va, fa, to, um, te, hd, wr), (a0, a1, a2, a3, a4, a5, a6, a7, a8, a9, a10, a11, a12, a13))) = some (some (.int (z_lt a0 n k)), HP V ((th, tr, nI n, nx, tk, pl, va, fa, to, um, te, hd, wr), (a0, a1, a2, a3, a4, a5, a6, a7, a8, a9, a10, a11, a12, a13))) := by
  rw [e_90]
  unfold z_lt
  by_cases h : k < n
  · have hlt : ¬ nI n ≤ nI k := nI_ge h (by omega)
    have hk2 : k < 120 := by omega
    have ck := nI_clamp (n := k) (by omega)
    rw [if_pos h]
    simp only [k_90_0, k_90_1, k_90_2, k_90_3, w_l3, gl_1, vi_i, w_l5, gl_0, va_r, va_n, w_get, gd_3, t_11, gd_2, id_0, w_ald, t_1, w_c0, t_0, t_23, z10, z01, z_bT, z_bF, true_or, or_true, false_or, or_false, Option.bind_some, Option.toList_some, Option.toList_none, List.cons_append, List.nil_append, List.length_cons, List.length_nil, Nat.zero_add, Nat.reduceAdd, Nat.reduceLeDiff, and_self, and_true, true_and, if_true, if_false, reduceCtorEq, ne_eq, not_false_eq_true, not_true_eq_false, ↓reduceIte, Nat.reduceEqDiff, Bool.not_not, hlt, rg_n hk2 (by omega), ck]
  · have hge : nI n ≤ nI k := nI_le (by omega) (by omega)
    rw [if_neg h]
    simp only [k_90_0, k_90_1, k_90_2, k_90_3, w_l3, gl_1, vi_i, w_l5, gl_0, va_r, va_n, w_get, gd_3, t_11, gd_2, id_0, w_ald, t_1, w_c0, t_0, t_23, z10, z01, z_bT, z_bF, true_or, or_true, false_or, or_false, Option.bind_some, Option.toList_some, Option.toList_none, List.cons_append, List.nil_append, List.length_cons, List.length_nil, Nat.zero_add, Nat.reduceAdd, Nat.reduceLeDiff, and_self, and_true, true_and, if_true, if_false, reduceCtorEq, ne_eq, not_false_eq_true, not_true_eq_false, ↓reduceIte, Nat.reduceEqDiff, Bool.not_not, hge]
abbrev z_isl (c : Int32) : Prop := c = 99 ∨ c = 103 ∨ c = 118 ∨ c = 115
theorem r_isLetter (S : ai_S) (c : Int32) (h : ai_H) : ai_call S 91 [.int c] h = some (some (.int (z_b (z_isl c))), h) := by
  rw [e_91]
  by_cases h1 : c = 99
  · rw [z_b_t (Or.inl h1)]
    simp only [k_91_0, k_91_1, k_91_2, k_91_3, k_91_4, k_91_5, k_91_6, w_l3, gl_0, vi_i, w_c1, t_8, t_9, w_c0, t_1, t_0, t_24_0, t_24_1, z10, z01, z_bT, z_bF, true_or, or_true, false_or, or_false, Option.bind_some, Option.toList_some, Option.toList_none, List.cons_append, List.nil_append, List.length_cons, List.length_nil, Nat.zero_add, Nat.reduceAdd, Nat.reduceLeDiff, and_self, and_true, true_and, if_true, if_false, reduceCtorEq, ne_eq, not_false_eq_true, not_true_eq_false, ↓reduceIte, Nat.reduceEqDiff, Bool.not_not, eq_true h1]
  by_cases h2 : c = 103
  · rw [z_b_t (Or.inr (Or.inl h2))]
    simp only [k_91_0, k_91_1, k_91_2, k_91_3, k_91_4, k_91_5, k_91_6, w_l3, gl_0, vi_i, w_c1, t_8, t_9, w_c0, t_1, t_0, t_24_0, t_24_1, z10, z01, z_bT, z_bF, true_or, or_true, false_or, or_false, Option.bind_some, Option.toList_some, Option.toList_none, List.cons_append, List.nil_append, List.length_cons, List.length_nil, Nat.zero_add, Nat.reduceAdd, Nat.reduceLeDiff, and_self, and_true, true_and, if_true, if_false, reduceCtorEq, ne_eq, not_false_eq_true, not_true_eq_false, ↓reduceIte, Nat.reduceEqDiff, Bool.not_not, h1, eq_true h2]
  by_cases h3 : c = 118
  · rw [z_b_t (Or.inr (Or.inr (Or.inl h3)))]
    simp only [k_91_0, k_91_1, k_91_2, k_91_3, k_91_4, k_91_5, k_91_6, w_l3, gl_0, vi_i, w_c1, t_8, t_9, w_c0, t_1, t_0, t_24_0, t_24_1, z10, z01, z_bT, z_bF, true_or, or_true, false_or, or_false, Option.bind_some, Option.toList_some, Option.toList_none, List.cons_append, List.nil_append, List.length_cons, List.length_nil, Nat.zero_add, Nat.reduceAdd, Nat.reduceLeDiff, and_self, and_true, true_and, if_true, if_false, reduceCtorEq, ne_eq, not_false_eq_true, not_true_eq_false, ↓reduceIte, Nat.reduceEqDiff, Bool.not_not, h1, h2, eq_true h3]
  by_cases h4 : c = 115
  · rw [z_b_t (Or.inr (Or.inr (Or.inr h4)))]
    simp only [k_91_0, k_91_1, k_91_2, k_91_3, k_91_4, k_91_5, k_91_6, w_l3, gl_0, vi_i, w_c1, t_8, t_9, w_c0, t_1, t_0, t_24_0, t_24_1, z10, z01, z_bT, z_bF, true_or, or_true, false_or, or_false, Option.bind_some, Option.toList_some, Option.toList_none, List.cons_append, List.nil_append, List.length_cons, List.length_nil, Nat.zero_add, Nat.reduceAdd, Nat.reduceLeDiff, and_self, and_true, true_and, if_true, if_false, reduceCtorEq, ne_eq, not_false_eq_true, not_true_eq_false, ↓reduceIte, Nat.reduceEqDiff, Bool.not_not, h1, h2, h3, eq_true h4]
  · have hn : ¬ z_isl c := fun z => by rcases z with z | z | z | z <;> contradiction
    rw [z_b_f hn]
    simp only [k_91_0, k_91_1, k_91_2, k_91_3, k_91_4, k_91_5, k_91_6, w_l3, gl_0, vi_i, w_c1, t_8, t_9, w_c0, t_1, t_0, t_24_0, t_24_1, z10, z01, z_bT, z_bF, true_or, or_true, false_or, or_false, Option.bind_some, Option.toList_some, Option.toList_none, List.cons_append, List.nil_append, List.length_cons, List.length_nil, Nat.zero_add, Nat.reduceAdd, Nat.reduceLeDiff, and_self, and_true, true_and, if_true, if_false, reduceCtorEq, ne_eq, not_false_eq_true, not_true_eq_false, ↓reduceIte, Nat.reduceEqDiff, Bool.not_not, h1, h2, h3, h4]
abbrev z_dg (c : Int32) : Prop := 48 ≤ c ∧ c ≤ 57
theorem z_dg_dig (c : Int32) : z_dg c ↔ z_dig c := by
  constructor
  · intro h
    exact ⟨Int32.not_lt.mpr h.1, Int32.not_lt.mpr h.2⟩
  · intro h
    exact ⟨Int32.not_lt.mp h.1, Int32.not_lt.mp h.2⟩
def z_st (v c : Int32) : Int32 := if v ≤ 99 then 10 * v + c - 48 else v
def z_vn (le : Nat → Int32) : Nat → Nat → Int32 → Nat × Int32
  | 0, k, v => (k, v)
  | j + 1, k, v => if z_dg (le k) then z_vn le j (k + 1) (z_st v (le k)) else (k, v)
theorem z_vn_rn (le : Nat → Int32) : ∀ j k x, x ≤ 999 → (z_vn le j k (nI x)).1 = (z_rn le j k (nI (min 100 x))).1 ∧ ∃ y, y ≤ 999 ∧ (z_vn le j k (nI x)).2 = nI y ∧ (z_rn le j k (nI (min 100 x))).2 = nI (min 100 y)
  | 0, k, x, hx => ⟨rfl, x, hx, rfl, rfl⟩
  | j + 1, k, x, hx => by
    unfold z_vn z_rn
    by_cases hd : z_dg (le k)
    · rw [if_pos hd, if_pos ((z_dg_dig _).mp hd)]
      obtain ⟨d, hd1, hd2⟩ : ∃ d, d < 58 ∧ le k = nI d := z_in (n := 58) (by decide) ⟨Int32.le_trans (by decide) hd.1, Int32.lt_of_le_of_lt hd.2 (by decide)⟩
      have hd3 : 48 ≤ d := by
        have h := hd.1
        rw [hd2] at h
        exact (nI_leI (a := 48) (by decide) (by omega)).mp h
      rw [hd2]
      by_cases hx2 : x ≤ 99
      · have e1 : z_st (nI x) (nI d) = nI (10 * x + (d - 48)) := by
          unfold z_st
          rw [if_pos (show nI x ≤ 99 from nI_le (b := 99) hx2 (by decide)), show (10 : Int32) = nI 10 from rfl, show (48 : Int32) = nI 48 from rfl, pk_mul, nI_add, pk_sub (by omega)]
          congr 1
          omega
        have e2 : z_c10 (nI (min 100 x)) (nI d) = nI (min 100 (10 * x + (d - 48))) := by
          unfold z_c10
          have e3 : 10 * nI (min 100 x) + nI d - 48 = nI (10 * x + (d - 48)) := by
            rw [show min 100 x = x by omega, show (10 : Int32) = nI 10 from rfl, show (48 : Int32) = nI 48 from rfl, pk_mul, nI_add, pk_sub (by omega)]
            congr 1
            omega
          rw [e3]
          by_cases h5 : 10 * x + (d - 48) < 100
          · rw [if_pos (show nI (10 * x + (d - 48)) < 100 from nI_lt (b := 100) h5 (by decide)), Nat.min_eq_right (by omega)]
          · rw [if_neg (show ¬ nI (10 * x + (d - 48)) < 100 from nI_nlt (b := 100) (by omega) (by omega)), Nat.min_eq_left (by omega)]
            rfl
        rw [e1, e2]
        exact z_vn_rn le j (k + 1) _ (by omega)
      · have e1 : z_st (nI x) (nI d) = nI x := by
          unfold z_st
          rw [if_neg (show ¬ nI x ≤ 99 from nI_ge (a := 99) (by omega) (by omega))]
        have e2 : z_c10 (nI (min 100 x)) (nI d) = nI (min 100 x) := by
          unfold z_c10
          have e3 : 10 * nI (min 100 x) + nI d - 48 = nI (1000 + (d - 48)) := by
            rw [show min 100 x = 100 by omega, show (10 : Int32) = nI 10 from rfl, show (48 : Int32) = nI 48 from rfl, pk_mul, nI_add, pk_sub (by omega)]
            congr 1
            omega
          rw [e3, if_neg (show ¬ nI (1000 + (d - 48)) < 100 from nI_nlt (b := 100) (by omega) (by omega)), Nat.min_eq_left (by omega)]
          rfl
        rw [e1, e2]
        exact z_vn_rn le j (k + 1) x hx
    · rw [if_neg hd, if_neg (fun z => hd ((z_dg_dig _).mpr z))]
      exact ⟨rfl, x, hx, rfl, rfl⟩
def z_code (t : Int32) : Int32 := if t = 256 then 0 else if t = 257 then 2 else if t = 258 then 4 else if t = 59 then 3 else if z_isl t then 1 else 4
def z_va (le : Nat → Int32) (n : Nat) (va : Int32) (k : Nat) : Int32 := if n ≤ z_sk le (n - k) k then va else if z_dig (le (z_sk le (n - k) k)) then (z_vn le (n - z_sk le (n - k) k) (z_sk le (n - k) k) 0).2 else le (z_sk le (n - k) k)
def z_ok (le : Nat → Int32) (n : Nat) : Prop := ∀ j, j < n → 0 ≤ le j ∧ le j ≤ 255
theorem z_ok_257 {le : Nat → Int32} {n : Nat} (h : z_ok le n) : ∀ j, j < n → ¬ le j = 257 := fun j hj z => by
  have := (h j hj).2
  rw [z] at this
  exact absurd this (by decide)
theorem z_va_num (le : Nat → Int32) (n : Nat) (va : Int32) (k : Nat) (hle : z_ok le n) (h : (z_rtk le n 0 k).2.1 = 257) : z_va le n va k = (z_rtk le n 0 k).2.2.2 := by
  unfold z_rtk at h ⊢
  unfold z_va
  generalize z_sk le (n - k) k = q at h ⊢
  unfold z_tok at h ⊢
  by_cases hq : n ≤ q
  · rw [if_pos hq] at h
    exact absurd (show (256 : Int32) = 257 from h) (by decide)
  · rw [if_neg hq] at h ⊢
    rw [if_neg hq]
    by_cases hd : z_dig (le q)
    · rw [if_pos hd] at h ⊢
      rw [if_pos hd]
      obtain ⟨e1, y, hy, e2, e3⟩ := z_vn_rn le (n - q) q 0 (by omega)
      have e2' : (z_vn le (n - q) q 0).2 = nI y := e2
      have e3' : (z_rn le (n - q) q 0).2 = nI (min 100 y) := e3
      dsimp only at h ⊢
      unfold z_rt at h
      rw [e3'] at h
      by_cases h9 : 99 < nI (min 100 y)
      · rw [if_pos h9] at h
        exact absurd h (by decide)
      · have h10 : ¬ 99 < min 100 y := fun z => h9 (nI_lt (a := 99) z (by omega))
        rw [e2', e3']
        congr 1
        omega
    · rw [if_neg hd] at h
      exact absurd h (z_ok_257 hle q (by omega))
theorem z_va_let (le : Nat → Int32) (n : Nat) (va : Int32) (k : Nat) (h : z_isl (z_rtk le n 0 k).2.1) : z_va le n va k = (z_rtk le n 0 k).2.1 := by
  unfold z_rtk at h ⊢
  unfold z_va
  generalize z_sk le (n - k) k = q at h ⊢
  unfold z_tok at h ⊢
  by_cases hq : n ≤ q
  · rw [if_pos hq] at h
    exact absurd (show z_isl 256 from h) (by decide)
  · rw [if_neg hq] at h ⊢
    rw [if_neg hq]
    by_cases hd : z_dig (le q)
    · rw [if_pos hd] at h
      dsimp only at h
      unfold z_rt at h
      split at h
      · exact absurd h (by decide)
      · split at h
        · exact absurd h (by decide)
        · exact absurd h (by decide)
    · rw [if_neg hd] at h ⊢
      rw [if_neg hd]
theorem z_lt_in {le : Nat → Int32} {n k : Nat} (h : k < n) : z_lt le n k = le k := if_pos h
theorem z_lt_out {le : Nat → Int32} {n k : Nat} (h : n ≤ k) : z_lt le n k = -1 := if_neg (by omega)
/-- the digits of a number -/
theorem r_adv9 (S : ai_S) (V : sv_V) (th : Int32) (tr : Int64) (tk : Int32) (pl : Int32) (fa : Int32) (to : Int32) (um : Int32) (te : Int32) (hd : Int32) (wr : Int32) (a0 : Nat → Int32) (a1 : Nat → Int32) (a2 : Nat → Int32) (a3 : Nat → Int32) (a4 : Nat → Int32) (a5 : Nat → Int32) (a6 : Nat → Int32) (a7 : Nat → Int32) (a8 : Nat → Int32) (a9 : Nat → Int32) (a10 : Nat → Int32) (a11 : Nat → Int32) (a12 : Nat → Int32) (a13 : Nat → Int32) (n : Nat) (hn : n ≤ 120) (x : Int32) : ∀ j k v, k + j = n → ai_res S 92 9 [.ref 62, .int x] [] (HP V ((th, tr, nI n, nI k, tk, pl, v, fa, to, um, te, hd, wr), (a0, a1, a2, a3, a4, a5, a6, a7, a8, a9, a10, a11, a12, a13))) = ai_res S 92 17 [.ref 62, .int x] [] (HP V ((th, tr, nI n, nI (z_vn a0 j k v).1, tk, pl, (z_vn a0 j k v).2, fa, to, um, te, hd, wr), (a0, a1, a2, a3, a4, a5, a6, a7, a8, a9, a10, a11, a12, a13))) := by
  intro j
  induction j with
  | zero =>
    intro k v hk
    have e1 : k = n := by omega
    subst e1
    have hd : ¬ (48 ≤ (-1 : Int32) ∧ (-1 : Int32) ≤ 57) := by decide
    rw [k_92_9]
    simp only [k_92_10, k_92_11, w_l5, gl_0, va_r, va_n, w_get, gd_4, t_18_2, rc_0, io_d, w_c1, t_19_3, rc_1, t_2, z10, z01, z_bT, z_bF, true_or, or_true, false_or, or_false, Option.bind_some, Option.toList_some, Option.toList_none, List.cons_append, List.nil_append, List.length_cons, List.length_nil, Nat.zero_add, Nat.reduceAdd, Nat.reduceLeDiff, and_self, and_true, true_and, if_true, if_false, reduceCtorEq, ne_eq, not_false_eq_true, not_true_eq_false, ↓reduceIte, Nat.reduceEqDiff, Bool.not_not, r_letterAt, hn, Nat.le_refl, z_lt_out, r_in, z_b_f hd]
    rfl
  | succ j ih =>
    intro k v hk
    have hkn : k < n := by omega
    have hkn2 : k ≤ n := by omega
    have e0 : z_vn a0 (j + 1) k v = if z_dg (a0 k) then z_vn a0 j (k + 1) (z_st v (a0 k)) else (k, v) := rfl
    rw [k_92_9, e0]
    by_cases hd : z_dg (a0 k)
    · rw [if_pos hd]
      have h2 := ih (k + 1) (z_st v (a0 k)) (by omega)
      have hd2 : 48 ≤ a0 k ∧ a0 k ≤ 57 := hd
      by_cases hv : v ≤ 99
      · have e1 : z_st v (a0 k) = 10 * v + a0 k - 48 := if_pos hv
        rw [e1] at h2 ⊢
        simp only [k_92_10, k_92_11, k_92_12, k_92_14, k_92_15, k_92_16, w_l5, gl_0, va_r, va_n, w_get, gd_4, t_18_2, rc_0, io_d, w_c1, t_19_3, rc_1, t_2, gd_7, t_13, w_b12, w_b10, w_b11, t_0, w_putI, pd_7, w_dupi, w_dupr, w_c0, pd_4, t_1, z10, z01, z_bT, z_bF, true_or, or_true, false_or, or_false, Option.bind_some, Option.toList_some, Option.toList_none, List.cons_append, List.nil_append, List.length_cons, List.length_nil, Nat.zero_add, Nat.reduceAdd, Nat.reduceLeDiff, and_self, and_true, true_and, if_true, if_false, reduceCtorEq, ne_eq, not_false_eq_true, not_true_eq_false, ↓reduceIte, Nat.reduceEqDiff, Bool.not_not, r_letterAt, hn, hkn2, z_lt_in hkn, r_in, z_b_t hd2, hv, nI_1]
        exact h2
      · have e1 : z_st v (a0 k) = v := if_neg hv
        rw [e1] at h2 ⊢
        simp only [k_92_10, k_92_11, k_92_12, k_92_13, k_92_16, w_l5, gl_0, va_r, va_n, w_get, gd_4, t_18_2, rc_0, io_d, w_c1, t_19_3, rc_1, t_2, gd_7, t_13, t_1, w_putI, pd_7, w_dupi, w_dupr, w_c0, w_b10, pd_4, z10, z01, z_bT, z_bF, true_or, or_true, false_or, or_false, Option.bind_some, Option.toList_some, Option.toList_none, List.cons_append, List.nil_append, List.length_cons, List.length_nil, Nat.zero_add, Nat.reduceAdd, Nat.reduceLeDiff, and_self, and_true, true_and, if_true, if_false, reduceCtorEq, ne_eq, not_false_eq_true, not_true_eq_false, ↓reduceIte, Nat.reduceEqDiff, Bool.not_not, r_letterAt, hn, hkn2, z_lt_in hkn, r_in, z_b_t hd2, hv, nI_1]
        exact h2
    · rw [if_neg hd]
      have hd2 : ¬ (48 ≤ a0 k ∧ a0 k ≤ 57) := hd
      simp only [k_92_10, k_92_11, w_l5, gl_0, va_r, va_n, w_get, gd_4, t_18_2, rc_0, io_d, w_c1, t_19_3, rc_1, t_2, z10, z01, z_bT, z_bF, true_or, or_true, false_or, or_false, Option.bind_some, Option.toList_some, Option.toList_none, List.cons_append, List.nil_append, List.length_cons, List.length_nil, Nat.zero_add, Nat.reduceAdd, Nat.reduceLeDiff, and_self, and_true, true_and, if_true, if_false, reduceCtorEq, ne_eq, not_false_eq_true, not_true_eq_false, ↓reduceIte, Nat.reduceEqDiff, Bool.not_not, r_letterAt, hn, hkn2, z_lt_in hkn, r_in, z_b_f hd2]
/-- blanks -/
theorem r_adv0 (S : ai_S) (V : sv_V) (th : Int32) (tr : Int64) (tk : Int32) (pl : Int32) (va : Int32) (fa : Int32) (to : Int32) (um : Int32) (te : Int32) (hd : Int32) (wr : Int32) (a0 : Nat → Int32) (a1 : Nat → Int32) (a2 : Nat → Int32) (a3 : Nat → Int32) (a4 : Nat → Int32) (a5 : Nat → Int32) (a6 : Nat → Int32) (a7 : Nat → Int32) (a8 : Nat → Int32) (a9 : Nat → Int32) (a10 : Nat → Int32) (a11 : Nat → Int32) (a12 : Nat → Int32) (a13 : Nat → Int32) (n : Nat) (hn : n ≤ 120) (x : Value) : ∀ j k, k + j = n → ai_res S 92 0 [.ref 62, x] [] (HP V ((th, tr, nI n, nI k, tk, pl, va, fa, to, um, te, hd, wr), (a0, a1, a2, a3, a4, a5, a6, a7, a8, a9, a10, a11, a12, a13))) = ai_res S 92 3 [.ref 62, x] [] (HP V ((th, tr, nI n, nI (z_sk a0 j k), tk, pl, va, fa, to, um, te, hd, wr), (a0, a1, a2, a3, a4, a5, a6, a7, a8, a9, a10, a11, a12, a13))) := by
  intro j
  induction j with
  | zero =>
    intro k hk
    have e1 : k = n := by omega
    subst e1
    have hd : ¬ (-1 : Int32) = 32 := by decide
    rw [k_92_0]
    simp only [k_92_1, w_l5, gl_0, va_r, va_n, w_get, gd_4, t_18_2, rc_0, io_d, w_c1, t_9, z10, z01, z_bT, z_bF, true_or, or_true, false_or, or_false, Option.bind_some, Option.toList_some, Option.toList_none, List.cons_append, List.nil_append, List.length_cons, List.length_nil, Nat.zero_add, Nat.reduceAdd, Nat.reduceLeDiff, and_self, and_true, true_and, if_true, if_false, reduceCtorEq, ne_eq, not_false_eq_true, not_true_eq_false, ↓reduceIte, Nat.reduceEqDiff, Bool.not_not, r_letterAt, hn, Nat.le_refl, z_lt_out, hd]
    rfl
  | succ j ih =>
    intro k hk
    have hkn : k < n := by omega
    have hkn2 : k ≤ n := by omega
    have e0 : z_sk a0 (j + 1) k = if a0 k = 32 then z_sk a0 j (k + 1) else k := rfl
    rw [k_92_0, e0]
    by_cases hd : a0 k = 32
    · rw [if_pos hd]
      have h2 := ih (k + 1) (by omega)
      simp only [k_92_1, k_92_2, w_l5, gl_0, va_r, va_n, w_get, gd_4, t_18_2, rc_0, io_d, w_c1, t_9, w_dupi, w_dupr, w_c0, w_b10, w_putI, pd_4, t_1, z10, z01, z_bT, z_bF, true_or, or_true, false_or, or_false, Option.bind_some, Option.toList_some, Option.toList_none, List.cons_append, List.nil_append, List.length_cons, List.length_nil, Nat.zero_add, Nat.reduceAdd, Nat.reduceLeDiff, and_self, and_true, true_and, if_true, if_false, reduceCtorEq, ne_eq, not_false_eq_true, not_true_eq_false, ↓reduceIte, Nat.reduceEqDiff, Bool.not_not, r_letterAt, hn, hkn2, z_lt_in hkn, eq_true hd, nI_1]
      exact h2
    · rw [if_neg hd]
      simp only [k_92_1, w_l5, gl_0, va_r, va_n, w_get, gd_4, t_18_2, rc_0, io_d, w_c1, t_9, z10, z01, z_bT, z_bF, true_or, or_true, false_or, or_false, Option.bind_some, Option.toList_some, Option.toList_none, List.cons_append, List.nil_append, List.length_cons, List.length_nil, Nat.zero_add, Nat.reduceAdd, Nat.reduceLeDiff, and_self, and_true, true_and, if_true, if_false, reduceCtorEq, ne_eq, not_false_eq_true, not_true_eq_false, ↓reduceIte, Nat.reduceEqDiff, Bool.not_not, r_letterAt, hn, hkn2, z_lt_in hkn, hd]
theorem r_advances (S : ai_S) (V : sv_V) (th : Int32) (tr : Int64) (tk : Int32) (pl : Int32) (va : Int32) (fa : Int32) (to : Int32) (um : Int32) (te : Int32) (hd : Int32) (wr : Int32) (a0 : Nat → Int32) (a1 : Nat → Int32) (a2 : Nat → Int32) (a3 : Nat → Int32) (a4 : Nat → Int32) (a5 : Nat → Int32) (a6 : Nat → Int32) (a7 : Nat → Int32) (a8 : Nat → Int32) (a9 : Nat → Int32) (a10 : Nat → Int32) (a11 : Nat → Int32) (a12 : Nat → Int32) (a13 : Nat → Int32) (n k : Nat) (hn : n ≤ 120) (hk : k ≤ n) (hle : z_ok a0 n) : ai_call S 92 [.ref 62] (HP V ((th, tr, nI n, nI k, tk, pl, va, fa, to, um, te, hd, wr), (a0, a1, a2, a3, a4, a5, a6, a7, a8, a9, a10, a11, a12, a13))) = some (none, HP V ((th, tr, nI n, nI (z_rtk a0 n 0 k).1, z_code (z_rtk a0 n 0 k).2.1, nI (z_rtk a0 n 0 k).2.2.1, z_va a0 n va k, fa, to, um, te, hd, wr), (a0, a1, a2, a3, a4, a5, a6, a7, a8, a9, a10, a11, a12, a13))) := by
  rw [e_92]
  have h0 := r_adv0 S V th tr tk pl va fa to um te hd wr a0 a1 a2 a3 a4 a5 a6 a7 a8 a9 a10 a11 a12 a13 n hn ai_u (n - k) k (by omega)
  rw [show ai_res S 92 0 [.ref 62, ai_u] [] (HP V ((th, tr, nI n, nI k, tk, pl, va, fa, to, um, te, hd, wr), (a0, a1, a2, a3, a4, a5, a6, a7, a8, a9, a10, a11, a12, a13))) = _ from h0]
  have hq1 := z_sk_ge a0 (n - k) k
  have hq2 := z_sk_le a0 (n - k) k
  unfold z_rtk z_va
  generalize z_sk a0 (n - k) k = q at hq1 hq2 ⊢
  have hqn : q ≤ n := by omega
  unfold z_tok
  by_cases hq : n ≤ q
  · rw [if_pos hq, if_pos hq]
    have hc : ¬ 0 ≤ (-1 : Int32) := by decide
    have e1 : z_code 256 = 0 := by decide
    simp only [k_92_3, k_92_4, k_92_5, k_92_30, w_l5, gl_0, va_r, va_n, w_get, gd_4, w_putI, pd_6, t_18_2, rc_0, io_d, w_s6, sl_1, ll_1, w_l3, gl_1, vi_i, t_5, w_c0, pd_5, t_1, t_27, z10, z01, z_bT, z_bF, true_or, or_true, false_or, or_false, Option.bind_some, Option.toList_some, Option.toList_none, List.cons_append, List.nil_append, List.length_cons, List.length_nil, Nat.zero_add, Nat.reduceAdd, Nat.reduceLeDiff, and_self, and_true, true_and, if_true, if_false, reduceCtorEq, ne_eq, not_false_eq_true, not_true_eq_false, ↓reduceIte, Nat.reduceEqDiff, Bool.not_not, r_letterAt, hn, hqn, z_lt_out hq, hc, e1]
  · rw [if_neg hq, if_neg hq]
    have hql : q < n := by omega
    obtain ⟨l0, l1⟩ := hle q hql
    by_cases hdg : z_dig (a0 q)
    · rw [if_pos hdg, if_pos hdg]
      have hd2 : 48 ≤ a0 q ∧ a0 q ≤ 57 := (z_dg_dig _).mpr hdg
      have h9 := r_adv9 S V th tr tk (nI q) fa to um te hd wr a0 a1 a2 a3 a4 a5 a6 a7 a8 a9 a10 a11 a12 a13 n hn (a0 q) (n - q) q 0 (by omega)
      obtain ⟨f1, y, fy, f2, f3⟩ := z_vn_rn a0 (n - q) q 0 (by omega)
      have f1' : (z_vn a0 (n - q) q 0).1 = (z_rn a0 (n - q) q 0).1 := f1
      have f2' : (z_vn a0 (n - q) q 0).2 = nI y := f2
      have f3' : (z_rn a0 (n - q) q 0).2 = nI (min 100 y) := f3
      simp only [k_92_3, k_92_4, k_92_6, k_92_7, k_92_8, w_l5, gl_0, va_r, va_n, w_get, gd_4, w_putI, pd_6, t_18_2, rc_0, io_d, w_s6, sl_1, ll_1, w_l3, gl_1, vi_i, t_5, w_c1, t_19_3, rc_1, t_2, w_c0, pd_7, t_0, z10, z01, z_bT, z_bF, true_or, or_true, false_or, or_false, Option.bind_some, Option.toList_some, Option.toList_none, List.cons_append, List.nil_append, List.length_cons, List.length_nil, Nat.zero_add, Nat.reduceAdd, Nat.reduceLeDiff, and_self, and_true, true_and, if_true, if_false, reduceCtorEq, ne_eq, not_false_eq_true, not_true_eq_false, ↓reduceIte, Nat.reduceEqDiff, Bool.not_not, r_letterAt, hn, hqn, z_lt_in hql, l0, r_in, z_b_t hd2]
      rw [h9]
      rw [f1', f2']
      unfold z_rt
      rw [f3']
      generalize (z_rn a0 (n - q) q 0).1 = e
      have hy : 99 < nI (min 100 y) ↔ 99 < nI y := by
        rw [show (99 : Int32) = nI 99 from rfl, nI_ltI (by omega) (by omega), nI_ltI (by omega) (by omega)]
        omega
      have c4 : z_code 258 = 4 := by decide
      have c2 : z_code 257 = 2 := by decide
      by_cases h99 : 99 < nI y
      · rw [if_pos (hy.mpr h99), c4]
        simp only [k_92_17, k_92_20, k_92_22, k_92_30, w_l5, gl_0, va_r, va_n, w_get, gd_7, w_c1, t_12, w_c0, t_1, w_putI, pd_5, t_27, z10, z01, z_bT, z_bF, true_or, or_true, false_or, or_false, Option.bind_some, Option.toList_some, Option.toList_none, List.cons_append, List.nil_append, List.length_cons, List.length_nil, Nat.zero_add, Nat.reduceAdd, Nat.reduceLeDiff, and_self, and_true, true_and, if_true, if_false, reduceCtorEq, ne_eq, not_false_eq_true, not_true_eq_false, ↓reduceIte, Nat.reduceEqDiff, Bool.not_not, h99]
      · rw [if_neg (fun z => h99 (hy.mp z))]
        by_cases h48 : a0 q = 48
        · by_cases h1 : 1 < nI e - nI q
          · have h1' := Int32.not_le.mpr h1
            rw [if_pos ⟨h48, h1⟩, c4]
            simp only [k_92_17, k_92_18, k_92_19, k_92_20, k_92_22, k_92_30, w_l5, gl_0, va_r, va_n, w_get, gd_7, w_c1, t_12, w_l3, gl_1, vi_i, t_9, gd_4, gd_6, w_b11, w_c0, t_13, t_1, w_putI, pd_5, t_27, z10, z01, z_bT, z_bF, true_or, or_true, false_or, or_false, Option.bind_some, Option.toList_some, Option.toList_none, List.cons_append, List.nil_append, List.length_cons, List.length_nil, Nat.zero_add, Nat.reduceAdd, Nat.reduceLeDiff, and_self, and_true, true_and, if_true, if_false, reduceCtorEq, ne_eq, not_false_eq_true, not_true_eq_false, ↓reduceIte, Nat.reduceEqDiff, Bool.not_not, h99, eq_true h48, h1']
          · have h1' := Int32.not_lt.mp h1
            rw [if_neg (fun z => h1 z.2), c2]
            simp only [k_92_17, k_92_18, k_92_19, k_92_21, k_92_22, k_92_30, w_l5, gl_0, va_r, va_n, w_get, gd_7, w_c1, t_12, w_l3, gl_1, vi_i, t_9, gd_4, gd_6, w_b11, w_c0, t_13, t_0, w_putI, pd_5, t_1, t_27, z10, z01, z_bT, z_bF, true_or, or_true, false_or, or_false, Option.bind_some, Option.toList_some, Option.toList_none, List.cons_append, List.nil_append, List.length_cons, List.length_nil, Nat.zero_add, Nat.reduceAdd, Nat.reduceLeDiff, and_self, and_true, true_and, if_true, if_false, reduceCtorEq, ne_eq, not_false_eq_true, not_true_eq_false, ↓reduceIte, Nat.reduceEqDiff, Bool.not_not, h99, eq_true h48, h1']
        · rw [if_neg (fun z => h48 z.1), c2]
          simp only [k_92_17, k_92_18, k_92_21, k_92_22, k_92_30, w_l5, gl_0, va_r, va_n, w_get, gd_7, w_c1, t_12, w_l3, gl_1, vi_i, t_9, w_c0, t_0, w_putI, pd_5, t_1, t_27, z10, z01, z_bT, z_bF, true_or, or_true, false_or, or_false, Option.bind_some, Option.toList_some, Option.toList_none, List.cons_append, List.nil_append, List.length_cons, List.length_nil, Nat.zero_add, Nat.reduceAdd, Nat.reduceLeDiff, and_self, and_true, true_and, if_true, if_false, reduceCtorEq, ne_eq, not_false_eq_true, not_true_eq_false, ↓reduceIte, Nat.reduceEqDiff, Bool.not_not, h99, h48]
    · rw [if_neg hdg, if_neg hdg]
      have hd2 : ¬ (48 ≤ a0 q ∧ a0 q ≤ 57) := fun z => hdg ((z_dg_dig _).mp z)
      have q256 : ¬ a0 q = 256 := fun z => by rw [z] at l1; exact absurd l1 (by decide)
      have q257 : ¬ a0 q = 257 := fun z => by rw [z] at l1; exact absurd l1 (by decide)
      have q258 : ¬ a0 q = 258 := fun z => by rw [z] at l1; exact absurd l1 (by decide)
      have ec : z_code (a0 q) = if a0 q = 59 then 3 else if z_isl (a0 q) then 1 else 4 := by
        unfold z_code
        rw [if_neg q256, if_neg q257, if_neg q258]
      dsimp only
      rw [ec]
      by_cases h59 : a0 q = 59
      · rw [if_pos h59]
        simp only [k_92_3, k_92_4, k_92_6, k_92_7, k_92_23, k_92_24, k_92_29, k_92_30, w_l5, gl_0, va_r, va_n, w_get, gd_4, w_putI, pd_6, t_18_2, rc_0, io_d, w_s6, sl_1, ll_1, w_l3, gl_1, vi_i, t_5, w_c1, t_19_3, rc_1, t_2, w_dupi, w_dupr, w_c0, w_b10, pd_4, pd_7, t_9, t_1, pd_5, t_0, t_27, z10, z01, z_bT, z_bF, true_or, or_true, false_or, or_false, Option.bind_some, Option.toList_some, Option.toList_none, List.cons_append, List.nil_append, List.length_cons, List.length_nil, Nat.zero_add, Nat.reduceAdd, Nat.reduceLeDiff, and_self, and_true, true_and, if_true, if_false, reduceCtorEq, ne_eq, not_false_eq_true, not_true_eq_false, ↓reduceIte, Nat.reduceEqDiff, Bool.not_not, r_letterAt, hn, hqn, z_lt_in hql, l0, r_in, z_b_f hd2, nI_1, eq_true h59]
      · rw [if_neg h59]
        by_cases hl : z_isl (a0 q)
        · rw [if_pos hl]
          have hl2 : a0 q = 99 ∨ a0 q = 103 ∨ a0 q = 118 ∨ a0 q = 115 := hl
          simp only [k_92_3, k_92_4, k_92_6, k_92_7, k_92_23, k_92_25, k_92_26, k_92_27, k_92_29, k_92_30, w_l5, gl_0, va_r, va_n, w_get, gd_4, w_putI, pd_6, t_18_2, rc_0, io_d, w_s6, sl_1, ll_1, w_l3, gl_1, vi_i, t_5, w_c1, t_19_3, rc_1, t_2, w_dupi, w_dupr, w_c0, w_b10, pd_4, pd_7, t_9, t_19_1, t_1, pd_5, t_0, t_27, z10, z01, z_bT, z_bF, true_or, or_true, false_or, or_false, Option.bind_some, Option.toList_some, Option.toList_none, List.cons_append, List.nil_append, List.length_cons, List.length_nil, Nat.zero_add, Nat.reduceAdd, Nat.reduceLeDiff, and_self, and_true, true_and, if_true, if_false, reduceCtorEq, ne_eq, not_false_eq_true, not_true_eq_false, ↓reduceIte, Nat.reduceEqDiff, Bool.not_not, r_letterAt, hn, hqn, z_lt_in hql, l0, r_in, z_b_f hd2, nI_1, h59, r_isLetter, z_b_t hl2]
        · rw [if_neg hl]
          have hl2 : ¬ (a0 q = 99 ∨ a0 q = 103 ∨ a0 q = 118 ∨ a0 q = 115) := hl
          simp only [k_92_3, k_92_4, k_92_6, k_92_7, k_92_23, k_92_25, k_92_26, k_92_28, k_92_29, k_92_30, w_l5, gl_0, va_r, va_n, w_get, gd_4, w_putI, pd_6, t_18_2, rc_0, io_d, w_s6, sl_1, ll_1, w_l3, gl_1, vi_i, t_5, w_c1, t_19_3, rc_1, t_2, w_dupi, w_dupr, w_c0, w_b10, pd_4, pd_7, t_9, t_19_1, t_0, pd_5, t_27, z10, z01, z_bT, z_bF, true_or, or_true, false_or, or_false, Option.bind_some, Option.toList_some, Option.toList_none, List.cons_append, List.nil_append, List.length_cons, List.length_nil, Nat.zero_add, Nat.reduceAdd, Nat.reduceLeDiff, and_self, and_true, true_and, if_true, if_false, reduceCtorEq, ne_eq, not_false_eq_true, not_true_eq_false, ↓reduceIte, Nat.reduceEqDiff, Bool.not_not, r_letterAt, hn, hqn, z_lt_in hql, l0, r_in, z_b_f hd2, nI_1, h59, r_isLetter, z_b_f hl2]
