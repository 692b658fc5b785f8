/-! the class: tryPlain, bringsJust, tune, yieldingVelvets, soft, ask -/
def z_try (pr ha : Nat → Int32) (c : Nat) (gr ve : Int32) : Nat → Int32 → Int32 → Int32 → Int32
  | 0, _, _, r => r
  | j + 1, b, w, r => if ha c ≤ w + ve ∧ pr c ≤ b + gr then z_try pr ha c gr ve j 0 0 (r ||| 1) else if pr c + 10 < b + gr then r ||| 2 else z_try pr ha c gr ve j (b + gr) (w + ve) r
abbrev z_tp (pr ha : Nat → Int32) (c K : Nat) (gr ve : Int32) : Int32 := z_try pr ha c gr ve K 0 0 0
/-- what comes first of the shakes s, s + 1 .. (j of them) -/
def zt_f (pr ha : Nat → Int32) (c : Nat) (gr ve : Int32) : Nat → Nat → Int32
  | 0, _ => 0
  | j + 1, s => if ha c ≤ nI s * ve ∧ pr c ≤ nI s * gr then 1 else if pr c + 10 < nI s * gr then 2 else zt_f pr ha c gr ve j (s + 1)
theorem zt_ms (s : Nat) (g : Int32) : nI s * g + g = nI (s + 1) * g := by
  rw [← nI_1, Int32.add_mul, Int32.one_mul]
theorem zt_m0 (g : Int32) : nI 0 * g = 0 := by
  rw [nI_0, Int32.zero_mul]
/-- behind the first yield only yields come -/
theorem zt_y (pr ha : Nat → Int32) (c : Nat) (gr ve : Int32) (s : Nat) (hs : 0 < s) (hy : ha c ≤ nI s * ve ∧ pr c ≤ nI s * gr) (hn : ∀ u, 0 < u → u < s → ¬ (ha c ≤ nI u * ve ∧ pr c ≤ nI u * gr) ∧ ¬ pr c + 10 < nI u * gr) : ∀ j u, u < s → z_try pr ha c gr ve j (nI u * gr) (nI u * ve) 1 = 1
  | 0, _, _ => rfl
  | j + 1, u, hu => by
    have ih := zt_y pr ha c gr ve s hs hy hn j
    rw [z_try, zt_ms, zt_ms]
    by_cases e : u + 1 = s
    · rw [e, if_pos hy]
      have h0 := ih 0 hs
      rw [zt_m0, zt_m0] at h0
      exact h0
    · have h1 := hn (u + 1) (by omega) (by omega)
      rw [if_neg h1.1, if_neg h1.2]
      exact ih (u + 1) (by omega)
theorem zt_ftry (pr ha : Nat → Int32) (c : Nat) (gr ve : Int32) : ∀ j u, (∀ v, 0 < v → v ≤ u → ¬ (ha c ≤ nI v * ve ∧ pr c ≤ nI v * gr) ∧ ¬ pr c + 10 < nI v * gr) → zt_f pr ha c gr ve j (u + 1) = z_try pr ha c gr ve j (nI u * gr) (nI u * ve) 0
  | 0, _, _ => rfl
  | j + 1, u, hn => by
    rw [zt_f, z_try, zt_ms, zt_ms]
    by_cases hy : ha c ≤ nI (u + 1) * ve ∧ pr c ≤ nI (u + 1) * gr
    · rw [if_pos hy, if_pos hy]
      have h0 := zt_y pr ha c gr ve (u + 1) (by omega) hy (fun v h1 h2 => hn v h1 (by omega)) j 0 (by omega)
      rw [zt_m0, zt_m0] at h0
      exact h0.symm
    · rw [if_neg hy, if_neg hy]
      by_cases hl : pr c + 10 < nI (u + 1) * gr
      · rw [if_pos hl, if_pos hl]
        rfl
      · rw [if_neg hl, if_neg hl]
        refine zt_ftry pr ha c gr ve j (u + 1) (fun v h1 h2 => ?_)
        by_cases e : v = u + 1
        · subst e
          exact ⟨hy, hl⟩
        · exact hn v h1 (by omega)
theorem zt_tp (pr ha : Nat → Int32) (c K : Nat) (gr ve : Int32) : zt_f pr ha c gr ve K 1 = z_tp pr ha c K gr ve := by
  have h := zt_ftry pr ha c gr ve K 0 (fun v h1 h2 => absurd h1 (by omega))
  rw [zt_m0, zt_m0] at h
  exact h
theorem zt_of (pr ha : Nat → Int32) (c : Nat) (gr ve : Int32) : ∀ j s, zt_f pr ha c gr ve j s = 0 ∨ zt_f pr ha c gr ve j s = 1 ∨ zt_f pr ha c gr ve j s = 2
  | 0, _ => Or.inl rfl
  | j + 1, s => by
    rw [zt_f]
    by_cases hy : ha c ≤ nI s * ve ∧ pr c ≤ nI s * gr
    · rw [if_pos hy]
      exact Or.inr (Or.inl rfl)
    · rw [if_neg hy]
      by_cases hl : pr c + 10 < nI s * gr
      · rw [if_pos hl]
        exact Or.inr (Or.inr rfl)
      · rw [if_neg hl]
        exact zt_of pr ha c gr ve j (s + 1)
theorem zt_1 (pr ha : Nat → Int32) (c K : Nat) (gr ve : Int32) : z_tp pr ha c K gr ve &&& 1 = 0 ↔ ¬ z_tp pr ha c K gr ve = 1 := by
  rw [← zt_tp]
  rcases zt_of pr ha c gr ve K 1 with h | h | h <;> rw [h] <;> decide
theorem x_tryPlain (S : ai_S) (gr : Int32) (vl : Int32) (sg : Int32) (cs : Int32) (pr : Nat → Int32) (ha : Nat → Int32) (la : Nat → Int32) (wa : Nat → Int32) (p : sv_G) (sw : Bool) (t : sv_T) (m : sv_M) (pa : sv_P) (im : Nat → sv_M) (kp : Int32) (he : sv_H) (wl : Nat → Int32) (fe : Nat → Int32) (as : Int64) (D : sv_D) (c K : Nat) (hc : c < 6) (hK : K < 10) (g1 v1 : Int32) : ai_call S 59 [.ref 1, .int (nI c), .int (nI K), .int g1, .int v1] (HP ((gr, vl, sg, cs, pr, ha, la, wa), p, sw, t, m, pa, im, kp, he, wl, fe, as) D) = some (some (.int (z_tp pr ha c K g1 v1)), HP ((gr, vl, sg, cs, pr, ha, la, wa), p, sw, t, m, pa, im, kp, he, wl, fe, as) D) := by
  rw [e_59, ← zt_tp]
  have key : ∀ j i, i + j = K + 1 → ai_res S 59 1 [.ref 1, .int (nI c), .int (nI K), .int g1, .int v1, .int (nI i)] [] (HP ((gr, vl, sg, cs, pr, ha, la, wa), p, sw, t, m, pa, im, kp, he, wl, fe, as) D) = some (some (.int (zt_f pr ha c g1 v1 j i)), HP ((gr, vl, sg, cs, pr, ha, la, wa), p, sw, t, m, pa, im, kp, he, wl, fe, as) D) := by
    intro j
    induction j with
    | zero =>
      intro i hi
      have hge : nI K < nI i := nI_lt (by omega) (by omega)
      rw [k_59_1]
      simp only [k_59_0, k_59_2, k_59_3, k_59_4, k_59_5, k_59_6, k_59_7, k_59_8, k_59_9, w_c0, w_s7, sl_5, ll_5, t_0, w_l4, gl_5, vi_i, w_l3, gl_2, t_12, w_l5, gl_0, va_r, va_n, gl_1, gl_3, w_b12, gl_4, t_18_4, rc_0, io_x, t_2, t_23, t_18_3, w_inc, t_1, z10, z01, z_bT, z_bF, true_or, or_true, false_or, or_false, Option.bind_some, Option.toList_some, Option.toList_none, List.cons_append, List.nil_append, List.length_cons, List.length_nil, Nat.zero_add, Nat.reduceAdd, Nat.reduceLeDiff, and_self, and_true, true_and, if_true, if_false, reduceCtorEq, ne_eq, not_false_eq_true, not_true_eq_false, ↓reduceIte, Nat.reduceEqDiff, Bool.not_not, hge]
      rfl
    | succ j ih =>
      intro i hi
      have hlt : ¬ nI K < nI i := nI_nlt (by omega) (by omega)
      rw [k_59_1, zt_f]
      by_cases hy : ha c ≤ nI i * v1 ∧ pr c ≤ nI i * g1
      · rw [if_pos hy]
        simp only [k_59_0, k_59_2, k_59_3, k_59_4, k_59_5, k_59_6, k_59_7, k_59_8, k_59_9, w_c0, w_s7, sl_5, ll_5, t_0, w_l4, gl_5, vi_i, w_l3, gl_2, t_12, w_l5, gl_0, va_r, va_n, gl_1, gl_3, w_b12, gl_4, t_18_4, rc_0, io_x, t_2, t_23, t_18_3, w_inc, t_1, z10, z01, z_bT, z_bF, true_or, or_true, false_or, or_false, Option.bind_some, Option.toList_some, Option.toList_none, List.cons_append, List.nil_append, List.length_cons, List.length_nil, Nat.zero_add, Nat.reduceAdd, Nat.reduceLeDiff, and_self, and_true, true_and, if_true, if_false, reduceCtorEq, ne_eq, not_false_eq_true, not_true_eq_false, ↓reduceIte, Nat.reduceEqDiff, Bool.not_not, hlt, x_wouldYield, hc, z_b_t hy, nI_1]
      · rw [if_neg hy]
        by_cases hl : pr c + 10 < nI i * g1
        · rw [if_pos hl]
          simp only [k_59_0, k_59_2, k_59_3, k_59_4, k_59_5, k_59_6, k_59_7, k_59_8, k_59_9, w_c0, w_s7, sl_5, ll_5, t_0, w_l4, gl_5, vi_i, w_l3, gl_2, t_12, w_l5, gl_0, va_r, va_n, gl_1, gl_3, w_b12, gl_4, t_18_4, rc_0, io_x, t_2, t_23, t_18_3, w_inc, t_1, z10, z01, z_bT, z_bF, true_or, or_true, false_or, or_false, Option.bind_some, Option.toList_some, Option.toList_none, List.cons_append, List.nil_append, List.length_cons, List.length_nil, Nat.zero_add, Nat.reduceAdd, Nat.reduceLeDiff, and_self, and_true, true_and, if_true, if_false, reduceCtorEq, ne_eq, not_false_eq_true, not_true_eq_false, ↓reduceIte, Nat.reduceEqDiff, Bool.not_not, hlt, x_wouldYield, x_wouldLeave, hc, z_b_f hy, z_b_t hl, nI_1]
        · rw [if_neg hl]
          simp only [k_59_0, k_59_2, k_59_3, k_59_4, k_59_5, k_59_6, k_59_7, k_59_8, k_59_9, w_c0, w_s7, sl_5, ll_5, t_0, w_l4, gl_5, vi_i, w_l3, gl_2, t_12, w_l5, gl_0, va_r, va_n, gl_1, gl_3, w_b12, gl_4, t_18_4, rc_0, io_x, t_2, t_23, t_18_3, w_inc, t_1, z10, z01, z_bT, z_bF, true_or, or_true, false_or, or_false, Option.bind_some, Option.toList_some, Option.toList_none, List.cons_append, List.nil_append, List.length_cons, List.length_nil, Nat.zero_add, Nat.reduceAdd, Nat.reduceLeDiff, and_self, and_true, true_and, if_true, if_false, reduceCtorEq, ne_eq, not_false_eq_true, not_true_eq_false, ↓reduceIte, Nat.reduceEqDiff, Bool.not_not, hlt, x_wouldYield, x_wouldLeave, hc, z_b_f hy, z_b_f hl, nI_1]
          exact ih (i + 1) (by omega)
  have k0 := key K 1 (by omega)
  simp only [k_59_0, w_c0, w_s7, sl_5, ll_5, t_0, z10, z01, z_bT, z_bF, true_or, or_true, false_or, or_false, Option.bind_some, Option.toList_some, Option.toList_none, List.cons_append, List.nil_append, List.length_cons, List.length_nil, Nat.zero_add, Nat.reduceAdd, Nat.reduceLeDiff, and_self, and_true, true_and, if_true, if_false, reduceCtorEq, ne_eq, not_false_eq_true, not_true_eq_false, ↓reduceIte, Nat.reduceEqDiff, Bool.not_not]
  exact k0
/-- from caller c on, j more of them: all come out as the set says -/
def z_bj (pr ha : Nat → Int32) (set : Int32) (K : Nat) (gr ve : Int32) : Nat → Nat → Int32
  | 0, _ => 1
  | j + 1, c => if z_tp pr ha c K gr ve = z_b (z_bit set c) then z_bj pr ha set K gr ve j (c + 1) else 0
theorem x_bringsJust (S : ai_S) (gr : Int32) (vl : Int32) (sg : Int32) (pr : Nat → Int32) (ha : Nat → Int32) (la : Nat → Int32) (wa : Nat → Int32) (p : sv_G) (sw : Bool) (t : sv_T) (m : sv_M) (pa : sv_P) (im : Nat → sv_M) (kp : Int32) (he : sv_H) (wl : Nat → Int32) (fe : Nat → Int32) (as : Int64) (D : sv_D) (n K : Nat) (hn : n ≤ 6) (hK : K < 10) (set g1 v1 : Int32) : ai_call S 58 [.ref 1, .int set, .int (nI K), .int g1, .int v1] (HP ((gr, vl, sg, nI n, pr, ha, la, wa), p, sw, t, m, pa, im, kp, he, wl, fe, as) D) = some (some (.int (z_bj pr ha set K g1 v1 n 0)), HP ((gr, vl, sg, nI n, pr, ha, la, wa), p, sw, t, m, pa, im, kp, he, wl, fe, as) D) := by
  rw [e_58]
  have key : ∀ j c (x : Value), c + j = n → ai_res S 58 1 [.ref 1, .int set, .int (nI K), .int g1, .int v1, .int (nI c), x] [] (HP ((gr, vl, sg, nI n, pr, ha, la, wa), p, sw, t, m, pa, im, kp, he, wl, fe, as) D) = some (some (.int (z_bj pr ha set K g1 v1 j c)), HP ((gr, vl, sg, nI n, pr, ha, la, wa), p, sw, t, m, pa, im, kp, he, wl, fe, as) D) := by
    intro j
    induction j with
    | zero =>
      intro c x hc
      have e1 : c = n := by omega
      subst e1
      have hge : nI c ≤ nI c := Int32.le_refl _
      rw [k_58_1]
      simp only [k_58_0, k_58_2, k_58_3, k_58_4, k_58_5, k_58_6, k_58_7, k_58_8, k_58_9, k_58_10, w_c0, w_s7, sl_5, ll_5, t_0, w_l4, gl_5, vi_i, w_l5, gl_0, va_r, va_n, w_get, gf_x0, gf_g3, gf_p3, t_11, w_l3, gl_1, t_19_2, rc_1, t_2, t_1, sl_6, ll_6, gl_2, gl_3, gl_4, t_18_5, rc_0, io_x, gl_6, t_8, t_24_0, t_24_1, w_inc, z10, z01, z_bT, z_bF, true_or, or_true, false_or, or_false, Option.bind_some, Option.toList_some, Option.toList_none, List.cons_append, List.nil_append, List.length_cons, List.length_nil, Nat.zero_add, Nat.reduceAdd, Nat.reduceLeDiff, and_self, and_true, true_and, if_true, if_false, reduceCtorEq, ne_eq, not_false_eq_true, not_true_eq_false, ↓reduceIte, Nat.reduceEqDiff, Bool.not_not, hge]
      rfl
    | succ j ih =>
      intro c x hc
      have hlt : ¬ nI n ≤ nI c := nI_ge (by omega) (by omega)
      have hc6 : c < 6 := by omega
      rw [k_58_1, z_bj]
      by_cases hb : z_bit set c
      · by_cases he : z_tp pr ha c K g1 v1 = 1
        · rw [if_pos (by rw [z_b_t hb]; exact he)]
          simp only [k_58_0, k_58_2, k_58_3, k_58_4, k_58_5, k_58_6, k_58_7, k_58_8, k_58_9, k_58_10, w_c0, w_s7, sl_5, ll_5, t_0, w_l4, gl_5, vi_i, w_l5, gl_0, va_r, va_n, w_get, gf_x0, gf_g3, gf_p3, t_11, w_l3, gl_1, t_19_2, rc_1, t_2, t_1, sl_6, ll_6, gl_2, gl_3, gl_4, t_18_5, rc_0, io_x, gl_6, t_8, t_24_0, t_24_1, w_inc, z10, z01, z_bT, z_bF, true_or, or_true, false_or, or_false, Option.bind_some, Option.toList_some, Option.toList_none, List.cons_append, List.nil_append, List.length_cons, List.length_nil, Nat.zero_add, Nat.reduceAdd, Nat.reduceLeDiff, and_self, and_true, true_and, if_true, if_false, reduceCtorEq, ne_eq, not_false_eq_true, not_true_eq_false, ↓reduceIte, Nat.reduceEqDiff, Bool.not_not, hlt, x_isIn, z_b_t hb, x_tryPlain, hc6, hK, he, nI_1]
          exact ih (c + 1) _ (by omega)
        · rw [if_neg (by rw [z_b_t hb]; exact he)]
          simp only [k_58_0, k_58_2, k_58_3, k_58_4, k_58_5, k_58_6, k_58_7, k_58_8, k_58_9, k_58_10, w_c0, w_s7, sl_5, ll_5, t_0, w_l4, gl_5, vi_i, w_l5, gl_0, va_r, va_n, w_get, gf_x0, gf_g3, gf_p3, t_11, w_l3, gl_1, t_19_2, rc_1, t_2, t_1, sl_6, ll_6, gl_2, gl_3, gl_4, t_18_5, rc_0, io_x, gl_6, t_8, t_24_0, t_24_1, w_inc, z10, z01, z_bT, z_bF, true_or, or_true, false_or, or_false, Option.bind_some, Option.toList_some, Option.toList_none, List.cons_append, List.nil_append, List.length_cons, List.length_nil, Nat.zero_add, Nat.reduceAdd, Nat.reduceLeDiff, and_self, and_true, true_and, if_true, if_false, reduceCtorEq, ne_eq, not_false_eq_true, not_true_eq_false, ↓reduceIte, Nat.reduceEqDiff, Bool.not_not, hlt, x_isIn, z_b_t hb, x_tryPlain, hc6, hK, he, nI_1]
      · by_cases he : z_tp pr ha c K g1 v1 = 0
        · rw [if_pos (by rw [z_b_f hb]; exact he)]
          simp only [k_58_0, k_58_2, k_58_3, k_58_4, k_58_5, k_58_6, k_58_7, k_58_8, k_58_9, k_58_10, w_c0, w_s7, sl_5, ll_5, t_0, w_l4, gl_5, vi_i, w_l5, gl_0, va_r, va_n, w_get, gf_x0, gf_g3, gf_p3, t_11, w_l3, gl_1, t_19_2, rc_1, t_2, t_1, sl_6, ll_6, gl_2, gl_3, gl_4, t_18_5, rc_0, io_x, gl_6, t_8, t_24_0, t_24_1, w_inc, z10, z01, z_bT, z_bF, true_or, or_true, false_or, or_false, Option.bind_some, Option.toList_some, Option.toList_none, List.cons_append, List.nil_append, List.length_cons, List.length_nil, Nat.zero_add, Nat.reduceAdd, Nat.reduceLeDiff, and_self, and_true, true_and, if_true, if_false, reduceCtorEq, ne_eq, not_false_eq_true, not_true_eq_false, ↓reduceIte, Nat.reduceEqDiff, Bool.not_not, hlt, x_isIn, z_b_f hb, x_tryPlain, hc6, hK, he, nI_1]
          exact ih (c + 1) _ (by omega)
        · rw [if_neg (by rw [z_b_f hb]; exact he)]
          simp only [k_58_0, k_58_2, k_58_3, k_58_4, k_58_5, k_58_6, k_58_7, k_58_8, k_58_9, k_58_10, w_c0, w_s7, sl_5, ll_5, t_0, w_l4, gl_5, vi_i, w_l5, gl_0, va_r, va_n, w_get, gf_x0, gf_g3, gf_p3, t_11, w_l3, gl_1, t_19_2, rc_1, t_2, t_1, sl_6, ll_6, gl_2, gl_3, gl_4, t_18_5, rc_0, io_x, gl_6, t_8, t_24_0, t_24_1, w_inc, z10, z01, z_bT, z_bF, true_or, or_true, false_or, or_false, Option.bind_some, Option.toList_some, Option.toList_none, List.cons_append, List.nil_append, List.length_cons, List.length_nil, Nat.zero_add, Nat.reduceAdd, Nat.reduceLeDiff, and_self, and_true, true_and, if_true, if_false, reduceCtorEq, ne_eq, not_false_eq_true, not_true_eq_false, ↓reduceIte, Nat.reduceEqDiff, Bool.not_not, hlt, x_isIn, z_b_f hb, x_tryPlain, hc6, hK, he, nI_1]
  have k0 := key n 0 ai_u (by omega)
  simp only [k_58_0, w_c0, w_s7, sl_5, ll_5, t_0, z10, z01, z_bT, z_bF, true_or, or_true, false_or, or_false, Option.bind_some, Option.toList_some, Option.toList_none, List.cons_append, List.nil_append, List.length_cons, List.length_nil, Nat.zero_add, Nat.reduceAdd, Nat.reduceLeDiff, and_self, and_true, true_and, if_true, if_false, reduceCtorEq, ne_eq, not_false_eq_true, not_true_eq_false, ↓reduceIte, Nat.reduceEqDiff, Bool.not_not]
  exact k0
/-- the first of j numbers from b on that P holds of, else -9 -/
def z_tu (P : Nat → Prop) [DecidablePred P] : Nat → Nat → Int32
  | 0, _ => -9
  | j + 1, b => if P b then nI b else z_tu P j (b + 1)
abbrev z_tq (pr ha : Nat → Int32) (set : Int32) (K n b : Nat) : Prop := ¬ z_bj pr ha set K (nI (b / 10)) (nI (b % 10)) n 0 = 0
theorem x_tune_b (S : ai_S) (gr : Int32) (vl : Int32) (sg : Int32) (cs : Int32) (pr : Nat → Int32) (ha : Nat → Int32) (la : Nat → Int32) (wa : Nat → Int32) (p : sv_G) (sw : Bool) (t : sv_T) (m : sv_M) (pa : sv_P) (im : Nat → sv_M) (kp : Int32) (he : sv_H) (wl : Nat → Int32) (fe : Nat → Int32) (as : Int64) (D : sv_D) (set k : Int32) (hb : ¬ (¬ set < 0 ∧ ¬ (1 : Int32) <<< (cs &&& 31) ≤ set ∧ ¬ k < 1 ∧ k ≤ 5)) : ai_call S 48 [.ref 1, .int set, .int k] (HP ((gr, vl, sg, cs, pr, ha, la, wa), p, sw, t, m, pa, im, kp, he, wl, fe, as) D) = some (some (.int (-1)), HP ((gr, vl, sg, cs, pr, ha, la, wa), p, sw, t, m, pa, im, kp, he, wl, fe, as) D) := by
  rw [e_48]
  by_cases h0 : set < 0
  · simp only [k_48_0, k_48_1, k_48_2, k_48_3, k_48_4, w_l3, gl_1, vi_i, t_4, w_c0, w_l5, gl_0, va_r, va_n, w_get, gf_x0, gf_g3, gf_p3, w_b15, t_11, gl_2, t_10, t_13, t_23, z10, z01, z_bT, z_bF, true_or, or_true, false_or, or_false, Option.bind_some, Option.toList_some, Option.toList_none, List.cons_append, List.nil_append, List.length_cons, List.length_nil, Nat.zero_add, Nat.reduceAdd, Nat.reduceLeDiff, and_self, and_true, true_and, if_true, if_false, reduceCtorEq, ne_eq, not_false_eq_true, not_true_eq_false, ↓reduceIte, Nat.reduceEqDiff, Bool.not_not, h0]
  by_cases h1 : (1 : Int32) <<< (cs &&& 31) ≤ set
  · simp only [k_48_0, k_48_1, k_48_2, k_48_3, k_48_4, w_l3, gl_1, vi_i, t_4, w_c0, w_l5, gl_0, va_r, va_n, w_get, gf_x0, gf_g3, gf_p3, w_b15, t_11, gl_2, t_10, t_13, t_23, z10, z01, z_bT, z_bF, true_or, or_true, false_or, or_false, Option.bind_some, Option.toList_some, Option.toList_none, List.cons_append, List.nil_append, List.length_cons, List.length_nil, Nat.zero_add, Nat.reduceAdd, Nat.reduceLeDiff, and_self, and_true, true_and, if_true, if_false, reduceCtorEq, ne_eq, not_false_eq_true, not_true_eq_false, ↓reduceIte, Nat.reduceEqDiff, Bool.not_not, h0, h1]
  by_cases h2 : k < 1
  · simp only [k_48_0, k_48_1, k_48_2, k_48_3, k_48_4, w_l3, gl_1, vi_i, t_4, w_c0, w_l5, gl_0, va_r, va_n, w_get, gf_x0, gf_g3, gf_p3, w_b15, t_11, gl_2, t_10, t_13, t_23, z10, z01, z_bT, z_bF, true_or, or_true, false_or, or_false, Option.bind_some, Option.toList_some, Option.toList_none, List.cons_append, List.nil_append, List.length_cons, List.length_nil, Nat.zero_add, Nat.reduceAdd, Nat.reduceLeDiff, and_self, and_true, true_and, if_true, if_false, reduceCtorEq, ne_eq, not_false_eq_true, not_true_eq_false, ↓reduceIte, Nat.reduceEqDiff, Bool.not_not, h0, h1, h2]
  by_cases h3 : k ≤ 5
  · exact absurd ⟨h0, h1, h2, h3⟩ hb
  · simp only [k_48_0, k_48_1, k_48_2, k_48_3, k_48_4, w_l3, gl_1, vi_i, t_4, w_c0, w_l5, gl_0, va_r, va_n, w_get, gf_x0, gf_g3, gf_p3, w_b15, t_11, gl_2, t_10, t_13, t_23, z10, z01, z_bT, z_bF, true_or, or_true, false_or, or_false, Option.bind_some, Option.toList_some, Option.toList_none, List.cons_append, List.nil_append, List.length_cons, List.length_nil, Nat.zero_add, Nat.reduceAdd, Nat.reduceLeDiff, and_self, and_true, true_and, if_true, if_false, reduceCtorEq, ne_eq, not_false_eq_true, not_true_eq_false, ↓reduceIte, Nat.reduceEqDiff, Bool.not_not, h0, h1, h2, h3]
theorem x_tune (S : ai_S) (gr : Int32) (vl : Int32) (sg : Int32) (pr : Nat → Int32) (ha : Nat → Int32) (la : Nat → Int32) (wa : Nat → Int32) (p : sv_G) (sw : Bool) (t : sv_T) (m : sv_M) (pa : sv_P) (im : Nat → sv_M) (kp : Int32) (he : sv_H) (wl : Nat → Int32) (fe : Nat → Int32) (as : Int64) (D : sv_D) (n K : Nat) (hn : n ≤ 6) (hK : K < 10) (set : Int32) (h0 : ¬ set < 0) (h1 : ¬ (1 : Int32) <<< (nI n &&& 31) ≤ set) (h2 : ¬ nI K < 1) (h3 : nI K ≤ 5) : ai_call S 48 [.ref 1, .int set, .int (nI K)] (HP ((gr, vl, sg, nI n, pr, ha, la, wa), p, sw, t, m, pa, im, kp, he, wl, fe, as) D) = some (some (.int (z_tu (z_tq pr ha set K n) 100 0)), HP ((gr, vl, sg, nI n, pr, ha, la, wa), p, sw, t, m, pa, im, kp, he, wl, fe, as) D) := by
  rw [e_48]
  have key : ∀ j G v, 10 * G + v + j = 100 → v ≤ 10 → G < 10 → ai_res S 48 8 [.ref 1, .int set, .int (nI K), .int (nI G), .int (nI v)] [] (HP ((gr, vl, sg, nI n, pr, ha, la, wa), p, sw, t, m, pa, im, kp, he, wl, fe, as) D) = some (some (.int (z_tu (z_tq pr ha set K n) j (10 * G + v))), HP ((gr, vl, sg, nI n, pr, ha, la, wa), p, sw, t, m, pa, im, kp, he, wl, fe, as) D) := by
    intro j
    induction j with
    | zero =>
      intro G v hj hv hG
      rw [k_48_8]
      by_cases e1 : v = 10
      · have e2 : G = 9 := by omega
        subst e1; subst e2
        have q1 : (10 : Int32) ≤ nI 10 := by decide
        have q2 : (10 : Int32) ≤ nI 10 := by decide
        simp only [k_48_0, k_48_1, k_48_2, k_48_3, k_48_4, k_48_5, k_48_6, k_48_7, k_48_9, k_48_10, k_48_11, k_48_12, k_48_13, k_48_14, w_l3, gl_1, vi_i, t_4, w_c0, w_l5, gl_0, va_r, va_n, w_get, gf_x0, gf_g3, gf_p3, w_b15, t_11, gl_2, t_10, t_13, t_23, w_s6, sl_3, ll_3, t_0, gl_3, w_c1, w_s7, sl_4, ll_4, w_l4, gl_4, t_18_5, rc_0, io_x, t_2, w_b12, w_b10, w_inc, t_1, z10, z01, z_bT, z_bF, true_or, or_true, false_or, or_false, Option.bind_some, Option.toList_some, Option.toList_none, List.cons_append, List.nil_append, List.length_cons, List.length_nil, Nat.zero_add, Nat.reduceAdd, Nat.reduceLeDiff, and_self, and_true, true_and, if_true, if_false, reduceCtorEq, ne_eq, not_false_eq_true, not_true_eq_false, ↓reduceIte, Nat.reduceEqDiff, Bool.not_not, q1, q2, nI_1]
        rfl
      · omega
    | succ j ih =>
      intro G v hj hv hG
      have hstep : ∀ G v, 10 * G + v + (j + 1) = 100 → v < 10 → G < 10 → ai_res S 48 8 [.ref 1, .int set, .int (nI K), .int (nI G), .int (nI v)] [] (HP ((gr, vl, sg, nI n, pr, ha, la, wa), p, sw, t, m, pa, im, kp, he, wl, fe, as) D) = some (some (.int (z_tu (z_tq pr ha set K n) (j + 1) (10 * G + v))), HP ((gr, vl, sg, nI n, pr, ha, la, wa), p, sw, t, m, pa, im, kp, he, wl, fe, as) D) := by
        intro G v hj hv hG
        have hlt : ¬ (10 : Int32) ≤ nI v := nI_ge (b := 10) (by omega) (by decide)
        rw [k_48_8, z_tu]
        have e1 : (10 * G + v) / 10 = G := by omega
        have e2 : (10 * G + v) % 10 = v := by omega
        unfold z_tq
        rw [e1, e2]
        have e3 : (10 : Int32) * nI G + nI v = nI (10 * G + v) := by rw [show (10 : Int32) = nI 10 from rfl, pk_mul, nI_add]
        by_cases hz : z_bj pr ha set K (nI G) (nI v) n 0 = 0
        · rw [if_neg (fun z => z hz)]
          simp only [k_48_0, k_48_1, k_48_2, k_48_3, k_48_4, k_48_5, k_48_6, k_48_7, k_48_9, k_48_10, k_48_11, k_48_12, k_48_13, k_48_14, w_l3, gl_1, vi_i, t_4, w_c0, w_l5, gl_0, va_r, va_n, w_get, gf_x0, gf_g3, gf_p3, w_b15, t_11, gl_2, t_10, t_13, t_23, w_s6, sl_3, ll_3, t_0, gl_3, w_c1, w_s7, sl_4, ll_4, w_l4, gl_4, t_18_5, rc_0, io_x, t_2, w_b12, w_b10, w_inc, t_1, z10, z01, z_bT, z_bF, true_or, or_true, false_or, or_false, Option.bind_some, Option.toList_some, Option.toList_none, List.cons_append, List.nil_append, List.length_cons, List.length_nil, Nat.zero_add, Nat.reduceAdd, Nat.reduceLeDiff, and_self, and_true, true_and, if_true, if_false, reduceCtorEq, ne_eq, not_false_eq_true, not_true_eq_false, ↓reduceIte, Nat.reduceEqDiff, Bool.not_not, hlt, x_bringsJust, hn, hK, hz, nI_1]
          have h5 := ih G (v + 1) (by omega) (by omega) hG
          rw [show 10 * G + (v + 1) = 10 * G + v + 1 by omega] at h5
          exact h5
        · rw [if_pos hz]
          simp only [k_48_0, k_48_1, k_48_2, k_48_3, k_48_4, k_48_5, k_48_6, k_48_7, k_48_9, k_48_10, k_48_11, k_48_12, k_48_13, k_48_14, w_l3, gl_1, vi_i, t_4, w_c0, w_l5, gl_0, va_r, va_n, w_get, gf_x0, gf_g3, gf_p3, w_b15, t_11, gl_2, t_10, t_13, t_23, w_s6, sl_3, ll_3, t_0, gl_3, w_c1, w_s7, sl_4, ll_4, w_l4, gl_4, t_18_5, rc_0, io_x, t_2, w_b12, w_b10, w_inc, t_1, z10, z01, z_bT, z_bF, true_or, or_true, false_or, or_false, Option.bind_some, Option.toList_some, Option.toList_none, List.cons_append, List.nil_append, List.length_cons, List.length_nil, Nat.zero_add, Nat.reduceAdd, Nat.reduceLeDiff, and_self, and_true, true_and, if_true, if_false, reduceCtorEq, ne_eq, not_false_eq_true, not_true_eq_false, ↓reduceIte, Nat.reduceEqDiff, Bool.not_not, hlt, x_bringsJust, hn, hK, hz, e3]
      by_cases e1 : v = 10
      · subst e1
        have q1 : (10 : Int32) ≤ nI 10 := by decide
        have q2 : ¬ (10 : Int32) ≤ nI (G + 1) := nI_ge (b := 10) (by omega) (by decide)
        rw [k_48_8]
        simp only [k_48_0, k_48_1, k_48_2, k_48_3, k_48_4, k_48_5, k_48_6, k_48_7, k_48_9, k_48_10, k_48_11, k_48_12, k_48_13, k_48_14, w_l3, gl_1, vi_i, t_4, w_c0, w_l5, gl_0, va_r, va_n, w_get, gf_x0, gf_g3, gf_p3, w_b15, t_11, gl_2, t_10, t_13, t_23, w_s6, sl_3, ll_3, t_0, gl_3, w_c1, w_s7, sl_4, ll_4, w_l4, gl_4, t_18_5, rc_0, io_x, t_2, w_b12, w_b10, w_inc, t_1, z10, z01, z_bT, z_bF, true_or, or_true, false_or, or_false, Option.bind_some, Option.toList_some, Option.toList_none, List.cons_append, List.nil_append, List.length_cons, List.length_nil, Nat.zero_add, Nat.reduceAdd, Nat.reduceLeDiff, and_self, and_true, true_and, if_true, if_false, reduceCtorEq, ne_eq, not_false_eq_true, not_true_eq_false, ↓reduceIte, Nat.reduceEqDiff, Bool.not_not, q1, q2, nI_1]
        have h6 := hstep (G + 1) 0 (by omega) (by omega) (by omega)
        rw [show 10 * (G + 1) + 0 = 10 * G + 10 by omega] at h6
        exact h6
      · exact hstep G v hj (by omega) hG
  have k0 := key 100 0 0 (by omega) (by omega) (by omega)
  have q2 : ¬ (10 : Int32) ≤ 0 := by decide
  simp only [k_48_0, k_48_1, k_48_2, k_48_3, k_48_4, k_48_5, k_48_6, k_48_7, k_48_9, k_48_10, k_48_11, k_48_12, k_48_13, k_48_14, w_l3, gl_1, vi_i, t_4, w_c0, w_l5, gl_0, va_r, va_n, w_get, gf_x0, gf_g3, gf_p3, w_b15, t_11, gl_2, t_10, t_13, t_23, w_s6, sl_3, ll_3, t_0, gl_3, w_c1, w_s7, sl_4, ll_4, w_l4, gl_4, t_18_5, rc_0, io_x, t_2, w_b12, w_b10, w_inc, t_1, z10, z01, z_bT, z_bF, true_or, or_true, false_or, or_false, Option.bind_some, Option.toList_some, Option.toList_none, List.cons_append, List.nil_append, List.length_cons, List.length_nil, Nat.zero_add, Nat.reduceAdd, Nat.reduceLeDiff, and_self, and_true, true_and, if_true, if_false, reduceCtorEq, ne_eq, not_false_eq_true, not_true_eq_false, ↓reduceIte, Nat.reduceEqDiff, Bool.not_not, h0, h1, h2, h3, q2]
  exact k0
/-- bits of the velvets v below V with which f v is odd -/
def z_yv (f : Nat → Int32) : Nat → Int32
  | 0 => 0
  | v + 1 => if f v &&& 1 = 0 then z_yv f v else z_yv f v ||| z_one v
abbrev z_Y (pr ha : Nat → Int32) (gr : Int32) (c K : Nat) : Int32 := z_yv (fun v => z_tp pr ha c K gr (nI v)) 10
theorem x_yieldingVelvets (S : ai_S) (gr : Int32) (vl : Int32) (sg : Int32) (cs : Int32) (pr : Nat → Int32) (ha : Nat → Int32) (la : Nat → Int32) (wa : Nat → Int32) (p : sv_G) (sw : Bool) (t : sv_T) (m : sv_M) (pa : sv_P) (im : Nat → sv_M) (kp : Int32) (he : sv_H) (wl : Nat → Int32) (fe : Nat → Int32) (as : Int64) (D : sv_D) (c K : Nat) (hc : c < 6) (hK : K < 10) : ai_call S 67 [.ref 1, .int (nI c), .int (nI K)] (HP ((gr, vl, sg, cs, pr, ha, la, wa), p, sw, t, m, pa, im, kp, he, wl, fe, as) D) = some (some (.int (z_Y pr ha gr c K)), HP ((gr, vl, sg, cs, pr, ha, la, wa), p, sw, t, m, pa, im, kp, he, wl, fe, as) D) := by
  rw [e_67]
  have key : ∀ j v, v + j = 10 → ai_res S 67 1 [.ref 1, .int (nI c), .int (nI K), .int (z_yv (fun v => z_tp pr ha c K gr (nI v)) v), .int (nI v)] [] (HP ((gr, vl, sg, cs, pr, ha, la, wa), p, sw, t, m, pa, im, kp, he, wl, fe, as) D) = some (some (.int (z_Y pr ha gr c K)), HP ((gr, vl, sg, cs, pr, ha, la, wa), p, sw, t, m, pa, im, kp, he, wl, fe, as) D) := by
    intro j
    induction j with
    | zero =>
      intro v hv
      have e1 : v = 10 := by omega
      subst e1
      have hge : (10 : Int32) ≤ nI 10 := by decide
      rw [k_67_1]
      simp only [k_67_0, k_67_2, k_67_3, k_67_4, k_67_5, k_67_6, w_c0, w_s6, sl_3, ll_3, w_s7, sl_4, ll_4, t_0, w_l4, gl_4, vi_i, w_c1, t_11, w_l5, gl_0, va_r, va_n, w_l3, gl_1, gl_2, w_get, gf_x0, gf_g0, gf_p0, t_18_5, rc_0, io_x, t_9, gl_3, w_b15, w_b14, w_inc, t_1, t_23, z10, z01, z_bT, z_bF, true_or, or_true, false_or, or_false, Option.bind_some, Option.toList_some, Option.toList_none, List.cons_append, List.nil_append, List.length_cons, List.length_nil, Nat.zero_add, Nat.reduceAdd, Nat.reduceLeDiff, and_self, and_true, true_and, if_true, if_false, reduceCtorEq, ne_eq, not_false_eq_true, not_true_eq_false, ↓reduceIte, Nat.reduceEqDiff, Bool.not_not, hge]
    | succ j ih =>
      intro v hv
      have hlt : ¬ (10 : Int32) ≤ nI v := nI_ge (b := 10) (by omega) (by decide)
      have h2 := ih (v + 1) (by omega)
      rw [k_67_1]
      by_cases hz : z_tp pr ha c K gr (nI v) &&& 1 = 0
      · have hz1 : ¬ z_tp pr ha c K gr (nI v) = 1 := (zt_1 pr ha c K gr (nI v)).mp hz
        simp only [k_67_0, k_67_2, k_67_3, k_67_4, k_67_5, k_67_6, w_c0, w_s6, sl_3, ll_3, w_s7, sl_4, ll_4, t_0, w_l4, gl_4, vi_i, w_c1, t_11, w_l5, gl_0, va_r, va_n, w_l3, gl_1, gl_2, w_get, gf_x0, gf_g0, gf_p0, t_18_5, rc_0, io_x, t_9, gl_3, w_b15, w_b14, w_inc, t_1, t_23, z10, z01, z_bT, z_bF, true_or, or_true, false_or, or_false, Option.bind_some, Option.toList_some, Option.toList_none, List.cons_append, List.nil_append, List.length_cons, List.length_nil, Nat.zero_add, Nat.reduceAdd, Nat.reduceLeDiff, and_self, and_true, true_and, if_true, if_false, reduceCtorEq, ne_eq, not_false_eq_true, not_true_eq_false, ↓reduceIte, Nat.reduceEqDiff, Bool.not_not, hlt, x_tryPlain, hc, hK, hz1, nI_1]
        rw [z_yv, if_pos hz] at h2
        exact h2
      · have hz1 : z_tp pr ha c K gr (nI v) = 1 := Decidable.not_not.mp (fun z => hz ((zt_1 pr ha c K gr (nI v)).mpr z))
        simp only [k_67_0, k_67_2, k_67_3, k_67_4, k_67_5, k_67_6, w_c0, w_s6, sl_3, ll_3, w_s7, sl_4, ll_4, t_0, w_l4, gl_4, vi_i, w_c1, t_11, w_l5, gl_0, va_r, va_n, w_l3, gl_1, gl_2, w_get, gf_x0, gf_g0, gf_p0, t_18_5, rc_0, io_x, t_9, gl_3, w_b15, w_b14, w_inc, t_1, t_23, z10, z01, z_bT, z_bF, true_or, or_true, false_or, or_false, Option.bind_some, Option.toList_some, Option.toList_none, List.cons_append, List.nil_append, List.length_cons, List.length_nil, Nat.zero_add, Nat.reduceAdd, Nat.reduceLeDiff, and_self, and_true, true_and, if_true, if_false, reduceCtorEq, ne_eq, not_false_eq_true, not_true_eq_false, ↓reduceIte, Nat.reduceEqDiff, Bool.not_not, hlt, x_tryPlain, hc, hK, hz1, nI_1]
        rw [z_yv, if_neg hz] at h2
        exact h2
  have k0 := key 10 0 rfl
  simp only [k_67_0, w_c0, w_s6, sl_3, ll_3, w_s7, sl_4, ll_4, t_0, z10, z01, z_bT, z_bF, true_or, or_true, false_or, or_false, Option.bind_some, Option.toList_some, Option.toList_none, List.cons_append, List.nil_append, List.length_cons, List.length_nil, Nat.zero_add, Nat.reduceAdd, Nat.reduceLeDiff, and_self, and_true, true_and, if_true, if_false, reduceCtorEq, ne_eq, not_false_eq_true, not_true_eq_false, ↓reduceIte, Nat.reduceEqDiff, Bool.not_not]
  exact k0
/-- what is told so far -/
def z_so (Y : Nat → Int32) (yd : Nat → Int32) : Nat → Int32
  | 0 => 1023
  | i + 1 => if yd i = 1 then z_so Y yd i &&& Y i else z_so Y yd i &&& (1023 - Y i)
theorem x_soft (S : ai_S) (gr : Int32) (vl : Int32) (sg : Int32) (cs : Int32) (pr : Nat → Int32) (ha : Nat → Int32) (la : Nat → Int32) (wa : Nat → Int32) (p : sv_G) (sw : Bool) (t : sv_T) (m : sv_M) (pa : sv_P) (im : Nat → sv_M) (kp : Int32) (wh : Nat → Int32) (ti : Nat → Int32) (yd : Nat → Int32) (wl : Nat → Int32) (fe : Nat → Int32) (as : Int64) (D : sv_D) (s : Nat) (hs : s ≤ 6) (wc tk : Nat → Nat) (hw : ∀ i, i < s → wh i = nI (wc i) ∧ wc i < 6 ∧ ti i = nI (tk i) ∧ tk i < 10) : ai_call S 65 [.ref 1] (HP ((gr, vl, sg, cs, pr, ha, la, wa), p, sw, t, m, pa, im, kp, (wh, ti, yd, nI s), wl, fe, as) D) = some (some (.int (z_so (fun i => z_Y pr ha gr (wc i) (tk i)) yd s)), HP ((gr, vl, sg, cs, pr, ha, la, wa), p, sw, t, m, pa, im, kp, (wh, ti, yd, nI s), wl, fe, as) D) := by
  rw [e_65]
  have key : ∀ j i (x : Value), i + j = s → ai_res S 65 1 [.ref 1, .int 1023, .int (z_so (fun i => z_Y pr ha gr (wc i) (tk i)) yd i), .int (nI i), x] [] (HP ((gr, vl, sg, cs, pr, ha, la, wa), p, sw, t, m, pa, im, kp, (wh, ti, yd, nI s), wl, fe, as) D) = some (some (.int (z_so (fun i => z_Y pr ha gr (wc i) (tk i)) yd s)), HP ((gr, vl, sg, cs, pr, ha, la, wa), p, sw, t, m, pa, im, kp, (wh, ti, yd, nI s), wl, fe, as) D) := by
    intro j
    induction j with
    | zero =>
      intro i x hi
      have e1 : i = s := by omega
      subst e1
      have hge : nI i ≤ nI i := Int32.le_refl _
      rw [k_65_1]
      simp only [k_65_0, k_65_2, k_65_3, k_65_4, k_65_5, k_65_6, k_65_7, k_65_8, k_65_9, k_65_10, w_c2, w_s6, sl_1, ll_1, w_l3, gl_1, vi_i, sl_2, ll_2, w_c0, sl_3, ll_3, t_0, gl_3, w_l5, gl_0, va_r, va_n, w_get, gf_x7, gf_he3, t_11, gf_he0, ia_he0, pz_he0, t_19_2, rc_1, gf_he1, ia_he1, pz_he1, t_18_3, rc_0, io_x, w_s7, sl_4, ll_4, gl_2, gf_he2, ia_he2, pz_he2, t_9, w_l4, gl_4, t_1, w_b11, w_b13, w_inc, t_23, z10, z01, z_bT, z_bF, true_or, or_true, false_or, or_false, Option.bind_some, Option.toList_some, Option.toList_none, List.cons_append, List.nil_append, List.length_cons, List.length_nil, Nat.zero_add, Nat.reduceAdd, Nat.reduceLeDiff, and_self, and_true, true_and, if_true, if_false, reduceCtorEq, ne_eq, not_false_eq_true, not_true_eq_false, ↓reduceIte, Nat.reduceEqDiff, Bool.not_not, hge]
    | succ j ih =>
      intro i x hi
      have hlt : ¬ nI s ≤ nI i := nI_ge (by omega) (by omega)
      obtain ⟨w1, w2, w3, w4⟩ := hw i (by omega)
      have hi6 : i < 6 := by omega
      have h2 := fun x => ih (i + 1) x (by omega)
      rw [k_65_1]
      by_cases hz : yd i = 1
      · simp only [k_65_0, k_65_2, k_65_3, k_65_4, k_65_5, k_65_6, k_65_7, k_65_8, k_65_9, k_65_10, w_c2, w_s6, sl_1, ll_1, w_l3, gl_1, vi_i, sl_2, ll_2, w_c0, sl_3, ll_3, t_0, gl_3, w_l5, gl_0, va_r, va_n, w_get, gf_x7, gf_he3, t_11, gf_he0, ia_he0, pz_he0, t_19_2, rc_1, gf_he1, ia_he1, pz_he1, t_18_3, rc_0, io_x, w_s7, sl_4, ll_4, gl_2, gf_he2, ia_he2, pz_he2, t_9, w_l4, gl_4, t_1, w_b11, w_b13, w_inc, t_23, z10, z01, z_bT, z_bF, true_or, or_true, false_or, or_false, Option.bind_some, Option.toList_some, Option.toList_none, List.cons_append, List.nil_append, List.length_cons, List.length_nil, Nat.zero_add, Nat.reduceAdd, Nat.reduceLeDiff, and_self, and_true, true_and, if_true, if_false, reduceCtorEq, ne_eq, not_false_eq_true, not_true_eq_false, ↓reduceIte, Nat.reduceEqDiff, Bool.not_not, hlt, x_at, ob_s, hi6, w1, w3, x_yieldingVelvets, w2, w4, hz, nI_1]
        rw [z_so, if_pos hz] at h2
        exact h2 _
      · simp only [k_65_0, k_65_2, k_65_3, k_65_4, k_65_5, k_65_6, k_65_7, k_65_8, k_65_9, k_65_10, w_c2, w_s6, sl_1, ll_1, w_l3, gl_1, vi_i, sl_2, ll_2, w_c0, sl_3, ll_3, t_0, gl_3, w_l5, gl_0, va_r, va_n, w_get, gf_x7, gf_he3, t_11, gf_he0, ia_he0, pz_he0, t_19_2, rc_1, gf_he1, ia_he1, pz_he1, t_18_3, rc_0, io_x, w_s7, sl_4, ll_4, gl_2, gf_he2, ia_he2, pz_he2, t_9, w_l4, gl_4, t_1, w_b11, w_b13, w_inc, t_23, z10, z01, z_bT, z_bF, true_or, or_true, false_or, or_false, Option.bind_some, Option.toList_some, Option.toList_none, List.cons_append, List.nil_append, List.length_cons, List.length_nil, Nat.zero_add, Nat.reduceAdd, Nat.reduceLeDiff, and_self, and_true, true_and, if_true, if_false, reduceCtorEq, ne_eq, not_false_eq_true, not_true_eq_false, ↓reduceIte, Nat.reduceEqDiff, Bool.not_not, hlt, x_at, ob_s, hi6, w1, w3, x_yieldingVelvets, w2, w4, hz, nI_1]
        rw [z_so, if_neg hz] at h2
        exact h2 _
  have k0 := key s 0 ai_u (by omega)
  simp only [k_65_0, w_c2, w_s6, sl_1, ll_1, w_l3, gl_1, vi_i, sl_2, ll_2, w_c0, sl_3, ll_3, t_0, z10, z01, z_bT, z_bF, true_or, or_true, false_or, or_false, Option.bind_some, Option.toList_some, Option.toList_none, List.cons_append, List.nil_append, List.length_cons, List.length_nil, Nat.zero_add, Nat.reduceAdd, Nat.reduceLeDiff, and_self, and_true, true_and, if_true, if_false, reduceCtorEq, ne_eq, not_false_eq_true, not_true_eq_false, ↓reduceIte, Nat.reduceEqDiff, Bool.not_not]
  exact k0
