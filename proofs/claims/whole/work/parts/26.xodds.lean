/-! the class: odds -/
/-- bits of s below the tenth -/
def z_ct (s : Nat) : Nat := s % 2 + s / 2 % 2 + s / 4 % 2 + s / 8 % 2 + s / 16 % 2 + s / 32 % 2 + s / 64 % 2 + s / 128 % 2 + s / 256 % 2 + s / 512 % 2
theorem z_pop_ct : ∀ s, s < 1024 → z_pop (nI s) = nI (z_ct s) := by decide +kernel
theorem z_ct_le : ∀ h, h ≤ 6 → ∀ s, s < 2 ^ h → z_ct s ≤ h := by decide +kernel
theorem z_one_pow : ∀ h, h ≤ 6 → (1 : Int32) <<< (nI h &&& 31) = nI (2 ^ h) := by decide +kernel
theorem z_pow_le : ∀ h, h ≤ 6 → 2 ^ h ≤ 64 := by decide
theorem z_pw_n (b : Nat) : ∀ e, z_pw (nI b) e = nI (b ^ e)
  | 0 => rfl
  | e + 1 => by rw [z_pw, z_pw_n b e, pk_mul, Nat.pow_succ]
/-- cases in which at most K of h leave by X of 10, over the sets below s -/
def z_U (X K h : Nat) : Nat → Nat
  | 0 => 0
  | s + 1 => if K < z_ct s then z_U X K h s else z_U X K h s + X ^ z_ct s * (10 - X) ^ (h - z_ct s)
theorem z_U_le : ∀ X, X ≤ 10 → ∀ K, K ≤ 6 → ∀ h, h ≤ 6 → z_U X K h (2 ^ h) ≤ 1000000 := by decide +kernel
theorem x_waysToLeave (S : ai_S) (hp : ai_H) (h X K : Nat) (hh : h ≤ 6) (hX : X ≤ 10) (hK : K ≤ 6) : ai_call S 60 [.int (nI h), .int (nI X), .int (nI K)] hp = some (some (.int (nI (z_U X K h (2 ^ h)))), hp) := by
  rw [e_60]
  have hpl := z_pow_le h hh
  have key : ∀ j s (x : Value), s + j = 2 ^ h → ai_res S 60 1 [.int (nI h), .int (nI X), .int (nI K), .int (nI (z_U X K h s)), .int (nI s), x] [] hp = some (some (.int (nI (z_U X K h (2 ^ h)))), hp) := by
    intro j
    induction j with
    | zero =>
      intro s x hs
      have e1 : s = 2 ^ h := by omega
      subst e1
      have hge : nI (2 ^ h) ≤ nI (2 ^ h) := Int32.le_refl _
      rw [k_60_1]
      simp only [k_60_0, k_60_2, k_60_3, k_60_4, k_60_5, k_60_6, k_60_7, k_60_8, w_c0, w_s6, sl_3, ll_3, w_s7, sl_4, ll_4, t_0, w_l4, gl_4, vi_i, w_l3, gl_0, w_b15, t_11, t_19_1, rc_1, sl_5, ll_5, gl_5, gl_2, t_12, gl_3, gl_1, t_19_2, w_c1, w_b11, w_b12, w_b10, w_inc, t_1, t_23, z10, z01, z_bT, z_bF, true_or, or_true, false_or, or_false, Option.bind_some, Option.toList_some, Option.toList_none, List.cons_append, List.nil_append, List.length_cons, List.length_nil, Nat.zero_add, Nat.reduceAdd, Nat.reduceLeDiff, and_self, and_true, true_and, if_true, if_false, reduceCtorEq, ne_eq, not_false_eq_true, not_true_eq_false, ↓reduceIte, Nat.reduceEqDiff, Bool.not_not, z_one_pow h hh, hge]
    | succ j ih =>
      intro s x hs
      have hlt : ¬ nI (2 ^ h) ≤ nI s := nI_ge (by omega) (by omega)
      have hc := z_ct_le h hh s (by omega)
      have h2 := fun x => ih (s + 1) x (by omega)
      have e10 : (10 : Int32) - nI X = nI (10 - X) := pk_sub (a := 10) hX
      have eh : nI h - nI (z_ct s) = nI (h - z_ct s) := pk_sub hc
      have hq1 : z_ct s < 100 := by omega
      have hq2 : h - z_ct s < 100 := by omega
      rw [k_60_1]
      by_cases hz : K < z_ct s
      · have hz2 : nI K < nI (z_ct s) := nI_lt hz (by omega)
        simp only [k_60_0, k_60_2, k_60_3, k_60_4, k_60_5, k_60_6, k_60_7, k_60_8, w_c0, w_s6, sl_3, ll_3, w_s7, sl_4, ll_4, t_0, w_l4, gl_4, vi_i, w_l3, gl_0, w_b15, t_11, t_19_1, rc_1, sl_5, ll_5, gl_5, gl_2, t_12, gl_3, gl_1, t_19_2, w_c1, w_b11, w_b12, w_b10, w_inc, t_1, t_23, z10, z01, z_bT, z_bF, true_or, or_true, false_or, or_false, Option.bind_some, Option.toList_some, Option.toList_none, List.cons_append, List.nil_append, List.length_cons, List.length_nil, Nat.zero_add, Nat.reduceAdd, Nat.reduceLeDiff, and_self, and_true, true_and, if_true, if_false, reduceCtorEq, ne_eq, not_false_eq_true, not_true_eq_false, ↓reduceIte, Nat.reduceEqDiff, Bool.not_not, z_one_pow h hh, hlt, x_pop, z_pop_ct s (by omega), hz2, nI_1]
        rw [z_U, if_pos hz] at h2
        exact h2 _
      · have hz2 : ¬ nI K < nI (z_ct s) := nI_nlt (by omega) (by omega)
        simp only [k_60_0, k_60_2, k_60_3, k_60_4, k_60_5, k_60_6, k_60_7, k_60_8, w_c0, w_s6, sl_3, ll_3, w_s7, sl_4, ll_4, t_0, w_l4, gl_4, vi_i, w_l3, gl_0, w_b15, t_11, t_19_1, rc_1, sl_5, ll_5, gl_5, gl_2, t_12, gl_3, gl_1, t_19_2, w_c1, w_b11, w_b12, w_b10, w_inc, t_1, t_23, z10, z01, z_bT, z_bF, true_or, or_true, false_or, or_false, Option.bind_some, Option.toList_some, Option.toList_none, List.cons_append, List.nil_append, List.length_cons, List.length_nil, Nat.zero_add, Nat.reduceAdd, Nat.reduceLeDiff, and_self, and_true, true_and, if_true, if_false, reduceCtorEq, ne_eq, not_false_eq_true, not_true_eq_false, ↓reduceIte, Nat.reduceEqDiff, Bool.not_not, z_one_pow h hh, hlt, x_pop, z_pop_ct s (by omega), hz2, nI_1, x_power, hq1, hq2, e10, eh, z_pw_n, pk_mul, nI_add]
        rw [z_U, if_neg hz] at h2
        exact h2 _
  have k0 := key (2 ^ h) 0 ai_u (by omega)
  simp only [k_60_0, w_c0, w_s6, sl_3, ll_3, w_s7, sl_4, ll_4, t_0, z10, z01, z_bT, z_bF, true_or, or_true, false_or, or_false, Option.bind_some, Option.toList_some, Option.toList_none, List.cons_append, List.nil_append, List.length_cons, List.length_nil, Nat.zero_add, Nat.reduceAdd, Nat.reduceLeDiff, and_self, and_true, true_and, if_true, if_false, reduceCtorEq, ne_eq, not_false_eq_true, not_true_eq_false, ↓reduceIte, Nat.reduceEqDiff, Bool.not_not]
  exact k0
theorem x_commonDivisor (S : ai_S) (hp : ai_H) (A B : Nat) (hA : A ≤ 1000000) (hB : B ≤ 1000000) : ai_call S 62 [.int (nI A), .int (nI B)] hp = some (some (.int (nI (Nat.gcd A B))), hp) := by
  rw [e_62]
  have key : ∀ N Sm, Sm ≤ N → ∀ L i (x : Value), L ≤ 1000000 → Sm + i ≤ 1000000 → Nat.gcd L Sm = Nat.gcd A B → ai_res S 62 1 [.int (nI A), .int (nI B), .int (nI L), .int (nI Sm), .int (nI i), x] [] hp = some (some (.int (nI (Nat.gcd A B))), hp) := by
    intro N
    induction N with
    | zero =>
      intro Sm hS L i x hL hi hg
      have e1 : Sm = 0 := Nat.le_zero.mp hS
      subst e1
      rw [Nat.gcd_zero_right] at hg
      subst hg
      rw [k_62_1]
      by_cases h1 : (1000000 : Int32) ≤ nI i
      · simp only [k_62_0, k_62_2, k_62_3, k_62_4, w_l3, gl_0, vi_i, w_s6, sl_2, ll_2, gl_1, sl_3, ll_3, w_c0, w_s7, sl_4, ll_4, t_0, w_l4, gl_4, w_c40, t_11, gl_3, t_2, gl_2, w_b19, sl_5, ll_5, gl_5, w_inc, t_1, t_23, z10, z01, z_bT, z_bF, true_or, or_true, false_or, or_false, Option.bind_some, Option.toList_some, Option.toList_none, List.cons_append, List.nil_append, List.length_cons, List.length_nil, Nat.zero_add, Nat.reduceAdd, Nat.reduceLeDiff, and_self, and_true, true_and, if_true, if_false, reduceCtorEq, ne_eq, not_false_eq_true, not_true_eq_false, ↓reduceIte, Nat.reduceEqDiff, Bool.not_not, h1]
      · have h0 : nI 0 = 0 := rfl
        simp only [k_62_0, k_62_2, k_62_3, k_62_4, w_l3, gl_0, vi_i, w_s6, sl_2, ll_2, gl_1, sl_3, ll_3, w_c0, w_s7, sl_4, ll_4, t_0, w_l4, gl_4, w_c40, t_11, gl_3, t_2, gl_2, w_b19, sl_5, ll_5, gl_5, w_inc, t_1, t_23, z10, z01, z_bT, z_bF, true_or, or_true, false_or, or_false, Option.bind_some, Option.toList_some, Option.toList_none, List.cons_append, List.nil_append, List.length_cons, List.length_nil, Nat.zero_add, Nat.reduceAdd, Nat.reduceLeDiff, and_self, and_true, true_and, if_true, if_false, reduceCtorEq, ne_eq, not_false_eq_true, not_true_eq_false, ↓reduceIte, Nat.reduceEqDiff, Bool.not_not, h1, h0]
    | succ N ih =>
      intro Sm hS L i x hL hi hg
      by_cases hz : Sm = 0
      · exact ih Sm (by omega) L i x hL hi hg
      · have h1 : ¬ (1000000 : Int32) ≤ nI i := nI_ge (b := 1000000) (by omega) (by decide)
        have h0 : ¬ nI Sm = 0 := nI_ne0 (by omega) (by omega)
        have hr : nI L - nI L / nI Sm * nI Sm = nI (L % Sm) := pk_rem (by omega) (by omega) (by omega)
        have hlt : L % Sm < Sm := Nat.mod_lt _ (by omega)
        rw [k_62_1]
        simp only [k_62_0, k_62_2, k_62_3, k_62_4, w_l3, gl_0, vi_i, w_s6, sl_2, ll_2, gl_1, sl_3, ll_3, w_c0, w_s7, sl_4, ll_4, t_0, w_l4, gl_4, w_c40, t_11, gl_3, t_2, gl_2, w_b19, sl_5, ll_5, gl_5, w_inc, t_1, t_23, z10, z01, z_bT, z_bF, true_or, or_true, false_or, or_false, Option.bind_some, Option.toList_some, Option.toList_none, List.cons_append, List.nil_append, List.length_cons, List.length_nil, Nat.zero_add, Nat.reduceAdd, Nat.reduceLeDiff, and_self, and_true, true_and, if_true, if_false, reduceCtorEq, ne_eq, not_false_eq_true, not_true_eq_false, ↓reduceIte, Nat.reduceEqDiff, Bool.not_not, h1, h0, hr, nI_1]
        refine ih (L % Sm) (by omega) Sm (i + 1) _ (by omega) (by omega) ?_
        rw [← hg, Nat.gcd_comm Sm, ← Nat.gcd_rec, Nat.gcd_comm]
  have k0 := key B B (Nat.le_refl _) A 0 ai_u hA (by omega) rfl
  simp only [k_62_0, w_l3, gl_0, vi_i, w_s6, sl_2, ll_2, gl_1, sl_3, ll_3, w_c0, w_s7, sl_4, ll_4, t_0, z10, z01, z_bT, z_bF, true_or, or_true, false_or, or_false, Option.bind_some, Option.toList_some, Option.toList_none, List.cons_append, List.nil_append, List.length_cons, List.length_nil, Nat.zero_add, Nat.reduceAdd, Nat.reduceLeDiff, and_self, and_true, true_and, if_true, if_false, reduceCtorEq, ne_eq, not_false_eq_true, not_true_eq_false, ↓reduceIte, Nat.reduceEqDiff, Bool.not_not]
  exact k0
/-- odds: upper and lower number -/
def z_odds (X K h : Nat) (w : Int32) : Int32 := if w = 0 then nI (z_U X K h (2 ^ h) / Nat.gcd (10 ^ h) (z_U X K h (2 ^ h))) else nI (10 ^ h / Nat.gcd (10 ^ h) (z_U X K h (2 ^ h)))
theorem z_ten : ∀ h, h ≤ 6 → 10 ^ h ≤ 1000000 ∧ 0 < 10 ^ h := by decide
theorem x_odds_b (S : ai_S) (h : ai_H) (x k w : Int32) (hb : ¬ (¬ x < 0 ∧ ¬ 10 < x ∧ ¬ k < 0 ∧ ¬ 6 < k ∧ (w = 0 ∨ w = 1))) : ai_call S 49 [.ref 1, .int x, .int k, .int w] h = some (some (.int (-1)), h) := by
  rw [e_49]
  by_cases h0 : x < 0
  · simp only [k_49_0, k_49_1, k_49_2, k_49_3, k_49_4, k_49_5, k_49_6, w_l3, gl_1, vi_i, t_4, w_c1, t_12, gl_2, gl_3, t_19_1, rc_1, t_3, w_c0, t_23, z10, z01, z_bT, z_bF, true_or, or_true, false_or, or_false, Option.bind_some, Option.toList_some, Option.toList_none, List.cons_append, List.nil_append, List.length_cons, List.length_nil, Nat.zero_add, Nat.reduceAdd, Nat.reduceLeDiff, and_self, and_true, true_and, if_true, if_false, reduceCtorEq, ne_eq, not_false_eq_true, not_true_eq_false, ↓reduceIte, Nat.reduceEqDiff, Bool.not_not, h0]
  by_cases h1 : 10 < x
  · simp only [k_49_0, k_49_1, k_49_2, k_49_3, k_49_4, k_49_5, k_49_6, w_l3, gl_1, vi_i, t_4, w_c1, t_12, gl_2, gl_3, t_19_1, rc_1, t_3, w_c0, t_23, z10, z01, z_bT, z_bF, true_or, or_true, false_or, or_false, Option.bind_some, Option.toList_some, Option.toList_none, List.cons_append, List.nil_append, List.length_cons, List.length_nil, Nat.zero_add, Nat.reduceAdd, Nat.reduceLeDiff, and_self, and_true, true_and, if_true, if_false, reduceCtorEq, ne_eq, not_false_eq_true, not_true_eq_false, ↓reduceIte, Nat.reduceEqDiff, Bool.not_not, h0, h1]
  by_cases h2 : k < 0
  · simp only [k_49_0, k_49_1, k_49_2, k_49_3, k_49_4, k_49_5, k_49_6, w_l3, gl_1, vi_i, t_4, w_c1, t_12, gl_2, gl_3, t_19_1, rc_1, t_3, w_c0, t_23, z10, z01, z_bT, z_bF, true_or, or_true, false_or, or_false, Option.bind_some, Option.toList_some, Option.toList_none, List.cons_append, List.nil_append, List.length_cons, List.length_nil, Nat.zero_add, Nat.reduceAdd, Nat.reduceLeDiff, and_self, and_true, true_and, if_true, if_false, reduceCtorEq, ne_eq, not_false_eq_true, not_true_eq_false, ↓reduceIte, Nat.reduceEqDiff, Bool.not_not, h0, h1, h2]
  by_cases h3 : 6 < k
  · simp only [k_49_0, k_49_1, k_49_2, k_49_3, k_49_4, k_49_5, k_49_6, w_l3, gl_1, vi_i, t_4, w_c1, t_12, gl_2, gl_3, t_19_1, rc_1, t_3, w_c0, t_23, z10, z01, z_bT, z_bF, true_or, or_true, false_or, or_false, Option.bind_some, Option.toList_some, Option.toList_none, List.cons_append, List.nil_append, List.length_cons, List.length_nil, Nat.zero_add, Nat.reduceAdd, Nat.reduceLeDiff, and_self, and_true, true_and, if_true, if_false, reduceCtorEq, ne_eq, not_false_eq_true, not_true_eq_false, ↓reduceIte, Nat.reduceEqDiff, Bool.not_not, h0, h1, h2, h3]
  · have h4 : ¬ (w = 0 ∨ w = 1) := fun z => hb ⟨h0, h1, h2, h3, z⟩
    simp only [k_49_0, k_49_1, k_49_2, k_49_3, k_49_4, k_49_5, k_49_6, w_l3, gl_1, vi_i, t_4, w_c1, t_12, gl_2, gl_3, t_19_1, rc_1, t_3, w_c0, t_23, z10, z01, z_bT, z_bF, true_or, or_true, false_or, or_false, Option.bind_some, Option.toList_some, Option.toList_none, List.cons_append, List.nil_append, List.length_cons, List.length_nil, Nat.zero_add, Nat.reduceAdd, Nat.reduceLeDiff, and_self, and_true, true_and, if_true, if_false, reduceCtorEq, ne_eq, not_false_eq_true, not_true_eq_false, ↓reduceIte, Nat.reduceEqDiff, Bool.not_not, h0, h1, h2, h3, x_oz, z_b_f h4]
theorem x_odds (S : ai_S) (gr : Int32) (vl : Int32) (sg : Int32) (pr : Nat → Int32) (ha : Nat → Int32) (la : Nat → Int32) (wa : Nat → Int32) (p : sv_G) (sw : Bool) (t : sv_T) (br : Nat → Int32) (wm : Nat → Int32) (yi : Int32) (sh : Int32) (hu : Int32) (ve : Int32) (so : Int32) (pa : sv_P) (im : Nat → sv_M) (kp : Int32) (he : sv_H) (wl : Nat → Int32) (fe : Nat → Int32) (as : Int64) (D : sv_D) (n l X K : Nat) (hn : n ≤ 6) (hl : l < 64) (hc : z_ct l ≤ n) (hX : X ≤ 10) (hK : K ≤ 6) (w : Int32) (hw : w = 0 ∨ w = 1) : ai_call S 49 [.ref 1, .int (nI X), .int (nI K), .int w] (HP ((gr, vl, sg, nI n, pr, ha, la, wa), p, sw, t, (br, wm, yi, nI l, sh, hu, ve, so), pa, im, kp, he, wl, fe, as) D) = some (some (.int (z_odds X K (n - z_ct l) w)), HP ((gr, vl, sg, nI n, pr, ha, la, wa), p, sw, t, (br, wm, yi, nI l, sh, hu, ve, so), pa, im, kp, he, wl, fe, as) D) := by
  rw [e_49]
  have h0 : ¬ nI X < 0 := nI_pos (by omega)
  have h1 : ¬ (10 : Int32) < nI X := nI_nlt (a := 10) hX (by decide)
  have h2 : ¬ nI K < 0 := nI_pos (by omega)
  have h3 : ¬ (6 : Int32) < nI K := nI_nlt (a := 6) hK (by decide)
  have eh : nI n - nI (z_ct l) = nI (n - z_ct l) := pk_sub hc
  have hh : n - z_ct l ≤ 6 := by omega
  unfold z_odds
  generalize n - z_ct l = h at eh hh ⊢
  have hU := z_U_le X hX K hK h hh
  obtain ⟨t1, t2⟩ := z_ten h hh
  have hg : 0 < Nat.gcd (10 ^ h) (z_U X K h (2 ^ h)) := Nat.gcd_pos_of_pos_left _ t2
  have hgl : Nat.gcd (10 ^ h) (z_U X K h (2 ^ h)) ≤ 10 ^ h := Nat.gcd_le_left _ t2
  have hp10 : z_pw 10 h = nI (10 ^ h) := z_pw_n 10 h
  have hh100 : h < 100 := by omega
  have hwl := fun hp : ai_H => x_waysToLeave S hp h X K hh hX hK
  generalize z_U X K h (2 ^ h) = U at hU hg hgl hwl ⊢
  have g0 : ¬ nI (Nat.gcd (10 ^ h) U) = 0 := nI_ne0 hg (by omega)
  have d1 : nI U / nI (Nat.gcd (10 ^ h) U) = nI (U / Nat.gcd (10 ^ h) U) := pk_div (by omega) hg (by omega)
  have d2 : nI (10 ^ h) / nI (Nat.gcd (10 ^ h) U) = nI (10 ^ h / Nat.gcd (10 ^ h) U) := pk_div (by omega) hg (by omega)
  have hcd := fun hp : ai_H => x_commonDivisor S hp (10 ^ h) U t1 hU
  rcases hw with rfl | rfl
  · simp only [k_49_0, k_49_1, k_49_2, k_49_3, k_49_4, k_49_5, k_49_6, k_49_7, k_49_8, k_49_9, k_49_10, k_49_11, k_49_12, k_49_13, k_49_14, k_49_15, k_49_16, w_l3, gl_1, vi_i, t_4, w_c1, t_12, gl_2, gl_3, t_19_1, rc_1, t_3, w_c0, t_23, w_l5, gl_0, va_r, va_n, w_get, gf_x0, gf_g3, gf_p3, gf_x3, gf_m3, w_b11, w_s7, sl_4, ll_4, w_l4, gl_4, t_19_3, sl_5, ll_5, t_19_2, sl_6, ll_6, gl_6, gl_5, sl_7, ll_7, gl_7, w_b18, t_1, t_0, z10, z01, z_bT, z_bF, true_or, or_true, false_or, or_false, Option.bind_some, Option.toList_some, Option.toList_none, List.cons_append, List.nil_append, List.length_cons, List.length_nil, Nat.zero_add, Nat.reduceAdd, Nat.reduceLeDiff, and_self, and_true, true_and, if_true, if_false, reduceCtorEq, ne_eq, not_false_eq_true, not_true_eq_false, ↓reduceIte, Nat.reduceEqDiff, Bool.not_not, h0, h1, h2, h3, x_oz, x_pop, z_pop_ct l (by omega), eh, hwl, x_power, hh100, hp10, hcd, g0, d1, d2]
  · simp only [k_49_0, k_49_1, k_49_2, k_49_3, k_49_4, k_49_5, k_49_6, k_49_7, k_49_8, k_49_9, k_49_10, k_49_11, k_49_12, k_49_13, k_49_14, k_49_15, k_49_16, w_l3, gl_1, vi_i, t_4, w_c1, t_12, gl_2, gl_3, t_19_1, rc_1, t_3, w_c0, t_23, w_l5, gl_0, va_r, va_n, w_get, gf_x0, gf_g3, gf_p3, gf_x3, gf_m3, w_b11, w_s7, sl_4, ll_4, w_l4, gl_4, t_19_3, sl_5, ll_5, t_19_2, sl_6, ll_6, gl_6, gl_5, sl_7, ll_7, gl_7, w_b18, t_1, t_0, z10, z01, z_bT, z_bF, true_or, or_true, false_or, or_false, Option.bind_some, Option.toList_some, Option.toList_none, List.cons_append, List.nil_append, List.length_cons, List.length_nil, Nat.zero_add, Nat.reduceAdd, Nat.reduceLeDiff, and_self, and_true, true_and, if_true, if_false, reduceCtorEq, ne_eq, not_false_eq_true, not_true_eq_false, ↓reduceIte, Nat.reduceEqDiff, Bool.not_not, h0, h1, h2, h3, x_oz, x_pop, z_pop_ct l (by omega), eh, hwl, x_power, hh100, hp10, hcd, g0, d1, d2]
