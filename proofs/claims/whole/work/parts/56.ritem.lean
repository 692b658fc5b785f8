/-! the reference: an item of the text, the loop over items -/
theorem r_e_fail (S : ai_S) (V : sv_V) (th : Int32) (tr : Int64) (ty : Int32) (nx : Int32) (tk : Int32) (pl : Int32) (va : Int32) (to : Int32) (um : Int32) (te : Int32) (hd : Int32) (wr : Int32) (a0 : Nat → Int32) (a1 : Nat → Int32) (a2 : Nat → Int32) (a3 : Nat → Int32) (a4 : Nat → Int32) (a5 : Nat → Int32) (a6 : Nat → Int32) (a7 : Nat → Int32) (a8 : Nat → Int32) (a9 : Nat → Int32) (a10 : Nat → Int32) (a11 : Nat → Int32) (a12 : Nat → Int32) (a13 : Nat → Int32) (q : Nat) (hq : q ≤ 120) (i : Int32) (x : Value) : ai_res S 100 14 [.ref 62, .int i, x] [] (HP V ((th, tr, ty, nx, tk, pl, va, nI q, to, um, te, hd, wr), (a0, a1, a2, a3, a4, a5, a6, a7, a8, a9, a10, a11, a12, a13))) = ai_res S 100 2 [.ref 62, .int (i + 1), x] [] (HP V ((th, tr, ty, nx, tk, pl, va, nI q, to, um, te, hd, wr), (a0, a1, a2, a3, a4, a5, a6, a7, a8, a9, a10, a11, a12, a13))) := by
  by_cases h3 : tk = 3
  · simp only [k_100_14, k_100_15, k_100_16, k_100_17, k_100_18, w_l5, gl_0, va_r, va_n, w_get, gd_5, w_c0, t_9, t_1, t_0, t_18_2, rc_0, io_d, w_popi, w_popr, w_popn, w_inc, gl_1, sl_1, vi_i, z10, z01, z_bT, z_bF, true_or, or_true, false_or, or_false, Option.bind_some, Option.toList_some, Option.toList_none, List.cons_append, List.nil_append, List.length_cons, List.length_nil, Nat.zero_add, Nat.reduceAdd, Nat.reduceLeDiff, and_self, and_true, true_and, if_true, if_false, reduceCtorEq, ne_eq, not_false_eq_true, not_true_eq_false, ↓reduceIte, Nat.reduceEqDiff, Bool.not_not, eq_true h3, r_takesX, hq]
  · simp only [k_100_14, k_100_15, k_100_16, k_100_17, k_100_18, w_l5, gl_0, va_r, va_n, w_get, gd_5, w_c0, t_9, t_1, t_0, t_18_2, rc_0, io_d, w_popi, w_popr, w_popn, w_inc, gl_1, sl_1, vi_i, z10, z01, z_bT, z_bF, true_or, or_true, false_or, or_false, Option.bind_some, Option.toList_some, Option.toList_none, List.cons_append, List.nil_append, List.length_cons, List.length_nil, Nat.zero_add, Nat.reduceAdd, Nat.reduceLeDiff, and_self, and_true, true_and, if_true, if_false, reduceCtorEq, ne_eq, not_false_eq_true, not_true_eq_false, ↓reduceIte, Nat.reduceEqDiff, Bool.not_not, h3, r_takesX, hq]
theorem r_e_semi (S : ai_S) (V : sv_V) (th : Int32) (tr : Int64) (va : Int32) (to : Int32) (um : Int32) (te : Int32) (hd : Int32) (wr : Int32) (a0 : Nat → Int32) (a1 : Nat → Int32) (a2 : Nat → Int32) (a3 : Nat → Int32) (a4 : Nat → Int32) (a5 : Nat → Int32) (a6 : Nat → Int32) (a7 : Nat → Int32) (a8 : Nat → Int32) (a9 : Nat → Int32) (a10 : Nat → Int32) (a11 : Nat → Int32) (a12 : Nat → Int32) (a13 : Nat → Int32) (n k : Nat) (hn : n ≤ 120) (hk : k ≤ n) (hle : z_ok a0 n) (i : Int32) (x : Value) (h : (z_rtk a0 n 0 k).2.1 = 59) : ai_res S 100 14 [.ref 62, .int i, x] [] (HP V ((th, tr, nI n, nI (z_rtk a0 n 0 k).1, z_code (z_rtk a0 n 0 k).2.1, nI (z_rtk a0 n 0 k).2.2.1, va, -1, to, um, te, hd, wr), (a0, a1, a2, a3, a4, a5, a6, a7, a8, a9, a10, a11, a12, a13))) = ai_res S 100 2 [.ref 62, .int (i + 1), x] [] (HP V ((th, tr, nI n, nI (z_rtk a0 n 0 (z_rtk a0 n 0 k).1).1, z_code (z_rtk a0 n 0 (z_rtk a0 n 0 k).1).2.1, nI (z_rtk a0 n 0 (z_rtk a0 n 0 k).1).2.2.1, z_va a0 n va (z_rtk a0 n 0 k).1, -1, to, um, te, hd, wr), (a0, a1, a2, a3, a4, a5, a6, a7, a8, a9, a10, a11, a12, a13))) := by
  have k1 := (zp_T_ok a0 n k hk).1
  have h3 := (z_code_3 _).mpr h
  simp only [k_100_14, k_100_15, k_100_16, k_100_17, k_100_18, w_l5, gl_0, va_r, va_n, w_get, gd_5, w_c0, t_9, t_1, t_0, t_18_2, rc_0, io_d, w_popi, w_popr, w_popn, w_inc, gl_1, sl_1, vi_i, z10, z01, z_bT, z_bF, true_or, or_true, false_or, or_false, Option.bind_some, Option.toList_some, Option.toList_none, List.cons_append, List.nil_append, List.length_cons, List.length_nil, Nat.zero_add, Nat.reduceAdd, Nat.reduceLeDiff, and_self, and_true, true_and, if_true, if_false, reduceCtorEq, ne_eq, not_false_eq_true, not_true_eq_false, ↓reduceIte, Nat.reduceEqDiff, Bool.not_not, eq_true h3, r_takes1, hn, k1, hle]
theorem r_e_nosemi (S : ai_S) (V : sv_V) (th : Int32) (tr : Int64) (va : Int32) (to : Int32) (um : Int32) (te : Int32) (hd : Int32) (wr : Int32) (a0 : Nat → Int32) (a1 : Nat → Int32) (a2 : Nat → Int32) (a3 : Nat → Int32) (a4 : Nat → Int32) (a5 : Nat → Int32) (a6 : Nat → Int32) (a7 : Nat → Int32) (a8 : Nat → Int32) (a9 : Nat → Int32) (a10 : Nat → Int32) (a11 : Nat → Int32) (a12 : Nat → Int32) (a13 : Nat → Int32) (n k : Nat) (i : Int32) (x : Value) (h : ¬ (z_rtk a0 n 0 k).2.1 = 59) : ai_res S 100 14 [.ref 62, .int i, x] [] (HP V ((th, tr, nI n, nI (z_rtk a0 n 0 k).1, z_code (z_rtk a0 n 0 k).2.1, nI (z_rtk a0 n 0 k).2.2.1, va, -1, to, um, te, hd, wr), (a0, a1, a2, a3, a4, a5, a6, a7, a8, a9, a10, a11, a12, a13))) = ai_res S 100 2 [.ref 62, .int (i + 1), x] [] (HP V ((th, tr, nI n, nI (z_rtk a0 n 0 k).1, z_code (z_rtk a0 n 0 k).2.1, nI (z_rtk a0 n 0 k).2.2.1, va, nI (z_rtk a0 n 0 k).2.2.1, to, um, te, hd, wr), (a0, a1, a2, a3, a4, a5, a6, a7, a8, a9, a10, a11, a12, a13))) := by
  have h3 : ¬ z_code (z_rtk a0 n 0 k).2.1 = 3 := fun z => h ((z_code_3 _).mp z)
  simp only [k_100_14, k_100_15, k_100_16, k_100_17, k_100_18, w_l5, gl_0, va_r, va_n, w_get, gd_5, w_c0, t_9, t_1, t_0, t_18_2, rc_0, io_d, w_popi, w_popr, w_popn, w_inc, gl_1, sl_1, vi_i, z10, z01, z_bT, z_bF, true_or, or_true, false_or, or_false, Option.bind_some, Option.toList_some, Option.toList_none, List.cons_append, List.nil_append, List.length_cons, List.length_nil, Nat.zero_add, Nat.reduceAdd, Nat.reduceLeDiff, and_self, and_true, true_and, if_true, if_false, reduceCtorEq, ne_eq, not_false_eq_true, not_true_eq_false, ↓reduceIte, Nat.reduceEqDiff, Bool.not_not, h3, r_takes0]
theorem r_e_bad (S : ai_S) (V : sv_V) (th : Int32) (tr : Int64) (va : Int32) (to : Int32) (um : Int32) (te : Int32) (hd : Int32) (wr : Int32) (a0 : Nat → Int32) (a1 : Nat → Int32) (a2 : Nat → Int32) (a3 : Nat → Int32) (a4 : Nat → Int32) (a5 : Nat → Int32) (a6 : Nat → Int32) (a7 : Nat → Int32) (a8 : Nat → Int32) (a9 : Nat → Int32) (a10 : Nat → Int32) (a11 : Nat → Int32) (a12 : Nat → Int32) (a13 : Nat → Int32) (n k : Nat) (hn : n ≤ 120) (hk : k ≤ n) (i : Int32) (x : Value) (h6 : ¬ (z_rtk a0 n 0 k).2.1 = 256) (hb : ¬ (z_isl (z_rtk a0 n 0 k).2.1 ∧ if va = 99 then a1 4 < 6 else to &&& z_bo va = 0)) : ai_res S 100 2 [.ref 62, .int i, x] [] (HP V ((th, tr, nI n, nI (z_rtk a0 n 0 k).1, z_code (z_rtk a0 n 0 k).2.1, nI (z_rtk a0 n 0 k).2.2.1, va, -1, to, um, te, hd, wr), (a0, a1, a2, a3, a4, a5, a6, a7, a8, a9, a10, a11, a12, a13))) = ai_res S 100 2 [.ref 62, .int (i + 1), .int 0] [] (HP V ((th, tr, nI n, nI (z_rtk a0 n 0 k).1, z_code (z_rtk a0 n 0 k).2.1, nI (z_rtk a0 n 0 k).2.2.1, va, nI (z_rtk a0 n 0 k).2.2.1, to, um, te, hd, wr), (a0, a1, a2, a3, a4, a5, a6, a7, a8, a9, a10, a11, a12, a13))) := by
  have h0 : ¬ z_code (z_rtk a0 n 0 k).2.1 = 0 := fun z => h6 ((z_code_0 _).mp z)
  have hq : (z_rtk a0 n 0 k).2.2.1 ≤ 120 := Nat.le_trans (zp_T_ok a0 n k hk).2.2.1 hn
  have hqw := z_nIlt _ (show (z_rtk a0 n 0 k).2.2.1 < 2 ^ 31 by omega)
  by_cases hl : z_isl (z_rtk a0 n 0 k).2.1
  · have h1 := (z_code_1 _).mpr hl
    have hb2 : ¬ if va = 99 then a1 4 < 6 else to &&& z_bo va = 0 := fun z => hb ⟨hl, z⟩
    rw [k_100_2]
    simp only [k_100_3, k_100_4, k_100_5, k_100_6, k_100_7, k_100_9, k_100_10, k_100_11, k_100_12, w_l5, gl_0, va_r, va_n, t_18_1, rc_0, io_d, t_2, w_get, gd_5, w_c0, t_9, t_0, t_18_2, w_s6, sl_2, ll_2, z10, z01, z_bT, z_bF, true_or, or_true, false_or, or_false, Option.bind_some, Option.toList_some, Option.toList_none, List.cons_append, List.nil_append, List.length_cons, List.length_nil, Nat.zero_add, Nat.reduceAdd, Nat.reduceLeDiff, and_self, and_true, true_and, if_true, if_false, reduceCtorEq, ne_eq, not_false_eq_true, not_true_eq_false, ↓reduceIte, Nat.reduceEqDiff, Bool.not_not, r_isWell, z_m1lt, h0, eq_true h1, r_mayBegin, z_b_f hb2, r_takes0, hqw]
    simp only [r_e_fail, hq]
  · have h1 : ¬ z_code (z_rtk a0 n 0 k).2.1 = 1 := fun z => hl ((z_code_1 _).mp z)
    rw [k_100_2]
    simp only [k_100_3, k_100_4, k_100_5, k_100_6, k_100_7, k_100_9, k_100_10, k_100_11, k_100_12, w_l5, gl_0, va_r, va_n, t_18_1, rc_0, io_d, t_2, w_get, gd_5, w_c0, t_9, t_0, t_18_2, w_s6, sl_2, ll_2, z10, z01, z_bT, z_bF, true_or, or_true, false_or, or_false, Option.bind_some, Option.toList_some, Option.toList_none, List.cons_append, List.nil_append, List.length_cons, List.length_nil, Nat.zero_add, Nat.reduceAdd, Nat.reduceLeDiff, and_self, and_true, true_and, if_true, if_false, reduceCtorEq, ne_eq, not_false_eq_true, not_true_eq_false, ↓reduceIte, Nat.reduceEqDiff, Bool.not_not, r_isWell, z_m1lt, h0, h1, r_takes0, hqw]
    simp only [r_e_fail, hq]
theorem r_e_ok (S : ai_S) (V : sv_V) (th : Int32) (tr : Int64) (va : Int32) (to : Int32) (um : Int32) (te : Int32) (hd : Int32) (wr : Int32) (a0 : Nat → Int32) (a1 : Nat → Int32) (a2 : Nat → Int32) (a3 : Nat → Int32) (a4 : Nat → Int32) (a5 : Nat → Int32) (a6 : Nat → Int32) (a7 : Nat → Int32) (a8 : Nat → Int32) (a9 : Nat → Int32) (a10 : Nat → Int32) (a11 : Nat → Int32) (a12 : Nat → Int32) (a13 : Nat → Int32) (n k : Nat) (hn : n ≤ 120) (hk : k ≤ n) (hle : z_ok a0 n) (i : Int32) (x : Value) (h6 : ¬ (z_rtk a0 n 0 k).2.1 = 256) (hl : z_isl (z_rtk a0 n 0 k).2.1) (hb : if va = 99 then a1 4 < 6 else to &&& z_bo va = 0) (h' : ai_H) (hc : ai_call S 99 [.ref 62, .int va] (HP V ((th, tr, nI n, nI (z_rtk a0 n 0 (z_rtk a0 n 0 k).1).1, z_code (z_rtk a0 n 0 (z_rtk a0 n 0 k).1).2.1, nI (z_rtk a0 n 0 (z_rtk a0 n 0 k).1).2.2.1, z_va a0 n va (z_rtk a0 n 0 k).1, -1, to, um, te, hd, wr), (a0, a1, a2, a3, a4, a5, a6, a7, a8, a9, a10, a11, a12, a13))) = some (none, h')) : ai_res S 100 2 [.ref 62, .int i, x] [] (HP V ((th, tr, nI n, nI (z_rtk a0 n 0 k).1, z_code (z_rtk a0 n 0 k).2.1, nI (z_rtk a0 n 0 k).2.2.1, va, -1, to, um, te, hd, wr), (a0, a1, a2, a3, a4, a5, a6, a7, a8, a9, a10, a11, a12, a13))) = ai_res S 100 14 [.ref 62, .int i, .int va] [] h' := by
  have h0 : ¬ z_code (z_rtk a0 n 0 k).2.1 = 0 := fun z => h6 ((z_code_0 _).mp z)
  have k1 := (zp_T_ok a0 n k hk).1
  have h1 := (z_code_1 _).mpr hl
  rw [k_100_2]
  simp only [k_100_3, k_100_4, k_100_5, k_100_6, k_100_7, k_100_8, k_100_10, k_100_11, k_100_12, k_100_13, w_l5, gl_0, va_r, va_n, t_18_1, rc_0, io_d, t_2, w_get, gd_5, w_c0, t_9, t_1, t_18_2, w_s6, sl_2, ll_2, w_l3, gl_2, vi_i, z10, z01, z_bT, z_bF, true_or, or_true, false_or, or_false, Option.bind_some, Option.toList_some, Option.toList_none, List.cons_append, List.nil_append, List.length_cons, List.length_nil, Nat.zero_add, Nat.reduceAdd, Nat.reduceLeDiff, and_self, and_true, true_and, if_true, if_false, reduceCtorEq, ne_eq, not_false_eq_true, not_true_eq_false, ↓reduceIte, Nat.reduceEqDiff, Bool.not_not, r_isWell, z_m1lt, h0, eq_true h1, r_mayBegin, z_b_t hb, r_takes1, hn, k1, hle, hc]
/-- what stays -/
def kp5 (b1 b2 b3 b4 b5 a1 a2 a3 a4 a5 : Nat → Int32) : Prop := (∀ i, i < 4 → a1 i = b1 i) ∧ ∀ i, i < 6 → a2 i = b2 i ∧ a3 i = b3 i ∧ a4 i = b4 i ∧ a5 i = b5 i
/-- what is told so far -/
def RS : zp_S → Int32 → (Nat → Int32) → (Nat → Int32) → (Nat → Int32) → (Nat → Int32) → (Nat → Int32) → Prop
  | (gr, vl, sg, c, pr, ha, la, wa, gt, vt, st), to, a1, a2, a3, a4, a5 => a1 4 = nI c ∧ a1 5 = gr ∧ a1 6 = vl ∧ a1 7 = sg ∧ (∀ i, i < c → a2 (6 + i) = pr i ∧ a3 (6 + i) = ha i ∧ a4 (6 + i) = la i ∧ a5 (6 + i) = wa i) ∧ ∃ b, b < 8 ∧ to = nI b ∧ (gt = 0 ↔ b % 2 = 0) ∧ (vt = 0 ↔ b / 2 % 2 = 0) ∧ (st = 0 ↔ b / 4 % 2 = 0)
def rq (S : ai_S) (V : sv_V) (th : Int32) (tr : Int64) (um : Int32) (te : Int32) (hd : Int32) (wr : Int32) (a0 : Nat → Int32) (a6 : Nat → Int32) (a7 : Nat → Int32) (a8 : Nat → Int32) (a9 : Nat → Int32) (a10 : Nat → Int32) (a11 : Nat → Int32) (a12 : Nat → Int32) (a13 : Nat → Int32) (n : Nat) (b1 b2 b3 b4 b5 : Nat → Int32) (i : Int32) : zp_R → ai_A → Prop
  | .inl (s, k), X => k ≤ n ∧ s.2.2.2.1 ≤ 6 ∧ ∃ (va to : Int32) (a1 a2 a3 a4 a5 : Nat → Int32) (x : Value), vc (z_rtk a0 n 0) k va ∧ RS s to a1 a2 a3 a4 a5 ∧ kp5 b1 b2 b3 b4 b5 a1 a2 a3 a4 a5 ∧ X = ai_res S 100 2 [.ref 62, .int i, x] [] (HP V ((th, tr, nI n, nI (z_rtk a0 n 0 k).1, z_code (z_rtk a0 n 0 k).2.1, nI (z_rtk a0 n 0 k).2.2.1, va, -1, to, um, te, hd, wr), (a0, a1, a2, a3, a4, a5, a6, a7, a8, a9, a10, a11, a12, a13)))
  | .inr q, X => q ≤ 120 ∧ ∃ (nx tk pl va to : Int32) (a1 a2 a3 a4 a5 : Nat → Int32) (x : Value), kp5 b1 b2 b3 b4 b5 a1 a2 a3 a4 a5 ∧ X = ai_res S 100 2 [.ref 62, .int i, x] [] (HP V ((th, tr, nI n, nx, tk, pl, va, nI q, to, um, te, hd, wr), (a0, a1, a2, a3, a4, a5, a6, a7, a8, a9, a10, a11, a12, a13)))
theorem zp_tn_t {T : zp_K} {k : Nat} {lo hi : Int32} {f : Int32 → Nat → zp_R} (h : zp_num (T k) lo hi) : zp_tn T k lo hi f = f (T k).2.2.2 (T k).1 := by
  unfold zp_tn
  rw [if_pos h]
theorem zp_tn_f {T : zp_K} {k : Nat} {lo hi : Int32} {f : Int32 → Nat → zp_R} (h : ¬ zp_num (T k) lo hi) : zp_tn T k lo hi f = .inr (T k).2.2.1 := by
  unfold zp_tn
  rw [if_neg h]
theorem zp_te_t {T : zp_K} {k : Nat} {s : zp_S} (h : (T k).2.1 = 59) : zp_te T k s = .inl (s, (T k).1) := by
  unfold zp_te
  rw [if_pos h]
theorem zp_te_f {T : zp_K} {k : Nat} {s : zp_S} (h : ¬ (T k).2.1 = 59) : zp_te T k s = .inr (T k).2.2.1 := by
  unfold zp_te
  rw [if_neg h]
theorem z_bts : ∀ b, b < 8 → (nI b &&& 1 = 0 ↔ b % 2 = 0) ∧ (nI b &&& 2 = 0 ↔ b / 2 % 2 = 0) ∧ (nI b &&& 4 = 0 ↔ b / 4 % 2 = 0) ∧ (nI b ||| 1 = nI (b ||| 1)) ∧ (nI b ||| 2 = nI (b ||| 2)) ∧ (nI b ||| 4 = nI (b ||| 4)) := by decide +kernel
theorem z_btn : ∀ b, b < 8 → ((b ||| 1) < 8 ∧ (b ||| 1) % 2 = 1 ∧ (b ||| 1) / 2 % 2 = b / 2 % 2 ∧ (b ||| 1) / 4 % 2 = b / 4 % 2) ∧ ((b ||| 2) < 8 ∧ (b ||| 2) % 2 = b % 2 ∧ (b ||| 2) / 2 % 2 = 1 ∧ (b ||| 2) / 4 % 2 = b / 4 % 2) ∧ ((b ||| 4) < 8 ∧ (b ||| 4) % 2 = b % 2 ∧ (b ||| 4) / 2 % 2 = b / 2 % 2 ∧ (b ||| 4) / 4 % 2 = 1) := by decide
theorem kp5_c {b1 b2 b3 b4 b5 a1 a2 a3 a4 a5 : Nat → Int32} (h : kp5 b1 b2 b3 b4 b5 a1 a2 a3 a4 a5) (c : Nat) (v x y z w : Int32) : kp5 b1 b2 b3 b4 b5 (upd a1 4 v) (upd a2 (6 + c) x) (upd a3 (6 + c) y) (upd a4 (6 + c) z) (upd a5 (6 + c) w) := by
  obtain ⟨h1, h2⟩ := h
  refine ⟨fun i hi => by rw [pk_un (by omega)]; exact h1 i hi, fun i hi => ?_⟩
  rw [pk_un (by omega), pk_un (by omega), pk_un (by omega), pk_un (by omega)]
  exact h2 i hi
theorem kp5_1 {b1 b2 b3 b4 b5 a1 a2 a3 a4 a5 : Nat → Int32} (h : kp5 b1 b2 b3 b4 b5 a1 a2 a3 a4 a5) (j : Nat) (hj : 4 ≤ j) (v : Int32) : kp5 b1 b2 b3 b4 b5 (upd a1 j v) a2 a3 a4 a5 := by
  obtain ⟨h1, h2⟩ := h
  exact ⟨fun i hi => by rw [pk_un (by omega)]; exact h1 i hi, h2⟩
set_option maxHeartbeats 4000000 in
theorem rq_l (S : ai_S) (V : sv_V) (th : Int32) (tr : Int64) (va : Int32) (to : Int32) (um : Int32) (te : Int32) (hd : Int32) (wr : Int32) (a0 : Nat → Int32) (a1 : Nat → Int32) (a2 : Nat → Int32) (a3 : Nat → Int32) (a4 : Nat → Int32) (a5 : Nat → Int32) (a6 : Nat → Int32) (a7 : Nat → Int32) (a8 : Nat → Int32) (a9 : Nat → Int32) (a10 : Nat → Int32) (a11 : Nat → Int32) (a12 : Nat → Int32) (a13 : Nat → Int32) (n k : Nat) (b1 b2 b3 b4 b5 : Nat → Int32) (hn : n ≤ 120) (hk : k ≤ n) (hle : z_ok a0 n) (i : Int32) (x : Value) (h6 : ¬ (z_rtk a0 n 0 k).2.1 = 256) (s : zp_S) (hc : s.2.2.2.1 ≤ 6) (hv : vc (z_rtk a0 n 0) k va) (hR : RS s to a1 a2 a3 a4 a5) (hK : kp5 b1 b2 b3 b4 b5 a1 a2 a3 a4 a5) :
    rq S V th tr um te hd wr a0 a6 a7 a8 a9 a10 a11 a12 a13 n b1 b2 b3 b4 b5 (i + 1) (zp_item (z_rtk a0 n 0) k s) (ai_res S 100 2 [.ref 62, .int i, x] [] (HP V ((th, tr, nI n, nI (z_rtk a0 n 0 k).1, z_code (z_rtk a0 n 0 k).2.1, nI (z_rtk a0 n 0 k).2.2.1, va, -1, to, um, te, hd, wr), (a0, a1, a2, a3, a4, a5, a6, a7, a8, a9, a10, a11, a12, a13)))) := by
  obtain ⟨gr, vl, sg, c, pr, ha, la, wa, gt, vt, st⟩ := s
  obtain ⟨r4, r5, r6, r7, rr, b, hb8, hto, rg, rv, rs⟩ := hR
  have hc6 : c ≤ 6 := hc
  have k0 := (zp_T_ok a0 n k hk).1
  have kq : (z_rtk a0 n 0 k).2.2.1 ≤ 120 := Nat.le_trans (zp_T_ok a0 n k hk).2.2.1 hn
  obtain ⟨t1, t2, t3, t4, t5, t6⟩ := z_bts b hb8
  obtain ⟨⟨u1, u2, u3, u4⟩, ⟨u5, u6, u7, u8⟩, ⟨u9, u10, u11, u12⟩⟩ := z_btn b hb8
  have hvl := hv.2
  rw [zp_item]
  by_cases h99 : (z_rtk a0 n 0 k).2.1 = 99
  · rw [if_pos h99]
    have hva : va = 99 := by rw [hvl (Or.inl h99), h99]
    have hl : z_isl (z_rtk a0 n 0 k).2.1 := Or.inl h99
    by_cases hlt : c < 6
    · rw [if_pos hlt]
      have hb : if va = 99 then a1 4 < 6 else to &&& z_bo va = 0 := by rw [if_pos hva, r4]; exact nI_lt (b := 6) hlt (by decide)
      subst hva
      have hv0 := vc_va a0 n 99 (z_rtk a0 n 0 k).1 hle
      by_cases q1 : zp_num (z_rtk a0 n 0 (z_rtk a0 n 0 k).1) 1 30
      · rw [zp_tn_t q1]
        have kk1 := (zp_T_ok a0 n (z_rtk a0 n 0 k).1 k0).1
        by_cases q2 : zp_num (z_rtk a0 n 0 (z_rtk a0 n 0 (z_rtk a0 n 0 k).1).1) 0 30
        · rw [zp_tn_t q2]
          have kk2 := (zp_T_ok a0 n (z_rtk a0 n 0 (z_rtk a0 n 0 k).1).1 kk1).1
          by_cases q3 : zp_num (z_rtk a0 n 0 (z_rtk a0 n 0 (z_rtk a0 n 0 (z_rtk a0 n 0 k).1).1).1) 0 9
          · rw [zp_tn_t q3]
            have kk3 := (zp_T_ok a0 n (z_rtk a0 n 0 (z_rtk a0 n 0 (z_rtk a0 n 0 k).1).1).1 kk2).1
            by_cases q4 : zp_num (z_rtk a0 n 0 (z_rtk a0 n 0 (z_rtk a0 n 0 (z_rtk a0 n 0 (z_rtk a0 n 0 k).1).1).1).1) 0 5
            · rw [zp_tn_t q4]
              have kk4 := (zp_T_ok a0 n (z_rtk a0 n 0 (z_rtk a0 n 0 (z_rtk a0 n 0 (z_rtk a0 n 0 k).1).1).1).1 kk3).1
              have hcall := r_rdc_ok S V th tr (z_va a0 n 99 (z_rtk a0 n 0 k).1) to um te hd wr a0 a1 a2 a3 a4 a5 a6 a7 a8 a9 a10 a11 a12 a13 n c _ _ _ _ _ hn k0 hlt hle hv0 r4 rfl rfl rfl rfl q1 q2 q3 q4
              rw [r_e_ok S V th tr 99 to um te hd wr a0 a1 a2 a3 a4 a5 a6 a7 a8 a9 a10 a11 a12 a13 n k hn hk hle i x h6 hl hb _ hcall]
              have kq4 : (z_rtk a0 n 0 (z_rtk a0 n 0 (z_rtk a0 n 0 (z_rtk a0 n 0 (z_rtk a0 n 0 (z_rtk a0 n 0 k).1).1).1).1).1).2.2.1 ≤ 120 := Nat.le_trans (zp_T_ok a0 n (z_rtk a0 n 0 (z_rtk a0 n 0 (z_rtk a0 n 0 (z_rtk a0 n 0 (z_rtk a0 n 0 k).1).1).1).1).1 kk4).2.2.1 hn
              by_cases q5 : (z_rtk a0 n 0 (z_rtk a0 n 0 (z_rtk a0 n 0 (z_rtk a0 n 0 (z_rtk a0 n 0 (z_rtk a0 n 0 k).1).1).1).1).1).2.1 = 59
              · rw [zp_te_t q5, r_e_semi S V th tr (z_va a0 n (z_va a0 n (z_va a0 n (z_va a0 n (z_va a0 n 99 (z_rtk a0 n 0 k).1) (z_rtk a0 n 0 (z_rtk a0 n 0 k).1).1) (z_rtk a0 n 0 (z_rtk a0 n 0 (z_rtk a0 n 0 k).1).1).1) (z_rtk a0 n 0 (z_rtk a0 n 0 (z_rtk a0 n 0 (z_rtk a0 n 0 k).1).1).1).1) (z_rtk a0 n 0 (z_rtk a0 n 0 (z_rtk a0 n 0 (z_rtk a0 n 0 (z_rtk a0 n 0 k).1).1).1).1).1) to um te hd wr a0 (upd a1 4 (nI (c + 1))) (upd a2 (6 + c) (z_rtk a0 n 0 (z_rtk a0 n 0 k).1).2.2.2) (upd a3 (6 + c) (z_rtk a0 n 0 (z_rtk a0 n 0 (z_rtk a0 n 0 k).1).1).2.2.2) (upd a4 (6 + c) (z_rtk a0 n 0 (z_rtk a0 n 0 (z_rtk a0 n 0 (z_rtk a0 n 0 k).1).1).1).2.2.2) (upd a5 (6 + c) (z_rtk a0 n 0 (z_rtk a0 n 0 (z_rtk a0 n 0 (z_rtk a0 n 0 (z_rtk a0 n 0 k).1).1).1).1).2.2.2) a6 a7 a8 a9 a10 a11 a12 a13 n _ hn kk4 hle i (.int 99) q5]
                refine ⟨(zp_T_ok a0 n _ kk4).1, show c + 1 ≤ 6 by omega, _, _, _, _, _, _, _, _, vc_va a0 n _ _ hle, ⟨by rw [pk_us], by rw [pk_un (by omega)]; exact r5, by rw [pk_un (by omega)]; exact r6, by rw [pk_un (by omega)]; exact r7, fun i hi => ?_, b, hb8, hto, rg, rv, rs⟩, kp5_c hK c _ _ _ _ _, rfl⟩
                by_cases hic : i = c
                · subst hic
                  rw [pk_us, pk_us, pk_us, pk_us, pk_us, pk_us, pk_us, pk_us]
                  exact ⟨rfl, rfl, rfl, rfl⟩
                · obtain ⟨y1, y2, y3, y4⟩ := rr i (by omega)
                  refine ⟨?_, ?_, ?_, ?_⟩
                  · rw [pk_un (show 6 + i ≠ 6 + c by omega), pk_un hic]; exact y1
                  · rw [pk_un (show 6 + i ≠ 6 + c by omega), pk_un hic]; exact y2
                  · rw [pk_un (show 6 + i ≠ 6 + c by omega), pk_un hic]; exact y3
                  · rw [pk_un (show 6 + i ≠ 6 + c by omega), pk_un hic]; exact y4
              · rw [zp_te_f q5, r_e_nosemi S V th tr (z_va a0 n (z_va a0 n (z_va a0 n (z_va a0 n (z_va a0 n 99 (z_rtk a0 n 0 k).1) (z_rtk a0 n 0 (z_rtk a0 n 0 k).1).1) (z_rtk a0 n 0 (z_rtk a0 n 0 (z_rtk a0 n 0 k).1).1).1) (z_rtk a0 n 0 (z_rtk a0 n 0 (z_rtk a0 n 0 (z_rtk a0 n 0 k).1).1).1).1) (z_rtk a0 n 0 (z_rtk a0 n 0 (z_rtk a0 n 0 (z_rtk a0 n 0 (z_rtk a0 n 0 k).1).1).1).1).1) to um te hd wr a0 (upd a1 4 (nI (c + 1))) (upd a2 (6 + c) (z_rtk a0 n 0 (z_rtk a0 n 0 k).1).2.2.2) (upd a3 (6 + c) (z_rtk a0 n 0 (z_rtk a0 n 0 (z_rtk a0 n 0 k).1).1).2.2.2) (upd a4 (6 + c) (z_rtk a0 n 0 (z_rtk a0 n 0 (z_rtk a0 n 0 (z_rtk a0 n 0 k).1).1).1).2.2.2) (upd a5 (6 + c) (z_rtk a0 n 0 (z_rtk a0 n 0 (z_rtk a0 n 0 (z_rtk a0 n 0 (z_rtk a0 n 0 k).1).1).1).1).2.2.2) a6 a7 a8 a9 a10 a11 a12 a13 n _ i (.int 99) q5]
                exact ⟨kq4, _, _, _, _, _, _, _, _, _, _, _, kp5_c hK c _ _ _ _ _, rfl⟩
            · rw [zp_tn_f q4]
              have kqq : (z_rtk a0 n 0 (z_rtk a0 n 0 (z_rtk a0 n 0 (z_rtk a0 n 0 (z_rtk a0 n 0 k).1).1).1).1).2.2.1 ≤ 120 := Nat.le_trans (zp_T_ok a0 n (z_rtk a0 n 0 (z_rtk a0 n 0 (z_rtk a0 n 0 (z_rtk a0 n 0 k).1).1).1).1 kk3).2.2.1 hn
              have hcall := r_rdc_f4 S V th tr (z_va a0 n 99 (z_rtk a0 n 0 k).1) to um te hd wr a0 a1 a2 a3 a4 a5 a6 a7 a8 a9 a10 a11 a12 a13 n c _ _ _ _ hn k0 hlt hle hv0 r4 rfl rfl rfl q1 q2 q3 q4
              rw [r_e_ok S V th tr 99 to um te hd wr a0 a1 a2 a3 a4 a5 a6 a7 a8 a9 a10 a11 a12 a13 n k hn hk hle i x h6 hl hb _ hcall]
              rw [r_e_fail (q := (z_rtk a0 n 0 (z_rtk a0 n 0 (z_rtk a0 n 0 (z_rtk a0 n 0 (z_rtk a0 n 0 k).1).1).1).1).2.2.1) (hq := kqq) ..]
              exact ⟨kqq, _, _, _, _, _, _, _, _, _, _, _, kp5_c hK c _ _ _ _ _, rfl⟩
          · rw [zp_tn_f q3]
            have kqq : (z_rtk a0 n 0 (z_rtk a0 n 0 (z_rtk a0 n 0 (z_rtk a0 n 0 k).1).1).1).2.2.1 ≤ 120 := Nat.le_trans (zp_T_ok a0 n (z_rtk a0 n 0 (z_rtk a0 n 0 (z_rtk a0 n 0 k).1).1).1 kk2).2.2.1 hn
            have hcall := r_rdc_f3 S V th tr (z_va a0 n 99 (z_rtk a0 n 0 k).1) to um te hd wr a0 a1 a2 a3 a4 a5 a6 a7 a8 a9 a10 a11 a12 a13 n c _ _ _ hn k0 hlt hle hv0 r4 rfl rfl q1 q2 q3
            rw [r_e_ok S V th tr 99 to um te hd wr a0 a1 a2 a3 a4 a5 a6 a7 a8 a9 a10 a11 a12 a13 n k hn hk hle i x h6 hl hb _ hcall]
            rw [r_e_fail (q := (z_rtk a0 n 0 (z_rtk a0 n 0 (z_rtk a0 n 0 (z_rtk a0 n 0 k).1).1).1).2.2.1) (hq := kqq) ..]
            exact ⟨kqq, _, _, _, _, _, _, _, _, _, _, _, kp5_c hK c _ _ _ _ _, rfl⟩
        · rw [zp_tn_f q2]
          have kqq : (z_rtk a0 n 0 (z_rtk a0 n 0 (z_rtk a0 n 0 k).1).1).2.2.1 ≤ 120 := Nat.le_trans (zp_T_ok a0 n (z_rtk a0 n 0 (z_rtk a0 n 0 k).1).1 kk1).2.2.1 hn
          have hcall := r_rdc_f2 S V th tr (z_va a0 n 99 (z_rtk a0 n 0 k).1) to um te hd wr a0 a1 a2 a3 a4 a5 a6 a7 a8 a9 a10 a11 a12 a13 n c _ _ hn k0 hlt hle hv0 r4 rfl q1 q2
          rw [r_e_ok S V th tr 99 to um te hd wr a0 a1 a2 a3 a4 a5 a6 a7 a8 a9 a10 a11 a12 a13 n k hn hk hle i x h6 hl hb _ hcall]
          rw [r_e_fail (q := (z_rtk a0 n 0 (z_rtk a0 n 0 (z_rtk a0 n 0 k).1).1).2.2.1) (hq := kqq) ..]
          exact ⟨kqq, _, _, _, _, _, _, _, _, _, _, _, kp5_c hK c _ _ _ _ _, rfl⟩
      · rw [zp_tn_f q1]
        have kqq : (z_rtk a0 n 0 (z_rtk a0 n 0 k).1).2.2.1 ≤ 120 := Nat.le_trans (zp_T_ok a0 n (z_rtk a0 n 0 k).1 k0).2.2.1 hn
        have hcall := r_rdc_f1 S V th tr (z_va a0 n 99 (z_rtk a0 n 0 k).1) to um te hd wr a0 a1 a2 a3 a4 a5 a6 a7 a8 a9 a10 a11 a12 a13 n c _ hn k0 hlt hle hv0 r4  q1
        rw [r_e_ok S V th tr 99 to um te hd wr a0 a1 a2 a3 a4 a5 a6 a7 a8 a9 a10 a11 a12 a13 n k hn hk hle i x h6 hl hb _ hcall]
        rw [r_e_fail (q := (z_rtk a0 n 0 (z_rtk a0 n 0 k).1).2.2.1) (hq := kqq) ..]
        exact ⟨kqq, _, _, _, _, _, _, _, _, _, _, _, kp5_c hK c _ _ _ _ _, rfl⟩
    · rw [if_neg hlt]
      have hb : ¬ (z_isl (z_rtk a0 n 0 k).2.1 ∧ if va = 99 then a1 4 < 6 else to &&& z_bo va = 0) := by
        rintro ⟨-, z⟩
        rw [if_pos hva, r4] at z
        exact nI_nlt (b := 6) (by omega) (by omega) z
      rw [r_e_bad (hn := hn) (hk := hk) (h6 := h6) (hb := hb) ..]
      exact ⟨kq, _, _, _, _, _, _, _, _, _, _, _, hK, rfl⟩
  rw [if_neg h99]
  by_cases h103 : (z_rtk a0 n 0 k).2.1 = 103
  · rw [if_pos h103]
    have hva : va = 103 := by rw [hvl (Or.inr (Or.inl h103)), h103]
    have hl : z_isl (z_rtk a0 n 0 k).2.1 := Or.inr (Or.inl h103)
    have hn99 : ¬ (103 : Int32) = 99 := by decide
    have hbo : z_bo 103 = 1 := by decide
    by_cases hg : gt = 0
    · rw [if_pos hg]
      have hb : if va = 99 then a1 4 < 6 else to &&& z_bo va = 0 := by rw [hva, if_neg hn99, hbo, hto]; exact t1.mpr (rg.mp hg)
      subst hva
      have hv0 := vc_va a0 n 103 (z_rtk a0 n 0 k).1 hle
      by_cases q1 : zp_num (z_rtk a0 n 0 (z_rtk a0 n 0 k).1) 0 9
      · rw [zp_tn_t q1]
        have kk1 := (zp_T_ok a0 n (z_rtk a0 n 0 k).1 k0).1
        have hcall := r_rdg_ok S V th tr (z_va a0 n 103 (z_rtk a0 n 0 k).1) to um te hd wr a0 a1 a2 a3 a4 a5 a6 a7 a8 a9 a10 a11 a12 a13 n (z_rtk a0 n 0 k).1 hn k0 hle hv0 q1
        rw [r_e_ok S V th tr 103 to um te hd wr a0 a1 a2 a3 a4 a5 a6 a7 a8 a9 a10 a11 a12 a13 n k hn hk hle i x h6 hl hb _ hcall]
        have kq4 : (z_rtk a0 n 0 (z_rtk a0 n 0 (z_rtk a0 n 0 k).1).1).2.2.1 ≤ 120 := Nat.le_trans (zp_T_ok a0 n _ kk1).2.2.1 hn
        by_cases q5 : (z_rtk a0 n 0 (z_rtk a0 n 0 (z_rtk a0 n 0 k).1).1).2.1 = 59
        · rw [zp_te_t q5, r_e_semi S V th tr (z_va a0 n (z_va a0 n 103 (z_rtk a0 n 0 k).1) (z_rtk a0 n 0 (z_rtk a0 n 0 k).1).1) (to ||| 1) um te hd wr a0 (upd a1 5 (z_rtk a0 n 0 (z_rtk a0 n 0 k).1).2.2.2) a2 a3 a4 a5 a6 a7 a8 a9 a10 a11 a12 a13 n _ hn kk1 hle i (.int 103) q5]
          refine ⟨(zp_T_ok a0 n _ kk1).1, hc6, _, _, _, _, _, _, _, _, vc_va a0 n _ _ hle, ⟨by rw [pk_un (by omega)]; exact r4, by rw [pk_us], by rw [pk_un (by omega)]; exact r6, by rw [pk_un (by omega)]; exact r7, rr, b ||| 1, u1, by rw [hto, t4], ⟨fun z => absurd z (by decide), fun z => by omega⟩, by rw [u3]; exact rv, by rw [u4]; exact rs⟩, kp5_1 hK 5 (by decide) _, rfl⟩
        · rw [zp_te_f q5, r_e_nosemi S V th tr (z_va a0 n (z_va a0 n 103 (z_rtk a0 n 0 k).1) (z_rtk a0 n 0 (z_rtk a0 n 0 k).1).1) (to ||| 1) um te hd wr a0 (upd a1 5 (z_rtk a0 n 0 (z_rtk a0 n 0 k).1).2.2.2) a2 a3 a4 a5 a6 a7 a8 a9 a10 a11 a12 a13 n _ i (.int 103) q5]
          exact ⟨kq4, _, _, _, _, _, _, _, _, _, _, _, kp5_1 hK 5 (by decide) _, rfl⟩
      · rw [zp_tn_f q1]
        have kqq : (z_rtk a0 n 0 (z_rtk a0 n 0 k).1).2.2.1 ≤ 120 := Nat.le_trans (zp_T_ok a0 n _ k0).2.2.1 hn
        have hcall := r_rdg_f S V th tr (z_va a0 n 103 (z_rtk a0 n 0 k).1) to um te hd wr a0 a1 a2 a3 a4 a5 a6 a7 a8 a9 a10 a11 a12 a13 n (z_rtk a0 n 0 k).1 hn k0 hle hv0 q1
        rw [r_e_ok S V th tr 103 to um te hd wr a0 a1 a2 a3 a4 a5 a6 a7 a8 a9 a10 a11 a12 a13 n k hn hk hle i x h6 hl hb _ hcall]
        rw [r_e_fail (q := (z_rtk a0 n 0 (z_rtk a0 n 0 k).1).2.2.1) (hq := kqq) ..]
        exact ⟨kqq, _, _, _, _, _, _, _, _, _, _, _, kp5_1 hK 5 (by decide) _, rfl⟩
    · rw [if_neg hg]
      have hb : ¬ (z_isl (z_rtk a0 n 0 k).2.1 ∧ if va = 99 then a1 4 < 6 else to &&& z_bo va = 0) := by
        rintro ⟨-, z⟩
        rw [hva, if_neg hn99, hbo, hto] at z
        exact hg (rg.mpr (t1.mp z))
      rw [r_e_bad (hn := hn) (hk := hk) (h6 := h6) (hb := hb) ..]
      exact ⟨kq, _, _, _, _, _, _, _, _, _, _, _, hK, rfl⟩
  rw [if_neg h103]
  by_cases h118 : (z_rtk a0 n 0 k).2.1 = 118
  · rw [if_pos h118]
    have hva : va = 118 := by rw [hvl (Or.inr (Or.inr (Or.inl h118))), h118]
    have hl : z_isl (z_rtk a0 n 0 k).2.1 := Or.inr (Or.inr (Or.inl h118))
    have hn99 : ¬ (118 : Int32) = 99 := by decide
    have hbo : z_bo 118 = 2 := by decide
    by_cases hg : vt = 0
    · rw [if_pos hg]
      have hb : if va = 99 then a1 4 < 6 else to &&& z_bo va = 0 := by rw [hva, if_neg hn99, hbo, hto]; exact t2.mpr (rv.mp hg)
      subst hva
      have hv0 := vc_va a0 n 118 (z_rtk a0 n 0 k).1 hle
      by_cases q1 : zp_num (z_rtk a0 n 0 (z_rtk a0 n 0 k).1) 0 9
      · rw [zp_tn_t q1]
        have kk1 := (zp_T_ok a0 n (z_rtk a0 n 0 k).1 k0).1
        have hcall := r_rdv_ok S V th tr (z_va a0 n 118 (z_rtk a0 n 0 k).1) to um te hd wr a0 a1 a2 a3 a4 a5 a6 a7 a8 a9 a10 a11 a12 a13 n (z_rtk a0 n 0 k).1 hn k0 hle hv0 q1
        rw [r_e_ok S V th tr 118 to um te hd wr a0 a1 a2 a3 a4 a5 a6 a7 a8 a9 a10 a11 a12 a13 n k hn hk hle i x h6 hl hb _ hcall]
        have kq4 : (z_rtk a0 n 0 (z_rtk a0 n 0 (z_rtk a0 n 0 k).1).1).2.2.1 ≤ 120 := Nat.le_trans (zp_T_ok a0 n _ kk1).2.2.1 hn
        by_cases q5 : (z_rtk a0 n 0 (z_rtk a0 n 0 (z_rtk a0 n 0 k).1).1).2.1 = 59
        · rw [zp_te_t q5, r_e_semi S V th tr (z_va a0 n (z_va a0 n 118 (z_rtk a0 n 0 k).1) (z_rtk a0 n 0 (z_rtk a0 n 0 k).1).1) (to ||| 2) um te hd wr a0 (upd a1 6 (z_rtk a0 n 0 (z_rtk a0 n 0 k).1).2.2.2) a2 a3 a4 a5 a6 a7 a8 a9 a10 a11 a12 a13 n _ hn kk1 hle i (.int 118) q5]
          refine ⟨(zp_T_ok a0 n _ kk1).1, hc6, _, _, _, _, _, _, _, _, vc_va a0 n _ _ hle, ⟨by rw [pk_un (by omega)]; exact r4, by rw [pk_un (by omega)]; exact r5, by rw [pk_us], by rw [pk_un (by omega)]; exact r7, rr, b ||| 2, u5, by rw [hto, t5], by rw [u6]; exact rg, ⟨fun z => absurd z (by decide), fun z => by omega⟩, by rw [u8]; exact rs⟩, kp5_1 hK 6 (by decide) _, rfl⟩
        · rw [zp_te_f q5, r_e_nosemi S V th tr (z_va a0 n (z_va a0 n 118 (z_rtk a0 n 0 k).1) (z_rtk a0 n 0 (z_rtk a0 n 0 k).1).1) (to ||| 2) um te hd wr a0 (upd a1 6 (z_rtk a0 n 0 (z_rtk a0 n 0 k).1).2.2.2) a2 a3 a4 a5 a6 a7 a8 a9 a10 a11 a12 a13 n _ i (.int 118) q5]
          exact ⟨kq4, _, _, _, _, _, _, _, _, _, _, _, kp5_1 hK 6 (by decide) _, rfl⟩
      · rw [zp_tn_f q1]
        have kqq : (z_rtk a0 n 0 (z_rtk a0 n 0 k).1).2.2.1 ≤ 120 := Nat.le_trans (zp_T_ok a0 n _ k0).2.2.1 hn
        have hcall := r_rdv_f S V th tr (z_va a0 n 118 (z_rtk a0 n 0 k).1) to um te hd wr a0 a1 a2 a3 a4 a5 a6 a7 a8 a9 a10 a11 a12 a13 n (z_rtk a0 n 0 k).1 hn k0 hle hv0 q1
        rw [r_e_ok S V th tr 118 to um te hd wr a0 a1 a2 a3 a4 a5 a6 a7 a8 a9 a10 a11 a12 a13 n k hn hk hle i x h6 hl hb _ hcall]
        rw [r_e_fail (q := (z_rtk a0 n 0 (z_rtk a0 n 0 k).1).2.2.1) (hq := kqq) ..]
        exact ⟨kqq, _, _, _, _, _, _, _, _, _, _, _, kp5_1 hK 6 (by decide) _, rfl⟩
    · rw [if_neg hg]
      have hb : ¬ (z_isl (z_rtk a0 n 0 k).2.1 ∧ if va = 99 then a1 4 < 6 else to &&& z_bo va = 0) := by
        rintro ⟨-, z⟩
        rw [hva, if_neg hn99, hbo, hto] at z
        exact hg (rv.mpr (t2.mp z))
      rw [r_e_bad (hn := hn) (hk := hk) (h6 := h6) (hb := hb) ..]
      exact ⟨kq, _, _, _, _, _, _, _, _, _, _, _, hK, rfl⟩
  rw [if_neg h118]
  by_cases h115 : (z_rtk a0 n 0 k).2.1 = 115
  · rw [if_pos h115]
    have hva : va = 115 := by rw [hvl (Or.inr (Or.inr (Or.inr h115))), h115]
    have hl : z_isl (z_rtk a0 n 0 k).2.1 := Or.inr (Or.inr (Or.inr h115))
    have hn99 : ¬ (115 : Int32) = 99 := by decide
    have hbo : z_bo 115 = 4 := by decide
    by_cases hg : st = 0
    · rw [if_pos hg]
      have hb : if va = 99 then a1 4 < 6 else to &&& z_bo va = 0 := by rw [hva, if_neg hn99, hbo, hto]; exact t3.mpr (rs.mp hg)
      subst hva
      have hv0 := vc_va a0 n 115 (z_rtk a0 n 0 k).1 hle
      by_cases q1 : zp_num (z_rtk a0 n 0 (z_rtk a0 n 0 k).1) 1 60
      · rw [zp_tn_t q1]
        have kk1 := (zp_T_ok a0 n (z_rtk a0 n 0 k).1 k0).1
        have hcall := r_rds_ok S V th tr (z_va a0 n 115 (z_rtk a0 n 0 k).1) to um te hd wr a0 a1 a2 a3 a4 a5 a6 a7 a8 a9 a10 a11 a12 a13 n (z_rtk a0 n 0 k).1 hn k0 hle hv0 q1
        rw [r_e_ok S V th tr 115 to um te hd wr a0 a1 a2 a3 a4 a5 a6 a7 a8 a9 a10 a11 a12 a13 n k hn hk hle i x h6 hl hb _ hcall]
        have kq4 : (z_rtk a0 n 0 (z_rtk a0 n 0 (z_rtk a0 n 0 k).1).1).2.2.1 ≤ 120 := Nat.le_trans (zp_T_ok a0 n _ kk1).2.2.1 hn
        by_cases q5 : (z_rtk a0 n 0 (z_rtk a0 n 0 (z_rtk a0 n 0 k).1).1).2.1 = 59
        · rw [zp_te_t q5, r_e_semi S V th tr (z_va a0 n (z_va a0 n 115 (z_rtk a0 n 0 k).1) (z_rtk a0 n 0 (z_rtk a0 n 0 k).1).1) (to ||| 4) um te hd wr a0 (upd a1 7 (z_rtk a0 n 0 (z_rtk a0 n 0 k).1).2.2.2) a2 a3 a4 a5 a6 a7 a8 a9 a10 a11 a12 a13 n _ hn kk1 hle i (.int 115) q5]
          refine ⟨(zp_T_ok a0 n _ kk1).1, hc6, _, _, _, _, _, _, _, _, vc_va a0 n _ _ hle, ⟨by rw [pk_un (by omega)]; exact r4, by rw [pk_un (by omega)]; exact r5, by rw [pk_un (by omega)]; exact r6, by rw [pk_us], rr, b ||| 4, u9, by rw [hto, t6], by rw [u10]; exact rg, by rw [u11]; exact rv, ⟨fun z => absurd z (by decide), fun z => by omega⟩⟩, kp5_1 hK 7 (by decide) _, rfl⟩
        · rw [zp_te_f q5, r_e_nosemi S V th tr (z_va a0 n (z_va a0 n 115 (z_rtk a0 n 0 k).1) (z_rtk a0 n 0 (z_rtk a0 n 0 k).1).1) (to ||| 4) um te hd wr a0 (upd a1 7 (z_rtk a0 n 0 (z_rtk a0 n 0 k).1).2.2.2) a2 a3 a4 a5 a6 a7 a8 a9 a10 a11 a12 a13 n _ i (.int 115) q5]
          exact ⟨kq4, _, _, _, _, _, _, _, _, _, _, _, kp5_1 hK 7 (by decide) _, rfl⟩
      · rw [zp_tn_f q1]
        have kqq : (z_rtk a0 n 0 (z_rtk a0 n 0 k).1).2.2.1 ≤ 120 := Nat.le_trans (zp_T_ok a0 n _ k0).2.2.1 hn
        have hcall := r_rds_f S V th tr (z_va a0 n 115 (z_rtk a0 n 0 k).1) to um te hd wr a0 a1 a2 a3 a4 a5 a6 a7 a8 a9 a10 a11 a12 a13 n (z_rtk a0 n 0 k).1 hn k0 hle hv0 q1
        rw [r_e_ok S V th tr 115 to um te hd wr a0 a1 a2 a3 a4 a5 a6 a7 a8 a9 a10 a11 a12 a13 n k hn hk hle i x h6 hl hb _ hcall]
        rw [r_e_fail (q := (z_rtk a0 n 0 (z_rtk a0 n 0 k).1).2.2.1) (hq := kqq) ..]
        exact ⟨kqq, _, _, _, _, _, _, _, _, _, _, _, kp5_1 hK 7 (by decide) _, rfl⟩
    · rw [if_neg hg]
      have hb : ¬ (z_isl (z_rtk a0 n 0 k).2.1 ∧ if va = 99 then a1 4 < 6 else to &&& z_bo va = 0) := by
        rintro ⟨-, z⟩
        rw [hva, if_neg hn99, hbo, hto] at z
        exact hg (rs.mpr (t3.mp z))
      rw [r_e_bad (hn := hn) (hk := hk) (h6 := h6) (hb := hb) ..]
      exact ⟨kq, _, _, _, _, _, _, _, _, _, _, _, hK, rfl⟩
  rw [if_neg h115]
  have hb : ¬ (z_isl (z_rtk a0 n 0 k).2.1 ∧ if va = 99 then a1 4 < 6 else to &&& z_bo va = 0) := by
    rintro ⟨z, -⟩
    rcases z with z | z | z | z
    · exact h99 z
    · exact h103 z
    · exact h118 z
    · exact h115 z
  rw [r_e_bad (hn := hn) (hk := hk) (h6 := h6) (hb := hb) ..]
  exact ⟨kq, _, _, _, _, _, _, _, _, _, _, _, hK, rfl⟩
