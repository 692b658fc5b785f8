/-! the reference: shakes -/
def r_ch (s : Nat → Int32) (k : Nat) (HD WR A B H sh : Int32) : Nat → Int32 := upd (upd (upd (upd (upd (upd s k HD) (6 + k) WR) 12 A) 13 B) 15 H) 14 (sh + 1)
def r_ch2 (s : Nat → Int32) (k : Nat) (HD WR A B H sh : Int32) : Nat → Int32 := upd (upd (r_ch s k HD WR A B H sh) 14 0) 17 (nI (k + 1))
theorem r_ch_at (s : Nat → Int32) (k : Nat) (hk : k < 6) (HD WR A B H sh : Int32) : (∀ i, i < 6 → r_ch s k HD WR A B H sh i = (if i = k then HD else s i) ∧ r_ch s k HD WR A B H sh (6 + i) = (if i = k then WR else s (6 + i))) ∧ r_ch s k HD WR A B H sh 12 = A ∧ r_ch s k HD WR A B H sh 13 = B ∧ r_ch s k HD WR A B H sh 14 = sh + 1 ∧ r_ch s k HD WR A B H sh 15 = H ∧ r_ch s k HD WR A B H sh 16 = s 16 ∧ r_ch s k HD WR A B H sh 17 = s 17 := by
  unfold r_ch
  refine ⟨fun i hi => ⟨?_, ?_⟩, ?_, ?_, ?_, ?_, ?_, ?_⟩
  · rw [pk_un (by omega), pk_un (by omega), pk_un (by omega), pk_un (by omega), pk_un (by omega)]
    by_cases h : i = k
    · rw [if_pos h, h, pk_us]
    · rw [if_neg h, pk_un h]
  · rw [pk_un (by omega), pk_un (by omega), pk_un (by omega), pk_un (by omega)]
    by_cases h : i = k
    · rw [if_pos h, h, pk_us]
    · rw [if_neg h, pk_un (by omega), pk_un (by omega)]
  · rw [pk_un (by omega), pk_un (by omega), pk_un (by omega), pk_us]
  · rw [pk_un (by omega), pk_un (by omega), pk_us]
  · rw [pk_us]
  · rw [pk_un (by omega), pk_us]
  · rw [pk_un (by omega), pk_un (by omega), pk_un (by omega), pk_un (by omega), pk_un (by omega), pk_un (by omega)]
  · rw [pk_un (by omega), pk_un (by omega), pk_un (by omega), pk_un (by omega), pk_un (by omega), pk_un (by omega)]
theorem MR_ch {n k : Nat} {s br wm br2 wm2 : Nat → Int32} {yi lf sh hu ve so : Int32} (hn : n ≤ 6) (hk : k < n) (h : MR n (br, wm, yi, lf, sh, hu, ve, so) s) {HD WR A B H : Int32} (hA : ∃ y, y < 2 ^ n ∧ A = nI y) (hB : ∃ y, y < 2 ^ n ∧ B = nI y) (hH : H ≤ 999) (hbr : ∀ i, i < 6 → br2 i = if i = k then HD else br i) (hwm : ∀ i, i < 6 → wm2 i = if i = k then WR else wm i) :
    MR n (br2, wm2, A, B, sh + 1, H, ve, so) (r_ch s k HD WR A B H sh) ∧ MR n (br2, wm2, A, B, 0, H, ve, nI k) (r_ch2 s k HD WR A B H sh) := by
  obtain ⟨h1, h2, h3, h4, h5, h6, h7, h8, h9, h10⟩ := h
  obtain ⟨q1, q2, q3, q4, q5, q6, q7⟩ := r_ch_at s k (by omega) HD WR A B H sh
  constructor
  · refine ⟨fun i hi => ?_, q2, q3, q4, q5, q6.trans h6, ?_, hA, hB, hH⟩
    · rw [(q1 i hi).1, (q1 i hi).2, (h1 i hi).1, (h1 i hi).2]
      exact ⟨(hbr i hi).symm, (hwm i hi).symm⟩
    · rw [q7]
      exact h7
  · unfold r_ch2
    refine ⟨fun i hi => ?_, ?_, ?_, ?_, ?_, ?_, ?_, hA, hB, hH⟩
    · rw [pk_un (by omega), pk_un (by omega), pk_un (by omega), pk_un (by omega), (q1 i hi).1, (q1 i hi).2, (h1 i hi).1, (h1 i hi).2]
      exact ⟨(hbr i hi).symm, (hwm i hi).symm⟩
    · rw [pk_un (by omega), pk_un (by omega)]
      exact q2
    · rw [pk_un (by omega), pk_un (by omega)]
      exact q3
    · rw [pk_un (by omega), pk_us]
    · rw [pk_un (by omega), pk_un (by omega)]
      exact q5
    · rw [pk_un (by omega), pk_un (by omega)]
      exact q6.trans h6
    · exact Or.inr ⟨k, hk, rfl, by rw [pk_us]⟩
theorem z_s1_eq (pr ha t gr ve hd wr : Int32) (ht : t = 0 ∨ t = 1) : z_s1 pr ha t gr ve hd wr = if ha ≤ wr + (if t = 1 then 2 * ve else ve) ∧ pr ≤ hd + (if t = 1 then 0 else gr) then (1, 0, 0) else (if pr + 10 < hd + (if t = 1 then 0 else gr) then 2 else 0, hd + (if t = 1 then 0 else gr), wr + (if t = 1 then 2 * ve else ve)) := by
  unfold z_s1
  rcases ht with rfl | rfl
  · rfl
  · rfl
theorem r_shakes_b (S : ai_S) (V : sv_V) (th : Int32) (tr : Int64) (ty : Int32) (nx : Int32) (tk : Int32) (pl : Int32) (va : Int32) (fa : Int32) (to : Int32) (um : Int32) (te : Int32) (hd : Int32) (wr : Int32) (a0 : Nat → Int32) (a1 : Nat → Int32) (a2 : Nat → Int32) (a3 : Nat → Int32) (a4 : Nat → Int32) (a5 : Nat → Int32) (a6 : Nat → Int32) (a7 : Nat → Int32) (a8 : Nat → Int32) (a9 : Nat → Int32) (a10 : Nat → Int32) (a11 : Nat → Int32) (a12 : Nat → Int32) (a13 : Nat → Int32) (hN : z_N (a1 0)) (c t : Int32) (hb : ¬ ((0 ≤ c ∧ c < a1 0) ∧ (0 ≤ t ∧ t ≤ 1))) : ai_call S 111 [.ref 62, .int c, .int t] (HP V ((th, tr, ty, nx, tk, pl, va, fa, to, um, te, hd, wr), (a0, a1, a2, a3, a4, a5, a6, a7, a8, a9, a10, a11, a12, a13))) = some (some (.int (-1)), HP V ((0, tr, ty, nx, tk, pl, va, fa, to, um, te, hd, wr), (a0, a1, a2, a3, a4, a5, a6, a7, a8, a9, a10, a11, a12, a13))) := by
  rw [e_111]
  by_cases h1 : 0 ≤ c ∧ c < a1 0
  · have h2 : ¬ (0 ≤ t ∧ t ≤ 1) := fun z => hb ⟨h1, z⟩
    simp only [k_111_0, k_111_1, k_111_2, k_111_3, k_111_4, w_l5, gl_0, va_r, va_n, w_c0, w_putI, pd_0, w_l3, gl_1, vi_i, t_18_2, rc_0, io_d, t_2, gl_2, t_19_3, rc_1, t_3, t_23, z10, z01, z_bT, z_bF, true_or, or_true, false_or, or_false, Option.bind_some, Option.toList_some, Option.toList_none, List.cons_append, List.nil_append, List.length_cons, List.length_nil, Nat.zero_add, Nat.reduceAdd, Nat.reduceLeDiff, and_self, and_true, true_and, if_true, if_false, reduceCtorEq, ne_eq, not_false_eq_true, not_true_eq_false, ↓reduceIte, Nat.reduceEqDiff, Bool.not_not, r_in, r_isCaller, hN, z_b_t h1, z_b_f h2]
  · simp only [k_111_0, k_111_1, k_111_2, k_111_3, k_111_4, w_l5, gl_0, va_r, va_n, w_c0, w_putI, pd_0, w_l3, gl_1, vi_i, t_18_2, rc_0, io_d, t_2, gl_2, t_19_3, rc_1, t_3, t_23, z10, z01, z_bT, z_bF, true_or, or_true, false_or, or_false, Option.bind_some, Option.toList_some, Option.toList_none, List.cons_append, List.nil_append, List.length_cons, List.length_nil, Nat.zero_add, Nat.reduceAdd, Nat.reduceLeDiff, and_self, and_true, true_and, if_true, if_false, reduceCtorEq, ne_eq, not_false_eq_true, not_true_eq_false, ↓reduceIte, Nat.reduceEqDiff, Bool.not_not, r_in, r_isCaller, hN, z_b_f h1]
theorem r_shakes_s (S : ai_S) (V : sv_V) (th : Int32) (tr : Int64) (ty : Int32) (nx : Int32) (tk : Int32) (pl : Int32) (va : Int32) (fa : Int32) (to : Int32) (um : Int32) (te : Int32) (hd : Int32) (wr : Int32) (a0 : Nat → Int32) (a1 : Nat → Int32) (a2 : Nat → Int32) (a3 : Nat → Int32) (a4 : Nat → Int32) (a5 : Nat → Int32) (a6 : Nat → Int32) (a7 : Nat → Int32) (a8 : Nat → Int32) (a9 : Nat → Int32) (a10 : Nat → Int32) (a11 : Nat → Int32) (a12 : Nat → Int32) (a13 : Nat → Int32) (hN : z_N (a1 0)) (k : Nat) (t : Int32) (h1 : 0 ≤ nI k ∧ nI k < a1 0) (h2 : 0 ≤ t ∧ t ≤ 1) (hs : 0 < a6 17 ∨ z_bit (a6 13) k) : ai_call S 111 [.ref 62, .int (nI k), .int t] (HP V ((th, tr, ty, nx, tk, pl, va, fa, to, um, te, hd, wr), (a0, a1, a2, a3, a4, a5, a6, a7, a8, a9, a10, a11, a12, a13))) = some (some (.int (-2)), HP V ((0, tr, ty, nx, tk, pl, va, fa, to, um, te, hd, wr), (a0, a1, a2, a3, a4, a5, a6, a7, a8, a9, a10, a11, a12, a13))) := by
  rw [e_111]
  by_cases h3 : 0 < a6 17
  · simp only [k_111_0, k_111_1, k_111_2, k_111_3, k_111_5, k_111_8, w_l5, gl_0, va_r, va_n, w_c0, w_putI, pd_0, w_l3, gl_1, vi_i, t_18_2, rc_0, io_d, t_2, gl_2, t_19_3, rc_1, t_3, w_get, gd_15, id_6, zd_6, w_c1, w_ald, t_6, t_23, z10, z01, z_bT, z_bF, true_or, or_true, false_or, or_false, Option.bind_some, Option.toList_some, Option.toList_none, List.cons_append, List.nil_append, List.length_cons, List.length_nil, Nat.zero_add, Nat.reduceAdd, Nat.reduceLeDiff, and_self, and_true, true_and, if_true, if_false, reduceCtorEq, ne_eq, not_false_eq_true, not_true_eq_false, ↓reduceIte, Nat.reduceEqDiff, Bool.not_not, rl_0_8, rl_1_8, rl_2_8, rl_3_8, rl_4_8, rl_5_8, rl_6_8, rl_7_8, rl_12_18, rl_13_18, rl_14_18, rl_15_18, rl_16_18, rl_17_18, rl_0_2, rl_1_2, cl_0, cl_1, cl_2, cl_3, cl_4, cl_5, cl_6, cl_7, cl_8, cl_9, cl_10, cl_11, cl_12, cl_13, cl_14, cl_15, cl_16, cl_17, r_in, r_isCaller, hN, z_b_t h1, z_b_t h2, h3]
  · have hl : (a6 13 >>> (nI k &&& 31)) &&& 1 = 1 := hs.resolve_left h3
    simp only [k_111_0, k_111_1, k_111_2, k_111_3, k_111_5, k_111_6, k_111_7, k_111_8, w_l5, gl_0, va_r, va_n, w_c0, w_putI, pd_0, w_l3, gl_1, vi_i, t_18_2, rc_0, io_d, t_2, gl_2, t_19_3, rc_1, t_3, w_get, gd_15, id_6, zd_6, w_c1, w_ald, t_6, t_19_2, t_23, z10, z01, z_bT, z_bF, true_or, or_true, false_or, or_false, Option.bind_some, Option.toList_some, Option.toList_none, List.cons_append, List.nil_append, List.length_cons, List.length_nil, Nat.zero_add, Nat.reduceAdd, Nat.reduceLeDiff, and_self, and_true, true_and, if_true, if_false, reduceCtorEq, ne_eq, not_false_eq_true, not_true_eq_false, ↓reduceIte, Nat.reduceEqDiff, Bool.not_not, rl_0_8, rl_1_8, rl_2_8, rl_3_8, rl_4_8, rl_5_8, rl_6_8, rl_7_8, rl_12_18, rl_13_18, rl_14_18, rl_15_18, rl_16_18, rl_17_18, rl_0_2, rl_1_2, cl_0, cl_1, cl_2, cl_3, cl_4, cl_5, cl_6, cl_7, cl_8, cl_9, cl_10, cl_11, cl_12, cl_13, cl_14, cl_15, cl_16, cl_17, r_in, r_isCaller, hN, z_b_t h1, z_b_t h2, h3, r_has, z_b_t hl]
set_option maxHeartbeats 16000000 in
theorem r_shakes (S : ai_S) (V : sv_V) (th : Int32) (tr : Int64) (ty : Int32) (nx : Int32) (tk : Int32) (pl : Int32) (va : Int32) (fa : Int32) (to : Int32) (um : Int32) (te : Int32) (hd : Int32) (wr : Int32) (a0 : Nat → Int32) (a1 : Nat → Int32) (a2 : Nat → Int32) (a3 : Nat → Int32) (a4 : Nat → Int32) (a5 : Nat → Int32) (a6 : Nat → Int32) (a7 : Nat → Int32) (a8 : Nat → Int32) (a9 : Nat → Int32) (a10 : Nat → Int32) (a11 : Nat → Int32) (a12 : Nat → Int32) (a13 : Nat → Int32) (n k u : Nat) (hn : n ≤ 6) (hk : k < n) (ha1 : a1 0 = nI n) (hu' : u ≤ 10) (t gr sg : Int32) (ht : t = 0 ∨ t = 1) (hgr : a1 1 = gr) (hsg : a1 3 = sg) (pr ha br wm : Nat → Int32) (yi lf sh hu ve so : Int32) (hp : a2 k = pr k) (hh : a3 k = ha k) (hM : MR n (br, wm, yi, lf, sh, hu, ve, so) a6) (h9 : so = -9) (hl : ¬ z_bit lf k) :
    ∃ a6' a9' hd' wr', MR n (z_shk gr sg pr ha br wm yi lf sh hu ve so k t).2 a6' ∧ UN u a6 a9 a9' ∧ ai_call S 111 [.ref 62, .int (nI k), .int t] (HP V ((th, tr, ty, nx, tk, pl, va, fa, to, nI u, te, hd, wr), (a0, a1, a2, a3, a4, a5, a6, a7, a8, a9, a10, a11, a12, a13))) = some (some (.int (z_shk gr sg pr ha br wm yi lf sh hu ve so k t).1), HP V ((0, tr, ty, nx, tk, pl, va, fa, to, nI (min 10 (u + 1)), te, hd', wr'), (a0, a1, a2, a3, a4, a5, a6', a7, a8, a9', a10, a11, a12, a13))) := by
  obtain ⟨b9, hU, hC⟩ := r_notesU S V 0 tr ty nx tk pl va fa to um te hd wr a0 a1 a2 a3 a4 a5 a6 a7 a8 a9 a10 a11 a12 a13 u hu'
  have hN : z_N (nI n) := ⟨n, hn, rfl⟩
  have hc := z_inr2 hk hn
  have hk6 : k < 6 := by omega
  have i18 : k < 18 := by omega
  have i18b : 6 + k < 18 := by omega
  have c1 := nI_clamp (n := k) (by omega)
  have c2 := nI_clamp (n := 6 + k) (by omega)
  have ht2 : 0 ≤ t ∧ t ≤ 1 := by rcases ht with rfl | rfl <;> decide
  have hl' : ¬ (lf >>> (nI k &&& 31)) &&& 1 = 1 := hl
  have hz := z_s1_eq (pr k) (ha k) t gr ve (br k) (wm k) ht
  have hMM := hM
  obtain ⟨m1, m12, m13, m14, m15, m16, m17, ⟨y, hy1, hy2⟩, ⟨l, hl1, hl2⟩, m999⟩ := hMM
  have m0 := (m1 k hk6).1
  have m6 := (m1 k hk6).2
  dsimp only at m0 m6 m12 m13 m14 m15 m16 m17 hy2 hl2 m999
  have m17' : a6 17 = 0 := by
    rcases m17 with h | ⟨c, hc1, hc2, hc3⟩
    · exact h.2
    · exfalso
      rw [h9] at hc2
      have := nI_pos' (n := c) (by omega)
      rw [← hc2] at this
      exact absurd this (by decide)
  have n12 : ¬ 12 = k := by omega
  have n13 : ¬ 13 = k := by omega
  have n14 : ¬ 14 = k := by omega
  have n15 : ¬ 15 = k := by omega
  have n12b : ¬ 12 = 6 + k := by omega
  have n13b : ¬ 13 = 6 + k := by omega
  have n14b : ¬ 14 = 6 + k := by omega
  have n15b : ¬ 15 = 6 + k := by omega
  have hA : ∃ y, y < 2 ^ n ∧ yi = nI y := ⟨y, hy1, hy2⟩
  have hB : ∃ y, y < 2 ^ n ∧ lf = nI y := ⟨l, hl1, hl2⟩
  have hA2 : ∃ y, y < 2 ^ n ∧ yi ||| z_one k = nI y := ⟨_, (z_one_or n hn k hk y hy1).2, by rw [hy2]; exact (z_one_or n hn k hk y hy1).1⟩
  have hB2 : ∃ y, y < 2 ^ n ∧ lf ||| z_one k = nI y := ⟨_, (z_one_or n hn k hk l hl1).2, by rw [hl2]; exact (z_one_or n hn k hk l hl1).1⟩
  have u2 : ∀ (f : Nat → Int32) (x z : Int32) (i : Nat), upd (upd f k x) k z i = if i = k then z else f i := by
    intro f x z i
    by_cases h : i = k
    · rw [if_pos h, h, pk_us]
    · rw [if_neg h, pk_un h, pk_un h]
  have u1 : ∀ (f : Nat → Int32) (z : Int32) (i : Nat), upd f k z i = if i = k then z else f i := by
    intro f z i
    by_cases h : i = k
    · rw [if_pos h, h, pk_us]
    · rw [if_neg h, pk_un h]
  have hH1 : 999 ≤ (999 : Int32) := by decide
  have e21 : ((2 : Int32) = 1) = False := eq_false (by decide)
  have e02 : ((0 : Int32) = 2) = False := eq_false (by decide)
  have e12 : ((1 : Int32) = 2) = False := eq_false (by decide)
  unfold z_shk
  generalize hW : wm k + (if t = 1 then 2 * ve else ve) = W at hz ⊢
  generalize hBB : br k + (if t = 1 then 0 else gr) = BB at hz ⊢
  rw [e_111]

  by_cases hy : ha k ≤ W ∧ pr k ≤ BB
  · rw [if_pos hy]
    rw [if_pos hy] at hz
    dsimp only
    by_cases t1 : t = 1
    · rw [if_pos t1]
      by_cases h99 : 999 < hu + gr
      · have h98 := Int32.not_le.mpr h99
        rw [if_neg (Int32.not_lt.mpr (Int32.le_of_lt h99))]
        by_cases hg : sh + 1 = sg
        · rw [if_pos hg, if_pos hg]
          refine ⟨r_ch2 a6 k 0 0 (yi ||| z_one k) lf 999 sh, b9, 0, 0, (MR_ch hn hk hM hA2 hB hH1 (fun i _ => u2 _ _ _ i) (fun i _ => u2 _ _ _ i)).2, hU, ?_⟩
          simp only [k_111_0, k_111_1, k_111_2, k_111_3, k_111_4, k_111_5, k_111_6, k_111_7, k_111_8, k_111_9, k_111_10, k_111_11, k_111_12, k_111_13, k_111_14, k_111_15, k_111_16, k_111_17, k_111_18, k_111_19, k_111_20, k_111_21, k_111_22, k_111_23, k_111_24, k_111_25, k_111_26, w_l5, gl_0, va_r, va_n, w_c0, w_putI, pd_0, w_l3, gl_1, vi_i, t_18_2, rc_0, io_d, t_2, gl_2, t_19_3, rc_1, t_3, t_23, w_get, gd_15, id_6, zd_6, w_c1, w_ald, t_6, t_19_2, t_18_1, gd_10, id_1, zd_1, t_18_5, w_s6, sl_3, ll_3, w_b10, gd_24, w_ast, gd_25, w_dup2, gl_3, t_9, w_b15, t_1, t_0, w_b14, w_s7, sl_4, ll_4, w_l4, gl_4, w_c2, t_13, z10, z01, z_bT, z_bF, true_or, or_true, false_or, or_false, Option.bind_some, Option.toList_some, Option.toList_none, List.cons_append, List.nil_append, List.length_cons, List.length_nil, Nat.zero_add, Nat.reduceAdd, Nat.reduceLeDiff, and_self, and_true, true_and, if_true, if_false, reduceCtorEq, ne_eq, not_false_eq_true, not_true_eq_false, ↓reduceIte, Nat.reduceEqDiff, Bool.not_not, rl_0_8, rl_1_8, rl_2_8, rl_3_8, rl_4_8, rl_5_8, rl_6_8, rl_7_8, rl_12_18, rl_13_18, rl_14_18, rl_15_18, rl_16_18, rl_17_18, rl_0_2, rl_1_2, cl_0, cl_1, cl_2, cl_3, cl_4, cl_5, cl_6, cl_7, cl_8, cl_9, cl_10, cl_11, cl_12, cl_13, cl_14, cl_15, cl_16, cl_17, Int32.reduceLT, Int32.lt_irrefl, r_in, r_isCaller, hN, ha1, hgr, hsg, z_b_t hc, z_b_t ht2, m17', m12, m13, m14, m15, m16, r_has, z_b_f hl', hC, r_aside, hk6, m0, m6, r_shake, hp, hh, hz, z_add0, z_add6, rg_n i18 (by omega), rg_n i18b (by omega), c1, c2, pk_us, pk_un, n12, n13, n14, n15, n12b, n13b, n14b, n15b, e21, e02, e12, nI_1, Int32.or_zero, Int32.add_zero, eq_self, eq_true t1, h98, eq_true hg]
          rfl
        · rw [if_neg hg, if_neg hg]
          refine ⟨r_ch a6 k 0 0 (yi ||| z_one k) lf 999 sh, b9, 0, 0, (MR_ch hn hk hM hA2 hB hH1 (fun i _ => u2 _ _ _ i) (fun i _ => u2 _ _ _ i)).1, hU, ?_⟩
          simp only [k_111_0, k_111_1, k_111_2, k_111_3, k_111_4, k_111_5, k_111_6, k_111_7, k_111_8, k_111_9, k_111_10, k_111_11, k_111_12, k_111_13, k_111_14, k_111_15, k_111_16, k_111_17, k_111_18, k_111_19, k_111_20, k_111_21, k_111_22, k_111_23, k_111_24, k_111_25, k_111_26, w_l5, gl_0, va_r, va_n, w_c0, w_putI, pd_0, w_l3, gl_1, vi_i, t_18_2, rc_0, io_d, t_2, gl_2, t_19_3, rc_1, t_3, t_23, w_get, gd_15, id_6, zd_6, w_c1, w_ald, t_6, t_19_2, t_18_1, gd_10, id_1, zd_1, t_18_5, w_s6, sl_3, ll_3, w_b10, gd_24, w_ast, gd_25, w_dup2, gl_3, t_9, w_b15, t_1, t_0, w_b14, w_s7, sl_4, ll_4, w_l4, gl_4, w_c2, t_13, z10, z01, z_bT, z_bF, true_or, or_true, false_or, or_false, Option.bind_some, Option.toList_some, Option.toList_none, List.cons_append, List.nil_append, List.length_cons, List.length_nil, Nat.zero_add, Nat.reduceAdd, Nat.reduceLeDiff, and_self, and_true, true_and, if_true, if_false, reduceCtorEq, ne_eq, not_false_eq_true, not_true_eq_false, ↓reduceIte, Nat.reduceEqDiff, Bool.not_not, rl_0_8, rl_1_8, rl_2_8, rl_3_8, rl_4_8, rl_5_8, rl_6_8, rl_7_8, rl_12_18, rl_13_18, rl_14_18, rl_15_18, rl_16_18, rl_17_18, rl_0_2, rl_1_2, cl_0, cl_1, cl_2, cl_3, cl_4, cl_5, cl_6, cl_7, cl_8, cl_9, cl_10, cl_11, cl_12, cl_13, cl_14, cl_15, cl_16, cl_17, Int32.reduceLT, Int32.lt_irrefl, r_in, r_isCaller, hN, ha1, hgr, hsg, z_b_t hc, z_b_t ht2, m17', m12, m13, m14, m15, m16, r_has, z_b_f hl', hC, r_aside, hk6, m0, m6, r_shake, hp, hh, hz, z_add0, z_add6, rg_n i18 (by omega), rg_n i18b (by omega), c1, c2, pk_us, pk_un, n12, n13, n14, n15, n12b, n13b, n14b, n15b, e21, e02, e12, nI_1, Int32.or_zero, Int32.add_zero, eq_self, eq_true t1, h98, hg]
          rfl
      · have h98 : hu + gr ≤ 999 := Int32.not_lt.mp h99
        have h97 : (if hu + gr < 999 then hu + gr else 999) = hu + gr := by
          by_cases h96 : hu + gr < 999
          · rw [if_pos h96]
          · rw [if_neg h96]; exact Int32.le_antisymm (Int32.not_lt.mp h96) h98
        rw [h97]
        by_cases hg : sh + 1 = sg
        · rw [if_pos hg, if_pos hg]
          refine ⟨r_ch2 a6 k 0 0 (yi ||| z_one k) lf (hu + gr) sh, b9, 0, 0, (MR_ch hn hk hM hA2 hB h98 (fun i _ => u2 _ _ _ i) (fun i _ => u2 _ _ _ i)).2, hU, ?_⟩
          simp only [k_111_0, k_111_1, k_111_2, k_111_3, k_111_4, k_111_5, k_111_6, k_111_7, k_111_8, k_111_9, k_111_10, k_111_11, k_111_12, k_111_13, k_111_14, k_111_15, k_111_16, k_111_17, k_111_18, k_111_19, k_111_20, k_111_21, k_111_22, k_111_23, k_111_24, k_111_25, k_111_26, w_l5, gl_0, va_r, va_n, w_c0, w_putI, pd_0, w_l3, gl_1, vi_i, t_18_2, rc_0, io_d, t_2, gl_2, t_19_3, rc_1, t_3, t_23, w_get, gd_15, id_6, zd_6, w_c1, w_ald, t_6, t_19_2, t_18_1, gd_10, id_1, zd_1, t_18_5, w_s6, sl_3, ll_3, w_b10, gd_24, w_ast, gd_25, w_dup2, gl_3, t_9, w_b15, t_1, t_0, w_b14, w_s7, sl_4, ll_4, w_l4, gl_4, w_c2, t_13, z10, z01, z_bT, z_bF, true_or, or_true, false_or, or_false, Option.bind_some, Option.toList_some, Option.toList_none, List.cons_append, List.nil_append, List.length_cons, List.length_nil, Nat.zero_add, Nat.reduceAdd, Nat.reduceLeDiff, and_self, and_true, true_and, if_true, if_false, reduceCtorEq, ne_eq, not_false_eq_true, not_true_eq_false, ↓reduceIte, Nat.reduceEqDiff, Bool.not_not, rl_0_8, rl_1_8, rl_2_8, rl_3_8, rl_4_8, rl_5_8, rl_6_8, rl_7_8, rl_12_18, rl_13_18, rl_14_18, rl_15_18, rl_16_18, rl_17_18, rl_0_2, rl_1_2, cl_0, cl_1, cl_2, cl_3, cl_4, cl_5, cl_6, cl_7, cl_8, cl_9, cl_10, cl_11, cl_12, cl_13, cl_14, cl_15, cl_16, cl_17, Int32.reduceLT, Int32.lt_irrefl, r_in, r_isCaller, hN, ha1, hgr, hsg, z_b_t hc, z_b_t ht2, m17', m12, m13, m14, m15, m16, r_has, z_b_f hl', hC, r_aside, hk6, m0, m6, r_shake, hp, hh, hz, z_add0, z_add6, rg_n i18 (by omega), rg_n i18b (by omega), c1, c2, pk_us, pk_un, n12, n13, n14, n15, n12b, n13b, n14b, n15b, e21, e02, e12, nI_1, Int32.or_zero, Int32.add_zero, eq_self, eq_true t1, h98, eq_true hg]
          rfl
        · rw [if_neg hg, if_neg hg]
          refine ⟨r_ch a6 k 0 0 (yi ||| z_one k) lf (hu + gr) sh, b9, 0, 0, (MR_ch hn hk hM hA2 hB h98 (fun i _ => u2 _ _ _ i) (fun i _ => u2 _ _ _ i)).1, hU, ?_⟩
          simp only [k_111_0, k_111_1, k_111_2, k_111_3, k_111_4, k_111_5, k_111_6, k_111_7, k_111_8, k_111_9, k_111_10, k_111_11, k_111_12, k_111_13, k_111_14, k_111_15, k_111_16, k_111_17, k_111_18, k_111_19, k_111_20, k_111_21, k_111_22, k_111_23, k_111_24, k_111_25, k_111_26, w_l5, gl_0, va_r, va_n, w_c0, w_putI, pd_0, w_l3, gl_1, vi_i, t_18_2, rc_0, io_d, t_2, gl_2, t_19_3, rc_1, t_3, t_23, w_get, gd_15, id_6, zd_6, w_c1, w_ald, t_6, t_19_2, t_18_1, gd_10, id_1, zd_1, t_18_5, w_s6, sl_3, ll_3, w_b10, gd_24, w_ast, gd_25, w_dup2, gl_3, t_9, w_b15, t_1, t_0, w_b14, w_s7, sl_4, ll_4, w_l4, gl_4, w_c2, t_13, z10, z01, z_bT, z_bF, true_or, or_true, false_or, or_false, Option.bind_some, Option.toList_some, Option.toList_none, List.cons_append, List.nil_append, List.length_cons, List.length_nil, Nat.zero_add, Nat.reduceAdd, Nat.reduceLeDiff, and_self, and_true, true_and, if_true, if_false, reduceCtorEq, ne_eq, not_false_eq_true, not_true_eq_false, ↓reduceIte, Nat.reduceEqDiff, Bool.not_not, rl_0_8, rl_1_8, rl_2_8, rl_3_8, rl_4_8, rl_5_8, rl_6_8, rl_7_8, rl_12_18, rl_13_18, rl_14_18, rl_15_18, rl_16_18, rl_17_18, rl_0_2, rl_1_2, cl_0, cl_1, cl_2, cl_3, cl_4, cl_5, cl_6, cl_7, cl_8, cl_9, cl_10, cl_11, cl_12, cl_13, cl_14, cl_15, cl_16, cl_17, Int32.reduceLT, Int32.lt_irrefl, r_in, r_isCaller, hN, ha1, hgr, hsg, z_b_t hc, z_b_t ht2, m17', m12, m13, m14, m15, m16, r_has, z_b_f hl', hC, r_aside, hk6, m0, m6, r_shake, hp, hh, hz, z_add0, z_add6, rg_n i18 (by omega), rg_n i18b (by omega), c1, c2, pk_us, pk_un, n12, n13, n14, n15, n12b, n13b, n14b, n15b, e21, e02, e12, nI_1, Int32.or_zero, Int32.add_zero, eq_self, eq_true t1, h98, hg]
          rfl
    · rw [if_neg t1]
      have h99 := m999
      by_cases hg : sh + 1 = sg
      · rw [if_pos hg, if_pos hg]
        refine ⟨r_ch2 a6 k 0 0 (yi ||| z_one k) lf hu sh, b9, 0, 0, (MR_ch hn hk hM hA2 hB m999 (fun i _ => u2 _ _ _ i) (fun i _ => u2 _ _ _ i)).2, hU, ?_⟩
        simp only [k_111_0, k_111_1, k_111_2, k_111_3, k_111_4, k_111_5, k_111_6, k_111_7, k_111_8, k_111_9, k_111_10, k_111_11, k_111_12, k_111_13, k_111_14, k_111_15, k_111_16, k_111_17, k_111_18, k_111_19, k_111_20, k_111_21, k_111_22, k_111_23, k_111_24, k_111_25, k_111_26, w_l5, gl_0, va_r, va_n, w_c0, w_putI, pd_0, w_l3, gl_1, vi_i, t_18_2, rc_0, io_d, t_2, gl_2, t_19_3, rc_1, t_3, t_23, w_get, gd_15, id_6, zd_6, w_c1, w_ald, t_6, t_19_2, t_18_1, gd_10, id_1, zd_1, t_18_5, w_s6, sl_3, ll_3, w_b10, gd_24, w_ast, gd_25, w_dup2, gl_3, t_9, w_b15, t_1, t_0, w_b14, w_s7, sl_4, ll_4, w_l4, gl_4, w_c2, t_13, z10, z01, z_bT, z_bF, true_or, or_true, false_or, or_false, Option.bind_some, Option.toList_some, Option.toList_none, List.cons_append, List.nil_append, List.length_cons, List.length_nil, Nat.zero_add, Nat.reduceAdd, Nat.reduceLeDiff, and_self, and_true, true_and, if_true, if_false, reduceCtorEq, ne_eq, not_false_eq_true, not_true_eq_false, ↓reduceIte, Nat.reduceEqDiff, Bool.not_not, rl_0_8, rl_1_8, rl_2_8, rl_3_8, rl_4_8, rl_5_8, rl_6_8, rl_7_8, rl_12_18, rl_13_18, rl_14_18, rl_15_18, rl_16_18, rl_17_18, rl_0_2, rl_1_2, cl_0, cl_1, cl_2, cl_3, cl_4, cl_5, cl_6, cl_7, cl_8, cl_9, cl_10, cl_11, cl_12, cl_13, cl_14, cl_15, cl_16, cl_17, Int32.reduceLT, Int32.lt_irrefl, r_in, r_isCaller, hN, ha1, hgr, hsg, z_b_t hc, z_b_t ht2, m17', m12, m13, m14, m15, m16, r_has, z_b_f hl', hC, r_aside, hk6, m0, m6, r_shake, hp, hh, hz, z_add0, z_add6, rg_n i18 (by omega), rg_n i18b (by omega), c1, c2, pk_us, pk_un, n12, n13, n14, n15, n12b, n13b, n14b, n15b, e21, e02, e12, nI_1, Int32.or_zero, Int32.add_zero, eq_self, t1, h99, eq_true hg]
        rfl
      · rw [if_neg hg, if_neg hg]
        refine ⟨r_ch a6 k 0 0 (yi ||| z_one k) lf hu sh, b9, 0, 0, (MR_ch hn hk hM hA2 hB m999 (fun i _ => u2 _ _ _ i) (fun i _ => u2 _ _ _ i)).1, hU, ?_⟩
        simp only [k_111_0, k_111_1, k_111_2, k_111_3, k_111_4, k_111_5, k_111_6, k_111_7, k_111_8, k_111_9, k_111_10, k_111_11, k_111_12, k_111_13, k_111_14, k_111_15, k_111_16, k_111_17, k_111_18, k_111_19, k_111_20, k_111_21, k_111_22, k_111_23, k_111_24, k_111_25, k_111_26, w_l5, gl_0, va_r, va_n, w_c0, w_putI, pd_0, w_l3, gl_1, vi_i, t_18_2, rc_0, io_d, t_2, gl_2, t_19_3, rc_1, t_3, t_23, w_get, gd_15, id_6, zd_6, w_c1, w_ald, t_6, t_19_2, t_18_1, gd_10, id_1, zd_1, t_18_5, w_s6, sl_3, ll_3, w_b10, gd_24, w_ast, gd_25, w_dup2, gl_3, t_9, w_b15, t_1, t_0, w_b14, w_s7, sl_4, ll_4, w_l4, gl_4, w_c2, t_13, z10, z01, z_bT, z_bF, true_or, or_true, false_or, or_false, Option.bind_some, Option.toList_some, Option.toList_none, List.cons_append, List.nil_append, List.length_cons, List.length_nil, Nat.zero_add, Nat.reduceAdd, Nat.reduceLeDiff, and_self, and_true, true_and, if_true, if_false, reduceCtorEq, ne_eq, not_false_eq_true, not_true_eq_false, ↓reduceIte, Nat.reduceEqDiff, Bool.not_not, rl_0_8, rl_1_8, rl_2_8, rl_3_8, rl_4_8, rl_5_8, rl_6_8, rl_7_8, rl_12_18, rl_13_18, rl_14_18, rl_15_18, rl_16_18, rl_17_18, rl_0_2, rl_1_2, cl_0, cl_1, cl_2, cl_3, cl_4, cl_5, cl_6, cl_7, cl_8, cl_9, cl_10, cl_11, cl_12, cl_13, cl_14, cl_15, cl_16, cl_17, Int32.reduceLT, Int32.lt_irrefl, r_in, r_isCaller, hN, ha1, hgr, hsg, z_b_t hc, z_b_t ht2, m17', m12, m13, m14, m15, m16, r_has, z_b_f hl', hC, r_aside, hk6, m0, m6, r_shake, hp, hh, hz, z_add0, z_add6, rg_n i18 (by omega), rg_n i18b (by omega), c1, c2, pk_us, pk_un, n12, n13, n14, n15, n12b, n13b, n14b, n15b, e21, e02, e12, nI_1, Int32.or_zero, Int32.add_zero, eq_self, t1, h99, hg]
        rfl
  rw [if_neg hy]
  rw [if_neg hy] at hz
  by_cases hv : pr k + 10 < BB
  · rw [if_pos hv]
    rw [if_pos hv] at hz
    dsimp only
    by_cases t1 : t = 1
    · rw [if_pos t1]
      by_cases h99 : 999 < hu + gr
      · have h98 := Int32.not_le.mpr h99
        rw [if_neg (Int32.not_lt.mpr (Int32.le_of_lt h99))]
        by_cases hg : sh + 1 = sg
        · rw [if_pos hg, if_pos hg]
          refine ⟨r_ch2 a6 k BB W yi (lf ||| z_one k) 999 sh, b9, BB, W, (MR_ch hn hk hM hA hB2 hH1 (fun i _ => u1 _ _ i) (fun i _ => u1 _ _ i)).2, hU, ?_⟩
          simp only [k_111_0, k_111_1, k_111_2, k_111_3, k_111_4, k_111_5, k_111_6, k_111_7, k_111_8, k_111_9, k_111_10, k_111_11, k_111_12, k_111_13, k_111_14, k_111_15, k_111_16, k_111_17, k_111_18, k_111_19, k_111_20, k_111_21, k_111_22, k_111_23, k_111_24, k_111_25, k_111_26, w_l5, gl_0, va_r, va_n, w_c0, w_putI, pd_0, w_l3, gl_1, vi_i, t_18_2, rc_0, io_d, t_2, gl_2, t_19_3, rc_1, t_3, t_23, w_get, gd_15, id_6, zd_6, w_c1, w_ald, t_6, t_19_2, t_18_1, gd_10, id_1, zd_1, t_18_5, w_s6, sl_3, ll_3, w_b10, gd_24, w_ast, gd_25, w_dup2, gl_3, t_9, w_b15, t_1, t_0, w_b14, w_s7, sl_4, ll_4, w_l4, gl_4, w_c2, t_13, z10, z01, z_bT, z_bF, true_or, or_true, false_or, or_false, Option.bind_some, Option.toList_some, Option.toList_none, List.cons_append, List.nil_append, List.length_cons, List.length_nil, Nat.zero_add, Nat.reduceAdd, Nat.reduceLeDiff, and_self, and_true, true_and, if_true, if_false, reduceCtorEq, ne_eq, not_false_eq_true, not_true_eq_false, ↓reduceIte, Nat.reduceEqDiff, Bool.not_not, rl_0_8, rl_1_8, rl_2_8, rl_3_8, rl_4_8, rl_5_8, rl_6_8, rl_7_8, rl_12_18, rl_13_18, rl_14_18, rl_15_18, rl_16_18, rl_17_18, rl_0_2, rl_1_2, cl_0, cl_1, cl_2, cl_3, cl_4, cl_5, cl_6, cl_7, cl_8, cl_9, cl_10, cl_11, cl_12, cl_13, cl_14, cl_15, cl_16, cl_17, Int32.reduceLT, Int32.lt_irrefl, r_in, r_isCaller, hN, ha1, hgr, hsg, z_b_t hc, z_b_t ht2, m17', m12, m13, m14, m15, m16, r_has, z_b_f hl', hC, r_aside, hk6, m0, m6, r_shake, hp, hh, hz, z_add0, z_add6, rg_n i18 (by omega), rg_n i18b (by omega), c1, c2, pk_us, pk_un, n12, n13, n14, n15, n12b, n13b, n14b, n15b, e21, e02, e12, nI_1, Int32.or_zero, Int32.add_zero, eq_self, eq_true t1, h98, eq_true hg]
          rfl
        · rw [if_neg hg, if_neg hg]
          refine ⟨r_ch a6 k BB W yi (lf ||| z_one k) 999 sh, b9, BB, W, (MR_ch hn hk hM hA hB2 hH1 (fun i _ => u1 _ _ i) (fun i _ => u1 _ _ i)).1, hU, ?_⟩
          simp only [k_111_0, k_111_1, k_111_2, k_111_3, k_111_4, k_111_5, k_111_6, k_111_7, k_111_8, k_111_9, k_111_10, k_111_11, k_111_12, k_111_13, k_111_14, k_111_15, k_111_16, k_111_17, k_111_18, k_111_19, k_111_20, k_111_21, k_111_22, k_111_23, k_111_24, k_111_25, k_111_26, w_l5, gl_0, va_r, va_n, w_c0, w_putI, pd_0, w_l3, gl_1, vi_i, t_18_2, rc_0, io_d, t_2, gl_2, t_19_3, rc_1, t_3, t_23, w_get, gd_15, id_6, zd_6, w_c1, w_ald, t_6, t_19_2, t_18_1, gd_10, id_1, zd_1, t_18_5, w_s6, sl_3, ll_3, w_b10, gd_24, w_ast, gd_25, w_dup2, gl_3, t_9, w_b15, t_1, t_0, w_b14, w_s7, sl_4, ll_4, w_l4, gl_4, w_c2, t_13, z10, z01, z_bT, z_bF, true_or, or_true, false_or, or_false, Option.bind_some, Option.toList_some, Option.toList_none, List.cons_append, List.nil_append, List.length_cons, List.length_nil, Nat.zero_add, Nat.reduceAdd, Nat.reduceLeDiff, and_self, and_true, true_and, if_true, if_false, reduceCtorEq, ne_eq, not_false_eq_true, not_true_eq_false, ↓reduceIte, Nat.reduceEqDiff, Bool.not_not, rl_0_8, rl_1_8, rl_2_8, rl_3_8, rl_4_8, rl_5_8, rl_6_8, rl_7_8, rl_12_18, rl_13_18, rl_14_18, rl_15_18, rl_16_18, rl_17_18, rl_0_2, rl_1_2, cl_0, cl_1, cl_2, cl_3, cl_4, cl_5, cl_6, cl_7, cl_8, cl_9, cl_10, cl_11, cl_12, cl_13, cl_14, cl_15, cl_16, cl_17, Int32.reduceLT, Int32.lt_irrefl, r_in, r_isCaller, hN, ha1, hgr, hsg, z_b_t hc, z_b_t ht2, m17', m12, m13, m14, m15, m16, r_has, z_b_f hl', hC, r_aside, hk6, m0, m6, r_shake, hp, hh, hz, z_add0, z_add6, rg_n i18 (by omega), rg_n i18b (by omega), c1, c2, pk_us, pk_un, n12, n13, n14, n15, n12b, n13b, n14b, n15b, e21, e02, e12, nI_1, Int32.or_zero, Int32.add_zero, eq_self, eq_true t1, h98, hg]
          rfl
      · have h98 : hu + gr ≤ 999 := Int32.not_lt.mp h99
        have h97 : (if hu + gr < 999 then hu + gr else 999) = hu + gr := by
          by_cases h96 : hu + gr < 999
          · rw [if_pos h96]
          · rw [if_neg h96]; exact Int32.le_antisymm (Int32.not_lt.mp h96) h98
        rw [h97]
        by_cases hg : sh + 1 = sg
        · rw [if_pos hg, if_pos hg]
          refine ⟨r_ch2 a6 k BB W yi (lf ||| z_one k) (hu + gr) sh, b9, BB, W, (MR_ch hn hk hM hA hB2 h98 (fun i _ => u1 _ _ i) (fun i _ => u1 _ _ i)).2, hU, ?_⟩
          simp only [k_111_0, k_111_1, k_111_2, k_111_3, k_111_4, k_111_5, k_111_6, k_111_7, k_111_8, k_111_9, k_111_10, k_111_11, k_111_12, k_111_13, k_111_14, k_111_15, k_111_16, k_111_17, k_111_18, k_111_19, k_111_20, k_111_21, k_111_22, k_111_23, k_111_24, k_111_25, k_111_26, w_l5, gl_0, va_r, va_n, w_c0, w_putI, pd_0, w_l3, gl_1, vi_i, t_18_2, rc_0, io_d, t_2, gl_2, t_19_3, rc_1, t_3, t_23, w_get, gd_15, id_6, zd_6, w_c1, w_ald, t_6, t_19_2, t_18_1, gd_10, id_1, zd_1, t_18_5, w_s6, sl_3, ll_3, w_b10, gd_24, w_ast, gd_25, w_dup2, gl_3, t_9, w_b15, t_1, t_0, w_b14, w_s7, sl_4, ll_4, w_l4, gl_4, w_c2, t_13, z10, z01, z_bT, z_bF, true_or, or_true, false_or, or_false, Option.bind_some, Option.toList_some, Option.toList_none, List.cons_append, List.nil_append, List.length_cons, List.length_nil, Nat.zero_add, Nat.reduceAdd, Nat.reduceLeDiff, and_self, and_true, true_and, if_true, if_false, reduceCtorEq, ne_eq, not_false_eq_true, not_true_eq_false, ↓reduceIte, Nat.reduceEqDiff, Bool.not_not, rl_0_8, rl_1_8, rl_2_8, rl_3_8, rl_4_8, rl_5_8, rl_6_8, rl_7_8, rl_12_18, rl_13_18, rl_14_18, rl_15_18, rl_16_18, rl_17_18, rl_0_2, rl_1_2, cl_0, cl_1, cl_2, cl_3, cl_4, cl_5, cl_6, cl_7, cl_8, cl_9, cl_10, cl_11, cl_12, cl_13, cl_14, cl_15, cl_16, cl_17, Int32.reduceLT, Int32.lt_irrefl, r_in, r_isCaller, hN, ha1, hgr, hsg, z_b_t hc, z_b_t ht2, m17', m12, m13, m14, m15, m16, r_has, z_b_f hl', hC, r_aside, hk6, m0, m6, r_shake, hp, hh, hz, z_add0, z_add6, rg_n i18 (by omega), rg_n i18b (by omega), c1, c2, pk_us, pk_un, n12, n13, n14, n15, n12b, n13b, n14b, n15b, e21, e02, e12, nI_1, Int32.or_zero, Int32.add_zero, eq_self, eq_true t1, h98, eq_true hg]
          rfl
        · rw [if_neg hg, if_neg hg]
          refine ⟨r_ch a6 k BB W yi (lf ||| z_one k) (hu + gr) sh, b9, BB, W, (MR_ch hn hk hM hA hB2 h98 (fun i _ => u1 _ _ i) (fun i _ => u1 _ _ i)).1, hU, ?_⟩
          simp only [k_111_0, k_111_1, k_111_2, k_111_3, k_111_4, k_111_5, k_111_6, k_111_7, k_111_8, k_111_9, k_111_10, k_111_11, k_111_12, k_111_13, k_111_14, k_111_15, k_111_16, k_111_17, k_111_18, k_111_19, k_111_20, k_111_21, k_111_22, k_111_23, k_111_24, k_111_25, k_111_26, w_l5, gl_0, va_r, va_n, w_c0, w_putI, pd_0, w_l3, gl_1, vi_i, t_18_2, rc_0, io_d, t_2, gl_2, t_19_3, rc_1, t_3, t_23, w_get, gd_15, id_6, zd_6, w_c1, w_ald, t_6, t_19_2, t_18_1, gd_10, id_1, zd_1, t_18_5, w_s6, sl_3, ll_3, w_b10, gd_24, w_ast, gd_25, w_dup2, gl_3, t_9, w_b15, t_1, t_0, w_b14, w_s7, sl_4, ll_4, w_l4, gl_4, w_c2, t_13, z10, z01, z_bT, z_bF, true_or, or_true, false_or, or_false, Option.bind_some, Option.toList_some, Option.toList_none, List.cons_append, List.nil_append, List.length_cons, List.length_nil, Nat.zero_add, Nat.reduceAdd, Nat.reduceLeDiff, and_self, and_true, true_and, if_true, if_false, reduceCtorEq, ne_eq, not_false_eq_true, not_true_eq_false, ↓reduceIte, Nat.reduceEqDiff, Bool.not_not, rl_0_8, rl_1_8, rl_2_8, rl_3_8, rl_4_8, rl_5_8, rl_6_8, rl_7_8, rl_12_18, rl_13_18, rl_14_18, rl_15_18, rl_16_18, rl_17_18, rl_0_2, rl_1_2, cl_0, cl_1, cl_2, cl_3, cl_4, cl_5, cl_6, cl_7, cl_8, cl_9, cl_10, cl_11, cl_12, cl_13, cl_14, cl_15, cl_16, cl_17, Int32.reduceLT, Int32.lt_irrefl, r_in, r_isCaller, hN, ha1, hgr, hsg, z_b_t hc, z_b_t ht2, m17', m12, m13, m14, m15, m16, r_has, z_b_f hl', hC, r_aside, hk6, m0, m6, r_shake, hp, hh, hz, z_add0, z_add6, rg_n i18 (by omega), rg_n i18b (by omega), c1, c2, pk_us, pk_un, n12, n13, n14, n15, n12b, n13b, n14b, n15b, e21, e02, e12, nI_1, Int32.or_zero, Int32.add_zero, eq_self, eq_true t1, h98, hg]
          rfl
    · rw [if_neg t1]
      have h99 := m999
      by_cases hg : sh + 1 = sg
      · rw [if_pos hg, if_pos hg]
        refine ⟨r_ch2 a6 k BB W yi (lf ||| z_one k) hu sh, b9, BB, W, (MR_ch hn hk hM hA hB2 m999 (fun i _ => u1 _ _ i) (fun i _ => u1 _ _ i)).2, hU, ?_⟩
        simp only [k_111_0, k_111_1, k_111_2, k_111_3, k_111_4, k_111_5, k_111_6, k_111_7, k_111_8, k_111_9, k_111_10, k_111_11, k_111_12, k_111_13, k_111_14, k_111_15, k_111_16, k_111_17, k_111_18, k_111_19, k_111_20, k_111_21, k_111_22, k_111_23, k_111_24, k_111_25, k_111_26, w_l5, gl_0, va_r, va_n, w_c0, w_putI, pd_0, w_l3, gl_1, vi_i, t_18_2, rc_0, io_d, t_2, gl_2, t_19_3, rc_1, t_3, t_23, w_get, gd_15, id_6, zd_6, w_c1, w_ald, t_6, t_19_2, t_18_1, gd_10, id_1, zd_1, t_18_5, w_s6, sl_3, ll_3, w_b10, gd_24, w_ast, gd_25, w_dup2, gl_3, t_9, w_b15, t_1, t_0, w_b14, w_s7, sl_4, ll_4, w_l4, gl_4, w_c2, t_13, z10, z01, z_bT, z_bF, true_or, or_true, false_or, or_false, Option.bind_some, Option.toList_some, Option.toList_none, List.cons_append, List.nil_append, List.length_cons, List.length_nil, Nat.zero_add, Nat.reduceAdd, Nat.reduceLeDiff, and_self, and_true, true_and, if_true, if_false, reduceCtorEq, ne_eq, not_false_eq_true, not_true_eq_false, ↓reduceIte, Nat.reduceEqDiff, Bool.not_not, rl_0_8, rl_1_8, rl_2_8, rl_3_8, rl_4_8, rl_5_8, rl_6_8, rl_7_8, rl_12_18, rl_13_18, rl_14_18, rl_15_18, rl_16_18, rl_17_18, rl_0_2, rl_1_2, cl_0, cl_1, cl_2, cl_3, cl_4, cl_5, cl_6, cl_7, cl_8, cl_9, cl_10, cl_11, cl_12, cl_13, cl_14, cl_15, cl_16, cl_17, Int32.reduceLT, Int32.lt_irrefl, r_in, r_isCaller, hN, ha1, hgr, hsg, z_b_t hc, z_b_t ht2, m17', m12, m13, m14, m15, m16, r_has, z_b_f hl', hC, r_aside, hk6, m0, m6, r_shake, hp, hh, hz, z_add0, z_add6, rg_n i18 (by omega), rg_n i18b (by omega), c1, c2, pk_us, pk_un, n12, n13, n14, n15, n12b, n13b, n14b, n15b, e21, e02, e12, nI_1, Int32.or_zero, Int32.add_zero, eq_self, t1, h99, eq_true hg]
        rfl
      · rw [if_neg hg, if_neg hg]
        refine ⟨r_ch a6 k BB W yi (lf ||| z_one k) hu sh, b9, BB, W, (MR_ch hn hk hM hA hB2 m999 (fun i _ => u1 _ _ i) (fun i _ => u1 _ _ i)).1, hU, ?_⟩
        simp only [k_111_0, k_111_1, k_111_2, k_111_3, k_111_4, k_111_5, k_111_6, k_111_7, k_111_8, k_111_9, k_111_10, k_111_11, k_111_12, k_111_13, k_111_14, k_111_15, k_111_16, k_111_17, k_111_18, k_111_19, k_111_20, k_111_21, k_111_22, k_111_23, k_111_24, k_111_25, k_111_26, w_l5, gl_0, va_r, va_n, w_c0, w_putI, pd_0, w_l3, gl_1, vi_i, t_18_2, rc_0, io_d, t_2, gl_2, t_19_3, rc_1, t_3, t_23, w_get, gd_15, id_6, zd_6, w_c1, w_ald, t_6, t_19_2, t_18_1, gd_10, id_1, zd_1, t_18_5, w_s6, sl_3, ll_3, w_b10, gd_24, w_ast, gd_25, w_dup2, gl_3, t_9, w_b15, t_1, t_0, w_b14, w_s7, sl_4, ll_4, w_l4, gl_4, w_c2, t_13, z10, z01, z_bT, z_bF, true_or, or_true, false_or, or_false, Option.bind_some, Option.toList_some, Option.toList_none, List.cons_append, List.nil_append, List.length_cons, List.length_nil, Nat.zero_add, Nat.reduceAdd, Nat.reduceLeDiff, and_self, and_true, true_and, if_true, if_false, reduceCtorEq, ne_eq, not_false_eq_true, not_true_eq_false, ↓reduceIte, Nat.reduceEqDiff, Bool.not_not, rl_0_8, rl_1_8, rl_2_8, rl_3_8, rl_4_8, rl_5_8, rl_6_8, rl_7_8, rl_12_18, rl_13_18, rl_14_18, rl_15_18, rl_16_18, rl_17_18, rl_0_2, rl_1_2, cl_0, cl_1, cl_2, cl_3, cl_4, cl_5, cl_6, cl_7, cl_8, cl_9, cl_10, cl_11, cl_12, cl_13, cl_14, cl_15, cl_16, cl_17, Int32.reduceLT, Int32.lt_irrefl, r_in, r_isCaller, hN, ha1, hgr, hsg, z_b_t hc, z_b_t ht2, m17', m12, m13, m14, m15, m16, r_has, z_b_f hl', hC, r_aside, hk6, m0, m6, r_shake, hp, hh, hz, z_add0, z_add6, rg_n i18 (by omega), rg_n i18b (by omega), c1, c2, pk_us, pk_un, n12, n13, n14, n15, n12b, n13b, n14b, n15b, e21, e02, e12, nI_1, Int32.or_zero, Int32.add_zero, eq_self, t1, h99, hg]
        rfl
  · rw [if_neg hv]
    rw [if_neg hv] at hz
    dsimp only
    by_cases t1 : t = 1
    · rw [if_pos t1]
      by_cases h99 : 999 < hu + gr
      · have h98 := Int32.not_le.mpr h99
        rw [if_neg (Int32.not_lt.mpr (Int32.le_of_lt h99))]
        by_cases hg : sh + 1 = sg
        · rw [if_pos hg, if_pos hg]
          refine ⟨r_ch2 a6 k BB W yi lf 999 sh, b9, BB, W, (MR_ch hn hk hM hA hB hH1 (fun i _ => u1 _ _ i) (fun i _ => u1 _ _ i)).2, hU, ?_⟩
          simp only [k_111_0, k_111_1, k_111_2, k_111_3, k_111_4, k_111_5, k_111_6, k_111_7, k_111_8, k_111_9, k_111_10, k_111_11, k_111_12, k_111_13, k_111_14, k_111_15, k_111_16, k_111_17, k_111_18, k_111_19, k_111_20, k_111_21, k_111_22, k_111_23, k_111_24, k_111_25, k_111_26, w_l5, gl_0, va_r, va_n, w_c0, w_putI, pd_0, w_l3, gl_1, vi_i, t_18_2, rc_0, io_d, t_2, gl_2, t_19_3, rc_1, t_3, t_23, w_get, gd_15, id_6, zd_6, w_c1, w_ald, t_6, t_19_2, t_18_1, gd_10, id_1, zd_1, t_18_5, w_s6, sl_3, ll_3, w_b10, gd_24, w_ast, gd_25, w_dup2, gl_3, t_9, w_b15, t_1, t_0, w_b14, w_s7, sl_4, ll_4, w_l4, gl_4, w_c2, t_13, z10, z01, z_bT, z_bF, true_or, or_true, false_or, or_false, Option.bind_some, Option.toList_some, Option.toList_none, List.cons_append, List.nil_append, List.length_cons, List.length_nil, Nat.zero_add, Nat.reduceAdd, Nat.reduceLeDiff, and_self, and_true, true_and, if_true, if_false, reduceCtorEq, ne_eq, not_false_eq_true, not_true_eq_false, ↓reduceIte, Nat.reduceEqDiff, Bool.not_not, rl_0_8, rl_1_8, rl_2_8, rl_3_8, rl_4_8, rl_5_8, rl_6_8, rl_7_8, rl_12_18, rl_13_18, rl_14_18, rl_15_18, rl_16_18, rl_17_18, rl_0_2, rl_1_2, cl_0, cl_1, cl_2, cl_3, cl_4, cl_5, cl_6, cl_7, cl_8, cl_9, cl_10, cl_11, cl_12, cl_13, cl_14, cl_15, cl_16, cl_17, Int32.reduceLT, Int32.lt_irrefl, r_in, r_isCaller, hN, ha1, hgr, hsg, z_b_t hc, z_b_t ht2, m17', m12, m13, m14, m15, m16, r_has, z_b_f hl', hC, r_aside, hk6, m0, m6, r_shake, hp, hh, hz, z_add0, z_add6, rg_n i18 (by omega), rg_n i18b (by omega), c1, c2, pk_us, pk_un, n12, n13, n14, n15, n12b, n13b, n14b, n15b, e21, e02, e12, nI_1, Int32.or_zero, Int32.add_zero, eq_self, eq_true t1, h98, eq_true hg]
          rfl
        · rw [if_neg hg, if_neg hg]
          refine ⟨r_ch a6 k BB W yi lf 999 sh, b9, BB, W, (MR_ch hn hk hM hA hB hH1 (fun i _ => u1 _ _ i) (fun i _ => u1 _ _ i)).1, hU, ?_⟩
          simp only [k_111_0, k_111_1, k_111_2, k_111_3, k_111_4, k_111_5, k_111_6, k_111_7, k_111_8, k_111_9, k_111_10, k_111_11, k_111_12, k_111_13, k_111_14, k_111_15, k_111_16, k_111_17, k_111_18, k_111_19, k_111_20, k_111_21, k_111_22, k_111_23, k_111_24, k_111_25, k_111_26, w_l5, gl_0, va_r, va_n, w_c0, w_putI, pd_0, w_l3, gl_1, vi_i, t_18_2, rc_0, io_d, t_2, gl_2, t_19_3, rc_1, t_3, t_23, w_get, gd_15, id_6, zd_6, w_c1, w_ald, t_6, t_19_2, t_18_1, gd_10, id_1, zd_1, t_18_5, w_s6, sl_3, ll_3, w_b10, gd_24, w_ast, gd_25, w_dup2, gl_3, t_9, w_b15, t_1, t_0, w_b14, w_s7, sl_4, ll_4, w_l4, gl_4, w_c2, t_13, z10, z01, z_bT, z_bF, true_or, or_true, false_or, or_false, Option.bind_some, Option.toList_some, Option.toList_none, List.cons_append, List.nil_append, List.length_cons, List.length_nil, Nat.zero_add, Nat.reduceAdd, Nat.reduceLeDiff, and_self, and_true, true_and, if_true, if_false, reduceCtorEq, ne_eq, not_false_eq_true, not_true_eq_false, ↓reduceIte, Nat.reduceEqDiff, Bool.not_not, rl_0_8, rl_1_8, rl_2_8, rl_3_8, rl_4_8, rl_5_8, rl_6_8, rl_7_8, rl_12_18, rl_13_18, rl_14_18, rl_15_18, rl_16_18, rl_17_18, rl_0_2, rl_1_2, cl_0, cl_1, cl_2, cl_3, cl_4, cl_5, cl_6, cl_7, cl_8, cl_9, cl_10, cl_11, cl_12, cl_13, cl_14, cl_15, cl_16, cl_17, Int32.reduceLT, Int32.lt_irrefl, r_in, r_isCaller, hN, ha1, hgr, hsg, z_b_t hc, z_b_t ht2, m17', m12, m13, m14, m15, m16, r_has, z_b_f hl', hC, r_aside, hk6, m0, m6, r_shake, hp, hh, hz, z_add0, z_add6, rg_n i18 (by omega), rg_n i18b (by omega), c1, c2, pk_us, pk_un, n12, n13, n14, n15, n12b, n13b, n14b, n15b, e21, e02, e12, nI_1, Int32.or_zero, Int32.add_zero, eq_self, eq_true t1, h98, hg]
          rfl
      · have h98 : hu + gr ≤ 999 := Int32.not_lt.mp h99
        have h97 : (if hu + gr < 999 then hu + gr else 999) = hu + gr := by
          by_cases h96 : hu + gr < 999
          · rw [if_pos h96]
          · rw [if_neg h96]; exact Int32.le_antisymm (Int32.not_lt.mp h96) h98
        rw [h97]
        by_cases hg : sh + 1 = sg
        · rw [if_pos hg, if_pos hg]
          refine ⟨r_ch2 a6 k BB W yi lf (hu + gr) sh, b9, BB, W, (MR_ch hn hk hM hA hB h98 (fun i _ => u1 _ _ i) (fun i _ => u1 _ _ i)).2, hU, ?_⟩
          simp only [k_111_0, k_111_1, k_111_2, k_111_3, k_111_4, k_111_5, k_111_6, k_111_7, k_111_8, k_111_9, k_111_10, k_111_11, k_111_12, k_111_13, k_111_14, k_111_15, k_111_16, k_111_17, k_111_18, k_111_19, k_111_20, k_111_21, k_111_22, k_111_23, k_111_24, k_111_25, k_111_26, w_l5, gl_0, va_r, va_n, w_c0, w_putI, pd_0, w_l3, gl_1, vi_i, t_18_2, rc_0, io_d, t_2, gl_2, t_19_3, rc_1, t_3, t_23, w_get, gd_15, id_6, zd_6, w_c1, w_ald, t_6, t_19_2, t_18_1, gd_10, id_1, zd_1, t_18_5, w_s6, sl_3, ll_3, w_b10, gd_24, w_ast, gd_25, w_dup2, gl_3, t_9, w_b15, t_1, t_0, w_b14, w_s7, sl_4, ll_4, w_l4, gl_4, w_c2, t_13, z10, z01, z_bT, z_bF, true_or, or_true, false_or, or_false, Option.bind_some, Option.toList_some, Option.toList_none, List.cons_append, List.nil_append, List.length_cons, List.length_nil, Nat.zero_add, Nat.reduceAdd, Nat.reduceLeDiff, and_self, and_true, true_and, if_true, if_false, reduceCtorEq, ne_eq, not_false_eq_true, not_true_eq_false, ↓reduceIte, Nat.reduceEqDiff, Bool.not_not, rl_0_8, rl_1_8, rl_2_8, rl_3_8, rl_4_8, rl_5_8, rl_6_8, rl_7_8, rl_12_18, rl_13_18, rl_14_18, rl_15_18, rl_16_18, rl_17_18, rl_0_2, rl_1_2, cl_0, cl_1, cl_2, cl_3, cl_4, cl_5, cl_6, cl_7, cl_8, cl_9, cl_10, cl_11, cl_12, cl_13, cl_14, cl_15, cl_16, cl_17, Int32.reduceLT, Int32.lt_irrefl, r_in, r_isCaller, hN, ha1, hgr, hsg, z_b_t hc, z_b_t ht2, m17', m12, m13, m14, m15, m16, r_has, z_b_f hl', hC, r_aside, hk6, m0, m6, r_shake, hp, hh, hz, z_add0, z_add6, rg_n i18 (by omega), rg_n i18b (by omega), c1, c2, pk_us, pk_un, n12, n13, n14, n15, n12b, n13b, n14b, n15b, e21, e02, e12, nI_1, Int32.or_zero, Int32.add_zero, eq_self, eq_true t1, h98, eq_true hg]
          rfl
        · rw [if_neg hg, if_neg hg]
          refine ⟨r_ch a6 k BB W yi lf (hu + gr) sh, b9, BB, W, (MR_ch hn hk hM hA hB h98 (fun i _ => u1 _ _ i) (fun i _ => u1 _ _ i)).1, hU, ?_⟩
          simp only [k_111_0, k_111_1, k_111_2, k_111_3, k_111_4, k_111_5, k_111_6, k_111_7, k_111_8, k_111_9, k_111_10, k_111_11, k_111_12, k_111_13, k_111_14, k_111_15, k_111_16, k_111_17, k_111_18, k_111_19, k_111_20, k_111_21, k_111_22, k_111_23, k_111_24, k_111_25, k_111_26, w_l5, gl_0, va_r, va_n, w_c0, w_putI, pd_0, w_l3, gl_1, vi_i, t_18_2, rc_0, io_d, t_2, gl_2, t_19_3, rc_1, t_3, t_23, w_get, gd_15, id_6, zd_6, w_c1, w_ald, t_6, t_19_2, t_18_1, gd_10, id_1, zd_1, t_18_5, w_s6, sl_3, ll_3, w_b10, gd_24, w_ast, gd_25, w_dup2, gl_3, t_9, w_b15, t_1, t_0, w_b14, w_s7, sl_4, ll_4, w_l4, gl_4, w_c2, t_13, z10, z01, z_bT, z_bF, true_or, or_true, false_or, or_false, Option.bind_some, Option.toList_some, Option.toList_none, List.cons_append, List.nil_append, List.length_cons, List.length_nil, Nat.zero_add, Nat.reduceAdd, Nat.reduceLeDiff, and_self, and_true, true_and, if_true, if_false, reduceCtorEq, ne_eq, not_false_eq_true, not_true_eq_false, ↓reduceIte, Nat.reduceEqDiff, Bool.not_not, rl_0_8, rl_1_8, rl_2_8, rl_3_8, rl_4_8, rl_5_8, rl_6_8, rl_7_8, rl_12_18, rl_13_18, rl_14_18, rl_15_18, rl_16_18, rl_17_18, rl_0_2, rl_1_2, cl_0, cl_1, cl_2, cl_3, cl_4, cl_5, cl_6, cl_7, cl_8, cl_9, cl_10, cl_11, cl_12, cl_13, cl_14, cl_15, cl_16, cl_17, Int32.reduceLT, Int32.lt_irrefl, r_in, r_isCaller, hN, ha1, hgr, hsg, z_b_t hc, z_b_t ht2, m17', m12, m13, m14, m15, m16, r_has, z_b_f hl', hC, r_aside, hk6, m0, m6, r_shake, hp, hh, hz, z_add0, z_add6, rg_n i18 (by omega), rg_n i18b (by omega), c1, c2, pk_us, pk_un, n12, n13, n14, n15, n12b, n13b, n14b, n15b, e21, e02, e12, nI_1, Int32.or_zero, Int32.add_zero, eq_self, eq_true t1, h98, hg]
          rfl
    · rw [if_neg t1]
      have h99 := m999
      by_cases hg : sh + 1 = sg
      · rw [if_pos hg, if_pos hg]
        refine ⟨r_ch2 a6 k BB W yi lf hu sh, b9, BB, W, (MR_ch hn hk hM hA hB m999 (fun i _ => u1 _ _ i) (fun i _ => u1 _ _ i)).2, hU, ?_⟩
        simp only [k_111_0, k_111_1, k_111_2, k_111_3, k_111_4, k_111_5, k_111_6, k_111_7, k_111_8, k_111_9, k_111_10, k_111_11, k_111_12, k_111_13, k_111_14, k_111_15, k_111_16, k_111_17, k_111_18, k_111_19, k_111_20, k_111_21, k_111_22, k_111_23, k_111_24, k_111_25, k_111_26, w_l5, gl_0, va_r, va_n, w_c0, w_putI, pd_0, w_l3, gl_1, vi_i, t_18_2, rc_0, io_d, t_2, gl_2, t_19_3, rc_1, t_3, t_23, w_get, gd_15, id_6, zd_6, w_c1, w_ald, t_6, t_19_2, t_18_1, gd_10, id_1, zd_1, t_18_5, w_s6, sl_3, ll_3, w_b10, gd_24, w_ast, gd_25, w_dup2, gl_3, t_9, w_b15, t_1, t_0, w_b14, w_s7, sl_4, ll_4, w_l4, gl_4, w_c2, t_13, z10, z01, z_bT, z_bF, true_or, or_true, false_or, or_false, Option.bind_some, Option.toList_some, Option.toList_none, List.cons_append, List.nil_append, List.length_cons, List.length_nil, Nat.zero_add, Nat.reduceAdd, Nat.reduceLeDiff, and_self, and_true, true_and, if_true, if_false, reduceCtorEq, ne_eq, not_false_eq_true, not_true_eq_false, ↓reduceIte, Nat.reduceEqDiff, Bool.not_not, rl_0_8, rl_1_8, rl_2_8, rl_3_8, rl_4_8, rl_5_8, rl_6_8, rl_7_8, rl_12_18, rl_13_18, rl_14_18, rl_15_18, rl_16_18, rl_17_18, rl_0_2, rl_1_2, cl_0, cl_1, cl_2, cl_3, cl_4, cl_5, cl_6, cl_7, cl_8, cl_9, cl_10, cl_11, cl_12, cl_13, cl_14, cl_15, cl_16, cl_17, Int32.reduceLT, Int32.lt_irrefl, r_in, r_isCaller, hN, ha1, hgr, hsg, z_b_t hc, z_b_t ht2, m17', m12, m13, m14, m15, m16, r_has, z_b_f hl', hC, r_aside, hk6, m0, m6, r_shake, hp, hh, hz, z_add0, z_add6, rg_n i18 (by omega), rg_n i18b (by omega), c1, c2, pk_us, pk_un, n12, n13, n14, n15, n12b, n13b, n14b, n15b, e21, e02, e12, nI_1, Int32.or_zero, Int32.add_zero, eq_self, t1, h99, eq_true hg]
        rfl
      · rw [if_neg hg, if_neg hg]
        refine ⟨r_ch a6 k BB W yi lf hu sh, b9, BB, W, (MR_ch hn hk hM hA hB m999 (fun i _ => u1 _ _ i) (fun i _ => u1 _ _ i)).1, hU, ?_⟩
        simp only [k_111_0, k_111_1, k_111_2, k_111_3, k_111_4, k_111_5, k_111_6, k_111_7, k_111_8, k_111_9, k_111_10, k_111_11, k_111_12, k_111_13, k_111_14, k_111_15, k_111_16, k_111_17, k_111_18, k_111_19, k_111_20, k_111_21, k_111_22, k_111_23, k_111_24, k_111_25, k_111_26, w_l5, gl_0, va_r, va_n, w_c0, w_putI, pd_0, w_l3, gl_1, vi_i, t_18_2, rc_0, io_d, t_2, gl_2, t_19_3, rc_1, t_3, t_23, w_get, gd_15, id_6, zd_6, w_c1, w_ald, t_6, t_19_2, t_18_1, gd_10, id_1, zd_1, t_18_5, w_s6, sl_3, ll_3, w_b10, gd_24, w_ast, gd_25, w_dup2, gl_3, t_9, w_b15, t_1, t_0, w_b14, w_s7, sl_4, ll_4, w_l4, gl_4, w_c2, t_13, z10, z01, z_bT, z_bF, true_or, or_true, false_or, or_false, Option.bind_some, Option.toList_some, Option.toList_none, List.cons_append, List.nil_append, List.length_cons, List.length_nil, Nat.zero_add, Nat.reduceAdd, Nat.reduceLeDiff, and_self, and_true, true_and, if_true, if_false, reduceCtorEq, ne_eq, not_false_eq_true, not_true_eq_false, ↓reduceIte, Nat.reduceEqDiff, Bool.not_not, rl_0_8, rl_1_8, rl_2_8, rl_3_8, rl_4_8, rl_5_8, rl_6_8, rl_7_8, rl_12_18, rl_13_18, rl_14_18, rl_15_18, rl_16_18, rl_17_18, rl_0_2, rl_1_2, cl_0, cl_1, cl_2, cl_3, cl_4, cl_5, cl_6, cl_7, cl_8, cl_9, cl_10, cl_11, cl_12, cl_13, cl_14, cl_15, cl_16, cl_17, Int32.reduceLT, Int32.lt_irrefl, r_in, r_isCaller, hN, ha1, hgr, hsg, z_b_t hc, z_b_t ht2, m17', m12, m13, m14, m15, m16, r_has, z_b_f hl', hC, r_aside, hk6, m0, m6, r_shake, hp, hh, hz, z_add0, z_add6, rg_n i18 (by omega), rg_n i18b (by omega), c1, c2, pk_us, pk_un, n12, n13, n14, n15, n12b, n13b, n14b, n15b, e21, e02, e12, nI_1, Int32.or_zero, Int32.add_zero, eq_self, t1, h99, hg]
        rfl
