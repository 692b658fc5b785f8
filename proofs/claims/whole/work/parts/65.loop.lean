/-! the law: a call of each, and the loop -/
def lw_2 (L : Nat) (xs : Nat → Int32) (b : Nat) (i : Int32) (V : sv_V) (D : sv_D) : Prop := ∃ V' D', RR V' D' ∧ ai_res (L, xs) 139 b [.ref 0, .ref 1, .ref 62, .int i] [] (HP V D) = ai_res (L, xs) 139 101 [.ref 0, .ref 1, .ref 62, .int i] [] (HP V' D')
theorem lg_self (x : Int64) : lg_cmp x x = 0 := (lg_cmp_eq x x).mpr rfl
theorem la_type (L : Nat) (xs : Nat → Int32) (i : Int32) (V : sv_V) (D : sv_D) (h : RR V D) (r1 : ∀ f, ai_rg (i + 1) L f = f) : lw_2 L xs 5 i V D := by
  obtain ⟨r, V2, D2, h1, h2, hR⟩ := pp_type (L, xs) V D h (xs (i + 1).toNatClampNeg)
  refine ⟨V2, D2, hR, ?_⟩
  rw [k_139_5]
  simp only [k_139_6, k_139_7, w_l5, gl_1, va_r, va_n, gl_0, w_l3, gl_3, vi_i, w_c0, w_b10, w_ald, t_18_2, rc_0, io_x, gl_2, io_d, t_8, z10, z01, z_bT, z_bF, true_or, or_true, false_or, or_false, Option.bind_some, Option.toList_some, Option.toList_none, List.cons_append, List.nil_append, List.length_cons, List.length_nil, Nat.zero_add, Nat.reduceAdd, Nat.reduceLeDiff, and_self, and_true, true_and, if_true, if_false, reduceCtorEq, ne_eq, not_false_eq_true, not_true_eq_false, ↓reduceIte, Nat.reduceEqDiff, Bool.not_not, io_d, w_ald0, r1, h1, h2, eq_self]
theorem la_clear (L : Nat) (xs : Nat → Int32) (i : Int32) (V : sv_V) (D : sv_D) (h : RR V D) : lw_2 L xs 9 i V D := by
  obtain ⟨r, V2, D2, h1, h2, hR⟩ := pp_clear (L, xs) V D h 
  refine ⟨V2, D2, hR, ?_⟩
  rw [k_139_9]
  simp only [k_139_10, k_139_11, w_l5, gl_1, va_r, va_n, t_18_1, rc_0, io_x, gl_2, io_d, t_8, z10, z01, z_bT, z_bF, true_or, or_true, false_or, or_false, Option.bind_some, Option.toList_some, Option.toList_none, List.cons_append, List.nil_append, List.length_cons, List.length_nil, Nat.zero_add, Nat.reduceAdd, Nat.reduceLeDiff, and_self, and_true, true_and, if_true, if_false, reduceCtorEq, ne_eq, not_false_eq_true, not_true_eq_false, ↓reduceIte, Nat.reduceEqDiff, Bool.not_not, io_d, h1, h2, eq_self]
theorem la_embassy (L : Nat) (xs : Nat → Int32) (i : Int32) (V : sv_V) (D : sv_D) (h : RR V D) : lw_2 L xs 13 i V D := by
  obtain ⟨r, V2, D2, h1, h2, hR⟩ := pp_embassy (L, xs) V D h 
  refine ⟨V2, D2, hR, ?_⟩
  rw [k_139_13]
  simp only [k_139_14, k_139_15, w_l5, gl_1, va_r, va_n, t_18_1, rc_0, io_x, gl_2, io_d, t_8, z10, z01, z_bT, z_bF, true_or, or_true, false_or, or_false, Option.bind_some, Option.toList_some, Option.toList_none, List.cons_append, List.nil_append, List.length_cons, List.length_nil, Nat.zero_add, Nat.reduceAdd, Nat.reduceLeDiff, and_self, and_true, true_and, if_true, if_false, reduceCtorEq, ne_eq, not_false_eq_true, not_true_eq_false, ↓reduceIte, Nat.reduceEqDiff, Bool.not_not, io_d, h1, h2, eq_self]
theorem la_caller (L : Nat) (xs : Nat → Int32) (i : Int32) (V : sv_V) (D : sv_D) (h : RR V D) (r1 : ∀ f, ai_rg (i + 1) L f = f) (r2 : ∀ f, ai_rg (i + 2) L f = f) : lw_2 L xs 17 i V D := by
  obtain ⟨r, V2, D2, h1, h2, hR⟩ := pp_caller (L, xs) V D h (xs (i + 1).toNatClampNeg) (xs (i + 2).toNatClampNeg)
  refine ⟨V2, D2, hR, ?_⟩
  rw [k_139_17]
  simp only [k_139_18, k_139_19, w_l5, gl_1, va_r, va_n, gl_0, w_l3, gl_3, vi_i, w_c0, w_b10, w_ald, t_18_3, rc_0, io_x, gl_2, io_d, t_8, z10, z01, z_bT, z_bF, true_or, or_true, false_or, or_false, Option.bind_some, Option.toList_some, Option.toList_none, List.cons_append, List.nil_append, List.length_cons, List.length_nil, Nat.zero_add, Nat.reduceAdd, Nat.reduceLeDiff, and_self, and_true, true_and, if_true, if_false, reduceCtorEq, ne_eq, not_false_eq_true, not_true_eq_false, ↓reduceIte, Nat.reduceEqDiff, Bool.not_not, io_d, w_ald0, r1, r2, h1, h2, eq_self]
theorem la_now (L : Nat) (xs : Nat → Int32) (i : Int32) (V : sv_V) (D : sv_D) (h : RR V D) (r1 : ∀ f, ai_rg (i + 1) L f = f) : lw_2 L xs 21 i V D := by
  obtain ⟨r, V2, D2, h1, h2, hR⟩ := pp_now (L, xs) V D h (xs (i + 1).toNatClampNeg)
  refine ⟨V2, D2, hR, ?_⟩
  rw [k_139_21]
  simp only [k_139_22, k_139_23, w_l5, gl_1, va_r, va_n, gl_0, w_l3, gl_3, vi_i, w_c0, w_b10, w_ald, t_18_2, rc_0, io_x, gl_2, io_d, t_8, z10, z01, z_bT, z_bF, true_or, or_true, false_or, or_false, Option.bind_some, Option.toList_some, Option.toList_none, List.cons_append, List.nil_append, List.length_cons, List.length_nil, Nat.zero_add, Nat.reduceAdd, Nat.reduceLeDiff, and_self, and_true, true_and, if_true, if_false, reduceCtorEq, ne_eq, not_false_eq_true, not_true_eq_false, ↓reduceIte, Nat.reduceEqDiff, Bool.not_not, io_d, w_ald0, r1, h1, h2, eq_self]
theorem la_shakes (L : Nat) (xs : Nat → Int32) (i : Int32) (V : sv_V) (D : sv_D) (h : RR V D) (r1 : ∀ f, ai_rg (i + 1) L f = f) (r2 : ∀ f, ai_rg (i + 2) L f = f) : lw_2 L xs 25 i V D := by
  obtain ⟨r, V2, D2, h1, h2, hR⟩ := pp_shakes (L, xs) V D h (xs (i + 1).toNatClampNeg) (xs (i + 2).toNatClampNeg)
  refine ⟨V2, D2, hR, ?_⟩
  rw [k_139_25]
  simp only [k_139_26, k_139_27, w_l5, gl_1, va_r, va_n, gl_0, w_l3, gl_3, vi_i, w_c0, w_b10, w_ald, t_18_3, rc_0, io_x, gl_2, io_d, t_8, z10, z01, z_bT, z_bF, true_or, or_true, false_or, or_false, Option.bind_some, Option.toList_some, Option.toList_none, List.cons_append, List.nil_append, List.length_cons, List.length_nil, Nat.zero_add, Nat.reduceAdd, Nat.reduceLeDiff, and_self, and_true, true_and, if_true, if_false, reduceCtorEq, ne_eq, not_false_eq_true, not_true_eq_false, ↓reduceIte, Nat.reduceEqDiff, Bool.not_not, io_d, w_ald0, r1, r2, h1, h2, eq_self]
theorem la_opens (L : Nat) (xs : Nat → Int32) (i : Int32) (V : sv_V) (D : sv_D) (h : RR V D) : lw_2 L xs 29 i V D := by
  obtain ⟨r, V2, D2, h1, h2, hR⟩ := pp_opens (L, xs) V D h 
  refine ⟨V2, D2, hR, ?_⟩
  rw [k_139_29]
  simp only [k_139_30, k_139_31, w_l5, gl_1, va_r, va_n, t_18_1, rc_0, io_x, gl_2, io_d, t_8, z10, z01, z_bT, z_bF, true_or, or_true, false_or, or_false, Option.bind_some, Option.toList_some, Option.toList_none, List.cons_append, List.nil_append, List.length_cons, List.length_nil, Nat.zero_add, Nat.reduceAdd, Nat.reduceLeDiff, and_self, and_true, true_and, if_true, if_false, reduceCtorEq, ne_eq, not_false_eq_true, not_true_eq_false, ↓reduceIte, Nat.reduceEqDiff, Bool.not_not, io_d, h1, h2, eq_self]
theorem la_lines (L : Nat) (xs : Nat → Int32) (i : Int32) (V : sv_V) (D : sv_D) (h : RR V D) (r1 : ∀ f, ai_rg (i + 1) L f = f) : lw_2 L xs 33 i V D := by
  obtain ⟨r, V2, D2, h1, h2, hR⟩ := pp_lines (L, xs) V D h (xs (i + 1).toNatClampNeg)
  refine ⟨V2, D2, hR, ?_⟩
  rw [k_139_33]
  simp only [k_139_34, k_139_35, w_l5, gl_1, va_r, va_n, gl_0, w_l3, gl_3, vi_i, w_c0, w_b10, w_ald, t_18_2, rc_0, io_x, gl_2, io_d, t_8, z10, z01, z_bT, z_bF, true_or, or_true, false_or, or_false, Option.bind_some, Option.toList_some, Option.toList_none, List.cons_append, List.nil_append, List.length_cons, List.length_nil, Nat.zero_add, Nat.reduceAdd, Nat.reduceLeDiff, and_self, and_true, true_and, if_true, if_false, reduceCtorEq, ne_eq, not_false_eq_true, not_true_eq_false, ↓reduceIte, Nat.reduceEqDiff, Bool.not_not, io_d, w_ald0, r1, h1, h2, eq_self]
theorem la_winds (L : Nat) (xs : Nat → Int32) (i : Int32) (V : sv_V) (D : sv_D) (h : RR V D) : lw_2 L xs 37 i V D := by
  obtain ⟨r, V2, D2, h1, h2, hR⟩ := pp_winds (L, xs) V D h 
  refine ⟨V2, D2, hR, ?_⟩
  rw [k_139_37]
  simp only [k_139_38, k_139_39, w_l5, gl_1, va_r, va_n, t_18_1, rc_0, io_x, gl_2, io_d, t_8, z10, z01, z_bT, z_bF, true_or, or_true, false_or, or_false, Option.bind_some, Option.toList_some, Option.toList_none, List.cons_append, List.nil_append, List.length_cons, List.length_nil, Nat.zero_add, Nat.reduceAdd, Nat.reduceLeDiff, and_self, and_true, true_and, if_true, if_false, reduceCtorEq, ne_eq, not_false_eq_true, not_true_eq_false, ↓reduceIte, Nat.reduceEqDiff, Bool.not_not, io_d, h1, h2, eq_self]
theorem la_consoles (L : Nat) (xs : Nat → Int32) (i : Int32) (V : sv_V) (D : sv_D) (h : RR V D) (r1 : ∀ f, ai_rg (i + 1) L f = f) : lw_2 L xs 41 i V D := by
  obtain ⟨r, V2, D2, h1, h2, hR⟩ := pp_consoles (L, xs) V D h (xs (i + 1).toNatClampNeg)
  refine ⟨V2, D2, hR, ?_⟩
  rw [k_139_41]
  simp only [k_139_42, k_139_43, w_l5, gl_1, va_r, va_n, gl_0, w_l3, gl_3, vi_i, w_c0, w_b10, w_ald, t_18_2, rc_0, io_x, gl_2, io_d, t_8, z10, z01, z_bT, z_bF, true_or, or_true, false_or, or_false, Option.bind_some, Option.toList_some, Option.toList_none, List.cons_append, List.nil_append, List.length_cons, List.length_nil, Nat.zero_add, Nat.reduceAdd, Nat.reduceLeDiff, and_self, and_true, true_and, if_true, if_false, reduceCtorEq, ne_eq, not_false_eq_true, not_true_eq_false, ↓reduceIte, Nat.reduceEqDiff, Bool.not_not, io_d, w_ald0, r1, h1, h2, eq_self]
theorem la_undo (L : Nat) (xs : Nat → Int32) (i : Int32) (V : sv_V) (D : sv_D) (h : RR V D) : lw_2 L xs 45 i V D := by
  obtain ⟨r, V2, D2, h1, h2, hR⟩ := pp_undo (L, xs) V D h 
  refine ⟨V2, D2, hR, ?_⟩
  rw [k_139_45]
  simp only [k_139_46, k_139_47, w_l5, gl_1, va_r, va_n, t_18_1, rc_0, io_x, gl_2, io_d, t_8, z10, z01, z_bT, z_bF, true_or, or_true, false_or, or_false, Option.bind_some, Option.toList_some, Option.toList_none, List.cons_append, List.nil_append, List.length_cons, List.length_nil, Nat.zero_add, Nat.reduceAdd, Nat.reduceLeDiff, and_self, and_true, true_and, if_true, if_false, reduceCtorEq, ne_eq, not_false_eq_true, not_true_eq_false, ↓reduceIte, Nat.reduceEqDiff, Bool.not_not, io_d, h1, h2, eq_self]
theorem la_way (L : Nat) (xs : Nat → Int32) (i : Int32) (V : sv_V) (D : sv_D) (h : RR V D) (r1 : ∀ f, ai_rg (i + 1) L f = f) (r2 : ∀ f, ai_rg (i + 2) L f = f) : lw_2 L xs 49 i V D := by
  obtain ⟨r, V2, D2, h1, h2, hR⟩ := pp_way (L, xs) V D h (xs (i + 1).toNatClampNeg) (xs (i + 2).toNatClampNeg)
  refine ⟨V2, D2, hR, ?_⟩
  rw [k_139_49]
  simp only [k_139_50, k_139_51, w_l5, gl_1, va_r, va_n, gl_0, w_l3, gl_3, vi_i, w_c0, w_b10, w_ald, t_18_3, rc_0, io_x, gl_2, io_d, t_8, z10, z01, z_bT, z_bF, true_or, or_true, false_or, or_false, Option.bind_some, Option.toList_some, Option.toList_none, List.cons_append, List.nil_append, List.length_cons, List.length_nil, Nat.zero_add, Nat.reduceAdd, Nat.reduceLeDiff, and_self, and_true, true_and, if_true, if_false, reduceCtorEq, ne_eq, not_false_eq_true, not_true_eq_false, ↓reduceIte, Nat.reduceEqDiff, Bool.not_not, io_d, w_ald0, r1, r2, h1, h2, eq_self]
theorem la_gain (L : Nat) (xs : Nat → Int32) (i : Int32) (V : sv_V) (D : sv_D) (h : RR V D) (r1 : ∀ f, ai_rg (i + 1) L f = f) (r2 : ∀ f, ai_rg (i + 2) L f = f) : lw_2 L xs 53 i V D := by
  obtain ⟨r, V2, D2, h1, h2, hR⟩ := pp_gain (L, xs) V D h (xs (i + 1).toNatClampNeg) (xs (i + 2).toNatClampNeg)
  refine ⟨V2, D2, hR, ?_⟩
  rw [k_139_53]
  simp only [k_139_54, k_139_55, w_l5, gl_1, va_r, va_n, gl_0, w_l3, gl_3, vi_i, w_c0, w_b10, w_ald, t_18_3, rc_0, io_x, gl_2, io_d, t_8, z10, z01, z_bT, z_bF, true_or, or_true, false_or, or_false, Option.bind_some, Option.toList_some, Option.toList_none, List.cons_append, List.nil_append, List.length_cons, List.length_nil, Nat.zero_add, Nat.reduceAdd, Nat.reduceLeDiff, and_self, and_true, true_and, if_true, if_false, reduceCtorEq, ne_eq, not_false_eq_true, not_true_eq_false, ↓reduceIte, Nat.reduceEqDiff, Bool.not_not, io_d, w_ald0, r1, r2, h1, h2, eq_self]
theorem la_tune (L : Nat) (xs : Nat → Int32) (i : Int32) (V : sv_V) (D : sv_D) (h : RR V D) (r1 : ∀ f, ai_rg (i + 1) L f = f) (r2 : ∀ f, ai_rg (i + 2) L f = f) : lw_2 L xs 57 i V D := by
  obtain ⟨r, V2, D2, h1, h2, hR⟩ := pp_tune (L, xs) V D h (xs (i + 1).toNatClampNeg) (xs (i + 2).toNatClampNeg)
  refine ⟨V2, D2, hR, ?_⟩
  rw [k_139_57]
  simp only [k_139_58, k_139_59, w_l5, gl_1, va_r, va_n, gl_0, w_l3, gl_3, vi_i, w_c0, w_b10, w_ald, t_18_3, rc_0, io_x, gl_2, io_d, t_8, z10, z01, z_bT, z_bF, true_or, or_true, false_or, or_false, Option.bind_some, Option.toList_some, Option.toList_none, List.cons_append, List.nil_append, List.length_cons, List.length_nil, Nat.zero_add, Nat.reduceAdd, Nat.reduceLeDiff, and_self, and_true, true_and, if_true, if_false, reduceCtorEq, ne_eq, not_false_eq_true, not_true_eq_false, ↓reduceIte, Nat.reduceEqDiff, Bool.not_not, io_d, w_ald0, r1, r2, h1, h2, eq_self]
theorem la_odds (L : Nat) (xs : Nat → Int32) (i : Int32) (V : sv_V) (D : sv_D) (h : RR V D) (r1 : ∀ f, ai_rg (i + 1) L f = f) (r2 : ∀ f, ai_rg (i + 2) L f = f) (r3 : ∀ f, ai_rg (i + 3) L f = f) : lw_2 L xs 61 i V D := by
  obtain ⟨r, V2, D2, h1, h2, hR⟩ := pp_odds (L, xs) V D h (xs (i + 1).toNatClampNeg) (xs (i + 2).toNatClampNeg) (xs (i + 3).toNatClampNeg)
  refine ⟨V2, D2, hR, ?_⟩
  rw [k_139_61]
  simp only [k_139_62, k_139_63, w_l5, gl_1, va_r, va_n, gl_0, w_l3, gl_3, vi_i, w_c0, w_b10, w_ald, t_18_4, rc_0, io_x, gl_2, io_d, t_8, z10, z01, z_bT, z_bF, true_or, or_true, false_or, or_false, Option.bind_some, Option.toList_some, Option.toList_none, List.cons_append, List.nil_append, List.length_cons, List.length_nil, Nat.zero_add, Nat.reduceAdd, Nat.reduceLeDiff, and_self, and_true, true_and, if_true, if_false, reduceCtorEq, ne_eq, not_false_eq_true, not_true_eq_false, ↓reduceIte, Nat.reduceEqDiff, Bool.not_not, io_d, w_ald0, r1, r2, r3, h1, h2, eq_self]
theorem la_tells (L : Nat) (xs : Nat → Int32) (i : Int32) (V : sv_V) (D : sv_D) (h : RR V D) (r1 : ∀ f, ai_rg (i + 1) L f = f) (r2 : ∀ f, ai_rg (i + 2) L f = f) (r3 : ∀ f, ai_rg (i + 3) L f = f) : lw_2 L xs 65 i V D := by
  obtain ⟨r, V2, D2, h1, h2, hR⟩ := pp_tells (L, xs) V D h (xs (i + 1).toNatClampNeg) (xs (i + 2).toNatClampNeg) (xs (i + 3).toNatClampNeg)
  refine ⟨V2, D2, hR, ?_⟩
  rw [k_139_65]
  simp only [k_139_66, k_139_67, w_l5, gl_1, va_r, va_n, gl_0, w_l3, gl_3, vi_i, w_c0, w_b10, w_ald, t_18_4, rc_0, io_x, gl_2, io_d, t_8, z10, z01, z_bT, z_bF, true_or, or_true, false_or, or_false, Option.bind_some, Option.toList_some, Option.toList_none, List.cons_append, List.nil_append, List.length_cons, List.length_nil, Nat.zero_add, Nat.reduceAdd, Nat.reduceLeDiff, and_self, and_true, true_and, if_true, if_false, reduceCtorEq, ne_eq, not_false_eq_true, not_true_eq_false, ↓reduceIte, Nat.reduceEqDiff, Bool.not_not, io_d, w_ald0, r1, r2, r3, h1, h2, eq_self]
theorem la_forget (L : Nat) (xs : Nat → Int32) (i : Int32) (V : sv_V) (D : sv_D) (h : RR V D) : lw_2 L xs 69 i V D := by
  obtain ⟨r, V2, D2, h1, h2, hR⟩ := pp_forget (L, xs) V D h 
  refine ⟨V2, D2, hR, ?_⟩
  rw [k_139_69]
  simp only [k_139_70, k_139_71, w_l5, gl_1, va_r, va_n, t_18_1, rc_0, io_x, gl_2, io_d, t_8, z10, z01, z_bT, z_bF, true_or, or_true, false_or, or_false, Option.bind_some, Option.toList_some, Option.toList_none, List.cons_append, List.nil_append, List.length_cons, List.length_nil, Nat.zero_add, Nat.reduceAdd, Nat.reduceLeDiff, and_self, and_true, true_and, if_true, if_false, reduceCtorEq, ne_eq, not_false_eq_true, not_true_eq_false, ↓reduceIte, Nat.reduceEqDiff, Bool.not_not, io_d, h1, h2, eq_self]
theorem la_soft (L : Nat) (xs : Nat → Int32) (i : Int32) (V : sv_V) (D : sv_D) (h : RR V D) : lw_2 L xs 73 i V D := by
  obtain ⟨r, V2, D2, h1, h2, hR⟩ := pp_soft (L, xs) V D h 
  refine ⟨V2, D2, hR, ?_⟩
  rw [k_139_73]
  simp only [k_139_74, k_139_75, w_l5, gl_1, va_r, va_n, t_18_1, rc_0, io_x, gl_2, io_d, t_8, z10, z01, z_bT, z_bF, true_or, or_true, false_or, or_false, Option.bind_some, Option.toList_some, Option.toList_none, List.cons_append, List.nil_append, List.length_cons, List.length_nil, Nat.zero_add, Nat.reduceAdd, Nat.reduceLeDiff, and_self, and_true, true_and, if_true, if_false, reduceCtorEq, ne_eq, not_false_eq_true, not_true_eq_false, ↓reduceIte, Nat.reduceEqDiff, Bool.not_not, io_d, h1, h2, eq_self]
theorem la_ask (L : Nat) (xs : Nat → Int32) (i : Int32) (V : sv_V) (D : sv_D) (h : RR V D) (r1 : ∀ f, ai_rg (i + 1) L f = f) : lw_2 L xs 77 i V D := by
  obtain ⟨r, V2, D2, h1, h2, hR⟩ := pp_ask (L, xs) V D h (xs (i + 1).toNatClampNeg)
  refine ⟨V2, D2, hR, ?_⟩
  rw [k_139_77]
  simp only [k_139_78, k_139_79, w_l5, gl_1, va_r, va_n, gl_0, w_l3, gl_3, vi_i, w_c0, w_b10, w_ald, t_18_2, rc_0, io_x, gl_2, io_d, t_8, z10, z01, z_bT, z_bF, true_or, or_true, false_or, or_false, Option.bind_some, Option.toList_some, Option.toList_none, List.cons_append, List.nil_append, List.length_cons, List.length_nil, Nat.zero_add, Nat.reduceAdd, Nat.reduceLeDiff, and_self, and_true, true_and, if_true, if_false, reduceCtorEq, ne_eq, not_false_eq_true, not_true_eq_false, ↓reduceIte, Nat.reduceEqDiff, Bool.not_not, io_d, w_ald0, r1, h1, h2, eq_self]
theorem la_rate (L : Nat) (xs : Nat → Int32) (i : Int32) (V : sv_V) (D : sv_D) (h : RR V D) (r1 : ∀ f, ai_rg (i + 1) L f = f) (r2 : ∀ f, ai_rg (i + 2) L f = f) : lw_2 L xs 81 i V D := by
  obtain ⟨r, V2, D2, h1, h2, hR⟩ := pp_rate (L, xs) V D h (xs (i + 1).toNatClampNeg) (xs (i + 2).toNatClampNeg)
  refine ⟨V2, D2, hR, ?_⟩
  rw [k_139_81]
  simp only [k_139_82, k_139_83, w_l5, gl_1, va_r, va_n, gl_0, w_l3, gl_3, vi_i, w_c0, w_b10, w_ald, t_18_3, rc_0, io_x, gl_2, io_d, t_8, z10, z01, z_bT, z_bF, true_or, or_true, false_or, or_false, Option.bind_some, Option.toList_some, Option.toList_none, List.cons_append, List.nil_append, List.length_cons, List.length_nil, Nat.zero_add, Nat.reduceAdd, Nat.reduceLeDiff, and_self, and_true, true_and, if_true, if_false, reduceCtorEq, ne_eq, not_false_eq_true, not_true_eq_false, ↓reduceIte, Nat.reduceEqDiff, Bool.not_not, io_d, w_ald0, r1, r2, h1, h2, eq_self]
theorem la_keep (L : Nat) (xs : Nat → Int32) (i : Int32) (V : sv_V) (D : sv_D) (h : RR V D) (r1 : ∀ f, ai_rg (i + 1) L f = f) : lw_2 L xs 85 i V D := by
  obtain ⟨r, V2, D2, h1, h2, hR⟩ := pp_keep (L, xs) V D h (xs (i + 1).toNatClampNeg)
  refine ⟨V2, D2, hR, ?_⟩
  rw [k_139_85]
  simp only [k_139_86, k_139_87, w_l5, gl_1, va_r, va_n, gl_0, w_l3, gl_3, vi_i, w_c0, w_b10, w_ald, t_18_2, rc_0, io_x, gl_2, io_d, t_8, z10, z01, z_bT, z_bF, true_or, or_true, false_or, or_false, Option.bind_some, Option.toList_some, Option.toList_none, List.cons_append, List.nil_append, List.length_cons, List.length_nil, Nat.zero_add, Nat.reduceAdd, Nat.reduceLeDiff, and_self, and_true, true_and, if_true, if_false, reduceCtorEq, ne_eq, not_false_eq_true, not_true_eq_false, ↓reduceIte, Nat.reduceEqDiff, Bool.not_not, io_d, w_ald0, r1, h1, h2, eq_self]
theorem la_back (L : Nat) (xs : Nat → Int32) (i : Int32) (V : sv_V) (D : sv_D) (h : RR V D) (r1 : ∀ f, ai_rg (i + 1) L f = f) : lw_2 L xs 89 i V D := by
  obtain ⟨r, V2, D2, h1, h2, hR⟩ := pp_back (L, xs) V D h (xs (i + 1).toNatClampNeg)
  refine ⟨V2, D2, hR, ?_⟩
  rw [k_139_89]
  simp only [k_139_90, k_139_91, w_l5, gl_1, va_r, va_n, gl_0, w_l3, gl_3, vi_i, w_c0, w_b10, w_ald, t_18_2, rc_0, io_x, gl_2, io_d, t_8, z10, z01, z_bT, z_bF, true_or, or_true, false_or, or_false, Option.bind_some, Option.toList_some, Option.toList_none, List.cons_append, List.nil_append, List.length_cons, List.length_nil, Nat.zero_add, Nat.reduceAdd, Nat.reduceLeDiff, and_self, and_true, true_and, if_true, if_false, reduceCtorEq, ne_eq, not_false_eq_true, not_true_eq_false, ↓reduceIte, Nat.reduceEqDiff, Bool.not_not, io_d, w_ald0, r1, h1, h2, eq_self]
theorem la_count (L : Nat) (xs : Nat → Int32) (i : Int32) (V : sv_V) (D : sv_D) (h : RR V D) (r1 : ∀ f, ai_rg (i + 1) L f = f) : lw_2 L xs 93 i V D := by
  obtain ⟨r, V2, D2, h1, h2, hR⟩ := pp_count (L, xs) V D h (xs (i + 1).toNatClampNeg)
  refine ⟨V2, D2, hR, ?_⟩
  rw [k_139_93]
  simp only [k_139_94, k_139_95, w_l5, gl_1, va_r, va_n, gl_0, w_l3, gl_3, vi_i, w_c0, w_b10, w_ald, t_18_2, rc_0, io_x, gl_2, io_d, t_8, z10, z01, z_bT, z_bF, true_or, or_true, false_or, or_false, Option.bind_some, Option.toList_some, Option.toList_none, List.cons_append, List.nil_append, List.length_cons, List.length_nil, Nat.zero_add, Nat.reduceAdd, Nat.reduceLeDiff, and_self, and_true, true_and, if_true, if_false, reduceCtorEq, ne_eq, not_false_eq_true, not_true_eq_false, ↓reduceIte, Nat.reduceEqDiff, Bool.not_not, io_d, w_ald0, r1, h1, h2, eq_self]
theorem la_trace (L : Nat) (xs : Nat → Int32) (i : Int32) (V : sv_V) (D : sv_D) (h : RR V D) : lw_2 L xs 97 i V D := by
  obtain ⟨r, D2, h1, h2, hR⟩ := pp_trace (L, xs) V D h
  refine ⟨V, D2, hR, ?_⟩
  rw [k_139_97]
  simp only [k_139_98, k_139_99, w_l5, gl_1, va_r, va_n, t_18_1, rc_0, io_x, gl_2, io_d, w_lcmp, t_2, z10, z01, z_bT, z_bF, true_or, or_true, false_or, or_false, Option.bind_some, Option.toList_some, Option.toList_none, List.cons_append, List.nil_append, List.length_cons, List.length_nil, Nat.zero_add, Nat.reduceAdd, Nat.reduceLeDiff, and_self, and_true, true_and, if_true, if_false, reduceCtorEq, ne_eq, not_false_eq_true, not_true_eq_false, ↓reduceIte, Nat.reduceEqDiff, Bool.not_not, io_d, h1, h2, lg_self, eq_self]
theorem la_4 (L : Nat) (xs : Nat → Int32) (i : Int32) (V : sv_V) (D : sv_D) (h : RR V D) (r0 : ∀ f, ai_rg i L f = f) (r1 : ∀ f, ai_rg (i + 1) L f = f) (r2 : ∀ f, ai_rg (i + 2) L f = f) (r3 : ∀ f, ai_rg (i + 3) L f = f) : lw_2 L xs 4 i V D := by
  unfold lw_2
  rw [k_139_4]
  simp only [w_l5, gl_0, va_r, va_n, w_l3, gl_3, vi_i, w_ald, w_c1, w_b13, t_16, sw_n, sw_c, z10, z01, z_bT, z_bF, true_or, or_true, false_or, or_false, Option.bind_some, Option.toList_some, Option.toList_none, List.cons_append, List.nil_append, List.length_cons, List.length_nil, Nat.zero_add, Nat.reduceAdd, Nat.reduceLeDiff, and_self, and_true, true_and, if_true, if_false, reduceCtorEq, ne_eq, not_false_eq_true, not_true_eq_false, ↓reduceIte, Nat.reduceEqDiff, Bool.not_not, w_ald0, r0]
  generalize xs i.toNatClampNeg &&& 31 = w
  by_cases w0 : w = 0
  · rw [if_pos w0]
    exact la_type L xs i V D h r1
  rw [if_neg w0]
  by_cases w1 : w = 1
  · rw [if_pos w1]
    exact la_clear L xs i V D h
  rw [if_neg w1]
  by_cases w2 : w = 2
  · rw [if_pos w2]
    exact la_embassy L xs i V D h
  rw [if_neg w2]
  by_cases w3 : w = 3
  · rw [if_pos w3]
    exact la_caller L xs i V D h r1 r2
  rw [if_neg w3]
  by_cases w4 : w = 4
  · rw [if_pos w4]
    exact la_now L xs i V D h r1
  rw [if_neg w4]
  by_cases w5 : w = 5
  · rw [if_pos w5]
    exact la_shakes L xs i V D h r1 r2
  rw [if_neg w5]
  by_cases w6 : w = 6
  · rw [if_pos w6]
    exact la_opens L xs i V D h
  rw [if_neg w6]
  by_cases w7 : w = 7
  · rw [if_pos w7]
    exact la_lines L xs i V D h r1
  rw [if_neg w7]
  by_cases w8 : w = 8
  · rw [if_pos w8]
    exact la_winds L xs i V D h
  rw [if_neg w8]
  by_cases w9 : w = 9
  · rw [if_pos w9]
    exact la_consoles L xs i V D h r1
  rw [if_neg w9]
  by_cases w10 : w = 10
  · rw [if_pos w10]
    exact la_undo L xs i V D h
  rw [if_neg w10]
  by_cases w11 : w = 11
  · rw [if_pos w11]
    exact la_way L xs i V D h r1 r2
  rw [if_neg w11]
  by_cases w12 : w = 12
  · rw [if_pos w12]
    exact la_gain L xs i V D h r1 r2
  rw [if_neg w12]
  by_cases w13 : w = 13
  · rw [if_pos w13]
    exact la_tune L xs i V D h r1 r2
  rw [if_neg w13]
  by_cases w14 : w = 14
  · rw [if_pos w14]
    exact la_odds L xs i V D h r1 r2 r3
  rw [if_neg w14]
  by_cases w15 : w = 15
  · rw [if_pos w15]
    exact la_tells L xs i V D h r1 r2 r3
  rw [if_neg w15]
  by_cases w16 : w = 16
  · rw [if_pos w16]
    exact la_forget L xs i V D h
  rw [if_neg w16]
  by_cases w17 : w = 17
  · rw [if_pos w17]
    exact la_soft L xs i V D h
  rw [if_neg w17]
  by_cases w18 : w = 18
  · rw [if_pos w18]
    exact la_ask L xs i V D h r1
  rw [if_neg w18]
  by_cases w19 : w = 19
  · rw [if_pos w19]
    exact la_rate L xs i V D h r1 r2
  rw [if_neg w19]
  by_cases w20 : w = 20
  · rw [if_pos w20]
    exact la_keep L xs i V D h r1
  rw [if_neg w20]
  by_cases w21 : w = 21
  · rw [if_pos w21]
    exact la_back L xs i V D h r1
  rw [if_neg w21]
  by_cases w22 : w = 22
  · rw [if_pos w22]
    exact la_count L xs i V D h r1
  rw [if_neg w22]
  by_cases w23 : w = 23
  · rw [if_pos w23]
    exact la_trace L xs i V D h
  rw [if_neg w23]
  exact ⟨V, D, h, rfl⟩
theorem la_loop (L : Nat) (xs : Nat → Int32) (hL : L ≤ 256) : ∀ (j q : Nat) (V : sv_V) (D : sv_D), L < 4 * q + 4 + 4 * j → 4 * q ≤ 256 → RR V D → ∃ V' D', ai_res (L, xs) 139 3 [.ref 0, .ref 1, .ref 62, .int (nI (4 * q))] [] (HP V D) = some (some (.int 1), HP V' D') := by
  have hof : Int32.ofNat L = nI L := rfl
  have hend : ∀ (q : Nat) (V : sv_V) (D : sv_D), L < 4 * q + 4 → 4 * q ≤ 256 → ∃ V' D', ai_res (L, xs) 139 3 [.ref 0, .ref 1, .ref 62, .int (nI (4 * q))] [] (HP V D) = some (some (.int 1), HP V' D') := by
    intro q V D hq hq2
    have hgt : nI L - 4 < nI (4 * q) := by
      by_cases h4 : 4 ≤ L
      · rw [show nI L - 4 = nI (L - 4) from nI_subN h4]
        exact nI_lt (by omega) (by omega)
      · have h5 : nI L - 4 < 0 := by
          have h6 : L = 0 ∨ L = 1 ∨ L = 2 ∨ L = 3 := by omega
          rcases h6 with h6 | h6 | h6 | h6 <;> rw [h6] <;> decide
        exact Int32.lt_of_lt_of_le h5 (nI_pos' (by omega))
    refine ⟨V, D, ?_⟩
    rw [k_139_3]
    simp only [k_139_102, w_l3, gl_3, vi_i, w_l5, gl_0, va_r, va_n, w_c0, w_b11, t_12, t_24_0, t_24_1, z10, z01, z_bT, z_bF, true_or, or_true, false_or, or_false, Option.bind_some, Option.toList_some, Option.toList_none, List.cons_append, List.nil_append, List.length_cons, List.length_nil, Nat.zero_add, Nat.reduceAdd, Nat.reduceLeDiff, and_self, and_true, true_and, if_true, if_false, reduceCtorEq, ne_eq, not_false_eq_true, not_true_eq_false, ↓reduceIte, Nat.reduceEqDiff, Bool.not_not, w_len0, hof, hgt]
  intro j
  induction j with
  | zero =>
    intro q V D hq hq2 hR
    exact hend q V D (by omega) hq2
  | succ j ih =>
    intro q V D hq hq2 hR
    by_cases hd : L < 4 * q + 4
    · exact hend q V D hd hq2
    · have hle : ¬ nI L - 4 < nI (4 * q) := by
        rw [show nI L - 4 = nI (L - 4) from nI_subN (a := L) (b := 4) (show 4 ≤ L by omega)]
        exact nI_nlt (by omega) (by omega)
      have i1 : nI (4 * q) + 1 = nI (4 * q + 1) := nI_add _ 1
      have i2 : nI (4 * q) + 2 = nI (4 * q + 2) := nI_add _ 2
      have i3 : nI (4 * q) + 3 = nI (4 * q + 3) := nI_add _ 3
      have i4 : nI (4 * q) + 4 = nI (4 * (q + 1)) := nI_add _ 4
      obtain ⟨V2, D2, hR2, h2⟩ := la_4 L xs (nI (4 * q)) V D hR (fun f => rg_n (by omega) (by omega) f) (fun f => by rw [i1]; exact rg_n (by omega) (by omega) f) (fun f => by rw [i2]; exact rg_n (by omega) (by omega) f) (fun f => by rw [i3]; exact rg_n (by omega) (by omega) f)
      obtain ⟨V3, D3, h3⟩ := ih (q + 1) V2 D2 (by omega) (by omega) hR2
      refine ⟨V3, D3, ?_⟩
      rw [k_139_3]
      simp only [w_l3, gl_3, vi_i, w_l5, gl_0, va_r, va_n, w_c0, w_b11, t_12, z10, z01, z_bT, z_bF, true_or, or_true, false_or, or_false, Option.bind_some, Option.toList_some, Option.toList_none, List.cons_append, List.nil_append, List.length_cons, List.length_nil, Nat.zero_add, Nat.reduceAdd, Nat.reduceLeDiff, and_self, and_true, true_and, if_true, if_false, reduceCtorEq, ne_eq, not_false_eq_true, not_true_eq_false, ↓reduceIte, Nat.reduceEqDiff, Bool.not_not, w_len0, hof, hle]
      rw [h2, k_139_101]
      simp only [w_inc, gl_3, sl_3, vi_i, t_1, z10, z01, z_bT, z_bF, true_or, or_true, false_or, or_false, Option.bind_some, Option.toList_some, Option.toList_none, List.cons_append, List.nil_append, List.length_cons, List.length_nil, Nat.zero_add, Nat.reduceAdd, Nat.reduceLeDiff, and_self, and_true, true_and, if_true, if_false, reduceCtorEq, ne_eq, not_false_eq_true, not_true_eq_false, ↓reduceIte, Nat.reduceEqDiff, Bool.not_not, i4]
      exact h3
