/-! the class: an item, the text, embassy -/
theorem x_tn_c (S : ai_S) (g : sv_G) (gr : Int32) (vl : Int32) (sg : Int32) (pr : Nat → Int32) (ha : Nat → Int32) (la : Nat → Int32) (wa : Nat → Int32) (sw : Bool) (le : Nat → Int32) (ln : Int32) (pc : Int32) (tp : Int32) (nu : Int32) (ns : Int32) (gt : Int32) (vt : Int32) (st : Int32) (m : sv_M) (pa : sv_P) (im : Nat → sv_M) (kp : Int32) (he : sv_H) (wl : Nat → Int32) (fe : Nat → Int32) (as : Int64) (D : sv_D) (c : Nat) (hc : c < 6) (h2 : ¬ nu < z_lst 99 ns) (h3 : nu ≤ z_most 99 ns) : ai_call S 18 [.ref 12, .ref (sq (!sw))] (HP (g, (gr, vl, sg, nI (c + 1), pr, ha, la, wa), sw, (le, ln, pc, 257, tp, nu, 99, ns, gt, vt, st), m, pa, im, kp, he, wl, fe, as) D) = some (some (.int 1), if ns = 0 then HP (g, (gr, vl, sg, nI (c + 1), upd pr c nu, ha, la, wa), sw, (le, ln, pc, 257, tp, nu, 99, (ns + 1), gt, vt, st), m, pa, im, kp, he, wl, fe, as) D else if ns = 1 then HP (g, (gr, vl, sg, nI (c + 1), pr, upd ha c nu, la, wa), sw, (le, ln, pc, 257, tp, nu, 99, (ns + 1), gt, vt, st), m, pa, im, kp, he, wl, fe, as) D else if ns = 2 then HP (g, (gr, vl, sg, nI (c + 1), pr, ha, upd la c nu, wa), sw, (le, ln, pc, 257, tp, nu, 99, (ns + 1), gt, vt, st), m, pa, im, kp, he, wl, fe, as) D else HP (g, (gr, vl, sg, nI (c + 1), pr, ha, la, upd wa c nu), sw, (le, ln, pc, 257, tp, nu, 99, (ns + 1), gt, vt, st), m, pa, im, kp, he, wl, fe, as) D) := by
  have h := x_tn (hc := hc) (hi := Or.inl rfl) (h2 := h2) (h3 := h3) S g gr vl sg pr ha la wa sw le ln pc tp nu 99 ns gt vt st m pa im kp he wl fe as D
  rw [if_neg (show ¬ (99 : Int32) = 103 by decide), if_neg (show ¬ (99 : Int32) = 118 by decide), if_neg (show ¬ (99 : Int32) = 115 by decide)] at h
  exact h
theorem x_tn_g (S : ai_S) (g : sv_G) (gr : Int32) (vl : Int32) (sg : Int32) (cs : Int32) (pr : Nat → Int32) (ha : Nat → Int32) (la : Nat → Int32) (wa : Nat → Int32) (sw : Bool) (le : Nat → Int32) (ln : Int32) (pc : Int32) (tp : Int32) (nu : Int32) (gt : Int32) (vt : Int32) (st : Int32) (m : sv_M) (pa : sv_P) (im : Nat → sv_M) (kp : Int32) (he : sv_H) (wl : Nat → Int32) (fe : Nat → Int32) (as : Int64) (D : sv_D) (h2 : ¬ nu < z_lst 103 0) (h3 : nu ≤ z_most 103 0) : ai_call S 18 [.ref 12, .ref (sq (!sw))] (HP (g, (gr, vl, sg, cs, pr, ha, la, wa), sw, (le, ln, pc, 257, tp, nu, 103, 0, gt, vt, st), m, pa, im, kp, he, wl, fe, as) D) = some (some (.int 1), HP (g, (nu, vl, sg, cs, pr, ha, la, wa), sw, (le, ln, pc, 257, tp, nu, 103, (0 + 1), gt, vt, st), m, pa, im, kp, he, wl, fe, as) D) := by
  rw [e_18]
  simp only [k_18_0, k_18_1, k_18_2, k_18_3, k_18_4, k_18_6, k_18_7, k_18_11, w_l5, gl_0, va_r, va_n, w_get, gf_t3, w_c2, t_9, gf_t5, t_18_1, rc_0, io_t, t_10, t_13, gf_t6, t_17, sw_n, sw_c, gl_1, w_putI, pf_g0, pf_p0, t_1, w_dupi, w_dupr, gf_t7, w_c0, w_b10, pf_t7, t_24_0, t_24_1, z10, z01, z_bT, z_bF, true_or, or_true, false_or, or_false, Option.bind_some, Option.toList_some, Option.toList_none, List.cons_append, List.nil_append, List.length_cons, List.length_nil, Nat.zero_add, Nat.reduceAdd, Nat.reduceLeDiff, and_self, and_true, true_and, if_true, if_false, reduceCtorEq, ne_eq, not_false_eq_true, not_true_eq_false, ↓reduceIte, Nat.reduceEqDiff, Bool.not_not, x_least2, h2, x_most, h3, eq_self]
theorem x_tn_v (S : ai_S) (g : sv_G) (gr : Int32) (vl : Int32) (sg : Int32) (cs : Int32) (pr : Nat → Int32) (ha : Nat → Int32) (la : Nat → Int32) (wa : Nat → Int32) (sw : Bool) (le : Nat → Int32) (ln : Int32) (pc : Int32) (tp : Int32) (nu : Int32) (gt : Int32) (vt : Int32) (st : Int32) (m : sv_M) (pa : sv_P) (im : Nat → sv_M) (kp : Int32) (he : sv_H) (wl : Nat → Int32) (fe : Nat → Int32) (as : Int64) (D : sv_D) (h2 : ¬ nu < z_lst 118 0) (h3 : nu ≤ z_most 118 0) : ai_call S 18 [.ref 12, .ref (sq (!sw))] (HP (g, (gr, vl, sg, cs, pr, ha, la, wa), sw, (le, ln, pc, 257, tp, nu, 118, 0, gt, vt, st), m, pa, im, kp, he, wl, fe, as) D) = some (some (.int 1), HP (g, (gr, nu, sg, cs, pr, ha, la, wa), sw, (le, ln, pc, 257, tp, nu, 118, (0 + 1), gt, vt, st), m, pa, im, kp, he, wl, fe, as) D) := by
  rw [e_18]
  simp only [k_18_0, k_18_1, k_18_2, k_18_3, k_18_4, k_18_6, k_18_8, k_18_11, w_l5, gl_0, va_r, va_n, w_get, gf_t3, w_c2, t_9, gf_t5, t_18_1, rc_0, io_t, t_10, t_13, gf_t6, t_17, sw_n, sw_c, gl_1, w_putI, pf_g1, pf_p1, t_1, w_dupi, w_dupr, gf_t7, w_c0, w_b10, pf_t7, t_24_0, t_24_1, z10, z01, z_bT, z_bF, true_or, or_true, false_or, or_false, Option.bind_some, Option.toList_some, Option.toList_none, List.cons_append, List.nil_append, List.length_cons, List.length_nil, Nat.zero_add, Nat.reduceAdd, Nat.reduceLeDiff, and_self, and_true, true_and, if_true, if_false, reduceCtorEq, ne_eq, not_false_eq_true, not_true_eq_false, ↓reduceIte, Nat.reduceEqDiff, Bool.not_not, x_least2, h2, x_most, h3, z_l4, z_l6, eq_self]
theorem x_tn_s (S : ai_S) (g : sv_G) (gr : Int32) (vl : Int32) (sg : Int32) (cs : Int32) (pr : Nat → Int32) (ha : Nat → Int32) (la : Nat → Int32) (wa : Nat → Int32) (sw : Bool) (le : Nat → Int32) (ln : Int32) (pc : Int32) (tp : Int32) (nu : Int32) (gt : Int32) (vt : Int32) (st : Int32) (m : sv_M) (pa : sv_P) (im : Nat → sv_M) (kp : Int32) (he : sv_H) (wl : Nat → Int32) (fe : Nat → Int32) (as : Int64) (D : sv_D) (h2 : ¬ nu < z_lst 115 0) (h3 : nu ≤ z_most 115 0) : ai_call S 18 [.ref 12, .ref (sq (!sw))] (HP (g, (gr, vl, sg, cs, pr, ha, la, wa), sw, (le, ln, pc, 257, tp, nu, 115, 0, gt, vt, st), m, pa, im, kp, he, wl, fe, as) D) = some (some (.int 1), HP (g, (gr, vl, nu, cs, pr, ha, la, wa), sw, (le, ln, pc, 257, tp, nu, 115, (0 + 1), gt, vt, st), m, pa, im, kp, he, wl, fe, as) D) := by
  rw [e_18]
  simp only [k_18_0, k_18_1, k_18_2, k_18_3, k_18_4, k_18_6, k_18_9, k_18_11, w_l5, gl_0, va_r, va_n, w_get, gf_t3, w_c2, t_9, gf_t5, t_18_1, rc_0, io_t, t_10, t_13, gf_t6, t_17, sw_n, sw_c, gl_1, w_putI, pf_g2, pf_p2, t_1, w_dupi, w_dupr, gf_t7, w_c0, w_b10, pf_t7, t_24_0, t_24_1, z10, z01, z_bT, z_bF, true_or, or_true, false_or, or_false, Option.bind_some, Option.toList_some, Option.toList_none, List.cons_append, List.nil_append, List.length_cons, List.length_nil, Nat.zero_add, Nat.reduceAdd, Nat.reduceLeDiff, and_self, and_true, true_and, if_true, if_false, reduceCtorEq, ne_eq, not_false_eq_true, not_true_eq_false, ↓reduceIte, Nat.reduceEqDiff, Bool.not_not, x_least2, h2, x_most, h3, z_l5, eq_self]
theorem x_tl_o2 (S : ai_S) (g : sv_G) (p : sv_G) (sw : Bool) (le : Nat → Int32) (ln : Int32) (pc : Int32) (tk : Int32) (tp : Int32) (nu : Int32) (it : Int32) (ns : Int32) (gt : Int32) (vt : Int32) (st : Int32) (m : sv_M) (pa : sv_P) (im : Nat → sv_M) (kp : Int32) (he : sv_H) (wl : Nat → Int32) (fe : Nat → Int32) (as : Int64) (D : sv_D) (h1 : ¬ tk = 99) (h2 : ¬ tk = 103) (h3 : ¬ tk = 115) (h4 : ¬ tk = 118) : ai_call S 17 [.ref 12, .ref (sq (!sw))] (HP (g, p, sw, (le, ln, pc, tk, tp, nu, it, ns, gt, vt, st), m, pa, im, kp, he, wl, fe, as) D) = some (some (.int 0), HP (g, p, sw, (le, ln, pc, tk, tp, nu, it, ns, gt, vt, st), m, pa, im, kp, he, wl, fe, as) D) := by
  cases sw
  · exact x_tl_o (q := 6) (h1 := h1) (h2 := h2) (h3 := h3) (h4 := h4) ..
  · exact x_tl_o (q := 1) (h1 := h1) (h2 := h2) (h3 := h3) (h4 := h4) ..
theorem x_tl_g2 (S : ai_S) (g : sv_G) (p : sv_G) (sw : Bool) (le : Nat → Int32) (ln : Int32) (pc : Int32) (tp : Int32) (nu : Int32) (it : Int32) (ns : Int32) (gt : Int32) (vt : Int32) (st : Int32) (m : sv_M) (pa : sv_P) (im : Nat → sv_M) (kp : Int32) (he : sv_H) (wl : Nat → Int32) (fe : Nat → Int32) (as : Int64) (D : sv_D) : ai_call S 17 [.ref 12, .ref (sq (!sw))] (HP (g, p, sw, (le, ln, pc, 103, tp, nu, it, ns, gt, vt, st), m, pa, im, kp, he, wl, fe, as) D) = some (some (.int (z_b (gt = 0))), HP (g, p, sw, (le, ln, pc, 103, tp, nu, 103, 0, 1, vt, st), m, pa, im, kp, he, wl, fe, as) D) := by
  cases sw
  · exact x_tl_g (q := 6) ..
  · exact x_tl_g (q := 1) ..
theorem x_tl_v2 (S : ai_S) (g : sv_G) (p : sv_G) (sw : Bool) (le : Nat → Int32) (ln : Int32) (pc : Int32) (tp : Int32) (nu : Int32) (it : Int32) (ns : Int32) (gt : Int32) (vt : Int32) (st : Int32) (m : sv_M) (pa : sv_P) (im : Nat → sv_M) (kp : Int32) (he : sv_H) (wl : Nat → Int32) (fe : Nat → Int32) (as : Int64) (D : sv_D) : ai_call S 17 [.ref 12, .ref (sq (!sw))] (HP (g, p, sw, (le, ln, pc, 118, tp, nu, it, ns, gt, vt, st), m, pa, im, kp, he, wl, fe, as) D) = some (some (.int (z_b (vt = 0))), HP (g, p, sw, (le, ln, pc, 118, tp, nu, 118, 0, gt, 1, st), m, pa, im, kp, he, wl, fe, as) D) := by
  cases sw
  · exact x_tl_v (q := 6) ..
  · exact x_tl_v (q := 1) ..
theorem x_tl_s2 (S : ai_S) (g : sv_G) (p : sv_G) (sw : Bool) (le : Nat → Int32) (ln : Int32) (pc : Int32) (tp : Int32) (nu : Int32) (it : Int32) (ns : Int32) (gt : Int32) (vt : Int32) (st : Int32) (m : sv_M) (pa : sv_P) (im : Nat → sv_M) (kp : Int32) (he : sv_H) (wl : Nat → Int32) (fe : Nat → Int32) (as : Int64) (D : sv_D) : ai_call S 17 [.ref 12, .ref (sq (!sw))] (HP (g, p, sw, (le, ln, pc, 115, tp, nu, it, ns, gt, vt, st), m, pa, im, kp, he, wl, fe, as) D) = some (some (.int (z_b (st = 0))), HP (g, p, sw, (le, ln, pc, 115, tp, nu, 115, 0, gt, vt, 1), m, pa, im, kp, he, wl, fe, as) D) := by
  cases sw
  · exact x_tl_s (q := 6) ..
  · exact x_tl_s (q := 1) ..
set_option maxHeartbeats 4000000 in
theorem zq_l (S : ai_S) (g : sv_G) (sw : Bool) (le : Nat → Int32) (n : Nat) (m : sv_M) (pa : sv_P) (im : Nat → sv_M) (kp : Int32) (he : sv_H) (wl : Nat → Int32) (fe : Nat → Int32) (as : Int64) (D : sv_D) (hn : n ≤ 120) (hle : ∀ j, j < n → ¬ le j = 257) (i0 : Int32) (k r : Nat) (nu ns : Int32) (hk : k ≤ n) (hr : r ≤ (z_rtk le n 0 k).2.2.1) (h6 : ¬ (z_rtk le n 0 k).2.1 = 256) (gt vt st : Int32) (gr vl sg : Int32) (c : Nat) (hc : c ≤ 6) (pr ha la wa : Nat → Int32) :
    zq S g sw le n m pa im kp he wl fe as D (i0 + 1) (zp_item (z_rtk le n 0) k (gr, vl, sg, c, pr, ha, la, wa, gt, vt, st)) (ai_res S 14 4 [.ref 12, .ref (sq (!sw)), .int i0, .int (nI r)] [] (HP (g, (gr, vl, sg, nI c, pr, ha, la, wa), sw, (le, nI n, nI (z_rtk le n 0 k).1, (z_rtk le n 0 k).2.1, nI (z_rtk le n 0 k).2.2.1, nu, 0, ns, gt, vt, st), m, pa, im, kp, he, wl, fe, as) D)) := by
  obtain ⟨o1, o2, o3, o4⟩ := zp_T_ok le n k hk
  have o5 := (zp_T_ok le n (z_rtk le n 0 k).1 o1).2.1
  have o6 := o4 h6
  rw [zp_item]
  generalize hT : z_rtk le n 0 k = t0 at *
  obtain ⟨a1, a2, a3, a4⟩ := t0
  dsimp only at *
  by_cases h99 : a2 = 99
  · rw [if_pos h99]
    subst h99
    by_cases hc6 : c < 6
    · rw [if_pos hc6]
      have hl : ai_call S 17 [.ref 12, .ref (sq (!sw))] (HP (g, (gr, vl, sg, nI c, pr, ha, la, wa), sw, (le, nI n, nI a1, 99, nI a3, nu, 0, ns, gt, vt, st), m, pa, im, kp, he, wl, fe, as) D) = _ := x_tl_c ..
      rw [z_b_t (show nI c < 6 from nI_lt (b := 6) hc6 (by decide)), nI_1] at hl
      rw [x_ts_ok (hn := hn) (hk := o1) (hr := by omega) (ht := by decide) (h16 := x_tt_L1 (hl := hl) ..)]
      obtain ⟨nu2, g1, g2⟩ := z_rtk_nu le n nu a1 hle
      rw [g2, if_neg (show ¬ (99 : Int32) = 59 by decide)]
      refine zq_n S g sw le n m pa im kp he wl fe as D hn hle (i0 + 1) i0 a1 (r + 1) nu2 o1 (by omega) g1 99 0 1 30 gt vt st (by decide) (by decide) rfl rfl _ _ (fun a => (gr, vl, sg, nI (c + 1), upd pr c a, ha, la, wa)) (fun pc tp nu q1 q2 => x_tn_c (hc := hc6) (h2 := q1) (h3 := q2) ..) ?_
      intro nu3 r3 b1 b2
      have p1 := (zp_T_ok le n a1 o1).1
      generalize (z_rtk le n 0 a1).2.2.2 = n1
      generalize (z_rtk le n 0 a1).1 = k1 at p1 b1 b2 ⊢
      refine zq_n S g sw le n m pa im kp he wl fe as D hn hle (i0 + 1) i0 k1 r3 nu3 p1 b1 b2 99 (0 + 1) 0 30 gt vt st (by decide) (by decide) rfl rfl _ _ (fun a => (gr, vl, sg, nI (c + 1), upd pr c n1, upd ha c a, la, wa)) (fun pc tp nu q1 q2 => x_tn_c (hc := hc6) (h2 := q1) (h3 := q2) ..) ?_
      intro nu4 r4 b3 b4
      have p2 := (zp_T_ok le n k1 p1).1
      generalize (z_rtk le n 0 k1).2.2.2 = n2
      generalize (z_rtk le n 0 k1).1 = k2 at p2 b3 b4 ⊢
      refine zq_n S g sw le n m pa im kp he wl fe as D hn hle (i0 + 1) i0 k2 r4 nu4 p2 b3 b4 99 (0 + 1 + 1) 0 9 gt vt st (by decide) (by decide) rfl rfl _ _ (fun a => (gr, vl, sg, nI (c + 1), upd pr c n1, upd ha c n2, upd la c a, wa)) (fun pc tp nu q1 q2 => x_tn_c (hc := hc6) (h2 := q1) (h3 := q2) ..) ?_
      intro nu5 r5 b5 b6
      have p3 := (zp_T_ok le n k2 p2).1
      generalize (z_rtk le n 0 k2).2.2.2 = n3
      generalize (z_rtk le n 0 k2).1 = k3 at p3 b5 b6 ⊢
      refine zq_n S g sw le n m pa im kp he wl fe as D hn hle (i0 + 1) i0 k3 r5 nu5 p3 b5 b6 99 (0 + 1 + 1 + 1) 0 5 gt vt st (by decide) (by decide) rfl rfl _ _ (fun a => (gr, vl, sg, nI (c + 1), upd pr c n1, upd ha c n2, upd la c n3, upd wa c a)) (fun pc tp nu q1 q2 => x_tn_c (hc := hc6) (h2 := q1) (h3 := q2) ..) ?_
      intro nu6 r6 b7 b8
      have p4 := (zp_T_ok le n k3 p3).1
      exact zq_e S g sw le n m pa im kp he wl fe as D hn hle i0 _ r6 nu6 p4 b7 99 (0 + 1 + 1 + 1 + 1) gt vt st (by decide) (by decide) gr vl sg (c + 1) (by omega) _ _ _ _
    · rw [if_neg hc6]
      have hl : ai_call S 17 [.ref 12, .ref (sq (!sw))] (HP (g, (gr, vl, sg, nI c, pr, ha, la, wa), sw, (le, nI n, nI a1, 99, nI a3, nu, 0, ns, gt, vt, st), m, pa, im, kp, he, wl, fe, as) D) = _ := x_tl_c ..
      rw [z_b_f (show ¬ nI c < 6 from nI_nlt (b := 6) (by omega) (by omega))] at hl
      rw [x_ts_bad (hr := by omega) (ht := by decide) (h16 := x_tt_L0 (hl := hl) ..)]
      exact ⟨_, _, _, _, _, _, _, _, _, _, rfl⟩
  rw [if_neg h99]
  by_cases h103 : a2 = 103
  · rw [if_pos h103]
    subst h103
    have hl := fun tp => x_tl_g2 S g (gr, vl, sg, nI c, pr, ha, la, wa) sw le (nI n) (nI a1) tp nu 0 ns gt vt st m pa im kp he wl fe as D
    by_cases hg : gt = 0
    · rw [if_pos hg]
      rw [z_b_t hg] at hl
      rw [x_ts_ok (hn := hn) (hk := o1) (hr := by omega) (ht := by decide) (h16 := x_tt_L1 (hl := hl _) ..)]
      obtain ⟨nu2, g1, g2⟩ := z_rtk_nu le n nu a1 hle
      rw [g2, if_neg (show ¬ (103 : Int32) = 59 by decide)]
      refine zq_n S g sw le n m pa im kp he wl fe as D hn hle (i0 + 1) i0 a1 (r + 1) nu2 o1 (by omega) g1 103 0 0 9 1 vt st (by decide) (by decide) rfl rfl _ _ (fun a => (a, vl, sg, nI c, pr, ha, la, wa)) (fun pc tp nu q1 q2 => x_tn_g (h2 := q1) (h3 := q2) ..) ?_
      intro nu3 r3 b1 b2
      have p1 := (zp_T_ok le n a1 o1).1
      exact zq_e S g sw le n m pa im kp he wl fe as D hn hle i0 _ r3 nu3 p1 b1 103 (0 + 1) 1 vt st (by decide) (by decide) _ vl sg c hc _ _ _ _
    · rw [if_neg hg]
      rw [z_b_f hg] at hl
      rw [x_ts_bad (hr := by omega) (ht := by decide) (h16 := x_tt_L0 (hl := hl _) ..)]
      exact ⟨_, _, _, _, _, _, _, _, _, _, rfl⟩
  rw [if_neg h103]
  by_cases h118 : a2 = 118
  · rw [if_pos h118]
    subst h118
    have hl := fun tp => x_tl_v2 S g (gr, vl, sg, nI c, pr, ha, la, wa) sw le (nI n) (nI a1) tp nu 0 ns gt vt st m pa im kp he wl fe as D
    by_cases hg : vt = 0
    · rw [if_pos hg]
      rw [z_b_t hg] at hl
      rw [x_ts_ok (hn := hn) (hk := o1) (hr := by omega) (ht := by decide) (h16 := x_tt_L1 (hl := hl _) ..)]
      obtain ⟨nu2, g1, g2⟩ := z_rtk_nu le n nu a1 hle
      rw [g2, if_neg (show ¬ (118 : Int32) = 59 by decide)]
      refine zq_n S g sw le n m pa im kp he wl fe as D hn hle (i0 + 1) i0 a1 (r + 1) nu2 o1 (by omega) g1 118 0 0 9 gt 1 st (by decide) (by decide) rfl rfl _ _ (fun a => (gr, a, sg, nI c, pr, ha, la, wa)) (fun pc tp nu q1 q2 => x_tn_v (h2 := q1) (h3 := q2) ..) ?_
      intro nu3 r3 b1 b2
      have p1 := (zp_T_ok le n a1 o1).1
      exact zq_e S g sw le n m pa im kp he wl fe as D hn hle i0 _ r3 nu3 p1 b1 118 (0 + 1) gt 1 st (by decide) (by decide) gr _ sg c hc _ _ _ _
    · rw [if_neg hg]
      rw [z_b_f hg] at hl
      rw [x_ts_bad (hr := by omega) (ht := by decide) (h16 := x_tt_L0 (hl := hl _) ..)]
      exact ⟨_, _, _, _, _, _, _, _, _, _, rfl⟩
  rw [if_neg h118]
  by_cases h115 : a2 = 115
  · rw [if_pos h115]
    subst h115
    have hl := fun tp => x_tl_s2 S g (gr, vl, sg, nI c, pr, ha, la, wa) sw le (nI n) (nI a1) tp nu 0 ns gt vt st m pa im kp he wl fe as D
    by_cases hg : st = 0
    · rw [if_pos hg]
      rw [z_b_t hg] at hl
      rw [x_ts_ok (hn := hn) (hk := o1) (hr := by omega) (ht := by decide) (h16 := x_tt_L1 (hl := hl _) ..)]
      obtain ⟨nu2, g1, g2⟩ := z_rtk_nu le n nu a1 hle
      rw [g2, if_neg (show ¬ (115 : Int32) = 59 by decide)]
      refine zq_n S g sw le n m pa im kp he wl fe as D hn hle (i0 + 1) i0 a1 (r + 1) nu2 o1 (by omega) g1 115 0 1 60 gt vt 1 (by decide) (by decide) rfl rfl _ _ (fun a => (gr, vl, a, nI c, pr, ha, la, wa)) (fun pc tp nu q1 q2 => x_tn_s (h2 := q1) (h3 := q2) ..) ?_
      intro nu3 r3 b1 b2
      have p1 := (zp_T_ok le n a1 o1).1
      exact zq_e S g sw le n m pa im kp he wl fe as D hn hle i0 _ r3 nu3 p1 b1 115 (0 + 1) gt vt 1 (by decide) (by decide) gr vl _ c hc _ _ _ _
    · rw [if_neg hg]
      rw [z_b_f hg] at hl
      rw [x_ts_bad (hr := by omega) (ht := by decide) (h16 := x_tt_L0 (hl := hl _) ..)]
      exact ⟨_, _, _, _, _, _, _, _, _, _, rfl⟩
  rw [if_neg h115]
  rw [x_ts_bad (hr := by omega) (ht := h6) (h16 := x_tt_L0 (hl := x_tl_o2 (h1 := h99) (h2 := h103) (h3 := h115) (h4 := h118) ..) ..)]
  exact ⟨_, _, _, _, _, _, _, _, _, _, rfl⟩
/-- what tell answers -/
def zr (g : sv_G) (sw : Bool) (le : Nat → Int32) (n : Nat) (m : sv_M) (pa : sv_P) (im : Nat → sv_M) (kp : Int32) (he : sv_H) (wl : Nat → Int32) (fe : Nat → Int32) (as : Int64) (D : sv_D) : (Nat × zp_S) ⊕ Nat → ai_A → Prop
  | .inl (i, s), X => s.2.2.2.1 ≤ 6 ∧ ∃ (pc tk tp nu it ns gt vt st : Int32), X = some (some (.int (nI i)), HP (g, (zp_g s), sw, (le, nI n, pc, tk, tp, nu, it, ns, gt, vt, st), m, pa, im, kp, he, wl, fe, as) D)
  | .inr q, X => ∃ (p : sv_G) (pc tk tp nu it ns gt vt st : Int32), X = some (some (.int (-10 - nI q)), HP (g, p, sw, (le, nI n, pc, tk, tp, nu, it, ns, gt, vt, st), m, pa, im, kp, he, wl, fe, as) D)
theorem zr_go (S : ai_S) (g : sv_G) (sw : Bool) (le : Nat → Int32) (n : Nat) (m : sv_M) (pa : sv_P) (im : Nat → sv_M) (kp : Int32) (he : sv_H) (wl : Nat → Int32) (fe : Nat → Int32) (as : Int64) (D : sv_D) (hn : n ≤ 120) (hle : ∀ j, j < n → ¬ le j = 257) : ∀ (f k i r : Nat) (nu ns : Int32) (s : zp_S), n < f + (z_rtk le n 0 k).2.2.1 → k ≤ n → s.2.2.2.1 ≤ 6 → r ≤ (z_rtk le n 0 k).2.2.1 → ((z_rtk le n 0 k).2.1 = 257 → nu = (z_rtk le n 0 k).2.2.2) →
    zr g sw le n m pa im kp he wl fe as D (zp_go (z_rtk le n 0) f k s i) (ai_res S 14 4 [.ref 12, .ref (sq (!sw)), .int (nI i), .int (nI r)] [] (HP (g, zp_g s, sw, (le, nI n, nI (z_rtk le n 0 k).1, (z_rtk le n 0 k).2.1, nI (z_rtk le n 0 k).2.2.1, nu, 0, ns, s.2.2.2.2.2.2.2.2.1, s.2.2.2.2.2.2.2.2.2.1, s.2.2.2.2.2.2.2.2.2.2), m, pa, im, kp, he, wl, fe, as) D)) := by
  intro f
  induction f with
  | zero =>
    intro k i r nu ns s hf hk hc hr hnu
    have h := (zp_T_ok le n k hk).2.2.1
    omega
  | succ f ih =>
    intro k i r nu ns s hf hk hc hr hnu
    obtain ⟨gr, vl, sg, c, pr, ha, la, wa, gt, vt, st⟩ := s
    obtain ⟨o1, o2, o3, o4⟩ := zp_T_ok le n k hk
    unfold zp_go
    by_cases h6 : (z_rtk le n 0 k).2.1 = 256
    · rw [if_pos h6]
      refine ⟨hc, nI (z_rtk le n 0 k).1, 256, nI (z_rtk le n 0 k).2.2.1, nu, 0, ns, gt, vt, st, ?_⟩
      rw [h6]
      exact x_ts_end ..
    · rw [if_neg h6]
      have hz := zq_l S g sw le n m pa im kp he wl fe as D hn hle (nI i) k r nu ns hk hr h6 gt vt st gr vl sg c hc pr ha la wa
      cases hi : zp_item (z_rtk le n 0) k (gr, vl, sg, c, pr, ha, la, wa, gt, vt, st) with
      | inl x =>
        obtain ⟨⟨gr2, vl2, sg2, c2, pr2, ha2, la2, wa2, gt2, vt2, st2⟩, k2⟩ := x
        rw [hi] at hz
        obtain ⟨z1, z2, r2, nu2, ns2, z3, z4, z5⟩ := hz
        have hkk : (z_rtk le n 0 k).1 ≤ k2 := zp_item_le (zp_T_ok le n) hk hi
        have o5 := (zp_T_ok le n k2 z1).2.1
        have o6 := o4 h6
        have h2 := ih k2 (i + 1) r2 nu2 ns2 (gr2, vl2, sg2, c2, pr2, ha2, la2, wa2, gt2, vt2, st2) (by omega) z1 z2 z3 z4
        rw [nI_1] at z5
        show zr g sw le n m pa im kp he wl fe as D (zp_go (z_rtk le n 0) f k2 _ (i + 1)) (ai_res S 14 4 [.ref 12, .ref (sq (!sw)), .int (nI i), .int (nI r)] [] (HP (g, (gr, vl, sg, nI c, pr, ha, la, wa), sw, (le, nI n, nI (z_rtk le n 0 k).1, (z_rtk le n 0 k).2.1, nI (z_rtk le n 0 k).2.2.1, nu, 0, ns, gt, vt, st), m, pa, im, kp, he, wl, fe, as) D))
        rw [z5]
        exact h2
      | inr q =>
        rw [hi] at hz
        exact hz
theorem zr_tell (S : ai_S) (g : sv_G) (sw : Bool) (le : Nat → Int32) (n : Nat) (m : sv_M) (pa : sv_P) (im : Nat → sv_M) (kp : Int32) (he : sv_H) (wl : Nat → Int32) (fe : Nat → Int32) (as : Int64) (D : sv_D) (hn : n ≤ 120) (hle : ∀ j, j < n → ¬ le j = 257) (pc tk tp nu it ns gt vt st gr vl sg cs : Int32) (pr ha la wa : Nat → Int32) :
    zr g sw le n m pa im kp he wl fe as D (zp_go (z_rtk le n 0) 200 0 (4, 3, 20, 0, pr, ha, la, wa, 0, 0, 0) 0) (ai_call S 14 [.ref 12, .ref (sq (!sw))] (HP (g, (gr, vl, sg, cs, pr, ha, la, wa), sw, (le, nI n, pc, tk, tp, nu, it, ns, gt, vt, st), m, pa, im, kp, he, wl, fe, as) D)) := by
  obtain ⟨nu2, g1, g2⟩ := z_rtk_nu le n nu 0 hle
  have hrt := x_readToken S g (4, 3, 20, 0, pr, ha, la, wa) sw le tk tp nu 0 ns 0 0 0 m pa im kp he wl fe as D n 0 hn (Nat.zero_le _)
  rw [g2] at hrt
  have hrt2 : ai_call S 21 [.ref 12] (HP (g, (4, 3, 20, 0, pr, ha, la, wa), sw, (le, nI n, 0, tk, tp, nu, 0, ns, 0, 0, 0), m, pa, im, kp, he, wl, fe, as) D) = _ := hrt
  have h2 := zr_go S g sw le n m pa im kp he wl fe as D hn hle 200 0 0 0 nu2 ns (4, 3, 20, 0, pr, ha, la, wa, 0, 0, 0) (by omega) (Nat.zero_le _) (Nat.zero_le _) (Nat.zero_le _) g1
  rw [e_14]
  simp only [k_14_0, k_14_1, k_14_2, k_14_3, w_l5, gl_0, va_r, va_n, t_18_1, rc_0, io_t, gl_1, io_g, w_c0, w_s6, sl_2, ll_2, sl_3, ll_3, t_0, z10, z01, z_bT, z_bF, true_or, or_true, false_or, or_false, Option.bind_some, Option.toList_some, Option.toList_none, List.cons_append, List.nil_append, List.length_cons, List.length_nil, Nat.zero_add, Nat.reduceAdd, Nat.reduceLeDiff, and_self, and_true, true_and, if_true, if_false, reduceCtorEq, ne_eq, not_false_eq_true, not_true_eq_false, ↓reduceIte, Nat.reduceEqDiff, Bool.not_not, x_tbegin, x_sbegin, hrt2]
  exact h2
/-! the class: embassy -/
/-- the heap between the two puts that change setting and spare -/
def sw_h (V : sv_V) (D : sv_D) : ai_H := (HP V D).set 0 (.inr (5, [.ref (sq V.2.2.1), .ref (sq V.2.2.1), .ref 12, .ref 14, .ref 17, .ref 49, .int V.2.2.2.2.2.2.2.1, .ref 56, .ref 60, .ref 61, .long V.2.2.2.2.2.2.2.2.2.2.2]))
theorem sw_1 (g : sv_G) (p : sv_G) (sw : Bool) (t : sv_T) (m : sv_M) (pa : sv_P) (im : Nat → sv_M) (kp : Int32) (he : sv_H) (wl : Nat → Int32) (fe : Nat → Int32) (as : Int64) (D : sv_D) : ai_pf (HP (g, p, sw, t, m, pa, im, kp, he, wl, fe, as) D) 1 5 1 (.ref (sq sw)) = some (sw_h (g, p, sw, t, m, pa, im, kp, he, wl, fe, as) D) := by cases sw <;> rfl
theorem sw_2 (g : sv_G) (p : sv_G) (sw : Bool) (t : sv_T) (m : sv_M) (pa : sv_P) (im : Nat → sv_M) (kp : Int32) (he : sv_H) (wl : Nat → Int32) (fe : Nat → Int32) (as : Int64) (D : sv_D) : ai_pf (sw_h (g, p, sw, t, m, pa, im, kp, he, wl, fe, as) D) 1 5 0 (.ref (sq (!sw))) = some (HP (p, g, (!sw), t, m, pa, im, kp, he, wl, fe, as) D) := by cases sw <;> rfl
theorem x_embassy_b (S : ai_S) (g : sv_G) (p : sv_G) (sw : Bool) (t : sv_T) (m : sv_M) (pa : sv_P) (im : Nat → sv_M) (kp : Int32) (he : sv_H) (wl : Nat → Int32) (fe : Nat → Int32) (as : Int64) (D : sv_D) (q : Int32) (hq : q < 0) (h' : ai_H) (h14 : ai_call S 14 [.ref 12, .ref (sq (!sw))] (HP (g, p, sw, t, m, pa, im, kp, he, wl, fe, as) D) = some (some (.int q), h')) : ai_call S 27 [.ref 1] (HP (g, p, sw, t, m, pa, im, kp, he, wl, fe, as) D) = some (some (.int q), h') := by
  have h0 : ¬ 0 ≤ q := Int32.not_le.mpr hq
  rw [e_27]
  simp only [k_27_0, k_27_1, k_27_2, w_l5, gl_0, va_r, va_n, w_get, gf_x2, gf_x1, t_18_2, rc_0, io_t, w_s6, sl_1, ll_1, w_l3, gl_1, vi_i, t_5, t_23, z10, z01, z_bT, z_bF, true_or, or_true, false_or, or_false, Option.bind_some, Option.toList_some, Option.toList_none, List.cons_append, List.nil_append, List.length_cons, List.length_nil, Nat.zero_add, Nat.reduceAdd, Nat.reduceLeDiff, and_self, and_true, true_and, if_true, if_false, reduceCtorEq, ne_eq, not_false_eq_true, not_true_eq_false, ↓reduceIte, Nat.reduceEqDiff, Bool.not_not, h14, h0]
theorem x_embassy (S : ai_S) (g : sv_G) (gr : Int32) (vl : Int32) (sg : Int32) (cs : Int32) (pr : Nat → Int32) (ha : Nat → Int32) (la : Nat → Int32) (wa : Nat → Int32) (sw : Bool) (le : Nat → Int32) (ln : Int32) (pc : Int32) (tk : Int32) (tp : Int32) (nu : Int32) (it : Int32) (ns : Int32) (gt : Int32) (vt : Int32) (st : Int32) (br : Nat → Int32) (wm : Nat → Int32) (yi : Int32) (lf : Int32) (sh : Int32) (hu : Int32) (ve : Int32) (so : Int32) (rw : Nat → sv_M) (nx : Int32) (kn : Int32) (im : Nat → sv_M) (kp : Int32) (wh : Nat → Int32) (ti : Nat → Int32) (yd : Nat → Int32) (sz : Int32) (wl : Nat → Int32) (fe : Nat → Int32) (as : Int64) (D : sv_D) (p0 : sv_G) (t0 : sv_T) (q : Int32) (hq : 0 ≤ q) (h14 : ai_call S 14 [.ref 12, .ref (sq (!sw))] (HP (g, p0, sw, t0, (br, wm, yi, lf, sh, hu, ve, so), (rw, nx, kn), im, kp, (wh, ti, yd, sz), wl, fe, as) D) = some (some (.int q), HP (g, (gr, vl, sg, cs, pr, ha, la, wa), sw, (le, ln, pc, tk, tp, nu, it, ns, gt, vt, st), (br, wm, yi, lf, sh, hu, ve, so), (rw, nx, kn), im, kp, (wh, ti, yd, sz), wl, fe, as) D)) : ∃ br' wm', (∀ k, k < 6 → br' k = 0 ∧ wm' k = 0) ∧ ai_call S 27 [.ref 1] (HP (g, p0, sw, t0, (br, wm, yi, lf, sh, hu, ve, so), (rw, nx, kn), im, kp, (wh, ti, yd, sz), wl, fe, as) D) = some (some (.int q), HP ((gr, vl, sg, cs, pr, ha, la, wa), g, (!sw), (le, 0, pc, tk, tp, nu, it, ns, gt, vt, st), (br', wm', 0, 0, 0, 0, vl, -9), (rw, nx, 0), im, 0, (wh, ti, yd, 0), wl, fe, as) D) := by
  obtain ⟨br2, wm2, hb, hm⟩ := x_mbegin S (gr, vl, sg, cs, pr, ha, la, wa) g (!sw) (le, 0, pc, tk, tp, nu, it, ns, gt, vt, st) br wm yi lf sh hu ve so (rw, nx, kn) im kp (wh, ti, yd, sz) wl fe as D vl
  refine ⟨br2, wm2, hb, ?_⟩
  rw [e_27]
  simp only [k_27_0, k_27_1, k_27_2, k_27_3, k_27_4, k_27_5, w_l5, gl_0, va_r, va_n, w_get, gf_x2, gf_x1, t_18_2, rc_0, io_t, w_s6, sl_1, ll_1, w_l3, gl_1, vi_i, t_5, t_23, w_s8r, w_s8n, sl_2, ll_2, gf_x0, w_putR, gl_2, t_18_1, w_popi, w_popr, w_popn, gf_x3, gf_g1, gf_p1, io_m, gf_x4, w_c0, w_putI, pf_pa2, pf_x6, gf_x7, pf_he3, z10, z01, z_bT, z_bF, true_or, or_true, false_or, or_false, Option.bind_some, Option.toList_some, Option.toList_none, List.cons_append, List.nil_append, List.length_cons, List.length_nil, Nat.zero_add, Nat.reduceAdd, Nat.reduceLeDiff, and_self, and_true, true_and, if_true, if_false, reduceCtorEq, ne_eq, not_false_eq_true, not_true_eq_false, ↓reduceIte, Nat.reduceEqDiff, Bool.not_not, h14, hq, sw_1, sw_2, x_empty, hm]
