/-! constructors: the class on its heap, the reference, the law's start -/
def cA0 : ai_H := [.inr (5, ai_fresh 5)]
def cA1 : ai_H := .inr (5, [.ref 2, .null, .null, .null, .null, .null, .int 0, .null, .null, .null, .long 0]) :: tG 1
def cA2 : ai_H := .inr (5, [.ref 2, .ref 7, .null, .null, .null, .null, .int 0, .null, .null, .null, .long 0]) :: (tG 1 ++ tG 6)
def cA3 : ai_H := .inr (5, [.ref 2, .ref 7, .ref 12, .null, .null, .null, .int 0, .null, .null, .null, .long 0]) :: ((tG 1 ++ tG 6) ++ tT 11)
def cA4 : ai_H := .inr (5, [.ref 2, .ref 7, .ref 12, .ref 14, .null, .null, .int 0, .null, .null, .null, .long 0]) :: (((tG 1 ++ tG 6) ++ tT 11) ++ tM 13)
def cA5 : ai_H := .inr (5, [.ref 2, .ref 7, .ref 12, .ref 14, .ref 17, .null, .int 0, .null, .null, .null, .long 0]) :: ((((tG 1 ++ tG 6) ++ tT 11) ++ tM 13) ++ tP 16 10)
def cA6 : ai_H := .inr (5, [.ref 2, .ref 7, .ref 12, .ref 14, .ref 17, .ref 49, .int 0, .null, .null, .null, .long 0]) :: (((((tG 1 ++ tG 6) ++ tT 11) ++ tM 13) ++ tP 16 10) ++ [.inl (2, 2, .inr (.inr (.inr (.inr (fun _ => none)))))])
def cA7 : ai_H := .inr (5, [.ref 2, .ref 7, .ref 12, .ref 14, .ref 17, .ref 49, .int 0, .null, .null, .null, .long 0]) :: ((((((tG 1 ++ tG 6) ++ tT 11) ++ tM 13) ++ tP 16 10) ++ [.inl (2, 2, .inr (.inr (.inr (.inr (va_up (fun _ => none) 0 (some 50))))))]) ++ tM 49)
def cA8 : ai_H := .inr (5, [.ref 2, .ref 7, .ref 12, .ref 14, .ref 17, .ref 49, .int 0, .null, .null, .null, .long 0]) :: (((((((tG 1 ++ tG 6) ++ tT 11) ++ tM 13) ++ tP 16 10) ++ [.inl (2, 2, .inr (.inr (.inr (.inr (va_up (va_up (fun _ => none) 0 (some 50)) 1 (some 53))))))]) ++ tM 49) ++ tM 52)
def cA9 : ai_H := .inr (5, [.ref 2, .ref 7, .ref 12, .ref 14, .ref 17, .ref 49, .int 0, .ref 56, .null, .null, .long 0]) :: ((((((((tG 1 ++ tG 6) ++ tT 11) ++ tM 13) ++ tP 16 10) ++ [.inl (2, 2, .inr (.inr (.inr (.inr (va_up (va_up (fun _ => none) 0 (some 50)) 1 (some 53))))))]) ++ tM 49) ++ tM 52) ++ tH 55)
def cA10 : ai_H := .inr (5, [.ref 2, .ref 7, .ref 12, .ref 14, .ref 17, .ref 49, .int 0, .ref 56, .ref 60, .null, .long 0]) :: (((((((((tG 1 ++ tG 6) ++ tT 11) ++ tM 13) ++ tP 16 10) ++ [.inl (2, 2, .inr (.inr (.inr (.inr (va_up (va_up (fun _ => none) 0 (some 50)) 1 (some 53))))))]) ++ tM 49) ++ tM 52) ++ tH 55) ++ [.inl (0, 6, .inl cz)])
def cA11 : ai_H := .inr (5, [.ref 2, .ref 7, .ref 12, .ref 14, .ref 17, .ref 49, .int 0, .ref 56, .ref 60, .ref 61, .long 0]) :: ((((((((((tG 1 ++ tG 6) ++ tT 11) ++ tM 13) ++ tP 16 10) ++ [.inl (2, 2, .inr (.inr (.inr (.inr (va_up (va_up (fun _ => none) 0 (some 50)) 1 (some 53))))))]) ++ tM 49) ++ tM 52) ++ tH 55) ++ [.inl (0, 6, .inl cz)]) ++ [.inl (0, 121, .inl cz)])
def cN : sv_M := (z_cp cz cz 6, z_cp cz cz 6, 0, 0, 0, 0, 3, -9)
def cK : ai_H := mv_s cA11 13 cN
theorem c_ctor (S : ai_S) : ai_call S 24 [.ref 1] [.inr (5, ai_fresh 5)] = some (none, cK) := by
  have s0 : ai_res S 24 0 [.ref 1, ai_u] [] cA0 = ai_res S 24 1 [.ref 1, ai_u] [.ref 2, .ref 1] (cA0 ++ tG 1) := c_b0 S cA0 _ (n_G S cA0 1 rfl)
  have s1 : ai_res S 24 1 [.ref 1, ai_u] [.ref 2, .ref 1] (cA0 ++ tG 1) = ai_res S 24 2 [.ref 1, ai_u] [.ref 7, .ref 1] (cA1 ++ tG 6) := c_b1 S 2 (cA0 ++ tG 1) cA1 _ rfl (n_G S cA1 6 rfl)
  have s2 : ai_res S 24 2 [.ref 1, ai_u] [.ref 7, .ref 1] (cA1 ++ tG 6) = ai_res S 24 3 [.ref 1, ai_u] [.ref 12, .ref 1] (cA2 ++ tT 11) := c_b2 S 7 (cA1 ++ tG 6) cA2 _ rfl (n_T S cA2 11 rfl)
  have s3 : ai_res S 24 3 [.ref 1, ai_u] [.ref 12, .ref 1] (cA2 ++ tT 11) = ai_res S 24 4 [.ref 1, ai_u] [.ref 14, .ref 1] (cA3 ++ tM 13) := c_b3 S 12 (cA2 ++ tT 11) cA3 _ rfl (n_M S cA3 13 rfl)
  have s4 : ai_res S 24 4 [.ref 1, ai_u] [.ref 14, .ref 1] (cA3 ++ tM 13) = ai_res S 24 5 [.ref 1, ai_u] [.ref 17, .ref 1] (cA4 ++ tP 16 10) := c_b4 S 14 (cA3 ++ tM 13) cA4 _ rfl (n_P S cA4 16 rfl)
  have s5 : ai_res S 24 5 [.ref 1, ai_u] [.ref 17, .ref 1] (cA4 ++ tP 16 10) = ai_res S 24 6 [.ref 1, .int (nI 0)] [] cA6 := c_b5 S 17 (cA4 ++ tP 16 10) cA5 cA6 rfl rfl
  have s6 : ai_res S 24 6 [.ref 1, .int (nI 0)] [] cA6 = ai_res S 24 6 [.ref 1, .int (nI 1)] [] cA7 := c_b6 S 0 (by omega) cA6 (cA6 ++ tM 49) cA7 (fun _ => none) rfl rfl (n_M S cA6 49 rfl) rfl rfl rfl
  have s7 : ai_res S 24 6 [.ref 1, .int (nI 1)] [] cA7 = ai_res S 24 6 [.ref 1, .int (nI 2)] [] cA8 := c_b6 S 1 (by omega) cA7 (cA7 ++ tM 52) cA8 (va_up (fun _ => none) 0 (some 50)) rfl rfl (n_M S cA7 52 rfl) rfl rfl rfl
  have s9 : ai_res S 24 9 [.ref 1, .int (nI 2)] [] cA8 = ai_res S 24 10 [.ref 1, .int (nI 2)] [.ref 56, .ref 1] (cA8 ++ tH 55) := c_b9 S _ cA8 _ (n_H S cA8 55 rfl)
  have s10 : ai_res S 24 10 [.ref 1, .int (nI 2)] [.ref 56, .ref 1] (cA8 ++ tH 55) = some (none, cK) := c_b10 S _ 56 (cA8 ++ tH 55) cA9 cA10 cA11 cK rfl rfl rfl rfl rfl rfl rfl (n_begin S cA11 13 cM ⟨rfl, rfl, rfl⟩ 3)
  rw [e_24]
  show ai_res S 24 0 [.ref 1, ai_u] [] cA0 = _
  rw [s0, s1, s2, s3, s4, s5, s6, s7, c_b7 S cA8 (va_up (va_up (fun _ => none) 0 (some 50)) 1 (some 53)) rfl rfl, s9, s10]
def cG : sv_G := (4, 3, 20, 0, cz, cz, cz, cz)
def cV : sv_V := (cG, cG, false, (cz, 0, 0, 0, 0, 0, 0, 0, 0, 0, 0), cN, (fun _ => cM, 0, 0), fun _ => cM, 0, (cz, cz, cz, 0), cz, cz, 0)
def cD : sv_D := ((0, 0, 0, 0, 0, 0, 0, 0, 0, 0, 0, 0, 0), cz, cz, cz, cz, cz, cz, cz, cz, cz, cz, cz, cz, cz, cz)
theorem cK_len : cK.length = 61 := rfl
theorem fr_6 : ai_fresh 6 = [.int 0, .long 0, .null, .int 0, .int 0, .int 0, .int 0, .int 0, .int 0, .int 0, .null, .null, .null, .null, .null, .null, .null, .null, .null, .int 0, .null, .null, .null, .int 0, .int 0, .int 0, .null] := rfl
theorem ap_pf62 {P : ai_H} (hP : P.length = 61) (k : Nat) (fs : List Value) (T : ai_H) (v : Value) (hk : k < fs.length) : ai_pf (P ++ .inr (6, fs) :: T) 62 6 k v = some (P ++ .inr (6, fs.set k v) :: T) := ap_pf hP 6 k fs T v hk
theorem ap_io62 {P : ai_H} (hP : P.length = 61) (fs : List Value) (T : ai_H) : ai_io (P ++ .inr (6, fs) :: T) 62 6 = true := by
  have h : ai_cell (P ++ .inr (6, fs) :: T) 62 = some (.inr (6, fs)) := ap_at hP _ _
  unfold ai_io
  rw [h]
  rfl
theorem d_b0 (S : ai_S) (P : ai_H) (hP : P.length = 61) (H : ai_H) (h96 : ai_call S 96 [.ref 62] (P ++ .inr (6, [.int 0, .long 0, .ref 63, .int 0, .int 0, .int 0, .int 0, .int 0, .int 0, .int 0, .ref 64, .ref 65, .ref 66, .ref 67, .ref 68, .ref 69, .ref 70, .ref 71, .ref 72, .int 0, .ref 73, .ref 74, .ref 75, .int 0, .int 0, .int 0, .ref 76]) :: [.inl (0, 120, .inl cz), .inl (0, 8, .inl cz), .inl (0, 12, .inl cz), .inl (0, 12, .inl cz), .inl (0, 12, .inl cz), .inl (0, 12, .inl cz), .inl (0, 18, .inl cz), .inl (0, 36, .inl cz), .inl (1, 2, .inl cz), .inl (0, 180, .inl cz), .inl (0, 6, .inl cz), .inl (0, 6, .inl cz), .inl (0, 6, .inl cz), .inl (0, 6, .inl cz)]) = some (none, H)) : ai_res S 84 0 [.ref 62] [] (P ++ [.inr (6, ai_fresh 6)]) = ai_res S 84 1 [.ref 62] [] H := by
  rw [fr_6, k_84_0]
  simp (config := { decide := true }) only [w_l5, gl_0, va_r, va_n, w_c0, w_c1, w_c2, w_putF, nw_obj, nw_i6, nw_i8, nw_i12, nw_i18, nw_i36, nw_i120, nw_i180, nw_z2, ap_pf62 hP, List.set_cons_zero, List.set_cons_succ, List.append_assoc, List.length_append, Nat.add_assoc, hP, t_18_1, rc_0, ap_io62 hP, z10, z01, z_bT, z_bF, true_or, or_true, false_or, or_false, Option.bind_some, Option.toList_some, Option.toList_none, List.cons_append, List.nil_append, List.length_cons, List.length_nil, Nat.zero_add, Nat.reduceAdd, Nat.reduceLeDiff, and_self, and_true, true_and, if_true, if_false, reduceCtorEq, ne_eq, not_false_eq_true, not_true_eq_false, ↓reduceIte, Nat.reduceEqDiff, Bool.not_not]
  rw [show (fun _ : Nat => (0 : Int32)) = cz from rfl, h96]
  rfl
theorem d_ctor (S : ai_S) : ∃ D, RR cV D ∧ ai_call S 84 [.ref 62] (cK ++ [.inr (6, ai_fresh 6)]) = some (none, HP cV D) := by
  have h1 := r_begins S cV 0 0 0 0 0 0 0 0 0 0 0 0 0 cz cz cz cz cz cz cz cz cz cz cz cz cz cz
  obtain ⟨b1, b2, b3, b4, b5, b6, p0, p1, p2, h2⟩ := r_settles S cV 0 0 0 0 0 0 0 0 0 0 0 0 0 cz (upd (upd (upd (upd cz 4 0) 5 4) 6 3) 7 20) cz cz cz cz cz cz cz cz cz cz cz cz
  have h3 := d_b0 S cK cK_len _ h1
  refine ⟨((0, 0, 0, 0, 0, 0, 0, 0, 0, 0, 0, 0, 0), cz, b1, b2, b3, b4, b5, b6, cz, upd (upd cz 0 0) 1 0, cz, cz, cz, cz, cz), ?_, ?_⟩
  · have f0 : ∀ j, j < 18 → ¬ j = 16 → b6 j = 0 := fun j hj h => (p2 j hj).trans (if_neg h)
    have hz : ∀ k, k < 6 → z_cp cz cz 6 k = 0 := fun k hk => z_cp_at cz cz 6 k hk
    refine ⟨0, 0, 0, 0, 0, 0, rfl, rfl, rfl, rfl, rfl, rfl, rfl, rfl, rfl, rfl, ⟨by omega, p0 0 (by omega), p0 1 (by omega), p0 2 (by omega), p0 3 (by omega), fun k hk => absurd hk (Nat.not_lt_zero _)⟩, ⟨fun k hk => ?_, f0 12 (by omega) (by omega), f0 13 (by omega) (by omega), f0 14 (by omega) (by omega), f0 15 (by omega) (by omega), (p2 16 (by omega)).trans (if_pos rfl), Or.inl ⟨rfl, f0 17 (by omega) (by omega)⟩, ⟨0, Nat.two_pow_pos _, rfl⟩, ⟨0, Nat.two_pow_pos _, rfl⟩, (show (0 : Int32) ≤ 999 by decide)⟩, ⟨by omega, by omega, fun e he => absurd he (Nat.not_lt_zero _)⟩, ⟨by omega, fun j hj => ?_⟩, ⟨by omega, fun j hj => absurd hj (Nat.not_lt_zero _)⟩, ⟨by omega, fun j hj => absurd hj (Nat.not_lt_zero _)⟩⟩
    · rw [f0 k (by omega) (by omega), f0 (6 + k) (by omega) (by omega)]
      exact ⟨(hz k hk).symm, (hz k hk).symm⟩
    · have hb0 := z_bit0 j (by omega)
      exact ⟨⟨fun z => absurd z hb0, fun z => absurd (em_a8 cz j hj) z⟩, fun z => absurd z hb0⟩
  · rw [e_84, h3, k_84_1]
    simp only [w_l5, gl_0, va_r, t_18_1, rc_0, io_d, k_84_2, t_27, h2, z10, z01, z_bT, z_bF, true_or, or_true, false_or, or_false, Option.bind_some, Option.toList_some, Option.toList_none, List.cons_append, List.nil_append, List.length_cons, List.length_nil, Nat.zero_add, Nat.reduceAdd, Nat.reduceLeDiff, and_self, and_true, true_and, if_true, if_false, reduceCtorEq, ne_eq, not_false_eq_true, not_true_eq_false, ↓reduceIte, Nat.reduceEqDiff, Bool.not_not]
theorem lw_start (L : Nat) (xs : Nat → Int32) : ∃ D, RR cV D ∧ ai_res (L, xs) 139 0 [.ref 0, ai_u, ai_u, ai_u] [] [] = ai_res (L, xs) 139 3 [.ref 0, .ref 1, .ref 62, .int (nI 0)] [] (HP cV D) := by
  obtain ⟨D, hR, hD⟩ := d_ctor (L, xs)
  have hC := c_ctor (L, xs)
  refine ⟨D, hR, ?_⟩
  rw [k_139_0]
  simp only [nw_o, w_dupr, t_20_1, rc_2, k_139_1, k_139_2, w_s8r, sl_1, ll_1, sl_2, ll_2, sl_3, ll_3, w_c0, w_s6, w_s7, t_0, hC, cK_len, hD, nI_0, z10, z01, z_bT, z_bF, true_or, or_true, false_or, or_false, Option.bind_some, Option.toList_some, Option.toList_none, List.cons_append, List.nil_append, List.length_cons, List.length_nil, Nat.zero_add, Nat.reduceAdd, Nat.reduceLeDiff, and_self, and_true, true_and, if_true, if_false, reduceCtorEq, ne_eq, not_false_eq_true, not_true_eq_false, ↓reduceIte, Nat.reduceEqDiff, Bool.not_not]
