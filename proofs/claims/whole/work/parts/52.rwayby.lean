/-! the reference: wayBy, way -/
theorem z_FF_two (Y L : Nat → Nat → Prop) (hdY : ∀ d p, Decidable (Y d p)) (hdL : ∀ d p, Decidable (L d p)) : ∀ r p, z_FF Y L hdY hdL r p ≤ r ∨ z_FF Y L hdY hdL r p = 1000 := by
  unfold z_FF
  intro r
  induction r with
  | zero =>
    intro p
    rw [z_F]
    split
    · exact Or.inl (Nat.le_refl _)
    · exact Or.inr rfl
  | succ r ih =>
    intro p
    have h1 := ih p
    have h2 := ih (p + 1)
    rw [z_F]
    split
    · exact Or.inl (Nat.zero_le _)
    · split
      · exact Or.inr rfl
      · omega
theorem z_FF_U (Y L : Nat → Nat → Prop) (hdY : ∀ d p, Decidable (Y d p)) (hdL : ∀ d p, Decidable (L d p)) (h : ¬ z_FF Y L hdY hdL 10 0 = 1000) : z_UU Y L hdY hdL 0 0 = z_FF Y L hdY hdL 10 0 ∧ 1 ≤ z_FF Y L hdY hdL 10 0 ∧ z_FF Y L hdY hdL 10 0 ≤ 10 := by
  have h1 := z_FF_two Y L hdY hdL 10 0
  have h2 := z_FF_0 Y L hdY hdL
  have h3 : 1 ≤ z_UU Y L hdY hdL 0 0 := by
    unfold z_UU
    omega
  omega
theorem z_16 (g n : Nat) : (16 : Int32) * nI g + nI n = nI (16 * g + n) := by
  rw [show (16 : Int32) = nI 16 from rfl, pk_mul, nI_add]
def z_wb (Y L : Nat → Nat → Prop) (hdY : ∀ d p, Decidable (Y d p)) (hdL : ∀ d p, Decidable (L d p)) : Int32 := if z_FF Y L hdY hdL 10 0 = 1000 then -9 else nI (16 * z_gr Y L hdY hdL (z_FF Y L hdY hdL 10 0) 0 0 + z_FF Y L hdY hdL 10 0)
theorem r_wayBy (S : ai_S) (V : sv_V) (th : Int32) (tr : Int64) (ty : Int32) (nx : Int32) (tk : Int32) (pl : Int32) (va : Int32) (fa : Int32) (to : Int32) (um : Int32) (te : Int32) (hd : Int32) (wr : Int32) (a0 : Nat → Int32) (a1 : Nat → Int32) (a2 : Nat → Int32) (a3 : Nat → Int32) (a4 : Nat → Int32) (a5 : Nat → Int32) (a6 : Nat → Int32) (a7 : Nat → Int32) (a8 : Nat → Int32) (a9 : Nat → Int32) (a10 : Nat → Int32) (a11 : Nat → Int32) (a12 : Nat → Int32) (a13 : Nat → Int32) (c : Nat) (hc : c < 6) (gr ve : Int32) (hgr : a1 1 = gr) (hve : a6 16 = ve) : ∃ hd' wr', ai_call S 118 [.ref 62, .int (nI c)] (HP V ((th, tr, ty, nx, tk, pl, va, fa, to, um, te, hd, wr), (a0, a1, a2, a3, a4, a5, a6, a7, a8, a9, a10, a11, a12, a13))) = some (some (.int (z_wb (z_wy a3 a2 c gr ve (a6 c) (a6 (6 + c))) (z_wl a2 c gr (a6 c)) (z_dY a3 a2 c gr ve (a6 c) (a6 (6 + c))) (z_dL a2 c gr (a6 c)))), HP V ((th, tr, ty, nx, tk, pl, va, fa, to, um, te, hd', wr'), (a0, a1, a2, a3, a4, a5, a6, a7, a8, a9, a10, a11, a12, a13))) := by
  have p10 : ∀ n, n ≤ 10 → 2 ^ n ≤ 1024 := by decide
  have skip : ∀ j n row (hd wr : Int32), n ≤ 10 → row + j = 2 ^ n → (∀ r, z_sim (z_wy a3 a2 c gr ve (a6 c) (a6 (6 + c))) (z_wl a2 c gr (a6 c)) (z_dY a3 a2 c gr ve (a6 c) (a6 (6 + c))) (z_dL a2 c gr (a6 c)) r n 0 0 = false) → ∃ hd' wr', ai_res S 118 3 [.ref 62, .int (nI c), .int (nI n), .int (nI row)] [] (HP V ((th, tr, ty, nx, tk, pl, va, fa, to, um, te, hd, wr), (a0, a1, a2, a3, a4, a5, a6, a7, a8, a9, a10, a11, a12, a13))) = ai_res S 118 1 [.ref 62, .int (nI c), .int (nI (n + 1)), .int (nI (2 ^ n))] [] (HP V ((th, tr, ty, nx, tk, pl, va, fa, to, um, te, hd', wr'), (a0, a1, a2, a3, a4, a5, a6, a7, a8, a9, a10, a11, a12, a13))) := by
    intro j
    induction j with
    | zero =>
      intro n row hd wr hn hr hs
      have e1 : row = 2 ^ n := by omega
      subst e1
      have hsh : (1 : Int32) <<< (nI n &&& 31) = nI (2 ^ n) := z_one_n n (by omega)
      have hge : nI (2 ^ n) ≤ nI (2 ^ n) := Int32.le_refl _
      refine ⟨hd, wr, ?_⟩
      rw [k_118_3]
      simp only [k_118_8, w_l3, gl_3, vi_i, w_c0, gl_2, w_b15, t_11, w_inc, sl_2, t_1, z10, z01, z_bT, z_bF, true_or, or_true, false_or, or_false, Option.bind_some, Option.toList_some, Option.toList_none, List.cons_append, List.nil_append, List.length_cons, List.length_nil, Nat.zero_add, Nat.reduceAdd, Nat.reduceLeDiff, and_self, and_true, true_and, if_true, if_false, reduceCtorEq, ne_eq, not_false_eq_true, not_true_eq_false, ↓reduceIte, Nat.reduceEqDiff, Bool.not_not, hsh, hge, nI_1]
    | succ j ih =>
      intro n row hd wr hn hr hs
      have hp := p10 n hn
      have hsh : (1 : Int32) <<< (nI n &&& 31) = nI (2 ^ n) := z_one_n n (by omega)
      have hlt : ¬ nI (2 ^ n) ≤ nI row := nI_ge (by omega) (by omega)
      obtain ⟨h3, w3, q3⟩ := r_yieldsBy S V th tr ty nx tk pl va fa to um te hd wr a0 a1 a2 a3 a4 a5 a6 a7 a8 a9 a10 a11 a12 a13 c row n hc hn (by omega) gr ve hgr hve
      rw [hs row, zi_f (by decide)] at q3
      obtain ⟨h4, w4, q4⟩ := ih n (row + 1) h3 w3 hn (by omega) hs
      refine ⟨h4, w4, ?_⟩
      rw [k_118_3]
      simp only [k_118_4, k_118_5, k_118_7, w_l3, gl_3, vi_i, w_c0, gl_2, w_b15, t_11, w_l5, gl_0, va_r, va_n, gl_1, t_18_4, rc_0, io_d, t_2, w_inc, sl_3, t_1, z10, z01, z_bT, z_bF, true_or, or_true, false_or, or_false, Option.bind_some, Option.toList_some, Option.toList_none, List.cons_append, List.nil_append, List.length_cons, List.length_nil, Nat.zero_add, Nat.reduceAdd, Nat.reduceLeDiff, and_self, and_true, true_and, if_true, if_false, reduceCtorEq, ne_eq, not_false_eq_true, not_true_eq_false, ↓reduceIte, Nat.reduceEqDiff, Bool.not_not, hsh, hlt, q3, nI_1]
      exact q4
  have find : ∀ j n g row (hd wr : Int32), n ≤ 10 → row + j = g → g < 2 ^ n → (∀ r, r < g → z_sim (z_wy a3 a2 c gr ve (a6 c) (a6 (6 + c))) (z_wl a2 c gr (a6 c)) (z_dY a3 a2 c gr ve (a6 c) (a6 (6 + c))) (z_dL a2 c gr (a6 c)) r n 0 0 = false) → z_sim (z_wy a3 a2 c gr ve (a6 c) (a6 (6 + c))) (z_wl a2 c gr (a6 c)) (z_dY a3 a2 c gr ve (a6 c) (a6 (6 + c))) (z_dL a2 c gr (a6 c)) g n 0 0 = true → ∃ hd' wr', ai_res S 118 3 [.ref 62, .int (nI c), .int (nI n), .int (nI row)] [] (HP V ((th, tr, ty, nx, tk, pl, va, fa, to, um, te, hd, wr), (a0, a1, a2, a3, a4, a5, a6, a7, a8, a9, a10, a11, a12, a13))) = some (some (.int (nI (16 * g + n))), HP V ((th, tr, ty, nx, tk, pl, va, fa, to, um, te, hd', wr'), (a0, a1, a2, a3, a4, a5, a6, a7, a8, a9, a10, a11, a12, a13))) := by
    intro j
    induction j with
    | zero =>
      intro n g row hd wr hn hr hg hs ht
      have e1 : row = g := by omega
      subst e1
      have hp := p10 n hn
      have hsh : (1 : Int32) <<< (nI n &&& 31) = nI (2 ^ n) := z_one_n n (by omega)
      have hlt : ¬ nI (2 ^ n) ≤ nI row := nI_ge (by omega) (by omega)
      obtain ⟨h3, w3, q3⟩ := r_yieldsBy S V th tr ty nx tk pl va fa to um te hd wr a0 a1 a2 a3 a4 a5 a6 a7 a8 a9 a10 a11 a12 a13 c row n hc hn (by omega) gr ve hgr hve
      rw [ht, zi_t rfl] at q3
      refine ⟨h3, w3, ?_⟩
      rw [k_118_3]
      simp only [k_118_4, k_118_5, k_118_6, w_l3, gl_3, vi_i, w_c0, gl_2, w_b15, t_11, w_l5, gl_0, va_r, va_n, gl_1, t_18_4, rc_0, io_d, t_2, w_c1, w_b12, w_b10, t_23, z10, z01, z_bT, z_bF, true_or, or_true, false_or, or_false, Option.bind_some, Option.toList_some, Option.toList_none, List.cons_append, List.nil_append, List.length_cons, List.length_nil, Nat.zero_add, Nat.reduceAdd, Nat.reduceLeDiff, and_self, and_true, true_and, if_true, if_false, reduceCtorEq, ne_eq, not_false_eq_true, not_true_eq_false, ↓reduceIte, Nat.reduceEqDiff, Bool.not_not, hsh, hlt, q3, z_16]
    | succ j ih =>
      intro n g row hd wr hn hr hg hs ht
      have hp := p10 n hn
      have hsh : (1 : Int32) <<< (nI n &&& 31) = nI (2 ^ n) := z_one_n n (by omega)
      have hlt : ¬ nI (2 ^ n) ≤ nI row := nI_ge (by omega) (by omega)
      obtain ⟨h3, w3, q3⟩ := r_yieldsBy S V th tr ty nx tk pl va fa to um te hd wr a0 a1 a2 a3 a4 a5 a6 a7 a8 a9 a10 a11 a12 a13 c row n hc hn (by omega) gr ve hgr hve
      rw [hs row (by omega), zi_f (by decide)] at q3
      obtain ⟨h4, w4, q4⟩ := ih n g (row + 1) h3 w3 hn (by omega) hg hs ht
      refine ⟨h4, w4, ?_⟩
      rw [k_118_3]
      simp only [k_118_4, k_118_5, k_118_7, w_l3, gl_3, vi_i, w_c0, gl_2, w_b15, t_11, w_l5, gl_0, va_r, va_n, gl_1, t_18_4, rc_0, io_d, t_2, w_inc, sl_3, t_1, z10, z01, z_bT, z_bF, true_or, or_true, false_or, or_false, Option.bind_some, Option.toList_some, Option.toList_none, List.cons_append, List.nil_append, List.length_cons, List.length_nil, Nat.zero_add, Nat.reduceAdd, Nat.reduceLeDiff, and_self, and_true, true_and, if_true, if_false, reduceCtorEq, ne_eq, not_false_eq_true, not_true_eq_false, ↓reduceIte, Nat.reduceEqDiff, Bool.not_not, hsh, hlt, q3, nI_1]
      exact q4
  have hF := z_FF_U (z_wy a3 a2 c gr ve (a6 c) (a6 (6 + c))) (z_wl a2 c gr (a6 c)) (z_dY a3 a2 c gr ve (a6 c) (a6 (6 + c))) (z_dL a2 c gr (a6 c))
  have hsF := fun row n hn => z_sim_F (z_wy a3 a2 c gr ve (a6 c) (a6 (6 + c))) (z_wl a2 c gr (a6 c)) (z_dY a3 a2 c gr ve (a6 c) (a6 (6 + c))) (z_dL a2 c gr (a6 c)) row n 0 0 hn
  have hgo := fun k => z_gr_ok (z_wy a3 a2 c gr ve (a6 c) (a6 (6 + c))) (z_wl a2 c gr (a6 c)) (z_dY a3 a2 c gr ve (a6 c) (a6 (6 + c))) (z_dL a2 c gr (a6 c)) k 0 0
  have hgl := fun k => z_gr_lt (z_wy a3 a2 c gr ve (a6 c) (a6 (6 + c))) (z_wl a2 c gr (a6 c)) (z_dY a3 a2 c gr ve (a6 c) (a6 (6 + c))) (z_dL a2 c gr (a6 c)) k 0 0
  have outer : ∀ j n (x : Value) (hd wr : Int32), n + j = 11 → 1 ≤ n → (¬ z_FF (z_wy a3 a2 c gr ve (a6 c) (a6 (6 + c))) (z_wl a2 c gr (a6 c)) (z_dY a3 a2 c gr ve (a6 c) (a6 (6 + c))) (z_dL a2 c gr (a6 c)) 10 0 = 1000 → n ≤ z_FF (z_wy a3 a2 c gr ve (a6 c) (a6 (6 + c))) (z_wl a2 c gr (a6 c)) (z_dY a3 a2 c gr ve (a6 c) (a6 (6 + c))) (z_dL a2 c gr (a6 c)) 10 0) → ∃ hd' wr', ai_res S 118 1 [.ref 62, .int (nI c), .int (nI n), x] [] (HP V ((th, tr, ty, nx, tk, pl, va, fa, to, um, te, hd, wr), (a0, a1, a2, a3, a4, a5, a6, a7, a8, a9, a10, a11, a12, a13))) = some (some (.int (z_wb (z_wy a3 a2 c gr ve (a6 c) (a6 (6 + c))) (z_wl a2 c gr (a6 c)) (z_dY a3 a2 c gr ve (a6 c) (a6 (6 + c))) (z_dL a2 c gr (a6 c)))), HP V ((th, tr, ty, nx, tk, pl, va, fa, to, um, te, hd', wr'), (a0, a1, a2, a3, a4, a5, a6, a7, a8, a9, a10, a11, a12, a13))) := by
    intro j
    induction j with
    | zero =>
      intro n x hd wr hn h1 hle
      have e1 : n = 11 := by omega
      subst e1
      have hgt : (10 : Int32) < nI 11 := by decide
      have h1000 : z_FF (z_wy a3 a2 c gr ve (a6 c) (a6 (6 + c))) (z_wl a2 c gr (a6 c)) (z_dY a3 a2 c gr ve (a6 c) (a6 (6 + c))) (z_dL a2 c gr (a6 c)) 10 0 = 1000 := by
        apply Decidable.byContradiction
        intro hne
        have := hle hne
        have := (hF hne).2.2
        omega
      refine ⟨hd, wr, ?_⟩
      unfold z_wb
      rw [if_pos h1000, k_118_1]
      simp only [k_118_9, w_l3, gl_2, vi_i, w_c1, t_12, t_23, z10, z01, z_bT, z_bF, true_or, or_true, false_or, or_false, Option.bind_some, Option.toList_some, Option.toList_none, List.cons_append, List.nil_append, List.length_cons, List.length_nil, Nat.zero_add, Nat.reduceAdd, Nat.reduceLeDiff, and_self, and_true, true_and, if_true, if_false, reduceCtorEq, ne_eq, not_false_eq_true, not_true_eq_false, ↓reduceIte, Nat.reduceEqDiff, Bool.not_not, hgt]
    | succ j ih =>
      intro n x hd wr hn h1 hle
      have hng : ¬ (10 : Int32) < nI n := nI_nlt (a := 10) (by omega) (by decide)
      by_cases hU : ¬ z_FF (z_wy a3 a2 c gr ve (a6 c) (a6 (6 + c))) (z_wl a2 c gr (a6 c)) (z_dY a3 a2 c gr ve (a6 c) (a6 (6 + c))) (z_dL a2 c gr (a6 c)) 10 0 = 1000 ∧ n = z_FF (z_wy a3 a2 c gr ve (a6 c) (a6 (6 + c))) (z_wl a2 c gr (a6 c)) (z_dY a3 a2 c gr ve (a6 c) (a6 (6 + c))) (z_dL a2 c gr (a6 c)) 10 0
      · obtain ⟨hne, hnF⟩ := hU
        obtain ⟨u1, u2, u3⟩ := hF hne
        obtain ⟨k, hk⟩ : ∃ k, n = k + 1 := ⟨n - 1, by omega⟩
        obtain ⟨g1, g2⟩ := hgo k (by omega) (by omega)
        have g3 := hgl (k + 1)
        rw [← hk] at g1 g2 g3
        obtain ⟨h3, w3, q3⟩ := find (z_gr (z_wy a3 a2 c gr ve (a6 c) (a6 (6 + c))) (z_wl a2 c gr (a6 c)) (z_dY a3 a2 c gr ve (a6 c) (a6 (6 + c))) (z_dL a2 c gr (a6 c)) n 0 0) n (z_gr (z_wy a3 a2 c gr ve (a6 c) (a6 (6 + c))) (z_wl a2 c gr (a6 c)) (z_dY a3 a2 c gr ve (a6 c) (a6 (6 + c))) (z_dL a2 c gr (a6 c)) n 0 0) 0 hd wr (by omega) (by omega) g3 (fun r hr => by
          cases hsr : z_sim (z_wy a3 a2 c gr ve (a6 c) (a6 (6 + c))) (z_wl a2 c gr (a6 c)) (z_dY a3 a2 c gr ve (a6 c) (a6 (6 + c))) (z_dL a2 c gr (a6 c)) r n 0 0 with
          | false => rfl
          | true =>
            have := g2 r (by omega) hsr
            omega) g1
        refine ⟨h3, w3, ?_⟩
        have q3' : ai_res S 118 3 [.ref 62, .int (nI c), .int (nI n), .int 0] [] (HP V ((th, tr, ty, nx, tk, pl, va, fa, to, um, te, hd, wr), (a0, a1, a2, a3, a4, a5, a6, a7, a8, a9, a10, a11, a12, a13))) = _ := q3
        unfold z_wb
        rw [if_neg hne, ← hnF, k_118_1]
        simp only [k_118_2, w_l3, gl_2, vi_i, w_c1, t_12, w_c0, w_s6, sl_3, ll_3, t_0, z10, z01, z_bT, z_bF, true_or, or_true, false_or, or_false, Option.bind_some, Option.toList_some, Option.toList_none, List.cons_append, List.nil_append, List.length_cons, List.length_nil, Nat.zero_add, Nat.reduceAdd, Nat.reduceLeDiff, and_self, and_true, true_and, if_true, if_false, reduceCtorEq, ne_eq, not_false_eq_true, not_true_eq_false, ↓reduceIte, Nat.reduceEqDiff, Bool.not_not, hng]
        exact q3'
      · have hs : ∀ r, z_sim (z_wy a3 a2 c gr ve (a6 c) (a6 (6 + c))) (z_wl a2 c gr (a6 c)) (z_dY a3 a2 c gr ve (a6 c) (a6 (6 + c))) (z_dL a2 c gr (a6 c)) r n 0 0 = false := by
          intro r
          cases hsr : z_sim (z_wy a3 a2 c gr ve (a6 c) (a6 (6 + c))) (z_wl a2 c gr (a6 c)) (z_dY a3 a2 c gr ve (a6 c) (a6 (6 + c))) (z_dL a2 c gr (a6 c)) r n 0 0 with
          | false => rfl
          | true =>
            exfalso
            have h4 := hsF r n (by omega) hsr
            by_cases hne : z_FF (z_wy a3 a2 c gr ve (a6 c) (a6 (6 + c))) (z_wl a2 c gr (a6 c)) (z_dY a3 a2 c gr ve (a6 c) (a6 (6 + c))) (z_dL a2 c gr (a6 c)) 10 0 = 1000
            · have h5 := z_FF_0 (z_wy a3 a2 c gr ve (a6 c) (a6 (6 + c))) (z_wl a2 c gr (a6 c)) (z_dY a3 a2 c gr ve (a6 c) (a6 (6 + c))) (z_dL a2 c gr (a6 c))
              omega
            · have h6 := hle hne
              obtain ⟨u1, u2, u3⟩ := hF hne
              exact hU ⟨hne, by omega⟩
        obtain ⟨h3, w3, q3⟩ := skip (2 ^ n) n 0 hd wr (by omega) (by omega) hs
        obtain ⟨h4, w4, q4⟩ := ih (n + 1) (.int (nI (2 ^ n))) h3 w3 (by omega) (by omega) (fun hne => by
          have h6 := hle hne
          have h7 : ¬ n = z_FF (z_wy a3 a2 c gr ve (a6 c) (a6 (6 + c))) (z_wl a2 c gr (a6 c)) (z_dY a3 a2 c gr ve (a6 c) (a6 (6 + c))) (z_dL a2 c gr (a6 c)) 10 0 := fun z => hU ⟨hne, z⟩
          omega)
        refine ⟨h4, w4, ?_⟩
        have q3' : ai_res S 118 3 [.ref 62, .int (nI c), .int (nI n), .int 0] [] (HP V ((th, tr, ty, nx, tk, pl, va, fa, to, um, te, hd, wr), (a0, a1, a2, a3, a4, a5, a6, a7, a8, a9, a10, a11, a12, a13))) = _ := q3
        rw [k_118_1]
        simp only [k_118_2, w_l3, gl_2, vi_i, w_c1, t_12, w_c0, w_s6, sl_3, ll_3, t_0, z10, z01, z_bT, z_bF, true_or, or_true, false_or, or_false, Option.bind_some, Option.toList_some, Option.toList_none, List.cons_append, List.nil_append, List.length_cons, List.length_nil, Nat.zero_add, Nat.reduceAdd, Nat.reduceLeDiff, and_self, and_true, true_and, if_true, if_false, reduceCtorEq, ne_eq, not_false_eq_true, not_true_eq_false, ↓reduceIte, Nat.reduceEqDiff, Bool.not_not, hng]
        rw [q3']
        exact q4
  obtain ⟨h3, w3, q3⟩ := outer 10 1 ai_u hd wr (by omega) (by omega) (fun hne => (hF hne).2.1)
  refine ⟨h3, w3, ?_⟩
  rw [e_118]
  simp only [k_118_0, w_c0, w_s6, sl_2, ll_2, t_0, z10, z01, z_bT, z_bF, true_or, or_true, false_or, or_false, Option.bind_some, Option.toList_some, Option.toList_none, List.cons_append, List.nil_append, List.length_cons, List.length_nil, Nat.zero_add, Nat.reduceAdd, Nat.reduceLeDiff, and_self, and_true, true_and, if_true, if_false, reduceCtorEq, ne_eq, not_false_eq_true, not_true_eq_false, ↓reduceIte, Nat.reduceEqDiff, Bool.not_not]
  exact q3
theorem r_way_b (S : ai_S) (V : sv_V) (th : Int32) (tr : Int64) (ty : Int32) (nx : Int32) (tk : Int32) (pl : Int32) (va : Int32) (fa : Int32) (to : Int32) (um : Int32) (te : Int32) (hd : Int32) (wr : Int32) (a0 : Nat → Int32) (a1 : Nat → Int32) (a2 : Nat → Int32) (a3 : Nat → Int32) (a4 : Nat → Int32) (a5 : Nat → Int32) (a6 : Nat → Int32) (a7 : Nat → Int32) (a8 : Nat → Int32) (a9 : Nat → Int32) (a10 : Nat → Int32) (a11 : Nat → Int32) (a12 : Nat → Int32) (a13 : Nat → Int32) (hN : z_N (a1 0)) (c k : Int32) (hb : ¬ ((0 ≤ c ∧ c < a1 0) ∧ (-1 ≤ k ∧ k ≤ 9))) : ai_call S 120 [.ref 62, .int c, .int k] (HP V ((th, tr, ty, nx, tk, pl, va, fa, to, um, te, hd, wr), (a0, a1, a2, a3, a4, a5, a6, a7, a8, a9, a10, a11, a12, a13))) = some (some (.int (-1)), HP V ((0, tr, ty, nx, tk, pl, va, fa, to, um, te, hd, wr), (a0, a1, a2, a3, a4, a5, a6, a7, a8, a9, a10, a11, a12, a13))) := by
  rw [e_120]
  by_cases h1 : 0 ≤ c ∧ c < a1 0
  · have h2 : ¬ (-1 ≤ k ∧ k ≤ 9) := fun z => hb ⟨h1, z⟩
    simp only [k_120_0, k_120_1, k_120_2, k_120_3, k_120_4, w_l5, gl_0, va_r, va_n, w_c0, w_putI, pd_0, w_l3, gl_1, vi_i, t_18_2, rc_0, io_d, t_2, gl_2, w_c1, t_19_3, rc_1, t_3, t_23, z10, z01, z_bT, z_bF, true_or, or_true, false_or, or_false, Option.bind_some, Option.toList_some, Option.toList_none, List.cons_append, List.nil_append, List.length_cons, List.length_nil, Nat.zero_add, Nat.reduceAdd, Nat.reduceLeDiff, and_self, and_true, true_and, if_true, if_false, reduceCtorEq, ne_eq, not_false_eq_true, not_true_eq_false, ↓reduceIte, Nat.reduceEqDiff, Bool.not_not, r_in, r_isCaller, hN, z_b_t h1, z_b_f h2]
  · simp only [k_120_0, k_120_1, k_120_2, k_120_3, k_120_4, w_l5, gl_0, va_r, va_n, w_c0, w_putI, pd_0, w_l3, gl_1, vi_i, t_18_2, rc_0, io_d, t_2, gl_2, w_c1, t_19_3, rc_1, t_3, t_23, z10, z01, z_bT, z_bF, true_or, or_true, false_or, or_false, Option.bind_some, Option.toList_some, Option.toList_none, List.cons_append, List.nil_append, List.length_cons, List.length_nil, Nat.zero_add, Nat.reduceAdd, Nat.reduceLeDiff, and_self, and_true, true_and, if_true, if_false, reduceCtorEq, ne_eq, not_false_eq_true, not_true_eq_false, ↓reduceIte, Nat.reduceEqDiff, Bool.not_not, r_in, r_isCaller, hN, z_b_f h1]
theorem r_way_s (S : ai_S) (V : sv_V) (th : Int32) (tr : Int64) (ty : Int32) (nx : Int32) (tk : Int32) (pl : Int32) (va : Int32) (fa : Int32) (to : Int32) (um : Int32) (te : Int32) (hd : Int32) (wr : Int32) (a0 : Nat → Int32) (a1 : Nat → Int32) (a2 : Nat → Int32) (a3 : Nat → Int32) (a4 : Nat → Int32) (a5 : Nat → Int32) (a6 : Nat → Int32) (a7 : Nat → Int32) (a8 : Nat → Int32) (a9 : Nat → Int32) (a10 : Nat → Int32) (a11 : Nat → Int32) (a12 : Nat → Int32) (a13 : Nat → Int32) (hN : z_N (a1 0)) (c : Nat) (k : Int32) (h1 : 0 ≤ nI c ∧ nI c < a1 0) (h2 : -1 ≤ k ∧ k ≤ 9) (hg : z_bit (a6 12 ||| a6 13) c) : ai_call S 120 [.ref 62, .int (nI c), .int k] (HP V ((th, tr, ty, nx, tk, pl, va, fa, to, um, te, hd, wr), (a0, a1, a2, a3, a4, a5, a6, a7, a8, a9, a10, a11, a12, a13))) = some (some (.int (-2)), HP V ((0, tr, ty, nx, tk, pl, va, fa, to, um, te, hd, wr), (a0, a1, a2, a3, a4, a5, a6, a7, a8, a9, a10, a11, a12, a13))) := by
  rw [e_120]
  simp only [k_120_0, k_120_1, k_120_2, k_120_3, k_120_5, k_120_6, k_120_7, w_l5, gl_0, va_r, va_n, w_c0, w_putI, pd_0, w_l3, gl_1, vi_i, t_18_2, rc_0, io_d, t_2, gl_2, w_c1, t_19_3, rc_1, t_3, t_23, z10, z01, z_bT, z_bF, true_or, or_true, false_or, or_false, Option.bind_some, Option.toList_some, Option.toList_none, List.cons_append, List.nil_append, List.length_cons, List.length_nil, Nat.zero_add, Nat.reduceAdd, Nat.reduceLeDiff, and_self, and_true, true_and, if_true, if_false, reduceCtorEq, ne_eq, not_false_eq_true, not_true_eq_false, ↓reduceIte, Nat.reduceEqDiff, Bool.not_not, r_in, r_isCaller, hN, z_b_t h1, z_b_t h2, r_isGone, z_b_t hg]
theorem r_way (S : ai_S) (V : sv_V) (th : Int32) (tr : Int64) (ty : Int32) (nx : Int32) (tk : Int32) (pl : Int32) (va : Int32) (fa : Int32) (to : Int32) (um : Int32) (te : Int32) (hd : Int32) (wr : Int32) (a0 : Nat → Int32) (a1 : Nat → Int32) (a2 : Nat → Int32) (a3 : Nat → Int32) (a4 : Nat → Int32) (a5 : Nat → Int32) (a6 : Nat → Int32) (a7 : Nat → Int32) (a8 : Nat → Int32) (a9 : Nat → Int32) (a10 : Nat → Int32) (a11 : Nat → Int32) (a12 : Nat → Int32) (a13 : Nat → Int32) (hN : z_N (a1 0)) (c : Nat) (k : Int32) (hc : c < 6) (h1 : 0 ≤ nI c ∧ nI c < a1 0) (h2 : -1 ≤ k ∧ k ≤ 9) (hg : ¬ z_bit (a6 12 ||| a6 13) c) (gr ve : Int32) (hgr : a1 1 = gr) (hve : a6 16 = ve) : ∃ hd' wr', ai_call S 120 [.ref 62, .int (nI c), .int k] (HP V ((th, tr, ty, nx, tk, pl, va, fa, to, um, te, hd, wr), (a0, a1, a2, a3, a4, a5, a6, a7, a8, a9, a10, a11, a12, a13))) = some (some (.int (z_way (z_FF (z_wy a3 a2 c gr ve (a6 c) (a6 (6 + c))) (z_wl a2 c gr (a6 c)) (z_dY a3 a2 c gr ve (a6 c) (a6 (6 + c))) (z_dL a2 c gr (a6 c))) k)), HP V ((0, tr, ty, nx, tk, pl, va, fa, to, um, te, hd', wr'), (a0, a1, a2, a3, a4, a5, a6, a7, a8, a9, a10, a11, a12, a13))) := by
  obtain ⟨h3, w3, q3⟩ := r_wayBy S V 0 tr ty nx tk pl va fa to um te hd wr a0 a1 a2 a3 a4 a5 a6 a7 a8 a9 a10 a11 a12 a13 c hc gr ve hgr hve
  refine ⟨h3, w3, ?_⟩
  have hF := z_FF_U (z_wy a3 a2 c gr ve (a6 c) (a6 (6 + c))) (z_wl a2 c gr (a6 c)) (z_dY a3 a2 c gr ve (a6 c) (a6 (6 + c))) (z_dL a2 c gr (a6 c))
  have htn := z_gr_tn (z_wy a3 a2 c gr ve (a6 c) (a6 (6 + c))) (z_wl a2 c gr (a6 c)) (z_dY a3 a2 c gr ve (a6 c) (a6 (6 + c))) (z_dL a2 c gr (a6 c))
  have hgl := z_gr_lt (z_wy a3 a2 c gr ve (a6 c) (a6 (6 + c))) (z_wl a2 c gr (a6 c)) (z_dY a3 a2 c gr ve (a6 c) (a6 (6 + c))) (z_dL a2 c gr (a6 c))
  unfold z_wb at q3
  unfold z_way
  generalize hFF : z_FF (z_wy a3 a2 c gr ve (a6 c) (a6 (6 + c))) (z_wl a2 c gr (a6 c)) (z_dY a3 a2 c gr ve (a6 c) (a6 (6 + c))) (z_dL a2 c gr (a6 c)) = F at q3 hF htn ⊢
  by_cases hne : F 10 0 = 1000
  · rw [if_pos hne] at q3 ⊢
    rw [e_120]
    simp only [k_120_0, k_120_1, k_120_2, k_120_3, k_120_5, k_120_6, k_120_8, k_120_9, k_120_10, w_l5, gl_0, va_r, va_n, w_c0, w_putI, pd_0, w_l3, gl_1, vi_i, t_18_2, rc_0, io_d, t_2, gl_2, w_c1, t_19_3, rc_1, t_3, w_s6, sl_3, ll_3, gl_3, t_9, t_23, z10, z01, z_bT, z_bF, true_or, or_true, false_or, or_false, Option.bind_some, Option.toList_some, Option.toList_none, List.cons_append, List.nil_append, List.length_cons, List.length_nil, Nat.zero_add, Nat.reduceAdd, Nat.reduceLeDiff, and_self, and_true, true_and, if_true, if_false, reduceCtorEq, ne_eq, not_false_eq_true, not_true_eq_false, ↓reduceIte, Nat.reduceEqDiff, Bool.not_not, r_in, r_isCaller, hN, z_b_t h1, z_b_t h2, r_isGone, z_b_f hg, q3, eq_self]
  · rw [if_neg hne] at q3 ⊢
    obtain ⟨u1, u2, u3⟩ := hF hne
    have hg2 := hgl (F 10 0) 0 0
    have ht2 := htn (F 10 0) 0
    have p10 : ∀ n, n ≤ 10 → 2 ^ n ≤ 1024 := by decide
    have hp := p10 _ u3
    rw [show z_pl F 0 = 0 from rfl] at ht2
    generalize z_gr (z_wy a3 a2 c gr ve (a6 c) (a6 (6 + c))) (z_wl a2 c gr (a6 c)) (z_dY a3 a2 c gr ve (a6 c) (a6 (6 + c))) (z_dL a2 c gr (a6 c)) (F 10 0) 0 0 = G at q3 hg2 ht2
    generalize F 10 0 = U at q3 hg2 ht2 u2 u3 hp ⊢
    have m9 : ¬ nI (16 * G + U) = -9 := by
      intro z
      have := nI_pos' (n := 16 * G + U) (by omega)
      rw [z] at this
      exact absurd this (by decide)
    have d0 : ¬ (16 : Int32) = 0 := by decide
    have d1 : nI (16 * G + U) / 16 = nI G := by
      rw [show nI (16 * G + U) / 16 = nI ((16 * G + U) / 16) from pk_div (d := 16) (by omega) (by decide) (by decide)]
      congr 1
      omega
    have d2 : nI (16 * G + U) - nI G * 16 = nI U := by
      rw [← d1, show nI (16 * G + U) - nI (16 * G + U) / 16 * 16 = nI ((16 * G + U) % 16) from pk_rem (d := 16) (by omega) (by decide) (by decide)]
      congr 1
      omega
    rw [e_120]
    by_cases hk1 : k = -1
    · have hlt : k < nI U := by
        rw [hk1]
        exact Int32.lt_of_lt_of_le (by decide : (-1 : Int32) < 0) (nI_pos' (by omega))
      rw [if_pos hlt, if_pos hk1]
      simp only [k_120_0, k_120_1, k_120_2, k_120_3, k_120_5, k_120_6, k_120_8, k_120_9, k_120_11, k_120_12, k_120_16, w_l5, gl_0, va_r, va_n, w_c0, w_putI, pd_0, w_l3, gl_1, vi_i, t_18_2, rc_0, io_d, t_2, gl_2, w_c1, t_19_3, rc_1, t_3, w_s6, sl_3, ll_3, gl_3, t_9, w_b19, w_s7, sl_4, ll_4, w_l4, gl_4, t_1, t_23, z10, z01, z_bT, z_bF, true_or, or_true, false_or, or_false, Option.bind_some, Option.toList_some, Option.toList_none, List.cons_append, List.nil_append, List.length_cons, List.length_nil, Nat.zero_add, Nat.reduceAdd, Nat.reduceLeDiff, and_self, and_true, true_and, if_true, if_false, reduceCtorEq, ne_eq, not_false_eq_true, not_true_eq_false, ↓reduceIte, Nat.reduceEqDiff, Bool.not_not, r_in, r_isCaller, hN, z_b_t h1, z_b_t h2, r_isGone, z_b_f hg, q3, m9, d0, d1, d2, eq_true hk1]
    · have hk : ∃ k', k' < 10 ∧ k = nI k' := by
        have h6 : 0 ≤ k := by
          have h2a := h2.1
          rw [Int32.le_iff_toInt_le] at h2a ⊢
          have e1 : (-1 : Int32).toInt = -1 := by decide
          have e0 : (0 : Int32).toInt = 0 := by decide
          have e2 : k.toInt ≠ -1 := fun z => hk1 (Int32.toInt_inj.mp (by rw [z, e1]))
          omega
        exact z_in (n := 10) (by decide) ⟨h6, Int32.lt_of_le_of_lt h2.2 (by decide)⟩
      obtain ⟨k', hk2, rfl⟩ := hk
      rw [nI_clamp (by omega)]
      by_cases hlt : k' < U
      · have hlt2 : nI k' < nI U := nI_lt hlt (by omega)
        have hlt3 : ¬ nI U ≤ nI k' := nI_ge hlt (by omega)
        rw [if_pos hlt2, if_neg hk1]
        have e1 : nI U - 1 - nI k' = nI (U - 1 - k') := by
          rw [show (1 : Int32) = nI 1 from rfl, pk_sub u2, pk_sub (by omega)]
        have e2 : (nI G >>> (nI (U - 1 - k') &&& 31)) &&& 1 = z_tn F k' := by
          have ht3 := ht2 k' hlt
          rw [Nat.zero_add] at ht3
          rw [z_and1]
          by_cases hb : G.testBit (U - 1 - k') = true
          · rw [z_b_t ((z_bit_n G _ (by omega) (by omega)).mpr hb)]
            rw [hb] at ht3
            exact (of_decide_eq_true ht3.symm).symm
          · rw [z_b_f (fun z => hb ((z_bit_n G _ (by omega) (by omega)).mp z))]
            rw [Bool.eq_false_iff.mpr hb] at ht3
            have h7 := of_decide_eq_false ht3.symm
            unfold z_tn at h7 ⊢
            split at h7
            · exact absurd rfl h7
            · rename_i h8
              rw [if_neg h8]
        rw [← e2]
        simp only [k_120_0, k_120_1, k_120_2, k_120_3, k_120_5, k_120_6, k_120_8, k_120_9, k_120_11, k_120_13, k_120_14, k_120_16, w_l5, gl_0, va_r, va_n, w_c0, w_putI, pd_0, w_l3, gl_1, vi_i, t_18_2, rc_0, io_d, t_2, gl_2, w_c1, t_19_3, rc_1, t_3, w_s6, sl_3, ll_3, gl_3, t_9, w_b19, w_s7, sl_4, ll_4, w_l4, gl_4, t_11, w_b18, w_b11, w_b16, w_b13, t_1, t_23, z10, z01, z_bT, z_bF, true_or, or_true, false_or, or_false, Option.bind_some, Option.toList_some, Option.toList_none, List.cons_append, List.nil_append, List.length_cons, List.length_nil, Nat.zero_add, Nat.reduceAdd, Nat.reduceLeDiff, and_self, and_true, true_and, if_true, if_false, reduceCtorEq, ne_eq, not_false_eq_true, not_true_eq_false, ↓reduceIte, Nat.reduceEqDiff, Bool.not_not, r_in, r_isCaller, hN, z_b_t h1, z_b_t h2, r_isGone, z_b_f hg, q3, m9, d0, d1, d2, hk1, hlt3, e1]
      · have hlt2 : ¬ nI k' < nI U := nI_nlt (by omega) (by omega)
        have hlt3 : nI U ≤ nI k' := nI_le (by omega) (by omega)
        rw [if_neg hlt2]
        simp only [k_120_0, k_120_1, k_120_2, k_120_3, k_120_5, k_120_6, k_120_8, k_120_9, k_120_11, k_120_13, k_120_15, k_120_16, w_l5, gl_0, va_r, va_n, w_c0, w_putI, pd_0, w_l3, gl_1, vi_i, t_18_2, rc_0, io_d, t_2, gl_2, w_c1, t_19_3, rc_1, t_3, w_s6, sl_3, ll_3, gl_3, t_9, w_b19, w_s7, sl_4, ll_4, w_l4, gl_4, t_11, t_0, t_23, z10, z01, z_bT, z_bF, true_or, or_true, false_or, or_false, Option.bind_some, Option.toList_some, Option.toList_none, List.cons_append, List.nil_append, List.length_cons, List.length_nil, Nat.zero_add, Nat.reduceAdd, Nat.reduceLeDiff, and_self, and_true, true_and, if_true, if_false, reduceCtorEq, ne_eq, not_false_eq_true, not_true_eq_false, ↓reduceIte, Nat.reduceEqDiff, Bool.not_not, r_in, r_isCaller, hN, z_b_t h1, z_b_t h2, r_isGone, z_b_f hg, q3, m9, d0, d1, d2, hk1, hlt3]
