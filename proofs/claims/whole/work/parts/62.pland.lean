/-! pairs: how to have land -/
theorem le_pred {x : Int32} {m : Nat} (hm : m < 1000) : x ≤ nI (m + 1) - 1 ↔ x < nI (m + 1) := by
  rw [nI_pred, Int32.le_iff_toInt_le, Int32.lt_iff_toInt_lt, nI_toInt (by omega), nI_toInt (by omega)]
  omega
theorem le_pow {x : Int32} {n : Nat} (hn : n ≤ 6) : x ≤ nI (2 ^ n) - 1 ↔ x < nI (2 ^ n) := by
  have h1 := z_pow_le n hn
  have h2 : 0 < 2 ^ n := Nat.two_pow_pos n
  obtain ⟨m, hm⟩ : ∃ m, 2 ^ n = m + 1 := ⟨2 ^ n - 1, by omega⟩
  rw [hm]
  exact le_pred (by omega)
theorem lt_m1 (x : Int32) : ¬ x < -1 ↔ -1 ≤ x := Int32.not_lt
theorem lt_1 (x : Int32) : ¬ x < 1 ↔ 1 ≤ x := Int32.not_lt
theorem pp_way (S : ai_S) (V : sv_V) (D : sv_D) (h : RR V D) (c w : Int32) : pr_P S 46 120 [.int c, .int w] V D := by
  obtain ⟨⟨gr, vl, sg, cs, pr, ha, la, wa⟩, p, sw, ⟨le, ln, pc, tk1, tp, nu, it, ns, gt, vt, st⟩, ⟨br, wm, yi, lf, sh, hu, ve, so⟩, ⟨rw1, nx1, kn⟩, im, kp, ⟨wh, ti, yd, sz⟩, wl, fe, as⟩ := V
  obtain ⟨⟨th, tr, ty, nx, tk, pl, va, fa, to, um, te, hd, wr⟩, a0, a1, a2, a3, a4, a5, a6, a7, a8, a9, a10, a11, a12, a13⟩ := D
  obtain ⟨n, i, u, s, l, κ, e1, e2, e3, e4, e5, e6, e7, e8, e9, e10, hS, hM, hU, hK, hH, hT⟩ := h
  subst e1 e2 e3 e4 e5 e6 e7 e8 e9 e10
  have hR : RR ((gr, vl, sg, nI n, pr, ha, la, wa), p, sw, (le, nI l, pc, tk1, tp, nu, it, ns, gt, vt, st), (br, wm, yi, lf, sh, hu, ve, so), (rw1, nI i, nI u), im, nI κ, (wh, ti, yd, nI s), wl, fe, tr) ((th, tr, nI l, nx, tk, pl, va, fa, to, nI u, nI s, hd, wr), a0, a1, a2, a3, a4, a5, a6, a7, a8, a9, a10, a11, a12, a13) := ⟨n, i, u, s, l, κ, rfl, rfl, rfl, rfl, rfl, rfl, rfl, rfl, rfl, rfl, hS, hM, hU, hK, hH, hT⟩
  obtain ⟨hn, s0, s1, s2, s3, hs⟩ := hS
  have hM1 := hM
  obtain ⟨m1, m2, m3, m4, m5, m6, m7, m8, m9, m10⟩ := hM
  have m2 : a6 12 = yi := m2
  have m3 : a6 13 = lf := m3
  have m4 : a6 14 = sh := m4
  have m5 : a6 15 = hu := m5
  have m6 : a6 16 = ve := m6
  have m1 : ∀ k, k < 6 → a6 k = br k ∧ a6 (6 + k) = wm k := m1
  have m7 := so_cases hn m7
  by_cases hb : (0 ≤ c ∧ c < nI n) ∧ (-1 ≤ w ∧ w ≤ 9)
  · obtain ⟨k, hk, e⟩ := cs_in hn hb.1
    subst e
    have hb2 : 0 ≤ nI k ∧ nI k < a1 0 := by rw [s0]; exact hb.1
    by_cases hg : z_bit (yi ||| lf) k
    · exact ⟨_, _, _, x_way_s (c := k) (k := w) (hc := hb.1) (h1 := (lt_m1 w).mpr hb.2.1) (h2 := (lt_10 w).mpr hb.2.2) (hw := hg) .., r_way_s (hN := zn_of hn s0) (c := k) (k := w) (h1 := hb2) (h2 := hb.2) (hg := by rw [m2, m3]; exact hg) .., hR⟩
    · obtain ⟨q1, q2, q3, q4, -⟩ := hs k hk
      obtain ⟨f2, hx⟩ := x_way S gr vl sg (nI n) pr ha la wa p sw (le, nI l, pc, tk1, tp, nu, it, ns, gt, vt, st) br wm yi lf sh hu ve so (rw1, nI i, nI u) im (nI κ) (wh, ti, yd, nI s) wl fe tr ((th, tr, nI l, nx, tk, pl, va, fa, to, nI u, nI s, hd, wr), a0, a1, a2, a3, a4, a5, a6, a7, a8, a9, a10, a11, a12, a13) k w (by omega) hb.1 ((lt_m1 w).mpr hb.2.1) ((lt_10 w).mpr hb.2.2) hg
      obtain ⟨hd2, wr2, hr⟩ := r_way S ((gr, vl, sg, nI n, pr, ha, la, wa), p, sw, (le, nI l, pc, tk1, tp, nu, it, ns, gt, vt, st), (br, wm, yi, lf, sh, hu, ve, so), (rw1, nI i, nI u), im, nI κ, (wh, ti, yd, nI s), wl, f2, tr) th tr (nI l) nx tk pl va fa to (nI u) (nI s) hd wr a0 a1 a2 a3 a4 a5 a6 a7 a8 a9 a10 a11 a12 a13 (zn_of hn s0) k w (by omega) hb2 hb.2 (by rw [m2, m3]; exact hg) gr ve s1 m6
      rw [cg_way q1.symm q2.symm (m1 k (by omega)).1.symm (m1 k (by omega)).2.symm gr ve] at hx
      exact ⟨_, _, _, hx, hr, hR⟩
  · exact ⟨_, _, _, x_way_b (c := c) (k := w) (hb := fun z => hb ⟨z.1, (lt_m1 w).mp z.2.1, (lt_10 w).mp z.2.2⟩) .., r_way_b (hN := zn_of hn s0) (c := c) (k := w) (hb := fun z => hb ⟨by rw [← s0]; exact z.1, z.2⟩) .., hR⟩
theorem pp_gain (S : ai_S) (V : sv_V) (D : sv_D) (h : RR V D) (x w : Int32) : pr_P S 47 122 [.int x, .int w] V D := by
  obtain ⟨⟨gr, vl, sg, cs, pr, ha, la, wa⟩, p, sw, ⟨le, ln, pc, tk1, tp, nu, it, ns, gt, vt, st⟩, ⟨br, wm, yi, lf, sh, hu, ve, so⟩, ⟨rw1, nx1, kn⟩, im, kp, ⟨wh, ti, yd, sz⟩, wl, fe, as⟩ := V
  obtain ⟨⟨th, tr, ty, nx, tk, pl, va, fa, to, um, te, hd, wr⟩, a0, a1, a2, a3, a4, a5, a6, a7, a8, a9, a10, a11, a12, a13⟩ := D
  obtain ⟨n, i, u, s, l, κ, e1, e2, e3, e4, e5, e6, e7, e8, e9, e10, hS, hM, hU, hK, hH, hT⟩ := h
  subst e1 e2 e3 e4 e5 e6 e7 e8 e9 e10
  have hR : RR ((gr, vl, sg, nI n, pr, ha, la, wa), p, sw, (le, nI l, pc, tk1, tp, nu, it, ns, gt, vt, st), (br, wm, yi, lf, sh, hu, ve, so), (rw1, nI i, nI u), im, nI κ, (wh, ti, yd, nI s), wl, fe, tr) ((th, tr, nI l, nx, tk, pl, va, fa, to, nI u, nI s, hd, wr), a0, a1, a2, a3, a4, a5, a6, a7, a8, a9, a10, a11, a12, a13) := ⟨n, i, u, s, l, κ, rfl, rfl, rfl, rfl, rfl, rfl, rfl, rfl, rfl, rfl, hS, hM, hU, hK, hH, hT⟩
  obtain ⟨hn, s0, s1, s2, s3, hs⟩ := hS
  have hM1 := hM
  obtain ⟨m1, m2, m3, m4, m5, m6, m7, m8, m9, m10⟩ := hM
  have m2 : a6 12 = yi := m2
  have m3 : a6 13 = lf := m3
  have m4 : a6 14 = sh := m4
  have m5 : a6 15 = hu := m5
  have m6 : a6 16 = ve := m6
  have m1 : ∀ k, k < 6 → a6 k = br k ∧ a6 (6 + k) = wm k := m1
  have m7 := so_cases hn m7
  by_cases hb : (0 ≤ x ∧ x ≤ 40) ∧ (0 ≤ w ∧ w ≤ 1)
  · obtain ⟨N, hN, e⟩ := nI_of2 (M := 40) (n := 40) (by decide) (nlt0.mpr hb.1.1) hb.1.2
    subst e
    have hw := (t01 w).mp hb.2
    obtain ⟨w2, f2, hx⟩ := x_gain S gr vl sg pr ha la wa p sw (le, nI l, pc, tk1, tp, nu, it, ns, gt, vt, st) br wm yi lf sh hu ve so (rw1, nI i, nI u) im (nI κ) (wh, ti, yd, nI s) wl fe tr ((th, tr, nI l, nx, tk, pl, va, fa, to, nI u, nI s, hd, wr), a0, a1, a2, a3, a4, a5, a6, a7, a8, a9, a10, a11, a12, a13) n N hn hN w hw
    obtain ⟨b13, hd2, wr2, hr⟩ := r_gain S ((gr, vl, sg, nI n, pr, ha, la, wa), p, sw, (le, nI l, pc, tk1, tp, nu, it, ns, gt, vt, st), (br, wm, yi, lf, sh, hu, ve, so), (rw1, nI i, nI u), im, nI κ, (wh, ti, yd, nI s), w2, f2, tr) th tr (nI l) nx tk pl va fa to (nI u) (nI s) hd wr a0 a1 a2 a3 a4 a5 a6 a7 a8 a9 a10 a11 a12 a13 n N hn hN s0 (fun k hk => by rw [(hs k hk).2.2.1]; exact (hs k hk).2.2.2.2) gr ve s1 m6 w hw
    rw [m2, m3] at hr
    have c1 := cg_gn_la (la := la) (la' := a4) (W := z_wn ha pr br wm gr ve (yi ||| lf)) (W' := z_wn ha pr br wm gr ve (yi ||| lf)) (n := n) (N := N) (fun k hk => (hs k hk).2.2.1.symm) (fun _ _ => rfl) (2 ^ n - 1)
    have c2 := (cg_gain (la := a4) (W := z_wn ha pr br wm gr ve (yi ||| lf)) (W' := z_wm a3 a2 a6 gr ve (yi ||| lf)) (n := n) (N := N) hn hN (fun k hk => cg_wn (hs k hk).1.symm (hs k hk).2.1.symm (m1 k (by omega)).1.symm (m1 k (by omega)).2.symm gr ve (yi ||| lf)) (2 ^ n - 1)).1
    rw [c1, c2] at hx
    exact ⟨_, _, _, hx, hr, hR⟩
  · refine ⟨_, _, _, x_gain_b (n := x) (w := w) (hb := fun z => hb ⟨⟨nlt0.mp z.1, Int32.not_lt.mp z.2.1⟩, (t01 w).mpr z.2.2⟩) .., r_gain_b (x := x) (w := w) (hb := hb) .., hR⟩
theorem pp_tune (S : ai_S) (V : sv_V) (D : sv_D) (h : RR V D) (x w : Int32) : pr_P S 48 124 [.int x, .int w] V D := by
  obtain ⟨⟨gr, vl, sg, cs, pr, ha, la, wa⟩, p, sw, ⟨le, ln, pc, tk1, tp, nu, it, ns, gt, vt, st⟩, ⟨br, wm, yi, lf, sh, hu, ve, so⟩, ⟨rw1, nx1, kn⟩, im, kp, ⟨wh, ti, yd, sz⟩, wl, fe, as⟩ := V
  obtain ⟨⟨th, tr, ty, nx, tk, pl, va, fa, to, um, te, hd, wr⟩, a0, a1, a2, a3, a4, a5, a6, a7, a8, a9, a10, a11, a12, a13⟩ := D
  obtain ⟨n, i, u, s, l, κ, e1, e2, e3, e4, e5, e6, e7, e8, e9, e10, hS, hM, hU, hK, hH, hT⟩ := h
  subst e1 e2 e3 e4 e5 e6 e7 e8 e9 e10
  have hR : RR ((gr, vl, sg, nI n, pr, ha, la, wa), p, sw, (le, nI l, pc, tk1, tp, nu, it, ns, gt, vt, st), (br, wm, yi, lf, sh, hu, ve, so), (rw1, nI i, nI u), im, nI κ, (wh, ti, yd, nI s), wl, fe, tr) ((th, tr, nI l, nx, tk, pl, va, fa, to, nI u, nI s, hd, wr), a0, a1, a2, a3, a4, a5, a6, a7, a8, a9, a10, a11, a12, a13) := ⟨n, i, u, s, l, κ, rfl, rfl, rfl, rfl, rfl, rfl, rfl, rfl, rfl, rfl, hS, hM, hU, hK, hH, hT⟩
  obtain ⟨hn, s0, s1, s2, s3, hs⟩ := hS
  have hp2 := z_one_pow n hn
  by_cases hb : (0 ≤ x ∧ x ≤ nI (2 ^ n) - 1) ∧ (1 ≤ w ∧ w ≤ 5)
  · have h0 : ¬ w < 0 := fun z => absurd (Int32.lt_of_lt_of_le z (Int32.le_trans (by decide) hb.2.1)) Int32.lt_irrefl
    obtain ⟨K, hK5, e⟩ := nI_of2 (M := 5) (n := 5) (by decide) h0 hb.2.2
    subst e
    have hx1 : ¬ (1 : Int32) <<< (nI n &&& 31) ≤ x := by
      rw [hp2, Int32.not_le]
      exact (le_pow hn).mp hb.1.2
    obtain ⟨hd2, wr2, hr⟩ := r_tune S ((gr, vl, sg, nI n, pr, ha, la, wa), p, sw, (le, nI l, pc, tk1, tp, nu, it, ns, gt, vt, st), (br, wm, yi, lf, sh, hu, ve, so), (rw1, nI i, nI u), im, nI κ, (wh, ti, yd, nI s), wl, fe, tr) th tr (nI l) nx tk pl va fa to (nI u) (nI s) hd wr a0 a1 a2 a3 a4 a5 a6 a7 a8 a9 a10 a11 a12 a13 n K hn (by omega) s0 x hb.1 hb.2
    rw [cg_tune (pr := a2) (ha := a3) (pr' := pr) (ha' := ha) (n := n) (fun k hk => ⟨(hs k hk).1, (hs k hk).2.1⟩) x K] at hr
    exact ⟨_, _, _, x_tune (n := n) (K := K) (hn := hn) (hK := by omega) (set := x) (h0 := nlt0.mpr hb.1.1) (h1 := hx1) (h2 := (lt_1 _).mpr hb.2.1) (h3 := hb.2.2) .., hr, hR⟩
  · refine ⟨_, _, _, x_tune_b (set := x) (k := w) (hb := fun z => hb ⟨⟨nlt0.mp z.1, (le_pow hn).mpr ?_⟩, (lt_1 w).mp z.2.2.1, z.2.2.2⟩) .., r_tune_b (n := n) (hn := hn) (ha := s0) (set := x) (k := w) (hb := hb) .., hR⟩
    have h1 := z.2.1
    rw [hp2, Int32.not_le] at h1
    exact h1
theorem pp_odds (S : ai_S) (V : sv_V) (D : sv_D) (h : RR V D) (x k w : Int32) : pr_P S 49 127 [.int x, .int k, .int w] V D := by
  obtain ⟨⟨gr, vl, sg, cs, pr, ha, la, wa⟩, p, sw, ⟨le, ln, pc, tk1, tp, nu, it, ns, gt, vt, st⟩, ⟨br, wm, yi, lf, sh, hu, ve, so⟩, ⟨rw1, nx1, kn⟩, im, kp, ⟨wh, ti, yd, sz⟩, wl, fe, as⟩ := V
  obtain ⟨⟨th, tr, ty, nx, tk, pl, va, fa, to, um, te, hd, wr⟩, a0, a1, a2, a3, a4, a5, a6, a7, a8, a9, a10, a11, a12, a13⟩ := D
  obtain ⟨n, i, u, s, l, κ, e1, e2, e3, e4, e5, e6, e7, e8, e9, e10, hS, hM, hU, hK, hH, hT⟩ := h
  subst e1 e2 e3 e4 e5 e6 e7 e8 e9 e10
  have hR : RR ((gr, vl, sg, nI n, pr, ha, la, wa), p, sw, (le, nI l, pc, tk1, tp, nu, it, ns, gt, vt, st), (br, wm, yi, lf, sh, hu, ve, so), (rw1, nI i, nI u), im, nI κ, (wh, ti, yd, nI s), wl, fe, tr) ((th, tr, nI l, nx, tk, pl, va, fa, to, nI u, nI s, hd, wr), a0, a1, a2, a3, a4, a5, a6, a7, a8, a9, a10, a11, a12, a13) := ⟨n, i, u, s, l, κ, rfl, rfl, rfl, rfl, rfl, rfl, rfl, rfl, rfl, rfl, hS, hM, hU, hK, hH, hT⟩
  obtain ⟨hn, s0, s1, s2, s3, hs⟩ := hS
  have hM1 := hM
  obtain ⟨m1, m2, m3, m4, m5, m6, m7, m8, m9, m10⟩ := hM
  have m2 : a6 12 = yi := m2
  have m3 : a6 13 = lf := m3
  have m4 : a6 14 = sh := m4
  have m5 : a6 15 = hu := m5
  have m6 : a6 16 = ve := m6
  have m1 : ∀ k, k < 6 → a6 k = br k ∧ a6 (6 + k) = wm k := m1
  have m7 := so_cases hn m7
  by_cases hb : (0 ≤ x ∧ x ≤ 10) ∧ (0 ≤ k ∧ k ≤ 6) ∧ (0 ≤ w ∧ w ≤ 1)
  · obtain ⟨X, hX, e⟩ := nI_of2 (M := 10) (n := 10) (by decide) (nlt0.mpr hb.1.1) hb.1.2
    subst e
    obtain ⟨K, hK6, e⟩ := nI_of2 (M := 6) (n := 6) (by decide) (nlt0.mpr hb.2.1.1) hb.2.1.2
    subst e
    have hw := (t01 w).mp hb.2.2
    obtain ⟨q, hq, e⟩ := m9
    have e : lf = nI q := e
    subst e
    have h64 := z_pow_le n hn
    have hct := z_ct_le n hn q hq
    exact ⟨_, _, _, x_odds (n := n) (l := q) (X := X) (K := K) (hn := hn) (hl := by omega) (hc := hct) (hX := hX) (hK := hK6) (w := w) (hw := hw) .., r_odds (n := n) (l := q) (X := X) (K := K) (hn := hn) (ha := s0) (hl := by omega) (h13 := m3) (hc := hct) (hX := hX) (hK := hK6) (w := w) (hw := hw) .., hR⟩
  · refine ⟨_, _, _, x_odds_b (x := x) (k := k) (w := w) (hb := fun z => hb ⟨⟨nlt0.mp z.1, Int32.not_lt.mp z.2.1⟩, ⟨nlt0.mp z.2.2.1, Int32.not_lt.mp z.2.2.2.1⟩, (t01 w).mpr z.2.2.2.2⟩) .., r_odds_b (x := x) (k := k) (w := w) (hb := hb) .., hR⟩
