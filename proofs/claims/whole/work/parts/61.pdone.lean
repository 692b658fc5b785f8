/-! pairs: what is done -/
theorem lt_10 (w : Int32) : w < 10 ↔ w ≤ 9 := by
  rw [Int32.lt_iff_toInt_lt, Int32.le_iff_toInt_le, show (10 : Int32).toInt = 10 from by decide, show (9 : Int32).toInt = 9 from by decide]
  omega
theorem so_cases {n : Nat} (hn : n ≤ 6) {x y : Int32} (h : (x = -9 ∧ y = 0) ∨ ∃ c, c < n ∧ x = nI c ∧ y = nI (c + 1)) : (x = -9 ∧ y = 0) ∨ (¬ x = -9 ∧ ∃ c, c < n ∧ x = nI c ∧ y = nI (c + 1)) := by
  rcases h with h | ⟨c, h1, h2, h3⟩
  · exact Or.inl h
  · refine Or.inr ⟨fun z => ?_, c, h1, h2, h3⟩
    have h4 : (0 : Int32) ≤ nI c := nI_pos' (by omega)
    rw [← h2, z] at h4
    exact absurd h4 (by decide)
theorem MR_17 {n : Nat} {br wm f : Nat → Int32} {yi lf sh hu ve so : Int32} (h : MR n (br, wm, yi, lf, sh, hu, ve, so) f) : MR n (br, wm, yi, lf, sh, hu, ve, -9) (upd f 17 0) := by
  obtain ⟨m1, m2, m3, m4, m5, m6, m7, m8, m9, m10⟩ := h
  exact ⟨fun k hk => by rw [pk_un (by omega), pk_un (by omega)]; exact m1 k hk, by rw [pk_un (by omega)]; exact m2, by rw [pk_un (by omega)]; exact m3, by rw [pk_un (by omega)]; exact m4, by rw [pk_un (by omega)]; exact m5, by rw [pk_un (by omega)]; exact m6, Or.inl ⟨rfl, pk_us⟩, m8, m9, m10⟩
theorem MR_16 {n : Nat} {br wm f : Nat → Int32} {yi lf sh hu ve so : Int32} (w : Int32) (h : MR n (br, wm, yi, lf, sh, hu, ve, so) f) : MR n (br, wm, yi, lf, sh, hu, w, so) (upd f 16 w) := by
  obtain ⟨m1, m2, m3, m4, m5, m6, m7, m8, m9, m10⟩ := h
  exact ⟨fun k hk => by rw [pk_un (by omega), pk_un (by omega)]; exact m1 k hk, by rw [pk_un (by omega)]; exact m2, by rw [pk_un (by omega)]; exact m3, by rw [pk_un (by omega)]; exact m4, by rw [pk_un (by omega)]; exact m5, pk_us, by rw [pk_un (by omega)]; exact m7, m8, m9, m10⟩
theorem MR_14 {n : Nat} {br wm f : Nat → Int32} {yi lf sh hu ve so : Int32} (w : Int32) (h : MR n (br, wm, yi, lf, sh, hu, ve, so) f) : MR n (br, wm, yi, lf, w, hu, ve, so) (upd f 14 w) := by
  obtain ⟨m1, m2, m3, m4, m5, m6, m7, m8, m9, m10⟩ := h
  exact ⟨fun k hk => by rw [pk_un (by omega), pk_un (by omega)]; exact m1 k hk, by rw [pk_un (by omega)]; exact m2, by rw [pk_un (by omega)]; exact m3, pk_us, by rw [pk_un (by omega)]; exact m5, by rw [pk_un (by omega)]; exact m6, by rw [pk_un (by omega)]; exact m7, m8, m9, m10⟩
theorem MR_br {n : Nat} {br wm f : Nat → Int32} {yi lf sh hu ve so : Int32} (c : Nat) (hc : c < 6) (w : Int32) (h : MR n (br, wm, yi, lf, sh, hu, ve, so) f) : MR n (upd br c w, wm, yi, lf, sh, hu, ve, so) (upd f c w) := by
  obtain ⟨m1, m2, m3, m4, m5, m6, m7, m8, m9, m10⟩ := h
  refine ⟨fun k hk => ?_, by rw [pk_un (by omega)]; exact m2, by rw [pk_un (by omega)]; exact m3, by rw [pk_un (by omega)]; exact m4, by rw [pk_un (by omega)]; exact m5, by rw [pk_un (by omega)]; exact m6, by rw [pk_un (by omega)]; exact m7, m8, m9, m10⟩
  refine ⟨?_, by rw [pk_un (by omega)]; exact (m1 k hk).2⟩
  show upd f c w k = upd br c w k
  by_cases e : k = c
  · subst e
    rw [pk_us, pk_us]
  · rw [pk_un e, pk_un e]
    exact (m1 k hk).1
theorem pp_now (S : ai_S) (V : sv_V) (D : sv_D) (h : RR V D) (w : Int32) : pr_P S 29 107 [.int w] V D := by
  obtain ⟨⟨gr, vl, sg, cs, pr, ha, la, wa⟩, p, sw, ⟨le, ln, pc, tk1, tp, nu, it, ns, gt, vt, st⟩, ⟨br, wm, yi, lf, sh, hu, ve, so⟩, ⟨rw1, nx1, kn⟩, im, kp, ⟨wh, ti, yd, sz⟩, wl, fe, as⟩ := V
  obtain ⟨⟨th, tr, ty, nx, tk, pl, va, fa, to, um, te, hd, wr⟩, a0, a1, a2, a3, a4, a5, a6, a7, a8, a9, a10, a11, a12, a13⟩ := D
  obtain ⟨n, i, u, s, l, κ, e1, e2, e3, e4, e5, e6, e7, e8, e9, e10, hS, hM, hU, hK, hH, hT⟩ := h
  subst e1 e2 e3 e4 e5 e6 e7 e8 e9 e10
  have hR : RR ((gr, vl, sg, nI n, pr, ha, la, wa), p, sw, (le, nI l, pc, tk1, tp, nu, it, ns, gt, vt, st), (br, wm, yi, lf, sh, hu, ve, so), (rw1, nI i, nI u), im, nI κ, (wh, ti, yd, nI s), wl, fe, tr) ((th, tr, nI l, nx, tk, pl, va, fa, to, nI u, nI s, hd, wr), a0, a1, a2, a3, a4, a5, a6, a7, a8, a9, a10, a11, a12, a13) := ⟨n, i, u, s, l, κ, rfl, rfl, rfl, rfl, rfl, rfl, rfl, rfl, rfl, rfl, hS, hM, hU, hK, hH, hT⟩
  obtain ⟨hn, s0, s1, s2, s3, hs⟩ := hS
  have hM1 := hM
  obtain ⟨m1, m2, m3, m4, m5, m6, m7, m8, m9, m10⟩ := hM
  have m2 : a6 12 = yi := m2
  have m3 : a6 13 = lf := m3
  have m4 : a6 14 = sh := m4
  have m5 : a6 15 = hu := m5
  have m6 : a6 16 = ve := m6
  have m1 : ∀ k, k < 6 → a6 k = br k ∧ a6 (6 + k) = wm k := m1
  have m7 := so_cases hn m7
  have e17 : (if a6 17 = 0 then (-9 : Int32) else a6 17 - 1) = so := by
    rcases m7 with ⟨h1, h2⟩ | ⟨-, c, h1, h2, h3⟩
    · rw [h2, if_pos rfl]
      exact h1.symm
    · rw [h3, if_neg (nI_ne0 (by omega) (by omega)), nI_pred]
      exact h2.symm
  by_cases h6 : 0 ≤ w ∧ w ≤ 6
  · refine pr_B (V' := ((gr, vl, sg, nI n, pr, ha, la, wa), p, sw, (le, nI l, pc, tk1, tp, nu, it, ns, gt, vt, st), (br, wm, yi, lf, sh, hu, ve, so), (rw1, nI i, nI u), im, nI κ, (wh, ti, yd, nI s), wl, fe, tr)) (D' := ((0, tr, nI l, nx, tk, pl, va, fa, to, nI u, nI s, hd, wr), a0, a1, a2, a3, a4, a5, a6, a7, a8, a9, a10, a11, a12, a13)) _ ?_ (x_now (n := n) (hn := hn) (w := w) ..) ((r_now (n := n) (hn := hn) (ha := s0) (w := w) (h := h6) ..).trans ?_) hR
    · rcases z_06 w h6 with e | e | e | e | e | e | e <;> subst e <;> exact ⟨_, rfl⟩
    · rw [m6, m4, m5, e17, m2, cg_land yi n (fun j hj => (hs j hj).2.2.1), cg_tr hn (fun j hj => (hs j hj).2.2.2.1) n (Nat.le_refl n)]
  · have hz : ∀ v : Int32, (0 ≤ v ∧ v ≤ 6) → ¬ w = v := fun v hv e => h6 (e ▸ hv)
    refine ⟨-1, ((gr, vl, sg, nI n, pr, ha, la, wa), p, sw, (le, nI l, pc, tk1, tp, nu, it, ns, gt, vt, st), (br, wm, yi, lf, sh, hu, ve, so), (rw1, nI i, nI u), im, nI κ, (wh, ti, yd, nI s), wl, fe, tr), ((0, tr, nI l, nx, tk, pl, va, fa, to, nI u, nI s, hd, wr), a0, a1, a2, a3, a4, a5, a6, a7, a8, a9, a10, a11, a12, a13), (x_now (n := n) (hn := hn) (w := w) ..).trans ?_, r_now_b (w := w) (hb := h6) .., hR⟩
    rw [if_neg (hz 0 (by decide)), if_neg (hz 1 (by decide)), if_neg (hz 2 (by decide)), if_neg (hz 3 (by decide)), if_neg (hz 4 (by decide)), if_neg (hz 5 (by decide)), if_neg (hz 6 (by decide))]
    rfl
theorem pp_shakes (S : ai_S) (V : sv_V) (D : sv_D) (h : RR V D) (c t1 : Int32) : pr_P S 34 111 [.int c, .int t1] V D := by
  obtain ⟨⟨gr, vl, sg, cs, pr, ha, la, wa⟩, p, sw, ⟨le, ln, pc, tk1, tp, nu, it, ns, gt, vt, st⟩, ⟨br, wm, yi, lf, sh, hu, ve, so⟩, ⟨rw1, nx1, kn⟩, im, kp, ⟨wh, ti, yd, sz⟩, wl, fe, as⟩ := V
  obtain ⟨⟨th, tr, ty, nx, tk, pl, va, fa, to, um, te, hd, wr⟩, a0, a1, a2, a3, a4, a5, a6, a7, a8, a9, a10, a11, a12, a13⟩ := D
  obtain ⟨n, i, u, s, l, κ, e1, e2, e3, e4, e5, e6, e7, e8, e9, e10, hS, hM, hU, hK, hH, hT⟩ := h
  subst e1 e2 e3 e4 e5 e6 e7 e8 e9 e10
  have hR : RR ((gr, vl, sg, nI n, pr, ha, la, wa), p, sw, (le, nI l, pc, tk1, tp, nu, it, ns, gt, vt, st), (br, wm, yi, lf, sh, hu, ve, so), (rw1, nI i, nI u), im, nI κ, (wh, ti, yd, nI s), wl, fe, tr) ((th, tr, nI l, nx, tk, pl, va, fa, to, nI u, nI s, hd, wr), a0, a1, a2, a3, a4, a5, a6, a7, a8, a9, a10, a11, a12, a13) := ⟨n, i, u, s, l, κ, rfl, rfl, rfl, rfl, rfl, rfl, rfl, rfl, rfl, rfl, hS, hM, hU, hK, hH, hT⟩
  have hS1 := hS
  have hU1 := hU
  obtain ⟨hn, s0, s1, s2, s3, hs⟩ := hS
  have hM1 := hM
  obtain ⟨m1, m2, m3, m4, m5, m6, m7, m8, m9, m10⟩ := hM
  have m2 : a6 12 = yi := m2
  have m3 : a6 13 = lf := m3
  have m4 : a6 14 = sh := m4
  have m5 : a6 15 = hu := m5
  have m6 : a6 16 = ve := m6
  have m1 : ∀ k, k < 6 → a6 k = br k ∧ a6 (6 + k) = wm k := m1
  have m7 := so_cases hn m7
  by_cases hb : (0 ≤ c ∧ c < nI n) ∧ (0 ≤ t1 ∧ t1 ≤ 1)
  · obtain ⟨k, hk, e⟩ := cs_in hn hb.1
    subst e
    have ht := (t01 t1).mp hb.2
    by_cases hg : so = -9 ∧ ¬ z_bit lf k
    · obtain ⟨q1, q2, q3, q4, -⟩ := hs k hk
      obtain ⟨b6, b9, hd2, wr2, g0, g1, g2⟩ := r_shakes S ((gr, vl, sg, nI n, pr, ha, la, wa), p, sw, (le, nI l, pc, tk1, tp, nu, it, ns, gt, vt, st), (z_shk gr sg pr ha br wm yi lf sh hu ve so k t1).2, (va_up rw1 i (z_cpm (rw1 i) (br, wm, yi, lf, sh, hu, ve, so)), nI ((i + 1) % 10), nI (min 10 (u + 1))), im, nI κ, (wh, ti, yd, nI s), wl, fe, tr) th tr (nI l) nx tk pl va fa to 0 (nI s) hd wr a0 a1 a2 a3 a4 a5 a6 a7 a8 a9 a10 a11 a12 a13 n k u hn hk s0 hU.1 t1 gr sg ht s1 s3 pr ha br wm yi lf sh hu ve so q1 q2 hM1 hg.1 hg.2
      refine ⟨_, _, _, x_shakes_ok (k := k) (i := i) (j := u) (t1 := t1) (hk := by omega) (hi := hU.2.1) (hj := hU.1) (hc := hb.1) (ht := ht) (h9 := hg.1) (hl := hg.2) .., g2, ?_⟩
      exact ⟨n, (i + 1) % 10, min 10 (u + 1), s, l, κ, rfl, rfl, rfl, rfl, rfl, rfl, rfl, rfl, rfl, rfl, hS1, g0, UR_push hU hM1 g1, hK, hH, hT⟩
    · refine ⟨_, _, _, x_shakes_state (k := k) (t1 := t1) (hc := hb.1) (ht := ht) (hs := ?_) .., r_shakes_s (hN := zn_of hn s0) (k := k) (t := t1) (h1 := by rw [s0]; exact hb.1) (h2 := hb.2) (hs := ?_) .., hR⟩
      · by_cases h9 : so = -9
        · exact Or.inr (Classical.byContradiction fun z => hg ⟨h9, z⟩)
        · exact Or.inl h9
      · rcases m7 with ⟨h1, h2⟩ | ⟨-, c2, h1, h2, h3⟩
        · refine Or.inr ?_
          rw [m3]
          exact Classical.byContradiction fun z => hg ⟨h1, z⟩
        · refine Or.inl ?_
          rw [h3]
          exact nI_lt (a := 0) (by omega) (by omega)
  · exact ⟨_, _, _, x_shakes_bad (c := c) (t1 := t1) (hb := fun z => hb ⟨z.1, (t01 t1).mpr z.2⟩) .., r_shakes_b (hN := zn_of hn s0) (c := c) (t := t1) (hb := fun z => hb ⟨by rw [← s0]; exact z.1, z.2⟩) .., hR⟩
theorem pp_opens (S : ai_S) (V : sv_V) (D : sv_D) (h : RR V D) : pr_P S 35 112 [] V D := by
  obtain ⟨⟨gr, vl, sg, cs, pr, ha, la, wa⟩, p, sw, ⟨le, ln, pc, tk1, tp, nu, it, ns, gt, vt, st⟩, ⟨br, wm, yi, lf, sh, hu, ve, so⟩, ⟨rw1, nx1, kn⟩, im, kp, ⟨wh, ti, yd, sz⟩, wl, fe, as⟩ := V
  obtain ⟨⟨th, tr, ty, nx, tk, pl, va, fa, to, um, te, hd, wr⟩, a0, a1, a2, a3, a4, a5, a6, a7, a8, a9, a10, a11, a12, a13⟩ := D
  obtain ⟨n, i, u, s, l, κ, e1, e2, e3, e4, e5, e6, e7, e8, e9, e10, hS, hM, hU, hK, hH, hT⟩ := h
  subst e1 e2 e3 e4 e5 e6 e7 e8 e9 e10
  have hR : RR ((gr, vl, sg, nI n, pr, ha, la, wa), p, sw, (le, nI l, pc, tk1, tp, nu, it, ns, gt, vt, st), (br, wm, yi, lf, sh, hu, ve, so), (rw1, nI i, nI u), im, nI κ, (wh, ti, yd, nI s), wl, fe, tr) ((th, tr, nI l, nx, tk, pl, va, fa, to, nI u, nI s, hd, wr), a0, a1, a2, a3, a4, a5, a6, a7, a8, a9, a10, a11, a12, a13) := ⟨n, i, u, s, l, κ, rfl, rfl, rfl, rfl, rfl, rfl, rfl, rfl, rfl, rfl, hS, hM, hU, hK, hH, hT⟩
  have hS1 := hS
  obtain ⟨hn, s0, s1, s2, s3, hs⟩ := hS
  have hM1 := hM
  obtain ⟨m1, m2, m3, m4, m5, m6, m7, m8, m9, m10⟩ := hM
  have m2 : a6 12 = yi := m2
  have m3 : a6 13 = lf := m3
  have m4 : a6 14 = sh := m4
  have m5 : a6 15 = hu := m5
  have m6 : a6 16 = ve := m6
  have m1 : ∀ k, k < 6 → a6 k = br k ∧ a6 (6 + k) = wm k := m1
  have m7 := so_cases hn m7
  rcases m7 with ⟨h1, h2⟩ | ⟨h0, c, h1, h2, h3⟩
  · exact ⟨_, _, _, x_opens_s (h9 := h1) .., r_opens_s (h := h2) .., hR⟩
  · subst h2
    obtain ⟨b9, g1, g2⟩ := r_opens S ((gr, vl, sg, nI n, pr, ha, la, wa), p, sw, (le, nI l, pc, tk1, tp, nu, it, ns, gt, vt, st), (br, wm, yi, lf, sh, hu, ve, -9), (va_up rw1 i (z_cpm (rw1 i) (br, wm, yi, lf, sh, hu, ve, nI c)), nI ((i + 1) % 10), nI (min 10 (u + 1))), im, nI κ, (wh, ti, yd, nI s), wl, fe, tr) th tr (nI l) nx tk pl va fa to 0 (nI s) hd wr a0 a1 a2 a3 a4 a5 a6 a7 a8 a9 a10 a11 a12 a13 c u (by omega) hU.1 h3
    exact ⟨_, _, _, x_opens (i := i) (j := u) (hi := hU.2.1) (hj := hU.1) (h9 := h0) .., g2, ⟨n, (i + 1) % 10, min 10 (u + 1), s, l, κ, rfl, rfl, rfl, rfl, rfl, rfl, rfl, rfl, rfl, rfl, hS1, MR_17 hM1, UR_push hU hM1 g1, hK, hH, hT⟩⟩
theorem pp_lines (S : ai_S) (V : sv_V) (D : sv_D) (h : RR V D) (w : Int32) : pr_P S 36 113 [.int w] V D := by
  obtain ⟨⟨gr, vl, sg, cs, pr, ha, la, wa⟩, p, sw, ⟨le, ln, pc, tk1, tp, nu, it, ns, gt, vt, st⟩, ⟨br, wm, yi, lf, sh, hu, ve, so⟩, ⟨rw1, nx1, kn⟩, im, kp, ⟨wh, ti, yd, sz⟩, wl, fe, as⟩ := V
  obtain ⟨⟨th, tr, ty, nx, tk, pl, va, fa, to, um, te, hd, wr⟩, a0, a1, a2, a3, a4, a5, a6, a7, a8, a9, a10, a11, a12, a13⟩ := D
  obtain ⟨n, i, u, s, l, κ, e1, e2, e3, e4, e5, e6, e7, e8, e9, e10, hS, hM, hU, hK, hH, hT⟩ := h
  subst e1 e2 e3 e4 e5 e6 e7 e8 e9 e10
  have hR : RR ((gr, vl, sg, nI n, pr, ha, la, wa), p, sw, (le, nI l, pc, tk1, tp, nu, it, ns, gt, vt, st), (br, wm, yi, lf, sh, hu, ve, so), (rw1, nI i, nI u), im, nI κ, (wh, ti, yd, nI s), wl, fe, tr) ((th, tr, nI l, nx, tk, pl, va, fa, to, nI u, nI s, hd, wr), a0, a1, a2, a3, a4, a5, a6, a7, a8, a9, a10, a11, a12, a13) := ⟨n, i, u, s, l, κ, rfl, rfl, rfl, rfl, rfl, rfl, rfl, rfl, rfl, rfl, hS, hM, hU, hK, hH, hT⟩
  have hS1 := hS
  obtain ⟨hn, s0, s1, s2, s3, hs⟩ := hS
  have hM1 := hM
  obtain ⟨m1, m2, m3, m4, m5, m6, m7, m8, m9, m10⟩ := hM
  have m2 : a6 12 = yi := m2
  have m3 : a6 13 = lf := m3
  have m4 : a6 14 = sh := m4
  have m5 : a6 15 = hu := m5
  have m6 : a6 16 = ve := m6
  have m1 : ∀ k, k < 6 → a6 k = br k ∧ a6 (6 + k) = wm k := m1
  have m7 := so_cases hn m7
  by_cases hb : 0 ≤ w ∧ w ≤ 9
  · by_cases hv : ve = w
    · exact ⟨_, _, _, x_lines_s (n := w) (h0 := nlt0.mpr hb.1) (h1 := (lt_10 w).mpr hb.2) (h2 := hv) .., r_lines_s (w := w) (h := hb) (h1 := m6.trans hv) .., hR⟩
    · obtain ⟨b9, g1, g2⟩ := r_lines S ((gr, vl, sg, nI n, pr, ha, la, wa), p, sw, (le, nI l, pc, tk1, tp, nu, it, ns, gt, vt, st), (br, wm, yi, lf, sh, hu, w, so), (va_up rw1 i (z_cpm (rw1 i) (br, wm, yi, lf, sh, hu, ve, so)), nI ((i + 1) % 10), nI (min 10 (u + 1))), im, nI κ, (wh, ti, yd, nI s), wl, fe, tr) th tr (nI l) nx tk pl va fa to 0 (nI s) hd wr a0 a1 a2 a3 a4 a5 a6 a7 a8 a9 a10 a11 a12 a13 w u hU.1 hb (fun z => hv (m6.symm.trans z))
      rw [m6] at g2
      exact ⟨_, _, _, x_lines (i := i) (j := u) (hi := hU.2.1) (hj := hU.1) (n := w) (h0 := nlt0.mpr hb.1) (h1 := (lt_10 w).mpr hb.2) (h2 := hv) .., g2, ⟨n, (i + 1) % 10, min 10 (u + 1), s, l, κ, rfl, rfl, rfl, rfl, rfl, rfl, rfl, rfl, rfl, rfl, hS1, MR_16 w hM1, UR_push hU hM1 g1, hK, hH, hT⟩⟩
  · refine ⟨_, _, _, x_lines_b (n := w) (hb := ?_) .., r_lines_b (w := w) (h := hb) .., hR⟩
    by_cases h0 : w < 0
    · exact Or.inl h0
    · exact Or.inr (Int32.not_lt.mp (fun z => hb ⟨nlt0.mp h0, (lt_10 w).mp z⟩))
theorem pp_winds (S : ai_S) (V : sv_V) (D : sv_D) (h : RR V D) : pr_P S 37 114 [] V D := by
  obtain ⟨⟨gr, vl, sg, cs, pr, ha, la, wa⟩, p, sw, ⟨le, ln, pc, tk1, tp, nu, it, ns, gt, vt, st⟩, ⟨br, wm, yi, lf, sh, hu, ve, so⟩, ⟨rw1, nx1, kn⟩, im, kp, ⟨wh, ti, yd, sz⟩, wl, fe, as⟩ := V
  obtain ⟨⟨th, tr, ty, nx, tk, pl, va, fa, to, um, te, hd, wr⟩, a0, a1, a2, a3, a4, a5, a6, a7, a8, a9, a10, a11, a12, a13⟩ := D
  obtain ⟨n, i, u, s, l, κ, e1, e2, e3, e4, e5, e6, e7, e8, e9, e10, hS, hM, hU, hK, hH, hT⟩ := h
  subst e1 e2 e3 e4 e5 e6 e7 e8 e9 e10
  have hR : RR ((gr, vl, sg, nI n, pr, ha, la, wa), p, sw, (le, nI l, pc, tk1, tp, nu, it, ns, gt, vt, st), (br, wm, yi, lf, sh, hu, ve, so), (rw1, nI i, nI u), im, nI κ, (wh, ti, yd, nI s), wl, fe, tr) ((th, tr, nI l, nx, tk, pl, va, fa, to, nI u, nI s, hd, wr), a0, a1, a2, a3, a4, a5, a6, a7, a8, a9, a10, a11, a12, a13) := ⟨n, i, u, s, l, κ, rfl, rfl, rfl, rfl, rfl, rfl, rfl, rfl, rfl, rfl, hS, hM, hU, hK, hH, hT⟩
  have hS1 := hS
  obtain ⟨hn, s0, s1, s2, s3, hs⟩ := hS
  have hM1 := hM
  obtain ⟨m1, m2, m3, m4, m5, m6, m7, m8, m9, m10⟩ := hM
  have m2 : a6 12 = yi := m2
  have m3 : a6 13 = lf := m3
  have m4 : a6 14 = sh := m4
  have m5 : a6 15 = hu := m5
  have m6 : a6 16 = ve := m6
  have m1 : ∀ k, k < 6 → a6 k = br k ∧ a6 (6 + k) = wm k := m1
  have m7 := so_cases hn m7
  by_cases h0 : sh = 0
  · exact ⟨_, _, _, x_winds_s (h0 := h0) .., r_winds_s (h := m4.trans h0) .., hR⟩
  · obtain ⟨b9, g1, g2⟩ := r_winds S ((gr, vl, sg, nI n, pr, ha, la, wa), p, sw, (le, nI l, pc, tk1, tp, nu, it, ns, gt, vt, st), (br, wm, yi, lf, 0, hu, ve, so), (va_up rw1 i (z_cpm (rw1 i) (br, wm, yi, lf, sh, hu, ve, so)), nI ((i + 1) % 10), nI (min 10 (u + 1))), im, nI κ, (wh, ti, yd, nI s), wl, fe, tr) th tr (nI l) nx tk pl va fa to 0 (nI s) hd wr a0 a1 a2 a3 a4 a5 a6 a7 a8 a9 a10 a11 a12 a13 u hU.1 (fun z => h0 (m4.symm.trans z))
    rw [m4] at g2
    exact ⟨_, _, _, x_winds (i := i) (j := u) (hi := hU.2.1) (hj := hU.1) (h0 := h0) .., g2, ⟨n, (i + 1) % 10, min 10 (u + 1), s, l, κ, rfl, rfl, rfl, rfl, rfl, rfl, rfl, rfl, rfl, rfl, hS1, MR_14 0 hM1, UR_push hU hM1 g1, hK, hH, hT⟩⟩
theorem pp_consoles (S : ai_S) (V : sv_V) (D : sv_D) (h : RR V D) (c : Int32) : pr_P S 38 115 [.int c] V D := by
  obtain ⟨⟨gr, vl, sg, cs, pr, ha, la, wa⟩, p, sw, ⟨le, ln, pc, tk1, tp, nu, it, ns, gt, vt, st⟩, ⟨br, wm, yi, lf, sh, hu, ve, so⟩, ⟨rw1, nx1, kn⟩, im, kp, ⟨wh, ti, yd, sz⟩, wl, fe, as⟩ := V
  obtain ⟨⟨th, tr, ty, nx, tk, pl, va, fa, to, um, te, hd, wr⟩, a0, a1, a2, a3, a4, a5, a6, a7, a8, a9, a10, a11, a12, a13⟩ := D
  obtain ⟨n, i, u, s, l, κ, e1, e2, e3, e4, e5, e6, e7, e8, e9, e10, hS, hM, hU, hK, hH, hT⟩ := h
  subst e1 e2 e3 e4 e5 e6 e7 e8 e9 e10
  have hR : RR ((gr, vl, sg, nI n, pr, ha, la, wa), p, sw, (le, nI l, pc, tk1, tp, nu, it, ns, gt, vt, st), (br, wm, yi, lf, sh, hu, ve, so), (rw1, nI i, nI u), im, nI κ, (wh, ti, yd, nI s), wl, fe, tr) ((th, tr, nI l, nx, tk, pl, va, fa, to, nI u, nI s, hd, wr), a0, a1, a2, a3, a4, a5, a6, a7, a8, a9, a10, a11, a12, a13) := ⟨n, i, u, s, l, κ, rfl, rfl, rfl, rfl, rfl, rfl, rfl, rfl, rfl, rfl, hS, hM, hU, hK, hH, hT⟩
  have hS1 := hS
  obtain ⟨hn, s0, s1, s2, s3, hs⟩ := hS
  have hM1 := hM
  obtain ⟨m1, m2, m3, m4, m5, m6, m7, m8, m9, m10⟩ := hM
  have m2 : a6 12 = yi := m2
  have m3 : a6 13 = lf := m3
  have m4 : a6 14 = sh := m4
  have m5 : a6 15 = hu := m5
  have m6 : a6 16 = ve := m6
  have m1 : ∀ k, k < 6 → a6 k = br k ∧ a6 (6 + k) = wm k := m1
  have m7 := so_cases hn m7
  by_cases hb : 0 ≤ c ∧ c < nI n
  · obtain ⟨k, hk, e⟩ := cs_in hn hb
    subst e
    have q1 := (m1 k (by omega)).1
    have hb2 : 0 ≤ nI k ∧ nI k < a1 0 := by rw [s0]; exact hb
    by_cases h0 : br k = 0 ∨ z_bit lf k
    · exact ⟨_, _, _, x_consoles_s (k := k) (hk := by omega) (hc := hb) (hs := h0) .., r_consoles_s (hN := zn_of hn s0) (k := k) (hk := by omega) (h := hb2) (hs := by rw [q1, m3]; exact h0) .., hR⟩
    · obtain ⟨b9, g1, g2⟩ := r_consoles S ((gr, vl, sg, nI n, pr, ha, la, wa), p, sw, (le, nI l, pc, tk1, tp, nu, it, ns, gt, vt, st), (upd br k 0, wm, yi, lf, sh, hu, ve, so), (va_up rw1 i (z_cpm (rw1 i) (br, wm, yi, lf, sh, hu, ve, so)), nI ((i + 1) % 10), nI (min 10 (u + 1))), im, nI κ, (wh, ti, yd, nI s), wl, fe, tr) th tr (nI l) nx tk pl va fa to 0 (nI s) hd wr a0 a1 a2 a3 a4 a5 a6 a7 a8 a9 a10 a11 a12 a13 (zn_of hn s0) k u (by omega) hU.1 hb2 (fun z => h0 (Or.inl (q1.symm.trans z))) (fun z => h0 (Or.inr (by rw [← m3]; exact z)))
      rw [q1] at g2
      exact ⟨_, _, _, x_consoles (k := k) (i := i) (j := u) (hk := by omega) (hi := hU.2.1) (hj := hU.1) (hc := hb) (h0 := fun z => h0 (Or.inl z)) (hl := fun z => h0 (Or.inr z)) .., g2, ⟨n, (i + 1) % 10, min 10 (u + 1), s, l, κ, rfl, rfl, rfl, rfl, rfl, rfl, rfl, rfl, rfl, rfl, hS1, MR_br k (by omega) 0 hM1, UR_push hU hM1 g1, hK, hH, hT⟩⟩
  · exact ⟨_, _, _, x_consoles_b (c := c) (hb := hb) .., r_consoles_b (hN := zn_of hn s0) (c := c) (h := fun z => hb (by rw [← s0]; exact z)) .., hR⟩
theorem pp_undo (S : ai_S) (V : sv_V) (D : sv_D) (h : RR V D) : pr_P S 39 116 [] V D := by
  obtain ⟨⟨gr, vl, sg, cs, pr, ha, la, wa⟩, p, sw, ⟨le, ln, pc, tk1, tp, nu, it, ns, gt, vt, st⟩, ⟨br, wm, yi, lf, sh, hu, ve, so⟩, ⟨rw1, nx1, kn⟩, im, kp, ⟨wh, ti, yd, sz⟩, wl, fe, as⟩ := V
  obtain ⟨⟨th, tr, ty, nx, tk, pl, va, fa, to, um, te, hd, wr⟩, a0, a1, a2, a3, a4, a5, a6, a7, a8, a9, a10, a11, a12, a13⟩ := D
  obtain ⟨n, i, u, s, l, κ, e1, e2, e3, e4, e5, e6, e7, e8, e9, e10, hS, hM, hU, hK, hH, hT⟩ := h
  subst e1 e2 e3 e4 e5 e6 e7 e8 e9 e10
  have hR : RR ((gr, vl, sg, nI n, pr, ha, la, wa), p, sw, (le, nI l, pc, tk1, tp, nu, it, ns, gt, vt, st), (br, wm, yi, lf, sh, hu, ve, so), (rw1, nI i, nI u), im, nI κ, (wh, ti, yd, nI s), wl, fe, tr) ((th, tr, nI l, nx, tk, pl, va, fa, to, nI u, nI s, hd, wr), a0, a1, a2, a3, a4, a5, a6, a7, a8, a9, a10, a11, a12, a13) := ⟨n, i, u, s, l, κ, rfl, rfl, rfl, rfl, rfl, rfl, rfl, rfl, rfl, rfl, hS, hM, hU, hK, hH, hT⟩
  have hcase : u = 0 ∨ ∃ v, u = v + 1 := by
    cases u with
    | zero => exact Or.inl rfl
    | succ v => exact Or.inr ⟨v, rfl⟩
  rcases hcase with e | ⟨v, e⟩
  · subst e
    exact ⟨_, _, _, x_undo_s (h0 := nI_0) .., r_undo_s (h := nI_0) .., hR⟩
  · subst e
    obtain ⟨b6, g1, g2⟩ := r_undo S ((gr, vl, sg, nI n, pr, ha, la, wa), p, sw, (le, nI l, pc, tk1, tp, nu, it, ns, gt, vt, st), (z_cpm (br, wm, yi, lf, sh, hu, ve, so) (rw1 ((i + 9) % 10))), (rw1, nI ((i + 9) % 10), nI v), im, nI κ, (wh, ti, yd, nI s), wl, fe, tr) th tr (nI l) nx tk pl va fa to 0 (nI s) hd wr a0 a1 a2 a3 a4 a5 a6 a7 a8 a9 a10 a11 a12 a13 v (by have := hU.1; omega)
    obtain ⟨g3, g4⟩ := UR_pop hU
    exact ⟨_, _, _, x_undo (i := i) (j := v) (hi := hU.2.1) (hj := by have := hU.1; omega) .., g2, ⟨n, (i + 9) % 10, v, s, l, κ, rfl, rfl, rfl, rfl, rfl, rfl, rfl, rfl, rfl, rfl, hS, MR_cp _ (MR_congr g4 g1), g3, hK, hH, hT⟩⟩
