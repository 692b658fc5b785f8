/-! pairs: what is within, kinds, images -/
theorem soft_eq {pr ha a2 a3 yd a12 : Nat → Int32} {n s : Nat} {gr : Int32} (wc tm : Nat → Nat) (h : ∀ k, k < n → a2 k = pr k ∧ a3 k = ha k) (hc : ∀ j, j < s → wc j < n ∧ a12 j = yd j ∧ (yd j = 0 ∨ yd j = 1)) :
    z_so (fun j => z_Y pr ha gr (wc j) (tm j)) yd s = nI (bs (fun v => z_al (fun j v => z_tp a2 a3 (wc j) (tm j) gr (nI v)) a12 v s) 10) := by
  rw [show (fun j => z_Y pr ha gr (wc j) (tm j)) = (fun j => z_yv ((fun j v => z_tp pr ha (wc j) (tm j) gr (nI v)) j) 10) from rfl, z_so_bs _ yd s (fun j hj => (hc j hj).2.2)]
  congr 2
  funext v
  refine cg_al v s (fun j hj => ⟨?_, (hc j hj).2.1.symm⟩)
  exact (cg_tp (h _ (hc j hj).1).1 (h _ (hc j hj).1).2 (tm j) gr (nI v)).symm
theorem and1 (x : Int32) : decide (¬ x &&& 1 = 0) = decide (x &&& 1 = 1) := by
  by_cases h : x &&& 1 = 1
  · rw [h]
    decide
  · have h2 := z_and1 x
    rw [z_b_f h] at h2
    rw [h2]
    decide
theorem pp_soft (S : ai_S) (V : sv_V) (D : sv_D) (h : RR V D) : pr_P S 65 131 [] V D := by
  obtain ⟨⟨gr, vl, sg, cs, pr, ha, la, wa⟩, p, sw, ⟨le, ln, pc, tk1, tp, nu, it, ns, gt, vt, st⟩, ⟨br, wm, yi, lf, sh, hu, ve, so⟩, ⟨rw1, nx1, kn⟩, im, kp, ⟨wh, ti, yd, sz⟩, wl, fe, as⟩ := V
  obtain ⟨⟨th, tr, ty, nx, tk, pl, va, fa, to, um, te, hd, wr⟩, a0, a1, a2, a3, a4, a5, a6, a7, a8, a9, a10, a11, a12, a13⟩ := D
  obtain ⟨n, i, u, s, l, κ, e1, e2, e3, e4, e5, e6, e7, e8, e9, e10, hS, hM, hU, hK, hH, hT⟩ := h
  subst e1 e2 e3 e4 e5 e6 e7 e8 e9 e10
  have hR : RR ((gr, vl, sg, nI n, pr, ha, la, wa), p, sw, (le, nI l, pc, tk1, tp, nu, it, ns, gt, vt, st), (br, wm, yi, lf, sh, hu, ve, so), (rw1, nI i, nI u), im, nI κ, (wh, ti, yd, nI s), wl, fe, tr) ((th, tr, nI l, nx, tk, pl, va, fa, to, nI u, nI s, hd, wr), a0, a1, a2, a3, a4, a5, a6, a7, a8, a9, a10, a11, a12, a13) := ⟨n, i, u, s, l, κ, rfl, rfl, rfl, rfl, rfl, rfl, rfl, rfl, rfl, rfl, hS, hM, hU, hK, hH, hT⟩
  obtain ⟨hn, s0, s1, s2, s3, hs⟩ := hS
  obtain ⟨hs6, hs7⟩ := hH
  have hw : ∀ j, j < s → wh j = nI (wh j).toNatClampNeg ∧ (wh j).toNatClampNeg < n ∧ ti j = nI (ti j).toNatClampNeg ∧ (ti j).toNatClampNeg < 10 := by
    intro j hj
    obtain ⟨-, -, -, ⟨c1, hc1, hc2⟩, ⟨t2, ht1, ht2⟩, -⟩ := hs7 j hj
    rw [hc2, ht2, nI_clamp (by omega), nI_clamp (by omega)]
    exact ⟨rfl, hc1, rfl, ht1⟩
  have hw1 : ∀ j, j < s → wh j = nI (wh j).toNatClampNeg ∧ (wh j).toNatClampNeg < 6 ∧ ti j = nI (ti j).toNatClampNeg ∧ (ti j).toNatClampNeg < 10 := fun j hj => ⟨(hw j hj).1, by have := (hw j hj).2.1; omega, (hw j hj).2.2⟩
  have hw2 : ∀ j, j < s → a10 j = nI (wh j).toNatClampNeg ∧ (wh j).toNatClampNeg < 6 ∧ a11 j = nI (ti j).toNatClampNeg ∧ (ti j).toNatClampNeg < 10 := by
    intro j hj
    rw [(hs7 j hj).1, (hs7 j hj).2.1]
    exact hw1 j hj
  have hso := soft_eq (pr := pr) (ha := ha) (a2 := a2) (a3 := a3) (yd := yd) (a12 := a12) (n := n) (s := s) (gr := gr) (fun j => (wh j).toNatClampNeg) (fun j => (ti j).toNatClampNeg) (fun k hk => ⟨(hs k hk).1, (hs k hk).2.1⟩) (fun j hj => ⟨(hw j hj).2.1, (hs7 j hj).2.2.1, (hs7 j hj).2.2.2.2.2⟩)
  obtain ⟨hd2, wr2, hr⟩ := r_soft S ((gr, vl, sg, nI n, pr, ha, la, wa), p, sw, (le, nI l, pc, tk1, tp, nu, it, ns, gt, vt, st), (br, wm, yi, lf, sh, hu, ve, so), (rw1, nI i, nI u), im, nI κ, (wh, ti, yd, nI s), wl, fe, tr) th tr (nI l) nx tk pl va fa to (nI u) 0 hd wr a0 a1 a2 a3 a4 a5 a6 a7 a8 a9 a10 a11 a12 a13 s hs6 (fun j => (wh j).toNatClampNeg) (fun j => (ti j).toNatClampNeg) gr s1 hw2
  refine ⟨_, _, _, (x_soft (s := s) (hs := hs6) (wc := fun j => (wh j).toNatClampNeg) (tk := fun j => (ti j).toNatClampNeg) (hw := hw1) ..).trans ?_, hr, hR⟩
  rw [hso]
set_option maxHeartbeats 2000000 in
theorem pp_ask (S : ai_S) (V : sv_V) (D : sv_D) (h : RR V D) (w : Int32) : pr_P S 66 132 [.int w] V D := by
  obtain ⟨⟨gr, vl, sg, cs, pr, ha, la, wa⟩, p, sw, ⟨le, ln, pc, tk1, tp, nu, it, ns, gt, vt, st⟩, ⟨br, wm, yi, lf, sh, hu, ve, so⟩, ⟨rw1, nx1, kn⟩, im, kp, ⟨wh, ti, yd, sz⟩, wl, fe, as⟩ := V
  obtain ⟨⟨th, tr, ty, nx, tk, pl, va, fa, to, um, te, hd, wr⟩, a0, a1, a2, a3, a4, a5, a6, a7, a8, a9, a10, a11, a12, a13⟩ := D
  obtain ⟨n, i, u, s, l, κ, e1, e2, e3, e4, e5, e6, e7, e8, e9, e10, hS, hM, hU, hK, hH, hT⟩ := h
  subst e1 e2 e3 e4 e5 e6 e7 e8 e9 e10
  have hR : RR ((gr, vl, sg, nI n, pr, ha, la, wa), p, sw, (le, nI l, pc, tk1, tp, nu, it, ns, gt, vt, st), (br, wm, yi, lf, sh, hu, ve, so), (rw1, nI i, nI u), im, nI κ, (wh, ti, yd, nI s), wl, fe, tr) ((th, tr, nI l, nx, tk, pl, va, fa, to, nI u, nI s, hd, wr), a0, a1, a2, a3, a4, a5, a6, a7, a8, a9, a10, a11, a12, a13) := ⟨n, i, u, s, l, κ, rfl, rfl, rfl, rfl, rfl, rfl, rfl, rfl, rfl, rfl, hS, hM, hU, hK, hH, hT⟩
  obtain ⟨hn, s0, s1, s2, s3, hs⟩ := hS
  obtain ⟨hs6, hs7⟩ := hH
  have hw : ∀ j, j < s → wh j = nI (wh j).toNatClampNeg ∧ (wh j).toNatClampNeg < n ∧ ti j = nI (ti j).toNatClampNeg ∧ (ti j).toNatClampNeg < 10 := by
    intro j hj
    obtain ⟨-, -, -, ⟨c1, hc1, hc2⟩, ⟨t2, ht1, ht2⟩, -⟩ := hs7 j hj
    rw [hc2, ht2, nI_clamp (by omega), nI_clamp (by omega)]
    exact ⟨rfl, hc1, rfl, ht1⟩
  have hw1 : ∀ j, j < s → wh j = nI (wh j).toNatClampNeg ∧ (wh j).toNatClampNeg < 6 ∧ ti j = nI (ti j).toNatClampNeg ∧ (ti j).toNatClampNeg < 10 := fun j hj => ⟨(hw j hj).1, by have := (hw j hj).2.1; omega, (hw j hj).2.2⟩
  have hw2 : ∀ j, j < s → a10 j = nI (wh j).toNatClampNeg ∧ (wh j).toNatClampNeg < 6 ∧ a11 j = nI (ti j).toNatClampNeg ∧ (ti j).toNatClampNeg < 10 := by
    intro j hj
    rw [(hs7 j hj).1, (hs7 j hj).2.1]
    exact hw1 j hj
  have hso := soft_eq (pr := pr) (ha := ha) (a2 := a2) (a3 := a3) (yd := yd) (a12 := a12) (n := n) (s := s) (gr := gr) (fun j => (wh j).toNatClampNeg) (fun j => (ti j).toNatClampNeg) (fun k hk => ⟨(hs k hk).1, (hs k hk).2.1⟩) (fun j hj => ⟨(hw j hj).2.1, (hs7 j hj).2.2.1, (hs7 j hj).2.2.2.2.2⟩)
  by_cases hb : 1 ≤ w ∧ w ≤ 9
  · have h0 : ¬ w < 0 := fun z => absurd (Int32.lt_of_lt_of_le z (Int32.le_trans (by decide) hb.1)) Int32.lt_irrefl
    obtain ⟨K, hK9, e⟩ := nI_of2 (M := 9) (n := 9) (by decide) h0 hb.2
    subst e
    obtain ⟨pq, hpq⟩ : ∃ pq : Nat → Bool, (fun v => z_al (fun j v => z_tp a2 a3 (wh j).toNatClampNeg (ti j).toNatClampNeg gr (nI v)) a12 v s) = pq := ⟨_, rfl⟩
    rw [hpq] at hso
    obtain ⟨hd2, wr2, hr⟩ := r_ask S ((gr, vl, sg, nI n, pr, ha, la, wa), p, sw, (le, nI l, pc, tk1, tp, nu, it, ns, gt, vt, st), (br, wm, yi, lf, sh, hu, ve, so), (rw1, nI i, nI u), im, nI κ, (wh, ti, yd, nI s), wl, fe, tr) th tr (nI l) nx tk pl va fa to (nI u) 0 hd wr a0 a1 a2 a3 a4 a5 a6 a7 a8 a9 a10 a11 a12 a13 n s K hn s0 hs6 (by omega) hb (fun j => (wh j).toNatClampNeg) (fun j => (ti j).toNatClampNeg) gr s1 hw2 pq hpq
    have hbl := bs_lt pq 10
    have hpop : z_pop (nI (bs pq 10)) = nI (cnt pq 10) := by rw [z_pop_ct _ (by omega), bs_ct]
    have hcl := cnt_le pq 10
    by_cases hal : 1 < cnt pq 10
    · rw [if_pos hal] at hr
      cases n with
      | zero =>
        refine ⟨_, _, _, (x_ask (n := 0) (s := s) (K := K) (hn := hn) (hs := hs6) (hK := by omega) (wc := fun j => (wh j).toNatClampNeg) (tk := fun j => (ti j).toNatClampNeg) (hw := hw1) (h0 := (lt_1 _).mpr hb.1) (h1 := hb.2) (so := nI (bs pq 10)) (al := nI (cnt pq 10)) (hso := hso) (hal := hpop) (h2 := nI_lt (a := 1) hal (by omega)) ..).trans ?_, hr, hR⟩
        rfl
      | succ n =>
        refine ⟨_, _, _, (x_ask (n := n + 1) (s := s) (K := K) (hn := hn) (hs := hs6) (hK := by omega) (wc := fun j => (wh j).toNatClampNeg) (tk := fun j => (ti j).toNatClampNeg) (hw := hw1) (h0 := (lt_1 _).mpr hb.1) (h1 := hb.2) (so := nI (bs pq 10)) (al := nI (cnt pq 10)) (hso := hso) (hal := hpop) (h2 := nI_lt (a := 1) hal (by omega)) ..).trans ?_, hr, hR⟩
        have hqq : ∀ c, c < n + 1 → z_pop (nI (bs pq 10) &&& z_Y pr ha gr c K) = nI (cnt (fun v => pq v && decide (z_tp a2 a3 c K gr (nI v) &&& 1 = 1)) 10) := by
          intro c hc
          have hYc : z_Y pr ha gr c K = nI (bs (fun v => decide (z_tp a2 a3 c K gr (nI v) &&& 1 = 1)) 10) := by
            rw [show z_Y pr ha gr c K = z_yv (fun v => z_tp pr ha c K gr (nI v)) 10 from rfl, z_yv_bs _ 10 (by omega)]
            congr 2
            funext v
            rw [and1, cg_tp (hs c hc).1 (hs c hc).2.1 K gr (nI v)]
          rw [hYc, z_and, bs_and]
          have hb3 := bs_lt (fun v => pq v && decide (z_tp a2 a3 c K gr (nI v) &&& 1 = 1)) 10
          rw [z_pop_ct _ (by omega), bs_ct]
        have hask := cg_ask (q := fun c => z_pop (nI (bs pq 10) &&& z_Y pr ha gr c K)) (Q := fun c => cnt (fun v => pq v && decide (z_tp a2 a3 c K gr (nI v) &&& 1 = 1)) 10) (A := cnt pq 10) hcl (fun c => cnt_mono (fun v hv => (Bool.and_eq_true_iff.mp hv).1) 10) n hqq
        rw [hask]
    · rw [if_neg hal] at hr
      refine ⟨_, _, _, x_ask_n (s := s) (K := K) (hs := hs6) (wc := fun j => (wh j).toNatClampNeg) (tk := fun j => (ti j).toNatClampNeg) (hw := hw1) (h0 := (lt_1 _).mpr hb.1) (h1 := hb.2) (h2 := ?_) .., hr, hR⟩
      rw [hso, hpop]
      exact nI_nlt (a := 1) (by omega) (by omega)
  · refine ⟨_, _, _, x_ask_b (k := w) (hb := ?_) .., r_ask_b (k := w) (h := hb) .., hR⟩
    by_cases h0 : w < 1
    · exact Or.inl h0
    · exact Or.inr (fun z => hb ⟨(lt_1 w).mp h0, z⟩)
theorem pp_tells (S : ai_S) (V : sv_V) (D : sv_D) (h : RR V D) (c w y : Int32) : pr_P S 63 128 [.int c, .int w, .int y] V D := by
  obtain ⟨⟨gr, vl, sg, cs, pr, ha, la, wa⟩, p, sw, ⟨le, ln, pc, tk1, tp, nu, it, ns, gt, vt, st⟩, ⟨br, wm, yi, lf, sh, hu, ve, so⟩, ⟨rw1, nx1, kn⟩, im, kp, ⟨wh, ti, yd, sz⟩, wl, fe, as⟩ := V
  obtain ⟨⟨th, tr, ty, nx, tk, pl, va, fa, to, um, te, hd, wr⟩, a0, a1, a2, a3, a4, a5, a6, a7, a8, a9, a10, a11, a12, a13⟩ := D
  obtain ⟨n, i, u, s, l, κ, e1, e2, e3, e4, e5, e6, e7, e8, e9, e10, hS, hM, hU, hK, hH, hT⟩ := h
  subst e1 e2 e3 e4 e5 e6 e7 e8 e9 e10
  have hR : RR ((gr, vl, sg, nI n, pr, ha, la, wa), p, sw, (le, nI l, pc, tk1, tp, nu, it, ns, gt, vt, st), (br, wm, yi, lf, sh, hu, ve, so), (rw1, nI i, nI u), im, nI κ, (wh, ti, yd, nI s), wl, fe, tr) ((th, tr, nI l, nx, tk, pl, va, fa, to, nI u, nI s, hd, wr), a0, a1, a2, a3, a4, a5, a6, a7, a8, a9, a10, a11, a12, a13) := ⟨n, i, u, s, l, κ, rfl, rfl, rfl, rfl, rfl, rfl, rfl, rfl, rfl, rfl, hS, hM, hU, hK, hH, hT⟩
  have hS1 := hS
  obtain ⟨hn, s0, s1, s2, s3, hs⟩ := hS
  obtain ⟨hs6, hs7⟩ := hH
  by_cases hb : (0 ≤ c ∧ c < nI n) ∧ (1 ≤ w ∧ w ≤ 9) ∧ (0 ≤ y ∧ y ≤ 1)
  · have hy := (t01 y).mp hb.2.2
    have hb2 : 0 ≤ c ∧ c < a1 0 := by rw [s0]; exact hb.1
    by_cases h6 : s < 6
    · refine ⟨_, _, _, x_tells (c := c) (k := w) (y := y) (n := s) (hn := h6) (hc := hb.1) (h1 := (lt_1 w).mpr hb.2.1.1) (h2 := Int32.not_lt.mpr hb.2.1.2) (h3 := hy) .., r_tells (te := 0) (hN := zn_of hn s0) (c := c) (k := w) (y := y) (h1 := hb2) (h2 := hb.2.1) (h3 := hb.2.2) (s := s) (hs := h6) .., ?_⟩
      refine ⟨n, i, u, s + 1, l, κ, rfl, rfl, rfl, rfl, rfl, rfl, rfl, rfl, rfl, rfl, hS1, hM, hU, hK, ⟨by omega, fun j hj => ?_⟩, hT⟩
      by_cases e : j = s
      · subst e
        rw [pk_us, pk_us, pk_us, pk_us, pk_us, pk_us]
        have h0 : ¬ w < 0 := fun z => absurd (Int32.lt_of_lt_of_le z (Int32.le_trans (by decide) hb.2.1.1)) Int32.lt_irrefl
        obtain ⟨K, hK9, e⟩ := nI_of2 (M := 9) (n := 9) (by decide) h0 hb.2.1.2
        obtain ⟨c1, hc1, hc2⟩ := cs_in hn hb.1
        exact ⟨rfl, rfl, rfl, ⟨c1, hc1, hc2⟩, ⟨K, by omega, e⟩, hy⟩
      · rw [pk_un e, pk_un e, pk_un e, pk_un e, pk_un e, pk_un e]
        exact hs7 j (by omega)
    · have e : s = 6 := by omega
      subst e
      exact ⟨_, _, _, x_tells_f (c := c) (k := w) (y := y) (hc := hb.1) (h1 := (lt_1 w).mpr hb.2.1.1) (h2 := Int32.not_lt.mpr hb.2.1.2) (h3 := hy) (hl := by decide) .., r_tells_f (hN := zn_of hn s0) (c := c) (k := w) (y := y) (h1 := hb2) (h2 := hb.2.1) (h3 := hb.2.2) (h4 := rfl) .., hR⟩
  · exact ⟨_, _, _, x_tells_b (c := c) (k := w) (y := y) (hb := fun z => hb ⟨z.1, ⟨(lt_1 w).mp z.2.1.1, Int32.not_lt.mp z.2.1.2⟩, (t01 y).mpr z.2.2⟩) .., r_tells_b (hN := zn_of hn s0) (c := c) (k := w) (y := y) (hb := fun z => hb ⟨by rw [← s0]; exact z.1, z.2⟩) .., hR⟩
theorem t64 (x : Int64) : x + (10 : Int32).toInt64 + (1 : Int32).toInt64 = x + (11 : Int32).toInt64 ∧ x + (100 : Int32).toInt64 + (1 : Int32).toInt64 = x + (101 : Int32).toInt64 ∧ x + (1000 : Int32).toInt64 + (10 : Int32).toInt64 + (1 : Int32).toInt64 = x + (1011 : Int32).toInt64 ∧ x + (10000 : Int32).toInt64 + (100 : Int32).toInt64 + (1 : Int32).toInt64 = x + (10101 : Int32).toInt64 ∧ x + (100000 : Int32).toInt64 + (1 : Int32).toInt64 = x + (100001 : Int32).toInt64 := by
  refine ⟨?_, ?_, ?_, ?_, ?_⟩
  · rw [Int64.add_assoc]; rfl
  · rw [Int64.add_assoc]; rfl
  · rw [Int64.add_assoc, Int64.add_assoc]; rfl
  · rw [Int64.add_assoc, Int64.add_assoc]; rfl
  · rw [Int64.add_assoc]; rfl
theorem qn_1_0 : ¬ (1 : Int32) = 0 := by decide
theorem qn_2_0 : ¬ (2 : Int32) = 0 := by decide
theorem qn_2_1 : ¬ (2 : Int32) = 1 := by decide
theorem qn_3_0 : ¬ (3 : Int32) = 0 := by decide
theorem qn_3_1 : ¬ (3 : Int32) = 1 := by decide
theorem qn_3_2 : ¬ (3 : Int32) = 2 := by decide
theorem qn_4_0 : ¬ (4 : Int32) = 0 := by decide
theorem qn_4_1 : ¬ (4 : Int32) = 1 := by decide
theorem qn_4_2 : ¬ (4 : Int32) = 2 := by decide
theorem qn_4_3 : ¬ (4 : Int32) = 3 := by decide
theorem qn_5_0 : ¬ (5 : Int32) = 0 := by decide
theorem qn_5_1 : ¬ (5 : Int32) = 1 := by decide
theorem qn_5_2 : ¬ (5 : Int32) = 2 := by decide
theorem qn_5_3 : ¬ (5 : Int32) = 3 := by decide
theorem qn_5_4 : ¬ (5 : Int32) = 4 := by decide
theorem pp_rate (S : ai_S) (V : sv_V) (D : sv_D) (h : RR V D) (w c : Int32) : pr_P S 68 133 [.int w, .int c] V D := by
  obtain ⟨⟨gr, vl, sg, cs, pr, ha, la, wa⟩, p, sw, ⟨le, ln, pc, tk1, tp, nu, it, ns, gt, vt, st⟩, ⟨br, wm, yi, lf, sh, hu, ve, so⟩, ⟨rw1, nx1, kn⟩, im, kp, ⟨wh, ti, yd, sz⟩, wl, fe, as⟩ := V
  obtain ⟨⟨th, tr, ty, nx, tk, pl, va, fa, to, um, te, hd, wr⟩, a0, a1, a2, a3, a4, a5, a6, a7, a8, a9, a10, a11, a12, a13⟩ := D
  obtain ⟨n, i, u, s, l, κ, e1, e2, e3, e4, e5, e6, e7, e8, e9, e10, hS, hM, hU, hK, hH, hT⟩ := h
  subst e1 e2 e3 e4 e5 e6 e7 e8 e9 e10
  have hR : RR ((gr, vl, sg, nI n, pr, ha, la, wa), p, sw, (le, nI l, pc, tk1, tp, nu, it, ns, gt, vt, st), (br, wm, yi, lf, sh, hu, ve, so), (rw1, nI i, nI u), im, nI κ, (wh, ti, yd, nI s), wl, fe, tr) ((th, tr, nI l, nx, tk, pl, va, fa, to, nI u, nI s, hd, wr), a0, a1, a2, a3, a4, a5, a6, a7, a8, a9, a10, a11, a12, a13) := ⟨n, i, u, s, l, κ, rfl, rfl, rfl, rfl, rfl, rfl, rfl, rfl, rfl, rfl, hS, hM, hU, hK, hH, hT⟩
  have hS1 := hS
  obtain ⟨hn, s0, s1, s2, s3, hs⟩ := hS
  have hM1 := hM
  obtain ⟨m1, m2, m3, m4, m5, m6, m7, m8, m9, m10⟩ := hM
  have m2 : a6 12 = yi := m2
  have m3 : a6 13 = lf := m3
  have m4 : a6 14 = sh := m4
  have m5 : a6 15 = hu := m5
  have m6 : a6 16 = ve := m6
  have m1 : ∀ k, k < 6 → a6 k = br k ∧ a6 (6 + k) = wm k := m1
  have m7 := so_cases hn m7
  by_cases hb : 0 ≤ c ∧ c < nI n
  · obtain ⟨k, hk, e⟩ := cs_in hn hb
    subst e
    have hx := x_rate S gr vl sg (nI n) pr ha la wa p sw (le, nI l, pc, tk1, tp, nu, it, ns, gt, vt, st) br wm yi lf sh hu ve so (rw1, nI i, nI u) im (nI κ) (wh, ti, yd, nI s) wl fe tr ((th, tr, nI l, nx, tk, pl, va, fa, to, nI u, nI s, hd, wr), a0, a1, a2, a3, a4, a5, a6, a7, a8, a9, a10, a11, a12, a13) w k (by omega) hb
    by_cases h5 : 0 ≤ w ∧ w ≤ 5
    · obtain ⟨q1, q2, q3, q4, -⟩ := hs k hk
      obtain ⟨j1, j2, j3, j4, j5⟩ := t64 tr
      have n1 : a6 k = br k := (m1 k (by omega)).1
      have n2 : a6 (6 + k) = wm k := (m1 k (by omega)).2
      rw [j1, j2, j3, j4, j5] at hx
      rcases z_05 w h5 with e | e | e | e | e | e <;> subst e
      · have hr := r_rate S ((gr, vl, sg, nI n, pr, ha, la, wa), p, sw, (le, nI l, pc, tk1, tp, nu, it, ns, gt, vt, st), (br, wm, yi, lf, sh, hu, ve, so), (rw1, nI i, nI u), im, nI κ, (wh, ti, yd, nI s), wl, fe, tr + (1 : Int32).toInt64) th tr (nI l) nx tk pl va fa to (nI u) (nI s) hd wr a0 a1 a2 a3 a4 a5 a6 a7 a8 a9 a10 a11 a12 a13 n k hn s0 hk 0 h5
        rw [q3, n1, n2, m5] at hr
        rw [if_pos rfl] at hx
        rw [if_pos rfl] at hr
        exact ⟨_, _, _, hx, hr, ⟨n, i, u, s, l, κ, rfl, rfl, rfl, rfl, rfl, rfl, rfl, rfl, rfl, rfl, hS1, hM1, hU, hK, hH, hT⟩⟩
      · have hr := r_rate S ((gr, vl, sg, nI n, pr, ha, la, wa), p, sw, (le, nI l, pc, tk1, tp, nu, it, ns, gt, vt, st), (br, wm, yi, lf, sh, hu, ve, so), (rw1, nI i, nI u), im, nI κ, (wh, ti, yd, nI s), wl, fe, tr + (11 : Int32).toInt64) th tr (nI l) nx tk pl va fa to (nI u) (nI s) hd wr a0 a1 a2 a3 a4 a5 a6 a7 a8 a9 a10 a11 a12 a13 n k hn s0 hk 1 h5
        rw [q3, n1, n2, m5] at hr
        rw [if_neg qn_1_0, if_pos rfl] at hx
        rw [if_neg qn_1_0, if_pos rfl] at hr
        exact ⟨_, _, _, hx, hr, ⟨n, i, u, s, l, κ, rfl, rfl, rfl, rfl, rfl, rfl, rfl, rfl, rfl, rfl, hS1, hM1, hU, hK, hH, hT⟩⟩
      · have hr := r_rate S ((gr, vl, sg, nI n, pr, ha, la, wa), p, sw, (le, nI l, pc, tk1, tp, nu, it, ns, gt, vt, st), (br, wm, yi, lf, sh, hu, ve, so), (rw1, nI i, nI u), im, nI κ, (wh, ti, yd, nI s), wl, fe, tr + (101 : Int32).toInt64) th tr (nI l) nx tk pl va fa to (nI u) (nI s) hd wr a0 a1 a2 a3 a4 a5 a6 a7 a8 a9 a10 a11 a12 a13 n k hn s0 hk 2 h5
        rw [q3, n1, n2, m5] at hr
        rw [if_neg qn_2_0, if_neg qn_2_1, if_pos rfl] at hx
        rw [if_neg qn_2_0, if_neg qn_2_1, if_pos rfl] at hr
        exact ⟨_, _, _, hx, hr, ⟨n, i, u, s, l, κ, rfl, rfl, rfl, rfl, rfl, rfl, rfl, rfl, rfl, rfl, hS1, hM1, hU, hK, hH, hT⟩⟩
      · have hr := r_rate S ((gr, vl, sg, nI n, pr, ha, la, wa), p, sw, (le, nI l, pc, tk1, tp, nu, it, ns, gt, vt, st), (br, wm, yi, lf, sh, hu, ve, so), (rw1, nI i, nI u), im, nI κ, (wh, ti, yd, nI s), wl, fe, tr + (1011 : Int32).toInt64) th tr (nI l) nx tk pl va fa to (nI u) (nI s) hd wr a0 a1 a2 a3 a4 a5 a6 a7 a8 a9 a10 a11 a12 a13 n k hn s0 hk 3 h5
        rw [q3, n1, n2, m5] at hr
        rw [if_neg qn_3_0, if_neg qn_3_1, if_neg qn_3_2, if_pos rfl] at hx
        rw [if_neg qn_3_0, if_neg qn_3_1, if_neg qn_3_2, if_pos rfl] at hr
        exact ⟨_, _, _, hx, hr, ⟨n, i, u, s, l, κ, rfl, rfl, rfl, rfl, rfl, rfl, rfl, rfl, rfl, rfl, hS1, hM1, hU, hK, hH, hT⟩⟩
      · have hr := r_rate S ((gr, vl, sg, nI n, pr, ha, la, wa), p, sw, (le, nI l, pc, tk1, tp, nu, it, ns, gt, vt, st), (br, wm, yi, lf, sh, hu, ve, so), (rw1, nI i, nI u), im, nI κ, (wh, ti, yd, nI s), wl, fe, tr + (10101 : Int32).toInt64) th tr (nI l) nx tk pl va fa to (nI u) (nI s) hd wr a0 a1 a2 a3 a4 a5 a6 a7 a8 a9 a10 a11 a12 a13 n k hn s0 hk 4 h5
        rw [q3, n1, n2, m5] at hr
        rw [if_neg qn_4_0, if_neg qn_4_1, if_neg qn_4_2, if_neg qn_4_3, if_pos rfl] at hx
        rw [if_neg qn_4_0, if_neg qn_4_1, if_neg qn_4_2, if_neg qn_4_3, if_pos rfl] at hr
        exact ⟨_, _, _, hx, hr, ⟨n, i, u, s, l, κ, rfl, rfl, rfl, rfl, rfl, rfl, rfl, rfl, rfl, rfl, hS1, hM1, hU, hK, hH, hT⟩⟩
      · have hr := r_rate S ((gr, vl, sg, nI n, pr, ha, la, wa), p, sw, (le, nI l, pc, tk1, tp, nu, it, ns, gt, vt, st), (br, wm, yi, lf, sh, hu, ve, so), (rw1, nI i, nI u), im, nI κ, (wh, ti, yd, nI s), wl, fe, tr + (100001 : Int32).toInt64) th tr (nI l) nx tk pl va fa to (nI u) (nI s) hd wr a0 a1 a2 a3 a4 a5 a6 a7 a8 a9 a10 a11 a12 a13 n k hn s0 hk 5 h5
        rw [q3, n1, n2, m5] at hr
        rw [if_neg qn_5_0, if_neg qn_5_1, if_neg qn_5_2, if_neg qn_5_3, if_neg qn_5_4, if_pos rfl] at hx
        rw [if_neg qn_5_0, if_neg qn_5_1, if_neg qn_5_2, if_neg qn_5_3, if_neg qn_5_4] at hr
        exact ⟨_, _, _, hx, hr, ⟨n, i, u, s, l, κ, rfl, rfl, rfl, rfl, rfl, rfl, rfl, rfl, rfl, rfl, hS1, hM1, hU, hK, hH, hT⟩⟩
    · have hz : ∀ v : Int32, (0 ≤ v ∧ v ≤ 5) → ¬ w = v := fun v hv e => h5 (e ▸ hv)
      rw [if_neg (hz 0 (by decide)), if_neg (hz 1 (by decide)), if_neg (hz 2 (by decide)), if_neg (hz 3 (by decide)), if_neg (hz 4 (by decide)), if_neg (hz 5 (by decide))] at hx
      exact ⟨_, _, _, hx, r_rate_b (hN := zn_of hn s0) (w := w) (c := nI k) (hb := fun z => h5 z.1) .., hR⟩
  · exact ⟨_, _, _, x_rate_b (w := w) (c := c) (hb := hb) .., r_rate_b (hN := zn_of hn s0) (w := w) (c := c) (hb := fun z => hb (by rw [← s0]; exact z.2)) .., hR⟩
theorem k_bits : ∀ q, q < 4 → ∀ j, j < 2 → (nI q ||| z_one j = nI (q ||| 2 ^ j) ∧ q ||| 2 ^ j < 4 ∧ z_bit (nI (q ||| 2 ^ j)) j ∧ ∀ g, g < 2 → g = j ∨ (z_bit (nI (q ||| 2 ^ j)) g ↔ z_bit (nI q) g)) := by decide +kernel
theorem img_in {w : Int32} (h : 0 ≤ w ∧ w ≤ 1) : ∃ j, j < 2 ∧ w = nI j := by
  rcases (t01 w).mp h with e | e
  · exact ⟨0, by omega, e.trans nI_0.symm⟩
  · exact ⟨1, by omega, e⟩
theorem img_out {w : Int32} (h : ¬ (0 ≤ w ∧ w ≤ 1)) : w < 0 ∨ 2 ≤ w := by
  by_cases h0 : w < 0
  · exact Or.inl h0
  · refine Or.inr (Int32.not_lt.mp fun z => h ⟨nlt0.mp h0, ?_⟩)
    rw [Int32.lt_iff_toInt_lt, show (2 : Int32).toInt = 2 from by decide] at z
    rw [Int32.le_iff_toInt_le, show (1 : Int32).toInt = 1 from by decide]
    omega
theorem pp_keep (S : ai_S) (V : sv_V) (D : sv_D) (h : RR V D) (w : Int32) : pr_P S 69 134 [.int w] V D := by
  obtain ⟨⟨gr, vl, sg, cs, pr, ha, la, wa⟩, p, sw, ⟨le, ln, pc, tk1, tp, nu, it, ns, gt, vt, st⟩, ⟨br, wm, yi, lf, sh, hu, ve, so⟩, ⟨rw1, nx1, kn⟩, im, kp, ⟨wh, ti, yd, sz⟩, wl, fe, as⟩ := V
  obtain ⟨⟨th, tr, ty, nx, tk, pl, va, fa, to, um, te, hd, wr⟩, a0, a1, a2, a3, a4, a5, a6, a7, a8, a9, a10, a11, a12, a13⟩ := D
  obtain ⟨n, i, u, s, l, κ, e1, e2, e3, e4, e5, e6, e7, e8, e9, e10, hS, hM, hU, hK, hH, hT⟩ := h
  subst e1 e2 e3 e4 e5 e6 e7 e8 e9 e10
  have hR : RR ((gr, vl, sg, nI n, pr, ha, la, wa), p, sw, (le, nI l, pc, tk1, tp, nu, it, ns, gt, vt, st), (br, wm, yi, lf, sh, hu, ve, so), (rw1, nI i, nI u), im, nI κ, (wh, ti, yd, nI s), wl, fe, tr) ((th, tr, nI l, nx, tk, pl, va, fa, to, nI u, nI s, hd, wr), a0, a1, a2, a3, a4, a5, a6, a7, a8, a9, a10, a11, a12, a13) := ⟨n, i, u, s, l, κ, rfl, rfl, rfl, rfl, rfl, rfl, rfl, rfl, rfl, rfl, hS, hM, hU, hK, hH, hT⟩
  have hn : n ≤ 6 := hS.1
  have hM1 := hM
  obtain ⟨-, m2, -, -, -, -, -, ⟨q, hq, m8⟩, -, -⟩ := hM
  have m2 : a6 12 = yi := m2
  have m8 : yi = nI q := m8
  have h64 := z_pow_le n hn
  by_cases hb : 0 ≤ w ∧ w ≤ 1
  · obtain ⟨j, hj, e⟩ := img_in hb
    subst e
    obtain ⟨b7, g1, g2, g3⟩ := r_keep S ((gr, vl, sg, nI n, pr, ha, la, wa), p, sw, (le, nI l, pc, tk1, tp, nu, it, ns, gt, vt, st), (br, wm, yi, lf, sh, hu, ve, so), (rw1, nI i, nI u), va_up im j (z_cpm (im j) (br, wm, yi, lf, sh, hu, ve, so)), nI κ ||| z_one j, (wh, ti, yd, nI s), wl, fe, tr) th tr (nI l) nx tk pl va fa to (nI u) (nI s) hd wr a0 a1 a2 a3 a4 a5 a6 a7 a8 a9 a10 a11 a12 a13 j hj
    rw [m2, m8, z_on_ct q (by omega), ← z_pop_ct q (by omega), ← m8] at g3
    refine ⟨_, _, _, x_keep (i := j) (hi := hj) .., g3, ?_⟩
    obtain ⟨hκ, hk2⟩ := hK
    obtain ⟨c1, c2, c3, c4⟩ := k_bits κ hκ j hj
    refine ⟨n, i, u, s, l, κ ||| 2 ^ j, rfl, rfl, rfl, rfl, rfl, rfl, rfl, rfl, c1, rfl, hS, hM1, hU, ⟨c2, fun g hg => ?_⟩, hH, hT⟩
    by_cases e : g = j
    · subst e
      refine ⟨⟨fun _ => by rw [pk_us]; decide, fun _ => c3⟩, fun _ => ?_⟩
      rw [show va_up im g (z_cpm (im g) (br, wm, yi, lf, sh, hu, ve, so)) g = z_cpm (im g) (br, wm, yi, lf, sh, hu, ve, so) from if_pos rfl]
      exact MR_cp _ (MR_congr hM1 (fun q hq => g1 q hq))
    · obtain ⟨d1, d2⟩ := hk2 g hg
      rw [pk_un e, show va_up im j (z_cpm (im j) (br, wm, yi, lf, sh, hu, ve, so)) g = im g from if_neg e]
      have c5 := (c4 g hg).resolve_left e
      refine ⟨c5.trans d1, fun z => MR_congr (d2 (c5.mp z)) (fun q hq => g2 _ ?_)⟩
      omega
  · exact ⟨_, _, _, x_keep_b (i := w) (hb := img_out hb) .., r_keep_b (w := w) (h := hb) .., hR⟩
theorem pp_back (S : ai_S) (V : sv_V) (D : sv_D) (h : RR V D) (w : Int32) : pr_P S 70 135 [.int w] V D := by
  obtain ⟨⟨gr, vl, sg, cs, pr, ha, la, wa⟩, p, sw, ⟨le, ln, pc, tk1, tp, nu, it, ns, gt, vt, st⟩, ⟨br, wm, yi, lf, sh, hu, ve, so⟩, ⟨rw1, nx1, kn⟩, im, kp, ⟨wh, ti, yd, sz⟩, wl, fe, as⟩ := V
  obtain ⟨⟨th, tr, ty, nx, tk, pl, va, fa, to, um, te, hd, wr⟩, a0, a1, a2, a3, a4, a5, a6, a7, a8, a9, a10, a11, a12, a13⟩ := D
  obtain ⟨n, i, u, s, l, κ, e1, e2, e3, e4, e5, e6, e7, e8, e9, e10, hS, hM, hU, hK, hH, hT⟩ := h
  subst e1 e2 e3 e4 e5 e6 e7 e8 e9 e10
  have hR : RR ((gr, vl, sg, nI n, pr, ha, la, wa), p, sw, (le, nI l, pc, tk1, tp, nu, it, ns, gt, vt, st), (br, wm, yi, lf, sh, hu, ve, so), (rw1, nI i, nI u), im, nI κ, (wh, ti, yd, nI s), wl, fe, tr) ((th, tr, nI l, nx, tk, pl, va, fa, to, nI u, nI s, hd, wr), a0, a1, a2, a3, a4, a5, a6, a7, a8, a9, a10, a11, a12, a13) := ⟨n, i, u, s, l, κ, rfl, rfl, rfl, rfl, rfl, rfl, rfl, rfl, rfl, rfl, hS, hM, hU, hK, hH, hT⟩
  have hn : n ≤ 6 := hS.1
  have h64 := z_pow_le n hn
  by_cases hb : 0 ≤ w ∧ w ≤ 1
  · obtain ⟨j, hj, e⟩ := img_in hb
    subst e
    obtain ⟨d1, d2⟩ := hK.2 j hj
    by_cases hk : z_bit (nI κ) j
    · obtain ⟨b6, g1, g2⟩ := r_back S ((gr, vl, sg, nI n, pr, ha, la, wa), p, sw, (le, nI l, pc, tk1, tp, nu, it, ns, gt, vt, st), z_cpm (br, wm, yi, lf, sh, hu, ve, so) (im j), (rw1, nI i, 0), im, nI κ, (wh, ti, yd, nI s), wl, fe, tr) th tr (nI l) nx tk pl va fa to (nI u) (nI s) hd wr a0 a1 a2 a3 a4 a5 a6 a7 a8 a9 a10 a11 a12 a13 j hj (d1.mp hk)
      have hM2 : MR n (im j) b6 := MR_congr (d2 hk) g1
      have hM3 := hM2
      obtain ⟨-, m2, -, -, -, -, -, ⟨q, hq, m8⟩, -, -⟩ := hM2
      rw [m2, m8, z_on_ct q (by omega), ← z_pop_ct q (by omega), ← m8] at g2
      exact ⟨_, _, _, x_back (i := j) (hi := hj) (hk := hk) .., g2, ⟨n, i, 0, s, l, κ, rfl, rfl, rfl, rfl, rfl, rfl, rfl, rfl, rfl, rfl, hS, MR_cp _ hM3, ⟨by omega, hU.2.1, fun e he => absurd he (Nat.not_lt_zero _)⟩, hK, hH, hT⟩⟩
    · exact ⟨_, _, _, x_back_s (i := j) (hi := hj) (hk := hk) .., r_back_s (i := j) (hi := hj) (h8 := Classical.byContradiction fun z => hk (d1.mpr z)) .., hR⟩
  · exact ⟨_, _, _, x_back_b (i := w) (hb := img_out hb) .., r_back_b (w := w) (h := hb) .., hR⟩
