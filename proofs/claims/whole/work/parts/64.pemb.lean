/-! pairs: embassy -/
theorem em_neg : ∀ q, q < 121 → (-10 : Int32) - nI q < 0 := by decide +kernel
theorem em_n {T : zp_K} : ∀ (f k i : Nat) (s : zp_S) (x : Nat × zp_S), zp_go T f k s i = .inl x → x.1 ≤ i + f
  | 0, _, _, _, _, h => by
    unfold zp_go at h
    cases h
  | f + 1, k, i, s, x, h => by
    unfold zp_go at h
    by_cases h6 : (T k).2.1 = 256
    · rw [if_pos h6] at h
      cases h
      exact Nat.le_add_right _ _
    · rw [if_neg h6] at h
      cases hi : zp_item T k s with
      | inl y =>
        obtain ⟨s2, k2⟩ := y
        rw [hi] at h
        have h2 := em_n f k2 (i + 1) s2 x h
        omega
      | inr q =>
        rw [hi] at h
        cases h
theorem em_a8 (a8 : Nat → Int32) : ∀ j, j < 2 → upd (upd a8 0 0) 1 0 j = 0 := by
  intro j hj
  have h : j = 0 ∨ j = 1 := by omega
  rcases h with h | h <;> subst h
  · rw [pk_un (by omega), pk_us]
  · rw [pk_us]
set_option maxHeartbeats 2000000 in
theorem pp_embassy (S : ai_S) (V : sv_V) (D : sv_D) (h : RR V D) : pr_P S 27 100 [] V D := by
  obtain ⟨⟨gr, vl, sg, cs, pr, ha, la, wa⟩, ⟨pgr, pvl, psg, pcs, ppr, pha, pla, pwa⟩, sw, ⟨le, ln, pc, tk1, tp, nu, it, ns, gt, vt, st⟩, ⟨br, wm, yi, lf, sh, hu, ve, so⟩, ⟨rw1, nx1, kn⟩, im, kp, ⟨wh, ti, yd, sz⟩, wl, fe, as⟩ := V
  obtain ⟨⟨th, tr, ty, nx, tk, pl, va, fa, to, um, te, hd, wr⟩, a0, a1, a2, a3, a4, a5, a6, a7, a8, a9, a10, a11, a12, a13⟩ := D
  obtain ⟨n, i, u, s, l, κ, e1, e2, e3, e4, e5, e6, e7, e8, e9, e10, hS, hM, hU, hK, hH, hT⟩ := h
  subst e1 e2 e3 e4 e5 e6 e7 e8 e9 e10
  have hS2 := hS
  obtain ⟨hn, z0, z1, z2, z3, hs⟩ := hS
  obtain ⟨hl, hl2⟩ := hT
  have hok : z_ok a0 l := fun j hj => by rw [(hl2 j hj).1]; exact (hl2 j hj).2
  have hok2 : z_ok le l := fun j hj => (hl2 j hj).2
  have hx := zr_tell S (gr, vl, sg, nI n, pr, ha, la, wa) sw le l (br, wm, yi, lf, sh, hu, ve, so) (rw1, nI i, nI u) im (nI κ) (wh, ti, yd, nI s) wl fe tr ((th, tr, nI l, nx, tk, pl, va, fa, to, nI u, nI s, hd, wr), a0, a1, a2, a3, a4, a5, a6, a7, a8, a9, a10, a11, a12, a13) hl (z_ok_257 hok2) pc tk1 tp nu it ns gt vt st pgr pvl psg pcs ppr pha pla pwa
  have hr := fun VX => r_embassy S VX th tr nx tk pl va fa to (nI u) (nI s) hd wr a0 a1 a2 a3 a4 a5 a6 a7 a8 a9 a10 a11 a12 a13 l hl hok ppr pha pla pwa
  rw [cg_rtk (le := a0) (le' := le) (n := l) (fun j hj => (hl2 j hj).1) 0] at hr
  cases hG : zp_go (z_rtk le l 0) 200 0 (4, 3, 20, 0, ppr, pha, pla, pwa, 0, 0, 0) 0 with
  | inl y =>
    obtain ⟨i2, gr2, vl2, sg2, c2, pr2, ha2, la2, wa2, gt2, vt2, st2⟩ := y
    have hla := LA_go 200 0 0 _ _ (fun k hk => absurd hk (Nat.not_lt_zero _)) hG
    have hi2 : i2 ≤ 0 + 200 := em_n 200 0 0 _ _ hG
    rw [hG] at hx hr
    obtain ⟨h6, pc2, tk2, tp2, nu2, it2, ns2, gt3, vt3, st3, hx⟩ := hx
    have h6 : c2 ≤ 6 := h6
    obtain ⟨br2, wm2, hz, hx⟩ := x_embassy S (gr, vl, sg, nI n, pr, ha, la, wa) gr2 vl2 sg2 (nI c2) pr2 ha2 la2 wa2 sw le (nI l) pc2 tk2 tp2 nu2 it2 ns2 gt3 vt3 st3 br wm yi lf sh hu ve so rw1 (nI i) (nI u) im (nI κ) wh ti yd (nI s) wl fe tr ((th, tr, nI l, nx, tk, pl, va, fa, to, nI u, nI s, hd, wr), a0, a1, a2, a3, a4, a5, a6, a7, a8, a9, a10, a11, a12, a13) (pgr, pvl, psg, pcs, ppr, pha, pla, pwa) (le, nI l, pc, tk1, tp, nu, it, ns, gt, vt, st) (nI i2) (nI_pos' (by omega)) hx
    obtain ⟨fa3, nx3, tk3, pl3, va3, to3, b1, b2, b3, b4, b5, b6, r0, r1, r2, r3, r4, r5, hr⟩ := hr ((gr2, vl2, sg2, nI c2, pr2, ha2, la2, wa2), (gr, vl, sg, nI n, pr, ha, la, wa), (!sw), (le, 0, pc2, tk2, tp2, nu2, it2, ns2, gt3, vt3, st3), (br2, wm2, 0, 0, 0, 0, vl2, -9), (rw1, nI i, 0), im, 0, (wh, ti, yd, 0), wl, fe, tr)
    refine ⟨_, _, _, hx, hr, ?_⟩
    have f0 : ∀ j, j < 18 → ¬ j = 16 → b6 j = 0 := fun j hj h => (r5 j hj).trans (if_neg h)
    refine ⟨c2, i, 0, 0, 0, 0, rfl, rfl, rfl, rfl, rfl, rfl, rfl, rfl, rfl, rfl, ⟨h6, r0, r1, r2, r3, fun k hk => ?_⟩, ⟨fun k hk => ?_, f0 12 (by omega) (by omega), f0 13 (by omega) (by omega), f0 14 (by omega) (by omega), f0 15 (by omega) (by omega), (r5 16 (by omega)).trans (if_pos rfl), Or.inl ⟨rfl, f0 17 (by omega) (by omega)⟩, ⟨0, Nat.two_pow_pos _, rfl⟩, ⟨0, Nat.two_pow_pos _, rfl⟩, (show (0 : Int32) ≤ 999 by decide)⟩, ⟨by omega, hU.2.1, fun e he => absurd he (Nat.not_lt_zero _)⟩, ⟨by omega, fun j hj => ?_⟩, ⟨by omega, fun j hj => absurd hj (Nat.not_lt_zero _)⟩, ⟨by omega, fun j hj => absurd hj (Nat.not_lt_zero _)⟩⟩
    · obtain ⟨t2, t3, t4, t5⟩ := r4 k hk
      exact ⟨t2, t3, t4, t5, hla k hk⟩
    · rw [f0 k (by omega) (by omega), f0 (6 + k) (by omega) (by omega)]
      exact ⟨(hz k hk).1.symm, (hz k hk).2.symm⟩
    · have hb0 := z_bit0 j (by omega)
      exact ⟨⟨fun z => absurd z hb0, fun z => absurd (em_a8 a8 j hj) z⟩, fun z => absurd z hb0⟩
  | inr q =>
    rw [hG] at hx hr
    obtain ⟨p2, pc2, tk2, tp2, nu2, it2, ns2, gt3, vt3, st3, hx⟩ := hx
    obtain ⟨hq, fa3, nx3, tk3, pl3, va3, to3, b1, b2, b3, b4, b5, hk5, hr⟩ := hr ((gr, vl, sg, nI n, pr, ha, la, wa), p2, sw, (le, nI l, pc2, tk2, tp2, nu2, it2, ns2, gt3, vt3, st3), (br, wm, yi, lf, sh, hu, ve, so), (rw1, nI i, nI u), im, nI κ, (wh, ti, yd, nI s), wl, fe, tr)
    refine ⟨_, _, _, x_embassy_b (q := -10 - nI q) (hq := em_neg q (by omega)) (h14 := hx) .., hr, ?_⟩
    refine ⟨n, i, u, s, l, κ, rfl, rfl, rfl, rfl, rfl, rfl, rfl, rfl, rfl, rfl, ⟨hn, (hk5.1 0 (by omega)).trans z0, (hk5.1 1 (by omega)).trans z1, (hk5.1 2 (by omega)).trans z2, (hk5.1 3 (by omega)).trans z3, fun k hk => ?_⟩, hM, hU, hK, hH, hl, hl2⟩
    obtain ⟨t2, t3, t4, t5⟩ := hk5.2 k (by omega)
    obtain ⟨y2, y3, y4, y5, y6⟩ := hs k hk
    exact ⟨t2.trans y2, t3.trans y3, t4.trans y4, t5.trans y5, y6⟩
