/-! the two objects side by side, and what each pair of calls keeps -/
def SR (n : Nat) (gr vl sg : Int32) (pr ha la wa a1 a2 a3 a4 a5 : Nat → Int32) : Prop := n ≤ 6 ∧ a1 0 = nI n ∧ a1 1 = gr ∧ a1 2 = vl ∧ a1 3 = sg ∧ ∀ k, k < n → a2 k = pr k ∧ a3 k = ha k ∧ a4 k = la k ∧ a5 k = wa k ∧ ∃ l, l ≤ 9 ∧ la k = nI l
def im_R (n κ : Nat) (im : Nat → sv_M) (a7 a8 : Nat → Int32) : Prop := κ < 4 ∧ ∀ j, j < 2 → (z_bit (nI κ) j ↔ ¬ a8 j = 0) ∧ (z_bit (nI κ) j → MR n (im j) (fun q => a7 (18 * j + q)))
def HR (n s : Nat) (wh ti yd a10 a11 a12 : Nat → Int32) : Prop := s ≤ 6 ∧ ∀ i, i < s → a10 i = wh i ∧ a11 i = ti i ∧ a12 i = yd i ∧ (∃ c, c < n ∧ wh i = nI c) ∧ (∃ k, k < 10 ∧ ti i = nI k) ∧ (yd i = 0 ∨ yd i = 1)
def TR (l : Nat) (le a0 : Nat → Int32) : Prop := l ≤ 120 ∧ ∀ j, j < l → a0 j = le j ∧ 0 ≤ le j ∧ le j ≤ 255
def RR : sv_V → sv_D → Prop
  | ((gr, vl, sg, cs, pr, ha, la, wa), _, _, (le, ln, _, _, _, _, _, _, _, _, _), m, (rw1, nx1, kn), im, kp, (wh, ti, yd, sz), _, _, as), ((_, tr, ty, _, _, _, _, _, _, um, te, _, _), (a0, a1, a2, a3, a4, a5, a6, a7, a8, a9, a10, a11, a12, _)) =>
    ∃ n i u s l κ : Nat, cs = nI n ∧ nx1 = nI i ∧ kn = nI u ∧ um = nI u ∧ sz = nI s ∧ te = nI s ∧ ln = nI l ∧ ty = nI l ∧ kp = nI κ ∧ tr = as ∧ SR n gr vl sg pr ha la wa a1 a2 a3 a4 a5 ∧ MR n m a6 ∧ UR n i u rw1 a9 ∧ im_R n κ im a7 a8 ∧ HR n s wh ti yd a10 a11 a12 ∧ TR l le a0
def pr_P (S : ai_S) (xm rm : Nat) (as : List Value) (V : sv_V) (D : sv_D) : Prop := ∃ (r : Int32) (V' : sv_V) (D' : sv_D), ai_call S xm (.ref 1 :: as) (HP V D) = some (some (.int r), HP V' D) ∧ ai_call S rm (.ref 62 :: as) (HP V' D) = some (some (.int r), HP V' D') ∧ RR V' D'
theorem cs_in {c : Int32} {n : Nat} (hn : n ≤ 6) (h : 0 ≤ c ∧ c < nI n) : ∃ k, k < n ∧ c = nI k := z_in (by omega) h
theorem zn_of {n : Nat} {x : Int32} (hn : n ≤ 6) (h : x = nI n) : z_N x := ⟨n, hn, h⟩
theorem t01 (t : Int32) : (0 ≤ t ∧ t ≤ 1) ↔ (t = 0 ∨ t = 1) := by
  constructor
  · intro h
    obtain ⟨j, hj, e⟩ := nI_of2 (M := 1) (n := 1) (by decide) (fun z => Int32.not_lt.mpr h.1 z) h.2
    have h2 : j = 0 ∨ j = 1 := by omega
    rcases h2 with h2 | h2 <;> subst h2
    · exact Or.inl e
    · exact Or.inr e
  · intro h
    rcases h with h | h <;> subst h <;> decide
theorem nlt0 {c : Int32} : ¬ c < 0 ↔ 0 ≤ c := Int32.not_lt
theorem pr_B {S : ai_S} {xm rm : Nat} {al : List Value} {V V' : sv_V} {D D' : sv_D} (o : Option Int32) (ho : ∃ r, o = some r) (h1 : ai_call S xm (.ref 1 :: al) (HP V D) = o.bind (fun r => some (some (.int r), HP V' D))) (h2 : ai_call S rm (.ref 62 :: al) (HP V' D) = o.bind (fun r => some (some (.int r), HP V' D'))) (h : RR V' D') : pr_P S xm rm al V D := by
  obtain ⟨r, rfl⟩ := ho
  exact ⟨r, V', D', h1, h2, h⟩
theorem pp_type (S : ai_S) (V : sv_V) (D : sv_D) (h : RR V D) (c : Int32) : pr_P S 25 88 [.int c] V D := by
  obtain ⟨⟨gr, vl, sg, cs, pr, ha, la, wa⟩, p, sw, ⟨le, ln, pc, tk1, tp, nu, it, ns, gt, vt, st⟩, m, ⟨rw1, nx1, kn⟩, im, kp, ⟨wh, ti, yd, sz⟩, wl, fe, as⟩ := V
  obtain ⟨⟨th, tr, ty, nx, tk, pl, va, fa, to, um, te, hd, wr⟩, a0, a1, a2, a3, a4, a5, a6, a7, a8, a9, a10, a11, a12, a13⟩ := D
  obtain ⟨n, i, u, s, l, κ, e1, e2, e3, e4, e5, e6, e7, e8, e9, e10, hS, hM, hU, hK, hH, hT⟩ := h
  subst e1 e2 e3 e4 e5 e6 e7 e8 e9 e10
  obtain ⟨h1, h2⟩ := hT
  by_cases hb : 0 ≤ c ∧ c ≤ 255
  · by_cases hl : l < 120
    · refine ⟨_, _, _, x_type S _ _ _ _ _ _ _ _ _ _ _ _ _ _ _ _ _ _ _ _ _ _ c l hl (nlt0.mpr hb.1) hb.2, r_type (ty := 0) (n := l) (hb := hb) (hn := hl) .., ?_⟩
      refine ⟨n, i, u, s, l + 1, κ, rfl, rfl, rfl, rfl, rfl, rfl, rfl, rfl, rfl, rfl, hS, hM, hU, hK, hH, by omega, fun j hj => ?_⟩
      by_cases e : j = l
      · subst e
        rw [pk_us, pk_us]
        exact ⟨rfl, hb.1, hb.2⟩
      · rw [pk_un e, pk_un e]
        exact h2 j (by omega)
    · have e : l = 120 := by omega
      subst e
      refine ⟨_, _, _, x_type_f (c := c) (h0 := nlt0.mpr hb.1) (h1 := hb.2) (hl := by decide) .., r_type_f (c := c) (hb := hb) (hl := rfl) .., ?_⟩
      exact ⟨n, i, u, s, 120, κ, rfl, rfl, rfl, rfl, rfl, rfl, rfl, rfl, rfl, rfl, hS, hM, hU, hK, hH, h1, h2⟩
  · refine ⟨_, _, _, x_type_b (c := c) (hb := ?_) .., r_type_b (c := c) (hb := hb) .., ?_⟩
    · by_cases h0 : c < 0
      · exact Or.inl h0
      · exact Or.inr (fun z => hb ⟨nlt0.mp h0, z⟩)
    · exact ⟨n, i, u, s, l, κ, rfl, rfl, rfl, rfl, rfl, rfl, rfl, rfl, rfl, rfl, hS, hM, hU, hK, hH, h1, h2⟩
theorem pp_clear (S : ai_S) (V : sv_V) (D : sv_D) (h : RR V D) : pr_P S 26 89 [] V D := by
  obtain ⟨⟨gr, vl, sg, cs, pr, ha, la, wa⟩, p, sw, ⟨le, ln, pc, tk1, tp, nu, it, ns, gt, vt, st⟩, m, ⟨rw1, nx1, kn⟩, im, kp, ⟨wh, ti, yd, sz⟩, wl, fe, as⟩ := V
  obtain ⟨⟨th, tr, ty, nx, tk, pl, va, fa, to, um, te, hd, wr⟩, a0, a1, a2, a3, a4, a5, a6, a7, a8, a9, a10, a11, a12, a13⟩ := D
  obtain ⟨n, i, u, s, l, κ, e1, e2, e3, e4, e5, e6, e7, e8, e9, e10, hS, hM, hU, hK, hH, hT⟩ := h
  subst e1 e2 e3 e4 e5 e6 e7 e8 e9 e10
  refine ⟨_, _, _, x_clear .., r_clear .., ?_⟩
  exact ⟨n, i, u, s, 0, κ, rfl, rfl, rfl, rfl, rfl, rfl, rfl, rfl, rfl, rfl, hS, hM, hU, hK, hH, by omega, fun j hj => absurd hj (Nat.not_lt_zero _)⟩
theorem pp_forget (S : ai_S) (V : sv_V) (D : sv_D) (h : RR V D) : pr_P S 64 129 [] V D := by
  obtain ⟨⟨gr, vl, sg, cs, pr, ha, la, wa⟩, p, sw, ⟨le, ln, pc, tk1, tp, nu, it, ns, gt, vt, st⟩, m, ⟨rw1, nx1, kn⟩, im, kp, ⟨wh, ti, yd, sz⟩, wl, fe, as⟩ := V
  obtain ⟨⟨th, tr, ty, nx, tk, pl, va, fa, to, um, te, hd, wr⟩, a0, a1, a2, a3, a4, a5, a6, a7, a8, a9, a10, a11, a12, a13⟩ := D
  obtain ⟨n, i, u, s, l, κ, e1, e2, e3, e4, e5, e6, e7, e8, e9, e10, hS, hM, hU, hK, hH, hT⟩ := h
  subst e1 e2 e3 e4 e5 e6 e7 e8 e9 e10
  refine ⟨_, _, _, x_forget .., r_forget .., ?_⟩
  exact ⟨n, i, u, 0, l, κ, rfl, rfl, rfl, rfl, rfl, rfl, rfl, rfl, rfl, rfl, hS, hM, hU, hK, ⟨by omega, fun j hj => absurd hj (Nat.not_lt_zero _)⟩, hT⟩
theorem pp_caller (S : ai_S) (V : sv_V) (D : sv_D) (h : RR V D) (c w : Int32) : pr_P S 28 104 [.int c, .int w] V D := by
  obtain ⟨⟨gr, vl, sg, cs, pr, ha, la, wa⟩, p, sw, ⟨le, ln, pc, tk1, tp, nu, it, ns, gt, vt, st⟩, m, ⟨rw1, nx1, kn⟩, im, kp, ⟨wh, ti, yd, sz⟩, wl, fe, as⟩ := V
  obtain ⟨⟨th, tr, ty, nx, tk, pl, va, fa, to, um, te, hd, wr⟩, a0, a1, a2, a3, a4, a5, a6, a7, a8, a9, a10, a11, a12, a13⟩ := D
  obtain ⟨n, i, u, s, l, κ, e1, e2, e3, e4, e5, e6, e7, e8, e9, e10, hS, hM, hU, hK, hH, hT⟩ := h
  subst e1 e2 e3 e4 e5 e6 e7 e8 e9 e10
  have hR : RR ((gr, vl, sg, nI n, pr, ha, la, wa), p, sw, (le, nI l, pc, tk1, tp, nu, it, ns, gt, vt, st), m, (rw1, nI i, nI u), im, nI κ, (wh, ti, yd, nI s), wl, fe, tr) ((th, tr, nI l, nx, tk, pl, va, fa, to, nI u, nI s, hd, wr), a0, a1, a2, a3, a4, a5, a6, a7, a8, a9, a10, a11, a12, a13) := ⟨n, i, u, s, l, κ, rfl, rfl, rfl, rfl, rfl, rfl, rfl, rfl, rfl, rfl, hS, hM, hU, hK, hH, hT⟩
  obtain ⟨hn, s0, s1, s2, s3, hs⟩ := hS
  by_cases hc : 0 ≤ c ∧ c < nI n
  · obtain ⟨k, hk, e⟩ := cs_in hn hc
    subst e
    obtain ⟨br, wm, yi, lf, sh, hu, ve, so⟩ := m
    obtain ⟨m1, m2, m3, -⟩ := hM
    obtain ⟨q1, q2, q3, q4, -⟩ := hs k hk
    have q5 : a6 k = br k := (m1 k (by omega)).1
    have q6 : a6 (6 + k) = wm k := (m1 k (by omega)).2
    have m2 : a6 12 = yi := m2
    have m3 : a6 13 = lf := m3
    have hring := cg_ring hn (fun j hj => (hs j hj).2.2.2.1) k hk
    by_cases h8 : 0 ≤ w ∧ w ≤ 8
    · refine pr_B (V' := ((gr, vl, sg, nI n, pr, ha, la, wa), p, sw, (le, nI l, pc, tk1, tp, nu, it, ns, gt, vt, st), (br, wm, yi, lf, sh, hu, ve, so), (rw1, nI i, nI u), im, nI κ, (wh, ti, yd, nI s), wl, fe, tr)) (D' := ((0, tr, nI l, nx, tk, pl, va, fa, to, nI u, nI s, hd, wr), a0, a1, a2, a3, a4, a5, a6, a7, a8, a9, a10, a11, a12, a13)) _ ?_ (x_caller (n := n) (k := k) (hn := hn) (hk := hk) (w := w) ..) ((r_caller (n := n) (hn := hn) (ha := s0) (k := k) (hk := hk) (w := w) (h := h8) ..).trans ?_) ?_
      · rcases z_08 w h8 with e | e | e | e | e | e | e | e | e <;> subst e <;> exact ⟨_, rfl⟩
      · rw [q1, q2, q3, q4, q5, q6, m2, m3, hring]
      · exact hR
    · have hz : ∀ v : Int32, (0 ≤ v ∧ v ≤ 8) → ¬ w = v := fun v hv e => h8 (e ▸ hv)
      refine ⟨-1, ((gr, vl, sg, nI n, pr, ha, la, wa), p, sw, (le, nI l, pc, tk1, tp, nu, it, ns, gt, vt, st), (br, wm, yi, lf, sh, hu, ve, so), (rw1, nI i, nI u), im, nI κ, (wh, ti, yd, nI s), wl, fe, tr), ((0, tr, nI l, nx, tk, pl, va, fa, to, nI u, nI s, hd, wr), a0, a1, a2, a3, a4, a5, a6, a7, a8, a9, a10, a11, a12, a13), (x_caller (n := n) (k := k) (hn := hn) (hk := hk) (w := w) ..).trans ?_, r_caller_b (hN := zn_of hn s0) (c := nI k) (w := w) (hb := fun z => h8 z.2) .., hR⟩
      rw [if_neg (hz 0 (by decide)), if_neg (hz 1 (by decide)), if_neg (hz 2 (by decide)), if_neg (hz 3 (by decide)), if_neg (hz 4 (by decide)), if_neg (hz 5 (by decide)), if_neg (hz 6 (by decide)), if_neg (hz 7 (by decide)), if_neg (hz 8 (by decide))]
      rfl
  · exact ⟨_, _, _, x_caller_b (c := c) (w := w) (hb := hc) .., r_caller_b (hN := zn_of hn s0) (c := c) (w := w) (hb := fun z => hc (by rw [← s0]; exact z.1)) .., hR⟩
theorem pp_trace (S : ai_S) (V : sv_V) (D : sv_D) (h : RR V D) : ∃ (r : Int64) (D' : sv_D), ai_call S 72 [.ref 1] (HP V D) = some (some (.long r), HP V D) ∧ ai_call S 137 [.ref 62] (HP V D) = some (some (.long r), HP V D') ∧ RR V D' := by
  obtain ⟨⟨gr, vl, sg, cs, pr, ha, la, wa⟩, p, sw, ⟨le, ln, pc, tk1, tp, nu, it, ns, gt, vt, st⟩, m, ⟨rw1, nx1, kn⟩, im, kp, ⟨wh, ti, yd, sz⟩, wl, fe, as⟩ := V
  obtain ⟨⟨th, tr, ty, nx, tk, pl, va, fa, to, um, te, hd, wr⟩, a0, a1, a2, a3, a4, a5, a6, a7, a8, a9, a10, a11, a12, a13⟩ := D
  obtain ⟨n, i, u, s, l, κ, e1, e2, e3, e4, e5, e6, e7, e8, e9, e10, hS, hM, hU, hK, hH, hT⟩ := h
  subst e1 e2 e3 e4 e5 e6 e7 e8 e9 e10
  exact ⟨_, _, x_trace .., r_trace .., ⟨n, i, u, s, l, κ, rfl, rfl, rfl, rfl, rfl, rfl, rfl, rfl, rfl, rfl, hS, hM, hU, hK, hH, hT⟩⟩
theorem pp_count (S : ai_S) (V : sv_V) (D : sv_D) (h : RR V D) (w : Int32) : pr_P S 71 136 [.int w] V D := by
  obtain ⟨⟨gr, vl, sg, cs, pr, ha, la, wa⟩, p, sw, ⟨le, ln, pc, tk1, tp, nu, it, ns, gt, vt, st⟩, m, ⟨rw1, nx1, kn⟩, im, kp, ⟨wh, ti, yd, sz⟩, wl, fe, as⟩ := V
  obtain ⟨⟨th, tr, ty, nx, tk, pl, va, fa, to, um, te, hd, wr⟩, a0, a1, a2, a3, a4, a5, a6, a7, a8, a9, a10, a11, a12, a13⟩ := D
  obtain ⟨n, i, u, s, l, κ, e1, e2, e3, e4, e5, e6, e7, e8, e9, e10, hS, hM, hU, hK, hH, hT⟩ := h
  subst e1 e2 e3 e4 e5 e6 e7 e8 e9 e10
  have hR : RR ((gr, vl, sg, nI n, pr, ha, la, wa), p, sw, (le, nI l, pc, tk1, tp, nu, it, ns, gt, vt, st), m, (rw1, nI i, nI u), im, nI κ, (wh, ti, yd, nI s), wl, fe, tr) ((0, tr, nI l, nx, tk, pl, va, fa, to, nI u, nI s, hd, wr), a0, a1, a2, a3, a4, a5, a6, a7, a8, a9, a10, a11, a12, a13) := ⟨n, i, u, s, l, κ, rfl, rfl, rfl, rfl, rfl, rfl, rfl, rfl, rfl, rfl, hS, hM, hU, hK, hH, hT⟩
  obtain ⟨hn, s0, s1, s2, s3, hs⟩ := hS
  have hx := x_count S gr vl sg (nI n) pr ha la wa p sw le (nI l) pc tk1 tp nu it ns gt vt st m (rw1, nI i, nI u) im (nI κ) wh ti yd (nI s) wl fe tr ((th, tr, nI l, nx, tk, pl, va, fa, to, nI u, nI s, hd, wr), a0, a1, a2, a3, a4, a5, a6, a7, a8, a9, a10, a11, a12, a13) w
  have hr := r_count S ((gr, vl, sg, nI n, pr, ha, la, wa), p, sw, (le, nI l, pc, tk1, tp, nu, it, ns, gt, vt, st), m, (rw1, nI i, nI u), im, nI κ, (wh, ti, yd, nI s), wl, fe, tr) th tr (nI l) nx tk pl va fa to (nI u) (nI s) hd wr a0 a1 a2 a3 a4 a5 a6 a7 a8 a9 a10 a11 a12 a13 w
  rw [s0, s1, s2, s3] at hr
  by_cases w0 : w = 0
  · rw [if_pos w0] at hx hr
    exact ⟨_, _, _, hx, hr, hR⟩
  rw [if_neg w0] at hx hr
  by_cases w1 : w = 1
  · rw [if_pos w1] at hx hr
    exact ⟨_, _, _, hx, hr, hR⟩
  rw [if_neg w1] at hx hr
  by_cases w2 : w = 2
  · rw [if_pos w2] at hx hr
    exact ⟨_, _, _, hx, hr, hR⟩
  rw [if_neg w2] at hx hr
  by_cases w3 : w = 3
  · rw [if_pos w3] at hx hr
    exact ⟨_, _, _, hx, hr, hR⟩
  rw [if_neg w3] at hx hr
  by_cases w4 : w = 4
  · rw [if_pos w4] at hx hr
    exact ⟨_, _, _, hx, hr, hR⟩
  rw [if_neg w4] at hx hr
  by_cases w5 : w = 5
  · rw [if_pos w5] at hx hr
    exact ⟨_, _, _, hx, hr, hR⟩
  rw [if_neg w5] at hx hr
  exact ⟨_, _, _, hx, hr, hR⟩
