/-! what a text tells (pure): T k is the token read from place k on: where it ends, token, its place, its number -/
abbrev zp_S : Type := Int32 × Int32 × Int32 × Nat × (Nat → Int32) × (Nat → Int32) × (Nat → Int32) × (Nat → Int32) × Int32 × Int32 × Int32
abbrev zp_R : Type := (zp_S × Nat) ⊕ Nat
abbrev zp_K : Type := Nat → Nat × Int32 × Nat × Int32
def zp_num (t : Nat × Int32 × Nat × Int32) (lo hi : Int32) : Prop := t.2.1 = 257 ∧ ¬ t.2.2.2 < lo ∧ t.2.2.2 ≤ hi
noncomputable def zp_tn (T : zp_K) (k : Nat) (lo hi : Int32) (f : Int32 → Nat → zp_R) : zp_R :=
  haveI := Classical.propDecidable (zp_num (T k) lo hi)
  if zp_num (T k) lo hi then f (T k).2.2.2 (T k).1 else .inr (T k).2.2.1
def zp_te (T : zp_K) (k : Nat) (s : zp_S) : zp_R := if (T k).2.1 = 59 then .inl (s, (T k).1) else .inr (T k).2.2.1
noncomputable def zp_item (T : zp_K) (k : Nat) : zp_S → zp_R
  | (gr, vl, sg, c, pr, ha, la, wa, gt, vt, st) =>
    if (T k).2.1 = 99 then
      (if c < 6 then zp_tn T (T k).1 1 30 fun a k => zp_tn T k 0 30 fun b k => zp_tn T k 0 9 fun d k => zp_tn T k 0 5 fun e k => zp_te T k (gr, vl, sg, c + 1, upd pr c a, upd ha c b, upd la c d, upd wa c e, gt, vt, st)
      else .inr (T k).2.2.1)
    else if (T k).2.1 = 103 then (if gt = 0 then zp_tn T (T k).1 0 9 fun a k => zp_te T k (a, vl, sg, c, pr, ha, la, wa, 1, vt, st) else .inr (T k).2.2.1)
    else if (T k).2.1 = 118 then (if vt = 0 then zp_tn T (T k).1 0 9 fun a k => zp_te T k (gr, a, sg, c, pr, ha, la, wa, gt, 1, st) else .inr (T k).2.2.1)
    else if (T k).2.1 = 115 then (if st = 0 then zp_tn T (T k).1 1 60 fun a k => zp_te T k (gr, vl, a, c, pr, ha, la, wa, gt, vt, 1) else .inr (T k).2.2.1)
    else .inr (T k).2.2.1
noncomputable def zp_go (T : zp_K) : Nat → Nat → zp_S → Nat → (Nat × zp_S) ⊕ Nat
  | 0, k, _, _ => .inr (T k).2.2.1
  | f + 1, k, s, i => if (T k).2.1 = 256 then .inl (i, s) else match zp_item T k s with
    | .inl (s', k') => zp_go T f k' s' (i + 1)
    | .inr q => .inr q
/-- tokens: what holds of them -/
def zp_ok (T : zp_K) (n : Nat) : Prop := ∀ k, k ≤ n → (T k).1 ≤ n ∧ k ≤ (T k).2.2.1 ∧ (T k).2.2.1 ≤ n ∧ (¬ (T k).2.1 = 256 → (T k).2.2.1 < (T k).1)
theorem z_rn_ge (le : Nat → Int32) : ∀ j k v, k ≤ (z_rn le j k v).1 ∧ (z_rn le j k v).1 ≤ k + j
  | 0, k, v => ⟨Nat.le_refl _, Nat.le_refl _⟩
  | j + 1, k, v => by
    unfold z_rn
    split
    · have := z_rn_ge le j (k + 1) (z_c10 v (le k))
      omega
    · exact ⟨Nat.le_refl _, by omega⟩
theorem z_sk_ge (le : Nat → Int32) : ∀ j k, k ≤ z_sk le j k
  | 0, k => Nat.le_refl _
  | j + 1, k => by
    unfold z_sk
    split
    · have := z_sk_ge le j (k + 1)
      omega
    · omega
theorem zp_T_ok (le : Nat → Int32) (n : Nat) : zp_ok (z_rtk le n 0) n := by
  intro k hk
  have h1 := z_sk_ge le (n - k) k
  have h2 := z_sk_le le (n - k) k
  unfold z_rtk
  generalize z_sk le (n - k) k = q at h1 h2 ⊢
  unfold z_tok
  by_cases hq : n ≤ q
  · rw [if_pos hq]
    exact ⟨by show q ≤ n; omega, h1, by show q ≤ n; omega, fun h => absurd rfl h⟩
  · rw [if_neg hq]
    by_cases hd : z_dig (le q)
    · rw [if_pos hd]
      obtain ⟨j, hj⟩ : ∃ j, n - q = j + 1 := ⟨n - q - 1, by omega⟩
      have h3 : z_rn le (n - q) q 0 = z_rn le j (q + 1) (z_c10 0 (le q)) := by rw [hj, z_rn, if_pos hd]
      have h4 := z_rn_ge le j (q + 1) (z_c10 0 (le q))
      rw [← h3] at h4
      dsimp only
      exact ⟨by omega, h1, by omega, fun _ => by omega⟩
    · rw [if_neg hd]
      dsimp only
      exact ⟨by omega, h1, by omega, fun _ => by omega⟩
/-- the number that was read before does not matter -/
theorem z_rtk_nu (le : Nat → Int32) (n : Nat) (nu : Int32) (k : Nat) (hle : ∀ j, j < n → ¬ le j = 257) : ∃ nu2, ((z_rtk le n 0 k).2.1 = 257 → nu2 = (z_rtk le n 0 k).2.2.2) ∧ z_rtk le n nu k = ((z_rtk le n 0 k).1, (z_rtk le n 0 k).2.1, (z_rtk le n 0 k).2.2.1, nu2) := by
  unfold z_rtk
  generalize z_sk le (n - k) k = q
  unfold z_tok
  by_cases hq : n ≤ q
  · rw [if_pos hq, if_pos hq]
    exact ⟨nu, fun h => absurd (show (256 : Int32) = 257 from h) (by decide), rfl⟩
  · rw [if_neg hq, if_neg hq]
    by_cases hd : z_dig (le q)
    · rw [if_pos hd, if_pos hd]
      exact ⟨_, fun _ => rfl, rfl⟩
    · rw [if_neg hd, if_neg hd]
      exact ⟨nu, fun h => absurd h (hle q (by omega)), rfl⟩
theorem zp_te_le {T : zp_K} {n k : Nat} (hT : zp_ok T n) (hk : k ≤ n) {s : zp_S} {x : zp_S × Nat} (h : zp_te T k s = .inl x) : k ≤ x.2 := by
  unfold zp_te at h
  by_cases h1 : (T k).2.1 = 59
  · rw [if_pos h1] at h
    cases h
    have o := hT k hk
    have o4 := o.2.2.2 (by rw [h1]; decide)
    show k ≤ (T k).1
    omega
  · rw [if_neg h1] at h
    cases h
theorem zp_tn_le {T : zp_K} {n k : Nat} (hT : zp_ok T n) (hk : k ≤ n) {lo hi : Int32} {f : Int32 → Nat → zp_R} {x : zp_S × Nat} (hf : ∀ a k2, k2 ≤ n → f a k2 = .inl x → k2 ≤ x.2) (h : zp_tn T k lo hi f = .inl x) : k ≤ x.2 := by
  unfold zp_tn at h
  by_cases h1 : zp_num (T k) lo hi
  · rw [if_pos h1] at h
    have o := hT k hk
    have o4 := o.2.2.2 (by rw [h1.1]; decide)
    have o5 := hf _ _ o.1 h
    omega
  · rw [if_neg h1] at h
    cases h
theorem zp_item_le {T : zp_K} {n k : Nat} (hT : zp_ok T n) (hk : k ≤ n) {s : zp_S} {x : zp_S × Nat} (h : zp_item T k s = .inl x) : (T k).1 ≤ x.2 := by
  obtain ⟨gr, vl, sg, c, pr, ha, la, wa, gt, vt, st⟩ := s
  rw [zp_item] at h
  have o := (hT k hk).1
  by_cases h1 : (T k).2.1 = 99
  · rw [if_pos h1] at h
    by_cases h2 : c < 6
    · rw [if_pos h2] at h
      exact zp_tn_le hT o (fun a k1 h1 q => zp_tn_le hT h1 (fun b k2 h2 q => zp_tn_le hT h2 (fun d k3 h3 q => zp_tn_le hT h3 (fun e k4 h4 q => zp_te_le hT h4 q) q) q) q) h
    · rw [if_neg h2] at h
      cases h
  rw [if_neg h1] at h
  by_cases h103 : (T k).2.1 = 103
  · rw [if_pos h103] at h
    by_cases h2 : gt = 0
    · rw [if_pos h2] at h
      exact zp_tn_le hT o (fun a k1 h1 q => zp_te_le hT h1 q) h
    · rw [if_neg h2] at h
      cases h
  rw [if_neg h103] at h
  by_cases h118 : (T k).2.1 = 118
  · rw [if_pos h118] at h
    by_cases h2 : vt = 0
    · rw [if_pos h2] at h
      exact zp_tn_le hT o (fun a k1 h1 q => zp_te_le hT h1 q) h
    · rw [if_neg h2] at h
      cases h
  rw [if_neg h118] at h
  by_cases h115 : (T k).2.1 = 115
  · rw [if_pos h115] at h
    by_cases h2 : st = 0
    · rw [if_pos h2] at h
      exact zp_tn_le hT o (fun a k1 h1 q => zp_te_le hT h1 q) h
    · rw [if_neg h2] at h
      cases h
  rw [if_neg h115] at h
  cases h
def zp_g : zp_S → sv_G
  | (gr, vl, sg, c, pr, ha, la, wa, _, _, _) => (gr, vl, sg, nI c, pr, ha, la, wa)
/-- where the loop stands behind an item, or what tell answers -/
def zq (S : ai_S) (g : sv_G) (sw : Bool) (le : Nat → Int32) (n : Nat) (m : sv_M) (pa : sv_P) (im : Nat → sv_M) (kp : Int32) (he : sv_H) (wl : Nat → Int32) (fe : Nat → Int32) (as : Int64) (D : sv_D) (i : Int32) : zp_R → ai_A → Prop
  | .inl ((gr, vl, sg, c, pr, ha, la, wa, gt, vt, st), k), X => k ≤ n ∧ c ≤ 6 ∧ ∃ (r : Nat) (nu ns : Int32), r ≤ (z_rtk le n 0 k).2.2.1 ∧ ((z_rtk le n 0 k).2.1 = 257 → nu = (z_rtk le n 0 k).2.2.2) ∧ X = ai_res S 14 4 [.ref 12, .ref (sq (!sw)), .int i, .int (nI r)] [] (HP (g, (gr, vl, sg, nI c, pr, ha, la, wa), sw, (le, nI n, nI (z_rtk le n 0 k).1, (z_rtk le n 0 k).2.1, nI (z_rtk le n 0 k).2.2.1, nu, 0, ns, gt, vt, st), m, pa, im, kp, he, wl, fe, as) D)
  | .inr q, X => ∃ (p : sv_G) (pc tk tp nu it ns gt vt st : Int32), X = some (some (.int (-10 - nI q)), HP (g, p, sw, (le, nI n, pc, tk, tp, nu, it, ns, gt, vt, st), m, pa, im, kp, he, wl, fe, as) D)
theorem x_tn_b2 (S : ai_S) (g : sv_G) (p : sv_G) (sw : Bool) (le : Nat → Int32) (ln : Int32) (pc : Int32) (tk : Int32) (tp : Int32) (nu : Int32) (it : Int32) (ns : Int32) (gt : Int32) (vt : Int32) (st : Int32) (m : sv_M) (pa : sv_P) (im : Nat → sv_M) (kp : Int32) (he : sv_H) (wl : Nat → Int32) (fe : Nat → Int32) (as : Int64) (D : sv_D) (hb : ¬ (tk = 257 ∧ ¬ nu < z_lst it ns ∧ nu ≤ z_most it ns)) : ai_call S 18 [.ref 12, .ref (sq (!sw))] (HP (g, p, sw, (le, ln, pc, tk, tp, nu, it, ns, gt, vt, st), m, pa, im, kp, he, wl, fe, as) D) = some (some (.int 0), HP (g, p, sw, (le, ln, pc, tk, tp, nu, it, ns, gt, vt, st), m, pa, im, kp, he, wl, fe, as) D) := by
  cases sw
  · exact x_tn_b (q := 6) (hb := hb) ..
  · exact x_tn_b (q := 1) (hb := hb) ..
/-- a number -/
theorem zq_n (S : ai_S) (g : sv_G) (sw : Bool) (le : Nat → Int32) (n : Nat) (m : sv_M) (pa : sv_P) (im : Nat → sv_M) (kp : Int32) (he : sv_H) (wl : Nat → Int32) (fe : Nat → Int32) (as : Int64) (D : sv_D) (hn : n ≤ 120) (hle : ∀ j, j < n → ¬ le j = 257) (i i0 : Int32) (k r : Nat) (nu : Int32) (hk : k ≤ n) (hr : r ≤ (z_rtk le n 0 k).2.2.1) (hnu : (z_rtk le n 0 k).2.1 = 257 → nu = (z_rtk le n 0 k).2.2.2) (it ns lo hi gt vt st : Int32) (h0 : ¬ it = 0) (h1 : ns < (if it = 99 then 4 else 1)) (hlo : z_lst it ns = lo) (hhi : z_most it ns = hi) (f : Int32 → Nat → zp_R) (p : sv_G) (p2 : Int32 → sv_G)
    (h18 : ∀ (pc tp nu : Int32), ¬ nu < z_lst it ns → nu ≤ z_most it ns → ai_call S 18 [.ref 12, .ref (sq (!sw))] (HP (g, p, sw, (le, nI n, pc, 257, tp, nu, it, ns, gt, vt, st), m, pa, im, kp, he, wl, fe, as) D) = some (some (.int 1), HP (g, (p2 nu), sw, (le, nI n, pc, 257, tp, nu, it, ns + 1, gt, vt, st), m, pa, im, kp, he, wl, fe, as) D))
    (hf : ∀ (nu2 : Int32) (r2 : Nat), r2 ≤ (z_rtk le n 0 (z_rtk le n 0 k).1).2.2.1 → ((z_rtk le n 0 (z_rtk le n 0 k).1).2.1 = 257 → nu2 = (z_rtk le n 0 (z_rtk le n 0 k).1).2.2.2) → zq S g sw le n m pa im kp he wl fe as D i (f (z_rtk le n 0 k).2.2.2 (z_rtk le n 0 k).1) (ai_res S 14 4 [.ref 12, .ref (sq (!sw)), .int i0, .int (nI r2)] [] (HP (g, (p2 (z_rtk le n 0 k).2.2.2), sw, (le, nI n, nI (z_rtk le n 0 (z_rtk le n 0 k).1).1, (z_rtk le n 0 (z_rtk le n 0 k).1).2.1, nI (z_rtk le n 0 (z_rtk le n 0 k).1).2.2.1, nu2, it, ns + 1, gt, vt, st), m, pa, im, kp, he, wl, fe, as) D))) :
    zq S g sw le n m pa im kp he wl fe as D i (zp_tn (z_rtk le n 0) k lo hi f) (ai_res S 14 4 [.ref 12, .ref (sq (!sw)), .int i0, .int (nI r)] [] (HP (g, p, sw, (le, nI n, nI (z_rtk le n 0 k).1, (z_rtk le n 0 k).2.1, nI (z_rtk le n 0 k).2.2.1, nu, it, ns, gt, vt, st), m, pa, im, kp, he, wl, fe, as) D)) := by
  obtain ⟨o1, o2, o3, o4⟩ := zp_T_ok le n k hk
  have o5 := (zp_T_ok le n (z_rtk le n 0 k).1 o1).2.1
  unfold zp_tn
  generalize hT : z_rtk le n 0 k = t0 at *
  obtain ⟨a1, a2, a3, a4⟩ := t0
  dsimp only at *
  by_cases hz : zp_num (a1, a2, a3, a4) lo hi
  · rw [if_pos hz]
    obtain ⟨e1, e2, e3⟩ := hz
    dsimp only at e1 e2 e3
    subst e1
    have e4 := hnu rfl
    subst e4
    have o6 := o4 (by decide)
    subst hlo
    subst hhi
    rw [x_ts_ok (hn := hn) (hk := o1) (hr := by omega) (ht := by decide) (h16 := x_tt_N1 (h0 := h0) (h1 := h1) (hl := h18 _ _ _ e2 e3) ..)]
    obtain ⟨nu2, g1, g2⟩ := z_rtk_nu le n nu a1 hle
    rw [g2, if_neg (show ¬ (257 : Int32) = 59 by decide)]
    exact hf nu2 (r + 1) (by omega) g1
  · rw [if_neg hz]
    by_cases h6 : a2 = 256
    · subst h6
      rw [x_ts_end, if_neg h0]
      exact ⟨_, _, _, _, _, _, _, _, _, _, rfl⟩
    · have o6 := o4 h6
      have hz2 : ¬ (a2 = 257 ∧ ¬ nu < z_lst it ns ∧ nu ≤ z_most it ns) := by
        intro h
        have e4 := hnu h.1
        subst e4
        subst hlo
        subst hhi
        exact hz h
      rw [x_ts_bad (hr := by omega) (ht := h6) (h16 := x_tt_N0 (h0 := h0) (h1 := h1) (hl := x_tn_b2 (hb := hz2) ..) ..)]
      exact ⟨_, _, _, _, _, _, _, _, _, _, rfl⟩
/-- the ; -/
theorem zq_e (S : ai_S) (g : sv_G) (sw : Bool) (le : Nat → Int32) (n : Nat) (m : sv_M) (pa : sv_P) (im : Nat → sv_M) (kp : Int32) (he : sv_H) (wl : Nat → Int32) (fe : Nat → Int32) (as : Int64) (D : sv_D) (hn : n ≤ 120) (hle : ∀ j, j < n → ¬ le j = 257) (i0 : Int32) (k r : Nat) (nu : Int32) (hk : k ≤ n) (hr : r ≤ (z_rtk le n 0 k).2.2.1) (it ns gt vt st : Int32) (h0 : ¬ it = 0) (h1 : ¬ ns < (if it = 99 then 4 else 1)) (gr vl sg : Int32) (c : Nat) (hc : c ≤ 6) (pr ha la wa : Nat → Int32) :
    zq S g sw le n m pa im kp he wl fe as D (i0 + 1) (zp_te (z_rtk le n 0) k (gr, vl, sg, c, pr, ha, la, wa, gt, vt, st)) (ai_res S 14 4 [.ref 12, .ref (sq (!sw)), .int i0, .int (nI r)] [] (HP (g, (gr, vl, sg, nI c, pr, ha, la, wa), sw, (le, nI n, nI (z_rtk le n 0 k).1, (z_rtk le n 0 k).2.1, nI (z_rtk le n 0 k).2.2.1, nu, it, ns, gt, vt, st), m, pa, im, kp, he, wl, fe, as) D)) := by
  obtain ⟨o1, o2, o3, o4⟩ := zp_T_ok le n k hk
  have o5 := (zp_T_ok le n (z_rtk le n 0 k).1 o1).2.1
  unfold zp_te
  generalize hT : z_rtk le n 0 k = t0 at *
  obtain ⟨a1, a2, a3, a4⟩ := t0
  dsimp only at *
  have h16 := fun p pc tp nu => x_tt_E (h0 := h0) (h1 := h1) S g p sw le (nI n) pc a2 tp nu it ns gt vt st m pa im kp he wl fe as D
  by_cases hz : a2 = 59
  · rw [if_pos hz]
    subst hz
    have o6 := o4 (by decide)
    rw [z_b_t rfl] at h16
    rw [x_ts_ok (hn := hn) (hk := o1) (hr := by omega) (ht := by decide) (h16 := h16 _ _ _ _)]
    obtain ⟨nu2, g1, g2⟩ := z_rtk_nu le n nu a1 hle
    rw [g2, if_pos rfl]
    exact ⟨o1, hc, r + 1, nu2, ns, by omega, g1, rfl⟩
  · rw [if_neg hz]
    by_cases h6 : a2 = 256
    · subst h6
      rw [x_ts_end, if_neg h0]
      exact ⟨_, _, _, _, _, _, _, _, _, _, rfl⟩
    · have o6 := o4 h6
      rw [z_b_f hz] at h16
      rw [x_ts_bad (hr := by omega) (ht := h6) (h16 := h16 _ _ _ _)]
      exact ⟨_, _, _, _, _, _, _, _, _, _, rfl⟩
