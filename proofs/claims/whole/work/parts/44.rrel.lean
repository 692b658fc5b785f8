/-! relations: a Moment and 18 numbers; what can be undone -/
def MR (n : Nat) (M : sv_M) (f : Nat → Int32) : Prop :=
  (∀ k, k < 6 → f k = M.1 k ∧ f (6 + k) = M.2.1 k) ∧ f 12 = M.2.2.1 ∧ f 13 = M.2.2.2.1 ∧ f 14 = M.2.2.2.2.1 ∧ f 15 = M.2.2.2.2.2.1 ∧ f 16 = M.2.2.2.2.2.2.1 ∧
  ((M.2.2.2.2.2.2.2 = -9 ∧ f 17 = 0) ∨ ∃ c, c < n ∧ M.2.2.2.2.2.2.2 = nI c ∧ f 17 = nI (c + 1)) ∧
  (∃ y, y < 2 ^ n ∧ M.2.2.1 = nI y) ∧ (∃ l, l < 2 ^ n ∧ M.2.2.2.1 = nI l) ∧ M.2.2.2.2.2.1 ≤ 999
theorem MR_congr {n : Nat} {M : sv_M} {f g : Nat → Int32} (h : MR n M f) (hg : ∀ j, j < 18 → g j = f j) : MR n M g := by
  obtain ⟨h1, h2, h3, h4, h5, h6, h7, h8, h9, h10⟩ := h
  refine ⟨fun k hk => ⟨by rw [hg k (by omega)]; exact (h1 k hk).1, by rw [hg (6 + k) (by omega)]; exact (h1 k hk).2⟩, by rw [hg 12 (by omega)]; exact h2, by rw [hg 13 (by omega)]; exact h3, by rw [hg 14 (by omega)]; exact h4, by rw [hg 15 (by omega)]; exact h5, by rw [hg 16 (by omega)]; exact h6, ?_, h8, h9, h10⟩
  rw [hg 17 (by omega)]
  exact h7
theorem MR_cp {n : Nat} {M : sv_M} {f : Nat → Int32} (o : sv_M) (h : MR n M f) : MR n (z_cpm o M) f := by
  obtain ⟨h1, h⟩ := h
  refine ⟨fun k hk => ?_, h⟩
  unfold z_cpm
  dsimp only
  rw [z_cp_at _ _ 6 k hk, z_cp_at _ _ 6 k hk]
  exact h1 k hk
/-- what notes makes of the moments that are known -/
def UN (u : Nat) (s a b : Nat → Int32) : Prop := (∀ j, j < 18 → b (18 * (min 10 (u + 1) - 1) + j) = s j) ∧ ∀ e, e < min 10 (u + 1) - 1 → ∀ j, j < 18 → b (18 * e + j) = a (18 * (e + (u + 1 - min 10 (u + 1))) + j)
/-- the ring of Moments and the row of 180 -/
def UR (n i u : Nat) (rw : Nat → sv_M) (a : Nat → Int32) : Prop := u ≤ 10 ∧ i < 10 ∧ ∀ e, e < u → MR n (rw ((i + 10 - u + e) % 10)) (fun j => a (18 * e + j))
theorem UR_push {n i u : Nat} {rw : Nat → sv_M} {a b s : Nat → Int32} {M o : sv_M} (h : UR n i u rw a) (hM : MR n M s) (hU : UN u s a b) : UR n ((i + 1) % 10) (min 10 (u + 1)) (va_up rw i (z_cpm o M)) b := by
  obtain ⟨hu, hi, h⟩ := h
  obtain ⟨h1, h2⟩ := hU
  refine ⟨by omega, by omega, fun e he => ?_⟩
  by_cases hl : e = min 10 (u + 1) - 1
  · have e1 : ((i + 1) % 10 + 10 - min 10 (u + 1) + e) % 10 = i := by omega
    rw [e1, show va_up rw i (z_cpm o M) i = z_cpm o M from if_pos rfl]
    subst hl
    exact MR_cp o (MR_congr hM h1)
  · have e1 : ((i + 1) % 10 + 10 - min 10 (u + 1) + e) % 10 = (i + 10 - u + (e + (u + 1 - min 10 (u + 1)))) % 10 := by omega
    have e2 : ¬ ((i + 1) % 10 + 10 - min 10 (u + 1) + e) % 10 = i := by omega
    rw [show va_up rw i (z_cpm o M) _ = rw (((i + 1) % 10 + 10 - min 10 (u + 1) + e) % 10) from if_neg e2, e1]
    exact MR_congr (h (e + (u + 1 - min 10 (u + 1))) (by omega)) (fun j hj => h2 e (by omega) j hj)
theorem UR_pop {n i u : Nat} {rw : Nat → sv_M} {a : Nat → Int32} (h : UR n i (u + 1) rw a) : UR n ((i + 9) % 10) u rw a ∧ MR n (rw ((i + 9) % 10)) (fun j => a (18 * u + j)) := by
  obtain ⟨hu, hi, h⟩ := h
  refine ⟨⟨by omega, by omega, fun e he => ?_⟩, ?_⟩
  · have e1 : ((i + 9) % 10 + 10 - u + e) % 10 = (i + 10 - (u + 1) + e) % 10 := by omega
    rw [e1]
    exact h e (by omega)
  · have e1 : (i + 9) % 10 = (i + 10 - (u + 1) + u) % 10 := by omega
    rw [e1]
    exact h u (by omega)
theorem r_notesU (S : ai_S) (V : sv_V) (th : Int32) (tr : Int64) (ty : Int32) (nx : Int32) (tk : Int32) (pl : Int32) (va : Int32) (fa : Int32) (to : Int32) (um : Int32) (te : Int32) (hd : Int32) (wr : Int32) (a0 : Nat → Int32) (a1 : Nat → Int32) (a2 : Nat → Int32) (a3 : Nat → Int32) (a4 : Nat → Int32) (a5 : Nat → Int32) (a6 : Nat → Int32) (a7 : Nat → Int32) (a8 : Nat → Int32) (a9 : Nat → Int32) (a10 : Nat → Int32) (a11 : Nat → Int32) (a12 : Nat → Int32) (a13 : Nat → Int32) (u : Nat) (hu : u ≤ 10) : ∃ a9', UN u a6 a9 a9' ∧ ai_call S 108 [.ref 62] (HP V ((th, tr, ty, nx, tk, pl, va, fa, to, nI u, te, hd, wr), (a0, a1, a2, a3, a4, a5, a6, a7, a8, a9, a10, a11, a12, a13))) = some (none, HP V ((th, tr, ty, nx, tk, pl, va, fa, to, nI (min 10 (u + 1)), te, hd, wr), (a0, a1, a2, a3, a4, a5, a6, a7, a8, a9', a10, a11, a12, a13))) := by
  by_cases h : u = 10
  · subst h
    obtain ⟨b9, h1, h2, h3⟩ := r_notes10 S V th tr ty nx tk pl va fa to um te hd wr a0 a1 a2 a3 a4 a5 a6 a7 a8 a9 a10 a11 a12 a13
    refine ⟨b9, ⟨fun j hj => h1 j hj, fun e he j hj => ?_⟩, h3⟩
    have e1 : min 10 (10 + 1) = 10 := rfl
    rw [e1] at he ⊢
    rw [h2 _ (by omega)]
    congr 1
    omega
  · obtain ⟨b9, h1, h2, h3⟩ := r_notes S V th tr ty nx tk pl va fa to um te hd wr a0 a1 a2 a3 a4 a5 a6 a7 a8 a9 a10 a11 a12 a13 u (by omega)
    have e1 : min 10 (u + 1) = u + 1 := by omega
    refine ⟨b9, ⟨fun j hj => ?_, fun e he j hj => ?_⟩, ?_⟩
    · rw [e1]
      exact h1 j hj
    · rw [e1] at he ⊢
      rw [h2 _ (by omega)]
      congr 1
      omega
    · rw [e1]
      exact h3
