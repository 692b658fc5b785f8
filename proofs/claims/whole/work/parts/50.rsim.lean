/-! rows of shakes, one by one, and the class's table (pure) -/
section Sim
variable (Y L : Nat → Nat → Prop) (hdY : ∀ d p, Decidable (Y d p)) (hdL : ∀ d p, Decidable (L d p))
/-- k more shakes, d done, p of them plain: whether he yields just by the last -/
def z_sim (row : Nat) : Nat → Nat → Nat → Bool
  | 0, _, _ => false
  | k + 1, d, p => haveI := hdY (d + 1) (if row.testBit k then p else p + 1); haveI := hdL (d + 1) (if row.testBit k then p else p + 1); if Y (d + 1) (if row.testBit k then p else p + 1) then k == 0 else if L (d + 1) (if row.testBit k then p else p + 1) then false else z_sim row k (d + 1) (if row.testBit k then p else p + 1)
def z_FF (r p : Nat) : Nat := @z_F Y L hdY hdL r p
def z_UU (d p : Nat) : Nat := 1 + min (z_FF Y L hdY hdL (9 - d) (p + 1)) (z_FF Y L hdY hdL (9 - d) p)
def z_gr : Nat → Nat → Nat → Nat
  | 0, _, _ => 0
  | k + 1, d, p => if z_FF Y L hdY hdL (9 - d) p < z_FF Y L hdY hdL (9 - d) (p + 1) then 2 ^ k + z_gr k (d + 1) p else z_gr k (d + 1) (p + 1)
theorem z_FF_le (r p : Nat) : z_FF Y L hdY hdL r p ≤ 1000 := @z_F_le Y L hdY hdL r p
theorem z_FF_y (d p : Nat) (hd : d < 10) (h : Y (d + 1) p) : z_FF Y L hdY hdL (9 - d) p = 0 := by
  unfold z_FF
  by_cases h9 : d = 9
  · subst h9
    show @z_F Y L hdY hdL 0 p = 0
    rw [z_F, if_pos h]
  · obtain ⟨r, hr⟩ : ∃ r, 9 - d = r + 1 := ⟨8 - d, by omega⟩
    rw [hr, z_F, show 9 - r = d + 1 by omega, if_pos ⟨by omega, h⟩]
theorem z_FF_l (d p : Nat) (hd : d < 10) (h : ¬ Y (d + 1) p) (h2 : L (d + 1) p ∨ d = 9) : z_FF Y L hdY hdL (9 - d) p = 1000 := by
  unfold z_FF
  by_cases h9 : d = 9
  · subst h9
    show @z_F Y L hdY hdL 0 p = 1000
    rw [z_F, if_neg h]
  · obtain ⟨r, hr⟩ : ∃ r, 9 - d = r + 1 := ⟨8 - d, by omega⟩
    rw [hr, z_F, show 9 - r = d + 1 by omega, if_neg (fun z => h z.2), if_pos ⟨by omega, h2.resolve_right h9⟩]
theorem z_FF_n (d p : Nat) (hd : d < 9) (h : ¬ Y (d + 1) p) (h2 : ¬ L (d + 1) p) : z_FF Y L hdY hdL (9 - d) p = min 1000 (z_UU Y L hdY hdL (d + 1) p) := by
  unfold z_UU z_FF
  obtain ⟨r, hr⟩ : ∃ r, 9 - d = r + 1 := ⟨8 - d, by omega⟩
  have e : 9 - (d + 1) = r := by omega
  rw [e, hr, z_F, show 9 - r = d + 1 by omega, if_neg (fun z => h z.2), if_neg (fun z => h2 z.2)]
theorem z_FF_0 : z_FF Y L hdY hdL 10 0 = min 1000 (z_UU Y L hdY hdL 0 0) := by
  unfold z_UU z_FF
  rw [show (10 : Nat) = 9 + 1 from rfl, z_F, if_neg (fun z => absurd z.1 (by decide)), if_neg (fun z => absurd z.1 (by decide))]
theorem z_sim_y (row k d p : Nat) (h : Y (d + 1) (if row.testBit k then p else p + 1)) : z_sim Y L hdY hdL row (k + 1) d p = (k == 0) := by
  rw [z_sim, if_pos h]
theorem z_sim_l (row k d p : Nat) (h : ¬ Y (d + 1) (if row.testBit k then p else p + 1)) (h2 : L (d + 1) (if row.testBit k then p else p + 1)) : z_sim Y L hdY hdL row (k + 1) d p = false := by
  rw [z_sim, if_neg h, if_pos h2]
theorem z_sim_n (row k d p : Nat) (h : ¬ Y (d + 1) (if row.testBit k then p else p + 1)) (h2 : ¬ L (d + 1) (if row.testBit k then p else p + 1)) : z_sim Y L hdY hdL row (k + 1) d p = z_sim Y L hdY hdL row k (d + 1) (if row.testBit k then p else p + 1) := by
  rw [z_sim, if_neg h, if_neg h2]
/-- a row that brings it is as long as the table says, or longer -/
theorem z_sim_F (row : Nat) : ∀ k d p, d + k ≤ 10 → z_sim Y L hdY hdL row k d p = true → z_UU Y L hdY hdL d p ≤ k := by
  intro k
  induction k with
  | zero => intro d p _ h; exact absurd h (by rw [z_sim]; decide)
  | succ k ih =>
    intro d p hd h
    have key : z_FF Y L hdY hdL (9 - d) (if row.testBit k then p else p + 1) ≤ k := by
      by_cases hy : Y (d + 1) (if row.testBit k then p else p + 1)
      · rw [z_FF_y Y L hdY hdL d _ (by omega) hy]
        exact Nat.zero_le _
      · by_cases hl : L (d + 1) (if row.testBit k then p else p + 1)
        · rw [z_sim_l Y L hdY hdL row k d p hy hl] at h
          exact absurd h (by decide)
        · rw [z_sim_n Y L hdY hdL row k d p hy hl] at h
          by_cases h9 : d = 9
          · have : k = 0 := by omega
            subst this
            rw [z_sim] at h
            exact absurd h (by decide)
          · rw [z_FF_n Y L hdY hdL d _ (by omega) hy hl]
            have := ih (d + 1) _ (by omega) h
            omega
    unfold z_UU
    by_cases hb : row.testBit k = true
    · rw [if_pos hb] at key
      omega
    · rw [if_neg hb] at key
      omega
/-- only the lowest k bits of a row matter -/
theorem z_sim_low (r1 r2 : Nat) : ∀ k d p, (∀ j, j < k → r1.testBit j = r2.testBit j) → z_sim Y L hdY hdL r1 k d p = z_sim Y L hdY hdL r2 k d p := by
  intro k
  induction k with
  | zero => intro d p _; rfl
  | succ k ih =>
    intro d p h
    have hb := h k (by omega)
    by_cases hy : Y (d + 1) (if r2.testBit k then p else p + 1)
    · rw [z_sim_y Y L hdY hdL r2 k d p hy, z_sim_y Y L hdY hdL r1 k d p (by rw [hb]; exact hy)]
    · by_cases hl : L (d + 1) (if r2.testBit k then p else p + 1)
      · rw [z_sim_l Y L hdY hdL r2 k d p hy hl, z_sim_l Y L hdY hdL r1 k d p (by rw [hb]; exact hy) (by rw [hb]; exact hl)]
      · rw [z_sim_n Y L hdY hdL r2 k d p hy hl, z_sim_n Y L hdY hdL r1 k d p (by rw [hb]; exact hy) (by rw [hb]; exact hl), hb]
        exact ih _ _ (fun j hj => h j (by omega))
theorem z_gr_lt : ∀ k d p, z_gr Y L hdY hdL k d p < 2 ^ k := by
  intro k
  induction k with
  | zero => intro d p; exact Nat.one_pos
  | succ k ih =>
    intro d p
    have h1 := ih (d + 1) p
    have h2 := ih (d + 1) (p + 1)
    rw [z_gr, Nat.pow_succ]
    split <;> omega
theorem z_bit_hi (k x : Nat) (hx : x < 2 ^ k) : (2 ^ k + x).testBit k = true ∧ ∀ j, j < k → (2 ^ k + x).testBit j = x.testBit j := by
  constructor
  · rw [Nat.testBit_two_pow_add_eq, Nat.testBit_lt_two_pow hx]
    rfl
  · intro j hj
    exact Nat.testBit_two_pow_add_gt hj x
theorem z_bit_lo (k x : Nat) (hx : x < 2 ^ k) : x.testBit k = false := Nat.testBit_lt_two_pow hx
/-- the way of the table brings it, and it is the first that does -/
theorem z_gr_ok : ∀ k d p, d + (k + 1) ≤ 10 → z_UU Y L hdY hdL d p = k + 1 → z_sim Y L hdY hdL (z_gr Y L hdY hdL (k + 1) d p) (k + 1) d p = true ∧ ∀ row, row < 2 ^ (k + 1) → z_sim Y L hdY hdL row (k + 1) d p = true → z_gr Y L hdY hdL (k + 1) d p ≤ row := by
  intro k
  induction k with
  | zero =>
    intro d p hd hU
    unfold z_UU at hU
    have hg : z_gr Y L hdY hdL 1 d p = if z_FF Y L hdY hdL (9 - d) p < z_FF Y L hdY hdL (9 - d) (p + 1) then 1 else 0 := by
      rw [z_gr, z_gr, z_gr]
    have hyes : ∀ q, z_FF Y L hdY hdL (9 - d) q = 0 → Y (d + 1) q := by
      intro q hq
      have hn := z_FF_n Y L hdY hdL d q
      have hl := z_FF_l Y L hdY hdL d q (by omega)
      have := hdY (d + 1) q
      apply Decidable.byContradiction
      intro hy
      by_cases h2 : L (d + 1) q ∨ d = 9
      · have := hl hy h2
        omega
      · have := hn (by omega) hy (fun z => h2 (Or.inl z))
        unfold z_UU at this
        omega
    by_cases hlt : z_FF Y L hdY hdL (9 - d) p < z_FF Y L hdY hdL (9 - d) (p + 1)
    · rw [if_pos hlt] at hg
      rw [hg]
      constructor
      · exact z_sim_y Y L hdY hdL 1 0 d p (hyes p (by omega))
      · intro row hr hs
        by_cases h0 : row = 0
        · subst h0
          have h3 : ¬ Y (d + 1) (p + 1) := fun z => by
            have := z_FF_y Y L hdY hdL d (p + 1) (by omega) z
            omega
          exfalso
          by_cases hl : L (d + 1) (p + 1)
          · rw [z_sim_l Y L hdY hdL 0 0 d p h3 hl] at hs
            exact absurd hs (by decide)
          · rw [z_sim_n Y L hdY hdL 0 0 d p h3 hl, z_sim] at hs
            exact absurd hs (by decide)
        · omega
    · rw [if_neg hlt] at hg
      rw [hg]
      exact ⟨z_sim_y Y L hdY hdL 0 0 d p (hyes (p + 1) (by omega)), fun row _ _ => Nat.zero_le _⟩
  | succ k ih =>
    intro d p hd hU
    unfold z_UU at hU
    have hun : ∀ q, z_FF Y L hdY hdL (9 - d) q = k + 1 → ¬ Y (d + 1) q ∧ ¬ L (d + 1) q ∧ z_UU Y L hdY hdL (d + 1) q = k + 1 := by
      intro q hq
      have hy : ¬ Y (d + 1) q := fun z => by
        have := z_FF_y Y L hdY hdL d q (by omega) z
        omega
      have hl : ¬ L (d + 1) q := fun z => by
        have := z_FF_l Y L hdY hdL d q (by omega) hy (Or.inl z)
        omega
      have hn := z_FF_n Y L hdY hdL d q (by omega) hy hl
      refine ⟨hy, hl, by omega⟩
    rw [z_gr]
    by_cases hlt : z_FF Y L hdY hdL (9 - d) p < z_FF Y L hdY hdL (9 - d) (p + 1)
    · rw [if_pos hlt]
      obtain ⟨hy, hl, hu⟩ := hun p (by omega)
      obtain ⟨i1, i2⟩ := ih (d + 1) p (by omega) hu
      have hb := z_bit_hi (k + 1) _ (z_gr_lt Y L hdY hdL (k + 1) (d + 1) p)
      constructor
      · rw [z_sim_n Y L hdY hdL _ (k + 1) d p (by rw [if_pos hb.1]; exact hy) (by rw [if_pos hb.1]; exact hl), if_pos hb.1, z_sim_low Y L hdY hdL _ _ _ _ _ hb.2]
        exact i1
      · intro row hr hs
        by_cases hlo : row < 2 ^ (k + 1)
        · exfalso
          have hbl := z_bit_lo (k + 1) row hlo
          by_cases hy2 : Y (d + 1) (p + 1)
          · have := z_FF_y Y L hdY hdL d (p + 1) (by omega) hy2
            omega
          · by_cases hl2 : L (d + 1) (p + 1)
            · rw [z_sim_l Y L hdY hdL row (k + 1) d p (by rw [hbl]; exact hy2) (by rw [hbl]; exact hl2)] at hs
              exact absurd hs (by decide)
            · rw [z_sim_n Y L hdY hdL row (k + 1) d p (by rw [hbl]; exact hy2) (by rw [hbl]; exact hl2), hbl] at hs
              have h4 := z_sim_F Y L hdY hdL row (k + 1) (d + 1) (p + 1) (by omega) hs
              have h5 := z_FF_n Y L hdY hdL d (p + 1) (by omega) hy2 hl2
              omega
        · obtain ⟨x, hx⟩ : ∃ x, row = 2 ^ (k + 1) + x := ⟨row - 2 ^ (k + 1), by omega⟩
          subst hx
          rw [Nat.pow_succ 2 (k + 1)] at hr
          have hx2 : x < 2 ^ (k + 1) := by omega
          have hb2 := z_bit_hi (k + 1) x hx2
          rw [z_sim_n Y L hdY hdL _ (k + 1) d p (by rw [if_pos hb2.1]; exact hy) (by rw [if_pos hb2.1]; exact hl), if_pos hb2.1, z_sim_low Y L hdY hdL _ _ _ _ _ hb2.2] at hs
          have := i2 x hx2 hs
          omega
    · rw [if_neg hlt]
      obtain ⟨hy, hl, hu⟩ := hun (p + 1) (by omega)
      obtain ⟨i1, i2⟩ := ih (d + 1) (p + 1) (by omega) hu
      have hgl := z_gr_lt Y L hdY hdL (k + 1) (d + 1) (p + 1)
      have hb := z_bit_lo (k + 1) _ hgl
      constructor
      · rw [z_sim_n Y L hdY hdL _ (k + 1) d p (by rw [hb]; exact hy) (by rw [hb]; exact hl), hb]
        exact i1
      · intro row hr hs
        by_cases hlo : row < 2 ^ (k + 1)
        · have hbl := z_bit_lo (k + 1) row hlo
          rw [z_sim_n Y L hdY hdL row (k + 1) d p (by rw [hbl]; exact hy) (by rw [hbl]; exact hl), hbl] at hs
          exact i2 row hlo hs
        · omega
/-- the turns of the way -/
theorem z_gr_tn : ∀ k d j, j < k → (z_gr Y L hdY hdL k d (z_pl (z_FF Y L hdY hdL) d)).testBit (k - 1 - j) = decide (z_tn (z_FF Y L hdY hdL) (d + j) = 1) := by
  intro k
  induction k with
  | zero => intro d j hj; exact absurd hj (Nat.not_lt_zero _)
  | succ k ih =>
    intro d j hj
    rw [z_gr]
    have hp : z_pl (z_FF Y L hdY hdL) (d + 1) = if z_FF Y L hdY hdL (9 - d) (z_pl (z_FF Y L hdY hdL) d) < z_FF Y L hdY hdL (9 - d) (z_pl (z_FF Y L hdY hdL) d + 1) then z_pl (z_FF Y L hdY hdL) d else z_pl (z_FF Y L hdY hdL) d + 1 := rfl
    have ht : z_tn (z_FF Y L hdY hdL) d = if z_FF Y L hdY hdL (9 - d) (z_pl (z_FF Y L hdY hdL) d) < z_FF Y L hdY hdL (9 - d) (z_pl (z_FF Y L hdY hdL) d + 1) then 1 else 0 := rfl
    by_cases hlt : z_FF Y L hdY hdL (9 - d) (z_pl (z_FF Y L hdY hdL) d) < z_FF Y L hdY hdL (9 - d) (z_pl (z_FF Y L hdY hdL) d + 1)
    · rw [if_pos hlt] at hp ht ⊢
      have hb := z_bit_hi k _ (z_gr_lt Y L hdY hdL k (d + 1) (z_pl (z_FF Y L hdY hdL) d))
      cases j with
      | zero =>
        rw [show d + 0 = d from rfl, ht, show k + 1 - 1 - 0 = k by omega, hb.1]
        rfl
      | succ j =>
        have h2 := ih (d + 1) j (by omega)
        rw [hp] at h2
        rw [show k + 1 - 1 - (j + 1) = k - 1 - j by omega, hb.2 _ (by omega), h2, show d + 1 + j = d + (j + 1) by omega]
    · rw [if_neg hlt] at hp ht ⊢
      have hb := z_bit_lo k _ (z_gr_lt Y L hdY hdL k (d + 1) (z_pl (z_FF Y L hdY hdL) d + 1))
      cases j with
      | zero =>
        rw [show d + 0 = d from rfl, ht, show k + 1 - 1 - 0 = k by omega, hb]
        rfl
      | succ j =>
        have h2 := ih (d + 1) j (by omega)
        rw [hp] at h2
        rw [show k + 1 - 1 - (j + 1) = k - 1 - j by omega, h2, show d + 1 + j = d + (j + 1) by omega]
end Sim
