/-! the interpreter without fuel: an equation a block -/
def ai_NF (f : ai_Rec → ai_A) : Prop := (∃ o, ∀ r, f r = o) ∨ (∃ (m b : Nat) (ls st : List Value) (h : ai_H), ∀ r, f r = r m b ls st h) ∨ (∃ (j b0 : Nat) (ls0 st0 : List Value) (h0 : ai_H) (m b : Nat) (ls rest : List Value), ∀ r, f r = match r j b0 ls0 st0 h0 with
  | some (v, h1) => r m b ls (v.toList ++ rest) h1
  | none => none)
theorem nf_c (o : ai_A) : ai_NF (fun _ => o) := Or.inl ⟨o, fun _ => rfl⟩
theorem nf_r (m b : Nat) (ls st : List Value) (h : ai_H) : ai_NF (fun r => r m b ls st h) := Or.inr (Or.inl ⟨m, b, ls, st, h, fun _ => rfl⟩)
theorem nf_eq {f g : ai_Rec → ai_A} (hg : ai_NF g) (h : ∀ r, f r = g r) : ai_NF f := by
  have : f = g := funext h
  rw [this]; exact hg
theorem nf_if (P : Int32 → Prop) [DecidablePred P] (m b1 b2 : Nat) (ls st : List Value) (h : ai_H) : ai_NF (fun r => ai_if P r m b1 b2 ls st h) := by
  unfold ai_if
  split
  · split
    · exact nf_r _ _ _ _ _
    · exact nf_r _ _ _ _ _
  · exact nf_c _
theorem nf_if2 (P : Int32 → Int32 → Prop) [∀ x y, Decidable (P x y)] (m b1 b2 : Nat) (ls st : List Value) (h : ai_H) : ai_NF (fun r => ai_if2 P r m b1 b2 ls st h) := by
  unfold ai_if2
  split
  · split
    · exact nf_r _ _ _ _ _
    · exact nf_r _ _ _ _ _
  · exact nf_c _
theorem nf_nul (m b1 b2 : Nat) (ls st : List Value) (h : ai_H) : ai_NF (fun r => ai_nul r m b1 b2 ls st h) := by
  unfold ai_nul
  split
  · exact nf_r _ _ _ _ _
  · exact nf_r _ _ _ _ _
  · exact nf_c _
theorem nf_sw (m d : Nat) (ls st : List Value) (h : ai_H) (x : Int32) : ∀ t : List (Int32 × Nat), ai_NF (fun r => ai_sw r m d ls st h x t)
  | [] => nf_r _ _ _ _ _
  | (k, b) :: t => by
    by_cases hx : x = k
    · exact nf_eq (nf_r m b ls st h) (fun r => by unfold ai_sw; rw [if_pos hx])
    · exact nf_eq (nf_sw m d ls st h x t) (fun r => by rw [ai_sw, if_neg hx])
theorem nf_swt (m d : Nat) (t : List (Int32 × Nat)) (ls st : List Value) (h : ai_H) : ai_NF (fun r => ai_swt r m d t ls st h) := by
  unfold ai_swt
  split
  · exact nf_sw _ _ _ _ _ _ _
  · exact nf_c _
theorem nf_cal (m b1 b2 n ck ci : Nat) (ls st : List Value) (h : ai_H) : ai_NF (fun r => ai_cal r (ai_calr r) m b1 b2 n ck ci ls st h) := by
  unfold ai_cal
  split
  · rename_i as rest hs
    split
    · by_cases hc : (as.all fun v => v.category == 1) = true
      · refine Or.inr (Or.inr ⟨b2, 0, ai_init b2 as, [], h, m, b1, ls, rest, fun r => ?_⟩)
        show (match ai_calr r b2 as h with | some (v, h') => r m b1 ls (v.toList ++ rest) h' | none => none) = _
        unfold ai_calr
        rw [if_pos hc]
      · refine Or.inl ⟨none, fun r => ?_⟩
        show (match ai_calr r b2 as h with | some (v, h') => r m b1 ls (v.toList ++ rest) h' | none => none) = none
        unfold ai_calr
        rw [if_neg hc]
    · exact nf_c _
  · exact nf_c _
theorem nf_term (m : Nat) (t : ai_T) (ls st : List Value) (h : ai_H) : ai_NF (fun r => ai_term r (ai_calr r) m t ls st h) := by
  unfold ai_term
  split <;> first | exact nf_r _ _ _ _ _ | exact nf_if _ _ _ _ _ _ _ | exact nf_if2 _ _ _ _ _ _ _ | exact nf_nul _ _ _ _ _ _ | exact nf_swt _ _ _ _ _ _ | exact nf_cal _ _ _ _ _ _ _ _ _ | exact nf_c _
theorem nf_step (S : ai_S) (m b : Nat) (ls st : List Value) (h : ai_H) : ai_NF (fun r => ai_step r S m b ls st h) := by
  unfold ai_step
  split
  · exact nf_term _ _ _ _ _
  · exact nf_c _
def ai_lef (r r' : ai_Rec) : Prop := ∀ (m b : Nat) (ls st : List Value) (h : ai_H) (x : Option Value × ai_H), r m b ls st h = some x → r' m b ls st h = some x
theorem nf_mono {f : ai_Rec → ai_A} (hf : ai_NF f) {r r' : ai_Rec} (hr : ai_lef r r') {x : Option Value × ai_H} (h : f r = some x) : f r' = some x := by
  rcases hf with ⟨o, ho⟩ | ⟨m, b, ls, st, hh, ho⟩ | ⟨j, b0, ls0, st0, h0, m, b, ls, rest, ho⟩
  · rw [ho] at h ⊢; exact h
  · rw [ho] at h ⊢; exact hr _ _ _ _ _ _ h
  · rw [ho] at h ⊢
    split at h
    · rename_i v h1 e1
      rw [hr _ _ _ _ _ _ e1]
      exact hr _ _ _ _ _ _ h
    · cases h
theorem ai_run_succ (S : ai_S) : ∀ n, ai_lef (ai_run S n) (ai_run S (n + 1))
  | 0 => fun _ _ _ _ _ _ h => by cases h
  | n + 1 => fun m b ls st h x hx => nf_mono (nf_step S m b ls st h) (ai_run_succ S n) hx
theorem ai_run_ge (S : ai_S) {n k : Nat} (h : n ≤ k) : ai_lef (ai_run S n) (ai_run S k) := by
  induction h with
  | refl => exact fun _ _ _ _ _ _ h => h
  | step _ ih => exact fun m b ls st h x hx => ai_run_succ S _ m b ls st h x (ih m b ls st h x hx)
noncomputable def ai_res (S : ai_S) : ai_Rec := fun m b ls st h =>
  haveI := Classical.propDecidable (∃ x n, ai_run S n m b ls st h = some x)
  if hx : ∃ x n, ai_run S n m b ls st h = some x then some (Classical.choose hx) else none
theorem ai_res_run {S : ai_S} {m b : Nat} {ls st : List Value} {h : ai_H} {x : Option Value × ai_H} (hx : ai_res S m b ls st h = some x) : ∃ n, ai_run S n m b ls st h = some x := by
  unfold ai_res at hx
  split at hx
  · rename_i hh
    obtain ⟨n, hn⟩ := Classical.choose_spec hh
    cases hx
    exact ⟨n, hn⟩
  · cases hx
theorem ai_res_of {S : ai_S} {n m b : Nat} {ls st : List Value} {h : ai_H} {x : Option Value × ai_H} (hx : ai_run S n m b ls st h = some x) : ai_res S m b ls st h = some x := by
  have hh : ∃ x n, ai_run S n m b ls st h = some x := ⟨x, n, hx⟩
  obtain ⟨k, hk⟩ := Classical.choose_spec hh
  have h1 := ai_run_ge S (Nat.le_max_left n k) m b ls st h _ hx
  have h2 := ai_run_ge S (Nat.le_max_right n k) m b ls st h _ hk
  rw [h1] at h2
  unfold ai_res
  rw [dif_pos hh]
  exact h2.symm
theorem ai_res_eq (S : ai_S) (m b : Nat) (ls st : List Value) (h : ai_H) : ai_res S m b ls st h = ai_step (ai_res S) S m b ls st h := by
  have h1 : ∀ x, ai_res S m b ls st h = some x → ai_step (ai_res S) S m b ls st h = some x := by
    intro x hx
    obtain ⟨n, hn⟩ := ai_res_run hx
    cases n with
    | zero => cases hn
    | succ n => exact nf_mono (nf_step S m b ls st h) (fun m b ls st h x hx => ai_res_of hx) hn
  have h2 : ∀ x, ai_step (ai_res S) S m b ls st h = some x → ai_res S m b ls st h = some x := by
    intro x hx
    rcases nf_step S m b ls st h with ⟨o, ho⟩ | ⟨m', b', ls', st', hh, ho⟩ | ⟨j, b0, ls0, st0, h0, m', b', ls', rest, ho⟩
    · dsimp only at ho
      rw [ho] at hx
      refine ai_res_of (n := 1) ?_
      show ai_step (ai_run S 0) S m b ls st h = some x
      rw [ho]; exact hx
    · dsimp only at ho
      rw [ho] at hx
      obtain ⟨n, hn⟩ := ai_res_run hx
      refine ai_res_of (n := n + 1) ?_
      show ai_step (ai_run S n) S m b ls st h = some x
      rw [ho]; exact hn
    · dsimp only at ho
      rw [ho] at hx
      split at hx
      · rename_i v h1 e1
        obtain ⟨n1, g1⟩ := ai_res_run e1
        obtain ⟨n2, g2⟩ := ai_res_run hx
        have k1 := ai_run_ge S (Nat.le_max_left n1 n2) _ _ _ _ _ _ g1
        have k2 := ai_run_ge S (Nat.le_max_right n1 n2) _ _ _ _ _ _ g2
        refine ai_res_of (n := max n1 n2 + 1) ?_
        show ai_step (ai_run S (max n1 n2)) S m b ls st h = some x
        rw [ho, k1]; exact k2
      · cases hx
  cases hy : ai_res S m b ls st h with
  | some x => exact (h1 x hy).symm
  | none =>
    cases hz : ai_step (ai_res S) S m b ls st h with
    | some x => rw [h2 x hz] at hy; cases hy
    | none => rfl
/-- a call, and what is left of a block -/
noncomputable def ai_call (S : ai_S) : ai_Cal := ai_calr (ai_res S)
noncomputable def ai_go (S : ai_S) (m : Nat) (is : List ai_I) (t : ai_T) (ls st : List Value) (h : ai_H) : ai_A := match ai_xl S is ls st h with
  | some (ls', st', h') => ai_term (ai_res S) (ai_call S) m t ls' st' h'
  | none => none
theorem ai_blk_go (S : ai_S) (m b : Nat) (ls st : List Value) (h : ai_H) : ai_res S m b ls st h = ai_go S m (ai_blk m b).2.1 (ai_blk m b).2.2 ls st h := ai_res_eq S m b ls st h
theorem ai_go_cons (S : ai_S) (m : Nat) (i : ai_I) (is : List ai_I) (t : ai_T) (ls st : List Value) (h : ai_H) : ai_go S m (i :: is) t ls st h = match ai_op S i ls st h with
  | some (ls', st', h') => ai_go S m is t ls' st' h'
  | none => none := by
  unfold ai_go
  rw [ai_xl]
  cases ai_op S i ls st h with
  | none => rfl
  | some x => rfl
theorem ai_go_nil (S : ai_S) (m : Nat) (t : ai_T) (ls st : List Value) (h : ai_H) : ai_go S m [] t ls st h = ai_term (ai_res S) (ai_call S) m t ls st h := rfl
