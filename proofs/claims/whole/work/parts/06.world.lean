/-! what an abstract state says of the machine's -/
def ai_ad (bA base : Nat) (k : Nat) : Nat := match k with
  | 0 => bA
  | k + 1 => base + k
def ai_cv (bA base : Nat) (v : Value) : Value := match v with
  | .ref k => .ref (ai_ad bA base k)
  | v => v
def ai_ce (bA base : Nat) (ca : Nat → ClassId) (x : va_E) : va_E := match x with
  | .inl (t, n, .inr (.inr (.inr (.inr f)))) => .inl (ca t, n, .inr (.inr (.inr (.inr (fun j => (f j).map (ai_ad bA base))))))
  | .inl (t, n, y) => .inl (ca t, n, y)
  | .inr (ci, fs) => .inr (ci, fs.map (ai_cv bA base))
def ai_cw (bA base : Nat) (ca : Nat → ClassId) (h : ai_H) : va_W := h.mapIdx (fun k x => (base + k, ai_ce bA base ca x))
def ai_tys (ca : Nat → ClassId) : List (ClassId × FieldType) := [(ca 0, .int), (ca 1, .boolean), (ca 2, .object "VelvetHand$Moment")]
def ai_KK (dC : Nat → ClassId) (dI : Nat → Nat → Nat) (ca : Nat → ClassId) (s : State) : Prop := va_K (dC, dI) vwCl (ai_tys ca) s ∧ (∀ w ∈ ai_NW, va_Nw w s) ∧ va_AO "VelvetHand$Moment" s
def ai_sz1 (x : va_E) : Nat := match x with
  | .inl (_, n, _) => n
  | .inr (_, fs) => fs.length
def ai_sz (h : ai_H) : Nat := (h.map ai_sz1).sum
def ai_lv (bA base : Nat) : Nat → List Value → List (Nat × Value)
  | _, [] => []
  | i, v :: t => if v = ai_u then ai_lv bA base (i + 1) t else (i, ai_cv bA base v) :: ai_lv bA base (i + 1) t
/-- the locals -/
def ai_LR (bA base : Nat) (c : Code) (lsC : Array Slot) (ls : List Value) : Prop := ls.length = c.maxLocals ∧ (∀ v ∈ ls, v.category = 1) ∧ lv_has lsC ls.length (ai_lv bA base 0 ls)
/-- the heap -/
def ai_Wd (bA base : Nat) (dC : Nat → ClassId) (dI : Nat → Nat → Nat) (ca : Nat → ClassId) (s : State) (h : ai_H) (H : Heap) (locs : List Loc) : Prop := va_P (dC, dI) vwCl (ai_cw bA base ca h) H ∧ va_S (fun q : Nat => base ≤ q) s.heap H locs
/-- what stays the same in a method's body; k: which method -/
def ai_CX (bA base : Nat) (dC : Nat → ClassId) (dI : Nat → Nat → Nat) (ca : Nat → ClassId) (S : ai_S) (p : Program) (R : Room) (s : State) (m : MethodId) (args : Array Value) (meth : Method) (c : Code) (k n0 : Nat) : Prop :=
  p.tables.exec = Jvm.exec ∧ c.code = ai_c k ∧ s.vm.findClass (ai_own (ai_mo k)) = some m.cls ∧ (∀ w ∈ ai_TB, w.before args s = true) ∧ ai_KK dC dI ca s ∧ va_X bA S.1 S.2 s s.heap ∧ bA < base ∧ s.heap.size = base + n0 ∧ (ai_ini k = true → meth.name = "<init>") ∧ ai_fr k ≤ R.frames ∧ ai_lo k ≤ R.locals
/-- an abstract point is good: the machine goes from it to Q -/
def ai_G (bA base : Nat) (dC : Nat → ClassId) (dI : Nat → Nat → Nat) (ca : Nat → ClassId) (p : Program) (l : Launch) (e : Env) (R : Room) (s : State) (m : MethodId) (args : Array Value) (below : List Frame) (meth : Method) (c : Code) (Q : State → Prop) (n0 z0 pc : Nat) (ls st : List Value) (h : ai_H) : Prop :=
  ∀ (H : Heap) (locs : List Loc) (lsC : Array Slot), ai_LR bA base c lsC ls → ai_Wd bA base dC dI ca s h H locs → W p l e R s m args below meth c H locs (h.length - n0) (ai_sz h - z0) Q (F0 m pc lsC (st.map (ai_cv bA base)))
-- pure rows
theorem ai_cv_cat (bA base : Nat) (v : Value) : (ai_cv bA base v).category = v.category := by cases v <;> rfl
theorem ai_lv_of {bA base : Nat} : ∀ (ls : List Value) (i j : Nat) (w : Value), (j, w) ∈ ai_lv bA base i ls → ∃ v, i ≤ j ∧ ls[j - i]? = some v ∧ v ≠ ai_u ∧ w = ai_cv bA base v
  | [], i, j, w, h => by cases h
  | v :: t, i, j, w, h => by
    unfold ai_lv at h
    split at h
    · obtain ⟨u, h1, h2, h3⟩ := ai_lv_of t (i + 1) j w h
      refine ⟨u, by omega, ?_, h3⟩
      rw [show j - i = (j - (i + 1)) + 1 by omega, List.getElem?_cons_succ]
      exact h2
    · rename_i hv
      rcases List.mem_cons.mp h with h | h
      · cases h
        exact ⟨v, Nat.le_refl _, by rw [Nat.sub_self]; rfl, hv, rfl⟩
      · obtain ⟨u, h1, h2, h3⟩ := ai_lv_of t (i + 1) j w h
        refine ⟨u, by omega, ?_, h3⟩
        rw [show j - i = (j - (i + 1)) + 1 by omega, List.getElem?_cons_succ]
        exact h2
theorem ai_lv_in {bA base : Nat} : ∀ (ls : List Value) (i j : Nat) (v : Value), ls[j]? = some v → v ≠ ai_u → (i + j, ai_cv bA base v) ∈ ai_lv bA base i ls
  | [], i, j, v, h, _ => by simp at h
  | w :: t, i, j, v, h, hv => by
    unfold ai_lv
    cases j with
    | zero =>
      rw [List.getElem?_cons_zero] at h
      cases h
      rw [if_neg hv]
      exact List.mem_cons_self
    | succ j =>
      rw [List.getElem?_cons_succ] at h
      have h2 := ai_lv_in (bA := bA) (base := base) t (i + 1) j v h hv
      rw [show i + 1 + j = i + (j + 1) by omega] at h2
      split
      · exact h2
      · exact List.mem_cons_of_mem _ h2
theorem ai_rd {bA base : Nat} {c : Code} {lsC : Array Slot} {ls : List Value} (h : ai_LR bA base c lsC ls) {a : Nat} {v : Value} (hv : ls[a]? = some v) (hn : v ≠ ai_u) : lsC[a]? = some (.val (ai_cv bA base v)) := by
  have h2 := h.2.2.2.2 _ (ai_lv_in ls 0 a v hv hn)
  rw [Nat.zero_add] at h2
  exact h2
theorem ai_place {bA base : Nat} {ls : List Value} {a : Nat} {v : Value} (hv : ls[a]? = some v) (hn : v ≠ ai_u) : ∃ k : Nat, (ai_lv bA base 0 ls)[k]? = some (a, ai_cv bA base v) := by
  have h2 := ai_lv_in (bA := bA) (base := base) ls 0 a v hv hn
  rw [Nat.zero_add] at h2
  exact List.getElem?_of_mem h2
theorem ai_wr {bA base : Nat} {c : Code} {lsC lsC' : Array Slot} {ls : List Value} {a : Nat} {v : Value} (h : ai_LR bA base c lsC ls) (hc : v.category = 1)
    (h' : lv_has lsC' ls.length ((a, ai_cv bA base v) :: (ai_lv bA base 0 ls).filter (fun q => !(q.1 == a) && !(q.1 + 1 == a && q.2.category == 2)))) : ai_LR bA base c lsC' (ls.set a v) := by
  refine ⟨by rw [List.length_set]; exact h.1, fun w hw => ?_, ?_⟩
  · rcases List.mem_or_eq_of_mem_set hw with h1 | h1
    · exact h.2.1 w h1
    · rw [h1]; exact hc
  · rw [List.length_set]
    refine ⟨h'.1, h'.2.1, fun q hq => h'.2.2 q ?_⟩
    obtain ⟨j, w⟩ := q
    obtain ⟨u, -, h2, h3, h4⟩ := ai_lv_of _ _ _ _ hq
    rw [Nat.sub_zero] at h2
    by_cases hj : a = j
    · subst hj
      have ha : a < ls.length := by
        have := (List.getElem?_eq_some_iff.mp h2).1
        rwa [List.length_set] at this
      rw [List.getElem?_set_self ha] at h2
      cases h2
      rw [h4]
      exact List.mem_cons_self
    · rw [List.getElem?_set_ne hj] at h2
      have h5 := ai_lv_in (bA := bA) (base := base) ls 0 j u h2 h3
      rw [Nat.zero_add, ← h4] at h5
      refine List.mem_cons_of_mem _ (List.mem_filter.mpr ⟨h5, ?_⟩)
      have h6 : w.category = 1 := by rw [h4, ai_cv_cat]; exact h.2.1 u (List.mem_of_getElem? h2)
      have h7 : ¬ j = a := fun z => hj z.symm
      simp [h6, h7]
theorem ai_cw_get (bA base : Nat) (ca : Nat → ClassId) (h : ai_H) (k : Nat) : (ai_cw bA base ca h)[k]? = (h[k]?).map (fun x => (base + k, ai_ce bA base ca x)) := by
  unfold ai_cw
  rw [List.getElem?_mapIdx]
theorem ai_cw_at {bA base : Nat} {ca : Nat → ClassId} {h : ai_H} {k : Nat} {x : va_E} (hk : h[k]? = some x) : (ai_cw bA base ca h)[k]? = some (base + k, ai_ce bA base ca x) := by
  rw [ai_cw_get, hk]; rfl
theorem ai_cw_set (bA base : Nat) (ca : Nat → ClassId) (h : ai_H) (k : Nat) (x : va_E) : (ai_cw bA base ca h).set k (base + k, ai_ce bA base ca x) = ai_cw bA base ca (h.set k x) := by
  apply List.ext_getElem?
  intro j
  rw [ai_cw_get, List.getElem?_set, List.getElem?_set, ai_cw_get]
  have hl : (ai_cw bA base ca h).length = h.length := by unfold ai_cw; rw [List.length_mapIdx]
  rw [hl]
  by_cases hj : k = j
  · subst hj
    rw [if_pos rfl, if_pos rfl]
    by_cases hk : k < h.length
    · rw [if_pos hk, if_pos hk]; rfl
    · rw [if_neg hk, if_neg hk]; rfl
  · rw [if_neg hj, if_neg hj]
theorem ai_cw_app (bA base : Nat) (ca : Nat → ClassId) (h : ai_H) (x : va_E) : ai_cw bA base ca (h ++ [x]) = ai_cw bA base ca h ++ [(base + h.length, ai_ce bA base ca x)] := by
  unfold ai_cw
  rw [List.mapIdx_concat]
theorem ai_D (bA base : Nat) (ca : Nat → ClassId) (h : ai_H) : va_D (fun q : Nat => base ≤ q) (ai_cw bA base ca h) := by
  have key : ∀ (k : Nat) (q : Nat × va_E), (ai_cw bA base ca h)[k]? = some q → q.1 = base + k := by
    intro k q hq
    rw [ai_cw_get] at hq
    cases hx : h[k]? with
    | none => rw [hx] at hq; cases hq
    | some x => rw [hx] at hq; cases hq; rfl
  refine ⟨fun i j p q hi hj he => ?_, fun k q hk => ?_⟩
  · have h1 := key i p hi
    have h2 := key j q hj
    omega
  · have := key k q hk
    show base ≤ q.1
    omega
theorem ai_sz_set {h : ai_H} {k : Nat} {x y : va_E} (hk : h[k]? = some x) (hs : ai_sz1 y = ai_sz1 x) : ai_sz (h.set k y) = ai_sz h := by
  unfold ai_sz
  rw [List.map_set, hs]
  have h1 : (h.map ai_sz1)[k]? = some (ai_sz1 x) := by rw [List.getElem?_map, hk]; rfl
  have h2 : (h.map ai_sz1).set k (ai_sz1 x) = h.map ai_sz1 := by
    apply List.ext_getElem?
    intro j
    rw [List.getElem?_set]
    by_cases hj : k = j
    · subst hj
      rw [if_pos rfl, h1, if_pos (List.getElem?_eq_some_iff.mp h1).1]
    · rw [if_neg hj]
  rw [h2]
theorem ai_sz_app (h : ai_H) (x : va_E) : ai_sz (h ++ [x]) = ai_sz h + ai_sz1 x := by
  unfold ai_sz
  rw [List.map_append, List.sum_append]
  simp
-- what the checks give
theorem ai_all {α : Type} {l : List α} {f : α → Bool} (h : l.all f = true) {x : α} (hx : x ∈ l) : f x = true := List.all_eq_true.mp h x hx
theorem ai_vwCl {ci : Nat} (h : ci < 7) : vwCl[ci]? = some ((ai_cl ci).1, (ai_cl ci).2.1, (ai_cl ci).2.2) := by
  match ci, h with
  | 0, _ => rfl
  | 1, _ => rfl
  | 2, _ => rfl
  | 3, _ => rfl
  | 4, _ => rfl
  | 5, _ => rfl
  | 6, _ => rfl
theorem ai_tyok {ci : Nat} (h : ci < 7) : ∀ k, k < (ai_cl ci).2.2 → parseFieldDescriptor ((ai_cl ci).2.1 k).2.2.1 = some (ai_fty ci k) := by
  match ci, h with
  | 0, _ => exact tyX0_ok
  | 1, _ => exact tyX1_ok
  | 2, _ => exact tyX2_ok
  | 3, _ => exact tyX3_ok
  | 4, _ => exact tyX4_ok
  | 5, _ => exact tyX5_ok
  | 6, _ => exact tyX6_ok
theorem ai_nm {ci : Nat} (h : ci < 7) : ∀ a, a < (ai_cl ci).2.2 → ∀ b, b < (ai_cl ci).2.2 → a ≠ b → ((ai_cl ci).2.1 a).2.1 ≠ ((ai_cl ci).2.1 b).2.1 := by
  match ci, h with
  | 0, _ => exact nmX0
  | 1, _ => exact nmX1
  | 2, _ => exact nmX2
  | 3, _ => exact nmX3
  | 4, _ => exact nmX4
  | 5, _ => exact nmX5
  | 6, _ => exact nmX6
theorem ai_uws {ci : Nat} (h : ci < 7) : (∀ w ∈ u_ws (ai_cl ci).1 (ai_cl ci).2.1 (ai_cl ci).2.2, w ∈ ai_TB) ∧ Cond.instantiable (ai_cl ci).1 (ai_cl ci).2.2 ∈ ai_TB ∧ Cond.initialized (ai_cl ci).1 ∈ ai_TB := by
  have h1 := ai_all ai_UL_ok (List.mem_range.mpr h)
  unfold ai_ul1 at h1
  split at h1
  · rw [Bool.and_eq_true, Bool.and_eq_true] at h1
    refine ⟨fun w hw => ?_, ai_at_in h1.2.1, ai_at_in h1.2.2⟩
    unfold u_ws at hw
    obtain ⟨k, hk, rfl⟩ := List.mem_map.mp hw
    exact ai_at_in (ai_all h1.1 hk)
  · cases h1
theorem ai_okF_of {m a b c : Nat} (h : ai_okF m a b c = true) : a < 7 ∧ b < (ai_cl a).2.2 ∧ Cond.fieldLink (ai_own (ai_mo m)) c ((ai_cl a).2.1 b).1 ((ai_cl a).2.1 b).2.1 ((ai_cl a).2.1 b).2.2.1 ∈ ai_TB := by
  unfold ai_okF at h
  obtain ⟨x, hx, h1⟩ := List.any_eq_true.mp h
  simp only [Bool.and_eq_true, beq_iff_eq] at h1
  obtain ⟨e1, e2, e3, e4⟩ := h1
  have h2 := ai_all ai_FL_ok hx
  unfold ai_fl1 at h2
  rw [e1, e2, e3, e4] at h2
  simp only [Bool.and_eq_true, decide_eq_true_eq] at h2
  exact ⟨h2.1, h2.2.1, ai_at_in h2.2.2⟩
