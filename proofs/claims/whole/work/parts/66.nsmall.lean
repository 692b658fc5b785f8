/-! constructors: rows, the small ones -/
section Nw
variable (S : ai_S) (m : Nat) (is : List ai_I) (t : ai_T) (ls st : List Value) (h : ai_H) (a b c : Nat) (z : Int32)
theorem nw_o : ai_go S m ((39, a, b, c, z) :: is) t ls st h = ai_go S m is t ls (.ref (h.length + 1) :: st) (h ++ [.inr (a, ai_fresh a)]) := by
  rw [ai_go_cons]
  rfl
theorem nw_obj (q : Nat) : ai_go S m ((47, a, b, c, z) :: is) t ls [.ref q] h = ai_go S m is t ls [] h := by
  rw [ai_go_cons]
  rfl
theorem nw_i (k : Nat) (hk : k ≤ 1000) : ai_go S m ((36, a, b, c, z) :: is) t ls (.int (nI k) :: st) h = ai_go S m is t ls (.ref (h.length + 1) :: st) (h ++ [.inl (0, k, .inl (fun _ => 0))]) := by
  rw [ai_go_cons]
  have h1 := nI_pos (n := k) (by omega)
  have h2 := nI_clamp (n := k) (by omega)
  show (match (if nI k < 0 ∨ 1000 < (nI k).toNatClampNeg then none else some (ls, .ref (h.length + 1) :: st, h ++ [.inl (0, (nI k).toNatClampNeg, .inl (fun _ => 0))])) with | some (ls', st', h') => ai_go S m is t ls' st' h' | none => none) = _
  rw [if_neg (by
    intro z
    rcases z with z | z
    · exact h1 z
    · omega), h2]
theorem nw_z (k : Nat) (hk : k ≤ 1000) : ai_go S m ((37, a, b, c, z) :: is) t ls (.int (nI k) :: st) h = ai_go S m is t ls (.ref (h.length + 1) :: st) (h ++ [.inl (1, k, .inl (fun _ => 0))]) := by
  rw [ai_go_cons]
  have h1 := nI_pos (n := k) (by omega)
  have h2 := nI_clamp (n := k) (by omega)
  show (match (if nI k < 0 ∨ 1000 < (nI k).toNatClampNeg then none else some (ls, .ref (h.length + 1) :: st, h ++ [.inl (1, (nI k).toNatClampNeg, .inl (fun _ => 0))])) with | some (ls', st', h') => ai_go S m is t ls' st' h' | none => none) = _
  rw [if_neg (by
    intro z
    rcases z with z | z
    · exact h1 z
    · omega), h2]
theorem nw_r (k : Nat) (hk : k ≤ 1000) : ai_go S m ((38, a, b, c, z) :: is) t ls (.int (nI k) :: st) h = ai_go S m is t ls (.ref (h.length + 1) :: st) (h ++ [.inl (2, k, .inr (.inr (.inr (.inr (fun _ => none)))))]) := by
  rw [ai_go_cons]
  have h1 := nI_pos (n := k) (by omega)
  have h2 := nI_clamp (n := k) (by omega)
  show (match (if nI k < 0 ∨ 1000 < (nI k).toNatClampNeg then none else some (ls, .ref (h.length + 1) :: st, h ++ [.inl (2, (nI k).toNatClampNeg, .inr (.inr (.inr (.inr (fun _ => none)))))])) with | some (ls', st', h') => ai_go S m is t ls' st' h' | none => none) = _
  rw [if_neg (by
    intro z
    rcases z with z | z
    · exact h1 z
    · omega), h2]
theorem nw_aast (v : Nat) (i : Int32) (q : Nat) : ai_go S m ((34, a, b, c, z) :: is) t ls (.ref v :: .int i :: .ref q :: st) h = (ai_ra h q).bind fun y => ai_rg i y.1 (if ai_io h v 1 = true then (ai_pra h q (va_up y.2 i.toNatClampNeg (some v))).bind fun h' => ai_go S m is t ls st h' else none) := by
  rw [ai_go_cons]
  show (match (match ai_ra h q with | some (n, f) => if i < 0 ∨ n ≤ i.toNatClampNeg then none else if ai_io h v 1 = true then (match ai_pra h q (va_up f i.toNatClampNeg (some v)) with | some h' => some (ls, st, h') | none => none) else none | none => none) with | some (ls', st', h') => ai_go S m is t ls' st' h' | none => none) = _
  cases ai_ra h q with
  | none => rfl
  | some y =>
    unfold ai_rg
    dsimp only [Option.bind_some]
    by_cases hz : i < 0 ∨ y.1 ≤ i.toNatClampNeg
    · rw [if_pos hz, if_pos hz]
    · rw [if_neg hz, if_neg hz]
      by_cases hv : ai_io h v 1 = true
      · rw [if_pos hv, if_pos hv]
        cases ai_pra h q (va_up y.2 i.toNatClampNeg (some v)) <;> rfl
      · rw [if_neg hv, if_neg hv]
theorem nw_i6 : ai_go S m ((36, a, b, c, z) :: is) t ls (.int 6 :: st) h = ai_go S m is t ls (.ref (h.length + 1) :: st) (h ++ [.inl (0, 6, .inl (fun _ => 0))]) := nw_i S m is t ls st h a b c z 6 (by omega)
theorem nw_i120 : ai_go S m ((36, a, b, c, z) :: is) t ls (.int 120 :: st) h = ai_go S m is t ls (.ref (h.length + 1) :: st) (h ++ [.inl (0, 120, .inl (fun _ => 0))]) := nw_i S m is t ls st h a b c z 120 (by omega)
theorem nw_i121 : ai_go S m ((36, a, b, c, z) :: is) t ls (.int 121 :: st) h = ai_go S m is t ls (.ref (h.length + 1) :: st) (h ++ [.inl (0, 121, .inl (fun _ => 0))]) := nw_i S m is t ls st h a b c z 121 (by omega)
theorem nw_i8 : ai_go S m ((36, a, b, c, z) :: is) t ls (.int 8 :: st) h = ai_go S m is t ls (.ref (h.length + 1) :: st) (h ++ [.inl (0, 8, .inl (fun _ => 0))]) := nw_i S m is t ls st h a b c z 8 (by omega)
theorem nw_i12 : ai_go S m ((36, a, b, c, z) :: is) t ls (.int 12 :: st) h = ai_go S m is t ls (.ref (h.length + 1) :: st) (h ++ [.inl (0, 12, .inl (fun _ => 0))]) := nw_i S m is t ls st h a b c z 12 (by omega)
theorem nw_i18 : ai_go S m ((36, a, b, c, z) :: is) t ls (.int 18 :: st) h = ai_go S m is t ls (.ref (h.length + 1) :: st) (h ++ [.inl (0, 18, .inl (fun _ => 0))]) := nw_i S m is t ls st h a b c z 18 (by omega)
theorem nw_i36 : ai_go S m ((36, a, b, c, z) :: is) t ls (.int 36 :: st) h = ai_go S m is t ls (.ref (h.length + 1) :: st) (h ++ [.inl (0, 36, .inl (fun _ => 0))]) := nw_i S m is t ls st h a b c z 36 (by omega)
theorem nw_i180 : ai_go S m ((36, a, b, c, z) :: is) t ls (.int 180 :: st) h = ai_go S m is t ls (.ref (h.length + 1) :: st) (h ++ [.inl (0, 180, .inl (fun _ => 0))]) := nw_i S m is t ls st h a b c z 180 (by omega)
theorem nw_z2 : ai_go S m ((37, a, b, c, z) :: is) t ls (.int 2 :: st) h = ai_go S m is t ls (.ref (h.length + 1) :: st) (h ++ [.inl (1, 2, .inl (fun _ => 0))]) := nw_z S m is t ls st h a b c z 2 (by omega)
theorem nw_r2 : ai_go S m ((38, a, b, c, z) :: is) t ls (.int 2 :: st) h = ai_go S m is t ls (.ref (h.length + 1) :: st) (h ++ [.inl (2, 2, .inr (.inr (.inr (.inr (fun _ => none)))))]) := nw_r S m is t ls st h a b c z 2 (by omega)
theorem nw_r10 : ai_go S m ((38, a, b, c, z) :: is) t ls (.int 10 :: st) h = ai_go S m is t ls (.ref (h.length + 1) :: st) (h ++ [.inl (2, 10, .inr (.inr (.inr (.inr (fun _ => none)))))]) := nw_r S m is t ls st h a b c z 10 (by omega)
end Nw
/-! a cell behind some others -/
theorem ap_at {P : ai_H} {n : Nat} (hP : P.length = n) (x : va_E) (T : ai_H) : (P ++ x :: T)[n]? = some x := by
  subst hP
  simp
theorem ap_set {P : ai_H} {n : Nat} (hP : P.length = n) (x y : va_E) (T : ai_H) : (P ++ x :: T).set n y = P ++ y :: T := by
  subst hP
  simp
theorem ap_gf {P : ai_H} {n : Nat} (hP : P.length = n) (ci k : Nat) (fs : List Value) (T : ai_H) : ai_gf (P ++ .inr (ci, fs) :: T) (n + 1) ci k = fs[k]? := by
  have h : ai_cell (P ++ .inr (ci, fs) :: T) (n + 1) = some (.inr (ci, fs)) := ap_at hP _ _
  unfold ai_gf
  rw [h]
  exact if_pos rfl
theorem ap_pf {P : ai_H} {n : Nat} (hP : P.length = n) (ci k : Nat) (fs : List Value) (T : ai_H) (v : Value) (hk : k < fs.length) : ai_pf (P ++ .inr (ci, fs) :: T) (n + 1) ci k v = some (P ++ .inr (ci, fs.set k v) :: T) := by
  have h : ai_cell (P ++ .inr (ci, fs) :: T) (n + 1) = some (.inr (ci, fs)) := ap_at hP _ _
  unfold ai_pf
  rw [h]
  show (if ci = ci ∧ k < fs.length then some ((P ++ .inr (ci, fs) :: T).set (n + 1 - 1) (.inr (ci, fs.set k v))) else none) = _
  rw [if_pos ⟨rfl, hk⟩, Nat.add_sub_cancel, ap_set hP]
def cz : Nat → Int32 := fun _ => 0
def cM : sv_M := (cz, cz, 0, 0, 0, 0, 0, -9)
def tM (n : Nat) : ai_H := [mv_c n cM, mv_a cz, mv_a cz]
def tG (n : Nat) : ai_H := [.inr (3, [.int 4, .int 3, .int 20, .int 0, .ref (n + 2), .ref (n + 3), .ref (n + 4), .ref (n + 5)]), .inl (0, 6, .inl cz), .inl (0, 6, .inl cz), .inl (0, 6, .inl cz), .inl (0, 6, .inl cz)]
def tT (n : Nat) : ai_H := [.inr (4, [.ref (n + 2), .int 0, .int 0, .int 0, .int 0, .int 0, .int 0, .int 0, .int 0, .int 0, .int 0]), .inl (0, 120, .inl cz)]
def tH (n : Nat) : ai_H := [.inr (0, [.ref (n + 2), .ref (n + 3), .ref (n + 4), .int 0]), .inl (0, 6, .inl cz), .inl (0, 6, .inl cz), .inl (0, 6, .inl cz)]
theorem fr_0 : ai_fresh 0 = [.null, .null, .null, .int 0] := rfl
theorem fr_1 : ai_fresh 1 = [.null, .null, .int 0, .int 0, .int 0, .int 0, .int 0, .int 0] := rfl
theorem fr_2 : ai_fresh 2 = [.null, .int 0, .int 0] := rfl
theorem fr_3 : ai_fresh 3 = [.int 0, .int 0, .int 0, .int 0, .null, .null, .null, .null] := rfl
theorem fr_4 : ai_fresh 4 = [.null, .int 0, .int 0, .int 0, .int 0, .int 0, .int 0, .int 0, .int 0, .int 0, .int 0] := rfl
theorem n_M (S : ai_S) (P : ai_H) (n : Nat) (hP : P.length = n) : ai_call S 2 [.ref (n + 1)] (P ++ [.inr (1, ai_fresh 1)]) = some (none, P ++ tM n) := by
  rw [e_2, fr_1, k_2_0]
  simp (config := { decide := true }) only [w_l5, gl_0, va_r, va_n, w_c0, w_c1, w_putI, w_putF, t_27, z10, z01, z_bT, z_bF, true_or, or_true, false_or, or_false, Option.bind_some, Option.toList_some, Option.toList_none, List.cons_append, List.nil_append, List.length_cons, List.length_nil, Nat.zero_add, Nat.reduceAdd, Nat.reduceLeDiff, and_self, and_true, true_and, if_true, if_false, reduceCtorEq, ne_eq, not_false_eq_true, not_true_eq_false, ↓reduceIte, Nat.reduceEqDiff, Bool.not_not, nw_obj, nw_i6, ap_pf hP, List.set_cons_zero, List.set_cons_succ, List.append_assoc, List.cons_append, List.nil_append, List.length_append, List.length_cons, List.length_nil, Nat.zero_add, Nat.add_assoc, Nat.reduceAdd, hP]
  rfl
theorem n_G (S : ai_S) (P : ai_H) (n : Nat) (hP : P.length = n) : ai_call S 8 [.ref (n + 1)] (P ++ [.inr (3, ai_fresh 3)]) = some (none, P ++ tG n) := by
  rw [e_8, fr_3, k_8_0]
  simp (config := { decide := true }) only [w_l5, gl_0, va_r, va_n, w_c0, w_c1, w_putI, w_putF, t_27, z10, z01, z_bT, z_bF, true_or, or_true, false_or, or_false, Option.bind_some, Option.toList_some, Option.toList_none, List.cons_append, List.nil_append, List.length_cons, List.length_nil, Nat.zero_add, Nat.reduceAdd, Nat.reduceLeDiff, and_self, and_true, true_and, if_true, if_false, reduceCtorEq, ne_eq, not_false_eq_true, not_true_eq_false, ↓reduceIte, Nat.reduceEqDiff, Bool.not_not, nw_obj, nw_i6, ap_pf hP, List.set_cons_zero, List.set_cons_succ, List.append_assoc, List.cons_append, List.nil_append, List.length_append, List.length_cons, List.length_nil, Nat.zero_add, Nat.add_assoc, Nat.reduceAdd, hP]
  rfl
theorem n_T (S : ai_S) (P : ai_H) (n : Nat) (hP : P.length = n) : ai_call S 11 [.ref (n + 1)] (P ++ [.inr (4, ai_fresh 4)]) = some (none, P ++ tT n) := by
  rw [e_11, fr_4, k_11_0]
  simp (config := { decide := true }) only [w_l5, gl_0, va_r, va_n, w_c0, w_c1, w_putI, w_putF, t_27, z10, z01, z_bT, z_bF, true_or, or_true, false_or, or_false, Option.bind_some, Option.toList_some, Option.toList_none, List.cons_append, List.nil_append, List.length_cons, List.length_nil, Nat.zero_add, Nat.reduceAdd, Nat.reduceLeDiff, and_self, and_true, true_and, if_true, if_false, reduceCtorEq, ne_eq, not_false_eq_true, not_true_eq_false, ↓reduceIte, Nat.reduceEqDiff, Bool.not_not, nw_obj, nw_i120, ap_pf hP, List.set_cons_zero, List.set_cons_succ, List.append_assoc, List.cons_append, List.nil_append, List.length_append, List.length_cons, List.length_nil, Nat.zero_add, Nat.add_assoc, Nat.reduceAdd, hP]
  rfl
theorem n_H (S : ai_S) (P : ai_H) (n : Nat) (hP : P.length = n) : ai_call S 0 [.ref (n + 1)] (P ++ [.inr (0, ai_fresh 0)]) = some (none, P ++ tH n) := by
  rw [e_0, fr_0, k_0_0]
  simp (config := { decide := true }) only [w_l5, gl_0, va_r, va_n, w_c0, w_c1, w_putI, w_putF, t_27, z10, z01, z_bT, z_bF, true_or, or_true, false_or, or_false, Option.bind_some, Option.toList_some, Option.toList_none, List.cons_append, List.nil_append, List.length_cons, List.length_nil, Nat.zero_add, Nat.reduceAdd, Nat.reduceLeDiff, and_self, and_true, true_and, if_true, if_false, reduceCtorEq, ne_eq, not_false_eq_true, not_true_eq_false, ↓reduceIte, Nat.reduceEqDiff, Bool.not_not, nw_obj, nw_i6, ap_pf hP, List.set_cons_zero, List.set_cons_succ, List.append_assoc, List.cons_append, List.nil_append, List.length_append, List.length_cons, List.length_nil, Nat.zero_add, Nat.add_assoc, Nat.reduceAdd, hP]
  rfl
