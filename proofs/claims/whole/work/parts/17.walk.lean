/-! rows to walk by: a step, the end of a block (for simp only) -/
def ai_gl (ls : List Value) (a : Nat) : Option Value := ls[a]?
def ai_sl (ls : List Value) (a : Nat) (v : Value) : List Value := ls.set a v
def ai_vi (v : Value) (f : Int32 → ai_A) : ai_A := match v with
  | .int x => f x
  | _ => none
def ai_va (v : Value) (f : Value → ai_A) : ai_A := match v with
  | .ref q => f (.ref q)
  | .null => f .null
  | _ => none
def ai_lt (ls : List Value) (a : Nat) (f : ai_A) : ai_A := if a < ls.length then f else none
def ai_rg (i : Int32) (n : Nat) (f : ai_A) : ai_A := if i < 0 ∨ n ≤ i.toNatClampNeg then none else f
theorem gl_0 (v0 : Value) (l : List Value) : ai_gl (v0::l) 0 = some v0 := rfl
theorem sl_0 (v0 : Value) (l : List Value) (w : Value) : ai_sl (v0::l) 0 w = w::l := rfl
theorem ll_0 (v0 : Value) (l : List Value) (f : ai_A) : ai_lt (v0::l) 0 f = f := if_pos (by simp)
theorem gl_1 (v0 v1 : Value) (l : List Value) : ai_gl (v0::v1::l) 1 = some v1 := rfl
theorem sl_1 (v0 v1 : Value) (l : List Value) (w : Value) : ai_sl (v0::v1::l) 1 w = v0::w::l := rfl
theorem ll_1 (v0 v1 : Value) (l : List Value) (f : ai_A) : ai_lt (v0::v1::l) 1 f = f := if_pos (by simp)
theorem gl_2 (v0 v1 v2 : Value) (l : List Value) : ai_gl (v0::v1::v2::l) 2 = some v2 := rfl
theorem sl_2 (v0 v1 v2 : Value) (l : List Value) (w : Value) : ai_sl (v0::v1::v2::l) 2 w = v0::v1::w::l := rfl
theorem ll_2 (v0 v1 v2 : Value) (l : List Value) (f : ai_A) : ai_lt (v0::v1::v2::l) 2 f = f := if_pos (by simp)
theorem gl_3 (v0 v1 v2 v3 : Value) (l : List Value) : ai_gl (v0::v1::v2::v3::l) 3 = some v3 := rfl
theorem sl_3 (v0 v1 v2 v3 : Value) (l : List Value) (w : Value) : ai_sl (v0::v1::v2::v3::l) 3 w = v0::v1::v2::w::l := rfl
theorem ll_3 (v0 v1 v2 v3 : Value) (l : List Value) (f : ai_A) : ai_lt (v0::v1::v2::v3::l) 3 f = f := if_pos (by simp)
theorem gl_4 (v0 v1 v2 v3 v4 : Value) (l : List Value) : ai_gl (v0::v1::v2::v3::v4::l) 4 = some v4 := rfl
theorem sl_4 (v0 v1 v2 v3 v4 : Value) (l : List Value) (w : Value) : ai_sl (v0::v1::v2::v3::v4::l) 4 w = v0::v1::v2::v3::w::l := rfl
theorem ll_4 (v0 v1 v2 v3 v4 : Value) (l : List Value) (f : ai_A) : ai_lt (v0::v1::v2::v3::v4::l) 4 f = f := if_pos (by simp)
theorem gl_5 (v0 v1 v2 v3 v4 v5 : Value) (l : List Value) : ai_gl (v0::v1::v2::v3::v4::v5::l) 5 = some v5 := rfl
theorem sl_5 (v0 v1 v2 v3 v4 v5 : Value) (l : List Value) (w : Value) : ai_sl (v0::v1::v2::v3::v4::v5::l) 5 w = v0::v1::v2::v3::v4::w::l := rfl
theorem ll_5 (v0 v1 v2 v3 v4 v5 : Value) (l : List Value) (f : ai_A) : ai_lt (v0::v1::v2::v3::v4::v5::l) 5 f = f := if_pos (by simp)
theorem gl_6 (v0 v1 v2 v3 v4 v5 v6 : Value) (l : List Value) : ai_gl (v0::v1::v2::v3::v4::v5::v6::l) 6 = some v6 := rfl
theorem sl_6 (v0 v1 v2 v3 v4 v5 v6 : Value) (l : List Value) (w : Value) : ai_sl (v0::v1::v2::v3::v4::v5::v6::l) 6 w = v0::v1::v2::v3::v4::v5::w::l := rfl
theorem ll_6 (v0 v1 v2 v3 v4 v5 v6 : Value) (l : List Value) (f : ai_A) : ai_lt (v0::v1::v2::v3::v4::v5::v6::l) 6 f = f := if_pos (by simp)
theorem gl_7 (v0 v1 v2 v3 v4 v5 v6 v7 : Value) (l : List Value) : ai_gl (v0::v1::v2::v3::v4::v5::v6::v7::l) 7 = some v7 := rfl
theorem sl_7 (v0 v1 v2 v3 v4 v5 v6 v7 : Value) (l : List Value) (w : Value) : ai_sl (v0::v1::v2::v3::v4::v5::v6::v7::l) 7 w = v0::v1::v2::v3::v4::v5::v6::w::l := rfl
theorem ll_7 (v0 v1 v2 v3 v4 v5 v6 v7 : Value) (l : List Value) (f : ai_A) : ai_lt (v0::v1::v2::v3::v4::v5::v6::v7::l) 7 f = f := if_pos (by simp)
theorem gl_8 (v0 v1 v2 v3 v4 v5 v6 v7 v8 : Value) (l : List Value) : ai_gl (v0::v1::v2::v3::v4::v5::v6::v7::v8::l) 8 = some v8 := rfl
theorem sl_8 (v0 v1 v2 v3 v4 v5 v6 v7 v8 : Value) (l : List Value) (w : Value) : ai_sl (v0::v1::v2::v3::v4::v5::v6::v7::v8::l) 8 w = v0::v1::v2::v3::v4::v5::v6::v7::w::l := rfl
theorem ll_8 (v0 v1 v2 v3 v4 v5 v6 v7 v8 : Value) (l : List Value) (f : ai_A) : ai_lt (v0::v1::v2::v3::v4::v5::v6::v7::v8::l) 8 f = f := if_pos (by simp)
theorem gl_9 (v0 v1 v2 v3 v4 v5 v6 v7 v8 v9 : Value) (l : List Value) : ai_gl (v0::v1::v2::v3::v4::v5::v6::v7::v8::v9::l) 9 = some v9 := rfl
theorem sl_9 (v0 v1 v2 v3 v4 v5 v6 v7 v8 v9 : Value) (l : List Value) (w : Value) : ai_sl (v0::v1::v2::v3::v4::v5::v6::v7::v8::v9::l) 9 w = v0::v1::v2::v3::v4::v5::v6::v7::v8::w::l := rfl
theorem ll_9 (v0 v1 v2 v3 v4 v5 v6 v7 v8 v9 : Value) (l : List Value) (f : ai_A) : ai_lt (v0::v1::v2::v3::v4::v5::v6::v7::v8::v9::l) 9 f = f := if_pos (by simp)
theorem vi_i (x : Int32) (f : Int32 → ai_A) : ai_vi (.int x) f = f x := rfl
theorem va_r (q : Nat) (f : Value → ai_A) : ai_va (.ref q) f = f (.ref q) := rfl
theorem va_n (f : Value → ai_A) : ai_va .null f = f .null := rfl
section Wk
variable (S : ai_S) (m : Nat) (is : List ai_I) (t : ai_T) (ls st : List Value) (h : ai_H) (a b c : Nat) (z : Int32)
theorem w_c0  : ai_go S m ((0, a, b, c, z) :: is) t ls (st) h = ai_go S m is t ls (.int z :: st) h := by
  rw [ai_go_cons]
  rfl
theorem w_c1  : ai_go S m ((1, a, b, c, z) :: is) t ls (st) h = ai_go S m is t ls (.int z :: st) h := by
  rw [ai_go_cons]
  rfl
theorem w_c2  : ai_go S m ((2, a, b, c, z) :: is) t ls (st) h = ai_go S m is t ls (.int z :: st) h := by
  rw [ai_go_cons]
  rfl
theorem w_c40  : ai_go S m ((40, a, b, c, z) :: is) t ls (st) h = ai_go S m is t ls (.int z :: st) h := by
  rw [ai_go_cons]
  rfl
theorem w_c41  : ai_go S m ((41, a, b, c, z) :: is) t ls (st) h = ai_go S m is t ls (.int z :: st) h := by
  rw [ai_go_cons]
  rfl
theorem w_l3  : ai_go S m ((3, a, b, c, z) :: is) t ls (st) h = (ai_gl ls a).bind fun v => ai_vi v fun x => ai_go S m is t ls (.int x :: st) h := by
  rw [ai_go_cons]
  show (match ai_iload S a b c z ls st h with | some (ls', st', h') => ai_go S m is t ls' st' h' | none => none) = _
  unfold ai_iload ai_gl ai_vi
  cases ls[a]? with
  | none => rfl
  | some v => cases v <;> rfl
theorem w_l4  : ai_go S m ((4, a, b, c, z) :: is) t ls (st) h = (ai_gl ls a).bind fun v => ai_vi v fun x => ai_go S m is t ls (.int x :: st) h := by
  rw [ai_go_cons]
  show (match ai_iload S a b c z ls st h with | some (ls', st', h') => ai_go S m is t ls' st' h' | none => none) = _
  unfold ai_iload ai_gl ai_vi
  cases ls[a]? with
  | none => rfl
  | some v => cases v <;> rfl
theorem w_l5  : ai_go S m ((5, a, b, c, z) :: is) t ls (st) h = (ai_gl ls a).bind fun v => ai_va v fun x => ai_go S m is t ls (x :: st) h := by
  rw [ai_go_cons]
  show (match ai_aload S a b c z ls st h with | some (ls', st', h') => ai_go S m is t ls' st' h' | none => none) = _
  unfold ai_aload ai_gl ai_va
  cases ls[a]? with
  | none => rfl
  | some v => cases v <;> rfl
theorem w_s6 (x : Int32) : ai_go S m ((6, a, b, c, z) :: is) t ls (.int x :: st) h = ai_lt ls a (ai_go S m is t (ai_sl ls a (.int x)) st h) := by
  rw [ai_go_cons]
  show (match (if a < ls.length then some (ls.set a (.int x), st, h) else none) with | some (ls', st', h') => ai_go S m is t ls' st' h' | none => none) = _
  unfold ai_lt
  by_cases hq : a < ls.length
  · rw [if_pos hq, if_pos hq]; rfl
  · rw [if_neg hq, if_neg hq]
theorem w_s7 (x : Int32) : ai_go S m ((7, a, b, c, z) :: is) t ls (.int x :: st) h = ai_lt ls a (ai_go S m is t (ai_sl ls a (.int x)) st h) := by
  rw [ai_go_cons]
  show (match (if a < ls.length then some (ls.set a (.int x), st, h) else none) with | some (ls', st', h') => ai_go S m is t ls' st' h' | none => none) = _
  unfold ai_lt
  by_cases hq : a < ls.length
  · rw [if_pos hq, if_pos hq]; rfl
  · rw [if_neg hq, if_neg hq]
theorem w_s8r (q : Nat) : ai_go S m ((8, a, b, c, z) :: is) t ls (.ref q :: st) h = ai_lt ls a (ai_go S m is t (ai_sl ls a (.ref q)) st h) := by
  rw [ai_go_cons]
  show (match (if a < ls.length then some (ls.set a (.ref q), st, h) else none) with | some (ls', st', h') => ai_go S m is t ls' st' h' | none => none) = _
  unfold ai_lt
  by_cases hq : a < ls.length
  · rw [if_pos hq, if_pos hq]; rfl
  · rw [if_neg hq, if_neg hq]
theorem w_s8n  : ai_go S m ((8, a, b, c, z) :: is) t ls (.null :: st) h = ai_lt ls a (ai_go S m is t (ai_sl ls a (.null)) st h) := by
  rw [ai_go_cons]
  show (match (if a < ls.length then some (ls.set a (.null), st, h) else none) with | some (ls', st', h') => ai_go S m is t ls' st' h' | none => none) = _
  unfold ai_lt
  by_cases hq : a < ls.length
  · rw [if_pos hq, if_pos hq]; rfl
  · rw [if_neg hq, if_neg hq]
theorem w_inc  : ai_go S m ((9, a, b, c, z) :: is) t ls (st) h = (ai_gl ls a).bind fun v => ai_vi v fun x => ai_go S m is t (ai_sl ls a (.int (x + z))) st h := by
  rw [ai_go_cons]
  show (match ai_iinc S a b c z ls st h with | some (ls', st', h') => ai_go S m is t ls' st' h' | none => none) = _
  unfold ai_iinc ai_gl ai_vi
  cases ls[a]? with
  | none => rfl
  | some v => cases v <;> rfl
theorem w_b10 (x y : Int32) : ai_go S m ((10, a, b, c, z) :: is) t ls (.int y :: .int x :: st) h = ai_go S m is t ls (.int (x + y) :: st) h := by
  rw [ai_go_cons]
  rfl
theorem w_b11 (x y : Int32) : ai_go S m ((11, a, b, c, z) :: is) t ls (.int y :: .int x :: st) h = ai_go S m is t ls (.int (x - y) :: st) h := by
  rw [ai_go_cons]
  rfl
theorem w_b12 (x y : Int32) : ai_go S m ((12, a, b, c, z) :: is) t ls (.int y :: .int x :: st) h = ai_go S m is t ls (.int (x * y) :: st) h := by
  rw [ai_go_cons]
  rfl
theorem w_b13 (x y : Int32) : ai_go S m ((13, a, b, c, z) :: is) t ls (.int y :: .int x :: st) h = ai_go S m is t ls (.int (x &&& y) :: st) h := by
  rw [ai_go_cons]
  rfl
theorem w_b14 (x y : Int32) : ai_go S m ((14, a, b, c, z) :: is) t ls (.int y :: .int x :: st) h = ai_go S m is t ls (.int (x ||| y) :: st) h := by
  rw [ai_go_cons]
  rfl
theorem w_b15 (x y : Int32) : ai_go S m ((15, a, b, c, z) :: is) t ls (.int y :: .int x :: st) h = ai_go S m is t ls (.int (x <<< (y &&& 31)) :: st) h := by
  rw [ai_go_cons]
  rfl
theorem w_b16 (x y : Int32) : ai_go S m ((16, a, b, c, z) :: is) t ls (.int y :: .int x :: st) h = ai_go S m is t ls (.int (x >>> (y &&& 31)) :: st) h := by
  rw [ai_go_cons]
  rfl
theorem w_b17 (x y : Int32) : ai_go S m ((17, a, b, c, z) :: is) t ls (.int y :: .int x :: st) h = ai_go S m is t ls (.int ((x.toUInt32 >>> (y.toUInt32 &&& Int32.toUInt32 31)).toInt32) :: st) h := by
  rw [ai_go_cons]
  rfl
theorem w_b18 (x y : Int32) : ai_go S m ((18, a, b, c, z) :: is) t ls (.int y :: .int x :: st) h = if y = 0 then none else ai_go S m is t ls (.int (x / y) :: st) h := by
  rw [ai_go_cons]
  show (match (if y = 0 then none else some (ls, .int (x / y) :: st, h)) with | some (ls', st', h') => ai_go S m is t ls' st' h' | none => none) = _
  by_cases hq : y = 0
  · rw [if_pos hq, if_pos hq]
  · rw [if_neg hq, if_neg hq]
theorem w_b19 (x y : Int32) : ai_go S m ((19, a, b, c, z) :: is) t ls (.int y :: .int x :: st) h = if y = 0 then none else ai_go S m is t ls (.int (x - x / y * y) :: st) h := by
  rw [ai_go_cons]
  show (match (if y = 0 then none else some (ls, .int (x - x / y * y) :: st, h)) with | some (ls', st', h') => ai_go S m is t ls' st' h' | none => none) = _
  by_cases hq : y = 0
  · rw [if_pos hq, if_pos hq]
  · rw [if_neg hq, if_neg hq]
theorem w_dupi (x : Int32) : ai_go S m ((20, a, b, c, z) :: is) t ls (.int x :: st) h = ai_go S m is t ls (.int x :: .int x :: st) h := by
  rw [ai_go_cons]
  rfl
theorem w_popi (x : Int32) : ai_go S m ((22, a, b, c, z) :: is) t ls (.int x :: st) h = ai_go S m is t ls (st) h := by
  rw [ai_go_cons]
  rfl
theorem w_dupr (x : Nat) : ai_go S m ((20, a, b, c, z) :: is) t ls (.ref x :: st) h = ai_go S m is t ls (.ref x :: .ref x :: st) h := by
  rw [ai_go_cons]
  rfl
theorem w_popr (x : Nat) : ai_go S m ((22, a, b, c, z) :: is) t ls (.ref x :: st) h = ai_go S m is t ls (st) h := by
  rw [ai_go_cons]
  rfl
theorem w_popn  : ai_go S m ((22, a, b, c, z) :: is) t ls (.null :: st) h = ai_go S m is t ls (st) h := by
  rw [ai_go_cons]
  rfl
theorem w_dup2 (x : Nat) (y : Int32) : ai_go S m ((21, a, b, c, z) :: is) t ls (.int y :: .ref x :: st) h = ai_go S m is t ls (.int y :: .ref x :: .int y :: .ref x :: st) h := by
  rw [ai_go_cons]
  rfl
theorem w_get (q : Nat) : ai_go S m ((23, a, b, c, z) :: is) t ls (.ref q :: st) h = (ai_gf h q a b).bind fun x => ai_go S m is t ls (x :: st) h := by
  rw [ai_go_cons]
  show (match (match ai_gf h q a b with | some v => some (ls, v :: st, h) | none => none) with | some (ls', st', h') => ai_go S m is t ls' st' h' | none => none) = _
  cases ai_gf h q a b <;> rfl
theorem w_putI (y : Int32) (q : Nat) : ai_go S m ((24, a, b, c, z) :: is) t ls (.int y :: .ref q :: st) h = (ai_pf h q a b (.int y)).bind fun x => ai_go S m is t ls st x := by
  rw [ai_go_cons]
  show (match (match ai_pf h q a b (.int y) with | some v => some (ls, st, v) | none => none) with | some (ls', st', h') => ai_go S m is t ls' st' h' | none => none) = _
  cases ai_pf h q a b (.int y) <;> rfl
theorem w_putJ (y : Int64) (q : Nat) : ai_go S m ((26, a, b, c, z) :: is) t ls (.long y :: .ref q :: st) h = (ai_pf h q a b (.long y)).bind fun x => ai_go S m is t ls st x := by
  rw [ai_go_cons]
  show (match (match ai_pf h q a b (.long y) with | some v => some (ls, st, v) | none => none) with | some (ls', st', h') => ai_go S m is t ls' st' h' | none => none) = _
  cases ai_pf h q a b (.long y) <;> rfl
theorem w_putR (y : Nat) (q : Nat) : ai_go S m ((27, a, b, c, z) :: is) t ls (.ref y :: .ref q :: st) h = (ai_pf h q a b (.ref y)).bind fun x => ai_go S m is t ls st x := by
  rw [ai_go_cons]
  show (match (match ai_pf h q a b (.ref y) with | some v => some (ls, st, v) | none => none) with | some (ls', st', h') => ai_go S m is t ls' st' h' | none => none) = _
  cases ai_pf h q a b (.ref y) <;> rfl
theorem w_putF (y : Nat) (q : Nat) : ai_go S m ((28, a, b, c, z) :: is) t ls (.ref y :: .ref q :: st) h = (ai_pf h q a b (.ref y)).bind fun x => ai_go S m is t ls st x := by
  rw [ai_go_cons]
  show (match (match ai_pf h q a b (.ref y) with | some v => some (ls, st, v) | none => none) with | some (ls', st', h') => ai_go S m is t ls' st' h' | none => none) = _
  cases ai_pf h q a b (.ref y) <;> rfl
theorem w_putZ0 (q : Nat) : ai_go S m ((25, a, b, c, z) :: is) t ls (.int 0 :: .ref q :: st) h = (ai_pf h q a b (.int 0)).bind fun x => ai_go S m is t ls st x := by
  rw [ai_go_cons]
  show (match (match ai_pf h q a b (.int 0) with | some v => some (ls, st, v) | none => none) with | some (ls', st', h') => ai_go S m is t ls' st' h' | none => none) = _
  cases ai_pf h q a b (.int 0) <;> rfl
theorem w_putZ1 (q : Nat) : ai_go S m ((25, a, b, c, z) :: is) t ls (.int 1 :: .ref q :: st) h = (ai_pf h q a b (.int 1)).bind fun x => ai_go S m is t ls st x := by
  rw [ai_go_cons]
  show (match (match ai_pf h q a b (.int 1) with | some v => some (ls, st, v) | none => none) with | some (ls', st', h') => ai_go S m is t ls' st' h' | none => none) = _
  cases ai_pf h q a b (.int 1) <;> rfl
theorem w_ald0 (i : Int32) : ai_go S m ((29, a, b, c, z) :: is) t ls (.int i :: .ref 0 :: st) h = ai_rg i S.1 (ai_go S m is t ls (.int (S.2 i.toNatClampNeg) :: st) h) := by
  rw [ai_go_cons]
  show (match (if i < 0 ∨ S.1 ≤ i.toNatClampNeg then none else some (ls, .int (S.2 i.toNatClampNeg) :: st, h)) with | some (ls', st', h') => ai_go S m is t ls' st' h' | none => none) = _
  unfold ai_rg
  by_cases hz : i < 0 ∨ S.1 ≤ i.toNatClampNeg
  · rw [if_pos hz, if_pos hz]
  · rw [if_neg hz, if_neg hz]
theorem w_ald (i : Int32) (q : Nat) (hq : q ≠ 0) : ai_go S m ((29, a, b, c, z) :: is) t ls (.int i :: .ref q :: st) h = (ai_ia h q 0).bind fun x => ai_rg i x.1 (ai_go S m is t ls (.int (x.2 i.toNatClampNeg) :: st) h) := by
  rw [ai_go_cons]
  cases q with
  | zero => exact absurd rfl hq
  | succ q =>
    show (match (match ai_ia h (q + 1) 0 with | some (n, f) => if i < 0 ∨ n ≤ i.toNatClampNeg then none else some (ls, .int (f i.toNatClampNeg) :: st, h) | none => none) with | some (ls', st', h') => ai_go S m is t ls' st' h' | none => none) = _
    cases ai_ia h (q + 1) 0 with
    | none => rfl
    | some x =>
      unfold ai_rg
      dsimp only [Option.bind_some]
      by_cases hz : i < 0 ∨ x.1 ≤ i.toNatClampNeg
      · rw [if_pos hz, if_pos hz]
      · rw [if_neg hz, if_neg hz]
theorem w_ast (x i : Int32) (q : Nat) : ai_go S m ((30, a, b, c, z) :: is) t ls (.int x :: .int i :: .ref q :: st) h = (ai_ia h q 0).bind fun y => ai_rg i y.1 ((ai_pa h q 0 (upd y.2 i.toNatClampNeg x)).bind fun h' => ai_go S m is t ls st h') := by
  rw [ai_go_cons]
  show (match (match ai_ia h q 0 with | some (n, f) => if i < 0 ∨ n ≤ i.toNatClampNeg then none else (match ai_pa h q 0 (upd f i.toNatClampNeg x) with | some h' => some (ls, st, h') | none => none) | none => none) with | some (ls', st', h') => ai_go S m is t ls' st' h' | none => none) = _
  cases ai_ia h q 0 with
  | none => rfl
  | some y =>
    unfold ai_rg
    dsimp only [Option.bind_some]
    by_cases hz : i < 0 ∨ y.1 ≤ i.toNatClampNeg
    · rw [if_pos hz, if_pos hz]
    · rw [if_neg hz, if_neg hz]
      cases ai_pa h q 0 (upd y.2 i.toNatClampNeg x) <;> rfl
theorem w_bld (i : Int32) (q : Nat) : ai_go S m ((31, a, b, c, z) :: is) t ls (.int i :: .ref q :: st) h = (ai_ia h q 1).bind fun x => ai_rg i x.1 (ai_go S m is t ls (.int (x.2 i.toNatClampNeg) :: st) h) := by
  rw [ai_go_cons]
  show (match (match ai_ia h q 1 with | some (n, f) => if i < 0 ∨ n ≤ i.toNatClampNeg then none else some (ls, .int (f i.toNatClampNeg) :: st, h) | none => none) with | some (ls', st', h') => ai_go S m is t ls' st' h' | none => none) = _
  cases ai_ia h q 1 with
  | none => rfl
  | some x =>
    unfold ai_rg
    dsimp only [Option.bind_some]
    by_cases hz : i < 0 ∨ x.1 ≤ i.toNatClampNeg
    · rw [if_pos hz, if_pos hz]
    · rw [if_neg hz, if_neg hz]
theorem w_bst (x i : Int32) (q : Nat) : ai_go S m ((32, a, b, c, z) :: is) t ls (.int x :: .int i :: .ref q :: st) h = (ai_ia h q 1).bind fun y => ai_rg i y.1 ((ai_pa h q 1 (upd y.2 i.toNatClampNeg (vp_nar .boolean x))).bind fun h' => ai_go S m is t ls st h') := by
  rw [ai_go_cons]
  show (match (match ai_ia h q 1 with | some (n, f) => if i < 0 ∨ n ≤ i.toNatClampNeg then none else (match ai_pa h q 1 (upd f i.toNatClampNeg (vp_nar .boolean x)) with | some h' => some (ls, st, h') | none => none) | none => none) with | some (ls', st', h') => ai_go S m is t ls' st' h' | none => none) = _
  cases ai_ia h q 1 with
  | none => rfl
  | some y =>
    unfold ai_rg
    dsimp only [Option.bind_some]
    by_cases hz : i < 0 ∨ y.1 ≤ i.toNatClampNeg
    · rw [if_pos hz, if_pos hz]
    · rw [if_neg hz, if_neg hz]
      cases ai_pa h q 1 (upd y.2 i.toNatClampNeg (vp_nar .boolean x)) <;> rfl
theorem w_aald (i : Int32) (q : Nat) : ai_go S m ((33, a, b, c, z) :: is) t ls (.int i :: .ref q :: st) h = (ai_ra h q).bind fun x => ai_rg i x.1 (ai_go S m is t ls (va_rf (x.2 i.toNatClampNeg) :: st) h) := by
  rw [ai_go_cons]
  show (match (match ai_ra h q with | some (n, f) => if i < 0 ∨ n ≤ i.toNatClampNeg then none else some (ls, va_rf (f i.toNatClampNeg) :: st, h) | none => none) with | some (ls', st', h') => ai_go S m is t ls' st' h' | none => none) = _
  cases ai_ra h q with
  | none => rfl
  | some x =>
    unfold ai_rg
    dsimp only [Option.bind_some]
    by_cases hz : i < 0 ∨ x.1 ≤ i.toNatClampNeg
    · rw [if_pos hz, if_pos hz]
    · rw [if_neg hz, if_neg hz]
theorem w_len0 : ai_go S m ((35, a, b, c, z) :: is) t ls (.ref 0 :: st) h = ai_go S m is t ls (.int (Int32.ofNat S.1) :: st) h := by
  rw [ai_go_cons]
  rfl
theorem w_len (q : Nat) (hq : q ≠ 0) {n : Nat} {f : Nat → Int32} (hf : ai_ia h q 0 = some (n, f)) : ai_go S m ((35, a, b, c, z) :: is) t ls (.ref q :: st) h = ai_go S m is t ls (.int (Int32.ofNat n) :: st) h := by
  rw [ai_go_cons]
  obtain ⟨j, rfl, h1⟩ := ai_ia_of hf
  show (match (match ai_cell h (j + 1) with | some (.inl (t, n, _)) => if t < 3 then some (ls, .int (Int32.ofNat n) :: st, h) else none | _ => none) with | some (ls', st', h') => ai_go S m is t ls' st' h' | none => none) = _
  rw [show ai_cell h (j + 1) = some (.inl (0, n, .inl f)) from h1]
  rfl
theorem w_lenr (q : Nat) (hq : q ≠ 0) {n : Nat} {f : Nat → Option Nat} (hf : ai_ra h q = some (n, f)) : ai_go S m ((35, a, b, c, z) :: is) t ls (.ref q :: st) h = ai_go S m is t ls (.int (Int32.ofNat n) :: st) h := by
  rw [ai_go_cons]
  obtain ⟨j, rfl, h1⟩ := ai_ra_of hf
  show (match (match ai_cell h (j + 1) with | some (.inl (t, n, _)) => if t < 3 then some (ls, .int (Int32.ofNat n) :: st, h) else none | _ => none) with | some (ls', st', h') => ai_go S m is t ls' st' h' | none => none) = _
  rw [show ai_cell h (j + 1) = some (.inl (2, n, .inr (.inr (.inr (.inr f))))) from h1]
  rfl
theorem w_c42  : ai_go S m ((42, a, b, c, z) :: is) t ls (st) h = ai_go S m is t ls (.long z.toInt64 :: st) h := by
  rw [ai_go_cons]
  rfl
theorem w_c43  : ai_go S m ((43, a, b, c, z) :: is) t ls (st) h = ai_go S m is t ls (.long z.toInt64 :: st) h := by
  rw [ai_go_cons]
  rfl
theorem w_ladd (x y : Int64) : ai_go S m ((44, a, b, c, z) :: is) t ls (.long y :: .long x :: st) h = ai_go S m is t ls (.long (x + y) :: st) h := by
  rw [ai_go_cons]
  rfl
theorem w_lcmp (x y : Int64) : ai_go S m ((45, a, b, c, z) :: is) t ls (.long y :: .long x :: st) h = ai_go S m is t ls (.int (lg_cmp x y) :: st) h := by
  rw [ai_go_cons]
  rfl
theorem w_null  : ai_go S m ((46, a, b, c, z) :: is) t ls (st) h = ai_go S m is t ls (.null :: st) h := by
  rw [ai_go_cons]
  rfl
theorem w_min (x y : Int32) : ai_go S m ((48, a, b, c, z) :: is) t ls (.int y :: .int x :: st) h = if (st.map fun v => v.category).sum ≤ 7 then ai_go S m is t ls (.int (if y < x then y else x) :: st) h else none := by
  rw [ai_go_cons]
  show (match (if (st.map fun v => v.category).sum ≤ 7 then some (ls, .int (if y < x then y else x) :: st, h) else none) with | some (ls', st', h') => ai_go S m is t ls' st' h' | none => none) = _
  by_cases hq : (st.map fun v => v.category).sum ≤ 7
  · rw [if_pos hq, if_pos hq]
  · rw [if_neg hq, if_neg hq]
theorem w_max (x y : Int32) : ai_go S m ((49, a, b, c, z) :: is) t ls (.int y :: .int x :: st) h = if (st.map fun v => v.category).sum ≤ 7 then ai_go S m is t ls (.int (if x < y then y else x) :: st) h else none := by
  rw [ai_go_cons]
  show (match (if (st.map fun v => v.category).sum ≤ 7 then some (ls, .int (if x < y then y else x) :: st, h) else none) with | some (ls', st', h') => ai_go S m is t ls' st' h' | none => none) = _
  by_cases hq : (st.map fun v => v.category).sum ≤ 7
  · rw [if_pos hq, if_pos hq]
  · rw [if_neg hq, if_neg hq]
variable (b1 b2 x y : Nat) (tb : List (Int32 × Nat))
theorem t_0  : ai_go S m [] (0, b1, b2, x, y, tb) ls (st) h = ai_res S m b1 ls st h := rfl
theorem t_1  : ai_go S m [] (1, b1, b2, x, y, tb) ls (st) h = ai_res S m b1 ls st h := rfl
theorem t_2 (u : Int32) : ai_go S m [] (2, b1, b2, x, y, tb) ls (.int u :: st) h = if u = 0 then ai_res S m b1 ls st h else ai_res S m b2 ls st h := rfl
theorem t_8 (u w : Int32) : ai_go S m [] (8, b1, b2, x, y, tb) ls (.int w :: .int u :: st) h = if u = w then ai_res S m b1 ls st h else ai_res S m b2 ls st h := rfl
theorem t_3 (u : Int32) : ai_go S m [] (3, b1, b2, x, y, tb) ls (.int u :: st) h = if ¬ u = 0 then ai_res S m b1 ls st h else ai_res S m b2 ls st h := rfl
theorem t_9 (u w : Int32) : ai_go S m [] (9, b1, b2, x, y, tb) ls (.int w :: .int u :: st) h = if ¬ u = w then ai_res S m b1 ls st h else ai_res S m b2 ls st h := rfl
theorem t_4 (u : Int32) : ai_go S m [] (4, b1, b2, x, y, tb) ls (.int u :: st) h = if u < 0 then ai_res S m b1 ls st h else ai_res S m b2 ls st h := rfl
theorem t_10 (u w : Int32) : ai_go S m [] (10, b1, b2, x, y, tb) ls (.int w :: .int u :: st) h = if u < w then ai_res S m b1 ls st h else ai_res S m b2 ls st h := rfl
theorem t_5 (u : Int32) : ai_go S m [] (5, b1, b2, x, y, tb) ls (.int u :: st) h = if 0 ≤ u then ai_res S m b1 ls st h else ai_res S m b2 ls st h := rfl
theorem t_11 (u w : Int32) : ai_go S m [] (11, b1, b2, x, y, tb) ls (.int w :: .int u :: st) h = if w ≤ u then ai_res S m b1 ls st h else ai_res S m b2 ls st h := rfl
theorem t_6 (u : Int32) : ai_go S m [] (6, b1, b2, x, y, tb) ls (.int u :: st) h = if 0 < u then ai_res S m b1 ls st h else ai_res S m b2 ls st h := rfl
theorem t_12 (u w : Int32) : ai_go S m [] (12, b1, b2, x, y, tb) ls (.int w :: .int u :: st) h = if w < u then ai_res S m b1 ls st h else ai_res S m b2 ls st h := rfl
theorem t_7 (u : Int32) : ai_go S m [] (7, b1, b2, x, y, tb) ls (.int u :: st) h = if u ≤ 0 then ai_res S m b1 ls st h else ai_res S m b2 ls st h := rfl
theorem t_13 (u w : Int32) : ai_go S m [] (13, b1, b2, x, y, tb) ls (.int w :: .int u :: st) h = if u ≤ w then ai_res S m b1 ls st h else ai_res S m b2 ls st h := rfl
theorem t_14n  : ai_go S m [] (14, b1, b2, x, y, tb) ls (.null :: st) h = ai_res S m b1 ls st h := rfl
theorem t_14r (q : Nat) : ai_go S m [] (14, b1, b2, x, y, tb) ls (.ref q :: st) h = ai_res S m b2 ls st h := rfl
theorem t_15n  : ai_go S m [] (15, b1, b2, x, y, tb) ls (.null :: st) h = ai_res S m b2 ls st h := rfl
theorem t_15r (q : Nat) : ai_go S m [] (15, b1, b2, x, y, tb) ls (.ref q :: st) h = ai_res S m b1 ls st h := rfl
theorem t_16 (u : Int32) : ai_go S m [] (16, b1, b2, x, y, tb) ls (.int u :: st) h = ai_sw (ai_res S) m b1 ls st h u tb := rfl
theorem t_17 (u : Int32) : ai_go S m [] (17, b1, b2, x, y, tb) ls (.int u :: st) h = ai_sw (ai_res S) m b1 ls st h u tb := rfl
theorem sw_n (u : Int32) : ai_sw (ai_res S) m b1 ls st h u [] = ai_res S m b1 ls st h := rfl
theorem sw_c (u k : Int32) (b : Nat) : ai_sw (ai_res S) m b1 ls st h u ((k, b) :: tb) = if u = k then ai_res S m b ls st h else ai_sw (ai_res S) m b1 ls st h u tb := rfl
theorem t_18_1 (v0 : Value) : ai_go S m [] (18, b1, b2, 1, y, tb) ls (v0 :: st) h = if ai_recv 0 y [v0] h = true ∧ st.length ≤ 4 then (ai_call S b2 [v0] h).bind (fun q => ai_res S m b1 ls (q.1.toList ++ st) q.2) else none := by
  show (if ai_recv 0 y [v0] h = true ∧ st.length ≤ 4 then (match ai_call S b2 [v0] h with | some (v, h') => ai_res S m b1 ls (v.toList ++ st) h' | none => none) else none) = _
  cases ai_call S b2 [v0] h <;> rfl
theorem t_18_2 (v0 v1 : Value) : ai_go S m [] (18, b1, b2, 2, y, tb) ls (v1 :: v0 :: st) h = if ai_recv 0 y [v0, v1] h = true ∧ st.length ≤ 4 then (ai_call S b2 [v0, v1] h).bind (fun q => ai_res S m b1 ls (q.1.toList ++ st) q.2) else none := by
  show (if ai_recv 0 y [v0, v1] h = true ∧ st.length ≤ 4 then (match ai_call S b2 [v0, v1] h with | some (v, h') => ai_res S m b1 ls (v.toList ++ st) h' | none => none) else none) = _
  cases ai_call S b2 [v0, v1] h <;> rfl
theorem t_18_3 (v0 v1 v2 : Value) : ai_go S m [] (18, b1, b2, 3, y, tb) ls (v2 :: v1 :: v0 :: st) h = if ai_recv 0 y [v0, v1, v2] h = true ∧ st.length ≤ 4 then (ai_call S b2 [v0, v1, v2] h).bind (fun q => ai_res S m b1 ls (q.1.toList ++ st) q.2) else none := by
  show (if ai_recv 0 y [v0, v1, v2] h = true ∧ st.length ≤ 4 then (match ai_call S b2 [v0, v1, v2] h with | some (v, h') => ai_res S m b1 ls (v.toList ++ st) h' | none => none) else none) = _
  cases ai_call S b2 [v0, v1, v2] h <;> rfl
theorem t_18_4 (v0 v1 v2 v3 : Value) : ai_go S m [] (18, b1, b2, 4, y, tb) ls (v3 :: v2 :: v1 :: v0 :: st) h = if ai_recv 0 y [v0, v1, v2, v3] h = true ∧ st.length ≤ 4 then (ai_call S b2 [v0, v1, v2, v3] h).bind (fun q => ai_res S m b1 ls (q.1.toList ++ st) q.2) else none := by
  show (if ai_recv 0 y [v0, v1, v2, v3] h = true ∧ st.length ≤ 4 then (match ai_call S b2 [v0, v1, v2, v3] h with | some (v, h') => ai_res S m b1 ls (v.toList ++ st) h' | none => none) else none) = _
  cases ai_call S b2 [v0, v1, v2, v3] h <;> rfl
theorem t_18_5 (v0 v1 v2 v3 v4 : Value) : ai_go S m [] (18, b1, b2, 5, y, tb) ls (v4 :: v3 :: v2 :: v1 :: v0 :: st) h = if ai_recv 0 y [v0, v1, v2, v3, v4] h = true ∧ st.length ≤ 4 then (ai_call S b2 [v0, v1, v2, v3, v4] h).bind (fun q => ai_res S m b1 ls (q.1.toList ++ st) q.2) else none := by
  show (if ai_recv 0 y [v0, v1, v2, v3, v4] h = true ∧ st.length ≤ 4 then (match ai_call S b2 [v0, v1, v2, v3, v4] h with | some (v, h') => ai_res S m b1 ls (v.toList ++ st) h' | none => none) else none) = _
  cases ai_call S b2 [v0, v1, v2, v3, v4] h <;> rfl
theorem t_19_1 (v0 : Value) : ai_go S m [] (19, b1, b2, 1, y, tb) ls (v0 :: st) h = if ai_recv 1 0 [v0] h = true ∧ st.length ≤ 4 then (ai_call S b2 [v0] h).bind (fun q => ai_res S m b1 ls (q.1.toList ++ st) q.2) else none := by
  show (if ai_recv 1 0 [v0] h = true ∧ st.length ≤ 4 then (match ai_call S b2 [v0] h with | some (v, h') => ai_res S m b1 ls (v.toList ++ st) h' | none => none) else none) = _
  cases ai_call S b2 [v0] h <;> rfl
theorem t_19_2 (v0 v1 : Value) : ai_go S m [] (19, b1, b2, 2, y, tb) ls (v1 :: v0 :: st) h = if ai_recv 1 0 [v0, v1] h = true ∧ st.length ≤ 4 then (ai_call S b2 [v0, v1] h).bind (fun q => ai_res S m b1 ls (q.1.toList ++ st) q.2) else none := by
  show (if ai_recv 1 0 [v0, v1] h = true ∧ st.length ≤ 4 then (match ai_call S b2 [v0, v1] h with | some (v, h') => ai_res S m b1 ls (v.toList ++ st) h' | none => none) else none) = _
  cases ai_call S b2 [v0, v1] h <;> rfl
theorem t_19_3 (v0 v1 v2 : Value) : ai_go S m [] (19, b1, b2, 3, y, tb) ls (v2 :: v1 :: v0 :: st) h = if ai_recv 1 0 [v0, v1, v2] h = true ∧ st.length ≤ 4 then (ai_call S b2 [v0, v1, v2] h).bind (fun q => ai_res S m b1 ls (q.1.toList ++ st) q.2) else none := by
  show (if ai_recv 1 0 [v0, v1, v2] h = true ∧ st.length ≤ 4 then (match ai_call S b2 [v0, v1, v2] h with | some (v, h') => ai_res S m b1 ls (v.toList ++ st) h' | none => none) else none) = _
  cases ai_call S b2 [v0, v1, v2] h <;> rfl
theorem t_19_4 (v0 v1 v2 v3 : Value) : ai_go S m [] (19, b1, b2, 4, y, tb) ls (v3 :: v2 :: v1 :: v0 :: st) h = if ai_recv 1 0 [v0, v1, v2, v3] h = true ∧ st.length ≤ 4 then (ai_call S b2 [v0, v1, v2, v3] h).bind (fun q => ai_res S m b1 ls (q.1.toList ++ st) q.2) else none := by
  show (if ai_recv 1 0 [v0, v1, v2, v3] h = true ∧ st.length ≤ 4 then (match ai_call S b2 [v0, v1, v2, v3] h with | some (v, h') => ai_res S m b1 ls (v.toList ++ st) h' | none => none) else none) = _
  cases ai_call S b2 [v0, v1, v2, v3] h <;> rfl
theorem t_19_5 (v0 v1 v2 v3 v4 : Value) : ai_go S m [] (19, b1, b2, 5, y, tb) ls (v4 :: v3 :: v2 :: v1 :: v0 :: st) h = if ai_recv 1 0 [v0, v1, v2, v3, v4] h = true ∧ st.length ≤ 4 then (ai_call S b2 [v0, v1, v2, v3, v4] h).bind (fun q => ai_res S m b1 ls (q.1.toList ++ st) q.2) else none := by
  show (if ai_recv 1 0 [v0, v1, v2, v3, v4] h = true ∧ st.length ≤ 4 then (match ai_call S b2 [v0, v1, v2, v3, v4] h with | some (v, h') => ai_res S m b1 ls (v.toList ++ st) h' | none => none) else none) = _
  cases ai_call S b2 [v0, v1, v2, v3, v4] h <;> rfl
theorem t_20_1 (v0 : Value) : ai_go S m [] (20, b1, b2, 1, y, tb) ls (v0 :: st) h = if ai_recv 2 0 [v0] h = true ∧ st.length ≤ 4 then (ai_call S b2 [v0] h).bind (fun q => ai_res S m b1 ls (q.1.toList ++ st) q.2) else none := by
  show (if ai_recv 2 0 [v0] h = true ∧ st.length ≤ 4 then (match ai_call S b2 [v0] h with | some (v, h') => ai_res S m b1 ls (v.toList ++ st) h' | none => none) else none) = _
  cases ai_call S b2 [v0] h <;> rfl
theorem t_20_2 (v0 v1 : Value) : ai_go S m [] (20, b1, b2, 2, y, tb) ls (v1 :: v0 :: st) h = if ai_recv 2 0 [v0, v1] h = true ∧ st.length ≤ 4 then (ai_call S b2 [v0, v1] h).bind (fun q => ai_res S m b1 ls (q.1.toList ++ st) q.2) else none := by
  show (if ai_recv 2 0 [v0, v1] h = true ∧ st.length ≤ 4 then (match ai_call S b2 [v0, v1] h with | some (v, h') => ai_res S m b1 ls (v.toList ++ st) h' | none => none) else none) = _
  cases ai_call S b2 [v0, v1] h <;> rfl
theorem t_20_3 (v0 v1 v2 : Value) : ai_go S m [] (20, b1, b2, 3, y, tb) ls (v2 :: v1 :: v0 :: st) h = if ai_recv 2 0 [v0, v1, v2] h = true ∧ st.length ≤ 4 then (ai_call S b2 [v0, v1, v2] h).bind (fun q => ai_res S m b1 ls (q.1.toList ++ st) q.2) else none := by
  show (if ai_recv 2 0 [v0, v1, v2] h = true ∧ st.length ≤ 4 then (match ai_call S b2 [v0, v1, v2] h with | some (v, h') => ai_res S m b1 ls (v.toList ++ st) h' | none => none) else none) = _
  cases ai_call S b2 [v0, v1, v2] h <;> rfl
theorem t_20_4 (v0 v1 v2 v3 : Value) : ai_go S m [] (20, b1, b2, 4, y, tb) ls (v3 :: v2 :: v1 :: v0 :: st) h = if ai_recv 2 0 [v0, v1, v2, v3] h = true ∧ st.length ≤ 4 then (ai_call S b2 [v0, v1, v2, v3] h).bind (fun q => ai_res S m b1 ls (q.1.toList ++ st) q.2) else none := by
  show (if ai_recv 2 0 [v0, v1, v2, v3] h = true ∧ st.length ≤ 4 then (match ai_call S b2 [v0, v1, v2, v3] h with | some (v, h') => ai_res S m b1 ls (v.toList ++ st) h' | none => none) else none) = _
  cases ai_call S b2 [v0, v1, v2, v3] h <;> rfl
theorem t_20_5 (v0 v1 v2 v3 v4 : Value) : ai_go S m [] (20, b1, b2, 5, y, tb) ls (v4 :: v3 :: v2 :: v1 :: v0 :: st) h = if ai_recv 2 0 [v0, v1, v2, v3, v4] h = true ∧ st.length ≤ 4 then (ai_call S b2 [v0, v1, v2, v3, v4] h).bind (fun q => ai_res S m b1 ls (q.1.toList ++ st) q.2) else none := by
  show (if ai_recv 2 0 [v0, v1, v2, v3, v4] h = true ∧ st.length ≤ 4 then (match ai_call S b2 [v0, v1, v2, v3, v4] h with | some (v, h') => ai_res S m b1 ls (v.toList ++ st) h' | none => none) else none) = _
  cases ai_call S b2 [v0, v1, v2, v3, v4] h <;> rfl
theorem t_21_1 (v0 : Value) : ai_go S m [] (21, b1, b2, 1, y, tb) ls (v0 :: st) h = if ai_recv 4 0 [v0] h = true ∧ st.length ≤ 4 then (ai_call S b2 [v0] h).bind (fun q => ai_res S m b1 ls (q.1.toList ++ st) q.2) else none := by
  show (if ai_recv 4 0 [v0] h = true ∧ st.length ≤ 4 then (match ai_call S b2 [v0] h with | some (v, h') => ai_res S m b1 ls (v.toList ++ st) h' | none => none) else none) = _
  cases ai_call S b2 [v0] h <;> rfl
theorem t_21_2 (v0 v1 : Value) : ai_go S m [] (21, b1, b2, 2, y, tb) ls (v1 :: v0 :: st) h = if ai_recv 4 0 [v0, v1] h = true ∧ st.length ≤ 4 then (ai_call S b2 [v0, v1] h).bind (fun q => ai_res S m b1 ls (q.1.toList ++ st) q.2) else none := by
  show (if ai_recv 4 0 [v0, v1] h = true ∧ st.length ≤ 4 then (match ai_call S b2 [v0, v1] h with | some (v, h') => ai_res S m b1 ls (v.toList ++ st) h' | none => none) else none) = _
  cases ai_call S b2 [v0, v1] h <;> rfl
theorem t_21_3 (v0 v1 v2 : Value) : ai_go S m [] (21, b1, b2, 3, y, tb) ls (v2 :: v1 :: v0 :: st) h = if ai_recv 4 0 [v0, v1, v2] h = true ∧ st.length ≤ 4 then (ai_call S b2 [v0, v1, v2] h).bind (fun q => ai_res S m b1 ls (q.1.toList ++ st) q.2) else none := by
  show (if ai_recv 4 0 [v0, v1, v2] h = true ∧ st.length ≤ 4 then (match ai_call S b2 [v0, v1, v2] h with | some (v, h') => ai_res S m b1 ls (v.toList ++ st) h' | none => none) else none) = _
  cases ai_call S b2 [v0, v1, v2] h <;> rfl
theorem t_21_4 (v0 v1 v2 v3 : Value) : ai_go S m [] (21, b1, b2, 4, y, tb) ls (v3 :: v2 :: v1 :: v0 :: st) h = if ai_recv 4 0 [v0, v1, v2, v3] h = true ∧ st.length ≤ 4 then (ai_call S b2 [v0, v1, v2, v3] h).bind (fun q => ai_res S m b1 ls (q.1.toList ++ st) q.2) else none := by
  show (if ai_recv 4 0 [v0, v1, v2, v3] h = true ∧ st.length ≤ 4 then (match ai_call S b2 [v0, v1, v2, v3] h with | some (v, h') => ai_res S m b1 ls (v.toList ++ st) h' | none => none) else none) = _
  cases ai_call S b2 [v0, v1, v2, v3] h <;> rfl
theorem t_21_5 (v0 v1 v2 v3 v4 : Value) : ai_go S m [] (21, b1, b2, 5, y, tb) ls (v4 :: v3 :: v2 :: v1 :: v0 :: st) h = if ai_recv 4 0 [v0, v1, v2, v3, v4] h = true ∧ st.length ≤ 4 then (ai_call S b2 [v0, v1, v2, v3, v4] h).bind (fun q => ai_res S m b1 ls (q.1.toList ++ st) q.2) else none := by
  show (if ai_recv 4 0 [v0, v1, v2, v3, v4] h = true ∧ st.length ≤ 4 then (match ai_call S b2 [v0, v1, v2, v3, v4] h with | some (v, h') => ai_res S m b1 ls (v.toList ++ st) h' | none => none) else none) = _
  cases ai_call S b2 [v0, v1, v2, v3, v4] h <;> rfl
theorem t_22_1 (v0 : Value) : ai_go S m [] (22, b1, b2, 1, y, tb) ls (v0 :: st) h = if ai_recv 5 0 [v0] h = true ∧ st.length ≤ 4 then (ai_call S b2 [v0] h).bind (fun q => ai_res S m b1 ls (q.1.toList ++ st) q.2) else none := by
  show (if ai_recv 5 0 [v0] h = true ∧ st.length ≤ 4 then (match ai_call S b2 [v0] h with | some (v, h') => ai_res S m b1 ls (v.toList ++ st) h' | none => none) else none) = _
  cases ai_call S b2 [v0] h <;> rfl
theorem t_22_2 (v0 v1 : Value) : ai_go S m [] (22, b1, b2, 2, y, tb) ls (v1 :: v0 :: st) h = if ai_recv 5 0 [v0, v1] h = true ∧ st.length ≤ 4 then (ai_call S b2 [v0, v1] h).bind (fun q => ai_res S m b1 ls (q.1.toList ++ st) q.2) else none := by
  show (if ai_recv 5 0 [v0, v1] h = true ∧ st.length ≤ 4 then (match ai_call S b2 [v0, v1] h with | some (v, h') => ai_res S m b1 ls (v.toList ++ st) h' | none => none) else none) = _
  cases ai_call S b2 [v0, v1] h <;> rfl
theorem t_22_3 (v0 v1 v2 : Value) : ai_go S m [] (22, b1, b2, 3, y, tb) ls (v2 :: v1 :: v0 :: st) h = if ai_recv 5 0 [v0, v1, v2] h = true ∧ st.length ≤ 4 then (ai_call S b2 [v0, v1, v2] h).bind (fun q => ai_res S m b1 ls (q.1.toList ++ st) q.2) else none := by
  show (if ai_recv 5 0 [v0, v1, v2] h = true ∧ st.length ≤ 4 then (match ai_call S b2 [v0, v1, v2] h with | some (v, h') => ai_res S m b1 ls (v.toList ++ st) h' | none => none) else none) = _
  cases ai_call S b2 [v0, v1, v2] h <;> rfl
theorem t_22_4 (v0 v1 v2 v3 : Value) : ai_go S m [] (22, b1, b2, 4, y, tb) ls (v3 :: v2 :: v1 :: v0 :: st) h = if ai_recv 5 0 [v0, v1, v2, v3] h = true ∧ st.length ≤ 4 then (ai_call S b2 [v0, v1, v2, v3] h).bind (fun q => ai_res S m b1 ls (q.1.toList ++ st) q.2) else none := by
  show (if ai_recv 5 0 [v0, v1, v2, v3] h = true ∧ st.length ≤ 4 then (match ai_call S b2 [v0, v1, v2, v3] h with | some (v, h') => ai_res S m b1 ls (v.toList ++ st) h' | none => none) else none) = _
  cases ai_call S b2 [v0, v1, v2, v3] h <;> rfl
theorem t_22_5 (v0 v1 v2 v3 v4 : Value) : ai_go S m [] (22, b1, b2, 5, y, tb) ls (v4 :: v3 :: v2 :: v1 :: v0 :: st) h = if ai_recv 5 0 [v0, v1, v2, v3, v4] h = true ∧ st.length ≤ 4 then (ai_call S b2 [v0, v1, v2, v3, v4] h).bind (fun q => ai_res S m b1 ls (q.1.toList ++ st) q.2) else none := by
  show (if ai_recv 5 0 [v0, v1, v2, v3, v4] h = true ∧ st.length ≤ 4 then (match ai_call S b2 [v0, v1, v2, v3, v4] h with | some (v, h') => ai_res S m b1 ls (v.toList ++ st) h' | none => none) else none) = _
  cases ai_call S b2 [v0, v1, v2, v3, v4] h <;> rfl
theorem rc_0 (q ci : Nat) (as : List Value) : ai_recv 0 ci (.ref q :: as) h = ai_io h q ci := rfl
theorem rc_1 (ci : Nat) (as : List Value) : ai_recv 1 ci as h = true := rfl
theorem rc_2 (q ci : Nat) (as : List Value) : ai_recv 2 ci (.ref q :: as) h = true := rfl
theorem rc_4 (ci : Nat) (as : List Value) : ai_recv 4 ci as h = true := rfl
theorem rc_5 (q ci : Nat) (as : List Value) : ai_recv 5 ci (.ref q :: as) h = true := rfl
theorem t_23 (u : Int32) : ai_go S m [] (23, b1, b2, x, y, tb) ls [.int u] h = some (some (.int u), h) := rfl
theorem t_24_0  : ai_go S m [] (24, b1, b2, x, y, tb) ls ([.int 0]) h = some (some (.int 0), h) := rfl
theorem t_24_1  : ai_go S m [] (24, b1, b2, x, y, tb) ls ([.int 1]) h = some (some (.int 1), h) := rfl
theorem t_25 (u : Int64) : ai_go S m [] (25, b1, b2, x, y, tb) ls ([.long u]) h = some (some (.long u), h) := rfl
theorem t_26r (u : Nat) : ai_go S m [] (26, b1, b2, x, y, tb) ls ([.ref u]) h = some (some (.ref u), h) := rfl
theorem t_26n  : ai_go S m [] (26, b1, b2, x, y, tb) ls ([.null]) h = some (some .null, h) := rfl
theorem t_27  : ai_go S m [] (27, b1, b2, x, y, tb) ls ([]) h = some (none, h) := rfl
end Wk
theorem rg_ok {i : Int32} {n : Nat} (h : ¬ (i < 0 ∨ n ≤ i.toNatClampNeg)) (f : ai_A) : ai_rg i n f = f := if_neg h
theorem rg_n {k n : Nat} (h : k < n) (hn : n < 2 ^ 31) (f : ai_A) : ai_rg (nI k) n f = f := if_neg (by
  have h1 := nI_pos (n := k) (by omega)
  have h2 := nI_clamp (n := k) (by omega)
  intro z
  rcases z with z | z
  · exact h1 z
  · omega)
/-- two ways to one block, with another number on the stack -/
theorem ite_res (c : Prop) [Decidable c] (S : ai_S) (m b : Nat) (ls st : List Value) (h : ai_H) (x y : Int32) : (if c then ai_res S m b ls (.int x :: st) h else ai_res S m b ls (.int y :: st) h) = ai_res S m b ls (.int (if c then x else y) :: st) h := by
  split <;> rfl
