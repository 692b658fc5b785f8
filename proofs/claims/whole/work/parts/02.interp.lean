/-! An abstract interpreter of bytecode: a value's .ref 0 is the script, .ref (k + 1) the k-th cell of an abstract heap; every step that isn't modelled answers none. -/
abbrev ai_H : Type := List va_E
abbrev ai_I : Type := Nat × Nat × Nat × Nat × Int32
abbrev ai_T : Type := Nat × Nat × Nat × Nat × Nat × List (Int32 × Nat)
abbrev ai_B : Type := Nat × List ai_I × ai_T
abbrev ai_X : Type := List Value × List Value × ai_H
abbrev ai_S : Type := Nat × (Nat → Int32)
abbrev ai_A : Type := Option (Option Value × ai_H)
abbrev ai_O : Type := ai_S → Nat → Nat → Nat → Int32 → List Value → List Value → ai_H → Option ai_X
/-- a local that isn't set -/
def ai_u : Value := .retAddr 0
/-- the cell that a place names -/
def ai_cell (h : ai_H) (q : Nat) : Option va_E := match q with
  | 0 => none
  | q + 1 => h[q]?
def ai_gf (h : ai_H) (q ci k : Nat) : Option Value := match ai_cell h q with
  | some (.inr (c, fs)) => if c = ci then fs[k]? else none
  | _ => none
def ai_pf (h : ai_H) (q ci k : Nat) (v : Value) : Option ai_H := match ai_cell h q with
  | some (.inr (c, fs)) => if c = ci ∧ k < fs.length then some (h.set (q - 1) (.inr (c, fs.set k v))) else none
  | _ => none
/-- an array of ints (0), booleans (1): its length, what it holds -/
def ai_ia (h : ai_H) (q t : Nat) : Option (Nat × (Nat → Int32)) := match ai_cell h q with
  | some (.inl (t', n, .inl f)) => if t' = t then some (n, f) else none
  | _ => none
def ai_pa (h : ai_H) (q t : Nat) (f' : Nat → Int32) : Option ai_H := match ai_cell h q with
  | some (.inl (t', n, .inl _)) => if t' = t then some (h.set (q - 1) (.inl (t, n, .inl f'))) else none
  | _ => none
/-- an array of references (2) -/
def ai_ra (h : ai_H) (q : Nat) : Option (Nat × (Nat → Option Nat)) := match ai_cell h q with
  | some (.inl (t', n, .inr (.inr (.inr (.inr f))))) => if t' = 2 then some (n, f) else none
  | _ => none
def ai_pra (h : ai_H) (q : Nat) (f' : Nat → Option Nat) : Option ai_H := match ai_cell h q with
  | some (.inl (t', n, .inr (.inr (.inr (.inr _))))) => if t' = 2 then some (h.set (q - 1) (.inl (2, n, .inr (.inr (.inr (.inr f')))))) else none
  | _ => none
def ai_io (h : ai_H) (q ci : Nat) : Bool := match ai_cell h q with
  | some (.inr (c, _)) => c == ci
  | _ => false
def ai_alen (h : ai_H) (q : Nat) : Option Nat := match ai_cell h q with
  | some (.inl (_, n, _)) => some n
  | _ => none
def ai_out (i : Int32) (n : Nat) : Prop := i < 0 ∨ n ≤ i.toNatClampNeg
def ai_oi {α : Type} (o : Option Value) (f : Int32 → Option α) : Option α := match o with
  | some (.int x) => f x
  | _ => none
/-- what a new object of a kind holds -/
def ai_fresh : Nat → List Value
  | 0 => [.null, .null, .null, .int 0]
  | 1 => [.null, .null, .int 0, .int 0, .int 0, .int 0, .int 0, .int 0]
  | 2 => [.null, .int 0, .int 0]
  | 3 => [.int 0, .int 0, .int 0, .int 0, .null, .null, .null, .null]
  | 4 => [.null, .int 0, .int 0, .int 0, .int 0, .int 0, .int 0, .int 0, .int 0, .int 0, .int 0]
  | 5 => [.null, .null, .null, .null, .null, .null, .int 0, .null, .null, .null, .long 0]
  | _ => [.int 0, .long 0, .null, .int 0, .int 0, .int 0, .int 0, .int 0, .int 0, .int 0, .null, .null, .null, .null, .null, .null, .null, .null, .null, .int 0, .null, .null, .null, .int 0, .int 0, .int 0, .null]
-- the steps
def ai_const : ai_O := fun _ _ _ _ z ls st h => some (ls, .int z :: st, h)
def ai_iload : ai_O := fun _ a _ _ _ ls st h => match ls[a]? with
  | some (.int x) => some (ls, .int x :: st, h)
  | _ => none
def ai_aload : ai_O := fun _ a _ _ _ ls st h => match ls[a]? with
  | some (.ref q) => some (ls, .ref q :: st, h)
  | some .null => some (ls, .null :: st, h)
  | _ => none
def ai_istore : ai_O := fun _ a _ _ _ ls st h => match st with
  | .int x :: st => if a < ls.length then some (ls.set a (.int x), st, h) else none
  | _ => none
def ai_astore : ai_O := fun _ a _ _ _ ls st h => match st with
  | .ref q :: st => if a < ls.length then some (ls.set a (.ref q), st, h) else none
  | .null :: st => if a < ls.length then some (ls.set a .null, st, h) else none
  | _ => none
def ai_iinc : ai_O := fun _ a _ _ z ls st h => match ls[a]? with
  | some (.int x) => some (ls.set a (.int (x + z)), st, h)
  | _ => none
def ai_bin (f : Int32 → Int32 → Int32) : ai_O := fun _ _ _ _ _ ls st h => match st with
  | .int y :: .int x :: st => some (ls, .int (f x y) :: st, h)
  | _ => none
def ai_div (f : Int32 → Int32 → Int32) : ai_O := fun _ _ _ _ _ ls st h => match st with
  | .int y :: .int x :: st => if y = 0 then none else some (ls, .int (f x y) :: st, h)
  | _ => none
def ai_dup : ai_O := fun _ _ _ _ _ ls st h => match st with
  | v :: st => if v.category = 1 then some (ls, v :: v :: st, h) else none
  | _ => none
def ai_dup2 : ai_O := fun _ _ _ _ _ ls st h => match st with
  | v :: w :: st => if v.category = 1 ∧ w.category = 1 then some (ls, v :: w :: v :: w :: st, h) else none
  | _ => none
def ai_pop : ai_O := fun _ _ _ _ _ ls st h => match st with
  | v :: st => if v.category = 1 then some (ls, st, h) else none
  | _ => none
def ai_get : ai_O := fun _ a b _ _ ls st h => match st with
  | .ref q :: st => (match ai_gf h q a b with
    | some v => some (ls, v :: st, h)
    | none => none)
  | _ => none
def ai_putI : ai_O := fun _ a b _ _ ls st h => match st with
  | .int x :: .ref q :: st => (match ai_pf h q a b (.int x) with
    | some h' => some (ls, st, h')
    | none => none)
  | _ => none
def ai_putZ : ai_O := fun _ a b _ _ ls st h => match st with
  | .int x :: .ref q :: st => if x = 0 ∨ x = 1 then (match ai_pf h q a b (.int x) with
    | some h' => some (ls, st, h')
    | none => none) else none
  | _ => none
def ai_putJ : ai_O := fun _ a b _ _ ls st h => match st with
  | .long x :: .ref q :: st => (match ai_pf h q a b (.long x) with
    | some h' => some (ls, st, h')
    | none => none)
  | _ => none
def ai_putR : ai_O := fun _ a b _ _ ls st h => match st with
  | .ref x :: .ref q :: st => (match ai_pf h q a b (.ref x) with
    | some h' => some (ls, st, h')
    | none => none)
  | _ => none
def ai_iald : ai_O := fun S _ _ _ _ ls st h => match st with
  | .int i :: .ref 0 :: st => if i < 0 ∨ S.1 ≤ i.toNatClampNeg then none else some (ls, .int (S.2 i.toNatClampNeg) :: st, h)
  | .int i :: .ref q :: st => (match ai_ia h q 0 with
    | some (n, f) => if i < 0 ∨ n ≤ i.toNatClampNeg then none else some (ls, .int (f i.toNatClampNeg) :: st, h)
    | none => none)
  | _ => none
def ai_bald : ai_O := fun _ _ _ _ _ ls st h => match st with
  | .int i :: .ref q :: st => (match ai_ia h q 1 with
    | some (n, f) => if i < 0 ∨ n ≤ i.toNatClampNeg then none else some (ls, .int (f i.toNatClampNeg) :: st, h)
    | none => none)
  | _ => none
def ai_iast : ai_O := fun _ _ _ _ _ ls st h => match st with
  | .int x :: .int i :: .ref q :: st => (match ai_ia h q 0 with
    | some (n, f) => if i < 0 ∨ n ≤ i.toNatClampNeg then none else (match ai_pa h q 0 (upd f i.toNatClampNeg x) with
      | some h' => some (ls, st, h')
      | none => none)
    | none => none)
  | _ => none
def ai_bast : ai_O := fun _ _ _ _ _ ls st h => match st with
  | .int x :: .int i :: .ref q :: st => (match ai_ia h q 1 with
    | some (n, f) => if i < 0 ∨ n ≤ i.toNatClampNeg then none else (match ai_pa h q 1 (upd f i.toNatClampNeg (vp_nar .boolean x)) with
      | some h' => some (ls, st, h')
      | none => none)
    | none => none)
  | _ => none
def ai_aald : ai_O := fun _ _ _ _ _ ls st h => match st with
  | .int i :: .ref q :: st => (match ai_ra h q with
    | some (n, f) => if i < 0 ∨ n ≤ i.toNatClampNeg then none else some (ls, va_rf (f i.toNatClampNeg) :: st, h)
    | none => none)
  | _ => none
def ai_aast : ai_O := fun _ _ _ _ _ ls st h => match st with
  | .ref v :: .int i :: .ref q :: st => (match ai_ra h q with
    | some (n, f) => if i < 0 ∨ n ≤ i.toNatClampNeg then none else if ai_io h v 1 = true then (match ai_pra h q (va_up f i.toNatClampNeg (some v)) with
      | some h' => some (ls, st, h')
      | none => none) else none
    | none => none)
  | _ => none
def ai_len : ai_O := fun S _ _ _ _ ls st h => match st with
  | .ref 0 :: st => some (ls, .int (Int32.ofNat S.1) :: st, h)
  | .ref q :: st => (match ai_cell h q with
    | some (.inl (t, n, _)) => if t < 3 then some (ls, .int (Int32.ofNat n) :: st, h) else none
    | _ => none)
  | _ => none
def ai_newa (t : Nat) : ai_O := fun _ _ _ _ _ ls st h => match st with
  | .int n :: st => if n < 0 ∨ 1000 < n.toNatClampNeg then none else some (ls, .ref (h.length + 1) :: st, h ++ [.inl (t, n.toNatClampNeg, .inl (fun _ => 0))])
  | _ => none
def ai_newr : ai_O := fun _ _ _ _ _ ls st h => match st with
  | .int n :: st => if n < 0 ∨ 1000 < n.toNatClampNeg then none else some (ls, .ref (h.length + 1) :: st, h ++ [.inl (2, n.toNatClampNeg, .inr (.inr (.inr (.inr (fun _ => none)))))])
  | _ => none
def ai_newo : ai_O := fun _ a _ _ _ ls st h => some (ls, .ref (h.length + 1) :: st, h ++ [.inr (a, ai_fresh a)])
def ai_lcon : ai_O := fun _ _ _ _ z ls st h => some (ls, .long z.toInt64 :: st, h)
def ai_ladd : ai_O := fun _ _ _ _ _ ls st h => match st with
  | .long y :: .long x :: st => some (ls, .long (x + y) :: st, h)
  | _ => none
def ai_lcmp : ai_O := fun _ _ _ _ _ ls st h => match st with
  | .long y :: .long x :: st => some (ls, .int (lg_cmp x y) :: st, h)
  | _ => none
def ai_null : ai_O := fun _ _ _ _ _ ls st h => some (ls, .null :: st, h)
def ai_obj : ai_O := fun _ _ _ _ _ ls st h => match st with
  | .ref _ :: st => if (st.map fun v => v.category).sum ≤ 8 then some (ls, st, h) else none
  | _ => none
def ai_mm (f : Int32 → Int32 → Int32) : ai_O := fun _ _ _ _ _ ls st h => match st with
  | .int y :: .int x :: st => if (st.map fun v => v.category).sum ≤ 7 then some (ls, .int (f x y) :: st, h) else none
  | _ => none
def ai_ops : List ai_O := [ai_const, ai_const, ai_const, ai_iload, ai_iload, ai_aload, ai_istore, ai_istore, ai_astore, ai_iinc,
  ai_bin (fun x y => x + y), ai_bin (fun x y => x - y), ai_bin (fun x y => x * y), ai_bin (fun x y => x &&& y), ai_bin (fun x y => x ||| y), ai_bin (fun x y => x <<< (y &&& 31)), ai_bin (fun x y => x >>> (y &&& 31)), ai_bin (fun x y => (x.toUInt32 >>> (y.toUInt32 &&& Int32.toUInt32 31)).toInt32), ai_div (fun x y => x / y), ai_div (fun x y => x - x / y * y),
  ai_dup, ai_dup2, ai_pop, ai_get, ai_putI, ai_putZ, ai_putJ, ai_putR, ai_putR, ai_iald,
  ai_iast, ai_bald, ai_bast, ai_aald, ai_aast, ai_len, ai_newa 0, ai_newa 1, ai_newr, ai_newo,
  ai_const, ai_const, ai_lcon, ai_lcon, ai_ladd, ai_lcmp, ai_null, ai_obj,
  ai_mm (fun x y => if y < x then y else x), ai_mm (fun x y => if x < y then y else x)]
def ai_op (S : ai_S) (i : ai_I) (ls st : List Value) (h : ai_H) : Option ai_X := match ai_ops[i.1]? with
  | some f => f S i.2.1 i.2.2.1 i.2.2.2.1 i.2.2.2.2 ls st h
  | none => none
def ai_xl (S : ai_S) : List ai_I → List Value → List Value → ai_H → Option ai_X
  | [], ls, st, h => some (ls, st, h)
  | i :: is, ls, st, h => match ai_op S i ls st h with
    | some (ls', st', h') => ai_xl S is ls' st' h'
    | none => none
-- the ends of blocks
abbrev ai_Rec : Type := Nat → Nat → List Value → List Value → ai_H → ai_A
abbrev ai_Cal : Type := Nat → List Value → ai_H → ai_A
def ai_if (P : Int32 → Prop) [DecidablePred P] (r : ai_Rec) (m b1 b2 : Nat) (ls st : List Value) (h : ai_H) : ai_A := match st with
  | .int x :: st => if P x then r m b1 ls st h else r m b2 ls st h
  | _ => none
def ai_if2 (P : Int32 → Int32 → Prop) [∀ x y, Decidable (P x y)] (r : ai_Rec) (m b1 b2 : Nat) (ls st : List Value) (h : ai_H) : ai_A := match st with
  | .int y :: .int x :: st => if P x y then r m b1 ls st h else r m b2 ls st h
  | _ => none
def ai_nul (r : ai_Rec) (m b1 b2 : Nat) (ls st : List Value) (h : ai_H) : ai_A := match st with
  | .null :: st => r m b1 ls st h
  | .ref _ :: st => r m b2 ls st h
  | _ => none
def ai_sw (r : ai_Rec) (m d : Nat) (ls st : List Value) (h : ai_H) (x : Int32) : List (Int32 × Nat) → ai_A
  | [] => r m d ls st h
  | (k, b) :: t => if x = k then r m b ls st h else ai_sw r m d ls st h x t
def ai_swt (r : ai_Rec) (m d : Nat) (t : List (Int32 × Nat)) (ls st : List Value) (h : ai_H) : ai_A := match st with
  | .int x :: st => ai_sw r m d ls st h x t
  | _ => none
def ai_split : Nat → List Value → List Value → Option (List Value × List Value)
  | 0, acc, st => some (acc, st)
  | n + 1, acc, v :: st => ai_split n (v :: acc) st
  | _ + 1, _, [] => none
def ai_recv (ck ci : Nat) (as : List Value) (h : ai_H) : Bool := match ck with
  | 0 => (match as with
    | .ref q :: _ => ai_io h q ci
    | _ => false)
  | 1 => true
  | 4 => true
  | _ => (match as with
    | .ref _ :: _ => true
    | _ => false)
def ai_cal (r : ai_Rec) (cl : ai_Cal) (m b1 b2 n : Nat) (ck ci : Nat) (ls st : List Value) (h : ai_H) : ai_A := match ai_split n [] st with
  | some (as, rest) => if ai_recv ck ci as h = true ∧ rest.length ≤ 4 then (match cl b2 as h with
    | some (v, h') => r m b1 ls (v.toList ++ rest) h'
    | none => none) else none
  | none => none
def ai_ret (k : Nat) (st : List Value) (h : ai_H) : ai_A := match k, st with
  | 0, [.int x] => some (some (.int x), h)
  | 1, [.int x] => if x = 0 ∨ x = 1 then some (some (.int x), h) else none
  | 2, [.long x] => some (some (.long x), h)
  | 3, [.ref x] => some (some (.ref x), h)
  | 3, [.null] => some (some .null, h)
  | 4, [] => some (none, h)
  | _, _ => none
def ai_term (r : ai_Rec) (cl : ai_Cal) (m : Nat) (t : ai_T) (ls st : List Value) (h : ai_H) : ai_A :=
  match t.1 with
  | 0 => r m t.2.1 ls st h
  | 1 => r m t.2.1 ls st h
  | 2 => ai_if (fun x => x = 0) r m t.2.1 t.2.2.1 ls st h
  | 3 => ai_if (fun x => ¬ x = 0) r m t.2.1 t.2.2.1 ls st h
  | 4 => ai_if (fun x => x < 0) r m t.2.1 t.2.2.1 ls st h
  | 5 => ai_if (fun x => 0 ≤ x) r m t.2.1 t.2.2.1 ls st h
  | 6 => ai_if (fun x => 0 < x) r m t.2.1 t.2.2.1 ls st h
  | 7 => ai_if (fun x => x ≤ 0) r m t.2.1 t.2.2.1 ls st h
  | 8 => ai_if2 (fun x y => x = y) r m t.2.1 t.2.2.1 ls st h
  | 9 => ai_if2 (fun x y => ¬ x = y) r m t.2.1 t.2.2.1 ls st h
  | 10 => ai_if2 (fun x y => x < y) r m t.2.1 t.2.2.1 ls st h
  | 11 => ai_if2 (fun x y => y ≤ x) r m t.2.1 t.2.2.1 ls st h
  | 12 => ai_if2 (fun x y => y < x) r m t.2.1 t.2.2.1 ls st h
  | 13 => ai_if2 (fun x y => x ≤ y) r m t.2.1 t.2.2.1 ls st h
  | 14 => ai_nul r m t.2.1 t.2.2.1 ls st h
  | 15 => ai_nul r m t.2.2.1 t.2.1 ls st h
  | 16 => ai_swt r m t.2.1 t.2.2.2.2.2 ls st h
  | 17 => ai_swt r m t.2.1 t.2.2.2.2.2 ls st h
  | 18 => ai_cal r cl m t.2.1 t.2.2.1 t.2.2.2.1 0 t.2.2.2.2.1 ls st h
  | 19 => ai_cal r cl m t.2.1 t.2.2.1 t.2.2.2.1 1 0 ls st h
  | 20 => ai_cal r cl m t.2.1 t.2.2.1 t.2.2.2.1 2 0 ls st h
  | 21 => ai_cal r cl m t.2.1 t.2.2.1 t.2.2.2.1 4 0 ls st h
  | 22 => ai_cal r cl m t.2.1 t.2.2.1 t.2.2.2.1 5 0 ls st h
  | 23 => ai_ret 0 st h
  | 24 => ai_ret 1 st h
  | 25 => ai_ret 2 st h
  | 26 => ai_ret 3 st h
  | 27 => ai_ret 4 st h
  | _ => none
