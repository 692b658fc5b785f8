/-! the interpreter is sound -/
theorem ai_lvargs {bA base : Nat} : ∀ (as : List Value) (i j : Nat) (v : Value), (∀ w ∈ as, w.category = 1) → as[j]? = some v → (i + j, ai_cv bA base v) ∈ lv_args i (as.map (ai_cv bA base))
  | [], i, j, v, _, h => by simp at h
  | w :: t, i, j, v, hc, h => by
    have hw : ¬ (ai_cv bA base w).category = 2 := by rw [ai_cv_cat, hc w List.mem_cons_self]; decide
    show (i + j, ai_cv bA base v) ∈ (i, ai_cv bA base w) :: lv_args (if (ai_cv bA base w).category = 2 then i + 2 else i + 1) (t.map (ai_cv bA base))
    rw [if_neg hw]
    cases j with
    | zero =>
      rw [List.getElem?_cons_zero] at h
      cases h
      exact List.mem_cons_self
    | succ j =>
      rw [List.getElem?_cons_succ] at h
      have h2 := ai_lvargs (bA := bA) (base := base) t (i + 1) j v (fun w hw => hc w (List.mem_cons_of_mem _ hw)) h
      rw [show i + 1 + j = i + (j + 1) by omega] at h2
      exact List.mem_cons_of_mem _ h2
theorem ai_lgsl {bA base : Nat} : ∀ (as : List Value), (∀ w ∈ as, w.category = 1) → (lg_sl (as.map (ai_cv bA base))).length = as.length
  | [], _ => rfl
  | w :: t, hc => by
    have hw : ¬ (ai_cv bA base w).category = 2 := by rw [ai_cv_cat, hc w List.mem_cons_self]; decide
    have h := ai_lgsl (bA := bA) (base := base) t (fun w hw => hc w (List.mem_cons_of_mem _ hw))
    unfold lg_sl at h ⊢
    rw [List.map_cons, List.flatMap_cons, List.length_append, if_neg hw, h]
    show 1 + t.length = t.length + 1
    omega
/-- how a body ends: what W wants at the return -/
def ai_Ex (bA base : Nat) (dC : Nat → ClassId) (dI : Nat → Nat → Nat) (ca : Nat → ClassId) (p : Program) (l : Launch) (e : Env) (R : Room) (s : State) (m : MethodId) (args : Array Value) (below : List Frame) (meth : Method) (c : Code) (Q : State → Prop) (k n0 z0 : Nat) (v : Option Value) (h' : ai_H) : Prop :=
  ∀ (rk pc b1 b2 x y : Nat) (tbl : List (Int32 × Nat)) (st : List Value) (h : ai_H), rk ≤ 4 → ai_ret rk st h = some (v, h') → ai_ckt k pc (rk + 23, b1, b2, x, y, tbl) = true → ∀ (H : Heap) (locs : List Loc) (lsC : Array Slot), ai_Wd bA base dC dI ca s h H locs → h = h' → W p l e R s m args below meth c H locs (h'.length - n0) (ai_sz h' - z0) Q (F0 m pc lsC (st.map (ai_cv bA base)))
section Core
variable {bA base : Nat} {dC : Nat → ClassId} {dI : Nat → Nat → Nat} {ca : Nat → ClassId} {S : ai_S} {p : Program} {l : Launch} {e : Env} {R : Room} {s : State} {m : MethodId} {args : Array Value} {below : List Frame} {meth : Method} {c : Code} {Q : State → Prop} {k n0 z0 pc : Nat}
/-- a point is good from where it goes on -/
abbrev ai_Nx (S : ai_S) (r : ai_Rec) (v : Option Value) (h' : ai_H) (n0 z0 k : Nat) (G : Nat → List Value → List Value → ai_H → Prop) : Prop := ∀ (b : Nat) (ls st : List Value) (h : ai_H), r k b ls st h = some (v, h') → n0 ≤ h.length ∧ z0 ≤ ai_sz h → G (ai_pc k b) ls st h
theorem ai_offT (k pc b : Nat) : (pc : Int) + ai_off k pc b = ((ai_pc k b : Nat) : Int) := by unfold ai_off; omega
theorem ai_sw_ok {r : ai_Rec} {v : Option Value} {h' : ai_H} {d : Nat} {ls st : List Value} {h : ai_H} {x : Int32} : ∀ (t : List (Int32 × Nat)), ai_sw r k d ls st h x t = some (v, h') → (∃ (i b : Nat), t[i]? = some (x, b) ∧ (∀ j, j < i → ∀ q, t[j]? = some q → q.1 ≠ x) ∧ r k b ls st h = some (v, h')) ∨ ((∀ q ∈ t, q.1 ≠ x) ∧ r k d ls st h = some (v, h'))
  | [], hf => Or.inr ⟨fun q hq => absurd hq List.not_mem_nil, hf⟩
  | (y, b) :: t, hf => by
    unfold ai_sw at hf
    split at hf
    · rename_i hy
      subst hy
      exact Or.inl ⟨0, b, rfl, fun j hj => absurd hj (Nat.not_lt_zero j), hf⟩
    · rename_i hy
      rcases ai_sw_ok t hf with ⟨i, b2, h1, h2, h3⟩ | ⟨h1, h2⟩
      · refine Or.inl ⟨i + 1, b2, by rw [List.getElem?_cons_succ]; exact h1, fun j hj q hq => ?_, h3⟩
        cases j with
        | zero => rw [List.getElem?_cons_zero] at hq; cases hq; exact fun z => hy z.symm
        | succ j => rw [List.getElem?_cons_succ] at hq; exact h2 j (by omega) q hq
      · refine Or.inr ⟨fun q hq => ?_, h2⟩
        rcases List.mem_cons.mp hq with rfl | hq
        · exact fun z => hy z.symm
        · exact h1 q hq
theorem ai_toInt_inj {x y : Int32} (h : x.toInt = y.toInt) : x = y := Int32.toInt_inj.mp h
theorem ai_dec_of {k pc n : Nat} {i : Instr} (h : ai_dec k pc i n = true) : decode (ai_c k) pc = .ok (i, n) := of_decide_eq_true h
theorem ai_tsw (C : ai_CX bA base dC dI ca S p R s m args meth c k n0) {r : ai_Rec} {v : Option Value} {h' : ai_H} {b1 b2 x y : Nat} {tbl : List (Int32 × Nat)} {ls st : List Value} {h : ai_H} (hb : n0 ≤ h.length ∧ z0 ≤ ai_sz h)
    (hN : ai_Nx S r v h' n0 z0 k (fun pc ls st h => ai_G bA base dC dI ca p l e R s m args below meth c Q n0 z0 pc ls st h)) (hf : ai_swt r k b1 tbl ls st h = some (v, h')) (hc : ai_ckt k pc (16, b1, b2, x, y, tbl) = true) : ai_G bA base dC dI ca p l e R s m args below meth c Q n0 z0 pc ls st h := by
  obtain ⟨hx, hb1, -⟩ := C
  unfold ai_swt at hf
  split at hf
  · rename_i i st0
    have hc2 : (ai_dec k pc (.tableswitch (ai_off k pc b1) (tbl.headD (0, 0)).1.toInt ((tbl.headD (0, 0)).1.toInt + tbl.length - 1) (tbl.map (fun q => ai_off k pc q.2)).toArray) x && (List.range tbl.length).all (fun i => decide ((tbl.getD i (0, 0)).1.toInt = (tbl.headD (0, 0)).1.toInt + i))) = true := hc
    rw [Bool.and_eq_true] at hc2
    have hd := ai_dec_of hc2.1
    have hk : ∀ j, j < tbl.length → (tbl.getD j (0, 0)).1.toInt = (tbl.headD (0, 0)).1.toInt + j := fun j hj => of_decide_eq_true (ai_all hc2.2 (List.mem_range.mpr hj))
    intro H locs lsC hl hw
    rcases ai_sw_ok tbl hf with ⟨j, b, h1, -, h3⟩ | ⟨h1, h2⟩
    · have hj := (List.getElem?_eq_some_iff.mp h1).1
      have hkj := hk j hj
      rw [List.getD_eq_getElem?_getD, h1] at hkj
      change i.toInt = _ at hkj
      refine lv_tableIn hx hb1 hd (by omega) (by omega) (off := ai_off k pc b) ?_ (ai_offT k pc b) (hN b ls st0 h h3 hb H locs lsC hl hw)
      rw [show (i.toInt - (tbl.headD (0, 0)).1.toInt).toNat = j by omega, List.getElem?_toArray, List.getElem?_map, h1]
      rfl
    · refine lv_tableOut hx hb1 hd ?_ (ai_offT k pc b1) (hN b1 ls st0 h h2 hb H locs lsC hl hw)
      by_cases hlo : i.toInt < (tbl.headD (0, 0)).1.toInt
      · exact Or.inl hlo
      · refine Or.inr ?_
        by_cases hhi : (tbl.headD (0, 0)).1.toInt + tbl.length - 1 < i.toInt
        · exact hhi
        · exfalso
          have hj : (i.toInt - (tbl.headD (0, 0)).1.toInt).toNat < tbl.length := by omega
          have hkj := hk _ hj
          rw [List.getD_eq_getElem?_getD, List.getElem?_eq_getElem hj] at hkj
          refine h1 _ (List.getElem_mem hj) (ai_toInt_inj ?_)
          rw [Option.getD_some] at hkj
          omega
  · cases hf
theorem ai_lkp {x : Int32} {k pc d : Nat} : ∀ (t : List (Int32 × Nat)), (∀ (i b : Nat), t[i]? = some (x, b) → (∀ j, j < i → ∀ q, t[j]? = some q → q.1 ≠ x) → Op.lookupswitch.offset (t.map (fun q => (q.1.toInt, ai_off k pc q.2))) (ai_off k pc d) x.toInt = ai_off k pc b) ∧ ((∀ q ∈ t, q.1 ≠ x) → Op.lookupswitch.offset (t.map (fun q => (q.1.toInt, ai_off k pc q.2))) (ai_off k pc d) x.toInt = ai_off k pc d)
  | [] => ⟨fun i b h => by simp at h, fun _ => rfl⟩
  | (y, b0) :: t => by
    obtain ⟨h1, h2⟩ := ai_lkp (x := x) (k := k) (pc := pc) (d := d) t
    have hst : Op.lookupswitch.offset (((y, b0) :: t).map (fun q => (q.1.toInt, ai_off k pc q.2))) (ai_off k pc d) x.toInt = if y.toInt = x.toInt then ai_off k pc b0 else Op.lookupswitch.offset (t.map (fun q => (q.1.toInt, ai_off k pc q.2))) (ai_off k pc d) x.toInt := by
      rw [List.map_cons]
      exact Op.lookupswitch.offset_cons _ _ _ _ _
    refine ⟨fun i b h h3 => ?_, fun h => ?_⟩
    · rw [hst]
      cases i with
      | zero =>
        rw [List.getElem?_cons_zero] at h
        cases h
        rw [if_pos rfl]
      | succ i =>
        rw [List.getElem?_cons_succ] at h
        have h4 := h3 0 (by omega) (y, b0) rfl
        rw [if_neg (fun z => h4 (ai_toInt_inj z))]
        exact h1 i b h (fun j hj q hq => h3 (j + 1) (by omega) q (by rw [List.getElem?_cons_succ]; exact hq))
    · rw [hst, if_neg (fun z => h (y, b0) List.mem_cons_self (ai_toInt_inj z))]
      exact h2 (fun q hq => h q (List.mem_cons_of_mem _ hq))
theorem ai_lsw (C : ai_CX bA base dC dI ca S p R s m args meth c k n0) {r : ai_Rec} {v : Option Value} {h' : ai_H} {b1 b2 x y : Nat} {tbl : List (Int32 × Nat)} {ls st : List Value} {h : ai_H} (hb : n0 ≤ h.length ∧ z0 ≤ ai_sz h)
    (hN : ai_Nx S r v h' n0 z0 k (fun pc ls st h => ai_G bA base dC dI ca p l e R s m args below meth c Q n0 z0 pc ls st h)) (hf : ai_swt r k b1 tbl ls st h = some (v, h')) (hc : ai_ckt k pc (17, b1, b2, x, y, tbl) = true) : ai_G bA base dC dI ca p l e R s m args below meth c Q n0 z0 pc ls st h := by
  obtain ⟨hx, hb1, -⟩ := C
  unfold ai_swt at hf
  split at hf
  · rename_i i st0
    have hc2 : (ai_dec k pc (.lookupswitch (ai_off k pc b1) (tbl.map (fun q => (q.1.toInt, ai_off k pc q.2))).toArray) x && (((tbl.map (fun q => (q.1.toInt, ai_off k pc q.2))).zip ((tbl.map (fun q => (q.1.toInt, ai_off k pc q.2))).drop 1)).all (fun (a, next) => a.1 < next.1))) = true := hc
    rw [Bool.and_eq_true] at hc2
    have hd := ai_dec_of hc2.1
    intro H locs lsC hl hw
    rcases ai_sw_ok tbl hf with ⟨j, b, h1, h2, h3⟩ | ⟨h1, h2⟩
    · exact lv_lookup hx hb1 hd hc2.2 ((ai_lkp tbl).1 j b h1 h2) (ai_offT k pc b) (hN b ls st0 h h3 hb H locs lsC hl hw)
    · exact lv_lookup hx hb1 hd hc2.2 ((ai_lkp tbl).2 h1) (ai_offT k pc b1) (hN b1 ls st0 h h2 hb H locs lsC hl hw)
  · cases hf
theorem ai_t2 (C : ai_CX bA base dC dI ca S p R s m args meth c k n0) {r : ai_Rec} {v : Option Value} {h' : ai_H} {b1 b2 x y : Nat} {tbl : List (Int32 × Nat)} {ls st : List Value} {h : ai_H} (hb : n0 ≤ h.length ∧ z0 ≤ ai_sz h)
    (hN : ai_Nx S r v h' n0 z0 k (fun pc ls st h => ai_G bA base dC dI ca p l e R s m args below meth c Q n0 z0 pc ls st h)) (hf : ai_if (fun x => x = 0) r k b1 b2 ls st h = some (v, h')) (hc : ai_ckt k pc (2, b1, b2, x, y, tbl) = true) : ai_G bA base dC dI ca p l e R s m args below meth c Q n0 z0 pc ls st h := by
  obtain ⟨hx, hb1, -⟩ := C
  unfold ai_if at hf
  split at hf
  · have hc2 : (ai_dec k pc (.ifCond .eq (ai_off k pc b1)) 3 && decide (ai_pc k b2 = pc + 3)) = true := hc
    rw [Bool.and_eq_true] at hc2
    have hd := ai_dec_of hc2.1
    have h3 := of_decide_eq_true hc2.2
    intro H locs lsC hl hw
    exact lv_if_eq hx hb1 hd (ai_offT k pc b1) (fun hc => by rw [if_pos hc] at hf; exact hN b1 ls _ h hf hb H locs lsC hl hw) (fun hc => by rw [if_neg hc] at hf; rw [← h3]; exact hN b2 ls _ h hf hb H locs lsC hl hw)
  · cases hf
theorem ai_t8 (C : ai_CX bA base dC dI ca S p R s m args meth c k n0) {r : ai_Rec} {v : Option Value} {h' : ai_H} {b1 b2 x y : Nat} {tbl : List (Int32 × Nat)} {ls st : List Value} {h : ai_H} (hb : n0 ≤ h.length ∧ z0 ≤ ai_sz h)
    (hN : ai_Nx S r v h' n0 z0 k (fun pc ls st h => ai_G bA base dC dI ca p l e R s m args below meth c Q n0 z0 pc ls st h)) (hf : ai_if2 (fun x y => x = y) r k b1 b2 ls st h = some (v, h')) (hc : ai_ckt k pc (8, b1, b2, x, y, tbl) = true) : ai_G bA base dC dI ca p l e R s m args below meth c Q n0 z0 pc ls st h := by
  obtain ⟨hx, hb1, -⟩ := C
  unfold ai_if2 at hf
  split at hf
  · have hc2 : (ai_dec k pc (.if_icmp .eq (ai_off k pc b1)) 3 && decide (ai_pc k b2 = pc + 3)) = true := hc
    rw [Bool.and_eq_true] at hc2
    have hd := ai_dec_of hc2.1
    have h3 := of_decide_eq_true hc2.2
    intro H locs lsC hl hw
    exact lv_icmp_eq hx hb1 hd (ai_offT k pc b1) (fun hc => by rw [if_pos hc] at hf; exact hN b1 ls _ h hf hb H locs lsC hl hw) (fun hc => by rw [if_neg hc] at hf; rw [← h3]; exact hN b2 ls _ h hf hb H locs lsC hl hw)
  · cases hf
theorem ai_t3 (C : ai_CX bA base dC dI ca S p R s m args meth c k n0) {r : ai_Rec} {v : Option Value} {h' : ai_H} {b1 b2 x y : Nat} {tbl : List (Int32 × Nat)} {ls st : List Value} {h : ai_H} (hb : n0 ≤ h.length ∧ z0 ≤ ai_sz h)
    (hN : ai_Nx S r v h' n0 z0 k (fun pc ls st h => ai_G bA base dC dI ca p l e R s m args below meth c Q n0 z0 pc ls st h)) (hf : ai_if (fun x => ¬ x = 0) r k b1 b2 ls st h = some (v, h')) (hc : ai_ckt k pc (3, b1, b2, x, y, tbl) = true) : ai_G bA base dC dI ca p l e R s m args below meth c Q n0 z0 pc ls st h := by
  obtain ⟨hx, hb1, -⟩ := C
  unfold ai_if at hf
  split at hf
  · have hc2 : (ai_dec k pc (.ifCond .ne (ai_off k pc b1)) 3 && decide (ai_pc k b2 = pc + 3)) = true := hc
    rw [Bool.and_eq_true] at hc2
    have hd := ai_dec_of hc2.1
    have h3 := of_decide_eq_true hc2.2
    intro H locs lsC hl hw
    exact lv_if_ne hx hb1 hd (ai_offT k pc b1) (fun hc => by rw [if_pos hc] at hf; exact hN b1 ls _ h hf hb H locs lsC hl hw) (fun hc => by rw [if_neg (fun z => z hc)] at hf; rw [← h3]; exact hN b2 ls _ h hf hb H locs lsC hl hw)
  · cases hf
theorem ai_t9 (C : ai_CX bA base dC dI ca S p R s m args meth c k n0) {r : ai_Rec} {v : Option Value} {h' : ai_H} {b1 b2 x y : Nat} {tbl : List (Int32 × Nat)} {ls st : List Value} {h : ai_H} (hb : n0 ≤ h.length ∧ z0 ≤ ai_sz h)
    (hN : ai_Nx S r v h' n0 z0 k (fun pc ls st h => ai_G bA base dC dI ca p l e R s m args below meth c Q n0 z0 pc ls st h)) (hf : ai_if2 (fun x y => ¬ x = y) r k b1 b2 ls st h = some (v, h')) (hc : ai_ckt k pc (9, b1, b2, x, y, tbl) = true) : ai_G bA base dC dI ca p l e R s m args below meth c Q n0 z0 pc ls st h := by
  obtain ⟨hx, hb1, -⟩ := C
  unfold ai_if2 at hf
  split at hf
  · have hc2 : (ai_dec k pc (.if_icmp .ne (ai_off k pc b1)) 3 && decide (ai_pc k b2 = pc + 3)) = true := hc
    rw [Bool.and_eq_true] at hc2
    have hd := ai_dec_of hc2.1
    have h3 := of_decide_eq_true hc2.2
    intro H locs lsC hl hw
    exact lv_icmp_ne hx hb1 hd (ai_offT k pc b1) (fun hc => by rw [if_pos hc] at hf; exact hN b1 ls _ h hf hb H locs lsC hl hw) (fun hc => by rw [if_neg (fun z => z hc)] at hf; rw [← h3]; exact hN b2 ls _ h hf hb H locs lsC hl hw)
  · cases hf
theorem ai_t4 (C : ai_CX bA base dC dI ca S p R s m args meth c k n0) {r : ai_Rec} {v : Option Value} {h' : ai_H} {b1 b2 x y : Nat} {tbl : List (Int32 × Nat)} {ls st : List Value} {h : ai_H} (hb : n0 ≤ h.length ∧ z0 ≤ ai_sz h)
    (hN : ai_Nx S r v h' n0 z0 k (fun pc ls st h => ai_G bA base dC dI ca p l e R s m args below meth c Q n0 z0 pc ls st h)) (hf : ai_if (fun x => x < 0) r k b1 b2 ls st h = some (v, h')) (hc : ai_ckt k pc (4, b1, b2, x, y, tbl) = true) : ai_G bA base dC dI ca p l e R s m args below meth c Q n0 z0 pc ls st h := by
  obtain ⟨hx, hb1, -⟩ := C
  unfold ai_if at hf
  split at hf
  · have hc2 : (ai_dec k pc (.ifCond .lt (ai_off k pc b1)) 3 && decide (ai_pc k b2 = pc + 3)) = true := hc
    rw [Bool.and_eq_true] at hc2
    have hd := ai_dec_of hc2.1
    have h3 := of_decide_eq_true hc2.2
    intro H locs lsC hl hw
    exact lv_if_lt hx hb1 hd (ai_offT k pc b1) (fun hc => by rw [if_pos hc] at hf; exact hN b1 ls _ h hf hb H locs lsC hl hw) (fun hc => by rw [if_neg hc] at hf; rw [← h3]; exact hN b2 ls _ h hf hb H locs lsC hl hw)
  · cases hf
theorem ai_t10 (C : ai_CX bA base dC dI ca S p R s m args meth c k n0) {r : ai_Rec} {v : Option Value} {h' : ai_H} {b1 b2 x y : Nat} {tbl : List (Int32 × Nat)} {ls st : List Value} {h : ai_H} (hb : n0 ≤ h.length ∧ z0 ≤ ai_sz h)
    (hN : ai_Nx S r v h' n0 z0 k (fun pc ls st h => ai_G bA base dC dI ca p l e R s m args below meth c Q n0 z0 pc ls st h)) (hf : ai_if2 (fun x y => x < y) r k b1 b2 ls st h = some (v, h')) (hc : ai_ckt k pc (10, b1, b2, x, y, tbl) = true) : ai_G bA base dC dI ca p l e R s m args below meth c Q n0 z0 pc ls st h := by
  obtain ⟨hx, hb1, -⟩ := C
  unfold ai_if2 at hf
  split at hf
  · have hc2 : (ai_dec k pc (.if_icmp .lt (ai_off k pc b1)) 3 && decide (ai_pc k b2 = pc + 3)) = true := hc
    rw [Bool.and_eq_true] at hc2
    have hd := ai_dec_of hc2.1
    have h3 := of_decide_eq_true hc2.2
    intro H locs lsC hl hw
    exact lv_icmp_lt hx hb1 hd (ai_offT k pc b1) (fun hc => by rw [if_pos hc] at hf; exact hN b1 ls _ h hf hb H locs lsC hl hw) (fun hc => by rw [if_neg hc] at hf; rw [← h3]; exact hN b2 ls _ h hf hb H locs lsC hl hw)
  · cases hf
theorem ai_t5 (C : ai_CX bA base dC dI ca S p R s m args meth c k n0) {r : ai_Rec} {v : Option Value} {h' : ai_H} {b1 b2 x y : Nat} {tbl : List (Int32 × Nat)} {ls st : List Value} {h : ai_H} (hb : n0 ≤ h.length ∧ z0 ≤ ai_sz h)
    (hN : ai_Nx S r v h' n0 z0 k (fun pc ls st h => ai_G bA base dC dI ca p l e R s m args below meth c Q n0 z0 pc ls st h)) (hf : ai_if (fun x => 0 ≤ x) r k b1 b2 ls st h = some (v, h')) (hc : ai_ckt k pc (5, b1, b2, x, y, tbl) = true) : ai_G bA base dC dI ca p l e R s m args below meth c Q n0 z0 pc ls st h := by
  obtain ⟨hx, hb1, -⟩ := C
  unfold ai_if at hf
  split at hf
  · have hc2 : (ai_dec k pc (.ifCond .ge (ai_off k pc b1)) 3 && decide (ai_pc k b2 = pc + 3)) = true := hc
    rw [Bool.and_eq_true] at hc2
    have hd := ai_dec_of hc2.1
    have h3 := of_decide_eq_true hc2.2
    intro H locs lsC hl hw
    exact lv_if_ge hx hb1 hd (ai_offT k pc b1) (fun hc => by rw [if_pos hc] at hf; exact hN b1 ls _ h hf hb H locs lsC hl hw) (fun hc => by rw [if_neg hc] at hf; rw [← h3]; exact hN b2 ls _ h hf hb H locs lsC hl hw)
  · cases hf
theorem ai_t11 (C : ai_CX bA base dC dI ca S p R s m args meth c k n0) {r : ai_Rec} {v : Option Value} {h' : ai_H} {b1 b2 x y : Nat} {tbl : List (Int32 × Nat)} {ls st : List Value} {h : ai_H} (hb : n0 ≤ h.length ∧ z0 ≤ ai_sz h)
    (hN : ai_Nx S r v h' n0 z0 k (fun pc ls st h => ai_G bA base dC dI ca p l e R s m args below meth c Q n0 z0 pc ls st h)) (hf : ai_if2 (fun x y => y ≤ x) r k b1 b2 ls st h = some (v, h')) (hc : ai_ckt k pc (11, b1, b2, x, y, tbl) = true) : ai_G bA base dC dI ca p l e R s m args below meth c Q n0 z0 pc ls st h := by
  obtain ⟨hx, hb1, -⟩ := C
  unfold ai_if2 at hf
  split at hf
  · have hc2 : (ai_dec k pc (.if_icmp .ge (ai_off k pc b1)) 3 && decide (ai_pc k b2 = pc + 3)) = true := hc
    rw [Bool.and_eq_true] at hc2
    have hd := ai_dec_of hc2.1
    have h3 := of_decide_eq_true hc2.2
    intro H locs lsC hl hw
    exact lv_icmp_ge hx hb1 hd (ai_offT k pc b1) (fun hc => by rw [if_pos hc] at hf; exact hN b1 ls _ h hf hb H locs lsC hl hw) (fun hc => by rw [if_neg hc] at hf; rw [← h3]; exact hN b2 ls _ h hf hb H locs lsC hl hw)
  · cases hf
theorem ai_t6 (C : ai_CX bA base dC dI ca S p R s m args meth c k n0) {r : ai_Rec} {v : Option Value} {h' : ai_H} {b1 b2 x y : Nat} {tbl : List (Int32 × Nat)} {ls st : List Value} {h : ai_H} (hb : n0 ≤ h.length ∧ z0 ≤ ai_sz h)
    (hN : ai_Nx S r v h' n0 z0 k (fun pc ls st h => ai_G bA base dC dI ca p l e R s m args below meth c Q n0 z0 pc ls st h)) (hf : ai_if (fun x => 0 < x) r k b1 b2 ls st h = some (v, h')) (hc : ai_ckt k pc (6, b1, b2, x, y, tbl) = true) : ai_G bA base dC dI ca p l e R s m args below meth c Q n0 z0 pc ls st h := by
  obtain ⟨hx, hb1, -⟩ := C
  unfold ai_if at hf
  split at hf
  · have hc2 : (ai_dec k pc (.ifCond .gt (ai_off k pc b1)) 3 && decide (ai_pc k b2 = pc + 3)) = true := hc
    rw [Bool.and_eq_true] at hc2
    have hd := ai_dec_of hc2.1
    have h3 := of_decide_eq_true hc2.2
    intro H locs lsC hl hw
    exact lv_if_gt hx hb1 hd (ai_offT k pc b1) (fun hc => by rw [if_pos hc] at hf; exact hN b1 ls _ h hf hb H locs lsC hl hw) (fun hc => by rw [if_neg hc] at hf; rw [← h3]; exact hN b2 ls _ h hf hb H locs lsC hl hw)
  · cases hf
theorem ai_t12 (C : ai_CX bA base dC dI ca S p R s m args meth c k n0) {r : ai_Rec} {v : Option Value} {h' : ai_H} {b1 b2 x y : Nat} {tbl : List (Int32 × Nat)} {ls st : List Value} {h : ai_H} (hb : n0 ≤ h.length ∧ z0 ≤ ai_sz h)
    (hN : ai_Nx S r v h' n0 z0 k (fun pc ls st h => ai_G bA base dC dI ca p l e R s m args below meth c Q n0 z0 pc ls st h)) (hf : ai_if2 (fun x y => y < x) r k b1 b2 ls st h = some (v, h')) (hc : ai_ckt k pc (12, b1, b2, x, y, tbl) = true) : ai_G bA base dC dI ca p l e R s m args below meth c Q n0 z0 pc ls st h := by
  obtain ⟨hx, hb1, -⟩ := C
  unfold ai_if2 at hf
  split at hf
  · have hc2 : (ai_dec k pc (.if_icmp .gt (ai_off k pc b1)) 3 && decide (ai_pc k b2 = pc + 3)) = true := hc
    rw [Bool.and_eq_true] at hc2
    have hd := ai_dec_of hc2.1
    have h3 := of_decide_eq_true hc2.2
    intro H locs lsC hl hw
    exact lv_icmp_gt hx hb1 hd (ai_offT k pc b1) (fun hc => by rw [if_pos hc] at hf; exact hN b1 ls _ h hf hb H locs lsC hl hw) (fun hc => by rw [if_neg hc] at hf; rw [← h3]; exact hN b2 ls _ h hf hb H locs lsC hl hw)
  · cases hf
theorem ai_t7 (C : ai_CX bA base dC dI ca S p R s m args meth c k n0) {r : ai_Rec} {v : Option Value} {h' : ai_H} {b1 b2 x y : Nat} {tbl : List (Int32 × Nat)} {ls st : List Value} {h : ai_H} (hb : n0 ≤ h.length ∧ z0 ≤ ai_sz h)
    (hN : ai_Nx S r v h' n0 z0 k (fun pc ls st h => ai_G bA base dC dI ca p l e R s m args below meth c Q n0 z0 pc ls st h)) (hf : ai_if (fun x => x ≤ 0) r k b1 b2 ls st h = some (v, h')) (hc : ai_ckt k pc (7, b1, b2, x, y, tbl) = true) : ai_G bA base dC dI ca p l e R s m args below meth c Q n0 z0 pc ls st h := by
  obtain ⟨hx, hb1, -⟩ := C
  unfold ai_if at hf
  split at hf
  · have hc2 : (ai_dec k pc (.ifCond .le (ai_off k pc b1)) 3 && decide (ai_pc k b2 = pc + 3)) = true := hc
    rw [Bool.and_eq_true] at hc2
    have hd := ai_dec_of hc2.1
    have h3 := of_decide_eq_true hc2.2
    intro H locs lsC hl hw
    exact lv_if_le hx hb1 hd (ai_offT k pc b1) (fun hc => by rw [if_pos hc] at hf; exact hN b1 ls _ h hf hb H locs lsC hl hw) (fun hc => by rw [if_neg hc] at hf; rw [← h3]; exact hN b2 ls _ h hf hb H locs lsC hl hw)
  · cases hf
theorem ai_t13 (C : ai_CX bA base dC dI ca S p R s m args meth c k n0) {r : ai_Rec} {v : Option Value} {h' : ai_H} {b1 b2 x y : Nat} {tbl : List (Int32 × Nat)} {ls st : List Value} {h : ai_H} (hb : n0 ≤ h.length ∧ z0 ≤ ai_sz h)
    (hN : ai_Nx S r v h' n0 z0 k (fun pc ls st h => ai_G bA base dC dI ca p l e R s m args below meth c Q n0 z0 pc ls st h)) (hf : ai_if2 (fun x y => x ≤ y) r k b1 b2 ls st h = some (v, h')) (hc : ai_ckt k pc (13, b1, b2, x, y, tbl) = true) : ai_G bA base dC dI ca p l e R s m args below meth c Q n0 z0 pc ls st h := by
  obtain ⟨hx, hb1, -⟩ := C
  unfold ai_if2 at hf
  split at hf
  · have hc2 : (ai_dec k pc (.if_icmp .le (ai_off k pc b1)) 3 && decide (ai_pc k b2 = pc + 3)) = true := hc
    rw [Bool.and_eq_true] at hc2
    have hd := ai_dec_of hc2.1
    have h3 := of_decide_eq_true hc2.2
    intro H locs lsC hl hw
    exact lv_icmp_le hx hb1 hd (ai_offT k pc b1) (fun hc => by rw [if_pos hc] at hf; exact hN b1 ls _ h hf hb H locs lsC hl hw) (fun hc => by rw [if_neg hc] at hf; rw [← h3]; exact hN b2 ls _ h hf hb H locs lsC hl hw)
  · cases hf
theorem ai_t14 (C : ai_CX bA base dC dI ca S p R s m args meth c k n0) {r : ai_Rec} {v : Option Value} {h' : ai_H} {b1 b2 x y : Nat} {tbl : List (Int32 × Nat)} {ls st : List Value} {h : ai_H} (hb : n0 ≤ h.length ∧ z0 ≤ ai_sz h)
    (hN : ai_Nx S r v h' n0 z0 k (fun pc ls st h => ai_G bA base dC dI ca p l e R s m args below meth c Q n0 z0 pc ls st h)) (hf : ai_nul r k b1 b2 ls st h = some (v, h')) (hc : ai_ckt k pc (14, b1, b2, x, y, tbl) = true) : ai_G bA base dC dI ca p l e R s m args below meth c Q n0 z0 pc ls st h := by
  obtain ⟨hx, hb1, -⟩ := C
  have hc2 : (ai_dec k pc (.ifnull (ai_off k pc b1)) 3 && decide (ai_pc k b2 = pc + 3)) = true := hc
  rw [Bool.and_eq_true] at hc2
  have hd := ai_dec_of hc2.1
  have h3 := of_decide_eq_true hc2.2
  unfold ai_nul at hf
  split at hf
  · intro H locs lsC hl hw
    exact lv_ifnullN hx hb1 hd (ai_offT k pc b1) (hN b1 ls _ h hf hb H locs lsC hl hw)
  · intro H locs lsC hl hw
    exact lv_ifnull hx hb1 hd (by rw [← h3]; exact hN b2 ls _ h hf hb H locs lsC hl hw)
  · cases hf
theorem ai_t15 (C : ai_CX bA base dC dI ca S p R s m args meth c k n0) {r : ai_Rec} {v : Option Value} {h' : ai_H} {b1 b2 x y : Nat} {tbl : List (Int32 × Nat)} {ls st : List Value} {h : ai_H} (hb : n0 ≤ h.length ∧ z0 ≤ ai_sz h)
    (hN : ai_Nx S r v h' n0 z0 k (fun pc ls st h => ai_G bA base dC dI ca p l e R s m args below meth c Q n0 z0 pc ls st h)) (hf : ai_nul r k b2 b1 ls st h = some (v, h')) (hc : ai_ckt k pc (15, b1, b2, x, y, tbl) = true) : ai_G bA base dC dI ca p l e R s m args below meth c Q n0 z0 pc ls st h := by
  obtain ⟨hx, hb1, -⟩ := C
  have hc2 : (ai_dec k pc (.ifnonnull (ai_off k pc b1)) 3 && decide (ai_pc k b2 = pc + 3)) = true := hc
  rw [Bool.and_eq_true] at hc2
  have hd := ai_dec_of hc2.1
  have h3 := of_decide_eq_true hc2.2
  unfold ai_nul at hf
  split at hf
  · intro H locs lsC hl hw
    exact lv_ifnonnullN hx hb1 hd (by rw [← h3]; exact hN b2 ls _ h hf hb H locs lsC hl hw)
  · intro H locs lsC hl hw
    exact lv_ifnonnull hx hb1 hd (ai_offT k pc b1) (hN b1 ls _ h hf hb H locs lsC hl hw)
  · cases hf
/-- a call -/
theorem ai_tc (C : ai_CX bA base dC dI ca S p R s m args meth c k n0) {r : ai_Rec} {v : Option Value} {h' : ai_H} {b1 b2 x y : Nat} {tbl : List (Int32 × Nat)} {ls st : List Value} {h : ai_H} (hb : n0 ≤ h.length ∧ z0 ≤ ai_sz h)
    (hN : ai_Nx S r v h' n0 z0 k (fun pc ls st h => ai_G bA base dC dI ca p l e R s m args below meth c Q n0 z0 pc ls st h)) (hle : ai_RM r) (hM : ∀ (j : Nat) (as : List Value) (h1 : ai_H) (v1 : Option Value) (h2 : ai_H), j < 139 → as.length ≤ ai_ml j → ai_calr r j as h1 = some (v1, h2) → ai_Met bA base dC dI ca S l j as h1 v1 h2) (hbb : h'.length - n0 ≤ R.cells ∧ ai_sz h' - z0 ≤ R.slots) {ck ci kd : Nat}
    (hf : ai_cal r (ai_calr r) k b1 b2 x ck ci ls st h = some (v, h')) (hc : ai_ckc k pc (kd, b1, b2, x, y, tbl) ck (ai_inv ck) = true) (hci : ck = 0 → (ai_cl ci).1 = (ai_y b2).cls ∧ ci < 7) : ai_G bA base dC dI ca p l e R s m args below meth c Q n0 z0 pc ls st h := by
  obtain ⟨x', ws, hd, hpc, hcl, q1, q2⟩ := ai_ckc_of hc
  dsimp only at hpc hcl q1 q2
  unfold ai_cal at hf
  split at hf
  · rename_i as rest hsp
    split at hf
    · rename_i hcond
      split at hf
      · rename_i v1 h1 hcall
        obtain ⟨e1, e2⟩ := ai_split_of _ _ _ _ _ hsp
        have e3 : st = as.reverse ++ rest := by rw [e1]; rfl
        have e4 : as.length = x := by rw [e2]; rfl
        have l1 : ai_le h h1 := by
          have hz := hcall
          unfold ai_calr at hz
          split at hz
          · exact hle _ _ _ _ _ _ _ hz
          · cases hz
        have l2 : ai_le h1 h' := hle _ _ _ _ _ _ _ hf
        have b5 : n0 ≤ h.length ∧ z0 ≤ ai_sz h ∧ h1.length - n0 ≤ R.cells ∧ ai_sz h1 - z0 ≤ R.slots := by
          have := l2.1
          have := l2.2
          have := hbb.1
          have := hbb.2
          exact ⟨hb.1, hb.2, by omega, by omega⟩
        have hj : b2 < 139 := by
          have hrow := ai_all ai_CL_ok hcl
          unfold ai_cl1 at hrow
          dsimp only at hrow
          simp only [Bool.and_eq_true] at hrow
          exact of_decide_eq_true hrow.2.2.2.1
        have hml : as.length ≤ ai_ml b2 := by
          have hz : x ≤ ai_ml b2 := of_decide_eq_true (ai_all ai_cal_ml hcl)
          rw [e4]
          exact hz
        intro H locs lsC hl hw
        refine ai_size C.2.2.2.2.2.2.2.1 hb.1 hw (fun hsz => ?_)
        obtain ⟨a, hr⟩ := ai_runs (l := l) (e := e) (below := below) C (hM b2 as h v1 h1 hj hml hcall) hcl q1 q2 hl hw hsz e4 hcond.2 hcond.1 hci l1 b5 hd
        rw [e3]
        refine ai_after hr hw (fun H1 locs1 hw1 => ?_)
        have g := hN b1 ls (v1.toList ++ rest) h1 hf ⟨Nat.le_trans hb.1 l1.1, Nat.le_trans hb.2 l1.2⟩ H1 locs1 lsC hl hw1
        rw [hpc] at g
        have := l1.1
        have := l1.2
        have := hb.1
        have := hb.2
        exact W.cs (by omega) (by omega) g
      · cases hf
    · cases hf
  · cases hf
theorem ai_ret_h {k : Nat} {st : List Value} {h : ai_H} {v : Option Value} {h' : ai_H} (hf : ai_ret k st h = some (v, h')) : h = h' := by
  unfold ai_ret at hf
  (repeat' split at hf) <;> cases hf <;> rfl
/-- the end of a block -/
theorem ai_tt (C : ai_CX bA base dC dI ca S p R s m args meth c k n0) {r : ai_Rec} {v : Option Value} {h' : ai_H} {t : ai_T} {ls st : List Value} {h : ai_H} (hb : n0 ≤ h.length ∧ z0 ≤ ai_sz h)
    (hN : ai_Nx S r v h' n0 z0 k (fun pc ls st h => ai_G bA base dC dI ca p l e R s m args below meth c Q n0 z0 pc ls st h)) (hle : ai_RM r) (hM : ∀ (j : Nat) (as : List Value) (h1 : ai_H) (v1 : Option Value) (h2 : ai_H), j < 139 → as.length ≤ ai_ml j → ai_calr r j as h1 = some (v1, h2) → ai_Met bA base dC dI ca S l j as h1 v1 h2) (hbb : h'.length - n0 ≤ R.cells ∧ ai_sz h' - z0 ≤ R.slots)
    (hE : ai_Ex bA base dC dI ca p l e R s m args below meth c Q k n0 z0 v h') (hf : ai_term r (ai_calr r) k t ls st h = some (v, h')) (hc : ai_ckt k pc t = true) : ai_G bA base dC dI ca p l e R s m args below meth c Q n0 z0 pc ls st h := by
  obtain ⟨kd, b1, b2, x, y, tbl⟩ := t
  match kd, hf, hc with
  | 0, hf, hc =>
    have h3 : ai_pc k b1 = pc := of_decide_eq_true hc
    rw [← h3]
    exact hN b1 ls st h hf hb
  | 1, hf, hc =>
    intro H locs lsC hl hw
    exact lv_goto C.1 C.2.1 (ai_dec_of hc) (ai_offT k pc b1) (hN b1 ls st h hf hb H locs lsC hl hw)
  | 2, hf, hc => exact ai_t2 C hb hN hf hc
  | 3, hf, hc => exact ai_t3 C hb hN hf hc
  | 4, hf, hc => exact ai_t4 C hb hN hf hc
  | 5, hf, hc => exact ai_t5 C hb hN hf hc
  | 6, hf, hc => exact ai_t6 C hb hN hf hc
  | 7, hf, hc => exact ai_t7 C hb hN hf hc
  | 8, hf, hc => exact ai_t8 C hb hN hf hc
  | 9, hf, hc => exact ai_t9 C hb hN hf hc
  | 10, hf, hc => exact ai_t10 C hb hN hf hc
  | 11, hf, hc => exact ai_t11 C hb hN hf hc
  | 12, hf, hc => exact ai_t12 C hb hN hf hc
  | 13, hf, hc => exact ai_t13 C hb hN hf hc
  | 14, hf, hc => exact ai_t14 C hb hN hf hc
  | 15, hf, hc => exact ai_t15 C hb hN hf hc
  | 16, hf, hc => exact ai_tsw C hb hN hf hc
  | 17, hf, hc => exact ai_lsw C hb hN hf hc
  | 18, hf, hc =>
    have hc2 : (ai_ckc k pc (18, b1, b2, x, y, tbl) 0 .invokevirtual && decide ((ai_cl y).1 = (ai_y b2).cls ∧ y < 7)) = true := hc
    rw [Bool.and_eq_true] at hc2
    exact ai_tc C hb hN hle hM hbb (ck := 0) (ci := y) hf hc2.1 (fun _ => of_decide_eq_true hc2.2)
  | 19, hf, hc => exact ai_tc C hb hN hle hM hbb (ck := 1) (ci := 0) hf hc (fun z => by cases z)
  | 20, hf, hc => exact ai_tc C hb hN hle hM hbb (ck := 2) (ci := 0) hf hc (fun z => by cases z)
  | 21, hf, hc => exact ai_tc C hb hN hle hM hbb (ck := 4) (ci := 0) hf hc (fun z => by cases z)
  | 22, hf, hc => exact ai_tc C hb hN hle hM hbb (ck := 5) (ci := 0) hf hc (fun z => by cases z)
  | 23, hf, hc =>
    intro H locs lsC hl hw
    have e1 := ai_ret_h hf
    have g := hE 0 pc b1 b2 x y tbl st h (by decide) hf hc H locs lsC hw e1
    rw [← e1] at g
    exact g
  | 24, hf, hc =>
    intro H locs lsC hl hw
    have e1 := ai_ret_h hf
    have g := hE 1 pc b1 b2 x y tbl st h (by decide) hf hc H locs lsC hw e1
    rw [← e1] at g
    exact g
  | 25, hf, hc =>
    intro H locs lsC hl hw
    have e1 := ai_ret_h hf
    have g := hE 2 pc b1 b2 x y tbl st h (by decide) hf hc H locs lsC hw e1
    rw [← e1] at g
    exact g
  | 26, hf, hc =>
    intro H locs lsC hl hw
    have e1 := ai_ret_h hf
    have g := hE 3 pc b1 b2 x y tbl st h (by decide) hf hc H locs lsC hw e1
    rw [← e1] at g
    exact g
  | 27, hf, hc =>
    intro H locs lsC hl hw
    have e1 := ai_ret_h hf
    have g := hE 4 pc b1 b2 x y tbl st h (by decide) hf hc H locs lsC hw e1
    rw [← e1] at g
    exact g
  | kd + 28, hf, hc => cases hf
end Core
