/-! sets of velvets as bits -/
theorem z_and (a b : Nat) : nI a &&& nI b = nI (a &&& b) := by
  apply Int32.toBitVec_inj.1
  show BitVec.ofNat 32 a &&& BitVec.ofNat 32 b = BitVec.ofNat 32 (a &&& b)
  apply BitVec.eq_of_getLsbD_eq
  intro i hi
  simp [hi]
theorem z_or (a b : Nat) : nI a ||| nI b = nI (a ||| b) := by
  apply Int32.toBitVec_inj.1
  show BitVec.ofNat 32 a ||| BitVec.ofNat 32 b = BitVec.ofNat 32 (a ||| b)
  apply BitVec.eq_of_getLsbD_eq
  intro i hi
  simp [hi]
def bs (p : Nat → Bool) : Nat → Nat
  | 0 => 0
  | v + 1 => bs p v + (if p v then 2 ^ v else 0)
def cnt (p : Nat → Bool) : Nat → Nat
  | 0 => 0
  | v + 1 => cnt p v + (if p v then 1 else 0)
theorem bs_lt (p : Nat → Bool) : ∀ v, bs p v < 2 ^ v
  | 0 => Nat.one_pos
  | v + 1 => by
    have h := bs_lt p v
    unfold bs
    rw [Nat.pow_succ]
    split <;> omega
theorem bs_or (p : Nat → Bool) (v : Nat) : bs p v ||| 2 ^ v = bs p v + 2 ^ v := by
  have h := Nat.two_pow_add_eq_or_of_lt (bs_lt p v) 1
  rw [Nat.mul_one] at h
  rw [Nat.or_comm, ← h, Nat.add_comm]
theorem bs_bit (p : Nat → Bool) : ∀ v i, (bs p v).testBit i = (decide (i < v) && p i)
  | 0, i => by
    unfold bs
    simp
  | v + 1, i => by
    have h := bs_bit p v i
    unfold bs
    by_cases hp : p v = true
    · rw [if_pos hp, ← bs_or, Nat.testBit_or, h, Nat.testBit_two_pow]
      by_cases hi : i = v
      · subst hi
        simp [hp]
      · have e1 : ¬ v = i := fun z => hi z.symm
        have e2 : (i < v + 1) = (i < v) := propext ⟨fun z => by omega, fun z => by omega⟩
        simp only [e1, e2, decide_false, Bool.or_false]
    · rw [if_neg hp, Nat.add_zero, h]
      by_cases hi : i = v
      · subst hi
        simp [hp]
      · have e2 : (i < v + 1) = (i < v) := propext ⟨fun z => by omega, fun z => by omega⟩
        simp only [e2]
theorem bs_and (p q : Nat → Bool) (v : Nat) : bs p v &&& bs q v = bs (fun i => p i && q i) v := by
  apply Nat.eq_of_testBit_eq
  intro i
  rw [Nat.testBit_and, bs_bit, bs_bit, bs_bit]
  cases decide (i < v) <;> cases p i <;> cases q i <;> rfl
theorem bs_not (p : Nat → Bool) : ∀ v, bs p v + bs (fun i => !p i) v + 1 = 2 ^ v
  | 0 => rfl
  | v + 1 => by
    have h := bs_not p v
    unfold bs
    rw [Nat.pow_succ]
    cases hp : p v
    · simp only [Bool.not_false, if_true, Bool.false_eq_true, if_false]
      omega
    · simp only [Bool.not_true, if_true, Bool.false_eq_true, if_false]
      omega
theorem bs_congr {p q : Nat → Bool} : ∀ v, (∀ i, i < v → p i = q i) → bs p v = bs q v
  | 0, _ => rfl
  | v + 1, h => by
    unfold bs
    rw [bs_congr v (fun i hi => h i (by omega)), h v (by omega)]
theorem bs_ct (p : Nat → Bool) : z_ct (bs p 10) = cnt p 10 := by
  have h : ∀ i, i < 10 → bs p 10 / 2 ^ i % 2 = if p i then 1 else 0 := by
    intro i hi
    have h1 := bs_bit p 10 i
    rw [Nat.testBit_eq_decide_div_mod_eq, decide_eq_true hi, Bool.true_and] at h1
    cases hp : p i
    · rw [hp] at h1
      have h2 := of_decide_eq_false h1
      simp only [Bool.false_eq_true, if_false]
      omega
    · rw [hp] at h1
      have h2 := of_decide_eq_true h1
      simp only [if_true]
      exact h2
  have h0 := h 0 (by omega)
  have h1 := h 1 (by omega)
  have h2 := h 2 (by omega)
  have h3 := h 3 (by omega)
  have h4 := h 4 (by omega)
  have h5 := h 5 (by omega)
  have h6 := h 6 (by omega)
  have h7 := h 7 (by omega)
  have h8 := h 8 (by omega)
  have h9 := h 9 (by omega)
  generalize bs p 10 = s at *
  unfold z_ct
  simp only [cnt]
  simp only [Nat.pow_zero, Nat.reducePow, Nat.div_one] at h0 h1 h2 h3 h4 h5 h6 h7 h8 h9
  rw [← h0, ← h1, ← h2, ← h3, ← h4, ← h5, ← h6, ← h7, ← h8, ← h9]
  omega
theorem cnt_le (p : Nat → Bool) : ∀ v, cnt p v ≤ v
  | 0 => Nat.le_refl _
  | v + 1 => by
    have h := cnt_le p v
    unfold cnt
    split <;> omega
theorem cnt_mono {p q : Nat → Bool} (h : ∀ i, p i = true → q i = true) : ∀ v, cnt p v ≤ cnt q v
  | 0 => Nat.le_refl _
  | v + 1 => by
    have h2 := cnt_mono h v
    have h3 := h v
    unfold cnt
    by_cases hp : p v = true
    · rw [if_pos hp, if_pos (h3 hp)]
      omega
    · rw [if_neg hp]
      split <;> omega
theorem z_one_n : ∀ v, v < 31 → z_one v = nI (2 ^ v) := by decide +kernel
/-- an Int32's bit, of a natural number -/
theorem z_bit_n (a k : Nat) (ha : a < 2 ^ 31) (hk : k < 31) : z_bit (nI a) k ↔ a.testBit k = true := by
  have hs : ∀ k, k < 31 → ((nI k &&& 31).toBitVec.smod 32).toNat = k := by decide +kernel
  have h1 : (nI a >>> (nI k &&& 31)) = nI (a / 2 ^ k) := pk_shrN ha _ k (hs k hk)
  have h2 : nI (a / 2 ^ k) &&& 1 = nI (a / 2 ^ k % 2) := pk_andN (by
    have := Nat.div_le_self a (2 ^ k)
    omega) 1 (by decide)
  unfold z_bit
  rw [h1, h2, Nat.testBit_eq_decide_div_mod_eq]
  constructor
  · intro h
    exact decide_eq_true ((nI_eq (b := 1) (by omega) (by decide)).mp h)
  · intro h
    rw [of_decide_eq_true h]
    rfl
theorem z_yv_bs (f : Nat → Int32) : ∀ v, v ≤ 10 → z_yv f v = nI (bs (fun i => decide (¬ f i &&& 1 = 0)) v)
  | 0, _ => rfl
  | v + 1, hv => by
    have h := z_yv_bs f v (by omega)
    have hl := bs_lt (fun i => decide (¬ f i &&& 1 = 0)) v
    unfold z_yv bs
    by_cases h0 : f v &&& 1 = 0
    · rw [if_pos h0, h, if_neg (by simp [h0]), Nat.add_zero]
    · rw [if_neg h0, h, if_pos (by simp [h0]), z_one_n v (by omega), z_or, bs_or]
/-- velvets by which all that was told is so -/
def z_al (F : Nat → Nat → Int32) (yd : Nat → Int32) (v : Nat) : Nat → Bool
  | 0 => true
  | i + 1 => z_al F yd v i && decide (F i v &&& 1 = yd i)
theorem z_so_bs (F : Nat → Nat → Int32) (yd : Nat → Int32) : ∀ s, (∀ i, i < s → yd i = 0 ∨ yd i = 1) → z_so (fun i => z_yv (F i) 10) yd s = nI (bs (fun v => z_al F yd v s) 10)
  | 0, _ => by
    have e0 : bs (fun _ => true) 10 = 1023 := by decide
    have e : bs (fun v => z_al F yd v 0) 10 = 1023 := e0
    rw [e]
    rfl
  | i + 1, hy => by
    have h := z_so_bs F yd i (fun j hj => hy j (by omega))
    unfold z_so
    rw [h, z_yv_bs (F i) 10 (Nat.le_refl _)]
    rcases hy i (by omega) with h0 | h1
    · have e1 : ¬ yd i = 1 := by rw [h0]; decide
      have hn := bs_not (fun v => decide (¬ F i v &&& 1 = 0)) 10
      have e2 : (1023 : Int32) - nI (bs (fun v => decide (¬ F i v &&& 1 = 0)) 10) = nI (bs (fun v => !decide (¬ F i v &&& 1 = 0)) 10) := by
        rw [show (1023 : Int32) = nI 1023 from rfl, pk_sub (by omega)]
        congr 1
        omega
      rw [if_neg e1, e2, z_and, bs_and]
      congr 1
      apply bs_congr
      intro v hv
      show _ = (z_al F yd v i && decide (F i v &&& 1 = yd i))
      rw [h0]
      cases z_al F yd v i <;> simp
    · rw [if_pos h1, z_and, bs_and]
      congr 1
      apply bs_congr
      intro v hv
      show _ = (z_al F yd v i && decide (F i v &&& 1 = yd i))
      rw [h1]
      have e3 : decide (¬ F i v &&& 1 = 0) = decide (F i v &&& 1 = 1) := by
        obtain ⟨j, hj, e⟩ := pk_andE (F i v) (m := 1) 1 (by decide)
        rw [e]
        have : j = 0 ∨ j = 1 := by omega
        rcases this with rfl | rfl <;> decide
      rw [e3]
