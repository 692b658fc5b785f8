/-! runs with fuel; the heap only grows; straight stretches are sound -/
def ai_init (k : Nat) (as : List Value) : List Value := as ++ List.replicate (ai_ml k - as.length) ai_u
def ai_calr (r : ai_Rec) : ai_Cal := fun k as h => if (as.all fun v => v.category == 1) = true then r k 0 (ai_init k as) [] h else none
def ai_step (r : ai_Rec) (S : ai_S) (m b : Nat) (ls st : List Value) (h : ai_H) : ai_A := match ai_xl S (ai_blk m b).2.1 ls st h with
  | some (ls', st', h') => ai_term r (ai_calr r) m (ai_blk m b).2.2 ls' st' h'
  | none => none
def ai_run (S : ai_S) : Nat → ai_Rec
  | 0 => fun _ _ _ _ _ => none
  | n + 1 => ai_step (ai_run S n) S
def ai_le (h h' : ai_H) : Prop := h.length ≤ h'.length ∧ ai_sz h ≤ ai_sz h'
theorem ai_le.rf (h : ai_H) : ai_le h h := ⟨Nat.le_refl _, Nat.le_refl _⟩
theorem ai_le.tr {a b c : ai_H} (h1 : ai_le a b) (h2 : ai_le b c) : ai_le a c := ⟨Nat.le_trans h1.1 h2.1, Nat.le_trans h1.2 h2.2⟩
theorem ai_le.app (h : ai_H) (x : va_E) : ai_le h (h ++ [x]) := ⟨by rw [List.length_append]; omega, by rw [ai_sz_app]; omega⟩
theorem ai_le.set {h : ai_H} {k : Nat} {x y : va_E} (hk : h[k]? = some x) (hs : ai_sz1 y = ai_sz1 x) : ai_le h (h.set k y) := ⟨by rw [List.length_set]; exact Nat.le_refl _, by rw [ai_sz_set hk hs]; exact Nat.le_refl _⟩
def ai_Mo (f : ai_O) : Prop := ∀ {S : ai_S} {a b d : Nat} {z : Int32} {ls st : List Value} {h : ai_H} {ls' st' : List Value} {h' : ai_H}, f S a b d z ls st h = some (ls', st', h') → ai_le h h'
theorem ai_pf_le {h h' : ai_H} {q ci k : Nat} {v : Value} (hf : ai_pf h q ci k v = some h') : ai_le h h' := by
  obtain ⟨j, fs, -, h1, -, rfl⟩ := ai_pf_of hf
  exact ai_le.set h1 (by show (fs.set k v).length = fs.length; rw [List.length_set])
theorem ai_pa_le {h h' : ai_H} {q t : Nat} {f' : Nat → Int32} (hf : ai_pa h q t f' = some h') : ai_le h h' := by
  obtain ⟨j, n, f, -, h1, rfl⟩ := ai_pa_of hf
  exact ai_le.set h1 rfl
theorem ai_pra_le {h h' : ai_H} {q : Nat} {f' : Nat → Option Nat} (hf : ai_pra h q f' = some h') : ai_le h h' := by
  obtain ⟨j, n, f, -, h1, rfl⟩ := ai_pra_of hf
  exact ai_le.set h1 rfl
theorem o_const : ai_Mo ai_const := by
  intro S a b d z ls st h ls' st' h' hf; cases hf; exact ai_le.rf _
theorem o_iload : ai_Mo ai_iload := by
  intro S a b d z ls st h ls' st' h' hf; unfold ai_iload at hf; (repeat' split at hf) <;> cases hf <;> exact ai_le.rf _
theorem o_aload : ai_Mo ai_aload := by
  intro S a b d z ls st h ls' st' h' hf; unfold ai_aload at hf; (repeat' split at hf) <;> cases hf <;> exact ai_le.rf _
theorem o_istore : ai_Mo ai_istore := by
  intro S a b d z ls st h ls' st' h' hf; unfold ai_istore at hf; (repeat' split at hf) <;> cases hf <;> exact ai_le.rf _
theorem o_astore : ai_Mo ai_astore := by
  intro S a b d z ls st h ls' st' h' hf; unfold ai_astore at hf; (repeat' split at hf) <;> cases hf <;> exact ai_le.rf _
theorem o_iinc : ai_Mo ai_iinc := by
  intro S a b d z ls st h ls' st' h' hf; unfold ai_iinc at hf; (repeat' split at hf) <;> cases hf <;> exact ai_le.rf _
theorem o_bin (g : Int32 → Int32 → Int32) : ai_Mo (ai_bin g) := by
  intro S a b d z ls st h ls' st' h' hf; unfold ai_bin at hf; (repeat' split at hf) <;> cases hf <;> exact ai_le.rf _
theorem o_div (g : Int32 → Int32 → Int32) : ai_Mo (ai_div g) := by
  intro S a b d z ls st h ls' st' h' hf; unfold ai_div at hf; (repeat' split at hf) <;> cases hf <;> exact ai_le.rf _
theorem o_mm (g : Int32 → Int32 → Int32) : ai_Mo (ai_mm g) := by
  intro S a b d z ls st h ls' st' h' hf; unfold ai_mm at hf; (repeat' split at hf) <;> cases hf <;> exact ai_le.rf _
theorem o_dup : ai_Mo ai_dup := by
  intro S a b d z ls st h ls' st' h' hf; unfold ai_dup at hf; (repeat' split at hf) <;> cases hf <;> exact ai_le.rf _
theorem o_dup2 : ai_Mo ai_dup2 := by
  intro S a b d z ls st h ls' st' h' hf; unfold ai_dup2 at hf; (repeat' split at hf) <;> cases hf <;> exact ai_le.rf _
theorem o_pop : ai_Mo ai_pop := by
  intro S a b d z ls st h ls' st' h' hf; unfold ai_pop at hf; (repeat' split at hf) <;> cases hf <;> exact ai_le.rf _
theorem o_get : ai_Mo ai_get := by
  intro S a b d z ls st h ls' st' h' hf; unfold ai_get at hf; (repeat' split at hf) <;> cases hf <;> exact ai_le.rf _
theorem o_putI : ai_Mo ai_putI := by
  intro S a b d z ls st h ls' st' h' hf; unfold ai_putI at hf; (repeat' split at hf) <;> cases hf <;> exact ai_pf_le (by assumption)
theorem o_putZ : ai_Mo ai_putZ := by
  intro S a b d z ls st h ls' st' h' hf; unfold ai_putZ at hf; (repeat' split at hf) <;> cases hf <;> exact ai_pf_le (by assumption)
theorem o_putJ : ai_Mo ai_putJ := by
  intro S a b d z ls st h ls' st' h' hf; unfold ai_putJ at hf; (repeat' split at hf) <;> cases hf <;> exact ai_pf_le (by assumption)
theorem o_putR : ai_Mo ai_putR := by
  intro S a b d z ls st h ls' st' h' hf; unfold ai_putR at hf; (repeat' split at hf) <;> cases hf <;> exact ai_pf_le (by assumption)
theorem o_iald : ai_Mo ai_iald := by
  intro S a b d z ls st h ls' st' h' hf; unfold ai_iald at hf; (repeat' split at hf) <;> cases hf <;> exact ai_le.rf _
theorem o_bald : ai_Mo ai_bald := by
  intro S a b d z ls st h ls' st' h' hf; unfold ai_bald at hf; (repeat' split at hf) <;> cases hf <;> exact ai_le.rf _
theorem o_aald : ai_Mo ai_aald := by
  intro S a b d z ls st h ls' st' h' hf; unfold ai_aald at hf; (repeat' split at hf) <;> cases hf <;> exact ai_le.rf _
theorem o_iast : ai_Mo ai_iast := by
  intro S a b d z ls st h ls' st' h' hf; unfold ai_iast at hf; (repeat' split at hf) <;> cases hf <;> exact ai_pa_le (by assumption)
theorem o_bast : ai_Mo ai_bast := by
  intro S a b d z ls st h ls' st' h' hf; unfold ai_bast at hf; (repeat' split at hf) <;> cases hf <;> exact ai_pa_le (by assumption)
theorem o_aast : ai_Mo ai_aast := by
  intro S a b d z ls st h ls' st' h' hf; unfold ai_aast at hf; (repeat' split at hf) <;> cases hf <;> exact ai_pra_le (by assumption)
theorem o_len : ai_Mo ai_len := by
  intro S a b d z ls st h ls' st' h' hf; unfold ai_len at hf; (repeat' split at hf) <;> cases hf <;> exact ai_le.rf _
theorem o_newa (t : Nat) : ai_Mo (ai_newa t) := by
  intro S a b d z ls st h ls' st' h' hf; unfold ai_newa at hf; (repeat' split at hf) <;> cases hf <;> exact ai_le.app _ _
theorem o_newr : ai_Mo ai_newr := by
  intro S a b d z ls st h ls' st' h' hf; unfold ai_newr at hf; (repeat' split at hf) <;> cases hf <;> exact ai_le.app _ _
theorem o_newo : ai_Mo ai_newo := by
  intro S a b d z ls st h ls' st' h' hf; unfold ai_newo at hf; cases hf; exact ai_le.app _ _
theorem o_lcon : ai_Mo ai_lcon := by
  intro S a b d z ls st h ls' st' h' hf; cases hf; exact ai_le.rf _
theorem o_ladd : ai_Mo ai_ladd := by
  intro S a b d z ls st h ls' st' h' hf; unfold ai_ladd at hf; (repeat' split at hf) <;> cases hf <;> exact ai_le.rf _
theorem o_lcmp : ai_Mo ai_lcmp := by
  intro S a b d z ls st h ls' st' h' hf; unfold ai_lcmp at hf; (repeat' split at hf) <;> cases hf <;> exact ai_le.rf _
theorem o_null : ai_Mo ai_null := by
  intro S a b d z ls st h ls' st' h' hf; cases hf; exact ai_le.rf _
theorem o_obj : ai_Mo ai_obj := by
  intro S a b d z ls st h ls' st' h' hf; unfold ai_obj at hf; (repeat' split at hf) <;> cases hf <;> exact ai_le.rf _
theorem ai_mono_op : ∀ (i : Nat) (f : ai_O), ai_ops[i]? = some f → ai_Mo f := by
  intro i f h1
  have h2 : ∀ g ∈ ai_ops, ai_Mo g := by
    unfold ai_ops
    simp only [List.forall_mem_cons]
    exact ⟨@o_const, @o_const, @o_const, @o_iload, @o_iload, @o_aload, @o_istore, @o_istore, @o_astore, @o_iinc,
      @o_bin _, @o_bin _, @o_bin _, @o_bin _, @o_bin _, @o_bin _, @o_bin _, @o_bin _, @o_div _, @o_div _,
      @o_dup, @o_dup2, @o_pop, @o_get, @o_putI, @o_putZ, @o_putJ, @o_putR, @o_putR, @o_iald,
      @o_iast, @o_bald, @o_bast, @o_aald, @o_aast, @o_len, @o_newa _, @o_newa _, @o_newr, @o_newo,
      @o_const, @o_const, @o_lcon, @o_lcon, @o_ladd, @o_lcmp, @o_null, @o_obj, @o_mm _, @o_mm _, fun _ h => absurd h List.not_mem_nil⟩
  exact @h2 f (List.mem_of_getElem? h1)
theorem ai_op_le {S : ai_S} {i : ai_I} {ls st : List Value} {h : ai_H} {x : ai_X} (hf : ai_op S i ls st h = some x) : ai_le h x.2.2 := by
  obtain ⟨a, b, c⟩ := x
  unfold ai_op at hf
  split at hf
  · rename_i f h1
    exact ai_mono_op _ f h1 hf
  · cases hf
theorem ai_xl_le {S : ai_S} : ∀ (is : List ai_I) (ls st : List Value) (h : ai_H) (x : ai_X), ai_xl S is ls st h = some x → ai_le h x.2.2
  | [], ls, st, h, x, hf => by cases hf; exact ai_le.rf _
  | i :: is, ls, st, h, x, hf => by
    unfold ai_xl at hf
    split at hf
    · rename_i a b c h1
      exact (ai_op_le h1).tr (ai_xl_le is a b c x hf)
    · cases hf
/-- the ends of blocks, over a function that only makes the heap grow -/
def ai_RM (r : ai_Rec) : Prop := ∀ (m b : Nat) (ls st : List Value) (h : ai_H) (v : Option Value) (h' : ai_H), r m b ls st h = some (v, h') → ai_le h h'
theorem ai_sw_le {r : ai_Rec} (hr : ai_RM r) {m d : Nat} {ls st : List Value} {h : ai_H} {x : Int32} {v : Option Value} {h' : ai_H} : ∀ (t : List (Int32 × Nat)), ai_sw r m d ls st h x t = some (v, h') → ai_le h h'
  | [], hf => hr _ _ _ _ _ _ _ hf
  | (k, b) :: t, hf => by
    unfold ai_sw at hf
    split at hf
    · exact hr _ _ _ _ _ _ _ hf
    · exact ai_sw_le hr t hf
theorem ai_cal_le {r : ai_Rec} (hr : ai_RM r) {m b1 b2 n ck ci : Nat} {ls st : List Value} {h : ai_H} {v : Option Value} {h' : ai_H} (hf : ai_cal r (ai_calr r) m b1 b2 n ck ci ls st h = some (v, h')) : ai_le h h' := by
  unfold ai_cal at hf
  split at hf
  · split at hf
    · split at hf
      · rename_i v1 h1 e1
        unfold ai_calr at e1
        split at e1
        · exact (hr _ _ _ _ _ _ _ e1).tr (hr _ _ _ _ _ _ _ hf)
        · cases e1
      · cases hf
    · cases hf
  · cases hf
theorem ai_ret_le {k : Nat} {st : List Value} {h : ai_H} {v : Option Value} {h' : ai_H} (hf : ai_ret k st h = some (v, h')) : ai_le h h' := by
  unfold ai_ret at hf
  (repeat' split at hf) <;> cases hf <;> exact ai_le.rf _
theorem ai_if_le {P : Int32 → Prop} [DecidablePred P] {r : ai_Rec} (hr : ai_RM r) {m b1 b2 : Nat} {ls st : List Value} {h : ai_H} {v : Option Value} {h' : ai_H} (hf : ai_if P r m b1 b2 ls st h = some (v, h')) : ai_le h h' := by
  unfold ai_if at hf
  (repeat' split at hf) <;> first | exact hr _ _ _ _ _ _ _ hf | cases hf
theorem ai_if2_le {P : Int32 → Int32 → Prop} [∀ x y, Decidable (P x y)] {r : ai_Rec} (hr : ai_RM r) {m b1 b2 : Nat} {ls st : List Value} {h : ai_H} {v : Option Value} {h' : ai_H} (hf : ai_if2 P r m b1 b2 ls st h = some (v, h')) : ai_le h h' := by
  unfold ai_if2 at hf
  (repeat' split at hf) <;> first | exact hr _ _ _ _ _ _ _ hf | cases hf
theorem ai_nul_le {r : ai_Rec} (hr : ai_RM r) {m b1 b2 : Nat} {ls st : List Value} {h : ai_H} {v : Option Value} {h' : ai_H} (hf : ai_nul r m b1 b2 ls st h = some (v, h')) : ai_le h h' := by
  unfold ai_nul at hf
  (repeat' split at hf) <;> first | exact hr _ _ _ _ _ _ _ hf | cases hf
theorem ai_swt_le {r : ai_Rec} (hr : ai_RM r) {m d : Nat} {t : List (Int32 × Nat)} {ls st : List Value} {h : ai_H} {v : Option Value} {h' : ai_H} (hf : ai_swt r m d t ls st h = some (v, h')) : ai_le h h' := by
  unfold ai_swt at hf
  split at hf
  · exact ai_sw_le hr _ hf
  · cases hf
theorem ai_term_le {r : ai_Rec} (hr : ai_RM r) {m : Nat} {t : ai_T} {ls st : List Value} {h : ai_H} {v : Option Value} {h' : ai_H} (hf : ai_term r (ai_calr r) m t ls st h = some (v, h')) : ai_le h h' := by
  unfold ai_term at hf
  split at hf <;> first | exact hr _ _ _ _ _ _ _ hf | exact ai_if_le hr hf | exact ai_if2_le hr hf | exact ai_nul_le hr hf | exact ai_swt_le hr hf | exact ai_cal_le hr hf | exact ai_ret_le hf | cases hf
theorem ai_run_le (S : ai_S) : ∀ n, ai_RM (ai_run S n)
  | 0 => fun _ _ _ _ _ _ _ hf => by cases hf
  | n + 1 => fun m b ls st h v h' hf => by
    unfold ai_run ai_step at hf
    split at hf
    · rename_i a c d h1
      exact (ai_xl_le _ _ _ _ _ h1).tr (ai_term_le (ai_run_le S n) hf)
    · cases hf
/-- a straight stretch -/
theorem ai_line {bA base : Nat} {dC : Nat → ClassId} {dI : Nat → Nat → Nat} {ca : Nat → ClassId} {S : ai_S} {p : Program} {l : Launch} {e : Env} {R : Room} {s : State} {m : MethodId} {args : Array Value} {below : List Frame} {meth : Method} {c : Code} {Q : State → Prop} {k n0 z0 : Nat} (C : ai_CX bA base dC dI ca S p R s m args meth c k n0) :
    ∀ (is : List ai_I) (pc pc' : Nat) (ls st : List Value) (h : ai_H) (ls' st' : List Value) (h' : ai_H), ai_xl S is ls st h = some (ls', st', h') → ai_ckl k is pc = some pc' → n0 ≤ h.length ∧ z0 ≤ ai_sz h ∧ h'.length - n0 ≤ R.cells ∧ ai_sz h' - z0 ≤ R.slots →
      ai_G bA base dC dI ca p l e R s m args below meth c Q n0 z0 pc' ls' st' h' → ai_G bA base dC dI ca p l e R s m args below meth c Q n0 z0 pc ls st h
  | [], pc, pc', ls, st, h, ls', st', h', hf, hc, hb, hG => by
    cases hf
    cases hc
    exact hG
  | i :: is, pc, pc', ls, st, h, ls', st', h', hf, hc, hb, hG => by
    unfold ai_xl at hf
    split at hf
    · rename_i a b d h1
      unfold ai_ckl at hc
      split at hc
      · rename_i pc1 h2
        have l1 := ai_op_le h1
        have l2 := ai_xl_le _ _ _ _ _ hf
        dsimp only at l1 l2
        have b2 : n0 ≤ d.length ∧ z0 ≤ ai_sz d ∧ h'.length - n0 ≤ R.cells ∧ ai_sz h' - z0 ≤ R.slots := ⟨Nat.le_trans hb.1 l1.1, Nat.le_trans hb.2.1 l1.2, hb.2.2⟩
        have b1 : n0 ≤ h.length ∧ z0 ≤ ai_sz h ∧ d.length - n0 ≤ R.cells ∧ ai_sz d - z0 ≤ R.slots := ⟨hb.1, hb.2.1, by have := l2.1; have := hb.2.2.1; omega, by have := l2.2; have := hb.2.2.2; omega⟩
        have g := ai_line C is pc1 pc' a b d ls' st' h' hf hc b2 hG
        unfold ai_op at h1
        unfold ai_ck1 at h2
        split at h1
        · rename_i f hf1
          split at h2
          · rename_i en ok hen hok
            split at h2
            · rename_i hck
              rw [Bool.and_eq_true] at hck
              cases h2
              exact ai_snd i.1 f en ok hf1 hen hok C (of_decide_eq_true hck.1) hck.2 h1 b1 g
            · cases h2
          · cases h2
        · cases h1
      · cases hc
    · cases hf
