/-! the interpreter's answers are the machine's: methods, and the law's body -/
theorem ai_ckm_of {k : Nat} (h : k < 140) : (∀ b, b < (ai_pr.getD k []).length → ai_ckb k b = true) ∧ ai_pc k 0 = 0 ∧ (ai_ini k = true → (ai_y k).name = "<init>") ∧ ai_own (ai_mo k) = (ai_y k).cls := by
  have h1 := ai_ck_all k h
  unfold ai_ckm at h1
  simp only [Bool.and_eq_true] at h1
  obtain ⟨a, b, c⟩ := h1
  have c := of_decide_eq_true c
  refine ⟨fun j hj => ai_all a (List.mem_range.mpr hj), of_decide_eq_true b, fun hi => ?_, c.2⟩
  rw [c.1] at hi
  exact of_decide_eq_true hi
theorem ai_plain : (List.range 139).all (fun j => plainName (ai_y j).cls) = true := by decide +kernel
theorem ai_blk_out {k b : Nat} (h : ¬ b < (ai_pr.getD k []).length) : ai_blk k b = (0, [], (99, 0, 0, 0, 0, [])) := by
  unfold ai_blk
  rw [List.getD_eq_getElem?_getD, List.getElem?_eq_none (by omega)]
  rfl
/-- the locals of a method's entry -/
theorem ai_entry {bA base : Nat} {c : Code} {k : Nat} {as : List Value} (hml : c.maxLocals = ai_ml k) (hlen : as.length ≤ ai_ml k) (hc : ∀ w ∈ as, w.category = 1) : ai_LR bA base c ((lg_sl (as.map (ai_cv bA base)) ++ List.replicate (ai_ml k - (lg_sl (as.map (ai_cv bA base))).length) Slot.unset).toArray) (ai_init k as) := by
  have hl : (ai_init k as).length = ai_ml k := by
    unfold ai_init
    rw [List.length_append, List.length_replicate]
    omega
  refine ⟨by rw [hl, hml], fun v hv => ?_, ?_⟩
  · unfold ai_init at hv
    rcases List.mem_append.mp hv with h | h
    · exact hc v h
    · rw [(List.mem_replicate.mp h).2]
      rfl
  · rw [hl]
    have h1 := lv_entry (as.map (ai_cv bA base)) (n := ai_ml k) (by rw [ai_lgsl as hc]; exact hlen)
    refine ⟨h1.1, h1.2.1, fun q hq => h1.2.2 q ?_⟩
    obtain ⟨j, w⟩ := q
    obtain ⟨v, -, g2, g3, g4⟩ := ai_lv_of _ _ _ _ hq
    rw [Nat.sub_zero] at g2
    unfold ai_init at g2
    by_cases hj : j < as.length
    · rw [List.getElem?_append_left hj] at g2
      have g5 := ai_lvargs (bA := bA) (base := base) as 0 j v hc g2
      rw [Nat.zero_add, ← g4] at g5
      exact g5
    · rw [List.getElem?_append_right (by omega)] at g2
      have g6 := (List.mem_replicate.mp (List.mem_of_getElem? g2)).2
      exact absurd g6 g3
/-- good points, of all methods at once, by fuel -/
def ai_Pn (S : ai_S) (l : Launch) (bA base : Nat) (dC : Nat → ClassId) (dI : Nat → Nat → Nat) (ca : Nat → ClassId) (n : Nat) : Prop :=
  ∀ {p : Program} {e : Env} {R : Room} {s : State} {m : MethodId} {args : Array Value} {below : List Frame} {meth : Method} {c : Code} {Q : State → Prop} {k n0 z0 : Nat} {v : Option Value} {h' : ai_H}, k < 140 → ai_CX bA base dC dI ca S p R s m args meth c k n0 → h'.length - n0 ≤ R.cells ∧ ai_sz h' - z0 ≤ R.slots → ai_Ex bA base dC dI ca p l e R s m args below meth c Q k n0 z0 v h' →
    ∀ (b : Nat) (ls st : List Value) (h : ai_H), ai_run S n k b ls st h = some (v, h') → n0 ≤ h.length ∧ z0 ≤ ai_sz h → ai_G bA base dC dI ca p l e R s m args below meth c Q n0 z0 (ai_pc k b) ls st h
theorem ai_ret0 {st : List Value} {h : ai_H} {v : Option Value} {h' : ai_H} (hf : ai_ret 0 st h = some (v, h')) : ∃ x : Int32, st = [.int x] ∧ v = some (.int x) := by
  cases st with
  | nil => cases hf
  | cons a t => cases t with
    | nil => cases a <;> first | (cases hf; exact ⟨_, rfl, rfl⟩) | cases hf
    | cons b t => cases a <;> cases hf
theorem ai_ret1 {st : List Value} {h : ai_H} {v : Option Value} {h' : ai_H} (hf : ai_ret 1 st h = some (v, h')) : ∃ x : Int32, st = [.int x] ∧ v = some (.int x) ∧ (x = 0 ∨ x = 1) := by
  cases st with
  | nil => cases hf
  | cons a t => cases t with
    | nil =>
      cases a with
      | int x =>
        have hf2 : (if x = 0 ∨ x = 1 then some (some (Value.int x), h) else none) = some (v, h') := hf
        split at hf2
        · rename_i hx
          cases hf2
          exact ⟨x, rfl, rfl, hx⟩
        · cases hf2
      | _ => cases hf
    | cons b t => cases a <;> cases hf
theorem ai_ret2 {st : List Value} {h : ai_H} {v : Option Value} {h' : ai_H} (hf : ai_ret 2 st h = some (v, h')) : ∃ x : Int64, st = [.long x] ∧ v = some (.long x) := by
  cases st with
  | nil => cases hf
  | cons a t => cases t with
    | nil => cases a <;> first | (cases hf; exact ⟨_, rfl, rfl⟩) | cases hf
    | cons b t => cases a <;> cases hf
theorem ai_ret3 {st : List Value} {h : ai_H} {v : Option Value} {h' : ai_H} (hf : ai_ret 3 st h = some (v, h')) : (∃ q : Nat, st = [.ref q] ∧ v = some (.ref q)) ∨ (st = [.null] ∧ v = some .null) := by
  cases st with
  | nil => cases hf
  | cons a t => cases t with
    | nil => cases a <;> first | (cases hf; exact Or.inl ⟨_, rfl, rfl⟩) | (cases hf; exact Or.inr ⟨rfl, rfl⟩) | cases hf
    | cons b t => cases a <;> cases hf
theorem ai_ret4 {st : List Value} {h : ai_H} {v : Option Value} {h' : ai_H} (hf : ai_ret 4 st h = some (v, h')) : st = [] ∧ v = none := by
  cases st with
  | nil => cases hf; exact ⟨rfl, rfl⟩
  | cons a t => cases t <;> cases a <;> cases hf
set_option maxHeartbeats 4000000 in
theorem ai_met {S : ai_S} {l : Launch} {bA base : Nat} {dC : Nat → ClassId} {dI : Nat → Nat → Nat} {ca : Nat → ClassId} {n : Nat} (ih : ai_Pn S l bA base dC dI ca n) (hbl : bA < base) {j : Nat} {as : List Value} {h1 : ai_H} {v1 : Option Value} {h2 : ai_H} (hj : j < 139) (hlen : as.length ≤ ai_ml j) (hr : ai_calr (ai_run S n) j as h1 = some (v1, h2)) : ai_Met bA base dC dI ca S l j as h1 v1 h2 := by
  unfold ai_calr at hr
  split at hr
  · rename_i hcat
    have hcat2 : ∀ w ∈ as, w.category = 1 := fun w hw => eq_of_beq (List.all_eq_true.mp hcat w hw)
    have hle := ai_run_le S n _ _ _ _ _ _ _ hr
    obtain ⟨k1, k2, k3, k4⟩ := ai_ckm_of (k := j) (by omega)
    refine Met.ofW (cc := ai_c j) (maxL := ai_ml j) (ret := ai_rt j) (ai_all ai_plain (List.mem_range.mpr hj)) rfl ?_
    intro p e s m args below meth c s₁ B hml hv
    obtain ⟨rfl, hsz, hP, hK, hX⟩ := hv
    have hts := atoms_spec (ws := ai_ws j) B.pre
    have hown : s.vm.findClass (ai_y j).cls = some m.cls := findClass_of_methodNamed B.named
    have C : ai_CX bA base dC dI ca S p (headSpec (ai_ws j) (ai_rm j (h2.length - h1.length) (ai_sz h2 - ai_sz h1))).room s m (as.map (ai_cv bA base)).toArray meth c j h1.length :=
      ⟨B.exec, B.bytes, by rw [k4]; exact hown, fun w hw => hts w (List.mem_cons_of_mem _ hw), hK, hX, hbl, hsz, fun hi => ((name_of_methodNamed B.named B.method).1).trans (k3 hi), Nat.le_refl _, Nat.le_refl _⟩
    have hE : ai_Ex bA base dC dI ca p l e (headSpec (ai_ws j) (ai_rm j (h2.length - h1.length) (ai_sz h2 - ai_sz h1))).room s m (as.map (ai_cv bA base)).toArray below meth c (MQ below (ai_Qc bA base dC dI ca v1 h2) (as.map (ai_cv bA base)).toArray s (h2.length - h1.length) (ai_sz h2 - ai_sz h1) (fun q : Nat => base ≤ q)) j h1.length (ai_sz h1) v1 h2 := by
      intro rk pc b1 b2 x y tbl st h hrk hf hc H locs lsC hw hh
      subst hh
      match rk, hf, hc with
      | 0, hf, hc =>
        have hc2 : (ai_dec j pc .ireturn 1 && decide (ai_rt j = some .int)) = true := hc
        rw [Bool.and_eq_true] at hc2
        obtain ⟨i, rfl, rfl⟩ := ai_ret0 hf
        exact W.iret B.exec B.bytes (B.returns.trans (of_decide_eq_true hc2.2)) (fun t ht _ => ⟨rfl, by rw [ht]; exact hw.1, hw.2.F ht⟩) hw.2.2.2 (ai_dec_of hc2.1) B.notSynchronized
      | 1, hf, hc =>
        have hc2 : (ai_dec j pc .ireturn 1 && decide (ai_rt j = some .boolean)) = true := hc
        rw [Bool.and_eq_true] at hc2
        obtain ⟨i, rfl, rfl, hi⟩ := ai_ret1 hf
        exact W.zret B.exec B.bytes (B.returns.trans (of_decide_eq_true hc2.2)) (by rcases hi with rfl | rfl; exact ai_z0.1; exact ai_z1.1) (fun t ht _ => ⟨rfl, by rw [ht]; exact hw.1, hw.2.F ht⟩) hw.2.2.2 (ai_dec_of hc2.1) B.notSynchronized
      | 2, hf, hc =>
        have hc2 : (ai_dec j pc .lreturn 1 && decide (ai_rt j = some .long)) = true := hc
        rw [Bool.and_eq_true] at hc2
        obtain ⟨i, rfl, rfl⟩ := ai_ret2 hf
        exact W.lret B.exec B.bytes (B.returns.trans (of_decide_eq_true hc2.2)) (fun t ht _ => ⟨rfl, by rw [ht]; exact hw.1, hw.2.F ht⟩) hw.2.2.2 (ai_dec_of hc2.1) B.notSynchronized
      | 3, hf, hc =>
        have hc2 : (ai_dec j pc .areturn 1 && (match ai_rt j with
          | some t => ai_isR t
          | none => false)) = true := hc
        rw [Bool.and_eq_true] at hc2
        have hrt : ∃ rt, ai_rt j = some rt ∧ ((∃ n, rt = .object n) ∨ ∃ t, rt = .array t) := by
          have h3 := hc2.2
          split at h3
          · rename_i t ht
            refine ⟨t, ht, ?_⟩
            unfold ai_isR at h3
            split at h3
            · exact Or.inl ⟨_, rfl⟩
            · exact Or.inr ⟨_, rfl⟩
            · cases h3
          · cases h3
        obtain ⟨rt, e1, e2⟩ := hrt
        rcases ai_ret3 hf with ⟨q, rfl, rfl⟩ | ⟨rfl, rfl⟩
        · skip
          exact W.aret B.exec B.bytes (B.returns.trans e1) e2 (Or.inr ⟨_, rfl⟩) (fun t ht _ => ⟨rfl, by rw [ht]; exact hw.1, hw.2.F ht⟩) hw.2.2.2 (ai_dec_of hc2.1) B.notSynchronized
        · exact W.aret B.exec B.bytes (B.returns.trans e1) e2 (Or.inl rfl) (fun t ht _ => ⟨rfl, by rw [ht]; exact hw.1, hw.2.F ht⟩) hw.2.2.2 (ai_dec_of hc2.1) B.notSynchronized
      | 4, hf, hc =>
        have hc2 : (ai_dec j pc .return_ 1 && decide (ai_rt j = none)) = true := hc
        rw [Bool.and_eq_true] at hc2
        obtain ⟨rfl, rfl⟩ := ai_ret4 hf
        exact W.vret B.exec B.bytes (B.returns.trans (of_decide_eq_true hc2.2)) (fun t ht _ => ⟨rfl, by rw [ht]; exact hw.1, hw.2.F ht⟩) hw.2.2.2 (ai_dec_of hc2.1) B.notSynchronized
      | rk + 5, hf, hc => omega
    have G := @ih _ _ _ _ _ _ _ _ _ _ _ _ _ _ _ (show j < 140 by omega) C ⟨Nat.le_refl _, Nat.le_refl _⟩ hE 0 (ai_init j as) [] h1 hr ⟨Nat.le_refl _, Nat.le_refl _⟩
    have hL := ai_entry (bA := bA) (base := base) hml hlen hcat2
    have g := G s.heap [] _ hL ⟨hP, va_S.rf⟩
    rw [k2] at g
    rw [lg_entry_eq]
    exact W.cs (Nat.sub_self _).symm (Nat.sub_self _).symm g
  · cases hr
theorem ai_all_Pn {S : ai_S} {l : Launch} {bA base : Nat} {dC : Nat → ClassId} {dI : Nat → Nat → Nat} {ca : Nat → ClassId} (hbl : bA < base) : ∀ n, ai_Pn S l bA base dC dI ca n := by
  intro n
  induction n with
  | zero =>
    intro p e R s m args below meth c Q k n0 z0 v h' hk C hbb hE b ls st h hf
    cases hf
  | succ n ih =>
    intro p e R s m args below meth c Q k n0 z0 v h' hk C hbb hE b ls st h hf hb
    unfold ai_run ai_step at hf
    by_cases hlen : b < (ai_pr.getD k []).length
    · have hck := (ai_ckm_of hk).1 b hlen
      unfold ai_ckb at hck
      split at hf
      · rename_i ls1 st1 h1 hx
        split at hck
        · rename_i pc1 hpc1
          have l1 := ai_xl_le _ _ _ _ _ hx
          dsimp only at l1
          have l2 := ai_term_le (ai_run_le S n) hf
          have b2 : n0 ≤ h1.length ∧ z0 ≤ ai_sz h1 := ⟨Nat.le_trans hb.1 l1.1, Nat.le_trans hb.2 l1.2⟩
          have g := ai_tt C b2 (fun b ls st h hf hb => @ih _ _ _ _ _ _ _ _ _ _ _ _ _ _ _ hk C hbb hE b ls st h hf hb) (ai_run_le S n) (fun j as h1 v1 h2 hj hl hr => ai_met @ih hbl hj hl hr) hbb hE hf hck
          have := l2.1
          have := l2.2
          exact ai_line C _ _ _ _ _ _ _ _ _ hx hpc1 ⟨hb.1, hb.2, by omega, by omega⟩ g
        · cases hck
      · cases hf
    · rw [ai_blk_out hlen] at hf
      cases hf
