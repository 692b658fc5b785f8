/-! every step of the interpreter is sound -/
def ai_Snd (f : ai_O) (en : Nat → Nat → Nat → Int32 → Instr × Nat) (ok : ai_Ok) : Prop :=
  ∀ {bA base : Nat} {dC : Nat → ClassId} {dI : Nat → Nat → Nat} {ca : Nat → ClassId} {S : ai_S} {p : Program} {l : Launch} {e : Env} {R : Room} {s : State} {m : MethodId} {args : Array Value} {below : List Frame} {meth : Method} {c : Code} {Q : State → Prop} {k n0 z0 pc a b d : Nat} {z : Int32} {ls st : List Value} {h : ai_H} {ls' st' : List Value} {h' : ai_H},
    ai_CX bA base dC dI ca S p R s m args meth c k n0 → decode (ai_c k) pc = .ok (en a b d z) → ok k a b d z = true → f S a b d z ls st h = some (ls', st', h') → n0 ≤ h.length ∧ z0 ≤ ai_sz h ∧ h'.length - n0 ≤ R.cells ∧ ai_sz h' - z0 ≤ R.slots →
    ai_G bA base dC dI ca p l e R s m args below meth c Q n0 z0 (pc + (en a b d z).2) ls' st' h' → ai_G bA base dC dI ca p l e R s m args below meth c Q n0 z0 pc ls st h
theorem ai_ne (x : Int32) : Value.int x ≠ ai_u := fun h => by cases h
theorem ai_ner (x : Nat) : Value.ref x ≠ ai_u := fun h => by cases h
theorem ai_nen : Value.null ≠ ai_u := fun h => by cases h
theorem s_iconst : ai_Snd ai_const (fun _ _ _ z => (.iconst z.toInt, 1)) ai_okT := by
  intro bA base dC dI ca S p l e R s m args below meth c Q k n0 z0 pc a b d z ls st h ls' st' h' C hd hok hf hb hG H locs lsC hl hw
  obtain ⟨hx, hb1, hown, hts, hK, hX, hbl, hn0, hini, hfr, hlo⟩ := C
  cases hf
  exact lv_iconst hx hb1 hd (Int32.ofInt_toInt z) (hG H locs lsC hl hw)
theorem s_bipush : ai_Snd ai_const (fun _ _ _ z => (.bipush z.toInt, 2)) (fun _ _ _ _ z => decide ((Int8.ofInt z.toInt).toInt32 = z)) := by
  intro bA base dC dI ca S p l e R s m args below meth c Q k n0 z0 pc a b d z ls st h ls' st' h' C hd hok hf hb hG H locs lsC hl hw
  obtain ⟨hx, hb1, hown, hts, hK, hX, hbl, hn0, hini, hfr, hlo⟩ := C
  cases hf
  exact lv_bipush hx hb1 hd (of_decide_eq_true hok) (hG H locs lsC hl hw)
theorem s_sipush : ai_Snd ai_const (fun _ _ _ z => (.sipush z.toInt, 3)) (fun _ _ _ _ z => decide ((Int16.ofInt z.toInt).toInt32 = z)) := by
  intro bA base dC dI ca S p l e R s m args below meth c Q k n0 z0 pc a b d z ls st h ls' st' h' C hd hok hf hb hG H locs lsC hl hw
  obtain ⟨hx, hb1, hown, hts, hK, hX, hbl, hn0, hini, hfr, hlo⟩ := C
  cases hf
  exact lv_sipush hx hb1 hd (of_decide_eq_true hok) (hG H locs lsC hl hw)
theorem ai_f4 {a : Nat} (h : ai_ok4 0 a 0 0 0 = true) : ((Fin.ofNat 4 a : Fin 4) : Nat) = a := by
  have h1 : a < 4 := of_decide_eq_true h
  show a % 4 = a
  omega
theorem s_iload_n : ai_Snd ai_iload (fun a _ _ _ => (.iload_n (Fin.ofNat 4 a), 1)) ai_ok4 := by
  intro bA base dC dI ca S p l e R s m args below meth c Q k n0 z0 pc a b d z ls st h ls' st' h' C hd hok hf hb hG H locs lsC hl hw
  obtain ⟨hx, hb1, hown, hts, hK, hX, hbl, hn0, hini, hfr, hlo⟩ := C
  unfold ai_iload at hf
  split at hf
  · rename_i x hv
    cases hf
    exact lv_iload_n hx hb1 hd (ai_f4 hok) (ai_rd hl hv (ai_ne _)) (hG H locs lsC hl hw)
  · cases hf
theorem s_iload : ai_Snd ai_iload (fun a _ _ _ => (.iload a, 2)) ai_okT := by
  intro bA base dC dI ca S p l e R s m args below meth c Q k n0 z0 pc a b d z ls st h ls' st' h' C hd hok hf hb hG H locs lsC hl hw
  obtain ⟨hx, hb1, hown, hts, hK, hX, hbl, hn0, hini, hfr, hlo⟩ := C
  unfold ai_iload at hf
  split at hf
  · rename_i x hv
    cases hf
    exact lv_iload hx hb1 hd (ai_rd hl hv (ai_ne _)) (hG H locs lsC hl hw)
  · cases hf
theorem s_aload_n : ai_Snd ai_aload (fun a _ _ _ => (.aload_n (Fin.ofNat 4 a), 1)) ai_ok4 := by
  intro bA base dC dI ca S p l e R s m args below meth c Q k n0 z0 pc a b d z ls st h ls' st' h' C hd hok hf hb hG H locs lsC hl hw
  obtain ⟨hx, hb1, hown, hts, hK, hX, hbl, hn0, hini, hfr, hlo⟩ := C
  unfold ai_aload at hf
  split at hf
  · rename_i x hv
    cases hf
    exact lv_aload_n hx hb1 hd (ai_f4 hok) (ai_rd hl hv (ai_ner _)) (hG H locs lsC hl hw)
  · rename_i hv
    cases hf
    exact lv_aload_nN hx hb1 hd (ai_f4 hok) (ai_rd hl hv ai_nen) (hG H locs lsC hl hw)
  · cases hf
theorem s_istore_n : ai_Snd ai_istore (fun a _ _ _ => (.istore_n (Fin.ofNat 4 a), 1)) ai_ok4 := by
  intro bA base dC dI ca S p l e R s m args below meth c Q k n0 z0 pc a b d z ls st h ls' st' h' C hd hok hf hb hG H locs lsC hl hw
  obtain ⟨hx, hb1, hown, hts, hK, hX, hbl, hn0, hini, hfr, hlo⟩ := C
  unfold ai_istore at hf
  split at hf
  · split at hf
    · rename_i ha
      cases hf
      exact lv_istore_n hx hb1 hd (ai_f4 hok) hl.2.2 ha rfl (fun ls' h' => hG H locs ls' (ai_wr hl rfl h') hw)
    · cases hf
  · cases hf
theorem s_istore : ai_Snd ai_istore (fun a _ _ _ => (.istore a, 2)) ai_okT := by
  intro bA base dC dI ca S p l e R s m args below meth c Q k n0 z0 pc a b d z ls st h ls' st' h' C hd hok hf hb hG H locs lsC hl hw
  obtain ⟨hx, hb1, hown, hts, hK, hX, hbl, hn0, hini, hfr, hlo⟩ := C
  unfold ai_istore at hf
  split at hf
  · split at hf
    · rename_i ha
      cases hf
      exact lv_istore hx hb1 hd hl.2.2 ha rfl (fun ls' h' => hG H locs ls' (ai_wr hl rfl h') hw)
    · cases hf
  · cases hf
theorem s_astore_n : ai_Snd ai_astore (fun a _ _ _ => (.astore_n (Fin.ofNat 4 a), 1)) ai_ok4 := by
  intro bA base dC dI ca S p l e R s m args below meth c Q k n0 z0 pc a b d z ls st h ls' st' h' C hd hok hf hb hG H locs lsC hl hw
  obtain ⟨hx, hb1, hown, hts, hK, hX, hbl, hn0, hini, hfr, hlo⟩ := C
  unfold ai_astore at hf
  split at hf
  · split at hf
    · rename_i ha
      cases hf
      exact lv_astore_n hx hb1 hd (ai_f4 hok) hl.2.2 ha rfl (fun ls' h' => hG H locs ls' (ai_wr hl rfl h') hw)
    · cases hf
  · split at hf
    · rename_i ha
      cases hf
      exact lv_astore_nN hx hb1 hd (ai_f4 hok) hl.2.2 ha rfl (fun ls' h' => hG H locs ls' (ai_wr hl rfl h') hw)
    · cases hf
  · cases hf
theorem s_iinc : ai_Snd ai_iinc (fun a _ _ z => (.iinc a z.toInt, 3)) ai_okT := by
  intro bA base dC dI ca S p l e R s m args below meth c Q k n0 z0 pc a b d z ls st h ls' st' h' C hd hok hf hb hG H locs lsC hl hw
  obtain ⟨hx, hb1, hown, hts, hK, hX, hbl, hn0, hini, hfr, hlo⟩ := C
  unfold ai_iinc at hf
  split at hf
  · rename_i x hv
    cases hf
    obtain ⟨j, hj⟩ := ai_place (bA := bA) (base := base) hv (ai_ne _)
    exact lv_iinc (v := x + z) hx hb1 hd hl.2.2 hj (by rw [Int32.ofInt_toInt]) (List.getElem?_eq_some_iff.mp hv).1 rfl (fun ls' h' => hG H locs ls' (ai_wr (v := .int (x + z)) hl rfl h') hw)
  · cases hf
theorem s_iadd : ai_Snd (ai_bin (fun x y => x + y)) (fun _ _ _ _ => (.iadd, 1)) ai_okT := by
  intro bA base dC dI ca S p l e R s m args below meth c Q k n0 z0 pc a b d z ls st h ls' st' h' C hd hok hf hb hG H locs lsC hl hw
  obtain ⟨hx, hb1, hown, hts, hK, hX, hbl, hn0, hini, hfr, hlo⟩ := C
  unfold ai_bin at hf
  split at hf
  · cases hf
    exact lv_iadd hx hb1 hd (hG H locs lsC hl hw)
  · cases hf
theorem s_isub : ai_Snd (ai_bin (fun x y => x - y)) (fun _ _ _ _ => (.isub, 1)) ai_okT := by
  intro bA base dC dI ca S p l e R s m args below meth c Q k n0 z0 pc a b d z ls st h ls' st' h' C hd hok hf hb hG H locs lsC hl hw
  obtain ⟨hx, hb1, hown, hts, hK, hX, hbl, hn0, hini, hfr, hlo⟩ := C
  unfold ai_bin at hf
  split at hf
  · cases hf
    exact lv_isub hx hb1 hd (hG H locs lsC hl hw)
  · cases hf
theorem s_imul : ai_Snd (ai_bin (fun x y => x * y)) (fun _ _ _ _ => (.imul, 1)) ai_okT := by
  intro bA base dC dI ca S p l e R s m args below meth c Q k n0 z0 pc a b d z ls st h ls' st' h' C hd hok hf hb hG H locs lsC hl hw
  obtain ⟨hx, hb1, hown, hts, hK, hX, hbl, hn0, hini, hfr, hlo⟩ := C
  unfold ai_bin at hf
  split at hf
  · cases hf
    exact lv_imul hx hb1 hd (hG H locs lsC hl hw)
  · cases hf
theorem s_iand : ai_Snd (ai_bin (fun x y => x &&& y)) (fun _ _ _ _ => (.iand, 1)) ai_okT := by
  intro bA base dC dI ca S p l e R s m args below meth c Q k n0 z0 pc a b d z ls st h ls' st' h' C hd hok hf hb hG H locs lsC hl hw
  obtain ⟨hx, hb1, hown, hts, hK, hX, hbl, hn0, hini, hfr, hlo⟩ := C
  unfold ai_bin at hf
  split at hf
  · cases hf
    exact lv_iand hx hb1 hd (hG H locs lsC hl hw)
  · cases hf
theorem s_ior : ai_Snd (ai_bin (fun x y => x ||| y)) (fun _ _ _ _ => (.ior, 1)) ai_okT := by
  intro bA base dC dI ca S p l e R s m args below meth c Q k n0 z0 pc a b d z ls st h ls' st' h' C hd hok hf hb hG H locs lsC hl hw
  obtain ⟨hx, hb1, hown, hts, hK, hX, hbl, hn0, hini, hfr, hlo⟩ := C
  unfold ai_bin at hf
  split at hf
  · cases hf
    exact lv_ior hx hb1 hd (hG H locs lsC hl hw)
  · cases hf
theorem s_ishl : ai_Snd (ai_bin (fun x y => x <<< (y &&& 31))) (fun _ _ _ _ => (.ishl, 1)) ai_okT := by
  intro bA base dC dI ca S p l e R s m args below meth c Q k n0 z0 pc a b d z ls st h ls' st' h' C hd hok hf hb hG H locs lsC hl hw
  obtain ⟨hx, hb1, hown, hts, hK, hX, hbl, hn0, hini, hfr, hlo⟩ := C
  unfold ai_bin at hf
  split at hf
  · cases hf
    exact lv_ishl hx hb1 hd (hG H locs lsC hl hw)
  · cases hf
theorem s_ishr : ai_Snd (ai_bin (fun x y => x >>> (y &&& 31))) (fun _ _ _ _ => (.ishr, 1)) ai_okT := by
  intro bA base dC dI ca S p l e R s m args below meth c Q k n0 z0 pc a b d z ls st h ls' st' h' C hd hok hf hb hG H locs lsC hl hw
  obtain ⟨hx, hb1, hown, hts, hK, hX, hbl, hn0, hini, hfr, hlo⟩ := C
  unfold ai_bin at hf
  split at hf
  · cases hf
    exact lv_ishr hx hb1 hd (hG H locs lsC hl hw)
  · cases hf
theorem s_iushr : ai_Snd (ai_bin (fun x y => (x.toUInt32 >>> (y.toUInt32 &&& Int32.toUInt32 31)).toInt32)) (fun _ _ _ _ => (.iushr, 1)) ai_okT := by
  intro bA base dC dI ca S p l e R s m args below meth c Q k n0 z0 pc a b d z ls st h ls' st' h' C hd hok hf hb hG H locs lsC hl hw
  obtain ⟨hx, hb1, hown, hts, hK, hX, hbl, hn0, hini, hfr, hlo⟩ := C
  unfold ai_bin at hf
  split at hf
  · cases hf
    exact lv_iushr hx hb1 hd rfl (hG H locs lsC hl hw)
  · cases hf
theorem s_idiv : ai_Snd (ai_div (fun x y => x / y)) (fun _ _ _ _ => (.idiv, 1)) ai_okT := by
  intro bA base dC dI ca S p l e R s m args below meth c Q k n0 z0 pc a b d z ls st h ls' st' h' C hd hok hf hb hG H locs lsC hl hw
  obtain ⟨hx, hb1, hown, hts, hK, hX, hbl, hn0, hini, hfr, hlo⟩ := C
  unfold ai_div at hf
  split at hf
  · split at hf
    · cases hf
    · rename_i hy
      cases hf
      exact lv_idiv hx hb1 hd hy (hG H locs lsC hl hw)
  · cases hf
theorem s_irem : ai_Snd (ai_div (fun x y => x - x / y * y)) (fun _ _ _ _ => (.irem, 1)) ai_okT := by
  intro bA base dC dI ca S p l e R s m args below meth c Q k n0 z0 pc a b d z ls st h ls' st' h' C hd hok hf hb hG H locs lsC hl hw
  obtain ⟨hx, hb1, hown, hts, hK, hX, hbl, hn0, hini, hfr, hlo⟩ := C
  unfold ai_div at hf
  split at hf
  · split at hf
    · cases hf
    · rename_i hy
      cases hf
      exact lv_irem hx hb1 hd hy (hG H locs lsC hl hw)
  · cases hf
theorem s_dup : ai_Snd ai_dup (fun _ _ _ _ => (.dup, 1)) ai_okT := by
  intro bA base dC dI ca S p l e R s m args below meth c Q k n0 z0 pc a b d z ls st h ls' st' h' C hd hok hf hb hG H locs lsC hl hw
  obtain ⟨hx, hb1, hown, hts, hK, hX, hbl, hn0, hini, hfr, hlo⟩ := C
  unfold ai_dup at hf
  split at hf
  · split at hf
    · rename_i hc
      cases hf
      exact lv_dup hx hb1 hd (by rw [ai_cv_cat]; exact hc) (hG H locs lsC hl hw)
    · cases hf
  · cases hf
theorem s_dup2 : ai_Snd ai_dup2 (fun _ _ _ _ => (.dup2, 1)) ai_okT := by
  intro bA base dC dI ca S p l e R s m args below meth c Q k n0 z0 pc a b d z ls st h ls' st' h' C hd hok hf hb hG H locs lsC hl hw
  obtain ⟨hx, hb1, hown, hts, hK, hX, hbl, hn0, hini, hfr, hlo⟩ := C
  unfold ai_dup2 at hf
  split at hf
  · split at hf
    · rename_i hc
      cases hf
      exact lv_dup2_11 hx hb1 hd (by rw [ai_cv_cat]; exact hc.1) (by rw [ai_cv_cat]; exact hc.2) (hG H locs lsC hl hw)
    · cases hf
  · cases hf
theorem s_pop : ai_Snd ai_pop (fun _ _ _ _ => (.pop, 1)) ai_okT := by
  intro bA base dC dI ca S p l e R s m args below meth c Q k n0 z0 pc a b d z ls st h ls' st' h' C hd hok hf hb hG H locs lsC hl hw
  obtain ⟨hx, hb1, hown, hts, hK, hX, hbl, hn0, hini, hfr, hlo⟩ := C
  unfold ai_pop at hf
  split at hf
  · split at hf
    · rename_i hc
      cases hf
      exact lv_pop hx hb1 hd (by rw [ai_cv_cat]; exact hc) (hG H locs lsC hl hw)
    · cases hf
  · cases hf
theorem s_lcon (hN : True) : ai_Snd ai_lcon (fun a _ _ _ => (.lconst (Fin.ofNat 2 a), 1)) (fun _ a _ _ z => decide (a < 2) && decide (Int64.ofNat a = z.toInt64)) := by
  intro bA base dC dI ca S p l e R s m args below meth c Q k n0 z0 pc a b d z ls st h ls' st' h' C hd hok hf hb hG H locs lsC hl hw
  obtain ⟨hx, hb1, hown, hts, hK, hX, hbl, hn0, hini, hfr, hlo⟩ := C
  cases hf
  simp only [Bool.and_eq_true, decide_eq_true_eq] at hok
  have h2 : ((Fin.ofNat 2 a : Fin 2) : Nat) = a := by
    show a % 2 = a
    omega
  exact lv_lconst hx hb1 hd (by rw [h2]; exact hok.2) (hG H locs lsC hl hw)
theorem s_ladd : ai_Snd ai_ladd (fun _ _ _ _ => (.ladd, 1)) ai_okT := by
  intro bA base dC dI ca S p l e R s m args below meth c Q k n0 z0 pc a b d z ls st h ls' st' h' C hd hok hf hb hG H locs lsC hl hw
  obtain ⟨hx, hb1, hown, hts, hK, hX, hbl, hn0, hini, hfr, hlo⟩ := C
  unfold ai_ladd at hf
  split at hf
  · cases hf
    exact lv_ladd hx hb1 hd (hG H locs lsC hl hw)
  · cases hf
theorem s_lcmp : ai_Snd ai_lcmp (fun _ _ _ _ => (.lcmp, 1)) ai_okT := by
  intro bA base dC dI ca S p l e R s m args below meth c Q k n0 z0 pc a b d z ls st h ls' st' h' C hd hok hf hb hG H locs lsC hl hw
  obtain ⟨hx, hb1, hown, hts, hK, hX, hbl, hn0, hini, hfr, hlo⟩ := C
  unfold ai_lcmp at hf
  split at hf
  · cases hf
    exact W.lcmp hx hb1 hd (hG H locs lsC hl hw)
  · cases hf
theorem s_null : ai_Snd ai_null (fun _ _ _ _ => (.aconst_null, 1)) ai_okT := by
  intro bA base dC dI ca S p l e R s m args below meth c Q k n0 z0 pc a b d z ls st h ls' st' h' C hd hok hf hb hG H locs lsC hl hw
  obtain ⟨hx, hb1, hown, hts, hK, hX, hbl, hn0, hini, hfr, hlo⟩ := C
  cases hf
  exact lv_null hx hb1 hd (hG H locs lsC hl hw)
theorem ai_kl_of {m c : Nat} {z : Int32} (h : ai_KL.any (fun e => e.1 == ai_mo m && (e.2.1 == c && decide (e.2.2.1 = z))) = true) : Cond.constant (ai_own (ai_mo m)) c z ∈ ai_TB := by
  obtain ⟨x, hx, h1⟩ := List.any_eq_true.mp h
  simp only [Bool.and_eq_true, beq_iff_eq, decide_eq_true_eq] at h1
  obtain ⟨e1, e2, e3⟩ := h1
  have h2 := ai_all ai_KL_ok hx
  unfold ai_kl1 at h2
  rw [e1, e2, e3] at h2
  exact ai_at_in h2
theorem s_ldc : ai_Snd ai_const (fun _ _ c _ => (.ldc c, 2)) (fun m _ _ c z => ai_KL.any (fun e => e.1 == ai_mo m && (e.2.1 == c && decide (e.2.2.1 = z)))) := by
  intro bA base dC dI ca S p l e R s m args below meth c Q k n0 z0 pc a b d z ls st h ls' st' h' C hd hok hf hb hG H locs lsC hl hw
  obtain ⟨hx, hb1, hown, hts, hK, hX, hbl, hn0, hini, hfr, hlo⟩ := C
  cases hf
  exact lv_ldc hx hb1 hown (hts _ (ai_kl_of hok)) hd (hG H locs lsC hl hw)
theorem s_ldcw : ai_Snd ai_const (fun _ _ c _ => (.ldc_w c, 3)) (fun m _ _ c z => ai_KL.any (fun e => e.1 == ai_mo m && (e.2.1 == c && decide (e.2.2.1 = z)))) := by
  intro bA base dC dI ca S p l e R s m args below meth c Q k n0 z0 pc a b d z ls st h ls' st' h' C hd hok hf hb hG H locs lsC hl hw
  obtain ⟨hx, hb1, hown, hts, hK, hX, hbl, hn0, hini, hfr, hlo⟩ := C
  cases hf
  exact lv_ldcw hx hb1 hown (hts _ (ai_kl_of hok)) hd (hG H locs lsC hl hw)
theorem s_ldc2 : ai_Snd ai_lcon (fun _ _ c _ => (.ldc2_w c, 3)) (fun m _ _ c z => ai_JL.any (fun e => e.1 == ai_mo m && (e.2.1 == c && decide (e.2.2.1 = z)))) := by
  intro bA base dC dI ca S p l e R s m args below meth c Q k n0 z0 pc a b d z ls st h ls' st' h' C hd hok hf hb hG H locs lsC hl hw
  obtain ⟨hx, hb1, hown, hts, hK, hX, hbl, hn0, hini, hfr, hlo⟩ := C
  cases hf
  obtain ⟨x, hx2, h1⟩ := List.any_eq_true.mp hok
  simp only [Bool.and_eq_true, beq_iff_eq, decide_eq_true_eq] at h1
  obtain ⟨e1, e2, e3⟩ := h1
  have h2 := ai_all ai_JL_ok hx2
  unfold ai_jl1 at h2
  rw [e1, e2, e3] at h2
  exact lv_ldc2 hx hb1 hown (hts _ (ai_at_in h2)) hd (hG H locs lsC hl hw)
-- Object.<init>, Math.min, Math.max
theorem ai_wl_of : Cond.arrayClass .int ∈ ai_TB ∧ Cond.arrayClass .boolean ∈ ai_TB ∧ Cond.instanceMethod objectInit ∈ ai_TB ∧ Cond.code objectInit ⟨#[0xb1]⟩ 1 none ∈ ai_TB := by
  have h := ai_WL_ok
  simp only [Bool.and_eq_true] at h
  exact ⟨ai_at_in h.1, ai_at_in h.2.1, ai_at_in h.2.2.1, ai_at_in h.2.2.2⟩
theorem s_obj : ai_Snd ai_obj (fun _ _ c _ => (.invokespecial c, 3)) (fun m _ _ c _ => ai_OL.any (fun e => e.1 == ai_mo m && e.2.1 == c) && decide (1 ≤ ai_fr m ∧ 20 ≤ ai_lo m)) := by
  intro bA base dC dI ca S p l e R s m args below meth c Q k n0 z0 pc a b d z ls st h ls' st' h' C hd hok hf hb hG H locs lsC hl hw
  obtain ⟨hx, hb1, hown, hts, hK, hX, hbl, hn0, hini, hfr, hlo⟩ := C
  simp only [Bool.and_eq_true, decide_eq_true_eq] at hok
  obtain ⟨x, hx2, h1⟩ := List.any_eq_true.mp hok.1
  simp only [Bool.and_eq_true, beq_iff_eq] at h1
  have h2 := ai_all ai_OL_ok hx2
  unfold ai_ol1 at h2
  rw [h1.1, h1.2] at h2
  unfold ai_obj at hf
  split at hf
  · rename_i q st0
    split at hf
    · rename_i hsum
      cases hf
      have hsum2 : (((st').map (ai_cv bA base)).map fun v => v.category).sum ≤ 8 := by
        rw [List.map_map]
        have : ((fun v => v.category) ∘ ai_cv bA base) = fun v : Value => v.category := by funext v; exact ai_cv_cat bA base v
        rw [this]
        exact hsum
      refine W.objInit hx hb1 hown (hts _ (ai_at_in h2)) (hts _ ai_wl_of.2.2.1) (hts _ ai_wl_of.2.2.2) rfl ?_ rfl hd (Nat.le_trans hok.2.1 hfr) ?_ (hG H locs lsC hl hw)
      · show lsC.size = c.maxLocals
        rw [hl.2.2.1, hl.1]
      · have h3 := lv_room (m := m) (pc := pc) (ls := lsC) (rest := (Value.ref q :: st').map (ai_cv bA base)) hsum2
        have h4 := hok.2.2
        omega
    · cases hf
  · cases hf
theorem ai_catsum (bA base : Nat) (st : List Value) : (((st).map (ai_cv bA base)).map fun v => v.category).sum = (st.map fun v => v.category).sum := by
  rw [List.map_map]
  have : ((fun v => v.category) ∘ ai_cv bA base) = fun v : Value => v.category := by funext v; exact ai_cv_cat bA base v
  rw [this]
theorem ai_yl_of : Cond.static Lib.Math.min.name ∈ ai_TB ∧ Cond.static Lib.Math.max.name ∈ ai_TB ∧ Cond.initialized "java/lang/Math" ∈ ai_TB := by
  have h := ai_YL_ok
  simp only [Bool.and_eq_true] at h
  exact ⟨ai_at_in h.1, ai_at_in h.2.1, ai_at_in h.2.2⟩
theorem ai_xl_of {m c j : Nat} (h : ai_XL.any (fun e => e.1 == ai_mo m && (e.2.1 == c && e.2.2.1 == j)) = true) : Cond.methodLink (ai_own (ai_mo m)) c (if j = 0 then Lib.Math.min.name else Lib.Math.max.name) ∈ ai_TB := by
  obtain ⟨x, hx, h1⟩ := List.any_eq_true.mp h
  simp only [Bool.and_eq_true, beq_iff_eq] at h1
  obtain ⟨e1, e2, e3⟩ := h1
  have h2 := ai_all ai_XL_ok hx
  unfold ai_xl1 at h2
  rw [e1, e2, e3] at h2
  exact ai_at_in h2
theorem ai_cwm : Cond.code Lib.Math.min.name Lib.Math.min.code 2 (some .int) ∈ ai_TB ∧ Cond.code Lib.Math.max.name Lib.Math.max.code 2 (some .int) ∈ ai_TB :=
  ⟨List.mem_filter.mpr ⟨List.mem_of_getElem? ai_cw_min, rfl⟩, List.mem_filter.mpr ⟨List.mem_of_getElem? ai_cw_max, rfl⟩⟩
theorem s_min : ai_Snd (ai_mm (fun x y => if y < x then y else x)) (fun _ _ c _ => (.invokestatic c, 3)) (fun m _ _ c _ => ai_XL.any (fun e => e.1 == ai_mo m && (e.2.1 == c && e.2.2.1 == 0)) && decide (1 ≤ ai_fr m ∧ 20 ≤ ai_lo m)) := by
  intro bA base dC dI ca S p l e R s m args below meth c Q k n0 z0 pc a b d z ls st h ls' st' h' C hd hok hf hb hG H locs lsC hl hw
  obtain ⟨hx, hb1, hown, hts, hK, hX, hbl, hn0, hini, hfr, hlo⟩ := C
  simp only [Bool.and_eq_true, decide_eq_true_eq] at hok
  unfold ai_mm at hf
  split at hf
  · rename_i y x st0
    split at hf
    · rename_i hsum
      cases hf
      have h2 := ai_xl_of hok.1
      rw [if_pos rfl] at h2
      refine va_mmin hx hb1 (by rw [hl.2.2.1, hl.1]) hown (hts _ h2) (hts _ ai_yl_of.1) (hts _ ai_yl_of.2.2) (hts _ ai_cwm.1) (Nat.le_trans hok.2.1 hfr) ?_ hb.2.2.1 hb.2.2.2 hd (hG H locs lsC hl hw)
      rw [ai_catsum]
      omega
    · cases hf
  · cases hf
theorem s_max : ai_Snd (ai_mm (fun x y => if x < y then y else x)) (fun _ _ c _ => (.invokestatic c, 3)) (fun m _ _ c _ => ai_XL.any (fun e => e.1 == ai_mo m && (e.2.1 == c && e.2.2.1 == 1)) && decide (1 ≤ ai_fr m ∧ 20 ≤ ai_lo m)) := by
  intro bA base dC dI ca S p l e R s m args below meth c Q k n0 z0 pc a b d z ls st h ls' st' h' C hd hok hf hb hG H locs lsC hl hw
  obtain ⟨hx, hb1, hown, hts, hK, hX, hbl, hn0, hini, hfr, hlo⟩ := C
  simp only [Bool.and_eq_true, decide_eq_true_eq] at hok
  unfold ai_mm at hf
  split at hf
  · rename_i y x st0
    split at hf
    · rename_i hsum
      cases hf
      have h2 := ai_xl_of hok.1
      rw [if_neg (by decide)] at h2
      refine va_mmax hx hb1 (by rw [hl.2.2.1, hl.1]) hown (hts _ h2) (hts _ ai_yl_of.2.1) (hts _ ai_yl_of.2.2) (hts _ ai_cwm.2) (Nat.le_trans hok.2.1 hfr) ?_ hb.2.2.1 hb.2.2.2 hd (hG H locs lsC hl hw)
      rw [ai_catsum]
      omega
    · cases hf
  · cases hf
