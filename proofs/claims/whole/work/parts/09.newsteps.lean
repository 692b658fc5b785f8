/-! the steps that make cells; all steps together -/
theorem ai_size {bA base : Nat} {dC : Nat → ClassId} {dI : Nat → Nat → Nat} {ca : Nat → ClassId} {p : Program} {l : Launch} {e : Env} {R : Room} {s : State} {m : MethodId} {args : Array Value} {below : List Frame} {meth : Method} {c : Code} {Q : State → Prop} {n0 slots : Nat} {h : ai_H} {H : Heap} {locs : List Loc} {g : JFrame}
    (hn0 : s.heap.size = base + n0) (hle : n0 ≤ h.length) (hw : ai_Wd bA base dC dI ca s h H locs) (kk : H.size = base + h.length → W p l e R s m args below meth c H locs (h.length - n0) slots Q g) : W p l e R s m args below meth c H locs (h.length - n0) slots Q g := by
  intro T hT X
  refine kk ?_ T hT X
  obtain ⟨-, h2, h1, -⟩ := X.same
  have e1 : (T.setVm s.vm).heap = H := hT
  rw [e1] at h1 h2
  by_cases hz : h.length = 0
  · omega
  · have hk : h.length - 1 < h.length := by omega
    have h3 := ai_cw_at (bA := bA) (base := base) (ca := ca) (List.getElem?_eq_getElem hk)
    have h4 := (hw.1 _ _ h3).lt
    dsimp only at h4
    omega
abbrev ai_xI (t n : Nat) : va_E := .inl (t, n, .inl (fun _ => 0))
abbrev ai_xR (n : Nat) : va_E := .inl (2, n, .inr (.inr (.inr (.inr (fun _ => none)))))
abbrev ai_xO (a : Nat) : va_E := .inr (a, ai_fresh a)
theorem ai_newa_G {bA base : Nat} {dC : Nat → ClassId} {dI : Nat → Nat → Nat} {ca : Nat → ClassId} {S : ai_S} {p : Program} {l : Launch} {e : Env} {R : Room} {s : State} {m : MethodId} {args : Array Value} {below : List Frame} {meth : Method} {c : Code} {Q : State → Prop} {k n0 z0 pc : Nat} {ls st : List Value} {h : ai_H} {n : Int32}
    (C : ai_CX bA base dC dI ca S p R s m args meth c k n0) (t : Nat) (aty : ArrayType) (hty : (ai_tys ca)[t]? = some (ca t, newarray.typeOf aty)) (harr : Cond.arrayClass (newarray.typeOf aty) ∈ ai_TB) (hra : ∀ (U : State) (cA : ClassId), va_RA U cA (newarray.typeOf aty) → U.vm.findClass ("[" ++ (newarray.typeOf aty).toString) = some cA) (hdv : defaultValue (newarray.typeOf aty) = .int 0) (hcb : componentBytes (newarray.typeOf aty) ≤ 8)
    (hd : decode (ai_c k) pc = .ok (.newarray aty, 2)) (hn : ¬ (n < 0 ∨ 1000 < n.toNatClampNeg)) (hb : n0 ≤ h.length ∧ z0 ≤ ai_sz h ∧ (h ++ [ai_xI t n.toNatClampNeg]).length - n0 ≤ R.cells ∧ ai_sz (h ++ [ai_xI t n.toNatClampNeg]) - z0 ≤ R.slots)
    (hG : ai_G bA base dC dI ca p l e R s m args below meth c Q n0 z0 (pc + 2) ls (.ref (h.length + 1) :: st) (h ++ [ai_xI t n.toNatClampNeg])) : ai_G bA base dC dI ca p l e R s m args below meth c Q n0 z0 pc ls (.int n :: st) h := by
  intro H locs lsC hl hw
  obtain ⟨hx, hb1, hown, hts, hK, hX, hbl, hn0, hini, hfr, hlo⟩ := C
  obtain ⟨b1, b2, b3, b4⟩ := hb
  rw [List.length_append, List.length_singleton] at b3
  rw [ai_sz_app] at b4
  change ai_sz h + n.toNatClampNeg - z0 ≤ R.slots at b4
  refine ai_size hn0 b1 hw (fun hsz => ?_)
  refine va_newaK hx hb1 (hts _ harr) (g := F0 m pc lsC (.int n :: st.map (ai_cv bA base))) rfl hd rfl (fun z => hn (Or.inl z)) rfl ?_ (by omega) (by omega) hsz (fun H1 cA e1 z1 o1 hAr hNm => ?_)
  · have h9 : n.toNatClampNeg ≤ 1000 := Nat.le_of_not_lt (fun z => hn (Or.inr z))
    have h10 := Nat.mul_le_mul h9 hcb
    exact Nat.le_trans h10 (by decide)
  · have hca : cA = ca t := by
      have h5 := hra s (ca t) (hK.1.2 t _ hty).2
      rw [hNm] at h5
      exact Option.some.inj h5
    subst hca
    have hk : ∀ (j : Nat) (x : Nat × va_E), (ai_cw bA base ca h)[j]? = some x → H1[x.1]? = H[x.1]? := fun j x hx => o1 x.1 (by rw [← hsz]; exact (hw.1 j x hx).lt)
    refine W.cs (cells' := (h ++ [ai_xI t n.toNatClampNeg]).length - n0) (slots' := ai_sz (h ++ [ai_xI t n.toNatClampNeg]) - z0) (by rw [List.length_append, List.length_singleton]; omega) (by rw [ai_sz_app]; show ai_sz h - z0 + n.toNatClampNeg = ai_sz h + n.toNatClampNeg - z0; omega) ?_
    refine hG H1 locs lsC hl ⟨?_, ?_, fun q h1 h2 => ?_, hw.2.2.2⟩
    · rw [ai_cw_app]
      refine (hw.1.kept hk).app (fun j x hx => ?_)
      have hz : j < 1 := (List.getElem?_eq_some_iff.mp hx).1
      rw [show j = 0 by omega] at hx
      cases hx
      show H1[base + h.length]? = some (arrV (ca t) n.toNatClampNeg (fun _ => .int 0))
      rw [hdv] at e1
      exact e1
    · have := hw.2.1
      omega
    · have h7 := hw.2.1
      rw [o1 q (by omega)]
      exact hw.2.2.1 q h1 h2
theorem s_newi : ai_Snd (ai_newa 0) (fun _ _ _ _ => (.newarray .int, 2)) ai_okT := by
  intro bA base dC dI ca S p l e R s m args below meth c Q k n0 z0 pc a b d z ls st h ls' st' h' C hd hok hf hb hG
  unfold ai_newa at hf
  split at hf
  · split at hf
    · cases hf
    · rename_i hn
      cases hf
      exact ai_newa_G C 0 .int rfl ai_wl_of.1 (fun _ _ h => h) rfl (by decide) hd hn hb hG
  · cases hf
theorem s_newz : ai_Snd (ai_newa 1) (fun _ _ _ _ => (.newarray .boolean, 2)) ai_okT := by
  intro bA base dC dI ca S p l e R s m args below meth c Q k n0 z0 pc a b d z ls st h ls' st' h' C hd hok hf hb hG
  unfold ai_newa at hf
  split at hf
  · split at hf
    · cases hf
    · rename_i hn
      cases hf
      exact ai_newa_G C 1 .boolean rfl ai_wl_of.2.1 (fun _ _ h => h) rfl (by decide) hd hn hb hG
  · cases hf
theorem ai_nl_of {m c a : Nat} (h : ai_NL.any (fun e => e.1 == ai_mo m && (e.2.1 == c && e.2.2.1 == a)) = true) : a < 7 ∧ Cond.classLink (ai_own (ai_mo m)) c (ai_cl a).1 ∈ ai_TB := by
  obtain ⟨x, hx, h1⟩ := List.any_eq_true.mp h
  simp only [Bool.and_eq_true, beq_iff_eq] at h1
  obtain ⟨e1, e2, e3⟩ := h1
  have h2 := ai_all ai_NL_ok hx
  unfold ai_nl1 at h2
  rw [e1, e2, e3] at h2
  simp only [Bool.and_eq_true, decide_eq_true_eq] at h2
  exact ⟨h2.1, ai_at_in h2.2⟩
theorem s_newr : ai_Snd ai_newr (fun _ _ c _ => (.anewarray c, 3)) (fun m _ _ c _ => ai_NL.any (fun e => e.1 == ai_mo m && (e.2.1 == c && e.2.2.1 == 1))) := by
  intro bA base dC dI ca S p l e R s m args below meth c Q k n0 z0 pc a b d z ls st h ls' st' h' C hd hok hf hb hG
  unfold ai_newr at hf
  split at hf
  · rename_i n st0
    split at hf
    · cases hf
    · rename_i hn
      cases hf
      intro H locs lsC hl hw
      obtain ⟨hx, hb1, hown, hts, hK, hX, hbl, hn0, hini, hfr, hlo⟩ := C
      obtain ⟨b1, b2, b3, b4⟩ := hb
      rw [List.length_append, List.length_singleton] at b3
      rw [ai_sz_app] at b4
      change ai_sz h + n.toNatClampNeg - z0 ≤ R.slots at b4
      have h9 : n.toNatClampNeg ≤ 1000 := Nat.le_of_not_lt (fun z => hn (Or.inr z))
      refine ai_size hn0 b1 hw (fun hsz => ?_)
      refine W.anew hx hb1 hown (hts _ (ai_nl_of hok).2) (va_AO.use hK.2.2) (g := F0 m pc lsC (.int n :: st0.map (ai_cv bA base))) rfl hd rfl (fun z => hn (Or.inl z)) (by omega) (by omega) (by omega) (fun cA kA comp f1 f2 f3 f4 => ?_)
      have hca : cA = ca 2 := by
        have h5 : va_RA s (ca 2) (.object "VelvetHand$Moment") := (hK.1.2 2 _ rfl).2
        obtain ⟨_, _, -, -, -, h6⟩ := h5
        exact Option.some.inj (f1.symm.trans h6)
      subst hca
      generalize hH1 : H.push ({ cls := ca 2, slots := Array.replicate n.toNatClampNeg .null, vm := .none } : Cell) = H1
      have z1 : H1.size = H.size + 1 := by rw [← hH1, Array.size_push]
      have e1 : H1[H.size]? = some (arrV (ca 2) n.toNatClampNeg (fun _ => .null)) := by rw [← hH1, Array.getElem?_push_size, ← arrV_new]
      have o1 : ∀ q : Nat, q < H.size → H1[q]? = H[q]? := fun q hq => by rw [← hH1, Array.getElem?_push, if_neg (Nat.ne_of_lt hq)]
      have hk : ∀ (j : Nat) (x : Nat × va_E), (ai_cw bA base ca h)[j]? = some x → H1[x.1]? = H[x.1]? := fun j x hx => o1 x.1 ((hw.1 j x hx).lt)
      refine W.cs (cells' := (h ++ [ai_xR n.toNatClampNeg]).length - n0) (slots' := ai_sz (h ++ [ai_xR n.toNatClampNeg]) - z0) (by rw [List.length_append, List.length_singleton]; omega) (by rw [ai_sz_app]; show ai_sz h - z0 + n.toNatClampNeg = ai_sz h + n.toNatClampNeg - z0; omega) ?_
      refine W.eq (g2 := F0 m (pc + 3) lsC ((Value.ref (h.length + 1) :: st0).map (ai_cv bA base))) (by show F0 m (pc + 3) lsC (.ref H.size :: st0.map (ai_cv bA base)) = _; rw [hsz]; rfl) ?_
      refine hG H1 locs lsC hl ⟨?_, ?_, fun q h1 h2 => ?_, hw.2.2.2⟩
      · rw [ai_cw_app]
        refine (hw.1.kept hk).app (fun j x hx => ?_)
        have hz : j < 1 := (List.getElem?_eq_some_iff.mp hx).1
        rw [show j = 0 by omega] at hx
        cases hx
        show H1[base + h.length]? = some (arrV (ca 2) n.toNatClampNeg (fun _ => .null))
        rw [← hsz]
        exact e1
      · have := hw.2.1
        omega
      · have h7 := hw.2.1
        rw [o1 q (by omega)]
        exact hw.2.2.1 q h1 h2
  · cases hf
theorem ai_fresh_map (bA base : Nat) {ci : Nat} (h : ci < 7) : (ai_fresh ci).map (ai_cv bA base) = ai_fresh ci := by
  match ci, h with
  | 0, _ => rfl
  | 1, _ => rfl
  | 2, _ => rfl
  | 3, _ => rfl
  | 4, _ => rfl
  | 5, _ => rfl
  | 6, _ => rfl
theorem ai_fresh_ok : ∀ ci, ci < 7 → (ai_fresh ci).length = (ai_cl ci).2.2 ∧ ∀ j, j < (ai_cl ci).2.2 → defaultValue (ai_fty ci j) = vp_V (ai_fresh ci) j := by decide +kernel
theorem s_newo : ai_Snd ai_newo (fun _ _ c _ => (.new c, 3)) (fun m a _ c _ => ai_NL.any (fun e => e.1 == ai_mo m && (e.2.1 == c && e.2.2.1 == a))) := by
  intro bA base dC dI ca S p l e R s m args below meth c Q k n0 z0 pc a b d z ls st h ls' st' h' C hd hok hf hb hG
  unfold ai_newo at hf
  cases hf
  intro H locs lsC hl hw
  obtain ⟨hx, hb1, hown, hts, hK, hX, hbl, hn0, hini, hfr, hlo⟩ := C
  obtain ⟨b1, b2, b3, b4⟩ := hb
  obtain ⟨f1, f2⟩ := ai_nl_of hok
  obtain ⟨g1, g2⟩ := ai_fresh_ok a f1
  obtain ⟨u1, u2, u3⟩ := ai_uws f1
  rw [List.length_append, List.length_singleton] at b3
  rw [ai_sz_app] at b4
  change ai_sz h + (ai_fresh a).length - z0 ≤ R.slots at b4
  rw [g1] at b4
  have hKn := hK.1.1 a _ (ai_vwCl f1)
  refine ai_size hn0 b1 hw (fun hsz => ?_)
  refine W.newcK hx hb1 hown (hts _ f2) (hts _ u2) (hts _ u3) (g := F0 m pc lsC (st.map (ai_cv bA base))) rfl hd (by omega) (by omega) hKn.2.1 hsz (fun H1 kC hkC e1 z1 o1 => ?_)
  have hk : ∀ (j : Nat) (x : Nat × va_E), (ai_cw bA base ca h)[j]? = some x → H1[x.1]? = H[x.1]? := fun j x hx => o1 x.1 (by rw [← hsz]; exact (hw.1 j x hx).lt)
  refine W.cs (cells' := (h ++ [ai_xO a]).length - n0) (slots' := ai_sz (h ++ [ai_xO a]) - z0) (by rw [List.length_append, List.length_singleton]; omega) (by rw [ai_sz_app]; show ai_sz h - z0 + (ai_cl a).2.2 = ai_sz h + (ai_fresh a).length - z0; omega) ?_
  refine hG H1 locs lsC hl ⟨?_, ?_, fun q h1 h2 => ?_, hw.2.2.2⟩
  · rw [ai_cw_app]
    refine (hw.1.kept hk).app (fun j x hx => ?_)
    have hz : j < 1 := (List.getElem?_eq_some_iff.mp hx).1
    rw [show j = 0 by omega] at hx
    cases hx
    refine ⟨_, ai_vwCl f1, ?_⟩
    show t_OB (base + h.length) (dC a) (ai_cl a).2.2 (dI a) H1 (vp_V ((ai_fresh a).map (ai_cv bA base)))
    rw [ai_fresh_map bA base f1]
    exact (u_born (ai_fty a) hts u1 hKn hkC e1 (ai_tyok f1)).to g2
  · have := hw.2.1
    omega
  · have h7 := hw.2.1
    rw [o1 q (by omega)]
    exact hw.2.2.1 q h1 h2
theorem ai_snd : ∀ (i : Nat) (f : ai_O) (en : Nat → Nat → Nat → Int32 → Instr × Nat) (ok : ai_Ok), ai_ops[i]? = some f → ai_encs[i]? = some en → ai_oks[i]? = some ok → ai_Snd f en ok := by
  intro i f en ok h1 h2 h3
  match i with
  | 0 => cases h1; cases h2; cases h3; exact @s_iconst
  | 1 => cases h1; cases h2; cases h3; exact @s_bipush
  | 2 => cases h1; cases h2; cases h3; exact @s_sipush
  | 3 => cases h1; cases h2; cases h3; exact @s_iload_n
  | 4 => cases h1; cases h2; cases h3; exact @s_iload
  | 5 => cases h1; cases h2; cases h3; exact @s_aload_n
  | 6 => cases h1; cases h2; cases h3; exact @s_istore_n
  | 7 => cases h1; cases h2; cases h3; exact @s_istore
  | 8 => cases h1; cases h2; cases h3; exact @s_astore_n
  | 9 => cases h1; cases h2; cases h3; exact @s_iinc
  | 10 => cases h1; cases h2; cases h3; exact @s_iadd
  | 11 => cases h1; cases h2; cases h3; exact @s_isub
  | 12 => cases h1; cases h2; cases h3; exact @s_imul
  | 13 => cases h1; cases h2; cases h3; exact @s_iand
  | 14 => cases h1; cases h2; cases h3; exact @s_ior
  | 15 => cases h1; cases h2; cases h3; exact @s_ishl
  | 16 => cases h1; cases h2; cases h3; exact @s_ishr
  | 17 => cases h1; cases h2; cases h3; exact @s_iushr
  | 18 => cases h1; cases h2; cases h3; exact @s_idiv
  | 19 => cases h1; cases h2; cases h3; exact @s_irem
  | 20 => cases h1; cases h2; cases h3; exact @s_dup
  | 21 => cases h1; cases h2; cases h3; exact @s_dup2
  | 22 => cases h1; cases h2; cases h3; exact @s_pop
  | 23 => cases h1; cases h2; cases h3; exact @s_get
  | 24 => cases h1; cases h2; cases h3; exact @s_putI
  | 25 => cases h1; cases h2; cases h3; exact @s_putZ
  | 26 => cases h1; cases h2; cases h3; exact @s_putJ
  | 27 => cases h1; cases h2; cases h3; exact @s_putR false
  | 28 => cases h1; cases h2; cases h3; exact @s_putR true
  | 29 => cases h1; cases h2; cases h3; exact @s_iald
  | 30 => cases h1; cases h2; cases h3; exact @s_iast
  | 31 => cases h1; cases h2; cases h3; exact @s_bald
  | 32 => cases h1; cases h2; cases h3; exact @s_bast
  | 33 => cases h1; cases h2; cases h3; exact @s_aald
  | 34 => cases h1; cases h2; cases h3; exact @s_aast
  | 35 => cases h1; cases h2; cases h3; exact @s_len
  | 36 => cases h1; cases h2; cases h3; exact @s_newi
  | 37 => cases h1; cases h2; cases h3; exact @s_newz
  | 38 => cases h1; cases h2; cases h3; exact @s_newr
  | 39 => cases h1; cases h2; cases h3; exact @s_newo
  | 40 => cases h1; cases h2; cases h3; exact @s_ldc
  | 41 => cases h1; cases h2; cases h3; exact @s_ldcw
  | 42 => cases h1; cases h2; cases h3; exact @s_ldc2
  | 43 => cases h1; cases h2; cases h3; exact @s_lcon trivial
  | 44 => cases h1; cases h2; cases h3; exact @s_ladd
  | 45 => cases h1; cases h2; cases h3; exact @s_lcmp
  | 46 => cases h1; cases h2; cases h3; exact @s_null
  | 47 => cases h1; cases h2; cases h3; exact @s_obj
  | 48 => cases h1; cases h2; cases h3; exact @s_min
  | 49 => cases h1; cases h2; cases h3; exact @s_max
  | i + 50 => cases h1
