/-! the law's body: from an answer of the interpreter to the walk that the claim owes -/
def R_law : String := "VelvetHandLaw"
def lw_P (b : Addr) (xs : List Int32) (args : Array Value) (s : State) : Prop := args = #[.ref b] ∧ s.IntsAt b xs ∧ xs.length ≤ 256 ∧ (Jvm.Cond.and given_1 narrow_1).before args s = true
def lw_Q (_ : Array Value) (s : State) (o : Outcome) (t : State) : Prop := o = .returned (some (.int 1)) ∧ Framed s o t [] 600000 7302250
def lw_Z (below : List Frame) (a : Array Value) (s : State) : State → Prop := fun t => ∃ o, t.status = .running ∧ Ended t below o ∧ lw_Q a s o t
/-- the law's own end, with 1 on the stack, nothing written that was there before, its room as the claim has it -/
theorem lw_ret {p : Program} {l : Launch} {e : Env} {s : State} {m : MethodId} {below : List Frame} {meth : Method} {c : Code} {b : Nat} (hx : p.tables.exec = Jvm.exec) (hb : c.code = code) (hr : meth.sig.returnType = ret) (hlocks : meth.locks = false) {pc : Nat} {H : Heap} {ls : Array Slot} (hdg : decode code pc = .ok (.ireturn, 1)) : W p l e room_1 s m #[Value.ref b] below meth c H [] 600000 7302250 (lw_Z below #[Value.ref b] s) (F0 m pc ls [.int 1]) := by
  intro T hT X
  obtain ⟨fs, hret, hrun, hended, hW, hframe⟩ := X.leave (v := some (.int 1)) (hlocks := hlocks) (fun h => by rw [hr] at h; cases h)
  have hmeth' : T.vm.method? m = some meth := X.method'
  refine ⟨T.setFrames fs, ?_, .returned (some (.int 1)), hrun, hended, rfl, ⟨_, rfl⟩, hW, hframe⟩
  jvm_step X.here [X.here.top, hx, hb, hdg, hmeth', hr, ret, narrow_b1]
  (try refine ⟨rfl, ?_⟩); (try refine ⟨rfl, ?_⟩)
  first | (intro acts; rw [hret _ acts rfl rfl rfl]) | rw [hret _ _ rfl rfl rfl]
  exact Steps.refl _
/-- what holds at the law's entry: the machine, the code, the tables' words (any of lw_tbl by 'hts w (by decide +kernel)'), the script of L ints xs at the cell b, what the Statement gives of the start (any of its parts by flat_of_before) -/
def lw_At (p : Program) (s : State) (m : MethodId) (meth : Method) (c : Code) (b L : Nat) (xs : Nat → Int32) : Prop :=
  p.tables.exec = Jvm.exec ∧ c.code = code ∧ meth.sig.returnType = ret ∧ c.maxLocals = 4 ∧ s.vm.findClass R_law = some m.cls ∧ (∀ w ∈ lw_tbl, w.before #[Value.ref b] s = true) ∧ va_X b L xs s s.heap ∧ b < s.heap.size ∧ meth.locks = false ∧ (Jvm.Cond.and given_1 narrow_1).before #[Value.ref b] s = true
theorem ai_NW_in : ai_NW.all (fun w => decide (w ∈ lw_tbl)) = true := by decide +kernel
theorem ai_AO_in : Cond.arrayOver (.object "VelvetHand$Moment") ∈ lw_tbl := by decide +kernel
theorem ai_onT {w : Cond} (h : ai_isN w = true) : w.onTables = true := by
  unfold ai_isN at h
  split at h
  · rfl
  · cases h
theorem ai_arrT {args : Array Value} {s : State} {ty : FieldType} (h : (Cond.arrayClass ty).before args s = true) (hra : ∀ cA : ClassId, s.vm.findClass ("[" ++ ty.toString) = some cA → va_RA s cA ty) : ∃ cA : ClassId, ArrOfT s cA ty ∧ va_RA s cA ty := by
  obtain ⟨cA, kA, comp, h1, h2, h3⟩ := Cond.arrayClass_spec h
  exact ⟨cA, fun n z => ⟨(fun k h => by cases h), kA, h2, comp, h3⟩, hra cA h1⟩
theorem ai_start_KK {b : Nat} {s : State} (hts : ∀ w ∈ lw_tbl, w.before #[Value.ref b] s = true) : ∃ (dC : Nat → ClassId) (dI : Nat → Nat → Nat) (ca : Nat → ClassId), ai_KK dC dI ca s := by
  have htb : ∀ w ∈ ai_TB, w.before #[Value.ref b] s = true := fun w h => hts w (ai_TB_in h)
  have hcl : ∀ ci, ∃ (cC : ClassId) (iS : Nat → Nat), ci < 7 → u_Kn s (ai_cl ci).1 (ai_cl ci).2.1 (ai_cl ci).2.2 cC iS := by
    intro ci
    by_cases h : ci < 7
    · obtain ⟨u1, u2, u3⟩ := ai_uws h
      obtain ⟨cC, iS, hk⟩ := u_known htb u1 (htb _ u2)
      exact ⟨cC, iS, fun _ => hk⟩
    · exact ⟨0, fun _ => 0, fun z => absurd z h⟩
  obtain ⟨c0, a1, a2⟩ := ai_arrT (htb _ ai_wl_of.1) (fun _ h => h)
  obtain ⟨c1, b1, b2⟩ := ai_arrT (htb _ ai_wl_of.2.1) (fun _ h => h)
  have hao : va_AO "VelvetHand$Moment" s := va_AO.of (hts _ ai_AO_in)
  obtain ⟨comp, c2, k2, d1, -, d3, d4, d5⟩ := Cond.arrayOver_spec hao
  refine ⟨fun ci => Classical.choose (hcl ci), fun ci => Classical.choose (Classical.choose_spec (hcl ci)), fun t => if t = 0 then c0 else if t = 1 then c1 else c2, ⟨fun k q hq => ?_, fun k q hq => ?_⟩, fun w hw => ?_, hao⟩
  · have hk : k < 7 := (List.getElem?_eq_some_iff.mp hq).1
    have h2 := Classical.choose_spec (Classical.choose_spec (hcl k)) hk
    rw [ai_vwCl hk] at hq
    cases hq
    exact h2
  · match k, hq with
    | 0, hq => cases hq; exact ⟨a1, a2⟩
    | 1, hq => cases hq; exact ⟨b1, b2⟩
    | 2, hq => cases hq; exact ⟨fun n z => ⟨(fun k h => by cases h), k2, d3, comp, d4⟩, k2, comp, d3, d4, d1, d5⟩
    | k + 3, hq => cases hq
  · exact va_Nw.of (ai_onT (ai_all ai_NW_is hw)) (hts w (of_decide_eq_true (ai_all ai_NW_in hw)))
theorem ai_law_c : ai_c 139 = code := rfl
theorem ai_law_o : ai_own (ai_mo 139) = R_law := rfl
theorem ai_law_ml : ai_ml 139 = 4 := rfl
theorem ai_law_rt : ai_rt 139 = some .boolean := rfl
theorem ai_law_fr : ai_fr 139 ≤ room_1.frames ∧ ai_lo 139 ≤ room_1.locals := by decide
set_option maxRecDepth 100000 in
theorem ai_whole {p : Program} {e : Env} {s : State} {m : MethodId} {below : List Frame} {meth : Method} {c : Code} (l : Launch) {b L : Nat} {xs : Nat → Int32} (C0 : lw_At p s m meth c b L xs) {n : Nat} {h' : ai_H} (hrun : ai_run (L, xs) n 139 0 (ai_init 139 [.ref 0]) [] [] = some (some (.int 1), h')) (hsz : h'.length ≤ 600000 ∧ ai_sz h' ≤ 7302250) :
    W p l e room_1 s m #[Value.ref b] below meth c s.heap [] 0 0 (lw_Z below #[Value.ref b] s) (entryFrame m ([Value.ref b] : List Value).toArray 4) := by
  obtain ⟨hx, hb, hr, hml, hown, hts, hX, hbl, hlocks, hgv⟩ := C0
  obtain ⟨dC, dI, ca, hK⟩ := ai_start_KK hts
  have C : ai_CX b s.heap.size dC dI ca (L, xs) p room_1 s m #[Value.ref b] meth c 139 0 := ⟨hx, by rw [ai_law_c]; exact hb, by rw [ai_law_o]; exact hown, fun w hw => hts w (ai_TB_in hw), hK, hX, hbl, rfl, (fun z => by cases z), ai_law_fr.1, ai_law_fr.2⟩
  have hE : ai_Ex b s.heap.size dC dI ca p l e room_1 s m #[Value.ref b] below meth c (lw_Z below #[Value.ref b] s) 139 0 0 (some (.int 1)) h' := by
    intro rk pc b1 b2 x y tbl st h hrk hf hc H locs lsC hw hh
    subst hh
    match rk, hf, hc with
    | 0, hf, hc =>
      have hc2 : (ai_dec 139 pc .ireturn 1 && decide (ai_rt 139 = some .int)) = true := hc
      rw [Bool.and_eq_true] at hc2
      have := of_decide_eq_true hc2.2
      rw [ai_law_rt] at this
      cases this
    | 1, hf, hc =>
      have hc2 : (ai_dec 139 pc .ireturn 1 && decide (ai_rt 139 = some .boolean)) = true := hc
      rw [Bool.and_eq_true] at hc2
      have hd := ai_dec_of hc2.1
      rw [ai_law_c] at hd
      obtain ⟨i, rfl, e1, hi⟩ := ai_ret1 hf
      cases e1
      refine va_forget hw.2.2.2 (W.widen (k := 600000) (n := 7302250) (by omega) (by omega) ?_)
      exact lw_ret hx hb hr hlocks hd
    | 2, hf, hc =>
      obtain ⟨i, rfl, e1⟩ := ai_ret2 hf
      cases e1
    | 3, hf, hc =>
      rcases ai_ret3 hf with ⟨q, rfl, e1⟩ | ⟨rfl, e1⟩ <;> cases e1
    | 4, hf, hc =>
      obtain ⟨rfl, e1⟩ := ai_ret4 hf
      cases e1
    | rk + 5, hf, hc => omega
  have G := @ai_all_Pn (L, xs) l b s.heap.size dC dI ca hbl n _ _ _ _ _ _ _ _ _ _ _ _ _ _ _ (by decide) C (by show h'.length - 0 ≤ 600000 ∧ ai_sz h' - 0 ≤ 7302250; omega) hE 0 (ai_init 139 [.ref 0]) [] [] hrun ⟨Nat.le_refl _, Nat.zero_le _⟩
  have hL := ai_entry (bA := b) (base := s.heap.size) (c := c) (k := 139) (as := [.ref 0]) (by rw [hml]; rfl) (by decide) (fun w hw => by rw [List.mem_singleton.mp hw]; rfl)
  have g := G s.heap [] _ hL ⟨fun k q h => by simp [ai_cw] at h, va_S.rf⟩
  rw [(ai_ckm_of (k := 139) (by decide)).2.1] at g
  rw [lg_entry_eq]
  exact g
