/-! contracts of the methods, and the calls -/
def ai_isN (w : Cond) : Bool := match w with
  | .methodLinkNest _ _ _ _ => true
  | _ => false
theorem ai_NW_is : ai_NW.all ai_isN = true := by decide +kernel
theorem ai_KK.warm {dC : Nat → ClassId} {dI : Nat → Nat → Nat} {ca : Nat → ClassId} {s U : State} (hW : s.WarmedH U.vm) (h : ai_KK dC dI ca s) : ai_KK dC dI ca U := by
  refine ⟨h.1.moved hW.alike, fun w hw => ?_, h.2.2.moved hW.alike⟩
  have h1 := ai_all ai_NW_is hw
  have h2 := h.2.1 w hw
  unfold ai_isN at h1
  split at h1
  · exact va_Nw.warmM hW h2
  · cases h1
theorem ai_KK.same {dC : Nat → ClassId} {dI : Nat → Nat → Nat} {ca : Nat → ClassId} {s U : State} (hv : s.vm = U.vm) (h : ai_KK dC dI ca s) : ai_KK dC dI ca U := by
  have ha : s.vm.Alike U.vm := by rw [hv]; exact Vm.Alike.refl _
  refine ⟨h.1.moved ha, fun w hw => ?_, h.2.2.moved ha⟩
  have h1 := ai_all ai_NW_is hw
  have h2 := h.2.1 w hw
  unfold ai_isN at h1
  split at h1
  · exact va_Nw.same rfl hv h2
  · cases h1
def ai_Pc (bA base : Nat) (dC : Nat → ClassId) (dI : Nat → Nat → Nat) (ca : Nat → ClassId) (S : ai_S) (as : List Value) (h : ai_H) : Array Value → State → Prop :=
  va_Pc (as.map (ai_cv bA base)) (fun U => U.heap.size = base + h.length ∧ va_P (dC, dI) vwCl (ai_cw bA base ca h) U.heap ∧ ai_KK dC dI ca U ∧ va_X bA S.1 S.2 U U.heap)
def ai_Qc (bA base : Nat) (dC : Nat → ClassId) (dI : Nat → Nat → Nat) (ca : Nat → ClassId) (r : Option Value) (h' : ai_H) : Array Value → State → Outcome → State → Prop :=
  fun _ st o t => o = .returned (r.map (ai_cv bA base)) ∧ va_P (dC, dI) vwCl (ai_cw bA base ca h') t.heap ∧ va_F (fun q : Nat => base ≤ q) st t
def ai_rm (k mc ms : Nat) : Room := { frames := ai_fr k, cells := mc, slots := ms, locals := ai_lo k }
def ai_ws (k : Nat) : List Cond := .code (ai_y k) (ai_c k) (ai_ml k) (ai_rt k) :: ai_TB
def ai_Met (bA base : Nat) (dC : Nat → ClassId) (dI : Nat → Nat → Nat) (ca : Nat → ClassId) (S : ai_S) (l : Launch) (k : Nat) (as : List Value) (h : ai_H) (r : Option Value) (h' : ai_H) : Prop :=
  Met l (ai_y k) (ai_ws k) (ai_rm k (h'.length - h.length) (ai_sz h' - ai_sz h)) (ai_Pc bA base dC dI ca S as h) (ai_Qc bA base dC dI ca r h') (h'.length - h.length) (ai_sz h' - ai_sz h) (fun q : Nat => base ≤ q)
theorem ai_blind (bA base : Nat) (dC : Nat → ClassId) (dI : Nat → Nat → Nat) (ca : Nat → ClassId) (S : ai_S) (as : List Value) (h : ai_H) : FrameBlind (ai_Pc bA base dC dI ca S as h) := by
  intro a U g mk q
  obtain ⟨q1, q2, q3, q4, q5⟩ := q
  exact ⟨q1, q2, q3, ai_KK.same (s := U) (U := U.calling g mk a) rfl q4, va_X.moved (u := U) (U := U.calling g mk a) (Vm.Alike.refl U.vm) q5⟩
theorem ai_cat4 : ∀ (st : List Value), (st.map fun v => v.category).sum ≤ 2 * st.length
  | [] => Nat.le_refl _
  | v :: st => by
    have h := ai_cat4 st
    have h2 : v.category ≤ 2 := by unfold Value.category; split <;> omega
    rw [List.map_cons, List.sum_cons, List.length_cons]
    omega
/-- behind a call -/
theorem ai_after {bA base : Nat} {dC : Nat → ClassId} {dI : Nat → Nat → Nat} {ca : Nat → ClassId} {p : Program} {l : Launch} {e : Env} {R : Room} {s : State} {m : MethodId} {args : Array Value} {below : List Frame} {meth : Method} {c : Code} {Q : State → Prop} {cells slots mc ms pc : Nat} {h h' : ai_H} {H : Heap} {locs : List Loc} {lsC : Array Slot} {st0 rest : List Value} {v : Option Value} {a : Array Value}
    (hr : va_Run p l e R s m args below meth c H locs cells slots mc ms (F0 m pc lsC st0) (rest.map (ai_cv bA base)) (ai_Qc bA base dC dI ca v h' a) (fun q : Nat => base ≤ q)) (hw : ai_Wd bA base dC dI ca s h H locs)
    (kk : ∀ (H1 : Heap) (locs1 : List Loc), ai_Wd bA base dC dI ca s h' H1 locs1 → W p l e R s m args below meth c H1 locs1 (cells + mc) (slots + ms) Q (F0 m (pc + 3) lsC ((v.toList ++ rest).map (ai_cv bA base)))) : W p l e R s m args below meth c H locs cells slots Q (F0 m pc lsC st0) := by
  intro T hT X
  obtain ⟨v', st₀, t, T', L, h0, X', hL, e1, e2, ⟨hv, hP1, hz, hk⟩, st⟩ := hr T hT X
  have hv2 : v' = v.map (ai_cv bA base) := by injection hv
  subst hv2
  rw [h0] at hz hk
  have hS := hw.2
  obtain ⟨t2, a1, b1⟩ := kk T'.heap (locs ++ L) ⟨by rw [e1]; exact hP1, Nat.le_trans hS.1 (by rw [e1]; exact hz), fun q h1 h2 => by rw [e1, hk q (Nat.lt_of_lt_of_le h1 hS.1) h2]; exact hS.2.1 q h1 h2, fun q hq => by
      rcases List.mem_append.mp hq with h | h
      · exact hS.2.2 q h
      · exact hL q h⟩ T' rfl X'
  refine ⟨t2, st t2 ?_, b1⟩
  have e3 : (v.map (ai_cv bA base)).toList ++ rest.map (ai_cv bA base) = (v.toList ++ rest).map (ai_cv bA base) := by cases v <;> rfl
  rw [e3]
  exact a1
theorem ai_split_of : ∀ (n : Nat) (acc st as rest : List Value), ai_split n acc st = some (as, rest) → as.reverse ++ rest = acc.reverse ++ st ∧ as.length = n + acc.length
  | 0, acc, st, as, rest, h => by cases h; exact ⟨rfl, (Nat.zero_add _).symm⟩
  | n + 1, acc, [], as, rest, h => by cases h
  | n + 1, acc, v :: st, as, rest, h => by
    unfold ai_split at h
    obtain ⟨h1, h2⟩ := ai_split_of n (v :: acc) st as rest h
    refine ⟨?_, ?_⟩
    · rw [h1, List.reverse_cons, List.append_assoc]; rfl
    · rw [h2, List.length_cons]; omega
theorem ai_cal_ml : ai_CL.all (fun e => decide (e.2.2.2.2.1 ≤ ai_ml e.2.2.2.1)) = true := by decide +kernel
/-- what a call's check gives -/
theorem ai_ckc_of {m pc ck : Nat} {t : ai_T} {i : Nat → Instr} (h : ai_ckc m pc t ck i = true) : ∃ (x : Nat) (ws : List Nat), decode (ai_c m) pc = .ok (i x, 3) ∧ ai_pc m t.2.1 = pc + 3 ∧ (ai_mo m, x, ck, t.2.2.1, t.2.2.2.1, ws) ∈ ai_CL ∧ ai_fr t.2.2.1 + 1 ≤ ai_fr m ∧ 8 + (ai_ml t.2.2.1 + 11) + ai_lo t.2.2.1 ≤ ai_lo m := by
  unfold ai_ckc at h
  split at h
  · rename_i z x hx
    simp only [Bool.and_eq_true, decide_eq_true_eq] at h
    obtain ⟨h1, h2, h3, h4⟩ := h
    obtain ⟨y, hy, h5⟩ := List.any_eq_true.mp h3
    simp only [Bool.and_eq_true, beq_iff_eq] at h5
    obtain ⟨e1, e2, e3, e4, e5⟩ := h5
    obtain ⟨y1, y2, y3, y4, y5, y6⟩ := y
    dsimp only at e1 e2 e3 e4 e5
    subst e1; subst e2; subst e3; subst e4; subst e5
    exact ⟨_, y6, of_decide_eq_true h1, h2, hy, h4⟩
  · cases h
theorem ai_room {k : Nat} {R : Room} {j mc ms : Nat} (h1 : ai_fr j + 1 ≤ ai_fr k) (h2 : 8 + (ai_ml j + 11) + ai_lo j ≤ ai_lo k) (hfr : ai_fr k ≤ R.frames) (hlo : ai_lo k ≤ R.locals) : (ai_rm j mc ms).frames + 1 ≤ R.frames ∧ 8 + (ai_ml j + 11) + (ai_rm j mc ms).locals ≤ R.locals := ⟨Nat.le_trans h1 hfr, Nat.le_trans h2 hlo⟩
theorem ai_ws_in {k : Nat} (h : k < 139) : ∀ w ∈ ai_ws k, w ∈ ai_TB := by
  intro w hw
  rcases List.mem_cons.mp hw with h1 | h1
  · rw [h1]; exact ai_cd_all k h
  · exact h1
theorem ai_goodV {k : Nat} (h : k < 139) {a b c d : Cond} (h1 : a ∈ ai_TB) (h2 : b ∈ ai_TB) (h3 : c ∈ ai_TB) (h4 : d ∈ ai_TB) : ∀ w ∈ ([a, b, c, d] : List Cond) ++ ai_ws k, w ∈ ai_TB := by
  intro w hw
  rcases List.mem_append.mp hw with hw | hw
  · simp only [List.mem_cons, List.not_mem_nil, or_false] at hw
    rcases hw with rfl | rfl | rfl | rfl
    · exact h1
    · exact h2
    · exact h3
    · exact h4
  · exact ai_ws_in h w hw
def ai_inv (ck x : Nat) : Instr := match ck with
  | 0 => .invokevirtual x
  | 1 => .invokestatic x
  | 4 => .invokestatic x
  | _ => .invokespecial x
theorem ai_recv0 {ci : Nat} {as : List Value} {h : ai_H} (hr : ai_recv 0 ci as h = true) : ∃ (q : Nat) (as' : List Value), as = .ref q :: as' ∧ ai_io h q ci = true := by
  cases as with
  | nil => cases hr
  | cons v t => cases v <;> first | exact ⟨_, _, rfl, hr⟩ | cases hr
theorem ai_recv2 {ci : Nat} {as : List Value} {h : ai_H} (hr : ai_recv 2 ci as h = true) : ∃ (q : Nat) (as' : List Value), as = .ref q :: as' := by
  cases as with
  | nil => cases hr
  | cons v t => cases v <;> first | exact ⟨_, _, rfl⟩ | cases hr
theorem ai_recv5 {ci : Nat} {as : List Value} {h : ai_H} (hr : ai_recv 5 ci as h = true) : ∃ (q : Nat) (as' : List Value), as = .ref q :: as' := by
  cases as with
  | nil => cases hr
  | cons v t => cases v <;> first | exact ⟨_, _, rfl⟩ | cases hr
/-- a call by its kind: from the callee's contract to the run -/
theorem ai_runs {bA base : Nat} {dC : Nat → ClassId} {dI : Nat → Nat → Nat} {ca : Nat → ClassId} {S : ai_S} {p : Program} {l : Launch} {e : Env} {R : Room} {s : State} {m : MethodId} {args : Array Value} {below : List Frame} {meth : Method} {c : Code} {k n0 z0 pc x ck j n ci : Nat} {ws : List Nat} {as rest ls : List Value} {h h' : ai_H} {v : Option Value} {H : Heap} {locs : List Loc} {lsC : Array Slot}
    (C : ai_CX bA base dC dI ca S p R s m args meth c k n0) (hM : ai_Met bA base dC dI ca S l j as h v h') (hcl : (ai_mo k, x, ck, j, n, ws) ∈ ai_CL) (h1 : ai_fr j + 1 ≤ ai_fr k) (h2 : 8 + (ai_ml j + 11) + ai_lo j ≤ ai_lo k) (hl : ai_LR bA base c lsC ls) (hw : ai_Wd bA base dC dI ca s h H locs) (hsz : H.size = base + h.length)
    (hn : as.length = n) (hrest : rest.length ≤ 4) (hrec : ai_recv ck ci as h = true) (hci : ck = 0 → (ai_cl ci).1 = (ai_y j).cls ∧ ci < 7) (hle : ai_le h h') (hb : n0 ≤ h.length ∧ z0 ≤ ai_sz h ∧ h'.length - n0 ≤ R.cells ∧ ai_sz h' - z0 ≤ R.slots)
    (hd : decode (ai_c k) pc = .ok (ai_inv ck x, 3)) :
    ∃ a, va_Run p l e R s m args below meth c H locs (h.length - n0) (ai_sz h - z0) (h'.length - h.length) (ai_sz h' - ai_sz h) (F0 m pc lsC ((as.reverse ++ rest).map (ai_cv bA base))) (rest.map (ai_cv bA base)) (ai_Qc bA base dC dI ca v h' a) (fun q : Nat => base ≤ q) := by
  obtain ⟨hx, hb1, hown, hts, hK, hX, hbl, hn0, hini, hfr, hlo⟩ := C
  have hrow := ai_all ai_CL_ok hcl
  unfold ai_cl1 at hrow
  dsimp only at hrow
  simp only [Bool.and_eq_true] at hrow
  obtain ⟨r1, r2, r3, r4, r5⟩ := hrow
  have k2 : (ai_y j).cls ≠ "java/lang/invoke/MethodHandle" ∧ (ai_y j).cls ≠ "java/lang/invoke/VarHandle" := of_decide_eq_true r2
  have k3 := ai_at_in r3
  have k4 : j < 139 := of_decide_eq_true r4
  have CF : CallFix p m c (ai_c k) c.maxLocals s args ai_TB (ai_own (ai_mo k)) := ⟨hx, hb1, rfl, hown, hts⟩
  have hsize : (F0 m pc lsC ((as.reverse ++ rest).map (ai_cv bA base))).locals.size = c.maxLocals := by
    show lsC.size = c.maxLocals
    rw [hl.2.2.1, hl.1]
  have hroom : 2 * (F0 m pc lsC ((as.reverse ++ rest).map (ai_cv bA base))).monitorRoom + ((rest.map (ai_cv bA base)).map fun v => v.category).sum ≤ 8 := by
    refine lv_room ?_
    rw [ai_catsum]
    exact Nat.le_trans (ai_cat4 rest) (by omega)
  have hf : h.length - n0 + (h'.length - h.length) ≤ R.cells ∧ ai_sz h - z0 + (ai_sz h' - ai_sz h) ≤ R.slots := by
    have := hle.1
    have := hle.2
    omega
  have hR := ai_room (mc := h'.length - h.length) (ms := ai_sz h' - ai_sz h) h1 h2 hfr hlo
  have hpc : ∀ U : State, U.heap = H → s.WarmedH U.vm → ai_Pc bA base dC dI ca S as h (as.map (ai_cv bA base)).toArray U := by
    intro U hU hW
    refine ⟨rfl, by rw [hU]; exact hsz, by rw [hU]; exact hw.1, hK.warm hW, ?_⟩
    have h3 : va_X bA S.1 S.2 s H := hX.kept (hw.2.2.1 bA (by omega) (by show ¬ base ≤ bA; omega))
    rw [hU]
    exact h3.moved hW.alike
  have hstack0 : (F0 m pc lsC ((as.reverse ++ rest).map (ai_cv bA base))).stack = (as.map (ai_cv bA base)).reverse ++ rest.map (ai_cv bA base) := by
    show (as.reverse ++ rest).map (ai_cv bA base) = _
    rw [List.map_append, List.map_reverse]
  match ck, hrec, hci, r5, hd with
  | 0, hrec, hci, r5, hd =>
    obtain ⟨hci1, hci2⟩ := hci rfl
    simp only [Bool.and_eq_true, decide_eq_true_eq] at r5
    obtain ⟨w0, w1, w2, np, n1⟩ := r5
    have hrec2 := ai_recv0 hrec
    obtain ⟨q, as', rfl, hio⟩ := hrec2
    obtain ⟨jq, fs, rfl, hq⟩ := ai_io_of hio
    refine ⟨_, va_runV (As := as'.map (ai_cv bA base)) (b := base + jq) (ws := ai_ws j) (rm := ai_rm j (h'.length - h.length) (ai_sz h' - ai_sz h)) CF hM (cwV (ws' := ai_TB) (C := (ai_y j).cls) (n - 1) hts (ai_TB_good (ai_goodV k4 (ai_at_in w0) (ai_at_in w1) (ai_at_in w2) k3)) rfl rfl rfl ⟨rfl, k2.1, k2.2, np⟩ hR) ⟨ai_blind _ _ _ _ _ _ _ _, ?_, hpc⟩ rfl ?_ hsize ?_ hroom hd hf⟩
    · have h3 := va_recv hK.1 hw.1 (ai_vwCl hci2) (ai_cw_at hq)
      rw [← hci1]
      exact h3
    · rw [List.length_map]
      rw [List.length_cons] at hn
      omega
    · rw [hstack0, List.map_cons, List.reverse_cons, List.append_assoc]
      rfl
  | 1, hrec, hci, r5, hd =>
    simp only [Bool.and_eq_true, decide_eq_true_eq] at r5
    obtain ⟨w0, w1, np⟩ := r5
    exact ⟨_, va_runS (As := as.map (ai_cv bA base)) (ws := ai_ws j) (rm := ai_rm j (h'.length - h.length) (ai_sz h' - ai_sz h)) CF hM ⟨callB_of (ws' := ai_TB) n hts (ai_TB_good (ai_ws_in k4)) rfl rfl rfl (hts _ k3) (hts _ (ai_at_in w0)) ⟨k2.1, k2.2, np⟩ hR, hts _ (ai_at_in w1)⟩ ⟨ai_blind _ _ _ _ _ _ _ _, hpc⟩ rfl (by rw [List.length_map]; exact hn) hsize hstack0 hroom hd hf⟩
  | 2, hrec, hci, r5, hd =>
    simp only [Bool.and_eq_true, decide_eq_true_eq] at r5
    obtain ⟨w0, w1, np, n1, ny, nr⟩ := r5
    have hrec2 := ai_recv2 hrec
    obtain ⟨q, as', rfl⟩ := hrec2
    refine ⟨_, va_runI (As := as'.map (ai_cv bA base)) (b := ai_ad bA base q) (ws := ai_ws j) (rm := ai_rm j (h'.length - h.length) (ai_sz h' - ai_sz h)) CF hM (cwI (ws' := ai_TB) (n - 1) hts (ai_TB_good (ai_ws_in k4)) (by rw [← nr]; rfl) rfl rfl (hts _ k3) (hts _ (ai_at_in w0)) (hts _ (ai_at_in w1)) ny ⟨k2.1, k2.2, np⟩ hR) ⟨ai_blind _ _ _ _ _ _ _ _, hpc⟩ rfl ?_ hsize ?_ hroom hd hf⟩
    · rw [List.length_map]
      rw [List.length_cons] at hn
      omega
    · rw [hstack0, List.map_cons, List.reverse_cons, List.append_assoc]
      rfl
  | 4, hrec, hci, r5, hd =>
    simp only [Bool.and_eq_true, decide_eq_true_eq] at r5
    obtain ⟨w0, w1, np⟩ := r5
    exact ⟨_, va_runSN (host := RX5) (As := as.map (ai_cv bA base)) (ws := ai_ws j) (rm := ai_rm j (h'.length - h.length) (ai_sz h' - ai_sz h)) CF hM ⟨va_cnB (ws' := ai_TB) n hts (ai_TB_good (ai_ws_in k4)) rfl rfl rfl (hK.2.1 _ w0) (hts _ k3) ⟨k2.1, k2.2, np⟩ hR, hts _ (ai_at_in w1), trivial⟩ ⟨ai_blind _ _ _ _ _ _ _ _, hpc⟩ rfl (by rw [List.length_map]; exact hn) hsize hstack0 hroom hd hf⟩
  | 5, hrec, hci, r5, hd =>
    simp only [Bool.and_eq_true, decide_eq_true_eq] at r5
    obtain ⟨w0, w1, np, n1, ny, nr⟩ := r5
    have hrec2 := ai_recv5 hrec
    obtain ⟨q, as', rfl⟩ := hrec2
    refine ⟨_, va_runIN (host := RX5) (As := as'.map (ai_cv bA base)) (b := ai_ad bA base q) (ws := ai_ws j) (rm := ai_rm j (h'.length - h.length) (ai_sz h' - ai_sz h)) CF hM ⟨va_cnB (ws' := ai_TB) (n - 1) hts (ai_TB_good (ai_ws_in k4)) (by rw [← nr]; rfl) rfl rfl (hK.2.1 _ w0) (hts _ k3) ⟨k2.1, k2.2, np⟩ hR, ny, hts _ (ai_at_in w1)⟩ ⟨ai_blind _ _ _ _ _ _ _ _, hpc⟩ rfl ?_ hsize ?_ hroom hd hf⟩
    · rw [List.length_map]
      rw [List.length_cons] at hn
      omega
    · rw [hstack0, List.map_cons, List.reverse_cons, List.append_assoc]
      rfl
  | 3, hrec, hci, r5, hd => cases r5
  | ck + 6, hrec, hci, r5, hd => cases r5
