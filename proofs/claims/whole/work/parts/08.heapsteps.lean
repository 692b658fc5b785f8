/-! the steps that touch the heap -/
theorem ai_gf_of {h : ai_H} {q ci k : Nat} {v : Value} (hf : ai_gf h q ci k = some v) : ∃ (j : Nat) (fs : List Value), q = j + 1 ∧ h[j]? = some (.inr (ci, fs)) ∧ fs[k]? = some v := by
  unfold ai_gf at hf
  split at hf
  · rename_i c fs hc
    split at hf
    · rename_i he
      subst he
      cases q with
      | zero => cases hc
      | succ j => exact ⟨j, fs, rfl, hc, hf⟩
    · cases hf
  · cases hf
theorem s_get : ai_Snd ai_get (fun _ _ c _ => (.getfield c, 3)) (fun m a b c _ => ai_okF m a b c) := by
  intro bA base dC dI ca S p l e R s m args below meth c Q k n0 z0 pc a b d z ls st h ls' st' h' C hd hok hf hb hG H locs lsC hl hw
  obtain ⟨hx, hb1, hown, hts, hK, hX, hbl, hn0, hini, hfr, hlo⟩ := C
  unfold ai_get at hf
  split at hf
  · split at hf
    · rename_i v hv
      cases hf
      obtain ⟨j, fs, rfl, h1, h2⟩ := ai_gf_of hv
      obtain ⟨f1, f2, f3⟩ := ai_okF_of hok
      exact va_get hx hb1 hts (ai_uws f1).1 hown hK.1 hw.1 j (ai_cw_at h1) (ai_vwCl f1) b f2 (hts _ f3) (fun _ h9 => h9) (v := ai_cv bA base v) (by rw [List.getElem?_map, h2]; rfl) hd (hG H locs lsC hl hw)
    · cases hf
  · cases hf
theorem ai_pf_of {h h' : ai_H} {q ci k : Nat} {v : Value} (hf : ai_pf h q ci k v = some h') : ∃ (j : Nat) (fs : List Value), q = j + 1 ∧ h[j]? = some (.inr (ci, fs)) ∧ k < fs.length ∧ h' = h.set j (.inr (ci, fs.set k v)) := by
  unfold ai_pf at hf
  split at hf
  · rename_i c fs hc
    split at hf
    · rename_i he
      obtain ⟨e1, e2⟩ := he
      subst e1
      cases q with
      | zero => cases hc
      | succ j => cases hf; exact ⟨j, fs, rfl, hc, e2, rfl⟩
    · cases hf
  · cases hf
/-- a field is written: what the kit's row gives is the new abstract heap's world -/
theorem ai_put_w {bA base : Nat} {ca : Nat → ClassId} {h : ai_H} {j ci k : Nat} {fs : List Value} {v : Value} : (ai_cw bA base ca h).set j (base + j, .inr (ci, (fs.map (ai_cv bA base)).set k (ai_cv bA base v))) = ai_cw bA base ca (h.set j (.inr (ci, fs.set k v))) := by
  rw [← ai_cw_set]
  show _ = (ai_cw bA base ca h).set j (base + j, .inr (ci, (fs.set k v).map (ai_cv bA base)))
  rw [List.map_set]
theorem ai_put {bA base : Nat} {dC : Nat → ClassId} {dI : Nat → Nat → Nat} {ca : Nat → ClassId} {S : ai_S} {p : Program} {l : Launch} {e : Env} {R : Room} {s : State} {m : MethodId} {args : Array Value} {below : List Frame} {meth : Method} {c : Code} {Q : State → Prop} {k n0 z0 pc a b d : Nat} {ls st : List Value} {h h' : ai_H} {q : Nat} {v : Value}
    (C : ai_CX bA base dC dI ca S p R s m args meth c k n0) (hd : decode (ai_c k) pc = .ok (.putfield d, 3)) {fin : Bool} {tyP : FieldType → Bool} (hok : ai_okP tyP fin k a b d 0 = true) (hf : ai_pf h q a b v = some h') (hty : ∀ t, tyP t = true → narrow t (ai_cv bA base v) = ai_cv bA base v ∧ fits t (ai_cv bA base v) = true)
    (hG : ai_G bA base dC dI ca p l e R s m args below meth c Q n0 z0 (pc + 3) ls st h') : ai_G bA base dC dI ca p l e R s m args below meth c Q n0 z0 pc ls (v :: .ref q :: st) h := by
  intro H locs lsC hl hw
  obtain ⟨hx, hb1, hown, hts, hK, hX, hbl, hn0, hini, hfr, hlo⟩ := C
  obtain ⟨j, fs, rfl, h1, h2, rfl⟩ := ai_pf_of hf
  unfold ai_okP at hok
  simp only [Bool.and_eq_true, beq_iff_eq, Bool.or_eq_true, Bool.not_eq_true', decide_eq_true_eq] at hok
  obtain ⟨o1, o2, o3, o4⟩ := hok
  obtain ⟨f1, f2, f3⟩ := ai_okF_of o1
  obtain ⟨g1, g2⟩ := hty _ o2
  have hz : ai_sz (h.set j (.inr (a, fs.set b v))) = ai_sz h := ai_sz_set h1 (by show (fs.set b v).length = fs.length; rw [List.length_set])
  have hln : (h.set j (.inr (a, fs.set b v))).length = h.length := List.length_set
  unfold ai_G at hG
  rw [hz, hln] at hG
  have hkk : ∀ (H1 : Heap) (locs1 : List Loc), va_P (dC, dI) vwCl ((ai_cw bA base ca h).set j (base + j, .inr (a, (fs.map (ai_cv bA base)).set b (ai_cv bA base v)))) H1 → va_D (fun q : Nat => base ≤ q) ((ai_cw bA base ca h).set j (base + j, .inr (a, (fs.map (ai_cv bA base)).set b (ai_cv bA base v)))) → va_S (fun q : Nat => base ≤ q) s.heap H1 locs1 → W p l e R s m args below meth c H1 locs1 (h.length - n0) (ai_sz h - z0) Q (F0 m (pc + 3) lsC (st.map (ai_cv bA base))) := by
    intro H1 locs1 hP1 _ hS1
    rw [ai_put_w] at hP1
    exact hG H1 locs1 lsC hl ⟨hP1, hS1⟩
  have hlen : b < (fs.map (ai_cv bA base)).length := by rw [List.length_map]; exact h2
  cases fin with
  | false =>
    exact va_put hx hb1 hts (ai_uws f1).1 (ai_fty a) (ai_tyok f1) (ai_nm f1) hown hK.1 hw.1 (ai_D bA base ca h) hw.2 j (ai_cw_at h1) (ai_vwCl f1) b f2 (hts _ f3) (fun _ h9 => h9) o3 (ai_tyok f1 b f2) g1 g2 hlen hd hkk
  | true =>
    have o5 := o4.resolve_left (by intro z; cases z)
    exact va_putF hx hb1 hts (ai_uws f1).1 (ai_fty a) (ai_tyok f1) (ai_nm f1) hown hK.1 hw.1 (ai_D bA base ca h) hw.2 j (ai_cw_at h1) (ai_vwCl f1) b f2 (hts _ f3) (fun _ h9 => h9) o3 (hini o5.1) o5.2 (ai_tyok f1 b f2) g1 g2 hlen hd hkk
theorem s_putI : ai_Snd ai_putI (fun _ _ c _ => (.putfield c, 3)) (ai_okP (fun t => decide (t = .int)) false) := by
  intro bA base dC dI ca S p l e R s m args below meth c Q k n0 z0 pc a b d z ls st h ls' st' h' C hd hok hf hb hG
  unfold ai_putI at hf
  split at hf
  · split at hf
    · rename_i h2 hv
      cases hf
      exact ai_put (tyP := fun t => decide (t = .int)) C hd hok hv (fun t ht => by have ht := of_decide_eq_true (p := t = FieldType.int) ht; subst ht; exact ⟨rfl, rfl⟩) hG
    · cases hf
  · cases hf
theorem ai_z0 : narrow .boolean (.int 0) = .int 0 ∧ fits .boolean (.int 0) = true := by decide
theorem ai_z1 : narrow .boolean (.int 1) = .int 1 ∧ fits .boolean (.int 1) = true := by decide
theorem s_putZ : ai_Snd ai_putZ (fun _ _ c _ => (.putfield c, 3)) (ai_okP (fun t => decide (t = .boolean)) false) := by
  intro bA base dC dI ca S p l e R s m args below meth c Q k n0 z0 pc a b d z ls st h ls' st' h' C hd hok hf hb hG
  unfold ai_putZ at hf
  split at hf
  · split at hf
    · rename_i hz
      split at hf
      · rename_i h2 hv
        cases hf
        exact ai_put (tyP := fun t => decide (t = .boolean)) C hd hok hv (fun t ht => by
          have ht := of_decide_eq_true (p := t = FieldType.boolean) ht
          subst ht
          rcases hz with rfl | rfl
          · exact ai_z0
          · exact ai_z1) hG
      · cases hf
    · cases hf
  · cases hf
theorem s_putJ : ai_Snd ai_putJ (fun _ _ c _ => (.putfield c, 3)) (ai_okP (fun t => decide (t = .long)) false) := by
  intro bA base dC dI ca S p l e R s m args below meth c Q k n0 z0 pc a b d z ls st h ls' st' h' C hd hok hf hb hG
  unfold ai_putJ at hf
  split at hf
  · split at hf
    · rename_i h2 hv
      cases hf
      exact ai_put (tyP := fun t => decide (t = .long)) C hd hok hv (fun t ht => by have ht := of_decide_eq_true (p := t = FieldType.long) ht; subst ht; exact ⟨rfl, rfl⟩) hG
    · cases hf
  · cases hf
theorem ai_isR_of {t : FieldType} (h : ai_isR t = true) (q : Nat) : narrow t (.ref q) = .ref q ∧ fits t (.ref q) = true := by
  cases t <;> first | exact ⟨rfl, rfl⟩ | cases h
theorem s_putR (fin : Bool) : ai_Snd ai_putR (fun _ _ c _ => (.putfield c, 3)) (ai_okP ai_isR fin) := by
  intro bA base dC dI ca S p l e R s m args below meth c Q k n0 z0 pc a b d z ls st h ls' st' h' C hd hok hf hb hG
  unfold ai_putR at hf
  split at hf
  · split at hf
    · rename_i h2 hv
      cases hf
      exact ai_put C hd hok hv (fun t ht => ai_isR_of ht _) hG
    · cases hf
  · cases hf
theorem ai_ia_of {h : ai_H} {q t n : Nat} {f : Nat → Int32} (hf : ai_ia h q t = some (n, f)) : ∃ j : Nat, q = j + 1 ∧ h[j]? = some (.inl (t, n, .inl f)) := by
  unfold ai_ia at hf
  split at hf
  · rename_i t' n' f' hc
    split at hf
    · rename_i he
      subst he
      cases q with
      | zero => cases hc
      | succ j => cases hf; exact ⟨j, rfl, hc⟩
    · cases hf
  · cases hf
theorem ai_pa_of {h h' : ai_H} {q t : Nat} {f' : Nat → Int32} (hf : ai_pa h q t f' = some h') : ∃ (j n : Nat) (f : Nat → Int32), q = j + 1 ∧ h[j]? = some (.inl (t, n, .inl f)) ∧ h' = h.set j (.inl (t, n, .inl f')) := by
  unfold ai_pa at hf
  split at hf
  · rename_i t' n' f0 hc
    split at hf
    · rename_i he
      subst he
      cases q with
      | zero => cases hc
      | succ j => cases hf; exact ⟨j, n', f0, rfl, hc, rfl⟩
    · cases hf
  · cases hf
theorem s_iald : ai_Snd ai_iald (fun _ _ _ _ => (.iaload, 1)) ai_okT := by
  intro bA base dC dI ca S p l e R s m args below meth c Q k n0 z0 pc a b d z ls st h ls' st' h' C hd hok hf hb hG H locs lsC hl hw
  obtain ⟨hx, hb1, hown, hts, hK, hX, hbl, hn0, hini, hfr, hlo⟩ := C
  unfold ai_iald at hf
  split at hf
  · split at hf
    · cases hf
    · rename_i i st0 hi
      cases hf
      exact va_sld hx hb1 hX (by omega) (by show ¬ base ≤ bA; omega) hw.2 hi hd (hG H locs lsC hl hw)
  · split at hf
    · rename_i n f hv
      split at hf
      · cases hf
      · rename_i hi
        cases hf
        obtain ⟨j, rfl, h1⟩ := ai_ia_of hv
        exact va_iald hx hb1 hK.1 hw.1 j 0 (ai_cw_at h1) rfl hi hd (hG H locs lsC hl hw)
    · cases hf
  · cases hf
theorem s_bald : ai_Snd ai_bald (fun _ _ _ _ => (.baload, 1)) ai_okT := by
  intro bA base dC dI ca S p l e R s m args below meth c Q k n0 z0 pc a b d z ls st h ls' st' h' C hd hok hf hb hG H locs lsC hl hw
  obtain ⟨hx, hb1, hown, hts, hK, hX, hbl, hn0, hini, hfr, hlo⟩ := C
  unfold ai_bald at hf
  split at hf
  · split at hf
    · rename_i n f hv
      split at hf
      · cases hf
      · rename_i hi
        cases hf
        obtain ⟨j, rfl, h1⟩ := ai_ia_of hv
        exact va_zald hx hb1 hK.1 hw.1 j 1 (ai_cw_at h1) rfl hi hd (hG H locs lsC hl hw)
    · cases hf
  · cases hf
theorem s_iast : ai_Snd ai_iast (fun _ _ _ _ => (.iastore, 1)) ai_okT := by
  intro bA base dC dI ca S p l e R s m args below meth c Q k n0 z0 pc a b d z ls st h ls' st' h' C hd hok hf hb hG H locs lsC hl hw
  obtain ⟨hx, hb1, hown, hts, hK, hX, hbl, hn0, hini, hfr, hlo⟩ := C
  unfold ai_iast at hf
  split at hf
  · split at hf
    · rename_i n f hv
      split at hf
      · cases hf
      · rename_i hi
        split at hf
        · rename_i h2 hp
          cases hf
          obtain ⟨j, rfl, h1⟩ := ai_ia_of hv
          obtain ⟨j2, n2, f2, e1, h3, rfl⟩ := ai_pa_of hp
          have e2 : j2 = j := by omega
          subst e2
          rw [h1] at h3
          cases h3
          unfold ai_G at hG
          have hz : ∀ g, ai_sz (h.set j2 (.inl (0, n, .inl g))) = ai_sz h := fun g => ai_sz_set h1 rfl
          rw [hz, List.length_set] at hG
          refine va_iast hx hb1 hK.1 hw.1 (ai_D bA base ca h) hw.2 j2 0 (ai_cw_at h1) rfl hi hd (fun H1 locs1 hP1 _ hS1 => hG H1 locs1 lsC hl ⟨?_, hS1⟩)
          rw [← ai_cw_set]
          exact hP1
        · cases hf
    · cases hf
  · cases hf
theorem s_bast : ai_Snd ai_bast (fun _ _ _ _ => (.bastore, 1)) ai_okT := by
  intro bA base dC dI ca S p l e R s m args below meth c Q k n0 z0 pc a b d z ls st h ls' st' h' C hd hok hf hb hG H locs lsC hl hw
  obtain ⟨hx, hb1, hown, hts, hK, hX, hbl, hn0, hini, hfr, hlo⟩ := C
  unfold ai_bast at hf
  split at hf
  · split at hf
    · rename_i n f hv
      split at hf
      · cases hf
      · rename_i hi
        split at hf
        · rename_i h2 hp
          cases hf
          obtain ⟨j, rfl, h1⟩ := ai_ia_of hv
          obtain ⟨j2, n2, f2, e1, h3, rfl⟩ := ai_pa_of hp
          have e2 : j2 = j := by omega
          subst e2
          rw [h1] at h3
          cases h3
          unfold ai_G at hG
          have hz : ∀ g, ai_sz (h.set j2 (.inl (1, n, .inl g))) = ai_sz h := fun g => ai_sz_set h1 rfl
          rw [hz, List.length_set] at hG
          refine va_zast hx hb1 hK.1 hw.1 (ai_D bA base ca h) hw.2 j2 1 (ai_cw_at h1) rfl hi hd (fun H1 locs1 hP1 _ hS1 => hG H1 locs1 lsC hl ⟨?_, hS1⟩)
          rw [← ai_cw_set]
          exact hP1
        · cases hf
    · cases hf
  · cases hf
theorem ai_ra_of {h : ai_H} {q n : Nat} {f : Nat → Option Nat} (hf : ai_ra h q = some (n, f)) : ∃ j : Nat, q = j + 1 ∧ h[j]? = some (.inl (2, n, .inr (.inr (.inr (.inr f))))) := by
  unfold ai_ra at hf
  split at hf
  · rename_i t' n' f' hc
    split at hf
    · rename_i he
      subst he
      cases q with
      | zero => cases hc
      | succ j => cases hf; exact ⟨j, rfl, hc⟩
    · cases hf
  · cases hf
theorem ai_pra_of {h h' : ai_H} {q : Nat} {f' : Nat → Option Nat} (hf : ai_pra h q f' = some h') : ∃ (j n : Nat) (f : Nat → Option Nat), q = j + 1 ∧ h[j]? = some (.inl (2, n, .inr (.inr (.inr (.inr f))))) ∧ h' = h.set j (.inl (2, n, .inr (.inr (.inr (.inr f'))))) := by
  unfold ai_pra at hf
  split at hf
  · rename_i t' n' f0 hc
    split at hf
    · rename_i he
      subst he
      cases q with
      | zero => cases hc
      | succ j => cases hf; exact ⟨j, n', f0, rfl, hc, rfl⟩
    · cases hf
  · cases hf
theorem ai_io_of {h : ai_H} {q ci : Nat} (hf : ai_io h q ci = true) : ∃ (j : Nat) (fs : List Value), q = j + 1 ∧ h[j]? = some (.inr (ci, fs)) := by
  unfold ai_io at hf
  split at hf
  · rename_i c fs hc
    have he := eq_of_beq hf
    subst he
    cases q with
    | zero => cases hc
    | succ j => exact ⟨j, fs, rfl, hc⟩
  · cases hf
theorem ai_cv_rf (bA base : Nat) (r : Option Nat) : ai_cv bA base (va_rf r) = va_rf (r.map (ai_ad bA base)) := by cases r <;> rfl
theorem s_aald : ai_Snd ai_aald (fun _ _ _ _ => (.aaload, 1)) ai_okT := by
  intro bA base dC dI ca S p l e R s m args below meth c Q k n0 z0 pc a b d z ls st h ls' st' h' C hd hok hf hb hG H locs lsC hl hw
  obtain ⟨hx, hb1, hown, hts, hK, hX, hbl, hn0, hini, hfr, hlo⟩ := C
  unfold ai_aald at hf
  split at hf
  · split at hf
    · rename_i n f hv
      split at hf
      · cases hf
      · rename_i hi
        cases hf
        obtain ⟨j, rfl, h1⟩ := ai_ra_of hv
        have h2 := hG H locs lsC hl hw
        rw [List.map_cons, ai_cv_rf] at h2
        exact va_aldq hx hb1 hK.1 hw.1 j 2 (ai_cw_at h1) rfl hi hd h2
    · cases hf
  · cases hf
theorem ai_ce_up (bA base : Nat) (ca : Nat → ClassId) (n i v : Nat) (f : Nat → Option Nat) : ai_ce bA base ca (.inl (2, n, .inr (.inr (.inr (.inr (va_up f i (some (v + 1)))))))) = .inl (ca 2, n, .inr (.inr (.inr (.inr (va_up (fun j => (f j).map (ai_ad bA base)) i (some (base + v))))))) := by
  have h : (fun j => ((va_up f i (some (v + 1))) j).map (ai_ad bA base)) = va_up (fun j => (f j).map (ai_ad bA base)) i (some (base + v)) := by
    funext j
    unfold va_up
    split
    · rfl
    · rfl
  rw [← h]
  rfl
theorem s_aast : ai_Snd ai_aast (fun _ _ _ _ => (.aastore, 1)) ai_okT := by
  intro bA base dC dI ca S p l e R s m args below meth c Q k n0 z0 pc a b d z ls st h ls' st' h' C hd hok hf hb hG H locs lsC hl hw
  obtain ⟨hx, hb1, hown, hts, hK, hX, hbl, hn0, hini, hfr, hlo⟩ := C
  unfold ai_aast at hf
  split at hf
  · split at hf
    · rename_i n f hv
      split at hf
      · cases hf
      · rename_i hi
        split at hf
        · rename_i hio
          split at hf
          · rename_i h2 hp
            cases hf
            obtain ⟨j, rfl, h1⟩ := ai_ra_of hv
            obtain ⟨j2, n2, f2, e1, h3, rfl⟩ := ai_pra_of hp
            obtain ⟨jv, fsv, rfl, h4⟩ := ai_io_of hio
            have e2 : j2 = j := by omega
            subst e2
            rw [h1] at h3
            cases h3
            unfold ai_G at hG
            have hz : ∀ g, ai_sz (h.set j2 (.inl (2, n, .inr (.inr (.inr (.inr g)))))) = ai_sz h := fun g => ai_sz_set h1 rfl
            rw [hz, List.length_set] at hG
            refine va_astq (r := (RX1, TX1, 8)) hx hb1 hK.1 hw.1 (ai_D bA base ca h) hw.2 j2 2 jv 1 (ai_cw_at h1) rfl (ai_cw_at h4) rfl hi hd (fun H1 locs1 hP1 _ hS1 => hG H1 locs1 lsC hl ⟨?_, hS1⟩)
            rw [← ai_cw_set]
            rw [ai_ce_up]
            exact hP1
          · cases hf
        · cases hf
    · cases hf
  · cases hf
theorem s_len : ai_Snd ai_len (fun _ _ _ _ => (.arraylength, 1)) ai_okT := by
  intro bA base dC dI ca S p l e R s m args below meth c Q k n0 z0 pc a b d z ls st h ls' st' h' C hd hok hf hb hG H locs lsC hl hw
  obtain ⟨hx, hb1, hown, hts, hK, hX, hbl, hn0, hini, hfr, hlo⟩ := C
  unfold ai_len at hf
  split at hf
  · cases hf
    exact va_slen (b := bA) hx hb1 hX (by omega) (by show ¬ base ≤ bA; omega) hw.2 hd (hG H locs lsC hl hw)
  · rename_i q st0 hq
    split at hf
    · rename_i t n y hv
      split at hf
      · rename_i ht
        cases hf
        cases q with
        | zero => cases hv
        | succ j =>
          have h1 : h[j]? = some (.inl (t, n, y)) := hv
          have h2 : ∃ y' : (Nat → Int32) ⊕ (Nat → Int64) ⊕ (Nat → UInt32) ⊕ (Nat → UInt64) ⊕ (Nat → Option Nat), ai_ce bA base ca (.inl (t, n, y)) = .inl (ca t, n, y') := by
            rcases y with y | y | y | y | y
            · exact ⟨_, rfl⟩
            · exact ⟨_, rfl⟩
            · exact ⟨_, rfl⟩
            · exact ⟨_, rfl⟩
            · exact ⟨_, rfl⟩
          obtain ⟨y', h2⟩ := h2
          have h3 := ai_cw_at (bA := bA) (base := base) (ca := ca) h1
          rw [h2] at h3
          have h4 : ∃ ty, (ai_tys ca)[t]? = some (ca t, ty) := by
            match t, ht with
            | 0, _ => exact ⟨_, rfl⟩
            | 1, _ => exact ⟨_, rfl⟩
            | 2, _ => exact ⟨_, rfl⟩
          obtain ⟨ty, h4⟩ := h4
          exact va_alen hx hb1 hK.1 hw.1 j t h3 h4 rfl hd (hG H locs lsC hl hw)
      · cases hf
    · cases hf
  · cases hf
