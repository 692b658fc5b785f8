/-! what the two sides' pure functions have in common -/
theorem cg_land {la la' : Nat → Int32} (set : Int32) : ∀ n, (∀ k, k < n → la k = la' k) → z_land la set n = z_land la' set n
  | 0, _ => rfl
  | n + 1, h => by
    unfold z_land
    rw [cg_land set n (fun k hk => h k (by omega)), h n (by omega)]
theorem cg_rg {wa wa' : Nat → Int32} {n : Nat} (hn : n ≤ 6) (h : ∀ k, k < n → wa k = wa' k) (c : Nat) : ∀ j o s, o < n → z_rg wa n c j o s = z_rg wa' n c j o s
  | 0, _, _, _ => rfl
  | j + 1, o, s, ho => by
    unfold z_rg
    rw [h o ho]
    by_cases hq : 0 ≤ wa' o ∧ wa' o < nI n
    · obtain ⟨k, hk, e⟩ := z_in (by omega) hq
      rw [if_pos hq, if_pos hq, e, nI_clamp (by omega), cg_rg hn h c j k (s + 1) hk]
    · rw [if_neg hq, if_neg hq]
theorem cg_ring {wa wa' : Nat → Int32} {n : Nat} (hn : n ≤ 6) (h : ∀ k, k < n → wa k = wa' k) (c : Nat) (hc : c < n) : z_ring wa n c = z_ring wa' n c := cg_rg hn h c 6 c 1 hc
theorem cg_tr {wa wa' : Nat → Int32} {n : Nat} (hn : n ≤ 6) (h : ∀ k, k < n → wa k = wa' k) : ∀ j, j ≤ n → z_tr wa n j = z_tr wa' n j
  | 0, _ => rfl
  | j + 1, hj => by
    unfold z_tr
    rw [cg_ring hn h j (by omega), cg_tr hn h j (by omega)]
theorem cg_try {pr ha pr' ha' : Nat → Int32} {c : Nat} (h1 : pr c = pr' c) (h2 : ha c = ha' c) (gr ve : Int32) : ∀ j b w r, z_try pr ha c gr ve j b w r = z_try pr' ha' c gr ve j b w r
  | 0, _, _, _ => rfl
  | j + 1, b, w, r => by
    unfold z_try
    rw [h1, h2, cg_try h1 h2 gr ve j, cg_try h1 h2 gr ve j]
theorem cg_tp {pr ha pr' ha' : Nat → Int32} {c : Nat} (h1 : pr c = pr' c) (h2 : ha c = ha' c) (K : Nat) (gr ve : Int32) : z_tp pr ha c K gr ve = z_tp pr' ha' c K gr ve := cg_try h1 h2 gr ve K 0 0 0
theorem cg_bj {pr ha pr' ha' : Nat → Int32} {n : Nat} (h : ∀ k, k < n → pr k = pr' k ∧ ha k = ha' k) (set : Int32) (K : Nat) (gr ve : Int32) : ∀ j c, c + j ≤ n → z_bj pr ha set K gr ve j c = z_bj pr' ha' set K gr ve j c
  | 0, _, _ => rfl
  | j + 1, c, hc => by
    unfold z_bj
    rw [cg_tp (h c (by omega)).1 (h c (by omega)).2, cg_bj h set K gr ve j (c + 1) (by omega)]
theorem cg_tu {P Q : Nat → Prop} [DecidablePred P] [DecidablePred Q] (h : ∀ b, P b ↔ Q b) : ∀ j b, z_tu P j b = z_tu Q j b
  | 0, _ => rfl
  | j + 1, b => by
    unfold z_tu
    by_cases hp : P b
    · rw [if_pos hp, if_pos ((h b).mp hp)]
    · rw [if_neg hp, if_neg (fun z => hp ((h b).mpr z)), cg_tu h j (b + 1)]
theorem cg_tune {pr ha pr' ha' : Nat → Int32} {n : Nat} (h : ∀ k, k < n → pr k = pr' k ∧ ha k = ha' k) (set : Int32) (K : Nat) : z_tu (z_tq pr ha set K n) 100 0 = z_tu (z_tq pr' ha' set K n) 100 0 :=
  cg_tu (fun b => by
    show ¬ z_bj pr ha set K (nI (b / 10)) (nI (b % 10)) n 0 = 0 ↔ ¬ z_bj pr' ha' set K (nI (b / 10)) (nI (b % 10)) n 0 = 0
    rw [cg_bj h set K _ _ n 0 (by omega)]) 100 0
theorem cg_al {F F' : Nat → Nat → Int32} {yd yd' : Nat → Int32} (v : Nat) : ∀ s, (∀ i, i < s → F i v = F' i v ∧ yd i = yd' i) → z_al F yd v s = z_al F' yd' v s
  | 0, _ => rfl
  | s + 1, h => by
    unfold z_al
    rw [cg_al v s (fun i hi => h i (by omega)), (h s (by omega)).1, (h s (by omega)).2]
theorem nI_subN {a b : Nat} (h : b ≤ a) : nI a - nI b = nI (a - b) := by
  have e : nI a = nI (a - b) + nI b := by rw [nI_add, Nat.sub_add_cancel h]
  rw [e]
  exact Int32.add_sub_cancel _ _
theorem cg_ask {q : Nat → Int32} {Q : Nat → Nat} {A : Nat} (hA : A ≤ 10) (hQ : ∀ c, Q c ≤ A) : ∀ n, (∀ c, c < n + 1 → q c = nI (Q c)) → z_ask q (nI A) (n + 1) = ((z_rk Q A (n + 1)).1, nI (z_rk Q A (n + 1)).2) := by
  have hm : ∀ c, q c = nI (Q c) → (if q c < nI A - q c then nI A - q c else q c) = nI (max (Q c) (A - Q c)) := by
    intro c hc
    have h2 := hQ c
    rw [hc, nI_subN h2]
    by_cases hl : Q c < A - Q c
    · rw [if_pos (nI_lt hl (by omega)), Nat.max_eq_right (by omega)]
    · rw [if_neg (nI_nlt (by omega) (by omega)), Nat.max_eq_left (by omega)]
  have hM : ∀ c, max (Q c) (A - Q c) ≤ A := fun c => by
    have h2 := hQ c
    omega
  have st : ∀ n, q n = nI (Q n) → z_ask q (nI A) (n + 1) = if nI (max (Q n) (A - Q n)) < (z_ask q (nI A) n).2 then (nI n, nI (max (Q n) (A - Q n))) else z_ask q (nI A) n := by
    intro n hq
    show (if (if q n < nI A - q n then nI A - q n else q n) < (z_ask q (nI A) n).2 then (nI n, if q n < nI A - q n then nI A - q n else q n) else z_ask q (nI A) n) = _
    rw [hm n hq]
  have st2 : ∀ n, z_rk Q A (n + 1) = if max (Q n) (A - Q n) < (z_rk Q A n).2 then (nI n, max (Q n) (A - Q n)) else z_rk Q A n := fun _ => rfl
  intro n
  induction n with
  | zero =>
    intro hq
    have h0 := hM 0
    have e1 : nI (max (Q 0) (A - Q 0)) < (z_ask q (nI A) 0).2 := by
      show nI (max (Q 0) (A - Q 0)) < nI A + 1
      rw [nI_1]
      exact nI_lt (by omega) (by omega)
    have e2 : max (Q 0) (A - Q 0) < (z_rk Q A 0).2 := by
      show max (Q 0) (A - Q 0) < 99
      omega
    rw [st 0 (hq 0 (by omega)), st2 0, if_pos e1, if_pos e2]
  | succ n ih =>
    intro hq
    have h0 := hM (n + 1)
    have hr := z_rk_le Q A (n + 1)
    rw [st (n + 1) (hq (n + 1) (by omega)), st2 (n + 1), ih (fun c hc => hq c (by omega))]
    by_cases hl : max (Q (n + 1)) (A - Q (n + 1)) < (z_rk Q A (n + 1)).2
    · rw [if_pos hl, if_pos (nI_lt hl (by omega))]
    · rw [if_neg hl, if_neg (nI_nlt (by omega) (by omega))]
theorem cg_F {Y L Y' L' : Nat → Nat → Prop} [∀ d p, Decidable (Y d p)] [∀ d p, Decidable (L d p)] [∀ d p, Decidable (Y' d p)] [∀ d p, Decidable (L' d p)] (hY : ∀ d p, Y d p ↔ Y' d p) (hL : ∀ d p, L d p ↔ L' d p) : ∀ r p, z_F Y L r p = z_F Y' L' r p
  | 0, p => by
    unfold z_F
    by_cases h : Y 10 p
    · rw [if_pos h, if_pos ((hY _ _).mp h)]
    · rw [if_neg h, if_neg (fun z => h ((hY _ _).mpr z))]
  | r + 1, p => by
    unfold z_F
    rw [cg_F hY hL r p, cg_F hY hL r (p + 1)]
    by_cases h : 0 < 9 - r ∧ Y (9 - r) p
    · rw [if_pos h, if_pos (show 0 < 9 - r ∧ Y' (9 - r) p from ⟨h.1, (hY _ _).mp h.2⟩)]
    · rw [if_neg h, if_neg (fun z : 0 < 9 - r ∧ Y' (9 - r) p => h ⟨z.1, (hY _ _).mpr z.2⟩)]
      by_cases h2 : 0 < 9 - r ∧ L (9 - r) p
      · rw [if_pos h2, if_pos (show 0 < 9 - r ∧ L' (9 - r) p from ⟨h2.1, (hL _ _).mp h2.2⟩)]
      · rw [if_neg h2, if_neg (fun z : 0 < 9 - r ∧ L' (9 - r) p => h2 ⟨z.1, (hL _ _).mpr z.2⟩)]
theorem cg_way {pr ha br wm a2 a3 a6 : Nat → Int32} {c : Nat} (h1 : pr c = a2 c) (h2 : ha c = a3 c) (h3 : br c = a6 c) (h4 : wm c = a6 (6 + c)) (gr ve : Int32) :
    z_F (z_wy ha pr c gr ve (br c) (wm c)) (z_wl pr c gr (br c)) = z_FF (z_wy a3 a2 c gr ve (a6 c) (a6 (6 + c))) (z_wl a2 c gr (a6 c)) (z_dY a3 a2 c gr ve (a6 c) (a6 (6 + c))) (z_dL a2 c gr (a6 c)) := by
  funext r p
  unfold z_FF
  refine @cg_F _ _ _ _ _ _ (z_dY a3 a2 c gr ve (a6 c) (a6 (6 + c))) (z_dL a2 c gr (a6 c)) (fun d p => ?_) (fun d p => ?_) r p
  · unfold z_wy
    rw [h1, h2, h3, h4]
  · unfold z_wl
    rw [h1, h3]
theorem cg_len {W W' : Nat → Nat} {n : Nat} (hW : ∀ c, c < n → (W c = W' c ∧ W c ≤ 10) ∨ (1000 ≤ W c ∧ 1000 ≤ W' c)) (set : Int32) : ∀ k, k ≤ n → (z_len W set k = z_len W' set k ∧ z_len W set k ≤ 10 * k) ∨ (1000 ≤ z_len W set k ∧ 1000 ≤ z_len W' set k)
  | 0, _ => Or.inl ⟨rfl, Nat.le_refl _⟩
  | k + 1, hk => by
    have ih := cg_len hW set k (by omega)
    have h := hW k (by omega)
    unfold z_len
    by_cases hz : z_bit set k
    · rw [if_pos hz, if_pos hz]
      omega
    · rw [if_neg hz, if_neg hz]
      omega
theorem z_bit0 (k : Nat) (hk : k < 31) : ¬ z_bit 0 k := by
  have h := z_bit_n 0 k (by omega) hk
  rw [Nat.zero_testBit] at h
  exact fun z => Bool.false_ne_true (h.mp z)
theorem z_land0 (la : Nat → Int32) : ∀ n, n ≤ 6 → z_land la 0 n = 0
  | 0, _ => rfl
  | n + 1, h => by
    unfold z_land
    rw [if_neg (z_bit0 n (by omega)), z_land0 la n (by omega)]
theorem z_len0 (W : Nat → Nat) : ∀ n, n ≤ 6 → z_len W 0 n = 0
  | 0, _ => rfl
  | n + 1, h => by
    unfold z_len
    rw [if_neg (z_bit0 n (by omega)), z_len0 W n (by omega)]
theorem cg_gain {la : Nat → Int32} {W W' : Nat → Nat} {n N : Nat} (hn : n ≤ 6) (hN : N ≤ 40) (hW : ∀ c, c < n → (W c = W' c ∧ W c ≤ 10) ∨ (1000 ≤ W c ∧ 1000 ≤ W' c)) :
    ∀ s, z_gn la W n N s = (z_gm la W' n N s, z_land la (nI (z_gm la W' n N s)) n, z_len W (nI (z_gm la W' n N s)) n) ∧ z_len W (nI (z_gm la W' n N s)) n ≤ N
  | 0 => by
    have e : z_gm la W' n N 0 = 0 := rfl
    have e0 : nI 0 = 0 := nI_0
    rw [e, e0, z_land0 la n hn, z_len0 W n hn]
    exact ⟨rfl, Nat.zero_le _⟩
  | s + 1 => by
    obtain ⟨ih, ihl⟩ := cg_gain (la := la) hn hN hW s
    have h1 := cg_len hW (nI (s + 1)) n (Nat.le_refl n)
    have h2 := cg_len hW (nI (z_gm la W' n N s)) n (Nat.le_refl n)
    have e : z_len W (nI (z_gm la W' n N s)) n = z_len W' (nI (z_gm la W' n N s)) n := by omega
    have hc : (z_len W (nI (s + 1)) n ≤ N ∧ (z_land la (nI (z_gm la W' n N s)) n < z_land la (nI (s + 1)) n ∨ z_land la (nI (s + 1)) n = z_land la (nI (z_gm la W' n N s)) n ∧ z_len W (nI (s + 1)) n < z_len W (nI (z_gm la W' n N s)) n)) ↔ (z_len W' (nI (s + 1)) n ≤ N ∧ (z_land la (nI (z_gm la W' n N s)) n < z_land la (nI (s + 1)) n ∨ z_land la (nI (s + 1)) n = z_land la (nI (z_gm la W' n N s)) n ∧ z_len W' (nI (s + 1)) n < z_len W' (nI (z_gm la W' n N s)) n)) := by
      rw [e]
      rcases h1 with h1 | h1
      · rw [h1.1]
      · exact ⟨fun z => absurd z.1 (by omega), fun z => absurd z.1 (by omega)⟩
    unfold z_gn
    rw [ih]
    dsimp only
    by_cases hp : (z_len W (nI (s + 1)) n ≤ N ∧ (z_land la (nI (z_gm la W' n N s)) n < z_land la (nI (s + 1)) n ∨ z_land la (nI (s + 1)) n = z_land la (nI (z_gm la W' n N s)) n ∧ z_len W (nI (s + 1)) n < z_len W (nI (z_gm la W' n N s)) n))
    · have e2 : z_gm la W' n N (s + 1) = s + 1 := if_pos (hc.mp hp)
      rw [if_pos hp, e2]
      exact ⟨rfl, hp.1⟩
    · have e2 : z_gm la W' n N (s + 1) = z_gm la W' n N s := if_neg (fun z => hp (hc.mpr z))
      rw [if_neg hp, e2]
      exact ⟨rfl, ihl⟩
theorem cg_gn_la {la la' : Nat → Int32} {W W' : Nat → Nat} {n N : Nat} (h : ∀ k, k < n → la k = la' k) (hW : ∀ k, k < n → W k = W' k) : ∀ s, z_gn la W n N s = z_gn la' W' n N s
  | 0 => rfl
  | s + 1 => by
    have e : ∀ set, z_len W set n = z_len W' set n := by
      intro set
      have : ∀ k, k ≤ n → z_len W set k = z_len W' set k := by
        intro k
        induction k with
        | zero => exact fun _ => rfl
        | succ k ih =>
          intro hk
          unfold z_len
          rw [ih (by omega), hW k (by omega)]
      exact this n (Nat.le_refl n)
    unfold z_gn
    rw [cg_gn_la h hW s, cg_land _ n h, e]
theorem cg_wn {pr ha br wm a2 a3 a6 : Nat → Int32} {c : Nat} (h1 : pr c = a2 c) (h2 : ha c = a3 c) (h3 : br c = a6 c) (h4 : wm c = a6 (6 + c)) (gr ve yl : Int32) :
    (z_wn ha pr br wm gr ve yl c = z_wm a3 a2 a6 gr ve yl c ∧ z_wn ha pr br wm gr ve yl c ≤ 10) ∨ (1000 ≤ z_wn ha pr br wm gr ve yl c ∧ 1000 ≤ z_wm a3 a2 a6 gr ve yl c) := by
  unfold z_wn z_wm
  rw [cg_way h1 h2 h3 h4 gr ve]
  by_cases hz : z_bit yl c
  · rw [if_pos hz, if_pos hz]
    omega
  · rw [if_neg hz, if_neg hz]
    have h := z_FF_two (z_wy a3 a2 c gr ve (a6 c) (a6 (6 + c))) (z_wl a2 c gr (a6 c)) (z_dY a3 a2 c gr ve (a6 c) (a6 (6 + c))) (z_dL a2 c gr (a6 c)) 10 0
    split <;> omega
theorem cg_sk {le le' : Nat → Int32} {n : Nat} (h : ∀ i, i < n → le i = le' i) : ∀ j k, k + j ≤ n → z_sk le j k = z_sk le' j k
  | 0, _, _ => rfl
  | j + 1, k, hk => by
    unfold z_sk
    rw [h k (by omega), cg_sk h j (k + 1) (by omega)]
theorem cg_rn {le le' : Nat → Int32} {n : Nat} (h : ∀ i, i < n → le i = le' i) : ∀ j k v, k + j ≤ n → z_rn le j k v = z_rn le' j k v
  | 0, _, _, _ => rfl
  | j + 1, k, v, hk => by
    unfold z_rn
    rw [h k (by omega), cg_rn h j (k + 1) _ (by omega)]
theorem cg_tok {le le' : Nat → Int32} {n : Nat} (h : ∀ i, i < n → le i = le' i) (nu : Int32) (q : Nat) : z_tok le n nu q = z_tok le' n nu q := by
  unfold z_tok
  by_cases hq : n ≤ q
  · rw [if_pos hq, if_pos hq]
  · rw [if_neg hq, if_neg hq]
    unfold z_rt
    rw [h q (by omega), cg_rn h (n - q) q 0 (by omega)]
theorem cg_rtk {le le' : Nat → Int32} {n : Nat} (h : ∀ i, i < n → le i = le' i) (nu : Int32) : z_rtk le n nu = z_rtk le' n nu := by
  funext k
  unfold z_rtk
  have e : z_sk le (n - k) k = z_sk le' (n - k) k := by
    by_cases hk : k ≤ n
    · exact cg_sk h (n - k) k (by omega)
    · rw [show n - k = 0 by omega]
      rfl
  rw [e, cg_tok h]
/-- the lands that were told -/
def LA (s : zp_S) : Prop := ∀ k, k < s.2.2.2.1 → ∃ l, l ≤ 9 ∧ s.2.2.2.2.2.2.1 k = nI l
theorem LA_te {T : zp_K} {k : Nat} {s : zp_S} {x : zp_S × Nat} (hs : LA s) (h : zp_te T k s = .inl x) : LA x.1 := by
  by_cases hz : (T k).2.1 = 59
  · rw [zp_te_t hz] at h
    cases h
    exact hs
  · rw [zp_te_f hz] at h
    cases h
theorem LA_tn {T : zp_K} {k : Nat} {lo hi : Int32} {f : Int32 → Nat → zp_R} {x : zp_S × Nat} (hf : zp_num (T k) lo hi → f (T k).2.2.2 (T k).1 = .inl x → LA x.1) (h : zp_tn T k lo hi f = .inl x) : LA x.1 := by
  by_cases hz : zp_num (T k) lo hi
  · rw [zp_tn_t hz] at h
    exact hf hz h
  · rw [zp_tn_f hz] at h
    cases h
theorem LA_item {T : zp_K} {k : Nat} {s : zp_S} {x : zp_S × Nat} (hs : LA s) (h : zp_item T k s = .inl x) : LA x.1 := by
  obtain ⟨gr, vl, sg, c, pr, ha, la, wa, gt, vt, st⟩ := s
  unfold zp_item at h
  dsimp only at h
  by_cases h1 : (T k).2.1 = 99
  · rw [if_pos h1] at h
    by_cases hc : c < 6
    · rw [if_pos hc] at h
      refine LA_tn (fun _ h => LA_tn (fun _ h => LA_tn (fun h9 h => LA_tn (fun _ h => LA_te ?_ h) h) h) h) h
      intro j hj
      have hj2 : j < c + 1 := hj
      show ∃ l, l ≤ 9 ∧ upd la c _ j = nI l
      by_cases e : j = c
      · subst e
        obtain ⟨l, hl, e2⟩ := nI_of2 (M := 9) (n := 9) (by decide) h9.2.1 h9.2.2
        exact ⟨l, hl, by rw [pk_us, e2]⟩
      · obtain ⟨l, hl, e2⟩ := hs j (show j < c by omega)
        exact ⟨l, hl, by rw [pk_un e]; exact e2⟩
    · rw [if_neg hc] at h
      cases h
  · rw [if_neg h1] at h
    by_cases h2 : (T k).2.1 = 103
    · rw [if_pos h2] at h
      by_cases hc : gt = 0
      · rw [if_pos hc] at h
        refine LA_tn (fun _ h => LA_te ?_ h) h
        exact hs
      · rw [if_neg hc] at h
        cases h
    · rw [if_neg h2] at h
      by_cases h3 : (T k).2.1 = 118
      · rw [if_pos h3] at h
        by_cases hc : vt = 0
        · rw [if_pos hc] at h
          refine LA_tn (fun _ h => LA_te ?_ h) h
          exact hs
        · rw [if_neg hc] at h
          cases h
      · rw [if_neg h3] at h
        by_cases h4 : (T k).2.1 = 115
        · rw [if_pos h4] at h
          by_cases hc : st = 0
          · rw [if_pos hc] at h
            refine LA_tn (fun _ h => LA_te ?_ h) h
            exact hs
          · rw [if_neg hc] at h
            cases h
        · rw [if_neg h4] at h
          cases h
theorem LA_go {T : zp_K} : ∀ (f k i : Nat) (s : zp_S) (x : Nat × zp_S), LA s → zp_go T f k s i = .inl x → LA x.2
  | 0, _, _, _, _, _, h => by
    unfold zp_go at h
    cases h
  | f + 1, k, i, s, x, hs, h => by
    unfold zp_go at h
    by_cases h6 : (T k).2.1 = 256
    · rw [if_pos h6] at h
      cases h
      exact hs
    · rw [if_neg h6] at h
      cases hi : zp_item T k s with
      | inl y =>
        obtain ⟨s2, k2⟩ := y
        rw [hi] at h
        exact LA_go f k2 (i + 1) s2 x (LA_item hs hi) h
      | inr q =>
        rw [hi] at h
        cases h
