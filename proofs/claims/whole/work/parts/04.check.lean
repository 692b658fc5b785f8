/-! the tables of part 03 hold: words stand in the launch's tables, every block is what decode says -/
theorem ai_TB_in {w : Cond} (h : w ∈ ai_TB) : w ∈ lw_tbl := (List.mem_filter.mp h).1
theorem ai_TB_good {ws : List Cond} (h : ∀ w ∈ ws, w ∈ ai_TB) : GoodIn ai_TB ws := fun w hw => ⟨h w hw, good_of_word (List.mem_filter.mp (h w hw)).2⟩
def ai_at (i : Nat) (w : Cond) : Bool := decide (lw_tbl[i]? = some w) && goodWord w
theorem ai_at_in {i : Nat} {w : Cond} (h : ai_at i w = true) : w ∈ ai_TB := by
  unfold ai_at at h
  rw [Bool.and_eq_true] at h
  exact List.mem_filter.mpr ⟨List.mem_of_getElem? (of_decide_eq_true h.1), h.2⟩
def ai_cl (ci : Nat) : vw_C := vwCl.getD ci (RX0, TX0, 0)
def ai_fty (ci k : Nat) : FieldType := (([tyX0, tyX1, tyX2, tyX3, tyX4, tyX5, tyX6] : List (Nat → FieldType)).getD ci tyX0) k
def ai_isR (t : FieldType) : Bool := match t with
  | .object _ => true
  | .array _ => true
  | _ => false
def ai_fl1 (e : Nat × Nat × Nat × Nat × Nat) : Bool := decide (e.2.2.1 < 7) && (decide (e.2.2.2.1 < (ai_cl e.2.2.1).2.2) && ai_at e.2.2.2.2 (.fieldLink (ai_own e.1) e.2.1 ((ai_cl e.2.2.1).2.1 e.2.2.2.1).1 ((ai_cl e.2.2.1).2.1 e.2.2.2.1).2.1 ((ai_cl e.2.2.1).2.1 e.2.2.2.1).2.2.1))
theorem ai_FL_ok : ai_FL.all ai_fl1 = true := by decide +kernel
def ai_ol1 (e : Nat × Nat × Nat) : Bool := ai_at e.2.2 (.methodLink (ai_own e.1) e.2.1 objectInit)
theorem ai_OL_ok : ai_OL.all ai_ol1 = true := by decide +kernel
def ai_kl1 (e : Nat × Nat × Int32 × Nat) : Bool := ai_at e.2.2.2 (.constant (ai_own e.1) e.2.1 e.2.2.1)
theorem ai_KL_ok : ai_KL.all ai_kl1 = true := by decide +kernel
def ai_jl1 (e : Nat × Nat × Int32 × Nat) : Bool := ai_at e.2.2.2 (.constantLong (ai_own e.1) e.2.1 e.2.2.1.toInt64)
theorem ai_JL_ok : ai_JL.all ai_jl1 = true := by decide +kernel
def ai_nl1 (e : Nat × Nat × Nat × Nat) : Bool := decide (e.2.2.1 < 7) && ai_at e.2.2.2 (.classLink (ai_own e.1) e.2.1 (ai_cl e.2.2.1).1)
theorem ai_NL_ok : ai_NL.all ai_nl1 = true := by decide +kernel
def ai_ul1 (ci : Nat) : Bool := match ai_UL[ci]? with
  | some (ps, i, j) => (List.range (ai_cl ci).2.2).all (fun k => ai_at (ps.getD k 0) (u_lay (ai_cl ci).1 (ai_cl ci).2.1 k)) && (ai_at i (.instantiable (ai_cl ci).1 (ai_cl ci).2.2) && ai_at j (.initialized (ai_cl ci).1))
  | none => false
theorem ai_UL_ok : (List.range 7).all ai_ul1 = true := by decide +kernel
theorem ai_WL_ok : (ai_at (ai_WL.getD 0 0) (.arrayClass .int) && (ai_at (ai_WL.getD 1 0) (.arrayClass .boolean) && (ai_at (ai_WL.getD 2 0) (.instanceMethod objectInit) && ai_at (ai_WL.getD 3 0) (.code objectInit ⟨#[0xb1]⟩ 1 none)))) = true := by decide +kernel
def ai_xl1 (e : Nat × Nat × Nat × Nat) : Bool := ai_at e.2.2.2 (.methodLink (ai_own e.1) e.2.1 (if e.2.2.1 = 0 then Lib.Math.min.name else Lib.Math.max.name))
theorem ai_XL_ok : ai_XL.all ai_xl1 = true := by decide +kernel
theorem ai_YL_ok : (ai_at (ai_YL.getD 0 0) (.static Lib.Math.min.name) && (ai_at (ai_YL.getD 1 0) (.static Lib.Math.max.name) && ai_at (ai_YL.getD 2 0) (.initialized "java/lang/Math"))) = true := by decide +kernel
def ai_mt (m : Nat) : ai_Mt := ai_M.getD m (yL_law, cL_law, 0, none, 0, 0, 0, false)
abbrev ai_y (m : Nat) : MethodName := (ai_mt m).1
abbrev ai_c (m : Nat) : ByteArray := (ai_mt m).2.1
abbrev ai_ml (m : Nat) : Nat := (ai_mt m).2.2.1
abbrev ai_rt (m : Nat) : Option FieldType := (ai_mt m).2.2.2.1
abbrev ai_mo (m : Nat) : Nat := (ai_mt m).2.2.2.2.1
abbrev ai_fr (m : Nat) : Nat := (ai_mt m).2.2.2.2.2.1
abbrev ai_lo (m : Nat) : Nat := (ai_mt m).2.2.2.2.2.2.1
abbrev ai_ini (m : Nat) : Bool := (ai_mt m).2.2.2.2.2.2.2
/-- a call's row: its words, its name, how many arguments -/
def ai_cl1 (e : Nat × Nat × Nat × Nat × Nat × List Nat) : Bool :=
  let y := ai_y e.2.2.2.1
  let w := fun k => e.2.2.2.2.2.getD k 0
  let np := (parseMethodDescriptor y.desc).map (fun d => d.parameters.length)
  plainName y.cls && (decide (y.cls ≠ "java/lang/invoke/MethodHandle" ∧ y.cls ≠ "java/lang/invoke/VarHandle") && (ai_at (w 3) (.initialized y.cls) && (decide (e.2.2.2.1 < 139) &&
  (match e.2.2.1 with
  | 0 => ai_at (w 0) (.methodLink (ai_own e.1) e.2.1 y) && (ai_at (w 1) (.instanceMethod y) && (ai_at (w 2) (.selects y.cls y y) && decide (np = some (e.2.2.2.2.1 - 1) ∧ 1 ≤ e.2.2.2.2.1)))
  | 1 => ai_at (w 0) (.methodLink (ai_own e.1) e.2.1 y) && (ai_at (w 1) (.static y) && decide (np = some e.2.2.2.2.1))
  | 2 => ai_at (w 0) (.methodLink (ai_own e.1) e.2.1 y) && (ai_at (w 1) (.instanceMethod y) && decide (np = some (e.2.2.2.2.1 - 1) ∧ 1 ≤ e.2.2.2.2.1 ∧ y.name = "<init>" ∧ ai_rt e.2.2.2.1 = none))
  | 4 => decide (Cond.methodLinkNest (ai_own e.1) e.2.1 y RX5 ∈ ai_NW) && (ai_at (w 1) (.static y) && decide (np = some e.2.2.2.2.1))
  | 5 => decide (Cond.methodLinkNest (ai_own e.1) e.2.1 y RX5 ∈ ai_NW) && (ai_at (w 1) (.instanceMethod y) && decide (np = some (e.2.2.2.2.1 - 1) ∧ 1 ≤ e.2.2.2.2.1 ∧ y.name = "<init>" ∧ ai_rt e.2.2.2.1 = none))
  | _ => false))))
theorem ai_CL_ok : ai_CL.all ai_cl1 = true := by decide +kernel
-- what decode answers for a step, and what else a step asks
def ai_encs : List (Nat → Nat → Nat → Int32 → Instr × Nat) := [fun _ _ _ z => (.iconst z.toInt, 1), fun _ _ _ z => (.bipush z.toInt, 2), fun _ _ _ z => (.sipush z.toInt, 3), fun a _ _ _ => (.iload_n (Fin.ofNat 4 a), 1), fun a _ _ _ => (.iload a, 2), fun a _ _ _ => (.aload_n (Fin.ofNat 4 a), 1), fun a _ _ _ => (.istore_n (Fin.ofNat 4 a), 1), fun a _ _ _ => (.istore a, 2), fun a _ _ _ => (.astore_n (Fin.ofNat 4 a), 1), fun a _ _ z => (.iinc a z.toInt, 3),
  fun _ _ _ _ => (.iadd, 1), fun _ _ _ _ => (.isub, 1), fun _ _ _ _ => (.imul, 1), fun _ _ _ _ => (.iand, 1), fun _ _ _ _ => (.ior, 1), fun _ _ _ _ => (.ishl, 1), fun _ _ _ _ => (.ishr, 1), fun _ _ _ _ => (.iushr, 1), fun _ _ _ _ => (.idiv, 1), fun _ _ _ _ => (.irem, 1),
  fun _ _ _ _ => (.dup, 1), fun _ _ _ _ => (.dup2, 1), fun _ _ _ _ => (.pop, 1), fun _ _ c _ => (.getfield c, 3), fun _ _ c _ => (.putfield c, 3), fun _ _ c _ => (.putfield c, 3), fun _ _ c _ => (.putfield c, 3), fun _ _ c _ => (.putfield c, 3), fun _ _ c _ => (.putfield c, 3), fun _ _ _ _ => (.iaload, 1),
  fun _ _ _ _ => (.iastore, 1), fun _ _ _ _ => (.baload, 1), fun _ _ _ _ => (.bastore, 1), fun _ _ _ _ => (.aaload, 1), fun _ _ _ _ => (.aastore, 1), fun _ _ _ _ => (.arraylength, 1), fun _ _ _ _ => (.newarray .int, 2), fun _ _ _ _ => (.newarray .boolean, 2), fun _ _ c _ => (.anewarray c, 3), fun _ _ c _ => (.new c, 3),
  fun _ _ c _ => (.ldc c, 2), fun _ _ c _ => (.ldc_w c, 3), fun _ _ c _ => (.ldc2_w c, 3), fun a _ _ _ => (.lconst (Fin.ofNat 2 a), 1), fun _ _ _ _ => (.ladd, 1), fun _ _ _ _ => (.lcmp, 1), fun _ _ _ _ => (.aconst_null, 1), fun _ _ c _ => (.invokespecial c, 3), fun _ _ c _ => (.invokestatic c, 3), fun _ _ c _ => (.invokestatic c, 3)]
/-- of method m: o its class, whether it is a constructor, frames, locals -/
abbrev ai_Ok : Type := Nat → Nat → Nat → Nat → Int32 → Bool
def ai_okT : ai_Ok := fun _ _ _ _ _ => true
def ai_ok4 : ai_Ok := fun _ a _ _ _ => decide (a < 4)
def ai_okF (m a b c : Nat) : Bool := ai_FL.any (fun e => e.1 == ai_mo m && (e.2.1 == c && (e.2.2.1 == a && e.2.2.2.1 == b)))
def ai_okP (ty : FieldType → Bool) (fin : Bool) : ai_Ok := fun m a b c _ => ai_okF m a b c && (ty (ai_fty a b) && (((ai_cl a).2.1 b).2.2.2 == fin && (!fin || (ai_ini m && decide (((ai_cl a).2.1 b).1 = ai_own (ai_mo m))))))
def ai_oks : List ai_Ok := [ai_okT, fun _ _ _ _ z => decide ((Int8.ofInt z.toInt).toInt32 = z), fun _ _ _ _ z => decide ((Int16.ofInt z.toInt).toInt32 = z), ai_ok4, ai_okT, ai_ok4, ai_ok4, ai_okT, ai_ok4, ai_okT,
  ai_okT, ai_okT, ai_okT, ai_okT, ai_okT, ai_okT, ai_okT, ai_okT, ai_okT, ai_okT,
  ai_okT, ai_okT, ai_okT, fun m a b c _ => ai_okF m a b c, ai_okP (fun t => decide (t = .int)) false, ai_okP (fun t => decide (t = .boolean)) false, ai_okP (fun t => decide (t = .long)) false, ai_okP ai_isR false, ai_okP ai_isR true, ai_okT,
  ai_okT, ai_okT, ai_okT, ai_okT, ai_okT, ai_okT, ai_okT, ai_okT, fun m _ _ c _ => ai_NL.any (fun e => e.1 == ai_mo m && (e.2.1 == c && e.2.2.1 == 1)), fun m a _ c _ => ai_NL.any (fun e => e.1 == ai_mo m && (e.2.1 == c && e.2.2.1 == a)),
  fun m _ _ c z => ai_KL.any (fun e => e.1 == ai_mo m && (e.2.1 == c && decide (e.2.2.1 = z))), fun m _ _ c z => ai_KL.any (fun e => e.1 == ai_mo m && (e.2.1 == c && decide (e.2.2.1 = z))), fun m _ _ c z => ai_JL.any (fun e => e.1 == ai_mo m && (e.2.1 == c && decide (e.2.2.1 = z))), fun _ a _ _ z => decide (a < 2) && decide (Int64.ofNat a = z.toInt64), ai_okT, ai_okT, ai_okT, fun m _ _ c _ => ai_OL.any (fun e => e.1 == ai_mo m && e.2.1 == c) && decide (1 ≤ ai_fr m ∧ 20 ≤ ai_lo m),
  fun m _ _ c _ => ai_XL.any (fun e => e.1 == ai_mo m && (e.2.1 == c && e.2.2.1 == 0)) && decide (1 ≤ ai_fr m ∧ 20 ≤ ai_lo m), fun m _ _ c _ => ai_XL.any (fun e => e.1 == ai_mo m && (e.2.1 == c && e.2.2.1 == 1)) && decide (1 ≤ ai_fr m ∧ 20 ≤ ai_lo m)]
def ai_ck1 (m : Nat) (i : ai_I) (pc : Nat) : Option Nat := match ai_encs[i.1]?, ai_oks[i.1]? with
  | some f, some g => if (decide (decode (ai_c m) pc = .ok (f i.2.1 i.2.2.1 i.2.2.2.1 i.2.2.2.2)) && g m i.2.1 i.2.2.1 i.2.2.2.1 i.2.2.2.2) = true then some (pc + (f i.2.1 i.2.2.1 i.2.2.2.1 i.2.2.2.2).2) else none
  | _, _ => none
def ai_ckl (m : Nat) : List ai_I → Nat → Option Nat
  | [], pc => some pc
  | i :: is, pc => match ai_ck1 m i pc with
    | some pc' => ai_ckl m is pc'
    | none => none
def ai_pc (m b : Nat) : Nat := (ai_blk m b).1
def ai_off (m pc b : Nat) : Int := (ai_pc m b : Int) - (pc : Int)
def ai_dec (m pc : Nat) (i : Instr) (n : Nat) : Bool := decide (decode (ai_c m) pc = .ok (i, n))
def ai_ckc (m pc : Nat) (t : ai_T) (ck : Nat) (i : Nat → Instr) : Bool := match t.2.2.2.2.2 with
  | [(_, x)] => ai_dec m pc (i x) 3 && (decide (ai_pc m t.2.1 = pc + 3) && (ai_CL.any (fun e => e.1 == ai_mo m && (e.2.1 == x && (e.2.2.1 == ck && (e.2.2.2.1 == t.2.2.1 && e.2.2.2.2.1 == t.2.2.2.1)))) && decide (ai_fr t.2.2.1 + 1 ≤ ai_fr m ∧ 8 + (ai_ml t.2.2.1 + 11) + ai_lo t.2.2.1 ≤ ai_lo m)))
  | _ => false
def ai_ckt (m pc : Nat) (t : ai_T) : Bool := match t.1 with
  | 0 => decide (ai_pc m t.2.1 = pc)
  | 1 => ai_dec m pc (.goto (ai_off m pc t.2.1)) 3
  | 2 => ai_dec m pc (.ifCond .eq (ai_off m pc t.2.1)) 3 && decide (ai_pc m t.2.2.1 = pc + 3)
  | 3 => ai_dec m pc (.ifCond .ne (ai_off m pc t.2.1)) 3 && decide (ai_pc m t.2.2.1 = pc + 3)
  | 4 => ai_dec m pc (.ifCond .lt (ai_off m pc t.2.1)) 3 && decide (ai_pc m t.2.2.1 = pc + 3)
  | 5 => ai_dec m pc (.ifCond .ge (ai_off m pc t.2.1)) 3 && decide (ai_pc m t.2.2.1 = pc + 3)
  | 6 => ai_dec m pc (.ifCond .gt (ai_off m pc t.2.1)) 3 && decide (ai_pc m t.2.2.1 = pc + 3)
  | 7 => ai_dec m pc (.ifCond .le (ai_off m pc t.2.1)) 3 && decide (ai_pc m t.2.2.1 = pc + 3)
  | 8 => ai_dec m pc (.if_icmp .eq (ai_off m pc t.2.1)) 3 && decide (ai_pc m t.2.2.1 = pc + 3)
  | 9 => ai_dec m pc (.if_icmp .ne (ai_off m pc t.2.1)) 3 && decide (ai_pc m t.2.2.1 = pc + 3)
  | 10 => ai_dec m pc (.if_icmp .lt (ai_off m pc t.2.1)) 3 && decide (ai_pc m t.2.2.1 = pc + 3)
  | 11 => ai_dec m pc (.if_icmp .ge (ai_off m pc t.2.1)) 3 && decide (ai_pc m t.2.2.1 = pc + 3)
  | 12 => ai_dec m pc (.if_icmp .gt (ai_off m pc t.2.1)) 3 && decide (ai_pc m t.2.2.1 = pc + 3)
  | 13 => ai_dec m pc (.if_icmp .le (ai_off m pc t.2.1)) 3 && decide (ai_pc m t.2.2.1 = pc + 3)
  | 14 => ai_dec m pc (.ifnull (ai_off m pc t.2.1)) 3 && decide (ai_pc m t.2.2.1 = pc + 3)
  | 15 => ai_dec m pc (.ifnonnull (ai_off m pc t.2.1)) 3 && decide (ai_pc m t.2.2.1 = pc + 3)
  | 16 => ai_dec m pc (.tableswitch (ai_off m pc t.2.1) (t.2.2.2.2.2.headD (0, 0)).1.toInt ((t.2.2.2.2.2.headD (0, 0)).1.toInt + t.2.2.2.2.2.length - 1) (t.2.2.2.2.2.map (fun q => ai_off m pc q.2)).toArray) t.2.2.2.1 && (List.range t.2.2.2.2.2.length).all (fun i => decide ((t.2.2.2.2.2.getD i (0, 0)).1.toInt = (t.2.2.2.2.2.headD (0, 0)).1.toInt + i))
  | 17 => ai_dec m pc (.lookupswitch (ai_off m pc t.2.1) (t.2.2.2.2.2.map (fun q => (q.1.toInt, ai_off m pc q.2))).toArray) t.2.2.2.1 && (((t.2.2.2.2.2.map (fun q => (q.1.toInt, ai_off m pc q.2))).zip ((t.2.2.2.2.2.map (fun q => (q.1.toInt, ai_off m pc q.2))).drop 1)).all (fun (a, next) => a.1 < next.1))
  | 18 => ai_ckc m pc t 0 .invokevirtual && decide ((ai_cl t.2.2.2.2.1).1 = (ai_y t.2.2.1).cls ∧ t.2.2.2.2.1 < 7)
  | 19 => ai_ckc m pc t 1 .invokestatic
  | 20 => ai_ckc m pc t 2 .invokespecial
  | 21 => ai_ckc m pc t 4 .invokestatic
  | 22 => ai_ckc m pc t 5 .invokespecial
  | 23 => ai_dec m pc .ireturn 1 && decide (ai_rt m = some .int)
  | 24 => ai_dec m pc .ireturn 1 && decide (ai_rt m = some .boolean)
  | 25 => ai_dec m pc .lreturn 1 && decide (ai_rt m = some .long)
  | 26 => ai_dec m pc .areturn 1 && (match ai_rt m with
    | some t => ai_isR t
    | none => false)
  | 27 => ai_dec m pc .return_ 1 && decide (ai_rt m = none)
  | _ => false
def ai_ckb (m b : Nat) : Bool := match ai_ckl m (ai_blk m b).2.1 (ai_blk m b).1 with
  | some pc => ai_ckt m pc (ai_blk m b).2.2
  | none => false
def ai_ckm (m : Nat) : Bool := (List.range (ai_pr.getD m []).length).all (ai_ckb m) && (decide (ai_pc m 0 = 0) && decide (ai_ini m = decide ((ai_y m).name = "<init>") ∧ ai_own (ai_mo m) = (ai_y m).cls))
