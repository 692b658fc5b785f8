/-! constructors, by evaluation -/
def cz : Nat → Int32 := fun _ => 0
def cz6 : Nat → Int32 := upd (upd (upd (upd (upd (upd cz 0 0) 1 0) 2 0) 3 0) 4 0) 5 0
def cM : sv_M := (cz, cz, 0, 0, 0, 0, 0, -9)
def cG : sv_G := (4, 3, 20, 0, cz, cz, cz, cz)
def cV : sv_V := (cG, cG, false, (cz, 0, 0, 0, 0, 0, 0, 0, 0, 0, 0), (cz6, cz6, 0, 0, 0, 0, 3, -9), (fun _ => cM, 0, 0), fun _ => cM, 0, (cz, cz, cz, 0), cz, cz, 0)
set_option maxRecDepth 100000 in
theorem c_class (S : ai_S) (D : sv_D) : ai_run S 60 24 0 [.ref 1, ai_u] [] [.inr (5, ai_fresh 5)] = some (none, (HP cV D).take 61) := rfl
