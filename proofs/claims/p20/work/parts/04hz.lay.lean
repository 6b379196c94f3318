def xm_end (n : Nat) (l m : Nat → Nat) (R1 : Option xPL) (R2 : Option (xF × xF × xF × xF × xF × Int32)) : Prop := ∃ (a b t : Nat → Nat) (th ld rd ll rl si : xF) (lc tc lu : Int32) (th2 ld2 rd2 ll2 rl2 : xF) (la2 : Int32), R1 = some (th, ld, rd, ll, rl, si, lc, tc, lu) ∧ R2 = some (th2, ld2, rd2, ll2, rl2, la2) ∧ xm_sim n 100 l m a b t th ld rd ll rl si lc tc lu th2 ld2 rd2 ll2 rl2 la2
theorem xm_sn_none (s : Nat → Nat) : xm_sn s none = -1 := rfl
theorem xm_sn_some (s : Nat → Nat) (p : Nat) : xm_sn s (some p) = nI (s p) := rfl
