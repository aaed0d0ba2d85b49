def scM : Nat → Nat → Nat → Nat → Bool
  | 0, _, e, u => Nat.beq e 252 && Nat.beq u 12
  | d + 1, w, e, u =>
    if popc w = 5 then Nat.blt e 252 && Nat.beq (lwL.getD e 0) w && Nat.beq (enL.getD w 0) (e + 1) && scM d (w + 1) (e + 1) u
    else Nat.beq (enL.getD w 0) 0 && (if popc w = 6 ∧ u < 12 then Nat.beq (lwL.getD (252 + u) 0) w && scM d (w + 1) e (u + 1) else scM d (w + 1) e u)
set_option maxRecDepth 1000000 in
theorem scM_ok : scM 1024 0 0 0 = true := by decide +kernel
