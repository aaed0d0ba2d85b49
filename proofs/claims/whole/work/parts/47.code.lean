def tw (q : Nat) : Nat := if popc q = 4 then 1023 - q else q
def scC : Nat → Nat → Nat → Nat → Bool
  | 0, _, e, u => Nat.beq e 252 && Nat.beq u 264
  | d + 1, w, e, u =>
    if popc w = 5 then Nat.blt e 252 && Nat.beq (lwL.getD e 0) w && Nat.beq (vlL.getD w 0) (e + 1) && (!Nat.beq (popc (1023 - w)) 4) && scC d (w + 1) (e + 1) u
    else if popc w = 6 then
      Nat.beq (popc (1023 - w)) 4 && (if u < 264 then Nat.beq (lwL.getD u 0) w && Nat.beq (vlL.getD w 0) (u + 1) && Nat.beq (vlL.getD (1023 - w) 0) (u + 1) && scC d (w + 1) e (u + 1) else Nat.beq (vlL.getD w 0) 0 && Nat.beq (vlL.getD (1023 - w) 0) 0 && scC d (w + 1) e u)
    else (Nat.beq (popc w) 4 || Nat.beq (vlL.getD w 0) 0) && (!Nat.beq (popc (1023 - w)) 4) && scC d (w + 1) e u
set_option maxRecDepth 1000000 in
theorem scC_ok : scC 1024 0 0 252 = true := by decide +kernel
/-- the class's two tables behind the words below w -/
def IC (M : Mem) (w e u : Nat) : Prop := (∀ k, k < e → M 2 k = lw k) ∧ (∀ k, 252 ≤ k → k < u → M 2 k = lw k) ∧ ∀ q, q < 1024 → M 3 q = if tw q < w then vl q else -1
theorem cd_s (x : Nat) : cd (x + 1) = nI x := rfl
theorem tw_same {w q : Nat} (h : tw q ≠ w) : (tw q < w + 1 ↔ tw q < w) := by omega
theorem IC.end_ {M : Mem} (h : IC M 1024 252 264) : TabC M := by
  refine ⟨fun k hk => ?_, fun q hq => ?_⟩
  · by_cases z : k < 252
    · exact h.1 k z
    · exact h.2.1 k (by omega) hk
  · rw [h.2.2 q hq, if_pos]
    unfold tw
    split <;> omega
abbrev L1 : List (Nat × Nat × Nat) := [(1, 1, 3), (1, 0, 2)]
