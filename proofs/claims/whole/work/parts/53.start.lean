theorem RLf_none : ∀ {l : List (Nat × Nat × Nat)} {a k : Nat}, (∀ q ∈ l, ¬ (a = q.1 ∧ k = q.2.1)) → RLf l a k = none
  | [], _, _, _ => rfl
  | q :: t, a, k, h => by
    simp only [RLf]
    rw [if_neg (h q List.mem_cons_self)]
    exact RLf_none (fun q hq => h q (List.mem_cons_of_mem _ hq))
set_option maxRecDepth 100000 in
theorem L6_in : ∀ a, a < 62 → ∀ k, k < 35 → RLf (L6 L5) a k = rfs a k := by decide +kernel
set_option maxRecDepth 100000 in
theorem L6_lt : ∀ q ∈ L6 L5, q.1 < 62 ∧ q.2.1 < 35 := by decide +kernel
set_option maxRecDepth 100000 in
theorem rft_len : rft.length = 62 ∧ ∀ l ∈ rft, l.length ≤ 35 := by decide +kernel
theorem L6_eq : RLf (L6 L5) = rfs := by
  funext a k
  by_cases h : a < 62 ∧ k < 35
  · exact L6_in a h.1 k h.2
  · rw [RLf_none (fun q hq z => by have := L6_lt q hq; omega)]
    unfold rfs
    by_cases ha : a < 62
    · have h2 : rft[a]? = some (rft[a]'(by rw [rft_len.1]; exact ha)) := List.getElem?_eq_getElem _
      rw [h2]
      have := rft_len.2 _ (List.getElem_mem (l := rft) (by rw [rft_len.1]; exact ha))
      simp only [Option.getD_some]
      rw [List.getElem?_eq_none (by omega)]
      rfl
    · rw [List.getElem?_eq_none (l := rft) (by rw [rft_len.1]; omega)]
      rfl
theorem tk62 : shp.take 62 = shp := by decide +kernel
abbrev s00 : SSt := ((0, fun _ => 0, 0, 0, 0, fun _ => 0), (fun _ => 0, 0, fun _ => 0, fun _ => 0), (fun _ => 0, fun _ => 0, fun _ => 0, fun _ => 0, fun _ => 0, fun _ => 0, fun _ _ => 0), 0)
abbrev P00 : PL := (0, fun _ => 0, fun _ => 0)
theorem start_inv {M1 M2 : Mem} (J : Jc M1 8) (T : TabM M2) (F : FrS [41, 42, 43] [] M1 M2) (ok : OkH (shp.take 40, RLf L5, M1)) : CI M2 0 (fun _ => 0) P00 s00 0 0 0 (fun _ => 0) ∧ MI M2 0 (fun _ => 0) P00 s00 0 0 0 (fun _ => 0) ∧ okA 0 0 (fun _ => 0) P00 s00 0 0 0 := by
  obtain ⟨j1, j2, j3, j4⟩ := J
  have hz : ∀ a k, a < 24 → a ≠ 2 → a ≠ 3 → a ≠ 5 → M2 a k = 0 := fun a k h1 h2 h3 h5 => by
    rw [F a k (by simp; omega) (by simp)]
    exact j4 a k h2 h3 h5 (fun t _ q => by omega)
  have hm : ∀ a k, 40 ≤ a → a ≠ 41 → a ≠ 42 → a ≠ 43 → M2 a k = 0 := fun a k h1 h2 h3 h4 => by
    rw [F a k (by simp; omega) (by simp)]
    exact ok.2.2 a k (by show (shp.take 40).length ≤ a; rw [tk_len (by decide)]; exact h1)
  have hc : ∀ a k, 24 ≤ a → a < 40 → k ≠ 0 → M2 a k = 0 := fun a k h1 h2 h3 => by
    rw [F a k (by simp; omega) (by simp)]
    exact j4 a k (by omega) (by omega) (by omega) (fun t _ q => h3 q.2)
  have ht : ∀ t, t < 8 → M2 (24 + 2 * t) 0 = nI t := fun t h => by
    rw [F _ _ (by simp; omega) (by simp)]
    exact j3 t h
  refine ⟨⟨⟨hz _ _ (by decide) (by decide) (by decide) (by decide), by decide, fun j hj => absurd hj (by omega)⟩, ⟨⟨j1.frS F (by decide) (by simp), j2.frS F (by decide) (by simp), ⟨hz _ _ (by decide) (by decide) (by decide) (by decide), fun j _ => hz _ _ (by decide) (by decide) (by decide) (by decide), hz _ _ (by decide) (by decide) (by decide) (by decide), hz _ _ (by decide) (by decide) (by decide) (by decide), hz _ _ (by decide) (by decide) (by decide) (by decide), fun j hj => absurd hj (by simp)⟩, ⟨fun j _ => hz _ _ (by decide) (by decide) (by decide) (by decide), hz _ _ (by decide) (by decide) (by decide) (by decide), fun j hj => absurd hj (by simp)⟩, ⟨hz _ _ (by decide) (by decide) (by decide) (by decide), fun j hj => absurd hj (by simp)⟩⟩, fun t h => ⟨ht t h, hc _ _ (by omega) (by omega) (by decide), hc _ _ (by omega) (by omega) (by decide), hc _ _ (by omega) (by omega) (by decide), hc _ _ (by omega) (by omega) (by decide), hc _ _ (by omega) (by omega) (by decide), hc _ _ (by omega) (by omega) (by decide)⟩, fun t h => ⟨fun q => absurd (show (0 : Nat) = 1 from q) (by decide), fun q => absurd (show (0 : Nat) = 2 from q) (by decide)⟩, hz _ _ (by decide) (by decide) (by decide) (by decide), hz _ _ (by decide) (by decide) (by decide) (by decide)⟩, hz _ _ (by decide) (by decide) (by decide) (by decide), fun i _ => by rw [if_neg (by omega)]; exact hz _ _ (by decide) (by decide) (by decide) (by decide)⟩, ⟨⟨hm _ _ (by decide) (by decide) (by decide) (by decide), fun j hj => absurd hj (by omega)⟩, ⟨⟨T, ⟨hm _ _ (by decide) (by decide) (by decide) (by decide), fun j _ => hm _ _ (by decide) (by decide) (by decide) (by decide), hm _ _ (by decide) (by decide) (by decide) (by decide), hm _ _ (by decide) (by decide) (by decide) (by decide), hm _ _ (by decide) (by decide) (by decide) (by decide), fun j hj => absurd hj (by simp)⟩, ⟨fun j _ => hm _ _ (by decide) (by decide) (by decide) (by decide), hm _ _ (by decide) (by decide) (by decide) (by decide), fun j hj => absurd hj (by simp)⟩, ⟨hm _ _ (by decide) (by decide) (by decide) (by decide), fun j hj => absurd hj (by simp)⟩⟩, fun t h => ⟨hm _ _ (by decide) (by decide) (by decide) (by decide), hm _ _ (by decide) (by decide) (by decide) (by decide), hm _ _ (by decide) (by decide) (by decide) (by decide), hm _ _ (by decide) (by decide) (by decide) (by decide), hm _ _ (by decide) (by decide) (by decide) (by decide), hm _ _ (by decide) (by decide) (by decide) (by decide)⟩, fun t h => ⟨fun q => absurd (show (0 : Nat) = 1 from q) (by decide), fun q => absurd (show (0 : Nat) = 2 from q) (by decide)⟩, hm _ _ (by decide) (by decide) (by decide) (by decide), hm _ _ (by decide) (by decide) (by decide) (by decide)⟩, hm _ _ (by decide) (by decide) (by decide) (by decide), hm _ _ (by decide) (by decide) (by decide) (by decide), fun i hi => absurd hi (by omega)⟩, ⟨⟨by decide, fun j hj => absurd hj (by omega)⟩, ⟨by decide, fun j hj => absurd hj (by simp)⟩, ⟨⟨by decide, fun j hj => absurd hj (by simp)⟩, fun t _ => ⟨Nat.zero_le _, Nat.zero_le _, Nat.zero_le _, Nat.zero_le _, fun _ => rfl, fun q => absurd rfl q, (show (0 : Nat) < 100000 by decide), Nat.zero_le _⟩, by decide⟩, by decide, by decide, by decide, by decide, by decide⟩⟩
