set_option maxRecDepth 100000 in
theorem flX0_9 : Cond.fieldLink mX0_init.1.cls 9 ((clC 0).2.1 0).1 ((clC 0).2.1 0).2.1 ((clC 0).2.1 0).2.2.1 ∈ gG := gG_of (by decide +kernel) rfl
set_option maxRecDepth 100000 in
theorem flX1_9 : Cond.fieldLink mX1_init.1.cls 9 ((clC 1).2.1 0).1 ((clC 1).2.1 0).2.1 ((clC 1).2.1 0).2.2.1 ∈ gG := gG_of (by decide +kernel) rfl
set_option maxRecDepth 100000 in
theorem flX1_15 : Cond.fieldLink mX1_init.1.cls 15 ((clC 1).2.1 1).1 ((clC 1).2.1 1).2.1 ((clC 1).2.1 1).2.2.1 ∈ gG := gG_of (by decide +kernel) rfl
set_option maxRecDepth 100000 in
theorem flX2_9 : Cond.fieldLink mX2_init.1.cls 9 ((clC 2).2.1 1).1 ((clC 2).2.1 1).2.1 ((clC 2).2.1 1).2.2.1 ∈ gG := gG_of (by decide +kernel) rfl
set_option maxRecDepth 100000 in
theorem flX2_19 : Cond.fieldLink mX2_init.1.cls 19 ((clC 2).2.1 0).1 ((clC 2).2.1 0).2.1 ((clC 2).2.1 0).2.2.1 ∈ gG := gG_of (by decide +kernel) rfl
set_option maxRecDepth 100000 in
theorem flX3_9 : Cond.fieldLink mX3_init.1.cls 9 ((clC 3).2.1 0).1 ((clC 3).2.1 0).2.1 ((clC 3).2.1 0).2.2.1 ∈ gG := gG_of (by decide +kernel) rfl
set_option maxRecDepth 100000 in
theorem flX3_15 : Cond.fieldLink mX3_init.1.cls 15 ((clC 3).2.1 1).1 ((clC 3).2.1 1).2.1 ((clC 3).2.1 1).2.2.1 ∈ gG := gG_of (by decide +kernel) rfl
set_option maxRecDepth 100000 in
theorem flX3_18 : Cond.fieldLink mX3_init.1.cls 18 ((clC 3).2.1 2).1 ((clC 3).2.1 2).2.1 ((clC 3).2.1 2).2.2.1 ∈ gG := gG_of (by decide +kernel) rfl
set_option maxRecDepth 100000 in
theorem flX4_9 : Cond.fieldLink mX4_init.1.cls 9 ((clC 4).2.1 1).1 ((clC 4).2.1 1).2.1 ((clC 4).2.1 1).2.2.1 ∈ gG := gG_of (by decide +kernel) rfl
set_option maxRecDepth 100000 in
theorem flX4_18 : Cond.fieldLink mX4_init.1.cls 18 ((clC 4).2.1 2).1 ((clC 4).2.1 2).2.1 ((clC 4).2.1 2).2.2.1 ∈ gG := gG_of (by decide +kernel) rfl
set_option maxRecDepth 100000 in
theorem flX4_22 : Cond.fieldLink mX4_init.1.cls 22 ((clC 4).2.1 3).1 ((clC 4).2.1 3).2.1 ((clC 4).2.1 3).2.2.1 ∈ gG := gG_of (by decide +kernel) rfl
set_option maxRecDepth 100000 in
theorem flX4_25 : Cond.fieldLink mX4_init.1.cls 25 ((clC 4).2.1 4).1 ((clC 4).2.1 4).2.1 ((clC 4).2.1 4).2.2.1 ∈ gG := gG_of (by decide +kernel) rfl
set_option maxRecDepth 100000 in
theorem flX4_28 : Cond.fieldLink mX4_init.1.cls 28 ((clC 4).2.1 6).1 ((clC 4).2.1 6).2.1 ((clC 4).2.1 6).2.2.1 ∈ gG := gG_of (by decide +kernel) rfl
set_option maxRecDepth 100000 in
theorem flX4_31 : Cond.fieldLink mX4_init.1.cls 31 ((clC 4).2.1 7).1 ((clC 4).2.1 7).2.1 ((clC 4).2.1 7).2.2.1 ∈ gG := gG_of (by decide +kernel) rfl
set_option maxRecDepth 100000 in
theorem flX4_34 : Cond.fieldLink mX4_init.1.cls 34 ((clC 4).2.1 9).1 ((clC 4).2.1 9).2.1 ((clC 4).2.1 9).2.2.1 ∈ gG := gG_of (by decide +kernel) rfl
set_option maxRecDepth 100000 in
theorem flX4_37 : Cond.fieldLink mX4_init.1.cls 37 ((clC 4).2.1 0).1 ((clC 4).2.1 0).2.1 ((clC 4).2.1 0).2.2.1 ∈ gG := gG_of (by decide +kernel) rfl
set_option maxRecDepth 100000 in
theorem flX5_10 : Cond.fieldLink mX5_init.1.cls 10 ((clC 5).2.1 0).1 ((clC 5).2.1 0).2.1 ((clC 5).2.1 0).2.2.1 ∈ gG := gG_of (by decide +kernel) rfl
set_option maxRecDepth 100000 in
theorem flX5_21 : Cond.fieldLink mX5_init.1.cls 21 ((clC 5).2.1 1).1 ((clC 5).2.1 1).2.1 ((clC 5).2.1 1).2.2.1 ∈ gG := gG_of (by decide +kernel) rfl
set_option maxRecDepth 100000 in
theorem flX5_28 : Cond.fieldLink mX5_init.1.cls 28 ((clC 5).2.1 2).1 ((clC 5).2.1 2).2.1 ((clC 5).2.1 2).2.2.1 ∈ gG := gG_of (by decide +kernel) rfl
set_option maxRecDepth 100000 in
theorem flX5_35 : Cond.fieldLink mX5_init.1.cls 35 ((clC 5).2.1 3).1 ((clC 5).2.1 3).2.1 ((clC 5).2.1 3).2.2.1 ∈ gG := gG_of (by decide +kernel) rfl
set_option maxRecDepth 100000 in
theorem flX5_39 : Cond.fieldLink mX5_init.1.cls 39 ((clC 5).2.1 4).1 ((clC 5).2.1 4).2.1 ((clC 5).2.1 4).2.2.1 ∈ gG := gG_of (by decide +kernel) rfl
set_option maxRecDepth 100000 in
theorem flX5_44 : Cond.fieldLink mX5_init.1.cls 44 ((clC 5).2.1 5).1 ((clC 5).2.1 5).2.1 ((clC 5).2.1 5).2.2.1 ∈ gG := gG_of (by decide +kernel) rfl
set_option maxRecDepth 100000 in
theorem flX5_48 : Cond.fieldLink mX5_init.1.cls 48 ((clC 5).2.1 6).1 ((clC 5).2.1 6).2.1 ((clC 5).2.1 6).2.2.1 ∈ gG := gG_of (by decide +kernel) rfl
set_option maxRecDepth 100000 in
theorem flX6_7 : Cond.fieldLink mX6_init.1.cls 7 ((clC 6).2.1 0).1 ((clC 6).2.1 0).2.1 ((clC 6).2.1 0).2.2.1 ∈ gG := gG_of (by decide +kernel) rfl
set_option maxRecDepth 100000 in
theorem flX6_13 : Cond.fieldLink mX6_init.1.cls 13 ((clC 6).2.1 1).1 ((clC 6).2.1 1).2.1 ((clC 6).2.1 1).2.2.1 ∈ gG := gG_of (by decide +kernel) rfl
set_option maxRecDepth 100000 in
theorem flX6_16 : Cond.fieldLink mX6_init.1.cls 16 ((clC 6).2.1 2).1 ((clC 6).2.1 2).2.1 ((clC 6).2.1 2).2.2.1 ∈ gG := gG_of (by decide +kernel) rfl
set_option maxRecDepth 100000 in
theorem flX6_19 : Cond.fieldLink mX6_init.1.cls 19 ((clC 6).2.1 4).1 ((clC 6).2.1 4).2.1 ((clC 6).2.1 4).2.2.1 ∈ gG := gG_of (by decide +kernel) rfl
set_option maxRecDepth 100000 in
theorem flX6_22 : Cond.fieldLink mX6_init.1.cls 22 ((clC 6).2.1 6).1 ((clC 6).2.1 6).2.1 ((clC 6).2.1 6).2.2.1 ∈ gG := gG_of (by decide +kernel) rfl
set_option maxRecDepth 100000 in
theorem flX6_25 : Cond.fieldLink mX6_init.1.cls 25 ((clC 6).2.1 7).1 ((clC 6).2.1 7).2.1 ((clC 6).2.1 7).2.2.1 ∈ gG := gG_of (by decide +kernel) rfl
set_option maxRecDepth 100000 in
theorem flX6_28 : Cond.fieldLink mX6_init.1.cls 28 ((clC 6).2.1 11).1 ((clC 6).2.1 11).2.1 ((clC 6).2.1 11).2.2.1 ∈ gG := gG_of (by decide +kernel) rfl
set_option maxRecDepth 100000 in
theorem flX6_31 : Cond.fieldLink mX6_init.1.cls 31 ((clC 6).2.1 13).1 ((clC 6).2.1 13).2.1 ((clC 6).2.1 13).2.2.1 ∈ gG := gG_of (by decide +kernel) rfl
set_option maxRecDepth 100000 in
theorem flX6_34 : Cond.fieldLink mX6_init.1.cls 34 ((clC 6).2.1 15).1 ((clC 6).2.1 15).2.1 ((clC 6).2.1 15).2.2.1 ∈ gG := gG_of (by decide +kernel) rfl
set_option maxRecDepth 100000 in
theorem flX6_37 : Cond.fieldLink mX6_init.1.cls 37 ((clC 6).2.1 16).1 ((clC 6).2.1 16).2.1 ((clC 6).2.1 16).2.2.1 ∈ gG := gG_of (by decide +kernel) rfl
set_option maxRecDepth 100000 in
theorem flX6_40 : Cond.fieldLink mX6_init.1.cls 40 ((clC 6).2.1 17).1 ((clC 6).2.1 17).2.1 ((clC 6).2.1 17).2.2.1 ∈ gG := gG_of (by decide +kernel) rfl
set_option maxRecDepth 100000 in
theorem flX6_43 : Cond.fieldLink mX6_init.1.cls 43 ((clC 6).2.1 19).1 ((clC 6).2.1 19).2.1 ((clC 6).2.1 19).2.2.1 ∈ gG := gG_of (by decide +kernel) rfl
set_option maxRecDepth 100000 in
theorem flX6_46 : Cond.fieldLink mX6_init.1.cls 46 ((clC 6).2.1 20).1 ((clC 6).2.1 20).2.1 ((clC 6).2.1 20).2.2.1 ∈ gG := gG_of (by decide +kernel) rfl
set_option maxRecDepth 100000 in
theorem flX6_49 : Cond.fieldLink mX6_init.1.cls 49 ((clC 6).2.1 21).1 ((clC 6).2.1 21).2.1 ((clC 6).2.1 21).2.2.1 ∈ gG := gG_of (by decide +kernel) rfl
set_option maxRecDepth 100000 in
theorem flX6_52 : Cond.fieldLink mX6_init.1.cls 52 ((clC 6).2.1 22).1 ((clC 6).2.1 22).2.1 ((clC 6).2.1 22).2.2.1 ∈ gG := gG_of (by decide +kernel) rfl
set_option maxRecDepth 100000 in
theorem flX6_55 : Cond.fieldLink mX6_init.1.cls 55 ((clC 6).2.1 23).1 ((clC 6).2.1 23).2.1 ((clC 6).2.1 23).2.2.1 ∈ gG := gG_of (by decide +kernel) rfl
set_option maxRecDepth 100000 in
theorem flX6_58 : Cond.fieldLink mX6_init.1.cls 58 ((clC 6).2.1 24).1 ((clC 6).2.1 24).2.1 ((clC 6).2.1 24).2.2.1 ∈ gG := gG_of (by decide +kernel) rfl
set_option maxRecDepth 100000 in
theorem flX6_61 : Cond.fieldLink mX6_init.1.cls 61 ((clC 6).2.1 25).1 ((clC 6).2.1 25).2.1 ((clC 6).2.1 25).2.2.1 ∈ gG := gG_of (by decide +kernel) rfl
set_option maxRecDepth 100000 in
theorem flX6_64 : Cond.fieldLink mX6_init.1.cls 64 ((clC 6).2.1 26).1 ((clC 6).2.1 26).2.1 ((clC 6).2.1 26).2.2.1 ∈ gG := gG_of (by decide +kernel) rfl
set_option maxRecDepth 100000 in
theorem flX6_67 : Cond.fieldLink mX6_init.1.cls 67 ((clC 6).2.1 27).1 ((clC 6).2.1 27).2.1 ((clC 6).2.1 27).2.2.1 ∈ gG := gG_of (by decide +kernel) rfl
set_option maxRecDepth 100000 in
theorem flX6_70 : Cond.fieldLink mX6_init.1.cls 70 ((clC 6).2.1 32).1 ((clC 6).2.1 32).2.1 ((clC 6).2.1 32).2.2.1 ∈ gG := gG_of (by decide +kernel) rfl
set_option maxRecDepth 100000 in
theorem clX4_15 : Cond.classLink RX4 15 (clC 0).1 ∈ gG := gG_of (by decide +kernel) rfl
set_option maxRecDepth 100000 in
theorem clX5_7 : Cond.classLink RX5 7 (clC 1).1 ∈ gG := gG_of (by decide +kernel) rfl
set_option maxRecDepth 100000 in
theorem clX5_16 : Cond.classLink RX5 16 (clC 4).1 ∈ gG := gG_of (by decide +kernel) rfl
set_option maxRecDepth 100000 in
theorem clX5_25 : Cond.classLink RX5 25 (clC 3).1 ∈ gG := gG_of (by decide +kernel) rfl
set_option maxRecDepth 100000 in
theorem clX5_32 : Cond.classLink RX5 32 (clC 0).1 ∈ gG := gG_of (by decide +kernel) rfl
set_option maxRecDepth 100000 in
theorem clX5_42 : Cond.classLink RX5 42 (clC 2).1 ∈ gG := gG_of (by decide +kernel) rfl
set_option maxRecDepth 100000 in
theorem inw0 : Cond.instantiable (clC 0).1 (clC 0).2.2 ∈ gG := gG_of (by decide +kernel) rfl
set_option maxRecDepth 100000 in
theorem iniw0 : Cond.initialized (clC 0).1 ∈ gG := gG_of (by decide +kernel) rfl
set_option maxRecDepth 100000 in
theorem dfv0 : ∀ j, j < (clC 0).2.2 → defaultValue (tyA 0 j) = if fref 0 j = true then Value.null else .int 0 := by decide +kernel
set_option maxRecDepth 100000 in
theorem inw1 : Cond.instantiable (clC 1).1 (clC 1).2.2 ∈ gG := gG_of (by decide +kernel) rfl
set_option maxRecDepth 100000 in
theorem iniw1 : Cond.initialized (clC 1).1 ∈ gG := gG_of (by decide +kernel) rfl
set_option maxRecDepth 100000 in
theorem dfv1 : ∀ j, j < (clC 1).2.2 → defaultValue (tyA 1 j) = if fref 1 j = true then Value.null else .int 0 := by decide +kernel
set_option maxRecDepth 100000 in
theorem inw2 : Cond.instantiable (clC 2).1 (clC 2).2.2 ∈ gG := gG_of (by decide +kernel) rfl
set_option maxRecDepth 100000 in
theorem iniw2 : Cond.initialized (clC 2).1 ∈ gG := gG_of (by decide +kernel) rfl
set_option maxRecDepth 100000 in
theorem dfv2 : ∀ j, j < (clC 2).2.2 → defaultValue (tyA 2 j) = if fref 2 j = true then Value.null else .int 0 := by decide +kernel
set_option maxRecDepth 100000 in
theorem inw3 : Cond.instantiable (clC 3).1 (clC 3).2.2 ∈ gG := gG_of (by decide +kernel) rfl
set_option maxRecDepth 100000 in
theorem iniw3 : Cond.initialized (clC 3).1 ∈ gG := gG_of (by decide +kernel) rfl
set_option maxRecDepth 100000 in
theorem dfv3 : ∀ j, j < (clC 3).2.2 → defaultValue (tyA 3 j) = if fref 3 j = true then Value.null else .int 0 := by decide +kernel
set_option maxRecDepth 100000 in
theorem inw4 : Cond.instantiable (clC 4).1 (clC 4).2.2 ∈ gG := gG_of (by decide +kernel) rfl
set_option maxRecDepth 100000 in
theorem iniw4 : Cond.initialized (clC 4).1 ∈ gG := gG_of (by decide +kernel) rfl
set_option maxRecDepth 100000 in
theorem dfv4 : ∀ j, j < (clC 4).2.2 → defaultValue (tyA 4 j) = if fref 4 j = true then Value.null else .int 0 := by decide +kernel
set_option maxRecDepth 100000 in
theorem inw5 : Cond.instantiable (clC 5).1 (clC 5).2.2 ∈ gG := gG_of (by decide +kernel) rfl
set_option maxRecDepth 100000 in
theorem iniw5 : Cond.initialized (clC 5).1 ∈ gG := gG_of (by decide +kernel) rfl
set_option maxRecDepth 100000 in
theorem dfv5 : ∀ j, j < (clC 5).2.2 → defaultValue (tyA 5 j) = if fref 5 j = true then Value.null else .int 0 := by decide +kernel
set_option maxRecDepth 100000 in
theorem inw6 : Cond.instantiable (clC 6).1 (clC 6).2.2 ∈ gG := gG_of (by decide +kernel) rfl
set_option maxRecDepth 100000 in
theorem iniw6 : Cond.initialized (clC 6).1 ∈ gG := gG_of (by decide +kernel) rfl
set_option maxRecDepth 100000 in
theorem dfv6 : ∀ j, j < (clC 6).2.2 → defaultValue (tyA 6 j) = if fref 6 j = true then Value.null else .int 0 := by decide +kernel
set_option maxRecDepth 100000 in
theorem objI : Cond.instanceMethod objectInit ∈ gG := gG_of (by decide +kernel) rfl
set_option maxRecDepth 100000 in
theorem objC : Cond.code objectInit ⟨#[0xb1]⟩ 1 none ∈ gG := gG_of (by decide +kernel) rfl
set_option maxRecDepth 100000 in
theorem aoC : Cond.arrayOver (.object "StoragePath$Command") ∈ lw_tbl := by decide +kernel
def RLf : List (Nat × Nat × Nat) → Nat → Nat → Option Nat
  | [], _, _ => none
  | q :: t, a, k => if a = q.1 ∧ k = q.2.1 then some q.2.2 else RLf t a k
theorem RLf_up (l : List (Nat × Nat × Nat)) (a k b : Nat) : updR (RLf l) a k (some b) = RLf ((a, k, b) :: l) := by
  funext a' k'
  simp only [updR, RLf, va_up]
  by_cases h1 : a' = a
  · subst h1
    by_cases h2 : k' = k
    · simp [h2, va_up]
    · simp [h2, va_up]
  · simp [h1]
theorem shp_len : shp.length = 62 := by decide
theorem tk_len {j : Nat} (h : j ≤ 62) : (shp.take j).length = j := by
  rw [List.length_take, shp_len]
  omega
theorem tk_add {j : Nat} {q : Nat × Nat} (h : shp[j]? = some q) : shp.take j ++ [q] = shp.take (j + 1) := by
  rw [List.take_add_one, h]
  rfl
theorem tk_lt {j : Nat} {q : Nat × Nat} (h : shp[j]? = some q) : j + 1 ≤ 62 := by
  have := lt_of_get h
  rw [shp_len] at this
  omega
theorem tk_up {j a : Nat} {q : Nat × Nat} (h : (shp.take j)[a]? = some q) : (shp.take (j + 1))[a]? = some q := by
  rw [List.getElem?_take] at h ⊢
  split at h
  · rw [if_pos (by omega)]
    exact h
  · cases h
section TAKE
variable {X Y : MX} {pc : Nat} {lv : List (Option Value)} {st : List Value} {k n j : Nat} {l : List (Nat × Nat × Nat)} {M : Mem} {Q : Option Value → Hp → Prop}
theorem t_newa {N : Nat} {i : Int32} (hd : decode X.2.1 pc = .ok (.newarray .int, 2)) (hs : shp[j]? = some (7, N)) (hi : ¬ i < 0) (hN : i.toNatClampNeg = N) (hb4 : N * 4 ≤ 536870912) (hc : k + 1 ≤ X.2.2.2.2.2.1) (hsl : n + N ≤ X.2.2.2.2.2.2) (ok : OkH (shp.take j, RLf l, M)) (hst : st.all (rok j) = true) (hlv : rokl j lv = true) (kk : OkH (shp.take (j + 1), RLf l, M) → WP X (pc + 2) lv (.ref j :: st) (k + 1) (n + N) (shp.take (j + 1), RLf l, M) Q) : WP X pc lv (.int i :: st) k n (shp.take j, RLf l, M) Q := by
  have e1 : (shp.take j).length = j := tk_len (by have := tk_lt hs; omega)
  refine r_newa hd hi hN hb4 hc hsl ok (by rw [e1]; exact hst) (by rw [e1]; exact hlv) (fun ok1 => ?_)
  rw [tk_add hs] at ok1 ⊢
  rw [e1]
  exact kk ok1
theorem t_newq {N idx : Nat} {i : Int32} (hd : decode X.2.1 pc = .ok (.anewarray idx, 3)) (hl : Cond.classLink X.1.cls idx "StoragePath$Command" ∈ gG) (hs : shp[j]? = some (8, N)) (hi : ¬ i < 0) (hN : i.toNatClampNeg = N) (hb4 : N * 4 ≤ 536870912) (hc : k + 1 ≤ X.2.2.2.2.2.1) (hsl : n + N ≤ X.2.2.2.2.2.2) (ok : OkH (shp.take j, RLf l, M)) (hst : st.all (rok j) = true) (hlv : rokl j lv = true) (kk : OkH (shp.take (j + 1), RLf l, M) → WP X (pc + 3) lv (.ref j :: st) (k + 1) (n + N) (shp.take (j + 1), RLf l, M) Q) : WP X pc lv (.int i :: st) k n (shp.take j, RLf l, M) Q := by
  have e1 : (shp.take j).length = j := tk_len (by have := tk_lt hs; omega)
  refine r_newq hd hl hi hN hb4 hc hsl aoC ok (by rw [e1]; exact hst) (by rw [e1]; exact hlv) (fun ok1 => ?_)
  rw [tk_add hs] at ok1 ⊢
  rw [e1]
  exact kk ok1
theorem t_newc {ci N idx : Nat} (hd : decode X.2.1 pc = .ok (.new idx, 3)) (hci : ci < 7) (hNn : (clC ci).2.2 = N) (hl : Cond.classLink X.1.cls idx (clC ci).1 ∈ gG) (hin : Cond.instantiable (clC ci).1 (clC ci).2.2 ∈ gG) (hini : Cond.initialized (clC ci).1 ∈ gG) (hdef : ∀ j, j < (clC ci).2.2 → defaultValue (tyA ci j) = if fref ci j = true then Value.null else .int 0) (hs : shp[j]? = some (ci, N)) (hc : k + 1 ≤ X.2.2.2.2.2.1) (hsl : n + N ≤ X.2.2.2.2.2.2) (ok : OkH (shp.take j, RLf l, M)) (hst : st.all (rok j) = true) (hlv : rokl j lv = true) (kk : OkH (shp.take (j + 1), RLf l, M) → WP X (pc + 3) lv (.ref j :: st) (k + 1) (n + N) (shp.take (j + 1), RLf l, M) Q) : WP X pc lv st k n (shp.take j, RLf l, M) Q := by
  have e1 : (shp.take j).length = j := tk_len (by have := tk_lt hs; omega)
  refine r_newc (N := N) hd hci hNn hl hin hini (by rw [← hNn]; exact hdef) hc hsl ok (by rw [e1]; exact hst) (by rw [e1]; exact hlv) (fun ok1 => ?_)
  rw [tk_add hs] at ok1 ⊢
  rw [e1]
  exact kk ok1
theorem t_putR {a ci N kf idx b : Nat} (hd : decode X.2.1 pc = .ok (.putfield idx, 3)) (hw : FW X.1.cls idx ci kf) (hs : (shp.take j)[a]? = some (ci, N)) (hk : kf < N) (hf : fref ci kf = true) (hfin : ((clC ci).2.1 kf).2.2.2 = true ∧ X.1.name = "<init>" ∧ ((clC ci).2.1 kf).1 = X.1.cls) (hl : Cond.fieldLink X.1.cls idx ((clC ci).2.1 kf).1 ((clC ci).2.1 kf).2.1 ((clC ci).2.1 kf).2.2.1 ∈ gG) (hn : ∀ q, narrow (tyA ci kf) (.ref q) = .ref q) (hfit : ∀ q, fits (tyA ci kf) (.ref q) = true) (ok : OkH (shp.take j, RLf l, M)) (hj : j ≤ 62) (hb : b < j) (kk : OkH (shp.take j, RLf ((a, kf, b) :: l), M) → WP X (pc + 3) lv st k n (shp.take j, RLf ((a, kf, b) :: l), M) Q) : WP X pc lv (.ref b :: .ref a :: st) k n (shp.take j, RLf l, M) Q := by
  refine r_putRk hd hw hs hk hf hfin hl hn hfit ok (by rw [tk_len hj]; exact hb) (fun ok1 => ?_)
  rw [RLf_up] at ok1 ⊢
  exact kk ok1
theorem t_putI {a ci N kf idx : Nat} {x : Int32} (hd : decode X.2.1 pc = .ok (.putfield idx, 3)) (hw : FW X.1.cls idx ci kf) (hs : (shp.take j)[a]? = some (ci, N)) (hk : kf < N) (hf : fref ci kf = false) (hfin : ((clC ci).2.1 kf).2.2.2 = false ∨ (((clC ci).2.1 kf).2.2.2 = true ∧ X.1.name = "<init>" ∧ ((clC ci).2.1 kf).1 = X.1.cls ∧ Cond.fieldLink X.1.cls idx ((clC ci).2.1 kf).1 ((clC ci).2.1 kf).2.1 ((clC ci).2.1 kf).2.2.1 ∈ gG)) (hn : narrow (tyA ci kf) (.int x) = .int x) (hfit : fits (tyA ci kf) (.int x) = true) (ok : OkH (shp.take j, RLf l, M)) (kk : OkH (shp.take j, RLf l, upd2 M a kf x) → WP X (pc + 3) lv st k n (shp.take j, RLf l, upd2 M a kf x) Q) : WP X pc lv (.int x :: .ref a :: st) k n (shp.take j, RLf l, M) Q := r_putI hd hw hs hk hf hfin hn hfit (kk (ok.putI (lt_of_get hs)))
theorem t_aast {a N b Nb : Nat} {i : Int32} (hd : decode X.2.1 pc = .ok (.aastore, 1)) (hs : (shp.take j)[a]? = some (8, N)) (hin : vp_in i N) (hsb : (shp.take j)[b]? = some (2, Nb)) (ok : OkH (shp.take j, RLf l, M)) (kk : OkH (shp.take j, RLf ((a, i.toNatClampNeg, b) :: l), M) → WP X (pc + 1) lv st k n (shp.take j, RLf ((a, i.toNatClampNeg, b) :: l), M) Q) : WP X pc lv (.ref b :: .int i :: .ref a :: st) k n (shp.take j, RLf l, M) Q := by
  refine r_aastore (ci := 2) hd hs hin hsb ok (fun ok1 => ?_)
  rw [RLf_up] at ok1 ⊢
  exact kk ok1
def roomK (X Y : MX) (k n : Nat) (st : List Value) : Bool := Nat.ble (Y.2.2.2.2.1.1 + 1) X.2.2.2.2.1.1 && Nat.ble (8 + (Y.2.2.1 + 11) + Y.2.2.2.2.1.2) X.2.2.2.2.1.2 && Nat.ble (k + Y.2.2.2.2.2.1) X.2.2.2.2.2.1 && Nat.ble (n + Y.2.2.2.2.2.2) X.2.2.2.2.2.2 && Nat.ble (st.map fun v => v.category).sum 8
theorem roomK_ok (h : roomK X Y k n st = true) : cRoom X Y k n st := by
  simp only [roomK, Bool.and_eq_true, Nat.ble_eq] at h
  obtain ⟨⟨⟨⟨h1, h2⟩, h3⟩, h4⟩, h5⟩ := h
  exact ⟨⟨h1, h2⟩, ⟨h3, h4⟩, h5⟩
theorem t_call0 {a idx : Nat} {P : Hp → Prop} (hd : decode X.2.1 pc = .ok (.invokespecial idx, 3)) (hl : Cond.methodLink X.1.cls idx Y.1 ∈ gG ∨ ∃ host, Cond.methodLinkNest X.1.cls idx Y.1 host ∈ lw_tbl) (hw : cOK Y 0) (hin : Cond.instanceMethod Y.1 ∈ gG) (hy : Y.1.name = "<init>" ∧ Y.2.2.2.1 = none) (hroom : roomK X Y k n st = true) (hj : j ≤ 62) (hst : st.all (rok j) = true) (hlv : rokl j lv = true) (hc : Con Y [.ref a] (shp.take j, RLf l, M) (fun r h => r = none ∧ P h)) (kk : ∀ h', P h' → WP X (pc + 3) lv st (k + Y.2.2.2.2.2.1) (n + Y.2.2.2.2.2.2) h' Q) : WP X pc lv (.ref a :: st) k n (shp.take j, RLf l, M) Q :=
  r_callI (as := []) hd hl hw hin hy rfl (roomK_ok hroom) (Or.inr ⟨by rw [tk_len hj]; exact hst, by rw [tk_len hj]; exact hlv⟩) hc (fun r h' q => by
    obtain ⟨rfl, q⟩ := q
    exact kk h' q)
theorem t_call1 {a idx : Nat} {v1 : Value} {P : Hp → Prop} (hd : decode X.2.1 pc = .ok (.invokespecial idx, 3)) (hl : Cond.methodLink X.1.cls idx Y.1 ∈ gG ∨ ∃ host, Cond.methodLinkNest X.1.cls idx Y.1 host ∈ lw_tbl) (hw : cOK Y 1) (hin : Cond.instanceMethod Y.1 ∈ gG) (hy : Y.1.name = "<init>" ∧ Y.2.2.2.1 = none) (hroom : roomK X Y k n st = true) (hj : j ≤ 62) (hst : st.all (rok j) = true) (hlv : rokl j lv = true) (hc : Con Y [.ref a, v1] (shp.take j, RLf l, M) (fun r h => r = none ∧ P h)) (kk : ∀ h', P h' → WP X (pc + 3) lv st (k + Y.2.2.2.2.2.1) (n + Y.2.2.2.2.2.2) h' Q) : WP X pc lv (v1 :: .ref a :: st) k n (shp.take j, RLf l, M) Q :=
  r_callI (as := [v1]) hd hl hw hin hy rfl (roomK_ok hroom) (Or.inr ⟨by rw [tk_len hj]; exact hst, by rw [tk_len hj]; exact hlv⟩) hc (fun r h' q => by
    obtain ⟨rfl, q⟩ := q
    exact kk h' q)
theorem t_callS {idx : Nat} {v1 v : Value} {h : Hp} (hd : decode X.2.1 pc = .ok (.invokestatic idx, 3)) (hl : Cond.methodLink X.1.cls idx Y.1 ∈ gG) (hw : cOK Y 1) (hsk : Cond.static Y.1 ∈ gG) (hroom : roomK X Y k n st = true) (hz : Y.2.2.2.2.2.1 = 0 ∧ Y.2.2.2.2.2.2 = 0) (hc : Con Y [v1] h (fun r h1 => r = some v ∧ h1 = h)) (kk : WP X (pc + 3) lv (v :: st) k n h Q) : WP X pc lv (v1 :: st) k n h Q := by
  obtain ⟨S, Rf, M⟩ := h
  refine r_callS (as := [v1]) hd hl hw hsk rfl (roomK_ok hroom) (Or.inl hz.1) hc (fun r h' q => ?_)
  obtain ⟨rfl, rfl⟩ := q
  rw [hz.1, hz.2]
  exact kk
theorem t_obj {a idx : Nat} {h : Hp} (hd : decode X.2.1 pc = .ok (.invokespecial idx, 3)) (hl : Cond.methodLink X.1.cls idx objectInit ∈ gG) (hf : 1 ≤ (mxR X).frames) (hlo : (st.map fun v => v.category).sum + 12 ≤ (mxR X).locals) (kk : WP X (pc + 3) lv st k n h Q) : WP X pc lv (.ref a :: st) k n h Q := r_objInit hd hl objI objC hf hlo kk
end TAKE
