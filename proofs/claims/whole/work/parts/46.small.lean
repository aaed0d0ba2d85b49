set_option maxHeartbeats 600000 in
set_option maxRecDepth 100000 in
theorem t_bitCount {S : List (Nat × Nat)} {Rf : Nat → Nat → Option Nat} {M : Mem} {x : Int32} : Con mJ6_bitCount_0f7a4 [.int x] (S, Rf, M) (fun r h1 => r = some (.int (bcE x)) ∧ h1 = (S, Rf, M)) := by
  refine con_of (lv := [some (.int x)]) (by decide) rfl (Nat.le_of_ble_eq_true rfl) (by simp [lvle]) ?_
  refine r_iload_n dJ6_bitCount_0f7a4_0 rfl rfl ?_
  refine r_iload_n dJ6_bitCount_0f7a4_1 rfl rfl ?_
  refine r_iconst 1 dJ6_bitCount_0f7a4_2 (by decide) ?_
  refine r_iushr dJ6_bitCount_0f7a4_3 ?_
  refine r_ldcw 1431655765 dJ6_bitCount_0f7a4_4 cnJ6_265 ?_
  refine r_iand dJ6_bitCount_0f7a4_7 ?_
  refine r_isub dJ6_bitCount_0f7a4_8 ?_
  refine r_istore_n0 dJ6_bitCount_0f7a4_9 rfl (Nat.le_of_ble_eq_true rfl) ?_
  refine r_iload_n dJ6_bitCount_0f7a4_10 rfl rfl ?_
  refine r_ldcw 858993459 dJ6_bitCount_0f7a4_11 cnJ6_266 ?_
  refine r_iand dJ6_bitCount_0f7a4_14 ?_
  refine r_iload_n dJ6_bitCount_0f7a4_15 rfl rfl ?_
  refine r_iconst 2 dJ6_bitCount_0f7a4_16 (by decide) ?_
  refine r_iushr dJ6_bitCount_0f7a4_17 ?_
  refine r_ldcw 858993459 dJ6_bitCount_0f7a4_18 cnJ6_266 ?_
  refine r_iand dJ6_bitCount_0f7a4_21 ?_
  refine r_iadd dJ6_bitCount_0f7a4_22 ?_
  refine r_istore_n0 dJ6_bitCount_0f7a4_23 rfl (Nat.le_of_ble_eq_true rfl) ?_
  refine r_iload_n dJ6_bitCount_0f7a4_24 rfl rfl ?_
  refine r_iload_n dJ6_bitCount_0f7a4_25 rfl rfl ?_
  refine r_iconst 4 dJ6_bitCount_0f7a4_26 (by decide) ?_
  refine r_iushr dJ6_bitCount_0f7a4_27 ?_
  refine r_iadd dJ6_bitCount_0f7a4_28 ?_
  refine r_ldcw 252645135 dJ6_bitCount_0f7a4_29 cnJ6_267 ?_
  refine r_iand dJ6_bitCount_0f7a4_32 ?_
  refine r_istore_n0 dJ6_bitCount_0f7a4_33 rfl (Nat.le_of_ble_eq_true rfl) ?_
  refine r_iload_n dJ6_bitCount_0f7a4_34 rfl rfl ?_
  refine r_iload_n dJ6_bitCount_0f7a4_35 rfl rfl ?_
  refine r_bipush 8 dJ6_bitCount_0f7a4_36 (by decide) ?_
  refine r_iushr dJ6_bitCount_0f7a4_38 ?_
  refine r_iadd dJ6_bitCount_0f7a4_39 ?_
  refine r_istore_n0 dJ6_bitCount_0f7a4_40 rfl (Nat.le_of_ble_eq_true rfl) ?_
  refine r_iload_n dJ6_bitCount_0f7a4_41 rfl rfl ?_
  refine r_iload_n dJ6_bitCount_0f7a4_42 rfl rfl ?_
  refine r_bipush 16 dJ6_bitCount_0f7a4_43 (by decide) ?_
  refine r_iushr dJ6_bitCount_0f7a4_45 ?_
  refine r_iadd dJ6_bitCount_0f7a4_46 ?_
  refine r_istore_n0 dJ6_bitCount_0f7a4_47 rfl (Nat.le_of_ble_eq_true rfl) ?_
  refine r_iload_n dJ6_bitCount_0f7a4_48 rfl rfl ?_
  refine r_bipush 63 dJ6_bitCount_0f7a4_49 (by decide) ?_
  refine r_iand dJ6_bitCount_0f7a4_51 ?_
  refine r_ireturn dJ6_bitCount_0f7a4_52 rfl (Nat.zero_le _) (Nat.zero_le _) ?_
  exact ⟨rfl, rfl⟩
def onE (x : Int32) : Nat → Nat → Int32 → Int32
  | 0, _, a => a
  | d + 1, i, a => onE x d (i + 1) (a + ((x >>> (nI i &&& 31)) &&& 1))
set_option maxRecDepth 100000 in
theorem on_tab : ∀ w, w < 1024 → onE (nI w) 10 0 0 = nI (popc w) := by decide +kernel
set_option maxHeartbeats 600000 in
set_option maxRecDepth 100000 in
theorem t_ones_lp {S : List (Nat × Nat)} {Rf : Nat → Nat → Option Nat} {M : Mem} {x : Int32} : ∀ (d i : Nat) (a : Int32), i + d = 10 → WP mX6_ones 4 [some (.int x), some (.int a), some (.int (nI i))] [] 0 0 (S, Rf, M) (fun r h1 => r = some (.int (onE x d i a)) ∧ h1 = (S, Rf, M))
  | 0, i, a, h => by
    have hi : i = 10 := by omega
    subst hi
    refine r_iload_n dX6_ones_4 rfl rfl ?_
    refine r_bipush 10 dX6_ones_5 (by decide) ?_
    refine r_icmp_ge 24 dX6_ones_7 (by decide) (fun c_7 => ?_) (fun c_7 => absurd c_7 (by decide))
    refine r_iload_n dX6_ones_24 rfl rfl ?_
    refine r_ireturn dX6_ones_25 rfl (Nat.zero_le _) (Nat.zero_le _) ?_
    exact ⟨rfl, rfl⟩
  | d + 1, i, a, h => by
    refine r_iload_n dX6_ones_4 rfl rfl ?_
    refine r_bipush 10 dX6_ones_5 (by decide) ?_
    refine r_icmp_ge 24 dX6_ones_7 (by decide) (fun c_7 => absurd c_7 (nI_ge (a := i) (b := 10) (by omega) (by decide))) (fun c_7 => ?_)
    refine r_iload_n dX6_ones_10 rfl rfl ?_
    refine r_iload_n dX6_ones_11 rfl rfl ?_
    refine r_iload_n dX6_ones_12 rfl rfl ?_
    refine r_ishr dX6_ones_13 ?_
    refine r_iconst 1 dX6_ones_14 (by decide) ?_
    refine r_iand dX6_ones_15 ?_
    refine r_iadd dX6_ones_16 ?_
    refine r_istore_n1 dX6_ones_17 rfl (Nat.le_of_ble_eq_true rfl) ?_
    refine r_iinc_2 (_ + 1) dX6_ones_18 rfl (Nat.le_of_ble_eq_true rfl) rfl ?_
    refine r_goto 4 dX6_ones_21 (by decide) ?_
    rw [nI_1]
    exact t_ones_lp d (i + 1) _ (by omega)
theorem t_ones {S : List (Nat × Nat)} {Rf : Nat → Nat → Option Nat} {M : Mem} {x : Int32} : Con mX6_ones [.int x] (S, Rf, M) (fun r h1 => r = some (.int (onE x 10 0 0)) ∧ h1 = (S, Rf, M)) := by
  refine con_of (lv := [some (.int x), none, none]) (by decide) rfl (Nat.le_of_ble_eq_true rfl) (by simp [lvle]) ?_
  refine r_iconst 0 dX6_ones_0 (by decide) ?_
  refine r_istore_n1 dX6_ones_1 rfl (Nat.le_of_ble_eq_true rfl) ?_
  refine r_iconst 0 dX6_ones_2 (by decide) ?_
  refine r_istore_n2 dX6_ones_3 rfl (Nat.le_of_ble_eq_true rfl) ?_
  exact t_ones_lp 10 0 0 rfl
set_option maxHeartbeats 600000 in
set_option maxRecDepth 100000 in
theorem x0_init {j a : Nat} {l : List (Nat × Nat × Nat)} {M : Mem} (hs : shp[j]? = some (7, 16)) (ha : (shp.take j)[a]? = some (0, 2)) (ok : OkH (shp.take j, RLf l, M)) : Con mX0_init [.ref a] (shp.take j, RLf l, M) (fun r h => r = none ∧ h = (shp.take (j + 1), RLf ((a, 0, j) :: l), M) ∧ OkH h) := by
  have hj := tk_lt hs
  have haj : a < j := by
    have := lt_of_get ha
    rw [tk_len (by omega)] at this
    exact this
  have ha1 := tk_up ha
  refine con_of (lv := [some (.ref a)]) (by decide) rfl (Nat.le_of_ble_eq_true rfl) (by simp [lvle]) ?_
  refine r_aload_n dX0_init_0 rfl rfl ?_
  refine t_obj dX0_init_1 mlX0_3 (Nat.le_of_ble_eq_true rfl) (Nat.le_of_ble_eq_true rfl) ?_
  refine r_aload_n dX0_init_4 rfl rfl ?_
  refine r_bipush 16 dX0_init_5 (by decide) ?_
  refine t_newa (j := j) (N := 16) dX0_init_7 (by first | rfl | assumption) (by decide) rfl (Nat.le_of_ble_eq_true rfl) (Nat.le_of_ble_eq_true rfl) (Nat.le_of_ble_eq_true rfl) ok (by first | rfl | (simp [rokl, rok] <;> omega)) (by first | rfl | (simp [rokl, rok] <;> omega)) (fun ok => ?_)
  refine t_putR (j := (j + 1)) (N := 2) dX0_init_9 fwX0_9 (by first | rfl | assumption) (Nat.le_of_ble_eq_true rfl) rfl ⟨rfl, rfl, rfl⟩ flX0_9 (fun _ => rfl) (fun _ => rfl) ok (by first | exact Nat.le_of_ble_eq_true rfl | omega) (by first | exact Nat.le_of_ble_eq_true rfl | omega) (fun ok => ?_)
  refine r_return dX0_init_12 rfl (Nat.le_of_ble_eq_true rfl) (Nat.le_of_ble_eq_true rfl) ?_
  exact ⟨rfl, rfl, ok⟩
set_option maxHeartbeats 600000 in
set_option maxRecDepth 100000 in
theorem x2_init {j a : Nat} {l : List (Nat × Nat × Nat)} {M : Mem} {x : Int32} (hs : shp[j]? = some (7, 4)) (ha : (shp.take j)[a]? = some (2, 8)) (ok : OkH (shp.take j, RLf l, M)) : Con mX2_init [.ref a, .int x] (shp.take j, RLf l, M) (fun r h => r = none ∧ h = (shp.take (j + 1), RLf ((a, 1, j) :: l), upd2 (upd2 M a 2 0) a 0 x) ∧ OkH h) := by
  have hj := tk_lt hs
  have haj : a < j := by
    have := lt_of_get ha
    rw [tk_len (by omega)] at this
    exact this
  have ha1 := tk_up ha
  refine con_of (lv := [some (.ref a), some (.int x)]) (by decide) rfl (Nat.le_of_ble_eq_true rfl) (by simp [lvle]) ?_
  refine r_aload_n dX2_init_0 rfl rfl ?_
  refine t_obj dX2_init_1 mlX2_3 (Nat.le_of_ble_eq_true rfl) (Nat.le_of_ble_eq_true rfl) ?_
  refine r_aload_n dX2_init_4 rfl rfl ?_
  refine r_iconst 4 dX2_init_5 (by decide) ?_
  refine t_newa (j := j) (N := 4) dX2_init_6 (by first | rfl | assumption) (by decide) rfl (Nat.le_of_ble_eq_true rfl) (Nat.le_of_ble_eq_true rfl) (Nat.le_of_ble_eq_true rfl) ok (by first | rfl | (simp [rokl, rok] <;> omega)) (by first | rfl | (simp [rokl, rok] <;> omega)) (fun ok => ?_)
  refine t_putR (j := (j + 1)) (N := 8) dX2_init_8 fwX2_9 (by first | rfl | assumption) (Nat.le_of_ble_eq_true rfl) rfl ⟨rfl, rfl, rfl⟩ flX2_9 (fun _ => rfl) (fun _ => rfl) ok (by first | exact Nat.le_of_ble_eq_true rfl | omega) (by first | exact Nat.le_of_ble_eq_true rfl | omega) (fun ok => ?_)
  refine r_aload_n dX2_init_11 rfl rfl ?_
  refine r_iconst 0 dX2_init_12 (by decide) ?_
  refine t_putI (j := (j + 1)) (N := 8) dX2_init_13 fwX2_15 (by first | rfl | assumption) (Nat.le_of_ble_eq_true rfl) rfl (Or.inl rfl) rfl rfl ok (fun ok => ?_)
  refine r_aload_n dX2_init_16 rfl rfl ?_
  refine r_iload_n dX2_init_17 rfl rfl ?_
  refine t_putI (j := (j + 1)) (N := 8) dX2_init_18 fwX2_19 (by first | rfl | assumption) (Nat.le_of_ble_eq_true rfl) rfl (Or.inr ⟨rfl, rfl, rfl, flX2_19⟩) rfl rfl ok (fun ok => ?_)
  refine r_return dX2_init_21 rfl (Nat.le_of_ble_eq_true rfl) (Nat.le_of_ble_eq_true rfl) ?_
  exact ⟨rfl, rfl, ok⟩
set_option maxHeartbeats 600000 in
set_option maxRecDepth 100000 in
theorem x3_init {l : List (Nat × Nat × Nat)} {M : Mem} (ok : OkH (shp.take 15, RLf l, M)) : Con mX3_init [.ref 14] (shp.take 15, RLf l, M) (fun r h => r = none ∧ h = (shp.take 18, RLf ((14, 2, 17) :: (14, 1, 16) :: (14, 0, 15) :: l), M) ∧ OkH h) := by
  refine con_of (lv := [some (.ref 14)]) (by decide) rfl (Nat.le_of_ble_eq_true rfl) (by simp [lvle]) ?_
  refine r_aload_n dX3_init_0 rfl rfl ?_
  refine t_obj dX3_init_1 mlX3_3 (Nat.le_of_ble_eq_true rfl) (Nat.le_of_ble_eq_true rfl) ?_
  refine r_aload_n dX3_init_4 rfl rfl ?_
  refine r_bipush 32 dX3_init_5 (by decide) ?_
  refine t_newa (j := 15) (N := 32) dX3_init_7 (by first | rfl | assumption) (by decide) rfl (Nat.le_of_ble_eq_true rfl) (Nat.le_of_ble_eq_true rfl) (Nat.le_of_ble_eq_true rfl) ok (by first | rfl | (simp [rokl, rok] <;> omega)) (by first | rfl | (simp [rokl, rok] <;> omega)) (fun ok => ?_)
  refine t_putR (j := 16) (N := 4) dX3_init_9 fwX3_9 (by first | rfl | assumption) (Nat.le_of_ble_eq_true rfl) rfl ⟨rfl, rfl, rfl⟩ flX3_9 (fun _ => rfl) (fun _ => rfl) ok (by first | exact Nat.le_of_ble_eq_true rfl | omega) (by first | exact Nat.le_of_ble_eq_true rfl | omega) (fun ok => ?_)
  refine r_aload_n dX3_init_12 rfl rfl ?_
  refine r_bipush 6 dX3_init_13 (by decide) ?_
  refine t_newa (j := 16) (N := 6) dX3_init_15 (by first | rfl | assumption) (by decide) rfl (Nat.le_of_ble_eq_true rfl) (Nat.le_of_ble_eq_true rfl) (Nat.le_of_ble_eq_true rfl) ok (by first | rfl | (simp [rokl, rok] <;> omega)) (by first | rfl | (simp [rokl, rok] <;> omega)) (fun ok => ?_)
  refine t_putR (j := 17) (N := 4) dX3_init_17 fwX3_15 (by first | rfl | assumption) (Nat.le_of_ble_eq_true rfl) rfl ⟨rfl, rfl, rfl⟩ flX3_15 (fun _ => rfl) (fun _ => rfl) ok (by first | exact Nat.le_of_ble_eq_true rfl | omega) (by first | exact Nat.le_of_ble_eq_true rfl | omega) (fun ok => ?_)
  refine r_aload_n dX3_init_20 rfl rfl ?_
  refine r_bipush 6 dX3_init_21 (by decide) ?_
  refine t_newa (j := 17) (N := 6) dX3_init_23 (by first | rfl | assumption) (by decide) rfl (Nat.le_of_ble_eq_true rfl) (Nat.le_of_ble_eq_true rfl) (Nat.le_of_ble_eq_true rfl) ok (by first | rfl | (simp [rokl, rok] <;> omega)) (by first | rfl | (simp [rokl, rok] <;> omega)) (fun ok => ?_)
  refine t_putR (j := 18) (N := 4) dX3_init_25 fwX3_18 (by first | rfl | assumption) (Nat.le_of_ble_eq_true rfl) rfl ⟨rfl, rfl, rfl⟩ flX3_18 (fun _ => rfl) (fun _ => rfl) ok (by first | exact Nat.le_of_ble_eq_true rfl | omega) (by first | exact Nat.le_of_ble_eq_true rfl | omega) (fun ok => ?_)
  refine r_return dX3_init_28 rfl (Nat.le_of_ble_eq_true rfl) (Nat.le_of_ble_eq_true rfl) ?_
  exact ⟨rfl, rfl, ok⟩
