def isCm (c r : Nat) : Prop := shp[c]? = some (2, 8) ∧ rfs c 1 = some r ∧ shp[r]? = some (7, 4)
theorem isCm_t : ∀ t, t < 8 → isCm (24 + 2 * t) (25 + 2 * t)
  | 0, _ => ⟨rfl, rfl, rfl⟩
  | 1, _ => ⟨rfl, rfl, rfl⟩
  | 2, _ => ⟨rfl, rfl, rfl⟩
  | 3, _ => ⟨rfl, rfl, rfl⟩
  | 4, _ => ⟨rfl, rfl, rfl⟩
  | 5, _ => ⟨rfl, rfl, rfl⟩
  | 6, _ => ⟨rfl, rfl, rfl⟩
  | 7, _ => ⟨rfl, rfl, rfl⟩
  | n + 8, h => absurd h (by omega)
def pOrd (kd tg fi mn : Nat) (j : Nat) : Int32 := if j = 0 then 39 else if j = 1 then nI kd else if j = 2 then nI tg else if j = 3 then nI fi else nI mn
def pNum (tg : Nat) (x : Int32) (j : Nat) : Int32 := if j = 0 then 70 else if j = 1 then nI tg else nby x (j - 2)
def pAns (tg oc : Nat) (j : Nat) : Int32 := if j = 0 then 161 else if j = 1 then nI tg else nI oc
theorem pOrd_ok {kd tg fi mn : Nat} (h1 : kd < 256) (h2 : tg < 256) (h3 : fi < 256) (h4 : mn < 256) : okF (pOrd kd tg fi mn) 5 := ⟨by decide, by decide, fun j _ => by
  unfold pOrd
  split
  · exact (by decide : (39 : Int32) &&& 255 = 39)
  · split
    · exact okB_nI h1
    · split
      · exact okB_nI h2
      · split
        · exact okB_nI h3
        · exact okB_nI h4⟩
theorem pNum_ok {tg : Nat} {x : Int32} (h2 : tg < 256) : okF (pNum tg x) 6 := ⟨by decide, by decide, fun j _ => by
  unfold pNum
  split
  · exact (by decide : (70 : Int32) &&& 255 = 70)
  · split
    · exact okB_nI h2
    · exact nby_ok _ _⟩
theorem pAns_ok {tg oc : Nat} (h1 : oc < 256) (h2 : tg < 256) : okF (pAns tg oc) 3 := ⟨by decide, by decide, fun j _ => by
  unfold pAns
  split
  · exact (by decide : (161 : Int32) &&& 255 = 161)
  · split
    · exact okB_nI h2
    · exact okB_nI h1⟩
set_option maxHeartbeats 4000000 in
set_option maxRecDepth 100000 in
theorem x_lastS {c r : Nat} {M : Mem} (hc : isCm c r) : Gv mX2_lastSector [.ref c] M (some (.int (if M c 3 = 3 then 0 else M c 4 + M c 5 - 1))) M := by
  obtain ⟨hc1, hc2, hc3⟩ := hc
  refine con_of (lv := [some (.ref c)]) (by decide) rfl (Nat.le_of_ble_eq_true rfl) (by simp [lvle]) ?_
  refine r_aload_n dX2_lastSector_0 rfl rfl ?_
  refine r_getI (N := 8) dX2_lastSector_1 fwX2_22 (by first | rfl | assumption) (Nat.le_of_ble_eq_true rfl) rfl ?_
  refine r_iconst 3 dX2_lastSector_4 (by decide) ?_
  refine r_icmp_ne 12 dX2_lastSector_5 (by decide) (fun c_5 => ?_) (fun c_5 => ?_)
  · refine r_aload_n dX2_lastSector_12 rfl rfl ?_
    refine r_getI (N := 8) dX2_lastSector_13 fwX2_25 (by first | rfl | assumption) (Nat.le_of_ble_eq_true rfl) rfl ?_
    refine r_aload_n dX2_lastSector_16 rfl rfl ?_
    refine r_getI (N := 8) dX2_lastSector_17 fwX2_28 (by first | rfl | assumption) (Nat.le_of_ble_eq_true rfl) rfl ?_
    refine r_iadd dX2_lastSector_20 ?_
    refine r_iconst 1 dX2_lastSector_21 (by decide) ?_
    refine r_isub dX2_lastSector_22 ?_
    refine r_ireturn dX2_lastSector_23 rfl (Nat.zero_le _) (Nat.zero_le _) ?_
    refine ⟨?_, rfl⟩
    first | rw [if_pos c_5] | rw [if_neg c_5]
  · refine r_iconst 0 dX2_lastSector_8 (by decide) ?_
    refine r_goto 23 dX2_lastSector_9 (by decide) ?_
    refine r_ireturn dX2_lastSector_23 rfl (Nat.zero_le _) (Nat.zero_le _) ?_
    refine ⟨?_, rfl⟩
    first | rw [if_pos c_5] | rw [if_neg c_5]
set_option maxHeartbeats 4000000 in
set_option maxRecDepth 100000 in
theorem x_numAt {c r j : Nat} {M : Mem} (hc : isCm c r) (hj : j < 4) : Gv mX2_numberAt [.ref c, .int (nI j)] M (some (.int (M r j))) M := by
  obtain ⟨hc1, hc2, hc3⟩ := hc
  have hcl : (nI j).toNatClampNeg = j := nI_clamp (by omega)
  refine con_of (lv := [some (.ref c), some (.int (nI j))]) (by decide) rfl (Nat.le_of_ble_eq_true rfl) (by simp [lvle]) ?_
  refine r_iload_n dX2_numberAt_0 rfl rfl ?_
  refine r_if_lt 22 dX2_numberAt_1 (by decide) (fun c_1 => absurd c_1 (nI_pos (by omega))) (fun c_1 => ?_)
  refine r_iload_n dX2_numberAt_4 rfl rfl ?_
  refine r_aload_n dX2_numberAt_5 rfl rfl ?_
  refine r_getR (N := 8) dX2_numberAt_6 fwX2_9 (by first | rfl | assumption) (Nat.le_of_ble_eq_true rfl) rfl (by first | rfl | assumption) ?_
  refine r_alen dX2_numberAt_9 (by first | rfl | assumption) (by first | exact Or.inl rfl | exact Or.inr rfl) ?_
  refine r_icmp_ge 22 dX2_numberAt_10 (by decide) (fun c_10 => absurd c_10 (nI_ge hj (by decide))) (fun c_10 => ?_)
  refine r_aload_n dX2_numberAt_13 rfl rfl ?_
  refine r_getR (N := 8) dX2_numberAt_14 fwX2_9 (by first | rfl | assumption) (Nat.le_of_ble_eq_true rfl) rfl (by first | rfl | assumption) ?_
  refine r_iload_n dX2_numberAt_17 rfl rfl ?_
  refine r_iaload dX2_numberAt_18 (by first | rfl | assumption) (by exact vp_in_nI hj (by decide)) ?_
  refine r_goto 23 dX2_numberAt_19 (by decide) ?_
  refine r_ireturn dX2_numberAt_23 rfl (Nat.zero_le _) (Nat.zero_le _) ?_
  rw [hcl]
  exact ⟨rfl, rfl⟩
set_option maxHeartbeats 4000000 in
set_option maxRecDepth 100000 in
theorem x_setNum {c r j : Nat} {x : Int32} {M : Mem} (hc : isCm c r) (hj : j < 4) : Gv mX2_setNumber [.ref c, .int (nI j), .int x] M none (upd2 M r j x) := by
  obtain ⟨hc1, hc2, hc3⟩ := hc
  have hcl : (nI j).toNatClampNeg = j := nI_clamp (by omega)
  refine con_of (lv := [some (.ref c), some (.int (nI j)), some (.int x)]) (by decide) rfl (Nat.le_of_ble_eq_true rfl) (by simp [lvle]) ?_
  refine r_iload_n dX2_setNumber_0 rfl rfl ?_
  refine r_if_lt 20 dX2_setNumber_1 (by decide) (fun c_1 => absurd c_1 (nI_pos (by omega))) (fun c_1 => ?_)
  refine r_iload_n dX2_setNumber_4 rfl rfl ?_
  refine r_aload_n dX2_setNumber_5 rfl rfl ?_
  refine r_getR (N := 8) dX2_setNumber_6 fwX2_9 (by first | rfl | assumption) (Nat.le_of_ble_eq_true rfl) rfl (by first | rfl | assumption) ?_
  refine r_alen dX2_setNumber_9 (by first | rfl | assumption) (by first | exact Or.inl rfl | exact Or.inr rfl) ?_
  refine r_icmp_ge 20 dX2_setNumber_10 (by decide) (fun c_10 => absurd c_10 (nI_ge hj (by decide))) (fun c_10 => ?_)
  refine r_aload_n dX2_setNumber_13 rfl rfl ?_
  refine r_getR (N := 8) dX2_setNumber_14 fwX2_9 (by first | rfl | assumption) (Nat.le_of_ble_eq_true rfl) rfl (by first | rfl | assumption) ?_
  refine r_iload_n dX2_setNumber_17 rfl rfl ?_
  refine r_iload_n dX2_setNumber_18 rfl rfl ?_
  refine r_iastore dX2_setNumber_19 (by first | rfl | assumption) (by exact vp_in_nI hj (by decide)) ?_
  rw [hcl]
  refine r_return dX2_setNumber_20 rfl (Nat.zero_le _) (Nat.zero_le _) ?_
  exact ⟨rfl, rfl⟩
set_option maxHeartbeats 4000000 in
set_option maxRecDepth 100000 in
theorem x_setOrder {c r kd tg fi mn : Nat} {M : Mem} (hc : isCm c r) (hne : c ∉ [20, 21]) (e0 : M c 0 = nI tg) (e3 : M c 3 = nI kd) (e4 : M c 4 = nI fi) (e5 : M c 5 = nI mn) (h1 : kd < 256) (h2 : tg < 256) (h3 : fi < 256) (h4 : mn < 256) : ∃ M', Gv mX0_setOrder [.ref 20, .ref c] M none M' ∧ HB M' 20 21 5 (pOrd kd tg fi mn) ∧ Fr [20, 21] M M' := by
  obtain ⟨hc1, hc2, hc3⟩ := hc
  obtain ⟨M0, g0, H0, F0⟩ := b_clearX (M := M) isBy20 (pOrd kd tg fi mn)
  obtain ⟨M1, g1, H1, F1⟩ := b_addX (x := 39) isBy20 H0 (by decide) rfl
  have t1 := F0.tr F1 (ex'' := [20, 21]) (fun _ q => q) (fun _ q => q)
  obtain ⟨M2, g2, H2, F2⟩ := b_addX (x := nI kd) isBy20 H1 (by decide) (okB_nI h1).symm
  have t2 := t1.tr F2 (ex'' := [20, 21]) (fun _ q => q) (fun _ q => q)
  obtain ⟨M3, g3, H3, F3⟩ := b_addX (x := nI tg) isBy20 H2 (by decide) (okB_nI h2).symm
  have t3 := t2.tr F3 (ex'' := [20, 21]) (fun _ q => q) (fun _ q => q)
  obtain ⟨M4, g4, H4, F4⟩ := b_addX (x := nI fi) isBy20 H3 (by decide) (okB_nI h3).symm
  have t4 := t3.tr F4 (ex'' := [20, 21]) (fun _ q => q) (fun _ q => q)
  obtain ⟨M5, g5, H5, F5⟩ := b_addX (x := nI mn) isBy20 H4 (by decide) (okB_nI h4).symm
  refine ⟨M5, ?_, H5, t4.tr F5 (fun _ q => q) (fun _ q => q)⟩
  refine con_of (lv := [some (.ref 20), some (.ref c)]) (by decide) rfl (Nat.le_of_ble_eq_true rfl) (by simp [lvle]) ?_
  refine r_aload_n dX0_setOrder_0 rfl rfl ?_
  refine gW0 (Y := mX0_clear) (ci := 0) (N := 2) dX0_setOrder_1 mlX0_23 vkX0_clear (by first | rfl | assumption) ⟨by decide, rfl⟩ rfl g0 ?_
  refine r_aload_n dX0_setOrder_4 rfl rfl ?_
  refine r_bipush 39 dX0_setOrder_5 (by decide) ?_
  refine gW1 (Y := mX0_add) (ci := 0) (N := 2) dX0_setOrder_7 mlX0_19 vkX0_add (by first | rfl | assumption) ⟨by decide, rfl⟩ rfl g1 ?_
  refine r_aload_n dX0_setOrder_10 rfl rfl ?_
  refine r_aload_n dX0_setOrder_11 rfl rfl ?_
  refine r_getI (N := 8) dX0_setOrder_12 fwX0_30 (by first | rfl | assumption) (Nat.le_of_ble_eq_true rfl) rfl ?_
  refine gW1 (Y := mX0_add) (ci := 0) (N := 2) dX0_setOrder_15 mlX0_19 vkX0_add (by first | rfl | assumption) ⟨by decide, rfl⟩ rfl (by rw [t1 c hne, e3]; exact g2) ?_
  refine r_aload_n dX0_setOrder_18 rfl rfl ?_
  refine r_aload_n dX0_setOrder_19 rfl rfl ?_
  refine r_getI (N := 8) dX0_setOrder_20 fwX0_35 (by first | rfl | assumption) (Nat.le_of_ble_eq_true rfl) rfl ?_
  refine gW1 (Y := mX0_add) (ci := 0) (N := 2) dX0_setOrder_23 mlX0_19 vkX0_add (by first | rfl | assumption) ⟨by decide, rfl⟩ rfl (by rw [t2 c hne, e0]; exact g3) ?_
  refine r_aload_n dX0_setOrder_26 rfl rfl ?_
  refine r_aload_n dX0_setOrder_27 rfl rfl ?_
  refine r_getI (N := 8) dX0_setOrder_28 fwX0_38 (by first | rfl | assumption) (Nat.le_of_ble_eq_true rfl) rfl ?_
  refine gW1 (Y := mX0_add) (ci := 0) (N := 2) dX0_setOrder_31 mlX0_19 vkX0_add (by first | rfl | assumption) ⟨by decide, rfl⟩ rfl (by rw [t3 c hne, e4]; exact g4) ?_
  refine r_aload_n dX0_setOrder_34 rfl rfl ?_
  refine r_aload_n dX0_setOrder_35 rfl rfl ?_
  refine r_getI (N := 8) dX0_setOrder_36 fwX0_41 (by first | rfl | assumption) (Nat.le_of_ble_eq_true rfl) rfl ?_
  refine gW1 (Y := mX0_add) (ci := 0) (N := 2) dX0_setOrder_39 mlX0_19 vkX0_add (by first | rfl | assumption) ⟨by decide, rfl⟩ rfl (by rw [t4 c hne, e5]; exact g5) ?_
  refine r_return dX0_setOrder_42 rfl (Nat.zero_le _) (Nat.zero_le _) ?_
  exact ⟨rfl, rfl⟩
set_option maxHeartbeats 4000000 in
set_option maxRecDepth 100000 in
theorem x_setNumber {tg : Nat} {x : Int32} {M : Mem} (h2 : tg < 256) : ∃ M', Gv mX0_setNumber [.ref 20, .int (nI tg), .int x] M none M' ∧ HB M' 20 21 6 (pNum tg x) ∧ Fr [20, 21] M M' := by
  obtain ⟨M0, g0, H0, F0⟩ := b_clearX (M := M) isBy20 (pNum tg x)
  obtain ⟨M1, g1, H1, F1⟩ := b_addX (x := 70) isBy20 H0 (by decide) rfl
  have t1 := F0.tr F1 (ex'' := [20, 21]) (fun _ q => q) (fun _ q => q)
  obtain ⟨M2, g2, H2, F2⟩ := b_addX (x := nI tg) isBy20 H1 (by decide) (okB_nI h2).symm
  have t2 := t1.tr F2 (ex'' := [20, 21]) (fun _ q => q) (fun _ q => q)
  obtain ⟨M3, g3, H3, F3⟩ := b_addNumberX (x := x) isBy20 H2 (by decide) (fun q hq => by
    show pNum tg x (2 + q) = nby x q
    unfold pNum
    rw [if_neg (by omega), if_neg (by omega), show 2 + q - 2 = q by omega])
  refine ⟨M3, ?_, H3, t2.tr F3 (fun _ q => q) (fun _ q => q)⟩
  refine con_of (lv := [some (.ref 20), some (.int (nI tg)), some (.int x)]) (by decide) rfl (Nat.le_of_ble_eq_true rfl) (by simp [lvle]) ?_
  refine r_aload_n dX0_setNumber_0 rfl rfl ?_
  refine gW0 (Y := mX0_clear) (ci := 0) (N := 2) dX0_setNumber_1 mlX0_23 vkX0_clear (by first | rfl | assumption) ⟨by decide, rfl⟩ rfl g0 ?_
  refine r_aload_n dX0_setNumber_4 rfl rfl ?_
  refine r_bipush 70 dX0_setNumber_5 (by decide) ?_
  refine gW1 (Y := mX0_add) (ci := 0) (N := 2) dX0_setNumber_7 mlX0_19 vkX0_add (by first | rfl | assumption) ⟨by decide, rfl⟩ rfl g1 ?_
  refine r_aload_n dX0_setNumber_10 rfl rfl ?_
  refine r_iload_n dX0_setNumber_11 rfl rfl ?_
  refine gW1 (Y := mX0_add) (ci := 0) (N := 2) dX0_setNumber_12 mlX0_19 vkX0_add (by first | rfl | assumption) ⟨by decide, rfl⟩ rfl g2 ?_
  refine r_aload_n dX0_setNumber_15 rfl rfl ?_
  refine r_iload_n dX0_setNumber_16 rfl rfl ?_
  refine gW1 (Y := mX0_addNumber) (ci := 0) (N := 2) dX0_setNumber_17 mlX0_44 vkX0_addNumber (by first | rfl | assumption) ⟨by decide, rfl⟩ rfl g3 ?_
  refine r_return dX0_setNumber_20 rfl (Nat.zero_le _) (Nat.zero_le _) ?_
  exact ⟨rfl, rfl⟩
set_option maxHeartbeats 4000000 in
set_option maxRecDepth 100000 in
theorem x_setAnswer {tg oc : Nat} {M : Mem} (h1 : oc < 256) (h2 : tg < 256) : ∃ M', Gv mX0_setAnswer [.ref 20, .int (nI tg), .int (nI oc)] M none M' ∧ HB M' 20 21 3 (pAns tg oc) ∧ Fr [20, 21] M M' := by
  obtain ⟨M0, g0, H0, F0⟩ := b_clearX (M := M) isBy20 (pAns tg oc)
  obtain ⟨M1, g1, H1, F1⟩ := b_addX (x := 161) isBy20 H0 (by decide) rfl
  have t1 := F0.tr F1 (ex'' := [20, 21]) (fun _ q => q) (fun _ q => q)
  obtain ⟨M2, g2, H2, F2⟩ := b_addX (x := nI tg) isBy20 H1 (by decide) (okB_nI h2).symm
  have t2 := t1.tr F2 (ex'' := [20, 21]) (fun _ q => q) (fun _ q => q)
  obtain ⟨M3, g3, H3, F3⟩ := b_addX (x := nI oc) isBy20 H2 (by decide) (okB_nI h1).symm
  refine ⟨M3, ?_, H3, t2.tr F3 (fun _ q => q) (fun _ q => q)⟩
  refine con_of (lv := [some (.ref 20), some (.int (nI tg)), some (.int (nI oc))]) (by decide) rfl (Nat.le_of_ble_eq_true rfl) (by simp [lvle]) ?_
  refine r_aload_n dX0_setAnswer_0 rfl rfl ?_
  refine gW0 (Y := mX0_clear) (ci := 0) (N := 2) dX0_setAnswer_1 mlX0_23 vkX0_clear (by first | rfl | assumption) ⟨by decide, rfl⟩ rfl g0 ?_
  refine r_aload_n dX0_setAnswer_4 rfl rfl ?_
  refine r_sipush 161 dX0_setAnswer_5 (by decide) ?_
  refine gW1 (Y := mX0_add) (ci := 0) (N := 2) dX0_setAnswer_8 mlX0_19 vkX0_add (by first | rfl | assumption) ⟨by decide, rfl⟩ rfl g1 ?_
  refine r_aload_n dX0_setAnswer_11 rfl rfl ?_
  refine r_iload_n dX0_setAnswer_12 rfl rfl ?_
  refine gW1 (Y := mX0_add) (ci := 0) (N := 2) dX0_setAnswer_13 mlX0_19 vkX0_add (by first | rfl | assumption) ⟨by decide, rfl⟩ rfl g2 ?_
  refine r_aload_n dX0_setAnswer_16 rfl rfl ?_
  refine r_iload_n dX0_setAnswer_17 rfl rfl ?_
  refine gW1 (Y := mX0_add) (ci := 0) (N := 2) dX0_setAnswer_18 mlX0_19 vkX0_add (by first | rfl | assumption) ⟨by decide, rfl⟩ rfl g3 ?_
  refine r_return dX0_setAnswer_21 rfl (Nat.zero_le _) (Nat.zero_le _) ?_
  exact ⟨rfl, rfl⟩
set_option maxHeartbeats 4000000 in
set_option maxRecDepth 100000 in
theorem m_three {tg oc : Nat} {M : Mem} : ∃ M', Gv mX6_three [.ref 40, .int 161, .int (nI tg), .int (nI oc)] M none M' ∧ HP M' 3 (pAns tg oc) ∧ FrS [49] [(40, 14)] M M' := by
  refine ⟨upd2 (upd2 (upd2 (upd2 M 40 14 3) 49 0 161) 49 1 (nI tg)) 49 2 (nI oc), ?_, ⟨by rw [u_nn (by decide), u_nn (by decide), u_nn (by decide), u_ss]; rfl, fun j hj => ?_⟩, (((FrS.rf.ups (by decide)).upc (by decide)).upc (by decide)).upc (by decide)⟩
  · refine con_of (lv := [some (.ref 40), some (.int 161), some (.int (nI tg)), some (.int (nI oc))]) (by decide) rfl (Nat.le_of_ble_eq_true rfl) (by simp [lvle]) ?_
    refine r_aload_n dX6_three_0 rfl rfl ?_
    refine r_iconst 3 dX6_three_1 (by decide) ?_
    refine r_putI (N := 35) dX6_three_2 fwX6_125 (by first | rfl | assumption) (Nat.le_of_ble_eq_true rfl) rfl (Or.inl rfl) rfl rfl ?_
    refine r_aload_n dX6_three_5 rfl rfl ?_
    refine r_getR (N := 35) dX6_three_6 fwX6_34 (by first | rfl | assumption) (Nat.le_of_ble_eq_true rfl) rfl (by first | rfl | assumption) ?_
    refine r_iconst 0 dX6_three_9 (by decide) ?_
    refine r_iload_n dX6_three_10 rfl rfl ?_
    refine r_iastore dX6_three_11 (by first | rfl | assumption) (by exact vp_in_nI (n := 0) (by decide) (by decide)) ?_
    refine r_aload_n dX6_three_12 rfl rfl ?_
    refine r_getR (N := 35) dX6_three_13 fwX6_34 (by first | rfl | assumption) (Nat.le_of_ble_eq_true rfl) rfl (by first | rfl | assumption) ?_
    refine r_iconst 1 dX6_three_16 (by decide) ?_
    refine r_iload_n dX6_three_17 rfl rfl ?_
    refine r_iastore dX6_three_18 (by first | rfl | assumption) (by exact vp_in_nI (n := 1) (by decide) (by decide)) ?_
    refine r_aload_n dX6_three_19 rfl rfl ?_
    refine r_getR (N := 35) dX6_three_20 fwX6_34 (by first | rfl | assumption) (Nat.le_of_ble_eq_true rfl) rfl (by first | rfl | assumption) ?_
    refine r_iconst 2 dX6_three_23 (by decide) ?_
    refine r_iload_n dX6_three_24 rfl rfl ?_
    refine r_iastore dX6_three_25 (by first | rfl | assumption) (by exact vp_in_nI (n := 2) (by decide) (by decide)) ?_
    refine r_return dX6_three_26 rfl (Nat.zero_le _) (Nat.zero_le _) ?_
    exact ⟨rfl, rfl⟩
  · have : j = 0 ∨ j = 1 ∨ j = 2 := by omega
    rcases this with rfl | rfl | rfl
    · rw [u_sn (by decide), u_sn (by decide), u_ss]; rfl
    · rw [u_sn (by decide), u_ss]; rfl
    · rw [u_ss]; rfl
set_option maxHeartbeats 4000000 in
set_option maxRecDepth 100000 in
theorem m_number {tg : Nat} {x : Int32} {M : Mem} : ∃ M', Gv mX6_number [.ref 40, .int (nI tg), .int x] M none M' ∧ HP M' 6 (pNum tg x) ∧ FrS [49] [(40, 14)] M M' := by
  refine ⟨upd2 (upd2 (upd2 (upd2 (upd2 (upd2 (upd2 M 40 14 6) 49 0 70) 49 1 (nI tg)) 49 2 (nby x 0)) 49 3 (nby x 1)) 49 4 (nby x 2)) 49 5 (nby x 3), ?_, ⟨by rw [u_nn (by decide), u_nn (by decide), u_nn (by decide), u_nn (by decide), u_nn (by decide), u_nn (by decide), u_ss]; rfl, fun j hj => ?_⟩, ((((((FrS.rf.ups (by decide)).upc (by decide)).upc (by decide)).upc (by decide)).upc (by decide)).upc (by decide)).upc (by decide)⟩
  · have e0 : us x (24 - 8 * 0) &&& 255 = nby x 0 := rfl
    have e1 : us x (24 - 8 * (0 + 1)) &&& 255 = nby x 1 := by unfold nby; rw [show (24 - 8 * (0 + 1) : Int32) = nI (24 - 8 * 1) by decide]
    have e2 : us x (24 - 8 * (0 + 1 + 1)) &&& 255 = nby x 2 := by unfold nby; rw [show (24 - 8 * (0 + 1 + 1) : Int32) = nI (24 - 8 * 2) by decide]
    have e3 : us x (24 - 8 * (0 + 1 + 1 + 1)) &&& 255 = nby x 3 := by unfold nby; rw [show (24 - 8 * (0 + 1 + 1 + 1) : Int32) = nI (24 - 8 * 3) by decide]
    unfold us at e0 e1 e2 e3
    refine con_of (lv := [some (.ref 40), some (.int (nI tg)), some (.int x), none]) (by decide) rfl (Nat.le_of_ble_eq_true rfl) (by simp [lvle]) ?_
    refine r_aload_n dX6_number_0 rfl rfl ?_
    refine r_bipush 6 dX6_number_1 (by decide) ?_
    refine r_putI (N := 35) dX6_number_3 fwX6_125 (by first | rfl | assumption) (Nat.le_of_ble_eq_true rfl) rfl (Or.inl rfl) rfl rfl ?_
    refine r_aload_n dX6_number_6 rfl rfl ?_
    refine r_getR (N := 35) dX6_number_7 fwX6_34 (by first | rfl | assumption) (Nat.le_of_ble_eq_true rfl) rfl (by first | rfl | assumption) ?_
    refine r_iconst 0 dX6_number_10 (by decide) ?_
    refine r_bipush 70 dX6_number_11 (by decide) ?_
    refine r_iastore dX6_number_13 (by first | rfl | assumption) (by exact vp_in_nI (n := 0) (by decide) (by decide)) ?_
    refine r_aload_n dX6_number_14 rfl rfl ?_
    refine r_getR (N := 35) dX6_number_15 fwX6_34 (by first | rfl | assumption) (Nat.le_of_ble_eq_true rfl) rfl (by first | rfl | assumption) ?_
    refine r_iconst 1 dX6_number_18 (by decide) ?_
    refine r_iload_n dX6_number_19 rfl rfl ?_
    refine r_iastore dX6_number_20 (by first | rfl | assumption) (by exact vp_in_nI (n := 1) (by decide) (by decide)) ?_
    refine r_iconst 0 dX6_number_21 (by decide) ?_
    refine r_istore_n3 dX6_number_22 rfl (Nat.le_of_ble_eq_true rfl) ?_
    skip
    refine r_iload_n dX6_number_23 rfl rfl ?_
    refine r_iconst 4 dX6_number_24 (by decide) ?_
    refine r_icmp_ge 55 dX6_number_25 (by decide) (fun c_25 => absurd c_25 (by decide)) (fun c_25 => ?_)
    refine r_aload_n dX6_number_28 rfl rfl ?_
    refine r_getR (N := 35) dX6_number_29 fwX6_34 (by first | rfl | assumption) (Nat.le_of_ble_eq_true rfl) rfl (by first | rfl | assumption) ?_
    refine r_iconst 2 dX6_number_32 (by decide) ?_
    refine r_iload_n dX6_number_33 rfl rfl ?_
    refine r_iadd dX6_number_34 ?_
    refine r_iload_n dX6_number_35 rfl rfl ?_
    refine r_bipush 24 dX6_number_36 (by decide) ?_
    refine r_bipush 8 dX6_number_38 (by decide) ?_
    refine r_iload_n dX6_number_40 rfl rfl ?_
    refine r_imul dX6_number_41 ?_
    refine r_isub dX6_number_42 ?_
    refine r_iushr dX6_number_43 ?_
    refine r_sipush 255 dX6_number_44 (by decide) ?_
    refine r_iand dX6_number_47 ?_
    rw [e0]
    refine r_iastore dX6_number_48 (by first | rfl | assumption) (by exact vp_in_nI (n := 2) (by decide) (by decide)) ?_
    refine r_iinc_3 (_ + 1) dX6_number_49 rfl (Nat.le_of_ble_eq_true rfl) rfl ?_
    refine r_goto 23 dX6_number_52 (by decide) ?_
    skip
    refine r_iload_n dX6_number_23 rfl rfl ?_
    refine r_iconst 4 dX6_number_24 (by decide) ?_
    refine r_icmp_ge 55 dX6_number_25 (by decide) (fun c_25 => absurd c_25 (by decide)) (fun c_25 => ?_)
    refine r_aload_n dX6_number_28 rfl rfl ?_
    refine r_getR (N := 35) dX6_number_29 fwX6_34 (by first | rfl | assumption) (Nat.le_of_ble_eq_true rfl) rfl (by first | rfl | assumption) ?_
    refine r_iconst 2 dX6_number_32 (by decide) ?_
    refine r_iload_n dX6_number_33 rfl rfl ?_
    refine r_iadd dX6_number_34 ?_
    refine r_iload_n dX6_number_35 rfl rfl ?_
    refine r_bipush 24 dX6_number_36 (by decide) ?_
    refine r_bipush 8 dX6_number_38 (by decide) ?_
    refine r_iload_n dX6_number_40 rfl rfl ?_
    refine r_imul dX6_number_41 ?_
    refine r_isub dX6_number_42 ?_
    refine r_iushr dX6_number_43 ?_
    refine r_sipush 255 dX6_number_44 (by decide) ?_
    refine r_iand dX6_number_47 ?_
    rw [e1]
    refine r_iastore dX6_number_48 (by first | rfl | assumption) (by exact vp_in_nI (n := 3) (by decide) (by decide)) ?_
    refine r_iinc_3 (_ + 1) dX6_number_49 rfl (Nat.le_of_ble_eq_true rfl) rfl ?_
    refine r_goto 23 dX6_number_52 (by decide) ?_
    skip
    refine r_iload_n dX6_number_23 rfl rfl ?_
    refine r_iconst 4 dX6_number_24 (by decide) ?_
    refine r_icmp_ge 55 dX6_number_25 (by decide) (fun c_25 => absurd c_25 (by decide)) (fun c_25 => ?_)
    refine r_aload_n dX6_number_28 rfl rfl ?_
    refine r_getR (N := 35) dX6_number_29 fwX6_34 (by first | rfl | assumption) (Nat.le_of_ble_eq_true rfl) rfl (by first | rfl | assumption) ?_
    refine r_iconst 2 dX6_number_32 (by decide) ?_
    refine r_iload_n dX6_number_33 rfl rfl ?_
    refine r_iadd dX6_number_34 ?_
    refine r_iload_n dX6_number_35 rfl rfl ?_
    refine r_bipush 24 dX6_number_36 (by decide) ?_
    refine r_bipush 8 dX6_number_38 (by decide) ?_
    refine r_iload_n dX6_number_40 rfl rfl ?_
    refine r_imul dX6_number_41 ?_
    refine r_isub dX6_number_42 ?_
    refine r_iushr dX6_number_43 ?_
    refine r_sipush 255 dX6_number_44 (by decide) ?_
    refine r_iand dX6_number_47 ?_
    rw [e2]
    refine r_iastore dX6_number_48 (by first | rfl | assumption) (by exact vp_in_nI (n := 4) (by decide) (by decide)) ?_
    refine r_iinc_3 (_ + 1) dX6_number_49 rfl (Nat.le_of_ble_eq_true rfl) rfl ?_
    refine r_goto 23 dX6_number_52 (by decide) ?_
    skip
    refine r_iload_n dX6_number_23 rfl rfl ?_
    refine r_iconst 4 dX6_number_24 (by decide) ?_
    refine r_icmp_ge 55 dX6_number_25 (by decide) (fun c_25 => absurd c_25 (by decide)) (fun c_25 => ?_)
    refine r_aload_n dX6_number_28 rfl rfl ?_
    refine r_getR (N := 35) dX6_number_29 fwX6_34 (by first | rfl | assumption) (Nat.le_of_ble_eq_true rfl) rfl (by first | rfl | assumption) ?_
    refine r_iconst 2 dX6_number_32 (by decide) ?_
    refine r_iload_n dX6_number_33 rfl rfl ?_
    refine r_iadd dX6_number_34 ?_
    refine r_iload_n dX6_number_35 rfl rfl ?_
    refine r_bipush 24 dX6_number_36 (by decide) ?_
    refine r_bipush 8 dX6_number_38 (by decide) ?_
    refine r_iload_n dX6_number_40 rfl rfl ?_
    refine r_imul dX6_number_41 ?_
    refine r_isub dX6_number_42 ?_
    refine r_iushr dX6_number_43 ?_
    refine r_sipush 255 dX6_number_44 (by decide) ?_
    refine r_iand dX6_number_47 ?_
    rw [e3]
    refine r_iastore dX6_number_48 (by first | rfl | assumption) (by exact vp_in_nI (n := 5) (by decide) (by decide)) ?_
    refine r_iinc_3 (_ + 1) dX6_number_49 rfl (Nat.le_of_ble_eq_true rfl) rfl ?_
    refine r_goto 23 dX6_number_52 (by decide) ?_
    skip
    refine r_iload_n dX6_number_23 rfl rfl ?_
    refine r_iconst 4 dX6_number_24 (by decide) ?_
    refine r_icmp_ge 55 dX6_number_25 (by decide) (fun c_25 => ?_) (fun c_25 => absurd (by decide) c_25)
    refine r_return dX6_number_55 rfl (Nat.zero_le _) (Nat.zero_le _) ?_
    exact ⟨rfl, rfl⟩
  · have : j = 0 ∨ j = 1 ∨ j = 2 ∨ j = 3 ∨ j = 4 ∨ j = 5 := by omega
    rcases this with rfl | rfl | rfl | rfl | rfl | rfl
    · rw [u_sn (by decide), u_sn (by decide), u_sn (by decide), u_sn (by decide), u_sn (by decide), u_ss]; rfl
    · rw [u_sn (by decide), u_sn (by decide), u_sn (by decide), u_sn (by decide), u_ss]; rfl
    · rw [u_sn (by decide), u_sn (by decide), u_sn (by decide), u_ss]; rfl
    · rw [u_sn (by decide), u_sn (by decide), u_ss]; rfl
    · rw [u_sn (by decide), u_ss]; rfl
    · rw [u_ss]; rfl
set_option maxHeartbeats 4000000 in
set_option maxRecDepth 100000 in
theorem m_lastOf {M : Mem} {k a b : Int32} : Gv mX6_lastOf [.int k, .int a, .int b] M (some (.int (if k = 3 then 0 else a + b - 1))) M := by
  refine con_of (lv := [some (.int k), some (.int a), some (.int b)]) (by decide) rfl (Nat.le_of_ble_eq_true rfl) (by simp [lvle]) ?_
  refine r_iload_n dX6_lastOf_0 rfl rfl ?_
  refine r_iconst 3 dX6_lastOf_1 (by decide) ?_
  refine r_icmp_ne 9 dX6_lastOf_2 (by decide) (fun c_2 => ?_) (fun c_2 => ?_)
  · refine r_iload_n dX6_lastOf_9 rfl rfl ?_
    refine r_iload_n dX6_lastOf_10 rfl rfl ?_
    refine r_iadd dX6_lastOf_11 ?_
    refine r_iconst 1 dX6_lastOf_12 (by decide) ?_
    refine r_isub dX6_lastOf_13 ?_
    refine r_ireturn dX6_lastOf_14 rfl (Nat.zero_le _) (Nat.zero_le _) ?_
    refine ⟨?_, rfl⟩
    first | rw [if_pos c_2] | rw [if_neg c_2]
  · refine r_iconst 0 dX6_lastOf_5 (by decide) ?_
    refine r_goto 14 dX6_lastOf_6 (by decide) ?_
    refine r_ireturn dX6_lastOf_14 rfl (Nat.zero_le _) (Nat.zero_le _) ?_
    refine ⟨?_, rfl⟩
    first | rw [if_pos c_2] | rw [if_neg c_2]
/-- how a command is DONE: the frames of its numbers, from k on -/
def lpC (P : PL) (kd tg fi : Nat) : Nat → Nat → LSt → DSt → (Nat → Int32) → LSt × DSt × (Nat → Int32) × Bool
  | 0, _, v, d, f => (v, d, f, true)
  | e + 1, k, v, d, f =>
    if (dl P (pNum tg (if kd = 0 then rds d (fi + k) else f k)) 6 4 v).2 = true then
      lpC P kd tg fi e (k + 1) (dl P (pNum tg (if kd = 0 then rds d (fi + k) else f k)) 6 4 v).1 (if kd = 0 then d else if kd = 1 then wrt d (fi + k) (f k) else thr d (fi + k) (f k)) (if kd = 0 then upd f k (rds d (fi + k)) else f)
    else ((dl P (pNum tg (if kd = 0 then rds d (fi + k) else f k)) 6 4 v).1, d, f, false)
def lastN (kd fi mn : Nat) : Nat := if kd = 3 then 0 else fi + mn - 1
def cmd2 (P : PL) (kd tg : Nat) (r : LSt × DSt × (Nat → Int32) × Bool) : LSt × DSt × (Nat → Int32) × Nat :=
  if r.2.2.2 = true then ((dl P (pAns tg 0) 3 4 r.1).1, (if kd = 3 then layD r.2.1 else r.2.1), r.2.2.1, if (dl P (pAns tg 0) 3 4 r.1).2 = true then 0 else 1) else (r.1, r.2.1, r.2.2.1, 1)
/-- how a command is DONE -/
def cmd (P : PL) (kd tg fi mn : Nat) (v : LSt) (d : DSt) (f : Nat → Int32) : LSt × DSt × (Nat → Int32) × Nat :=
  if (dl P (pOrd kd tg fi mn) 5 4 v).2 = true then
    if 31 < lastN kd fi mn then ((dl P (pAns tg 2) 3 4 (dl P (pOrd kd tg fi mn) 5 4 v).1).1, d, f, if (dl P (pAns tg 2) 3 4 (dl P (pOrd kd tg fi mn) 5 4 v).1).2 = true then 2 else 1)
    else cmd2 P kd tg (lpC P kd tg fi mn 0 (dl P (pOrd kd tg fi mn) 5 4 v).1 d f)
  else ((dl P (pOrd kd tg fi mn) 5 4 v).1, d, f, 1)
