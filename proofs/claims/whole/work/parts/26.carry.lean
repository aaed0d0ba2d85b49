def fxC (t : Nat) : List Nat := [6, 7, 8, 9, 10, 13, 15, 16, 17, 20, 21, 25 + 2 * t]
def fxS : List (Nat × Nat) := [(4, 5), (4, 10), (4, 11), (4, 12), (14, 3)]
theorem VC.frS {M M' : Mem} {v : LSt} {cs : List Nat} {ss : List (Nat × Nat)} (h : VC M v) (F : FrS cs ss M M') (h1 : 4 ∉ cs ∧ 10 ∉ cs ∧ 13 ∉ cs) (h2 : ∀ q ∈ ss, q.1 ≠ 4 ∧ q.1 ≠ 10 ∧ q.1 ≠ 13) : VC M' v := by
  have a : ∀ k, M' 4 k = M 4 k := fun k => F 4 k h1.1 (fun z => (h2 _ z).1 rfl)
  have b : ∀ k, M' 10 k = M 10 k := fun k => F 10 k h1.2.1 (fun z => (h2 _ z).2.1 rfl)
  have c : ∀ k, M' 13 k = M 13 k := fun k => F 13 k h1.2.2 (fun z => (h2 _ z).2.2 rfl)
  exact ⟨by rw [a]; exact h.1, fun j q => by rw [c]; exact h.2.1 j q, by rw [a]; exact h.2.2.1, by rw [a]; exact h.2.2.2.1, by rw [a]; exact h.2.2.2.2.1, fun j q => by rw [b]; exact h.2.2.2.2.2 j q⟩
theorem DC.frS {M M' : Mem} {d : DSt} {cs : List Nat} {ss : List (Nat × Nat)} (h : DC M d) (F : FrS cs ss M M') (h1 : 14 ∉ cs ∧ 15 ∉ cs ∧ 16 ∉ cs ∧ 17 ∉ cs) (h2 : ∀ q ∈ ss, q.1 ≠ 14 ∧ q.1 ≠ 15 ∧ q.1 ≠ 16 ∧ q.1 ≠ 17) : DC M' d := by
  have a : ∀ k, M' 14 k = M 14 k := fun k => F 14 k h1.1 (fun z => (h2 _ z).1 rfl)
  have b : ∀ k, M' 15 k = M 15 k := fun k => F 15 k h1.2.1 (fun z => (h2 _ z).2.1 rfl)
  have c : ∀ k, M' 16 k = M 16 k := fun k => F 16 k h1.2.2.1 (fun z => (h2 _ z).2.2.1 rfl)
  have e : ∀ k, M' 17 k = M 17 k := fun k => F 17 k h1.2.2.2 (fun z => (h2 _ z).2.2.2 rfl)
  exact ⟨fun j q => by rw [b]; exact h.1 j q, by rw [a]; exact h.2.1, fun j q => by rw [c, e]; exact h.2.2 j q⟩
/-- what a command's cell holds -/
def CF (M : Mem) (t kd fi mn : Nat) : Prop := M (24 + 2 * t) 0 = nI t ∧ M (24 + 2 * t) 3 = nI kd ∧ M (24 + 2 * t) 4 = nI fi ∧ M (24 + 2 * t) 5 = nI mn
theorem CF.frS {M M' : Mem} {t kd fi mn : Nat} {cs : List Nat} {ss : List (Nat × Nat)} (h : CF M t kd fi mn) (F : FrS cs ss M M') (h1 : 24 + 2 * t ∉ cs) (h2 : ∀ q ∈ ss, q.1 ≠ 24 + 2 * t) : CF M' t kd fi mn := by
  have a : ∀ k, M' (24 + 2 * t) k = M (24 + 2 * t) k := fun k => F _ k h1 (fun z => h2 _ z rfl)
  exact ⟨by rw [a]; exact h.1, by rw [a]; exact h.2.1, by rw [a]; exact h.2.2.1, by rw [a]; exact h.2.2.2⟩
theorem nx_c {t : Nat} : 24 + 2 * t ∉ fxC t := by unfold fxC; simp <;> omega
theorem nx_s {t : Nat} : ∀ q ∈ fxS, q.1 ≠ 24 + 2 * t := by
  intro q hq
  unfold fxS at hq
  simp at hq
  rcases hq with rfl | rfl | rfl | rfl | rfl <;> (dsimp only; omega)
/-- all that a command's frames stand on -/
def CS (M : Mem) (v : LSt) (d : DSt) (P : PL) : Prop := TabC M ∧ TabS M ∧ VC M v ∧ DC M d ∧ PC M P
theorem CS.fr20 {M M' : Mem} {v : LSt} {d : DSt} {P : PL} (h : CS M v d P) (F : FrS [20, 21] [] M M') : CS M' v d P := ⟨h.1.frS F (by decide) (by decide), h.2.1.frS F (by decide) (by decide), h.2.2.1.frS F (by decide) (by decide), h.2.2.2.1.frS F (by decide) (by decide), h.2.2.2.2.frS F (by decide) (by decide) (by decide)⟩
theorem CS.fr4 {M M' : Mem} {v v' : LSt} {d : DSt} {P : PL} (h : CS M v d P) (hv : VC M' v') (F : FrS [6, 7, 8, 9, 10, 13] [(4, 5), (4, 10), (4, 11), (4, 12)] M M') : CS M' v' d P := ⟨h.1.frS F (by decide) (by decide), h.2.1.frS F (by decide) (by decide), hv, h.2.2.2.1.frS F (by decide) (by decide), h.2.2.2.2.frS F (by decide) (by decide) (by decide)⟩
theorem CS.fr14 {M M' : Mem} {v : LSt} {d d' : DSt} {P : PL} (h : CS M v d P) (hd : DC M' d') (F : FrS [15, 16, 17] [(14, 3)] M M') : CS M' v d' P := ⟨h.1.frS F (by decide) (by decide), h.2.1.frS F (by decide) (by decide), h.2.2.1.frS F (by decide) (by decide), hd, h.2.2.2.2.frS F (by decide) (by decide) (by decide)⟩
theorem CS.frn {M M' : Mem} {v : LSt} {d : DSt} {P : PL} {t : Nat} (h : CS M v d P) (F : FrS [25 + 2 * t] [] M M') : CS M' v d P := ⟨h.1.frS F ⟨by simp <;> omega, by simp <;> omega⟩ (by simp), h.2.1.frS F (by simp <;> omega) (by simp), h.2.2.1.frS F ⟨by simp <;> omega, by simp <;> omega, by simp <;> omega⟩ (by simp), h.2.2.2.1.frS F ⟨by simp <;> omega, by simp <;> omega, by simp <;> omega, by simp <;> omega⟩ (by simp), h.2.2.2.2.frS F ⟨by simp <;> omega, by simp <;> omega, by simp <;> omega⟩ (by simp) (by simp)⟩
/-- the frame of the class is sent -/
theorem x_send {M : Mem} {v : LSt} {d : DSt} {P : PL} {p : Nat → Int32} {n : Nat} (h : CS M v d P) (okp : okP P) (H : HB M 20 21 n p) (hp : okF p n) (hfr : v.1 + 4 < 2 ^ 31) : ∃ M', Gv mX4_deliver [.ref 4, .ref 20] M (some (.int (eI (dl P p n 4 v).2))) M' ∧ CS M' (dl P p n 4 v).1 d P ∧ FrS [6, 7, 8, 9, 10, 13] [(4, 5), (4, 10), (4, 11), (4, 12)] M M' := by
  obtain ⟨M', g, hv, F⟩ := x_deliver isBy20 (by decide) (by decide) hp okp h.1 h.2.1 H h.2.2.1 h.2.2.2.2 hfr
  exact ⟨M', g, h.fr4 hv F, F⟩
set_option maxHeartbeats 4000000 in
set_option maxRecDepth 100000 in
theorem x_keep0 {M : Mem} {t k fi mn : Nat} {x : Int32} (ht : t < 8) (hk : k < 4) (hc : CF M t 0 fi mn) : Gv mX5_keepNumber [.ref 0, .ref (24 + 2 * t), .int (nI k), .int x] M none (upd2 M (25 + 2 * t) k x) := by
  obtain ⟨hc1, hc2, hc3⟩ := isCm_t t ht
  have g := x_setNum (M := M) (x := x) (isCm_t t ht) hk
  refine con_of (lv := [some (.ref 0), some (.ref (24 + 2 * t)), some (.int (nI k)), some (.int x)]) (by decide) rfl (Nat.le_of_ble_eq_true rfl) (by simp [lvle]) ?_
  refine r_aload_n dX5_keepNumber_0 rfl rfl ?_
  refine r_getI (N := 8) dX5_keepNumber_1 fwX5_136 (by first | rfl | assumption) (Nat.le_of_ble_eq_true rfl) rfl ?_
  rw [hc.2.1]
  refine r_if_ne 16 dX5_keepNumber_4 (by decide) (fun c_4 => absurd rfl c_4) (fun c_4 => ?_)
  refine r_aload_n dX5_keepNumber_7 rfl rfl ?_
  refine r_iload_n dX5_keepNumber_8 rfl rfl ?_
  refine r_iload_n dX5_keepNumber_9 rfl rfl ?_
  refine gW2 (Y := mX2_setNumber) (ci := 2) (N := 8) dX5_keepNumber_10 mlX5_226 vkX2_setNumber (by first | rfl | assumption) ⟨by decide, rfl⟩ rfl g ?_
  refine r_goto 55 dX5_keepNumber_13 (by decide) ?_
  refine r_return dX5_keepNumber_55 rfl (Nat.zero_le _) (Nat.zero_le _) ?_
  exact ⟨rfl, rfl⟩
set_option maxHeartbeats 4000000 in
set_option maxRecDepth 100000 in
theorem x_keep1 {M : Mem} {d : DSt} {t k fi mn : Nat} {x : Int32} (ht : t < 8) (hk : k < 4) (hs : fi + k < 32) (hc : CF M t 1 fi mn) (h : DC M d) (ok : okD d) : ∃ M', Gv mX5_keepNumber [.ref 0, .ref (24 + 2 * t), .int (nI k), .int x] M none M' ∧ DC M' (wrt d (fi + k) x) ∧ FrS [15, 16, 17] [(14, 3)] M M' := by
  obtain ⟨hc1, hc2, hc3⟩ := isCm_t t ht
  obtain ⟨M', g, H, F⟩ := x_putIn (v := x) h ok hs
  refine ⟨M', ?_, H, F⟩
  refine con_of (lv := [some (.ref 0), some (.ref (24 + 2 * t)), some (.int (nI k)), some (.int x)]) (by decide) rfl (Nat.le_of_ble_eq_true rfl) (by simp [lvle]) ?_
  refine r_aload_n dX5_keepNumber_0 rfl rfl ?_
  refine r_getI (N := 8) dX5_keepNumber_1 fwX5_136 (by first | rfl | assumption) (Nat.le_of_ble_eq_true rfl) rfl ?_
  rw [hc.2.1]
  refine r_if_ne 16 dX5_keepNumber_4 (by decide) (fun c_4 => ?_) (fun c_4 => absurd c_4 (by decide))
  refine r_aload_n dX5_keepNumber_16 rfl rfl ?_
  refine r_getI (N := 8) dX5_keepNumber_17 fwX5_136 (by first | rfl | assumption) (Nat.le_of_ble_eq_true rfl) rfl ?_
  refine r_iconst 1 dX5_keepNumber_20 (by decide) ?_
  rw [hc.2.1]
  refine r_icmp_ne 41 dX5_keepNumber_21 (by decide) (fun c_21 => absurd rfl c_21) (fun c_21 => ?_)
  refine r_aload_n dX5_keepNumber_24 rfl rfl ?_
  refine r_getR (N := 10) dX5_keepNumber_25 fwX5_28 (by first | rfl | assumption) (Nat.le_of_ble_eq_true rfl) rfl (by first | rfl | assumption) ?_
  refine r_aload_n dX5_keepNumber_28 rfl rfl ?_
  refine r_getI (N := 8) dX5_keepNumber_29 fwX5_195 (by first | rfl | assumption) (Nat.le_of_ble_eq_true rfl) rfl ?_
  refine r_iload_n dX5_keepNumber_32 rfl rfl ?_
  refine r_iadd dX5_keepNumber_33 ?_
  rw [hc.2.2.1, nI_add]
  refine r_iload_n dX5_keepNumber_34 rfl rfl ?_
  refine gW2 (Y := mX3_putInCache) (ci := 3) (N := 4) dX5_keepNumber_35 mlX5_227 vkX3_putInCache (by first | rfl | assumption) ⟨by decide, rfl⟩ rfl g ?_
  refine r_goto 55 dX5_keepNumber_38 (by decide) ?_
  refine r_return dX5_keepNumber_55 rfl (Nat.zero_le _) (Nat.zero_le _) ?_
  exact ⟨rfl, rfl⟩
set_option maxHeartbeats 4000000 in
set_option maxRecDepth 100000 in
theorem x_keep2 {M : Mem} {d : DSt} {t k kd fi mn : Nat} {x : Int32} (ht : t < 8) (hk : k < 4) (hkd : kd = 2) (hs : fi + k < 32) (hc : CF M t kd fi mn) (h : DC M d) (ok : okD d) : ∃ M', Gv mX5_keepNumber [.ref 0, .ref (24 + 2 * t), .int (nI k), .int x] M none M' ∧ DC M' (thr d (fi + k) x) ∧ FrS [15, 16, 17] [(14, 3)] M M' := by
  obtain ⟨hc1, hc2, hc3⟩ := isCm_t t ht
  subst hkd
  obtain ⟨M', g, H, F⟩ := x_through (v := x) h ok hs
  refine ⟨M', ?_, H, F⟩
  refine con_of (lv := [some (.ref 0), some (.ref (24 + 2 * t)), some (.int (nI k)), some (.int x)]) (by decide) rfl (Nat.le_of_ble_eq_true rfl) (by simp [lvle]) ?_
  refine r_aload_n dX5_keepNumber_0 rfl rfl ?_
  refine r_getI (N := 8) dX5_keepNumber_1 fwX5_136 (by first | rfl | assumption) (Nat.le_of_ble_eq_true rfl) rfl ?_
  rw [hc.2.1]
  refine r_if_ne 16 dX5_keepNumber_4 (by decide) (fun c_4 => ?_) (fun c_4 => absurd c_4 (by decide))
  refine r_aload_n dX5_keepNumber_16 rfl rfl ?_
  refine r_getI (N := 8) dX5_keepNumber_17 fwX5_136 (by first | rfl | assumption) (Nat.le_of_ble_eq_true rfl) rfl ?_
  refine r_iconst 1 dX5_keepNumber_20 (by decide) ?_
  rw [hc.2.1]
  refine r_icmp_ne 41 dX5_keepNumber_21 (by decide) (fun c_21 => ?_) (fun c_21 => absurd c_21 (by decide))
  refine r_aload_n dX5_keepNumber_41 rfl rfl ?_
  refine r_getR (N := 10) dX5_keepNumber_42 fwX5_28 (by first | rfl | assumption) (Nat.le_of_ble_eq_true rfl) rfl (by first | rfl | assumption) ?_
  refine r_aload_n dX5_keepNumber_45 rfl rfl ?_
  refine r_getI (N := 8) dX5_keepNumber_46 fwX5_195 (by first | rfl | assumption) (Nat.le_of_ble_eq_true rfl) rfl ?_
  refine r_iload_n dX5_keepNumber_49 rfl rfl ?_
  refine r_iadd dX5_keepNumber_50 ?_
  rw [hc.2.2.1, nI_add]
  refine r_iload_n dX5_keepNumber_51 rfl rfl ?_
  refine gW2 (Y := mX3_putThrough) (ci := 3) (N := 4) dX5_keepNumber_52 mlX5_230 vkX3_putThrough (by first | rfl | assumption) ⟨by decide, rfl⟩ rfl g ?_
  refine r_return dX5_keepNumber_55 rfl (Nat.zero_le _) (Nat.zero_le _) ?_
  exact ⟨rfl, rfl⟩
set_option maxHeartbeats 4000000 in
set_option maxRecDepth 100000 in
theorem x_co_end {M : Mem} {v : LSt} {d : DSt} {P : PL} {t kd fi mn : Nat} {a b : Option Value} (ht : t < 8) (hkd : kd ≤ 3) (h : CS M v d P) (okp : okP P) (ok : okD d) (hc : CF M t kd fi mn) (hfr : v.1 + 4 < 2 ^ 31) : ∃ M', WP mX5_carryOut 137 [some (.ref 0), some (.ref (24 + 2 * t)), some (.int 0), none, none, none] [] 0 0 (shp, rfs, M) (fun r1 h1 => r1 = some (.int (nI (if (dl P (pAns t 0) 3 4 v).2 = true then 0 else 1))) ∧ h1 = (shp, rfs, M')) ∧ CS M' (dl P (pAns t 0) 3 4 v).1 (if kd = 3 then layD d else d) P ∧ FrS (fxC t) fxS M M' ∧ ∀ j, M' (25 + 2 * t) j = M (25 + 2 * t) j := by
  obtain ⟨hc1, hc2, hc3⟩ := isCm_t t ht
  have key : ∃ M1, CS M1 v (if kd = 3 then layD d else d) P ∧ FrS [15] [(14, 3)] M M1 ∧ ∀ Q, WP mX5_carryOut 152 [some (.ref 0), some (.ref (24 + 2 * t)), some (.int 0), none, none, none] [] 0 0 (shp, rfs, M1) Q → WP mX5_carryOut 137 [some (.ref 0), some (.ref (24 + 2 * t)), some (.int 0), none, none, none] [] 0 0 (shp, rfs, M) Q := by
    by_cases h3 : kd = 3
    · subst h3
      obtain ⟨M1, g1, H1, F1⟩ := x_layAll h.2.2.2.1 ok
      refine ⟨M1, by rw [if_pos rfl]; exact h.fr14 H1 (F1.mono (by decide) (by decide)), F1, fun Q hq => ?_⟩
      refine r_aload_n dX5_carryOut_137 rfl rfl ?_
      refine r_getI (N := 8) dX5_carryOut_138 fwX5_136 (by first | exact hc1 | exact hc2 | exact hc3 | rfl | exact hB1 | exact hB2 | exact hB3) (Nat.le_of_ble_eq_true rfl) rfl ?_
      refine r_iconst 3 dX5_carryOut_141 (by decide) ?_
      rw [hc.2.1]
      refine r_icmp_ne 152 dX5_carryOut_142 (by decide) (fun c_142 => absurd rfl c_142) (fun c_142 => ?_)
      refine r_aload_n dX5_carryOut_145 rfl rfl ?_
      refine r_getR (N := 10) dX5_carryOut_146 fwX5_28 (by first | exact hc1 | exact hc2 | exact hc3 | rfl | exact hB1 | exact hB2 | exact hB3) (Nat.le_of_ble_eq_true rfl) rfl (by first | exact hc1 | exact hc2 | exact hc3 | rfl | exact hB1 | exact hB2 | exact hB3) ?_
      refine gW0 (Y := mX3_layAll) (ci := 3) (N := 4) dX5_carryOut_149 mlX5_220 vkX3_layAll (by first | exact hc1 | exact hc2 | exact hc3 | rfl | exact hB1 | exact hB2 | exact hB3) ⟨by decide, rfl⟩ rfl g1 ?_
      exact hq
    · refine ⟨M, by rw [if_neg h3]; exact h, FrS.rf, fun Q hq => ?_⟩
      refine r_aload_n dX5_carryOut_137 rfl rfl ?_
      refine r_getI (N := 8) dX5_carryOut_138 fwX5_136 (by first | exact hc1 | exact hc2 | exact hc3 | rfl | exact hB1 | exact hB2 | exact hB3) (Nat.le_of_ble_eq_true rfl) rfl ?_
      refine r_iconst 3 dX5_carryOut_141 (by decide) ?_
      rw [hc.2.1]
      refine r_icmp_ne 152 dX5_carryOut_142 (by decide) (fun c_142 => ?_) (fun c_142 => absurd ((nI_eq (a := kd) (b := 3) (by omega) (by decide)).mp c_142) h3)
      exact hq
  obtain ⟨M1, h1, F1, w1⟩ := key
  obtain ⟨M2, g2, H2, F2⟩ := x_setAnswer (M := M1) (tg := t) (oc := 0) (by decide) (by omega)
  obtain ⟨M3, g3, h3, F3⟩ := x_send (h1.fr20 F2.S) okp H2 (pAns_ok (by decide) (by omega)) hfr
  have e0 : M1 (24 + 2 * t) 0 = nI t := by rw [F1 _ 0 (by simp <;> omega) (by simp <;> omega)]; exact hc.1
  refine ⟨M3, w1 _ ?_, h3, ((F1.mono (by unfold fxC; simp) (by unfold fxS; simp)).tr (F2.S.mono (by unfold fxC; simp) (by simp))).tr (F3.mono (by unfold fxC; simp) (by unfold fxS; simp)), fun j => by rw [F3 _ j (by simp <;> omega) (by simp <;> omega), F2.S _ j (by simp <;> omega) (by simp), F1 _ j (by simp <;> omega) (by simp <;> omega)]⟩
  cases hq : (dl P (pAns t 0) 3 4 v).2 with
  | true =>
    rw [hq] at g3
    refine r_aload_n dX5_carryOut_152 rfl rfl ?_
    refine r_getR (N := 10) dX5_carryOut_153 fwX5_39 (by first | exact hc1 | exact hc2 | exact hc3 | rfl | exact hB1 | exact hB2 | exact hB3) (Nat.le_of_ble_eq_true rfl) rfl (by first | exact hc1 | exact hc2 | exact hc3 | rfl | exact hB1 | exact hB2 | exact hB3) ?_
    refine r_aload_n dX5_carryOut_156 rfl rfl ?_
    refine r_getI (N := 8) dX5_carryOut_157 fwX5_127 (by first | exact hc1 | exact hc2 | exact hc3 | rfl | exact hB1 | exact hB2 | exact hB3) (Nat.le_of_ble_eq_true rfl) rfl ?_
    rw [e0]
    refine r_iload_n dX5_carryOut_160 rfl rfl ?_
    refine gW2 (Y := mX0_setAnswer) (ci := 0) (N := 2) dX5_carryOut_161 mlX5_223 vkX0_setAnswer (by first | exact hc1 | exact hc2 | exact hc3 | rfl | exact hB1 | exact hB2 | exact hB3) ⟨by decide, rfl⟩ rfl g2 ?_
    refine r_aload_n dX5_carryOut_164 rfl rfl ?_
    refine r_getR (N := 10) dX5_carryOut_165 fwX5_21 (by first | exact hc1 | exact hc2 | exact hc3 | rfl | exact hB1 | exact hB2 | exact hB3) (Nat.le_of_ble_eq_true rfl) rfl (by first | exact hc1 | exact hc2 | exact hc3 | rfl | exact hB1 | exact hB2 | exact hB3) ?_
    refine r_aload_n dX5_carryOut_168 rfl rfl ?_
    refine r_getR (N := 10) dX5_carryOut_169 fwX5_39 (by first | exact hc1 | exact hc2 | exact hc3 | rfl | exact hB1 | exact hB2 | exact hB3) (Nat.le_of_ble_eq_true rfl) rfl (by first | exact hc1 | exact hc2 | exact hc3 | rfl | exact hB1 | exact hB2 | exact hB3) ?_
    refine gV1 (Y := mX4_deliver) (ci := 4) (N := 13) dX5_carryOut_172 mlX5_202 vkX4_deliver (by first | exact hc1 | exact hc2 | exact hc3 | rfl | exact hB1 | exact hB2 | exact hB3) ⟨by decide, rfl⟩ rfl g3 ?_
    refine r_if_eq 182 dX5_carryOut_175 (by decide) (fun c_175 => absurd c_175 (by decide)) (fun c_175 => ?_)
    refine r_iload_n dX5_carryOut_178 rfl rfl ?_
    refine r_goto 183 dX5_carryOut_179 (by decide) ?_
    refine r_ireturn dX5_carryOut_183 rfl (Nat.zero_le _) (Nat.zero_le _) ?_
    exact ⟨rfl, rfl⟩
  | false =>
    rw [hq] at g3
    refine r_aload_n dX5_carryOut_152 rfl rfl ?_
    refine r_getR (N := 10) dX5_carryOut_153 fwX5_39 (by first | exact hc1 | exact hc2 | exact hc3 | rfl | exact hB1 | exact hB2 | exact hB3) (Nat.le_of_ble_eq_true rfl) rfl (by first | exact hc1 | exact hc2 | exact hc3 | rfl | exact hB1 | exact hB2 | exact hB3) ?_
    refine r_aload_n dX5_carryOut_156 rfl rfl ?_
    refine r_getI (N := 8) dX5_carryOut_157 fwX5_127 (by first | exact hc1 | exact hc2 | exact hc3 | rfl | exact hB1 | exact hB2 | exact hB3) (Nat.le_of_ble_eq_true rfl) rfl ?_
    rw [e0]
    refine r_iload_n dX5_carryOut_160 rfl rfl ?_
    refine gW2 (Y := mX0_setAnswer) (ci := 0) (N := 2) dX5_carryOut_161 mlX5_223 vkX0_setAnswer (by first | exact hc1 | exact hc2 | exact hc3 | rfl | exact hB1 | exact hB2 | exact hB3) ⟨by decide, rfl⟩ rfl g2 ?_
    refine r_aload_n dX5_carryOut_164 rfl rfl ?_
    refine r_getR (N := 10) dX5_carryOut_165 fwX5_21 (by first | exact hc1 | exact hc2 | exact hc3 | rfl | exact hB1 | exact hB2 | exact hB3) (Nat.le_of_ble_eq_true rfl) rfl (by first | exact hc1 | exact hc2 | exact hc3 | rfl | exact hB1 | exact hB2 | exact hB3) ?_
    refine r_aload_n dX5_carryOut_168 rfl rfl ?_
    refine r_getR (N := 10) dX5_carryOut_169 fwX5_39 (by first | exact hc1 | exact hc2 | exact hc3 | rfl | exact hB1 | exact hB2 | exact hB3) (Nat.le_of_ble_eq_true rfl) rfl (by first | exact hc1 | exact hc2 | exact hc3 | rfl | exact hB1 | exact hB2 | exact hB3) ?_
    refine gV1 (Y := mX4_deliver) (ci := 4) (N := 13) dX5_carryOut_172 mlX5_202 vkX4_deliver (by first | exact hc1 | exact hc2 | exact hc3 | rfl | exact hB1 | exact hB2 | exact hB3) ⟨by decide, rfl⟩ rfl g3 ?_
    refine r_if_eq 182 dX5_carryOut_175 (by decide) (fun c_175 => ?_) (fun c_175 => absurd rfl c_175)
    refine r_iconst 1 dX5_carryOut_182 (by decide) ?_
    refine r_ireturn dX5_carryOut_183 rfl (Nat.zero_le _) (Nat.zero_le _) ?_
    exact ⟨rfl, rfl⟩
