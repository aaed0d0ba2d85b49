/-- the link: FRAMES SENT, findings, with a FINDING, FAILED, bits, the wire -/
abbrev LSt : Type := Nat × (Nat → Int32) × Int32 × Int32 × Nat × (Nat → Int32)
/-- the plan: how many, frames, bits -/
abbrev PL : Type := Nat × (Nat → Int32) × (Nat → Int32)
def VC (M : Mem) (v : LSt) : Prop := M 4 10 = nI v.1 ∧ (∀ j, j < 16 → M 13 j = v.2.1 j) ∧ M 4 11 = v.2.2.1 ∧ M 4 12 = v.2.2.2.1 ∧ M 4 5 = nI v.2.2.2.2.1 ∧ ∀ j, j < v.2.2.2.2.1 → M 10 j = v.2.2.2.2.2 j
def VM (M : Mem) (v : LSt) : Prop := M 40 8 = nI v.1 ∧ (∀ j, j < 16 → M 47 j = v.2.1 j) ∧ M 40 9 = v.2.2.1 ∧ M 40 10 = v.2.2.2.1 ∧ M 40 12 = nI v.2.2.2.2.1 ∧ ∀ j, j < v.2.2.2.2.1 → M 48 j = v.2.2.2.2.2 j
def PC (M : Mem) (P : PL) : Prop := M 4 8 = nI P.1 ∧ ∀ j, j < P.1 → M 11 j = P.2.1 j ∧ M 12 j = P.2.2 j
def PM (M : Mem) (P : PL) : Prop := M 40 5 = nI P.1 ∧ ∀ j, j < P.1 → M 45 j = P.2.1 j ∧ M 46 j = P.2.2 j
def okP (P : PL) : Prop := P.1 ≤ 30 ∧ ∀ j, j < P.1 → ∃ b, b ≤ 1000000 ∧ P.2.2 j = nI b
def okF (p : Nat → Int32) (n : Nat) : Prop := 1 ≤ n ∧ n ≤ 12 ∧ ∀ j, j < n → okB (p j)
def rowF (P : PL) (p : Nat → Int32) (n fr : Nat) : Nat → Int32 := flt P.2.1 P.2.2 (nI fr) (10 * (n + 6)) P.1 (btF (Vf (bb p n) (n + 4)))
def fdF (P : PL) (p : Nat → Int32) (n fr : Nat) : Int32 := rcv (xW (rowF P p n fr)) (n + 5)
/-- a frame is SENT once -/
def one (P : PL) (p : Nat → Int32) (n : Nat) (v : LSt) : LSt := (v.1 + 1, upd v.2.1 (v.1 % 16) (fdF P p n v.1), if fdF P p n v.1 = 0 then v.2.2.1 else v.2.2.1 + 1, v.2.2.2.1, 10 * (n + 6), rowF P p n v.1)
theorem and1_01 (x : Int32) : x &&& 1 = 0 ∨ x &&& 1 = 1 := by
  obtain ⟨j, hj, he⟩ := pk_andE x (m := 1) 1 (by decide)
  rw [he]
  have : j = 0 ∨ j = 1 := by omega
  rcases this with rfl | rfl
  · exact Or.inl rfl
  · exact Or.inr rfl
theorem bt_01 (V : Nat → Nat) (n : Nat) : is01 (btF V) n := fun j _ => and1_01 _
theorem flt_01 {FF FB : Nat → Int32} {fr : Int32} {nb n : Nat} {f : Nat → Int32} (h : is01 f n) : ∀ k, is01 (flt FF FB fr nb k f) n
  | 0 => h
  | k + 1 => by
    have ih := flt_01 (FF := FF) (FB := FB) (fr := fr) (nb := nb) h k
    intro j hj
    simp only [flt]
    split
    · by_cases hq : j = fat FB nb k
      · rw [← hq, upd_s]
        rcases ih j hj with q | q <;> rw [q] <;> decide
      · rw [upd_n hq]
        exact ih j hj
    · exact ih j hj
theorem row_01 (P : PL) (p : Nat → Int32) (n fr m : Nat) : is01 (rowF P p n fr) m := flt_01 (bt_01 _ _) _
theorem is01_congr {f g : Nat → Int32} {n : Nat} (h : is01 f n) (hg : ∀ j, j < n → g j = f j) : is01 g n := fun j q => by rw [hg j q]; exact h j q
theorem xrcv_congr {f g : Nat → Int32} {l : Nat} (hl : 5 ≤ l) (h : ∀ j, j < 10 * (l + 1) → f j = g j) : rcv (xW f) l = rcv (xW g) l := rcv_congr hl (fun j hj => xW_congr h (by omega))
set_option maxHeartbeats 4000000 in
set_option maxRecDepth 100000 in
theorem x_place {M : Mem} {f : Nat} (hf : f < 2 ^ 31) : Gv mX4_placeOfFinding [.ref 4, .int (nI f)] M (some (.int (nI (f % 16)))) M := by
  have h := pk_andN (n := f) (by omega) (m := 15) 4 (by decide)
  refine con_of (lv := [some (.ref 4), some (.int (nI f))]) (by decide) rfl (Nat.le_of_ble_eq_true rfl) (by simp [lvle]) ?_
  refine r_iload_n dX4_placeOfFinding_0 rfl rfl ?_
  refine r_bipush 15 dX4_placeOfFinding_1 (by decide) ?_
  refine r_iand dX4_placeOfFinding_3 ?_
  refine r_ireturn dX4_placeOfFinding_4 rfl (Nat.zero_le _) (Nat.zero_le _) ?_
  rw [h]
  exact ⟨rfl, rfl⟩
set_option maxHeartbeats 4000000 in
set_option maxRecDepth 100000 in
theorem x_sendOnce {M : Mem} {o r n : Nat} {p : Nat → Int32} {v : LSt} {P : PL} (T : TabC M) (TS : TabS M) (hB : isBy o r) (ho1 : o ∉ [6, 7] ∧ r ∉ [6, 7]) (H : HB M o r n p) (hp : okF p n) (hv : VC M v) (hP : PC M P) (okp : okP P) (hfr : v.1 + 1 < 2 ^ 31) : ∃ M', Gv mX4_sendOnce [.ref 4, .ref o] M (some (.int (fdF P p n v.1))) M' ∧ VC M' (one P p n v) ∧ FrS [6, 7, 8, 9, 10, 13] [(4, 5), (4, 10), (4, 11)] M M' := by
  obtain ⟨hB1, hB2, hB3, hB4⟩ := id hB
  obtain ⟨n1, n12, pok⟩ := hp
  obtain ⟨M1, g1, H1, F1⟩ := b_copyX (M := M) (n := n) (g := p) isBy6 hB ho1.1 ho1.2 H pok
  have H1' := H.fr F1 ho1.1 ho1.2
  have gs := b_size (M := M1) hB
  rw [H1'.1] at gs
  have gc := b_checksum hB (M := M1) H1'.1 H1'.2.1 (Nat.le_refl n)
  rw [crcN_congr (f := M1 r) (g := p) n (fun j q => H1'.2.2 j q)] at gc
  obtain ⟨M2, g2, H2, F2⟩ := b_addNumberX (M := M1) (x := crcN p n) (g := bb p n) isBy6 (H1.gg (fun j q => (bb_lo q).symm)) (by omega) (fun q _ => bb_hi)
  have F12 : FrS [6, 7, 8, 9, 10, 13] [(4, 5), (4, 10), (4, 11)] M M2 := (F1.S.tr F2.S).mono (by decide) (by decide)
  obtain ⟨M3, g3, H3, F3⟩ := x_layOnWire (M := M2) (g := bb p n) (N := n + 4) (T.frS F12 (by decide) (by decide)) (TS.frS F12 (by decide) (by decide)) H2 (fun j _ => bb_ok pok j)
  have F13 : FrS [6, 7, 8, 9, 10, 13] [(4, 5), (4, 10), (4, 11)] M M3 := F12.tr (F3.mono (by decide) (by decide))
  have F3' : FrS [6, 7, 10] [(4, 5)] M M3 := ((F1.S.tr F2.S).mono (by decide) (by decide)).tr (F3.mono (by decide) (by decide))
  have e48 : M3 4 8 = nI P.1 := by rw [F3' 4 8 (by decide) (by decide)]; exact hP.1
  have e410 : M3 4 10 = nI v.1 := by rw [F3' 4 10 (by decide) (by decide)]; exact hv.1
  have e11 : M3 11 = M 11 := F3'.row (by decide) (by simp)
  have e12 : M3 12 = M 12 := F3'.row (by decide) (by simp)
  have g4 := x_turn (M := M3) (nb := 10 * (n + 6)) (nf := P.1) (by omega) (by omega) H3.1 e48 okp.1 (fun j q => by rw [e12, (hP.2 j q).2]; exact okp.2 j q)
  have hrow : ∀ j, j < 10 * (n + 6) → flt (M3 11) (M3 12) (M3 4 10) (10 * (n + 6)) P.1 (M3 10) j = rowF P p n v.1 j := by
    intro j hj
    rw [e410, e11, e12]
    exact flt_congr (by omega) (by omega) (fun j q => H3.2 j q) P.1 (fun j q => ⟨(hP.2 j q).1, (hP.2 j q).2, by rw [(hP.2 j q).2]; exact okp.2 j q⟩) j hj
  generalize hM4 : setRow M3 10 (flt (M3 11) (M3 12) (M3 4 10) (10 * (n + 6)) P.1 (M3 10)) = M4 at g4
  have F4 : FrS [10] [] M3 M4 := fun a k ha _ => by rw [← hM4, sr_n (fun q => ha (by rw [q]; exact List.mem_cons_self))]
  have r10 : ∀ j, j < 10 * (n + 6) → M4 10 j = rowF P p n v.1 j := fun j hj => by rw [← hM4, sr_s]; exact hrow j hj
  have F14 := F13.tr (F4.mono (cs' := [6, 7, 8, 9, 10, 13]) (ss' := [(4, 5), (4, 10), (4, 11)]) (by decide) (by decide))
  obtain ⟨M5, g5, F5⟩ := x_receive (M := M4) (l := n + 5) (T.frS F14 (by decide) (by decide)) (TS.frS F14 (by decide) (by decide)) (by omega) (by omega) (by rw [F4 4 5 (by decide) (by decide)]; exact H3.1) (is01_congr (row_01 P p n v.1 _) r10)
  rw [xrcv_congr (f := M4 10) (g := rowF P p n v.1) (l := n + 5) (by omega) r10] at g5
  change Gv mX4_receive [.ref 4] M4 (some (.int (fdF P p n v.1))) M5 at g5
  have F15 := F14.tr (F5.mono (cs' := [6, 7, 8, 9, 10, 13]) (ss' := [(4, 5), (4, 10), (4, 11)]) (by decide) (by decide))
  have e510 : M5 4 10 = nI v.1 := by rw [F5 4 10 (by decide) (by decide), F4 4 10 (by decide) (by decide)]; exact e410
  have e511 : M5 4 11 = v.2.2.1 := by rw [F5 4 11 (by decide) (by decide), F4 4 11 (by decide) (by decide), F3' 4 11 (by decide) (by decide)]; exact hv.2.2.1
  have e512 : M5 4 12 = v.2.2.2.1 := by rw [F15 4 12 (by decide) (by decide)]; exact hv.2.2.2.1
  have e55 : M5 4 5 = nI (10 * (n + 6)) := by rw [F5 4 5 (by decide) (by decide), F4 4 5 (by decide) (by decide)]; exact H3.1
  have e513 : ∀ j, M5 13 j = M 13 j := fun j => by rw [F5 13 j (by decide) (by simp), F4 13 j (by decide) (by simp), F3' 13 j (by decide) (by simp)]
  have e5b : ∀ j, j < 10 * (n + 6) → M5 10 j = rowF P p n v.1 j := fun j hj => by rw [F5 10 j (by decide) (by simp)]; exact r10 j hj
  have gp := x_place (M := M5) (f := v.1) (by omega)
  have hcl : (nI (v.1 % 16)).toNatClampNeg = v.1 % 16 := nI_clamp (by omega)
  have hlt : v.1 % 16 < 16 := Nat.mod_lt _ (by decide)
  refine ⟨upd2 (upd2 (upd2 M5 13 (v.1 % 16) (fdF P p n v.1)) 4 10 (nI (v.1 + 1))) 4 11 (if fdF P p n v.1 = 0 then v.2.2.1 else v.2.2.1 + 1), ?_, ⟨?_, ?_, ?_, ?_, ?_, ?_⟩, ((F15.upc (by decide)).ups (by decide)).ups (by decide)⟩
  · refine con_of (lv := [some (.ref 4), some (.ref o), none]) (by decide) rfl (Nat.le_of_ble_eq_true rfl) (by simp [lvle]) ?_
    refine r_aload_n dX4_sendOnce_0 rfl rfl ?_
    refine r_getR (N := 13) dX4_sendOnce_1 fwX4_18 (by first | rfl | assumption) (Nat.le_of_ble_eq_true rfl) rfl (by first | rfl | assumption) ?_
    refine r_aload_n dX4_sendOnce_4 rfl rfl ?_
    refine gW1 (Y := mX0_copy) (ci := 0) (N := 2) dX4_sendOnce_5 mlX4_64 vkX0_copy (by first | rfl | assumption) ⟨by decide, rfl⟩ rfl g1 ?_
    refine r_aload_n dX4_sendOnce_8 rfl rfl ?_
    refine r_getR (N := 13) dX4_sendOnce_9 fwX4_18 (by first | rfl | assumption) (Nat.le_of_ble_eq_true rfl) rfl (by first | rfl | assumption) ?_
    refine r_aload_n dX4_sendOnce_12 rfl rfl ?_
    refine r_aload_n dX4_sendOnce_13 rfl rfl ?_
    refine gV0 (Y := mX0_size) (ci := 0) (N := 2) dX4_sendOnce_14 mlX4_68 vkX0_size (by first | rfl | assumption) ⟨by decide, rfl⟩ rfl gs ?_
    refine gV1 (Y := mX0_checksum) (ci := 0) (N := 2) dX4_sendOnce_17 mlX4_72 vkX0_checksum (by first | rfl | assumption) ⟨by decide, rfl⟩ rfl gc ?_
    refine gW1 (Y := mX0_addNumber) (ci := 0) (N := 2) dX4_sendOnce_20 mlX4_75 vkX0_addNumber (by first | rfl | assumption) ⟨by decide, rfl⟩ rfl g2 ?_
    refine r_aload_n dX4_sendOnce_23 rfl rfl ?_
    refine gW0 (Y := mX4_layOnWire) (ci := 4) (N := 13) dX4_sendOnce_24 mlX4_79 vkX4_layOnWire (by first | rfl | assumption) ⟨by decide, rfl⟩ rfl g3 ?_
    refine r_aload_n dX4_sendOnce_27 rfl rfl ?_
    refine gW0 (Y := mX4_turnFaultyBits) (ci := 4) (N := 13) dX4_sendOnce_28 mlX4_82 vkX4_turnFaultyBits (by first | rfl | assumption) ⟨by decide, rfl⟩ rfl g4 ?_
    refine r_aload_n dX4_sendOnce_31 rfl rfl ?_
    refine gV0 (Y := mX4_receive) (ci := 4) (N := 13) dX4_sendOnce_32 mlX4_85 vkX4_receive (by first | rfl | assumption) ⟨by decide, rfl⟩ rfl g5 ?_
    refine r_istore_n2 dX4_sendOnce_35 rfl (Nat.le_of_ble_eq_true rfl) ?_
    refine r_aload_n dX4_sendOnce_36 rfl rfl ?_
    refine r_getR (N := 13) dX4_sendOnce_37 fwX4_34 (by first | rfl | assumption) (Nat.le_of_ble_eq_true rfl) rfl (by first | rfl | assumption) ?_
    refine r_aload_n dX4_sendOnce_40 rfl rfl ?_
    refine r_aload_n dX4_sendOnce_41 rfl rfl ?_
    refine r_getI (N := 13) dX4_sendOnce_42 fwX4_47 (by first | rfl | assumption) (Nat.le_of_ble_eq_true rfl) rfl ?_
    refine gV1 (Y := mX4_placeOfFinding) (ci := 4) (N := 13) dX4_sendOnce_45 mlX4_50 vkX4_placeOfFinding (by first | rfl | assumption) ⟨by decide, rfl⟩ rfl (by rw [e510]; exact gp) ?_
    refine r_iload_n dX4_sendOnce_48 rfl rfl ?_
    refine r_iastore dX4_sendOnce_49 (by first | rfl | assumption) (by exact vp_in_nI hlt (by decide)) ?_
    rw [hcl]
    refine r_aload_n dX4_sendOnce_50 rfl rfl ?_
    first | refine r_dupR dX4_sendOnce_51 ?_ | refine r_dupI dX4_sendOnce_51 ?_
    refine r_getI (N := 13) dX4_sendOnce_52 fwX4_47 (by first | rfl | assumption) (Nat.le_of_ble_eq_true rfl) rfl ?_
    refine r_iconst 1 dX4_sendOnce_55 (by decide) ?_
    refine r_iadd dX4_sendOnce_56 ?_
    refine r_putI (N := 13) dX4_sendOnce_57 fwX4_47 (by first | rfl | assumption) (Nat.le_of_ble_eq_true rfl) rfl (Or.inl rfl) rfl rfl ?_
    refine r_iload_n dX4_sendOnce_60 rfl rfl ?_
    refine r_if_eq 74 dX4_sendOnce_61 (by decide) (fun c_61 => ?_) (fun c_61 => ?_)
    · refine r_iload_n dX4_sendOnce_74 rfl rfl ?_
      refine r_ireturn dX4_sendOnce_75 rfl (Nat.zero_le _) (Nat.zero_le _) ?_
      refine ⟨rfl, ?_⟩
      simp only [u_sn (show (11 : Nat) ≠ 10 by decide), u_nn (show (4 : Nat) ≠ 13 by decide), e510, e511, nI_1]
      first | rw [if_pos c_61, ← e511] | rw [if_neg c_61]
      try (rw [show ∀ (q : Mem) (x : Int32), q 4 11 = x → upd2 q 4 11 x = q from fun q x hx => by rw [← hx, upd2_id]]; rw [u_sn (by decide), u_nn (by decide)])
    · refine r_aload_n dX4_sendOnce_64 rfl rfl ?_
      first | refine r_dupR dX4_sendOnce_65 ?_ | refine r_dupI dX4_sendOnce_65 ?_
      refine r_getI (N := 13) dX4_sendOnce_66 fwX4_88 (by first | rfl | assumption) (Nat.le_of_ble_eq_true rfl) rfl ?_
      refine r_iconst 1 dX4_sendOnce_69 (by decide) ?_
      refine r_iadd dX4_sendOnce_70 ?_
      refine r_putI (N := 13) dX4_sendOnce_71 fwX4_88 (by first | rfl | assumption) (Nat.le_of_ble_eq_true rfl) rfl (Or.inl rfl) rfl rfl ?_
      refine r_iload_n dX4_sendOnce_74 rfl rfl ?_
      refine r_ireturn dX4_sendOnce_75 rfl (Nat.zero_le _) (Nat.zero_le _) ?_
      refine ⟨rfl, ?_⟩
      simp only [u_sn (show (11 : Nat) ≠ 10 by decide), u_nn (show (4 : Nat) ≠ 13 by decide), e510, e511, nI_1]
      first | rw [if_pos c_61, ← e511] | rw [if_neg c_61]
      try (rw [show ∀ (q : Mem) (x : Int32), q 4 11 = x → upd2 q 4 11 x = q from fun q x hx => by rw [← hx, upd2_id]]; rw [u_sn (by decide), u_nn (by decide)])
  · simp only [one]
    rw [u_sn (by decide), u_ss]
  · intro j hj
    simp only [one]
    rw [u_nn (by decide), u_nn (by decide)]
    by_cases hq : j = v.1 % 16
    · rw [hq, u_ss, upd_s]
    · rw [u_sn hq, upd_n hq, e513]; exact hv.2.1 j hj
  · simp only [one]
    rw [u_ss]
  · simp only [one]
    rw [u_sn (by decide), u_sn (by decide), u_nn (by decide)]; exact e512
  · simp only [one]
    rw [u_sn (by decide), u_sn (by decide), u_nn (by decide)]; exact e55
  · intro j hj
    simp only [one] at hj ⊢
    rw [u_nn (by decide), u_nn (by decide), u_nn (by decide)]
    exact e5b j hj
