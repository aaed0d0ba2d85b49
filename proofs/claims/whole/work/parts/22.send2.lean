def HP (M : Mem) (n : Nat) (p : Nat → Int32) : Prop := M 40 14 = nI n ∧ ∀ j, j < n → M 49 j = p j
theorem HP.frS {M M' : Mem} {n : Nat} {p : Nat → Int32} {cs : List Nat} {ss : List (Nat × Nat)} (h : HP M n p) (F : FrS cs ss M M') (h1 : 40 ∉ cs ∧ 49 ∉ cs) (h2 : (40, 14) ∉ ss) (h3 : ∀ q ∈ ss, q.1 ≠ 49) : HP M' n p := ⟨by rw [F 40 14 h1.1 h2]; exact h.1, fun j q => by rw [F 49 j h1.2 (fun z => h3 _ z rfl)]; exact h.2 j q⟩
set_option maxHeartbeats 4000000 in
set_option maxRecDepth 100000 in
theorem m_sendOnce {M : Mem} {n : Nat} {p : Nat → Int32} {v : LSt} {P : PL} (T : TabM M) (H : HP M n p) (hp : okF p n) (hv : VM M v) (hP : PM M P) (okp : okP P) (hfr : v.1 + 1 < 2 ^ 31) : ∃ M', Gv mX6_sendOnce [.ref 40] M (some (.int (fdF P p n v.1))) M' ∧ VM M' (one P p n v) ∧ FrS [47, 48, 50] [(40, 12), (40, 34), (40, 33), (40, 8), (40, 9)] M M' := by
  obtain ⟨n1, n12, pok⟩ := hp
  obtain ⟨M3, g3, H3, r3, F3⟩ := m_layWire (M := M) (n := n) (nf := P.1) (p := p) T n12 H.1 H.2 pok hP.1 okp.1 (fun j q => by rw [(hP.2 j q).2]; exact okp.2 j q)
  have hrow : ∀ j, j < 10 * (n + 6) → M3 48 j = rowF P p n v.1 j := by
    intro j hj
    rw [r3 j hj, hv.1]
    exact flt_congr (by omega) (by omega) (fun j q => rfl) P.1 (fun j q => ⟨(hP.2 j q).1, (hP.2 j q).2, by rw [(hP.2 j q).2]; exact okp.2 j q⟩) j hj
  obtain ⟨M5, g5, F5⟩ := m_receive (M := M3) (l := n + 5) (T.frS F3 (by decide) (by decide)) (by omega) (by omega) H3 (is01_congr (row_01 P p n v.1 _) hrow)
  rw [xrcv_congr (f := M3 48) (g := rowF P p n v.1) (l := n + 5) (by omega) hrow] at g5
  change Gv mX6_receive [.ref 40] M3 (some (.int (fdF P p n v.1))) M5 at g5
  have F15 : FrS [48, 50] [(40, 12), (40, 34), (40, 33)] M M5 := (F3.mono (by decide) (by decide)).tr (F5.mono (by decide) (by decide))
  have F16 : FrS [47, 48, 50] [(40, 12), (40, 34), (40, 33), (40, 8), (40, 9)] M M5 := F15.mono (by decide) (by decide)
  have e8 : M5 40 8 = nI v.1 := by rw [F15 40 8 (by decide) (by decide)]; exact hv.1
  have e9 : M5 40 9 = v.2.2.1 := by rw [F15 40 9 (by decide) (by decide)]; exact hv.2.2.1
  have e10 : M5 40 10 = v.2.2.2.1 := by rw [F15 40 10 (by decide) (by decide)]; exact hv.2.2.2.1
  have e12 : M5 40 12 = nI (10 * (n + 6)) := by rw [F5 40 12 (by decide) (by decide)]; exact H3
  have e47 : ∀ j, M5 47 j = M 47 j := fun j => F15 47 j (by decide) (by simp)
  have e48 : ∀ j, j < 10 * (n + 6) → M5 48 j = rowF P p n v.1 j := fun j hj => by rw [F5 48 j (by decide) (by simp)]; exact hrow j hj
  have hcl : (nI (v.1 % 16)).toNatClampNeg = v.1 % 16 := nI_clamp (by omega)
  have hlt : v.1 % 16 < 16 := Nat.mod_lt _ (by decide)
  have hrem : nI v.1 - nI v.1 / 16 * 16 = nI (v.1 % 16) := pk_rem (a := v.1) (d := 16) (by omega) (by decide) (by decide)
  refine ⟨upd2 (upd2 (upd2 M5 47 (v.1 % 16) (fdF P p n v.1)) 40 8 (nI (v.1 + 1))) 40 9 (if fdF P p n v.1 = 0 then v.2.2.1 else v.2.2.1 + 1), ?_, ⟨?_, ?_, ?_, ?_, ?_, ?_⟩, ((F16.upc (by decide)).ups (by decide)).ups (by decide)⟩
  · refine con_of (lv := [some (.ref 40), none]) (by decide) rfl (Nat.le_of_ble_eq_true rfl) (by simp [lvle]) ?_
    refine r_aload_n dX6_sendOnce_0 rfl rfl ?_
    refine gW0 (Y := mX6_layWire) (ci := 6) (N := 35) dX6_sendOnce_1 mlX6_141 vkX6_layWire (by first | rfl | assumption) ⟨by decide, rfl⟩ rfl g3 ?_
    refine r_aload_n dX6_sendOnce_4 rfl rfl ?_
    refine gV0 (Y := mX6_receive) (ci := 6) (N := 35) dX6_sendOnce_5 mlX6_144 vkX6_receive (by first | rfl | assumption) ⟨by decide, rfl⟩ rfl g5 ?_
    refine r_istore_n1 dX6_sendOnce_8 rfl (Nat.le_of_ble_eq_true rfl) ?_
    refine r_aload_n dX6_sendOnce_9 rfl rfl ?_
    refine r_getR (N := 35) dX6_sendOnce_10 fwX6_28 (by first | rfl | assumption) (Nat.le_of_ble_eq_true rfl) rfl (by first | rfl | assumption) ?_
    refine r_aload_n dX6_sendOnce_13 rfl rfl ?_
    refine r_getI (N := 35) dX6_sendOnce_14 fwX6_135 (by first | rfl | assumption) (Nat.le_of_ble_eq_true rfl) rfl ?_
    refine r_bipush 16 dX6_sendOnce_17 (by decide) ?_
    refine r_irem dX6_sendOnce_19 (by decide) ?_
    rw [e8, hrem]
    refine r_iload_n dX6_sendOnce_20 rfl rfl ?_
    refine r_iastore dX6_sendOnce_21 (by first | rfl | assumption) (by exact vp_in_nI hlt (by decide)) ?_
    rw [hcl]
    refine r_aload_n dX6_sendOnce_22 rfl rfl ?_
    first | refine r_dupR dX6_sendOnce_23 ?_ | refine r_dupI dX6_sendOnce_23 ?_
    refine r_getI (N := 35) dX6_sendOnce_24 fwX6_135 (by first | rfl | assumption) (Nat.le_of_ble_eq_true rfl) rfl ?_
    refine r_iconst 1 dX6_sendOnce_27 (by decide) ?_
    refine r_iadd dX6_sendOnce_28 ?_
    refine r_putI (N := 35) dX6_sendOnce_29 fwX6_135 (by first | rfl | assumption) (Nat.le_of_ble_eq_true rfl) rfl (Or.inl rfl) rfl rfl ?_
    refine r_aload_n dX6_sendOnce_32 rfl rfl ?_
    first | refine r_dupR dX6_sendOnce_33 ?_ | refine r_dupI dX6_sendOnce_33 ?_
    refine r_getI (N := 35) dX6_sendOnce_34 fwX6_147 (by first | rfl | assumption) (Nat.le_of_ble_eq_true rfl) rfl ?_
    refine r_iload_n dX6_sendOnce_37 rfl rfl ?_
    refine r_if_eq 45 dX6_sendOnce_38 (by decide) (fun c_38 => ?_) (fun c_38 => ?_)
    · refine r_iconst 0 dX6_sendOnce_45 (by decide) ?_
      refine r_iadd dX6_sendOnce_46 ?_
      refine r_putI (N := 35) dX6_sendOnce_47 fwX6_147 (by first | rfl | assumption) (Nat.le_of_ble_eq_true rfl) rfl (Or.inl rfl) rfl rfl ?_
      refine r_iload_n dX6_sendOnce_50 rfl rfl ?_
      refine r_ireturn dX6_sendOnce_51 rfl (Nat.zero_le _) (Nat.zero_le _) ?_
      refine ⟨rfl, ?_⟩
      simp only [u_sn (show (9 : Nat) ≠ 8 by decide), u_nn (show (40 : Nat) ≠ 47 by decide), e8, e9, nI_1]
      first | rw [if_pos c_38, Int32.add_zero] | rw [if_neg c_38]
    · refine r_iconst 1 dX6_sendOnce_41 (by decide) ?_
      refine r_goto 46 dX6_sendOnce_42 (by decide) ?_
      refine r_iadd dX6_sendOnce_46 ?_
      refine r_putI (N := 35) dX6_sendOnce_47 fwX6_147 (by first | rfl | assumption) (Nat.le_of_ble_eq_true rfl) rfl (Or.inl rfl) rfl rfl ?_
      refine r_iload_n dX6_sendOnce_50 rfl rfl ?_
      refine r_ireturn dX6_sendOnce_51 rfl (Nat.zero_le _) (Nat.zero_le _) ?_
      refine ⟨rfl, ?_⟩
      simp only [u_sn (show (9 : Nat) ≠ 8 by decide), u_nn (show (40 : Nat) ≠ 47 by decide), e8, e9, nI_1]
      first | rw [if_pos c_38, Int32.add_zero] | rw [if_neg c_38]
  · simp only [one]
    rw [u_sn (by decide), u_ss]
  · intro j hj
    simp only [one]
    rw [u_nn (by decide), u_nn (by decide)]
    by_cases hq : j = v.1 % 16
    · rw [hq, u_ss, upd_s]
    · rw [u_sn hq, upd_n hq, e47]; exact hv.2.1 j hj
  · simp only [one]
    rw [u_ss]
  · simp only [one]
    rw [u_sn (by decide), u_sn (by decide), u_nn (by decide)]; exact e10
  · simp only [one]
    rw [u_sn (by decide), u_sn (by decide), u_nn (by decide)]; exact e12
  · intro j hj
    simp only [one] at hj ⊢
    rw [u_nn (by decide), u_nn (by decide), u_nn (by decide)]
    exact e48 j hj
/-- TO SEND a frame: d tries are left -/
def dl (P : PL) (p : Nat → Int32) (n : Nat) : Nat → LSt → LSt × Bool
  | 0, v => ((v.1, v.2.1, v.2.2.1, v.2.2.2.1 + 1, v.2.2.2.2.1, v.2.2.2.2.2), false)
  | d + 1, v => if fdF P p n v.1 = 0 then (one P p n v, true) else dl P p n d (one P p n v)
theorem dl_fr (P : PL) (p : Nat → Int32) (n : Nat) : ∀ (d : Nat) (v : LSt), (dl P p n d v).1.1 ≤ v.1 + d
  | 0, v => by simp [dl]
  | d + 1, v => by
    simp only [dl]
    split
    · simp only [one]; omega
    · have := dl_fr P p n d (one P p n v)
      have h2 : (one P p n v).1 = v.1 + 1 := rfl
      omega
theorem PC.frS {M M' : Mem} {P : PL} {cs : List Nat} {ss : List (Nat × Nat)} (h : PC M P) (F : FrS cs ss M M') (h1 : 4 ∉ cs ∧ 11 ∉ cs ∧ 12 ∉ cs) (h2 : (4, 8) ∉ ss) (h3 : ∀ q ∈ ss, q.1 ≠ 11 ∧ q.1 ≠ 12) : PC M' P := ⟨by rw [F 4 8 h1.1 h2]; exact h.1, fun j q => ⟨by rw [F 11 j h1.2.1 (fun z => (h3 _ z).1 rfl)]; exact (h.2 j q).1, by rw [F 12 j h1.2.2 (fun z => (h3 _ z).2 rfl)]; exact (h.2 j q).2⟩⟩
theorem PM.frS {M M' : Mem} {P : PL} {cs : List Nat} {ss : List (Nat × Nat)} (h : PM M P) (F : FrS cs ss M M') (h1 : 40 ∉ cs ∧ 45 ∉ cs ∧ 46 ∉ cs) (h2 : (40, 5) ∉ ss) (h3 : ∀ q ∈ ss, q.1 ≠ 45 ∧ q.1 ≠ 46) : PM M' P := ⟨by rw [F 40 5 h1.1 h2]; exact h.1, fun j q => ⟨by rw [F 45 j h1.2.1 (fun z => (h3 _ z).1 rfl)]; exact (h.2 j q).1, by rw [F 46 j h1.2.2 (fun z => (h3 _ z).2 rfl)]; exact (h.2 j q).2⟩⟩
theorem HB.frS {M M' : Mem} {o r n : Nat} {f : Nat → Int32} {cs : List Nat} {ss : List (Nat × Nat)} (h : HB M o r n f) (F : FrS cs ss M M') (ho : o ∉ cs ∧ r ∉ cs) (hs : ∀ q ∈ ss, q.1 ≠ o ∧ q.1 ≠ r) : HB M' o r n f := ⟨by rw [F o 1 ho.1 (fun z => (hs _ z).1 rfl)]; exact h.1, h.2.1, fun j q => by rw [F r j ho.2 (fun z => (hs _ z).2 rfl)]; exact h.2.2 j q⟩
set_option maxHeartbeats 4000000 in
set_option maxRecDepth 100000 in
theorem x_dl_lp {o r n : Nat} {p : Nat → Int32} {P : PL} (hB : isBy o r) (ho1 : o ∉ [6, 7, 8, 9, 10, 13] ∧ r ∉ [6, 7, 8, 9, 10, 13]) (ho2 : o ≠ 4 ∧ r ≠ 4) (hp : okF p n) (okp : okP P) : ∀ (d k : Nat) (M : Mem) (v : LSt), k + d = 4 → TabC M → TabS M → HB M o r n p → VC M v → PC M P → v.1 + d < 2 ^ 31 → ∃ M', WP mX4_deliver 2 [some (.ref 4), some (.ref o), some (.int (nI k))] [] 0 0 (shp, rfs, M) (fun r1 h1 => r1 = some (.int (eI (dl P p n d v).2)) ∧ h1 = (shp, rfs, M')) ∧ VC M' (dl P p n d v).1 ∧ FrS [6, 7, 8, 9, 10, 13] [(4, 5), (4, 10), (4, 11), (4, 12)] M M' := by
  have ho3 : o ∉ [6, 7] ∧ r ∉ [6, 7] := by
    constructor
    · intro q; exact ho1.1 (by simp at q ⊢; omega)
    · intro q; exact ho1.2 (by simp at q ⊢; omega)
  have hss : ∀ q ∈ [(4, 5), (4, 10), (4, 11), (4, 12)], (q : Nat × Nat).1 ≠ o ∧ q.1 ≠ r := by
    intro q hq
    simp at hq
    rcases hq with rfl | rfl | rfl | rfl <;> exact ⟨Ne.symm ho2.1, Ne.symm ho2.2⟩
  intro d
  induction d with
  | zero =>
    intro k M v hk T TS H hv hP hfr
    have hk : k = 4 := by omega
    subst hk
    refine ⟨upd2 M 4 12 (M 4 12 + 1), ?_, ⟨?_, ?_, ?_, ?_, ?_, ?_⟩, FrS.rf.ups (by decide)⟩
    · refine r_iload_n dX4_deliver_2 rfl rfl ?_
      refine r_iconst 4 dX4_deliver_3 (by decide) ?_
      refine r_icmp_ge 23 dX4_deliver_4 (by decide) (fun c_4 => ?_) (fun c_4 => absurd (by decide) c_4)
      refine r_aload_n dX4_deliver_23 rfl rfl ?_
      first | refine r_dupR dX4_deliver_24 ?_ | refine r_dupI dX4_deliver_24 ?_
      refine r_getI (N := 13) dX4_deliver_25 fwX4_61 (by first | rfl | assumption) (Nat.le_of_ble_eq_true rfl) rfl ?_
      refine r_iconst 1 dX4_deliver_28 (by decide) ?_
      refine r_iadd dX4_deliver_29 ?_
      refine r_putI (N := 13) dX4_deliver_30 fwX4_61 (by first | rfl | assumption) (Nat.le_of_ble_eq_true rfl) rfl (Or.inl rfl) rfl rfl ?_
      refine r_iconst 0 dX4_deliver_33 (by decide) ?_
      refine r_zreturn dX4_deliver_34 rfl (by decide) (Nat.zero_le _) (Nat.zero_le _) ?_
      exact ⟨rfl, rfl⟩
    · simp only [dl]; rw [u_sn (by decide)]; exact hv.1
    · intro j hj; simp only [dl]; rw [u_nn (by decide)]; exact hv.2.1 j hj
    · simp only [dl]; rw [u_sn (by decide)]; exact hv.2.2.1
    · simp only [dl]; rw [u_ss, hv.2.2.2.1]
    · simp only [dl]; rw [u_sn (by decide)]; exact hv.2.2.2.2.1
    · intro j hj; simp only [dl] at hj ⊢; rw [u_nn (by decide)]; exact hv.2.2.2.2.2 j hj
  | succ d ih =>
    intro k M v hk T TS H hv hP hfr
    obtain ⟨M1, g1, v1, F1⟩ := x_sendOnce T TS hB ho3 H hp hv hP okp (by omega)
    have F1' : FrS [6, 7, 8, 9, 10, 13] [(4, 5), (4, 10), (4, 11), (4, 12)] M M1 := F1.mono (by decide) (by decide)
    simp only [dl]
    by_cases hf : fdF P p n v.1 = 0
    · rw [if_pos hf]
      refine ⟨M1, ?_, v1, F1'⟩
      rw [hf] at g1
      refine r_iload_n dX4_deliver_2 rfl rfl ?_
      refine r_iconst 4 dX4_deliver_3 (by decide) ?_
      refine r_icmp_ge 23 dX4_deliver_4 (by decide) (fun c_4 => absurd c_4 (nI_ge (a := k) (b := 4) (by omega) (by decide))) (fun c_4 => ?_)
      refine r_aload_n dX4_deliver_7 rfl rfl ?_
      refine r_aload_n dX4_deliver_8 rfl rfl ?_
      refine gV1 (Y := mX4_sendOnce) (ci := 4) (N := 13) dX4_deliver_9 mlX4_57 vkX4_sendOnce (by first | rfl | assumption) ⟨by decide, rfl⟩ rfl g1 ?_
      refine r_if_ne 17 dX4_deliver_12 (by decide) (fun c_12 => absurd rfl c_12) (fun c_12 => ?_)
      refine r_iconst 1 dX4_deliver_15 (by decide) ?_
      refine r_zreturn dX4_deliver_16 rfl (by decide) (Nat.zero_le _) (Nat.zero_le _) ?_
      exact ⟨rfl, rfl⟩
    · rw [if_neg hf]
      obtain ⟨M', w, v', F'⟩ := ih (k + 1) M1 (one P p n v) (by omega) (T.frS F1 (by decide) (by decide)) (TS.frS F1 (by decide) (by decide)) (H.frS F1' ho1 hss) v1 (hP.frS F1 (by decide) (by decide) (by decide)) (by simp only [one]; omega)
      refine ⟨M', ?_, v', F1'.tr F'⟩
      refine r_iload_n dX4_deliver_2 rfl rfl ?_
      refine r_iconst 4 dX4_deliver_3 (by decide) ?_
      refine r_icmp_ge 23 dX4_deliver_4 (by decide) (fun c_4 => absurd c_4 (nI_ge (a := k) (b := 4) (by omega) (by decide))) (fun c_4 => ?_)
      refine r_aload_n dX4_deliver_7 rfl rfl ?_
      refine r_aload_n dX4_deliver_8 rfl rfl ?_
      refine gV1 (Y := mX4_sendOnce) (ci := 4) (N := 13) dX4_deliver_9 mlX4_57 vkX4_sendOnce (by first | rfl | assumption) ⟨by decide, rfl⟩ rfl g1 ?_
      refine r_if_ne 17 dX4_deliver_12 (by decide) (fun c_12 => ?_) (fun c_12 => absurd c_12 hf)
      refine r_iinc_2 (_ + 1) dX4_deliver_17 rfl (Nat.le_of_ble_eq_true rfl) rfl ?_
      refine r_goto 2 dX4_deliver_20 (by decide) ?_
      rw [nI_1]
      exact w
set_option maxHeartbeats 4000000 in
set_option maxRecDepth 100000 in
theorem x_deliver {o r n : Nat} {p : Nat → Int32} {P : PL} {M : Mem} {v : LSt} (hB : isBy o r) (ho1 : o ∉ [6, 7, 8, 9, 10, 13] ∧ r ∉ [6, 7, 8, 9, 10, 13]) (ho2 : o ≠ 4 ∧ r ≠ 4) (hp : okF p n) (okp : okP P) (T : TabC M) (TS : TabS M) (H : HB M o r n p) (hv : VC M v) (hP : PC M P) (hfr : v.1 + 4 < 2 ^ 31) : ∃ M', Gv mX4_deliver [.ref 4, .ref o] M (some (.int (eI (dl P p n 4 v).2))) M' ∧ VC M' (dl P p n 4 v).1 ∧ FrS [6, 7, 8, 9, 10, 13] [(4, 5), (4, 10), (4, 11), (4, 12)] M M' := by
  obtain ⟨M', w, v', F'⟩ := x_dl_lp hB ho1 ho2 hp okp 4 0 M v rfl T TS H hv hP hfr
  refine ⟨M', ?_, v', F'⟩
  refine con_of (lv := [some (.ref 4), some (.ref o), none]) (by decide) rfl (Nat.le_of_ble_eq_true rfl) (by simp [lvle]) ?_
  refine r_iconst 0 dX4_deliver_0 (by decide) ?_
  refine r_istore_n2 dX4_deliver_1 rfl (Nat.le_of_ble_eq_true rfl) ?_
  exact w
set_option maxHeartbeats 4000000 in
set_option maxRecDepth 100000 in
theorem m_dl_lp {n : Nat} {p : Nat → Int32} {P : PL} (hp : okF p n) (okp : okP P) : ∀ (d k : Nat) (M : Mem) (v : LSt), k + d = 4 → TabM M → HP M n p → VM M v → PM M P → v.1 + d < 2 ^ 31 → ∃ M', WP mX6_send 2 [some (.ref 40), some (.int (nI k))] [] 0 0 (shp, rfs, M) (fun r1 h1 => r1 = some (.int (eI (dl P p n d v).2)) ∧ h1 = (shp, rfs, M')) ∧ VM M' (dl P p n d v).1 ∧ FrS [47, 48, 50] [(40, 12), (40, 34), (40, 33), (40, 8), (40, 9), (40, 10)] M M' := by
  intro d
  induction d with
  | zero =>
    intro k M v hk T H hv hP hfr
    have hk : k = 4 := by omega
    subst hk
    refine ⟨upd2 M 40 10 (M 40 10 + 1), ?_, ⟨?_, ?_, ?_, ?_, ?_, ?_⟩, FrS.rf.ups (by decide)⟩
    · refine r_iload_n dX6_send_2 rfl rfl ?_
      refine r_iconst 4 dX6_send_3 (by decide) ?_
      refine r_icmp_ge 22 dX6_send_4 (by decide) (fun c_4 => ?_) (fun c_4 => absurd (by decide) c_4)
      refine r_aload_n dX6_send_22 rfl rfl ?_
      first | refine r_dupR dX6_send_23 ?_ | refine r_dupI dX6_send_23 ?_
      refine r_getI (N := 35) dX6_send_24 fwX6_153 (by first | rfl | assumption) (Nat.le_of_ble_eq_true rfl) rfl ?_
      refine r_iconst 1 dX6_send_27 (by decide) ?_
      refine r_iadd dX6_send_28 ?_
      refine r_putI (N := 35) dX6_send_29 fwX6_153 (by first | rfl | assumption) (Nat.le_of_ble_eq_true rfl) rfl (Or.inl rfl) rfl rfl ?_
      refine r_iconst 0 dX6_send_32 (by decide) ?_
      refine r_zreturn dX6_send_33 rfl (by decide) (Nat.zero_le _) (Nat.zero_le _) ?_
      exact ⟨rfl, rfl⟩
    · simp only [dl]; rw [u_sn (by decide)]; exact hv.1
    · intro j hj; simp only [dl]; rw [u_nn (by decide)]; exact hv.2.1 j hj
    · simp only [dl]; rw [u_sn (by decide)]; exact hv.2.2.1
    · simp only [dl]; rw [u_ss, hv.2.2.2.1]
    · simp only [dl]; rw [u_sn (by decide)]; exact hv.2.2.2.2.1
    · intro j hj; simp only [dl] at hj ⊢; rw [u_nn (by decide)]; exact hv.2.2.2.2.2 j hj
  | succ d ih =>
    intro k M v hk T H hv hP hfr
    obtain ⟨M1, g1, v1, F1⟩ := m_sendOnce T H hp hv hP okp (by omega)
    have F1' : FrS [47, 48, 50] [(40, 12), (40, 34), (40, 33), (40, 8), (40, 9), (40, 10)] M M1 := F1.mono (by decide) (by decide)
    simp only [dl]
    by_cases hf : fdF P p n v.1 = 0
    · rw [if_pos hf]
      refine ⟨M1, ?_, v1, F1'⟩
      rw [hf] at g1
      refine r_iload_n dX6_send_2 rfl rfl ?_
      refine r_iconst 4 dX6_send_3 (by decide) ?_
      refine r_icmp_ge 22 dX6_send_4 (by decide) (fun c_4 => absurd c_4 (nI_ge (a := k) (b := 4) (by omega) (by decide))) (fun c_4 => ?_)
      refine r_aload_n dX6_send_7 rfl rfl ?_
      refine gV0 (Y := mX6_sendOnce) (ci := 6) (N := 35) dX6_send_8 mlX6_150 vkX6_sendOnce (by first | rfl | assumption) ⟨by decide, rfl⟩ rfl g1 ?_
      refine r_if_ne 16 dX6_send_11 (by decide) (fun c_11 => absurd rfl c_11) (fun c_11 => ?_)
      refine r_iconst 1 dX6_send_14 (by decide) ?_
      refine r_zreturn dX6_send_15 rfl (by decide) (Nat.zero_le _) (Nat.zero_le _) ?_
      exact ⟨rfl, rfl⟩
    · rw [if_neg hf]
      obtain ⟨M', w, v', F'⟩ := ih (k + 1) M1 (one P p n v) (by omega) (T.frS F1 (by decide) (by decide)) (H.frS F1 (by decide) (by decide) (by decide)) v1 (hP.frS F1 (by decide) (by decide) (by decide)) (by simp only [one]; omega)
      refine ⟨M', ?_, v', F1'.tr F'⟩
      refine r_iload_n dX6_send_2 rfl rfl ?_
      refine r_iconst 4 dX6_send_3 (by decide) ?_
      refine r_icmp_ge 22 dX6_send_4 (by decide) (fun c_4 => absurd c_4 (nI_ge (a := k) (b := 4) (by omega) (by decide))) (fun c_4 => ?_)
      refine r_aload_n dX6_send_7 rfl rfl ?_
      refine gV0 (Y := mX6_sendOnce) (ci := 6) (N := 35) dX6_send_8 mlX6_150 vkX6_sendOnce (by first | rfl | assumption) ⟨by decide, rfl⟩ rfl g1 ?_
      refine r_if_ne 16 dX6_send_11 (by decide) (fun c_11 => ?_) (fun c_11 => absurd c_11 hf)
      refine r_iinc_1 (_ + 1) dX6_send_16 rfl (Nat.le_of_ble_eq_true rfl) rfl ?_
      refine r_goto 2 dX6_send_19 (by decide) ?_
      rw [nI_1]
      exact w
set_option maxHeartbeats 4000000 in
set_option maxRecDepth 100000 in
theorem m_send {n : Nat} {p : Nat → Int32} {P : PL} {M : Mem} {v : LSt} (hp : okF p n) (okp : okP P) (T : TabM M) (H : HP M n p) (hv : VM M v) (hP : PM M P) (hfr : v.1 + 4 < 2 ^ 31) : ∃ M', Gv mX6_send [.ref 40] M (some (.int (eI (dl P p n 4 v).2))) M' ∧ VM M' (dl P p n 4 v).1 ∧ FrS [47, 48, 50] [(40, 12), (40, 34), (40, 33), (40, 8), (40, 9), (40, 10)] M M' := by
  obtain ⟨M', w, v', F'⟩ := m_dl_lp hp okp 4 0 M v rfl T H hv hP hfr
  refine ⟨M', ?_, v', F'⟩
  refine con_of (lv := [some (.ref 40), none]) (by decide) rfl (Nat.le_of_ble_eq_true rfl) (by simp [lvle]) ?_
  refine r_iconst 0 dX6_send_0 (by decide) ?_
  refine r_istore_n1 dX6_send_1 rfl (Nat.le_of_ble_eq_true rfl) ?_
  exact w
