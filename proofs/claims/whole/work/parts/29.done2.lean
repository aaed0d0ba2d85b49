set_option maxHeartbeats 600000 in
set_option maxRecDepth 100000 in
theorem m_done {M : Mem} {P : PL} {v : LSt} {d : DSt} {f : Nat → Int32} {t kd fi mn : Nat} (ht : t < 8) (hkd : kd ≤ 3) (hfi : fi ≤ 63) (hmn : mn ≤ 4) (hk3 : kd = 3 → mn = 0) (hm1 : kd ≠ 3 → 1 ≤ mn) (okp : okP P) (hc : CFm M t kd fi mn) (h : MS M v d P) (ok : okD d) (hf1 : kd ≠ 0 → ∀ j, j < 4 → M 58 (4 * t + j) = f j) (hfr : v.1 + 30 < 2 ^ 31) : ∃ M', Gv mX6_done [.ref 40, .int (nI t)] M (some (.int (nI (cmd P kd t fi mn v d f).2.2.2))) M' ∧ MS M' (cmd P kd t fi mn v d f).1 (cmd P kd t fi mn v d f).2.1 P ∧ (kd = 0 → (cmd P kd t fi mn v d f).2.2.2 = 0 → ∀ j, j < mn → M' 58 (4 * t + j) = (cmd P kd t fi mn v d f).2.2.1 j) ∧ FrS fyC fyS M M' ∧ (∀ j, ¬ (4 * t ≤ j ∧ j < 4 * t + 4) → M' 58 j = M 58 j) := by
  have hcl : (nI t).toNatClampNeg = t := nI_clamp (by omega)
  have F1 : FrS [49, 58] [(40, 14)] M (upd2 (upd2 (upd2 (upd2 (upd2 (upd2 M 40 14 5) 49 0 39) 49 1 (nI kd)) 49 2 (nI t)) 49 3 (nI fi)) 49 4 (nI mn)) := (((((FrS.rf.ups (by decide)).upc (by decide)).upc (by decide)).upc (by decide)).upc (by decide)).upc (by decide)
  have H1 : HP (upd2 (upd2 (upd2 (upd2 (upd2 (upd2 M 40 14 5) 49 0 39) 49 1 (nI kd)) 49 2 (nI t)) 49 3 (nI fi)) 49 4 (nI mn)) 5 (pOrd kd t fi mn) := by
    refine ⟨by rw [u_nn (by decide), u_nn (by decide), u_nn (by decide), u_nn (by decide), u_nn (by decide), u_ss]; rfl, fun j hj => ?_⟩
    have : j = 0 ∨ j = 1 ∨ j = 2 ∨ j = 3 ∨ j = 4 := by omega
    rcases this with rfl | rfl | rfl | rfl | rfl
    · rw [u_sn (by decide), u_sn (by decide), u_sn (by decide), u_sn (by decide), u_ss]; rfl
    · rw [u_sn (by decide), u_sn (by decide), u_sn (by decide), u_ss]; rfl
    · rw [u_sn (by decide), u_sn (by decide), u_ss]; rfl
    · rw [u_sn (by decide), u_ss]; rfl
    · rw [u_ss]; rfl
  have w1 : ∀ Q, WP mX6_done 56 [some (.ref 40), some (.int (nI t)), none, none] [] 0 0 (shp, rfs, upd2 (upd2 (upd2 (upd2 (upd2 (upd2 M 40 14 5) 49 0 39) 49 1 (nI kd)) 49 2 (nI t)) 49 3 (nI fi)) 49 4 (nI mn)) Q → WP mX6_done 0 [some (.ref 40), some (.int (nI t)), none, none] [] 0 0 (shp, rfs, M) Q := by
    intro Q hq
    refine r_aload_n dX6_done_0 rfl rfl ?_
    refine r_iconst 5 dX6_done_1 (by decide) ?_
    refine r_putI (N := 35) dX6_done_2 fwX6_125 (by first | exact hc1 | exact hc2 | exact hc3 | rfl | exact hB1 | exact hB2 | exact hB3) (Nat.le_of_ble_eq_true rfl) rfl (Or.inl rfl) rfl rfl ?_
    refine r_aload_n dX6_done_5 rfl rfl ?_
    refine r_getR (N := 35) dX6_done_6 fwX6_34 (by first | exact hc1 | exact hc2 | exact hc3 | rfl | exact hB1 | exact hB2 | exact hB3) (Nat.le_of_ble_eq_true rfl) rfl (by first | exact hc1 | exact hc2 | exact hc3 | rfl | exact hB1 | exact hB2 | exact hB3) ?_
    refine r_iconst 0 dX6_done_9 (by decide) ?_
    refine r_bipush 39 dX6_done_10 (by decide) ?_
    refine r_iastore dX6_done_12 (by first | exact hc1 | exact hc2 | exact hc3 | rfl | exact hB1 | exact hB2 | exact hB3) (by exact vp_in_nI (n := 0) (by decide) (by decide)) ?_
    refine r_aload_n dX6_done_13 rfl rfl ?_
    refine r_getR (N := 35) dX6_done_14 fwX6_34 (by first | exact hc1 | exact hc2 | exact hc3 | rfl | exact hB1 | exact hB2 | exact hB3) (Nat.le_of_ble_eq_true rfl) rfl (by first | exact hc1 | exact hc2 | exact hc3 | rfl | exact hB1 | exact hB2 | exact hB3) ?_
    refine r_iconst 1 dX6_done_17 (by decide) ?_
    refine r_aload_n dX6_done_18 rfl rfl ?_
    refine r_getR (N := 35) dX6_done_19 fwX6_52 (by first | exact hc1 | exact hc2 | exact hc3 | rfl | exact hB1 | exact hB2 | exact hB3) (Nat.le_of_ble_eq_true rfl) rfl (by first | exact hc1 | exact hc2 | exact hc3 | rfl | exact hB1 | exact hB2 | exact hB3) ?_
    refine r_iload_n dX6_done_22 rfl rfl ?_
    refine r_iaload dX6_done_23 (by first | exact hc1 | exact hc2 | exact hc3 | rfl | exact hB1 | exact hB2 | exact hB3) (by exact vp_in_nI ht (by decide)) ?_
    rw [hcl, u_nn (show (55 : Nat) ≠ 49 by decide), u_nn (show (55 : Nat) ≠ 40 by decide), hc.1]
    refine r_iastore dX6_done_24 (by first | exact hc1 | exact hc2 | exact hc3 | rfl | exact hB1 | exact hB2 | exact hB3) (by exact vp_in_nI (n := 1) (by decide) (by decide)) ?_
    refine r_aload_n dX6_done_25 rfl rfl ?_
    refine r_getR (N := 35) dX6_done_26 fwX6_34 (by first | exact hc1 | exact hc2 | exact hc3 | rfl | exact hB1 | exact hB2 | exact hB3) (Nat.le_of_ble_eq_true rfl) rfl (by first | exact hc1 | exact hc2 | exact hc3 | rfl | exact hB1 | exact hB2 | exact hB3) ?_
    refine r_iconst 2 dX6_done_29 (by decide) ?_
    refine r_iload_n dX6_done_30 rfl rfl ?_
    refine r_iastore dX6_done_31 (by first | exact hc1 | exact hc2 | exact hc3 | rfl | exact hB1 | exact hB2 | exact hB3) (by exact vp_in_nI (n := 2) (by decide) (by decide)) ?_
    refine r_aload_n dX6_done_32 rfl rfl ?_
    refine r_getR (N := 35) dX6_done_33 fwX6_34 (by first | exact hc1 | exact hc2 | exact hc3 | rfl | exact hB1 | exact hB2 | exact hB3) (Nat.le_of_ble_eq_true rfl) rfl (by first | exact hc1 | exact hc2 | exact hc3 | rfl | exact hB1 | exact hB2 | exact hB3) ?_
    refine r_iconst 3 dX6_done_36 (by decide) ?_
    refine r_aload_n dX6_done_37 rfl rfl ?_
    refine r_getR (N := 35) dX6_done_38 fwX6_55 (by first | exact hc1 | exact hc2 | exact hc3 | rfl | exact hB1 | exact hB2 | exact hB3) (Nat.le_of_ble_eq_true rfl) rfl (by first | exact hc1 | exact hc2 | exact hc3 | rfl | exact hB1 | exact hB2 | exact hB3) ?_
    refine r_iload_n dX6_done_41 rfl rfl ?_
    refine r_iaload dX6_done_42 (by first | exact hc1 | exact hc2 | exact hc3 | rfl | exact hB1 | exact hB2 | exact hB3) (by exact vp_in_nI ht (by decide)) ?_
    rw [hcl, u_nn (show (56 : Nat) ≠ 49 by decide), u_nn (show (56 : Nat) ≠ 49 by decide), u_nn (show (56 : Nat) ≠ 49 by decide), u_nn (show (56 : Nat) ≠ 40 by decide), hc.2.1]
    refine r_iastore dX6_done_43 (by first | exact hc1 | exact hc2 | exact hc3 | rfl | exact hB1 | exact hB2 | exact hB3) (by exact vp_in_nI (n := 3) (by decide) (by decide)) ?_
    refine r_aload_n dX6_done_44 rfl rfl ?_
    refine r_getR (N := 35) dX6_done_45 fwX6_34 (by first | exact hc1 | exact hc2 | exact hc3 | rfl | exact hB1 | exact hB2 | exact hB3) (Nat.le_of_ble_eq_true rfl) rfl (by first | exact hc1 | exact hc2 | exact hc3 | rfl | exact hB1 | exact hB2 | exact hB3) ?_
    refine r_iconst 4 dX6_done_48 (by decide) ?_
    refine r_aload_n dX6_done_49 rfl rfl ?_
    refine r_getR (N := 35) dX6_done_50 fwX6_58 (by first | exact hc1 | exact hc2 | exact hc3 | rfl | exact hB1 | exact hB2 | exact hB3) (Nat.le_of_ble_eq_true rfl) rfl (by first | exact hc1 | exact hc2 | exact hc3 | rfl | exact hB1 | exact hB2 | exact hB3) ?_
    refine r_iload_n dX6_done_53 rfl rfl ?_
    refine r_iaload dX6_done_54 (by first | exact hc1 | exact hc2 | exact hc3 | rfl | exact hB1 | exact hB2 | exact hB3) (by exact vp_in_nI ht (by decide)) ?_
    rw [hcl, u_nn (show (57 : Nat) ≠ 49 by decide), u_nn (show (57 : Nat) ≠ 49 by decide), u_nn (show (57 : Nat) ≠ 49 by decide), u_nn (show (57 : Nat) ≠ 49 by decide), u_nn (show (57 : Nat) ≠ 40 by decide), hc.2.2]
    refine r_iastore dX6_done_55 (by first | exact hc1 | exact hc2 | exact hc3 | rfl | exact hB1 | exact hB2 | exact hB3) (by exact vp_in_nI (n := 4) (by decide) (by decide)) ?_
    exact hq
  generalize upd2 (upd2 (upd2 (upd2 (upd2 (upd2 M 40 14 5) 49 0 39) 49 1 (nI kd)) 49 2 (nI t)) 49 3 (nI fi)) 49 4 (nI mn) = M1 at F1 H1 w1
  have F1n : ∀ j, M1 58 j = M1 58 j := fun j => rfl
  obtain ⟨M2, g2, h2, F2⟩ := m_sendX (h.fr49 F1) okp H1 (pOrd_ok (by omega) (by omega) (by omega) (by omega)) (by omega)
  have hfr1 := dl_fr P (pOrd kd t fi mn) 5 4 v
  have F12 : FrS fyC fyS M M2 := (F1.mono (by decide) (by decide)).tr (F2.mono (by decide) (by decide))
  sorry
