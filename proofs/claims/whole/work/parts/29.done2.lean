set_option maxHeartbeats 600000 in
set_option maxRecDepth 100000 in
theorem m_done {M : Mem} {P : PL} {v : LSt} {d : DSt} {f : Nat → Int32} {t kd fi mn : Nat} (ht : t < 8) (hkd : kd ≤ 3) (hfi : fi ≤ 63) (hmn : mn ≤ 4) (hk3 : kd = 3 → mn = 0) (hm1 : kd ≠ 3 → 1 ≤ mn) (okp : okP P) (hc : CFm M t kd fi mn) (h : MS M v d P) (ok : okD d) (hf1 : kd ≠ 0 → kd ≠ 3 → ∀ j, j < 4 → M 58 (4 * t + j) = f j) (hfr : v.1 + 30 < 2 ^ 31) : ∃ M', Gv mX6_done [.ref 40, .int (nI t)] M (some (.int (nI (cmd P kd t fi mn v d f).2.2.2))) M' ∧ MS M' (cmd P kd t fi mn v d f).1 (cmd P kd t fi mn v d f).2.1 P ∧ (kd = 0 → (cmd P kd t fi mn v d f).2.2.2 = 0 → ∀ j, j < mn → M' 58 (4 * t + j) = (cmd P kd t fi mn v d f).2.2.1 j) ∧ FrS fyC fyS M M' ∧ (∀ j, ¬ (4 * t ≤ j ∧ j < 4 * t + 4) → M' 58 j = M 58 j) := by
  have hcl : (nI t).toNatClampNeg = t := nI_clamp (by omega)
  have F1 : FrS [49] [(40, 14)] M (upd2 (upd2 (upd2 (upd2 (upd2 (upd2 M 40 14 5) 49 0 39) 49 1 (nI kd)) 49 2 (nI t)) 49 3 (nI fi)) 49 4 (nI mn)) := (((((FrS.rf.ups (by decide)).upc (by decide)).upc (by decide)).upc (by decide)).upc (by decide)).upc (by decide)
  have H1 : HP (upd2 (upd2 (upd2 (upd2 (upd2 (upd2 M 40 14 5) 49 0 39) 49 1 (nI kd)) 49 2 (nI t)) 49 3 (nI fi)) 49 4 (nI mn)) 5 (pOrd kd t fi mn) := by
    refine ⟨by rw [u_nn (by decide), u_nn (by decide), u_nn (by decide), u_nn (by decide), u_nn (by decide), u_ss]; rfl, fun j hj => ?_⟩
    have : j = 0 ∨ j = 1 ∨ j = 2 ∨ j = 3 ∨ j = 4 := by omega
    rcases this with rfl | rfl | rfl | rfl | rfl
    · rw [u_sn (by decide), u_sn (by decide), u_sn (by decide), u_sn (by decide), u_ss]; rfl
    · rw [u_sn (by decide), u_sn (by decide), u_sn (by decide), u_ss]; rfl
    · rw [u_sn (by decide), u_sn (by decide), u_ss]; rfl
    · rw [u_sn (by decide), u_ss]; rfl
    · rw [u_ss]; rfl
  have w1 : ∀ Q, WP mX6_done 56 [some (.ref 40), some (.int (nI t)), none, none] [] 0 0 (shp, rfs, upd2 (upd2 (upd2 (upd2 (upd2 (upd2 M 40 14 5) 49 0 39) 49 1 (nI kd)) 49 2 (nI t)) 49 3 (nI fi)) 49 4 (nI mn)) Q → WP mX6_done 0 [some (.ref 40), some (.int (nI t)), none, none] [] 0 0 (shp, rfs, M) Q := by
    intro Q hq
    refine r_aload_n dX6_done_0 rfl rfl ?_
    refine r_iconst 5 dX6_done_1 (by decide) ?_
    refine r_putI (N := 35) dX6_done_2 fwX6_125 (by first | exact hc1 | exact hc2 | exact hc3 | rfl | exact hB1 | exact hB2 | exact hB3) (Nat.le_of_ble_eq_true rfl) rfl (Or.inl rfl) rfl rfl ?_
    refine r_aload_n dX6_done_5 rfl rfl ?_
    refine r_getR (N := 35) dX6_done_6 fwX6_34 (by first | exact hc1 | exact hc2 | exact hc3 | rfl | exact hB1 | exact hB2 | exact hB3) (Nat.le_of_ble_eq_true rfl) rfl (by first | exact hc1 | exact hc2 | exact hc3 | rfl | exact hB1 | exact hB2 | exact hB3) ?_
    refine r_iconst 0 dX6_done_9 (by decide) ?_
    refine r_bipush 39 dX6_done_10 (by decide) ?_
    refine r_iastore dX6_done_12 (by first | exact hc1 | exact hc2 | exact hc3 | rfl | exact hB1 | exact hB2 | exact hB3) (by exact vp_in_nI (n := 0) (by decide) (by decide)) ?_
    refine r_aload_n dX6_done_13 rfl rfl ?_
    refine r_getR (N := 35) dX6_done_14 fwX6_34 (by first | exact hc1 | exact hc2 | exact hc3 | rfl | exact hB1 | exact hB2 | exact hB3) (Nat.le_of_ble_eq_true rfl) rfl (by first | exact hc1 | exact hc2 | exact hc3 | rfl | exact hB1 | exact hB2 | exact hB3) ?_
    refine r_iconst 1 dX6_done_17 (by decide) ?_
    refine r_aload_n dX6_done_18 rfl rfl ?_
    refine r_getR (N := 35) dX6_done_19 fwX6_52 (by first | exact hc1 | exact hc2 | exact hc3 | rfl | exact hB1 | exact hB2 | exact hB3) (Nat.le_of_ble_eq_true rfl) rfl (by first | exact hc1 | exact hc2 | exact hc3 | rfl | exact hB1 | exact hB2 | exact hB3) ?_
    refine r_iload_n dX6_done_22 rfl rfl ?_
    refine r_iaload dX6_done_23 (by first | exact hc1 | exact hc2 | exact hc3 | rfl | exact hB1 | exact hB2 | exact hB3) (by exact vp_in_nI ht (by decide)) ?_
    rw [hcl, u_nn (show (55 : Nat) ≠ 49 by decide), u_nn (show (55 : Nat) ≠ 40 by decide), hc.1]
    refine r_iastore dX6_done_24 (by first | exact hc1 | exact hc2 | exact hc3 | rfl | exact hB1 | exact hB2 | exact hB3) (by exact vp_in_nI (n := 1) (by decide) (by decide)) ?_
    refine r_aload_n dX6_done_25 rfl rfl ?_
    refine r_getR (N := 35) dX6_done_26 fwX6_34 (by first | exact hc1 | exact hc2 | exact hc3 | rfl | exact hB1 | exact hB2 | exact hB3) (Nat.le_of_ble_eq_true rfl) rfl (by first | exact hc1 | exact hc2 | exact hc3 | rfl | exact hB1 | exact hB2 | exact hB3) ?_
    refine r_iconst 2 dX6_done_29 (by decide) ?_
    refine r_iload_n dX6_done_30 rfl rfl ?_
    refine r_iastore dX6_done_31 (by first | exact hc1 | exact hc2 | exact hc3 | rfl | exact hB1 | exact hB2 | exact hB3) (by exact vp_in_nI (n := 2) (by decide) (by decide)) ?_
    refine r_aload_n dX6_done_32 rfl rfl ?_
    refine r_getR (N := 35) dX6_done_33 fwX6_34 (by first | exact hc1 | exact hc2 | exact hc3 | rfl | exact hB1 | exact hB2 | exact hB3) (Nat.le_of_ble_eq_true rfl) rfl (by first | exact hc1 | exact hc2 | exact hc3 | rfl | exact hB1 | exact hB2 | exact hB3) ?_
    refine r_iconst 3 dX6_done_36 (by decide) ?_
    refine r_aload_n dX6_done_37 rfl rfl ?_
    refine r_getR (N := 35) dX6_done_38 fwX6_55 (by first | exact hc1 | exact hc2 | exact hc3 | rfl | exact hB1 | exact hB2 | exact hB3) (Nat.le_of_ble_eq_true rfl) rfl (by first | exact hc1 | exact hc2 | exact hc3 | rfl | exact hB1 | exact hB2 | exact hB3) ?_
    refine r_iload_n dX6_done_41 rfl rfl ?_
    refine r_iaload dX6_done_42 (by first | exact hc1 | exact hc2 | exact hc3 | rfl | exact hB1 | exact hB2 | exact hB3) (by exact vp_in_nI ht (by decide)) ?_
    rw [hcl, u_nn (show (56 : Nat) ≠ 49 by decide), u_nn (show (56 : Nat) ≠ 49 by decide), u_nn (show (56 : Nat) ≠ 49 by decide), u_nn (show (56 : Nat) ≠ 40 by decide), hc.2.1]
    refine r_iastore dX6_done_43 (by first | exact hc1 | exact hc2 | exact hc3 | rfl | exact hB1 | exact hB2 | exact hB3) (by exact vp_in_nI (n := 3) (by decide) (by decide)) ?_
    refine r_aload_n dX6_done_44 rfl rfl ?_
    refine r_getR (N := 35) dX6_done_45 fwX6_34 (by first | exact hc1 | exact hc2 | exact hc3 | rfl | exact hB1 | exact hB2 | exact hB3) (Nat.le_of_ble_eq_true rfl) rfl (by first | exact hc1 | exact hc2 | exact hc3 | rfl | exact hB1 | exact hB2 | exact hB3) ?_
    refine r_iconst 4 dX6_done_48 (by decide) ?_
    refine r_aload_n dX6_done_49 rfl rfl ?_
    refine r_getR (N := 35) dX6_done_50 fwX6_58 (by first | exact hc1 | exact hc2 | exact hc3 | rfl | exact hB1 | exact hB2 | exact hB3) (Nat.le_of_ble_eq_true rfl) rfl (by first | exact hc1 | exact hc2 | exact hc3 | rfl | exact hB1 | exact hB2 | exact hB3) ?_
    refine r_iload_n dX6_done_53 rfl rfl ?_
    refine r_iaload dX6_done_54 (by first | exact hc1 | exact hc2 | exact hc3 | rfl | exact hB1 | exact hB2 | exact hB3) (by exact vp_in_nI ht (by decide)) ?_
    rw [hcl, u_nn (show (57 : Nat) ≠ 49 by decide), u_nn (show (57 : Nat) ≠ 49 by decide), u_nn (show (57 : Nat) ≠ 49 by decide), u_nn (show (57 : Nat) ≠ 49 by decide), u_nn (show (57 : Nat) ≠ 40 by decide), hc.2.2]
    refine r_iastore dX6_done_55 (by first | exact hc1 | exact hc2 | exact hc3 | rfl | exact hB1 | exact hB2 | exact hB3) (by exact vp_in_nI (n := 4) (by decide) (by decide)) ?_
    exact hq
  generalize upd2 (upd2 (upd2 (upd2 (upd2 (upd2 M 40 14 5) 49 0 39) 49 1 (nI kd)) 49 2 (nI t)) 49 3 (nI fi)) 49 4 (nI mn) = M1 at F1 H1 w1
  obtain ⟨M2, g2, h2, F2⟩ := m_sendX (h.fr49 (F1.mono (by decide) (by decide))) okp H1 (pOrd_ok (by omega) (by omega) (by omega) (by omega)) (by omega)
  have hfr1 := dl_fr P (pOrd kd t fi mn) 5 4 v
  have F12 : FrS fyC fyS M M2 := (F1.mono (by decide) (by decide)).tr (F2.mono (by decide) (by decide))
  have n2 : ∀ j, M2 58 j = M 58 j := fun j => by rw [F2 58 j (by decide) (by simp), F1 58 j (by decide) (by simp)]
  have hcM := hc.frS F12 (by decide) (by decide)
  have hk : M2 55 t = nI kd := hcM.1
  have hlast : Gv mX6_lastOf [.int (nI kd), .int (nI fi), .int (nI mn)] M2 (some (.int (nI (lastN kd fi mn)))) M2 := by
    have g := m_lastOf (M := M2) (k := nI kd) (a := nI fi) (b := nI mn)
    unfold lastN
    by_cases h3 : kd = 3
    · rw [if_pos (by rw [h3]; rfl)] at g
      rw [if_pos h3]
      exact g
    · rw [if_neg (show ¬ nI kd = 3 from fun z => h3 ((nI_eq (a := kd) (b := 3) (by omega) (by decide)).mp z)), nI_add] at g
      rw [if_neg h3]
      have := hm1 h3
      rw [show nI (fi + mn) - 1 = nI (fi + mn - 1) from pk_sub (a := fi + mn) (b := 1) (by omega)] at g
      exact g
  unfold cmd
  generalize hq : dl P (pOrd kd t fi mn) 5 4 v = qq at g2 h2 hfr1 ⊢
  obtain ⟨q1, qb⟩ := qq
  dsimp only at g2 h2 hfr1 ⊢
  clear hq
  cases qb with
  | false =>
    rw [if_neg (show ¬ false = true from Bool.false_ne_true)]
    dsimp only
    refine ⟨M2, ?_, h2, fun _ z => absurd z (by decide), F12, fun j _ => n2 j⟩
    refine con_of (lv := [some (.ref 40), some (.int (nI t)), none, none]) (by decide) rfl (Nat.le_of_ble_eq_true rfl) (by simp [lvle]) ?_
    refine w1 _ ?_
    refine r_aload_n dX6_done_56 rfl rfl ?_
    refine gV0 (Y := mX6_send) (ci := 6) (N := 35) dX6_done_57 mlX6_183 vkX6_send (by first | exact hc1 | exact hc2 | exact hc3 | rfl | exact hB1 | exact hB2 | exact hB3) ⟨by decide, rfl⟩ rfl g2 ?_
    refine r_if_ne 65 dX6_done_60 (by decide) (fun c_60 => absurd rfl c_60) (fun c_60 => ?_)
    refine r_iconst 1 dX6_done_63 (by decide) ?_
    refine r_ireturn dX6_done_64 rfl (Nat.zero_le _) (Nat.zero_le _) ?_
    exact ⟨rfl, rfl⟩
  | true =>
    rw [if_pos rfl]
    by_cases hl : 31 < lastN kd fi mn
    · rw [if_pos hl]
      obtain ⟨M3, g3, H3, F3⟩ := m_three (M := M2) (tg := t) (oc := 2)
      obtain ⟨M4, g4, h4, F4⟩ := m_sendX (h2.fr49 (F3.mono (by decide) (by decide))) okp H3 (pAns_ok (by decide) (by omega)) (by omega)
      generalize hq : dl P (pAns t 2) 3 4 q1 = qq at g4 h4 ⊢
      obtain ⟨q2, qb⟩ := qq
      dsimp only at g4 h4 ⊢
      clear hq
      refine ⟨M4, ?_, h4, fun _ z => absurd z (by split <;> decide), (F12.tr (F3.mono (by decide) (by decide))).tr (F4.mono (by decide) (by decide)), fun j _ => by rw [F4 58 j (by decide) (by simp), F3 58 j (by decide) (by simp)]; exact n2 j⟩
      have hl2 : ¬ nI (lastN kd fi mn) ≤ 31 := nI_ge (a := 31) (b := lastN kd fi mn) hl (by unfold lastN; split <;> omega)
      refine con_of (lv := [some (.ref 40), some (.int (nI t)), none, none]) (by decide) rfl (Nat.le_of_ble_eq_true rfl) (by simp [lvle]) ?_
      refine w1 _ ?_
      cases qb with
      | true =>
        refine r_aload_n dX6_done_56 rfl rfl ?_
        refine gV0 (Y := mX6_send) (ci := 6) (N := 35) dX6_done_57 mlX6_183 vkX6_send (by first | exact hc1 | exact hc2 | exact hc3 | rfl | exact hB1 | exact hB2 | exact hB3) ⟨by decide, rfl⟩ rfl g2 ?_
        refine r_if_ne 65 dX6_done_60 (by decide) (fun c_60 => ?_) (fun c_60 => absurd c_60 (by decide))
        refine r_aload_n dX6_done_65 rfl rfl ?_
        refine r_getR (N := 35) dX6_done_66 fwX6_52 (by first | exact hc1 | exact hc2 | exact hc3 | rfl | exact hB1 | exact hB2 | exact hB3) (Nat.le_of_ble_eq_true rfl) rfl (by first | exact hc1 | exact hc2 | exact hc3 | rfl | exact hB1 | exact hB2 | exact hB3) ?_
        refine r_iload_n dX6_done_69 rfl rfl ?_
        refine r_iaload dX6_done_70 (by first | exact hc1 | exact hc2 | exact hc3 | rfl | exact hB1 | exact hB2 | exact hB3) (by exact vp_in_nI ht (by decide)) ?_
        rw [hcl, hcM.1]
        refine r_aload_n dX6_done_71 rfl rfl ?_
        refine r_getR (N := 35) dX6_done_72 fwX6_55 (by first | exact hc1 | exact hc2 | exact hc3 | rfl | exact hB1 | exact hB2 | exact hB3) (Nat.le_of_ble_eq_true rfl) rfl (by first | exact hc1 | exact hc2 | exact hc3 | rfl | exact hB1 | exact hB2 | exact hB3) ?_
        refine r_iload_n dX6_done_75 rfl rfl ?_
        refine r_iaload dX6_done_76 (by first | exact hc1 | exact hc2 | exact hc3 | rfl | exact hB1 | exact hB2 | exact hB3) (by exact vp_in_nI ht (by decide)) ?_
        rw [hcl, hcM.2.1]
        refine r_aload_n dX6_done_77 rfl rfl ?_
        refine r_getR (N := 35) dX6_done_78 fwX6_58 (by first | exact hc1 | exact hc2 | exact hc3 | rfl | exact hB1 | exact hB2 | exact hB3) (Nat.le_of_ble_eq_true rfl) rfl (by first | exact hc1 | exact hc2 | exact hc3 | rfl | exact hB1 | exact hB2 | exact hB3) ?_
        refine r_iload_n dX6_done_81 rfl rfl ?_
        refine r_iaload dX6_done_82 (by first | exact hc1 | exact hc2 | exact hc3 | rfl | exact hB1 | exact hB2 | exact hB3) (by exact vp_in_nI ht (by decide)) ?_
        rw [hcl, hcM.2.2]
        refine gS3 (Y := mX6_lastOf) dX6_done_83 mlX6_187 ckX6_lastOf skX6_lastOf rfl hlast ?_
        refine r_bipush 31 dX6_done_86 (by decide) ?_
        refine r_icmp_le 113 dX6_done_88 (by decide) (fun c_88 => absurd c_88 hl2) (fun c_88 => ?_)
        refine r_aload_n dX6_done_91 rfl rfl ?_
        refine r_sipush 161 dX6_done_92 (by decide) ?_
        refine r_iload_n dX6_done_95 rfl rfl ?_
        refine r_iconst 2 dX6_done_96 (by decide) ?_
        refine gW3 (Y := mX6_three) (ci := 6) (N := 35) dX6_done_97 mlX6_190 vkX6_three (by first | exact hc1 | exact hc2 | exact hc3 | rfl | exact hB1 | exact hB2 | exact hB3) ⟨by decide, rfl⟩ rfl g3 ?_
        refine r_aload_n dX6_done_100 rfl rfl ?_
        refine gV0 (Y := mX6_send) (ci := 6) (N := 35) dX6_done_101 mlX6_183 vkX6_send (by first | exact hc1 | exact hc2 | exact hc3 | rfl | exact hB1 | exact hB2 | exact hB3) ⟨by decide, rfl⟩ rfl g4 ?_
        refine r_if_eq 111 dX6_done_104 (by decide) (fun c_104 => absurd c_104 (by decide)) (fun c_104 => ?_)
        refine r_iconst 2 dX6_done_107 (by decide) ?_
        refine r_goto 112 dX6_done_108 (by decide) ?_
        refine r_ireturn dX6_done_112 rfl (Nat.zero_le _) (Nat.zero_le _) ?_
        exact ⟨rfl, rfl⟩
      | false =>
        refine r_aload_n dX6_done_56 rfl rfl ?_
        refine gV0 (Y := mX6_send) (ci := 6) (N := 35) dX6_done_57 mlX6_183 vkX6_send (by first | exact hc1 | exact hc2 | exact hc3 | rfl | exact hB1 | exact hB2 | exact hB3) ⟨by decide, rfl⟩ rfl g2 ?_
        refine r_if_ne 65 dX6_done_60 (by decide) (fun c_60 => ?_) (fun c_60 => absurd c_60 (by decide))
        refine r_aload_n dX6_done_65 rfl rfl ?_
        refine r_getR (N := 35) dX6_done_66 fwX6_52 (by first | exact hc1 | exact hc2 | exact hc3 | rfl | exact hB1 | exact hB2 | exact hB3) (Nat.le_of_ble_eq_true rfl) rfl (by first | exact hc1 | exact hc2 | exact hc3 | rfl | exact hB1 | exact hB2 | exact hB3) ?_
        refine r_iload_n dX6_done_69 rfl rfl ?_
        refine r_iaload dX6_done_70 (by first | exact hc1 | exact hc2 | exact hc3 | rfl | exact hB1 | exact hB2 | exact hB3) (by exact vp_in_nI ht (by decide)) ?_
        rw [hcl, hcM.1]
        refine r_aload_n dX6_done_71 rfl rfl ?_
        refine r_getR (N := 35) dX6_done_72 fwX6_55 (by first | exact hc1 | exact hc2 | exact hc3 | rfl | exact hB1 | exact hB2 | exact hB3) (Nat.le_of_ble_eq_true rfl) rfl (by first | exact hc1 | exact hc2 | exact hc3 | rfl | exact hB1 | exact hB2 | exact hB3) ?_
        refine r_iload_n dX6_done_75 rfl rfl ?_
        refine r_iaload dX6_done_76 (by first | exact hc1 | exact hc2 | exact hc3 | rfl | exact hB1 | exact hB2 | exact hB3) (by exact vp_in_nI ht (by decide)) ?_
        rw [hcl, hcM.2.1]
        refine r_aload_n dX6_done_77 rfl rfl ?_
        refine r_getR (N := 35) dX6_done_78 fwX6_58 (by first | exact hc1 | exact hc2 | exact hc3 | rfl | exact hB1 | exact hB2 | exact hB3) (Nat.le_of_ble_eq_true rfl) rfl (by first | exact hc1 | exact hc2 | exact hc3 | rfl | exact hB1 | exact hB2 | exact hB3) ?_
        refine r_iload_n dX6_done_81 rfl rfl ?_
        refine r_iaload dX6_done_82 (by first | exact hc1 | exact hc2 | exact hc3 | rfl | exact hB1 | exact hB2 | exact hB3) (by exact vp_in_nI ht (by decide)) ?_
        rw [hcl, hcM.2.2]
        refine gS3 (Y := mX6_lastOf) dX6_done_83 mlX6_187 ckX6_lastOf skX6_lastOf rfl hlast ?_
        refine r_bipush 31 dX6_done_86 (by decide) ?_
        refine r_icmp_le 113 dX6_done_88 (by decide) (fun c_88 => absurd c_88 hl2) (fun c_88 => ?_)
        refine r_aload_n dX6_done_91 rfl rfl ?_
        refine r_sipush 161 dX6_done_92 (by decide) ?_
        refine r_iload_n dX6_done_95 rfl rfl ?_
        refine r_iconst 2 dX6_done_96 (by decide) ?_
        refine gW3 (Y := mX6_three) (ci := 6) (N := 35) dX6_done_97 mlX6_190 vkX6_three (by first | exact hc1 | exact hc2 | exact hc3 | rfl | exact hB1 | exact hB2 | exact hB3) ⟨by decide, rfl⟩ rfl g3 ?_
        refine r_aload_n dX6_done_100 rfl rfl ?_
        refine gV0 (Y := mX6_send) (ci := 6) (N := 35) dX6_done_101 mlX6_183 vkX6_send (by first | exact hc1 | exact hc2 | exact hc3 | rfl | exact hB1 | exact hB2 | exact hB3) ⟨by decide, rfl⟩ rfl g4 ?_
        refine r_if_eq 111 dX6_done_104 (by decide) (fun c_104 => ?_) (fun c_104 => absurd rfl c_104)
        refine r_iconst 1 dX6_done_111 (by decide) ?_
        refine r_ireturn dX6_done_112 rfl (Nat.zero_le _) (Nat.zero_le _) ?_
        exact ⟨rfl, rfl⟩
    · rw [if_neg hl]
      have hl2 : nI (lastN kd fi mn) ≤ 31 := nI_le (a := lastN kd fi mn) (b := 31) (by omega) (by decide)
      obtain ⟨M', w, i1, i3, i4, i5⟩ := m_done_lp (M0 := M2) (P := P) ht hkd hmn hk3 (by omega) okp hcM mn 0 M2 q1 d f (by omega) h2 ok (fun z z3 j hj => by rw [n2]; exact hf1 z z3 j hj) (fun _ j hj => absurd hj (by omega)) (by omega) FrS.rf (fun _ _ => rfl)
      refine ⟨M', ?_, i1, i3, F12.tr i4, fun j hj => by rw [i5 j hj]; exact n2 j⟩
      refine con_of (lv := [some (.ref 40), some (.int (nI t)), none, none]) (by decide) rfl (Nat.le_of_ble_eq_true rfl) (by simp [lvle]) ?_
      refine w1 _ ?_
      clear i1 i3
      refine r_aload_n dX6_done_56 rfl rfl ?_
      refine gV0 (Y := mX6_send) (ci := 6) (N := 35) dX6_done_57 mlX6_183 vkX6_send (by first | exact hc1 | exact hc2 | exact hc3 | rfl | exact hB1 | exact hB2 | exact hB3) ⟨by decide, rfl⟩ rfl g2 ?_
      refine r_if_ne 65 dX6_done_60 (by decide) (fun c_60 => ?_) (fun c_60 => absurd c_60 (by decide))
      refine r_aload_n dX6_done_65 rfl rfl ?_
      refine r_getR (N := 35) dX6_done_66 fwX6_52 (by first | exact hc1 | exact hc2 | exact hc3 | rfl | exact hB1 | exact hB2 | exact hB3) (Nat.le_of_ble_eq_true rfl) rfl (by first | exact hc1 | exact hc2 | exact hc3 | rfl | exact hB1 | exact hB2 | exact hB3) ?_
      refine r_iload_n dX6_done_69 rfl rfl ?_
      refine r_iaload dX6_done_70 (by first | exact hc1 | exact hc2 | exact hc3 | rfl | exact hB1 | exact hB2 | exact hB3) (by exact vp_in_nI ht (by decide)) ?_
      rw [hcl, hcM.1]
      refine r_aload_n dX6_done_71 rfl rfl ?_
      refine r_getR (N := 35) dX6_done_72 fwX6_55 (by first | exact hc1 | exact hc2 | exact hc3 | rfl | exact hB1 | exact hB2 | exact hB3) (Nat.le_of_ble_eq_true rfl) rfl (by first | exact hc1 | exact hc2 | exact hc3 | rfl | exact hB1 | exact hB2 | exact hB3) ?_
      refine r_iload_n dX6_done_75 rfl rfl ?_
      refine r_iaload dX6_done_76 (by first | exact hc1 | exact hc2 | exact hc3 | rfl | exact hB1 | exact hB2 | exact hB3) (by exact vp_in_nI ht (by decide)) ?_
      rw [hcl, hcM.2.1]
      refine r_aload_n dX6_done_77 rfl rfl ?_
      refine r_getR (N := 35) dX6_done_78 fwX6_58 (by first | exact hc1 | exact hc2 | exact hc3 | rfl | exact hB1 | exact hB2 | exact hB3) (Nat.le_of_ble_eq_true rfl) rfl (by first | exact hc1 | exact hc2 | exact hc3 | rfl | exact hB1 | exact hB2 | exact hB3) ?_
      refine r_iload_n dX6_done_81 rfl rfl ?_
      refine r_iaload dX6_done_82 (by first | exact hc1 | exact hc2 | exact hc3 | rfl | exact hB1 | exact hB2 | exact hB3) (by exact vp_in_nI ht (by decide)) ?_
      rw [hcl, hcM.2.2]
      refine gS3 (Y := mX6_lastOf) dX6_done_83 mlX6_187 ckX6_lastOf skX6_lastOf rfl hlast ?_
      refine r_bipush 31 dX6_done_86 (by decide) ?_
      refine r_icmp_le 113 dX6_done_88 (by decide) (fun c_88 => ?_) (fun c_88 => absurd hl2 c_88)
      refine r_iconst 0 dX6_done_113 (by decide) ?_
      refine r_istore_n2 dX6_done_114 rfl (Nat.le_of_ble_eq_true rfl) ?_
      exact r_weak (by simp [lvle] <;> (repeat' apply And.intro) <;> first | rfl | decide) w
