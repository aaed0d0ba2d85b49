set_option maxHeartbeats 600000 in
set_option maxRecDepth 100000 in
theorem m_ahead {M : Mem} {T : TSt} {a b w l : Nat} (ha : a < 8) (hb : b < 8) (h : TM M T) (ok : okT T) (hw : M 40 29 = nI w) (hw2 : w ≤ 2) (hl : M 40 30 = nI l) (hl2 : l < 100000) : Gv mX6_isAhead [.ref 40, .int (nI a), .int (nI b)] M (some (.int (eI (ahd w l T a b)))) M := by
  obtain ⟨-, -, ea4, -, ea6, -⟩ := h a ha
  obtain ⟨-, -, eb4, -, eb6, -⟩ := h b hb
  obtain ⟨-, -, oa3, -, -, -, oa6, -⟩ := ok a ha
  obtain ⟨-, -, ob3, -, -, -, ob6, -⟩ := ok b hb
  have ca : (nI a).toNatClampNeg = a := nI_clamp (by omega)
  have cb : (nI b).toNatClampNeg = b := nI_clamp (by omega)
  refine con_of (lv := [some (.ref 40), some (.int (nI a)), some (.int (nI b)), none, none]) (by decide) rfl (Nat.le_of_ble_eq_true rfl) (by simp [lvle]) ?_
  unfold ahd
  have hw3 : w = 0 ∨ w = 1 ∨ w = 2 := by omega
  rcases hw3 with rfl | rfl | rfl
  · rw [if_pos rfl]
    by_cases hlt : T.2.2.2.2.1 a < T.2.2.2.2.1 b
    · rw [decide_eq_true hlt]
      refine r_aload_n dX6_isAhead_0 rfl rfl ?_
      refine r_getI (N := 35) dX6_isAhead_1 fwX6_207 (by first | exact hc1 | exact hc2 | exact hc3 | rfl | exact hB1 | exact hB2 | exact hB3) (Nat.le_of_ble_eq_true rfl) rfl ?_
      rw [hw]
      refine r_if_ne 28 dX6_isAhead_4 (by decide) (fun c_4 => absurd rfl c_4) (fun c_4 => ?_)
      refine r_aload_n dX6_isAhead_7 rfl rfl ?_
      refine r_getR (N := 35) dX6_isAhead_8 fwX6_64 (by first | exact hc1 | exact hc2 | exact hc3 | rfl | exact hB1 | exact hB2 | exact hB3) (Nat.le_of_ble_eq_true rfl) rfl (by first | exact hc1 | exact hc2 | exact hc3 | rfl | exact hB1 | exact hB2 | exact hB3) ?_
      refine r_iload_n dX6_isAhead_11 rfl rfl ?_
      refine r_iaload dX6_isAhead_12 (by first | exact hc1 | exact hc2 | exact hc3 | rfl | exact hB1 | exact hB2 | exact hB3) (by exact vp_in_nI ha (by decide)) ?_
      rw [ca, ea6]
      refine r_aload_n dX6_isAhead_13 rfl rfl ?_
      refine r_getR (N := 35) dX6_isAhead_14 fwX6_64 (by first | exact hc1 | exact hc2 | exact hc3 | rfl | exact hB1 | exact hB2 | exact hB3) (Nat.le_of_ble_eq_true rfl) rfl (by first | exact hc1 | exact hc2 | exact hc3 | rfl | exact hB1 | exact hB2 | exact hB3) ?_
      refine r_iload_n dX6_isAhead_17 rfl rfl ?_
      refine r_iaload dX6_isAhead_18 (by first | exact hc1 | exact hc2 | exact hc3 | rfl | exact hB1 | exact hB2 | exact hB3) (by exact vp_in_nI hb (by decide)) ?_
      rw [cb, eb6]
      refine r_icmp_ge 26 dX6_isAhead_19 (by decide) (fun c_19 => absurd c_19 (nI_ge hlt (by omega))) (fun c_19 => ?_)
      refine r_iconst 1 dX6_isAhead_22 (by decide) ?_
      refine r_goto 27 dX6_isAhead_23 (by decide) ?_
      refine r_zreturn dX6_isAhead_27 rfl (by decide) (Nat.zero_le _) (Nat.zero_le _) ?_
      exact ⟨rfl, rfl⟩
    · rw [decide_eq_false hlt]
      refine r_aload_n dX6_isAhead_0 rfl rfl ?_
      refine r_getI (N := 35) dX6_isAhead_1 fwX6_207 (by first | exact hc1 | exact hc2 | exact hc3 | rfl | exact hB1 | exact hB2 | exact hB3) (Nat.le_of_ble_eq_true rfl) rfl ?_
      rw [hw]
      refine r_if_ne 28 dX6_isAhead_4 (by decide) (fun c_4 => absurd rfl c_4) (fun c_4 => ?_)
      refine r_aload_n dX6_isAhead_7 rfl rfl ?_
      refine r_getR (N := 35) dX6_isAhead_8 fwX6_64 (by first | exact hc1 | exact hc2 | exact hc3 | rfl | exact hB1 | exact hB2 | exact hB3) (Nat.le_of_ble_eq_true rfl) rfl (by first | exact hc1 | exact hc2 | exact hc3 | rfl | exact hB1 | exact hB2 | exact hB3) ?_
      refine r_iload_n dX6_isAhead_11 rfl rfl ?_
      refine r_iaload dX6_isAhead_12 (by first | exact hc1 | exact hc2 | exact hc3 | rfl | exact hB1 | exact hB2 | exact hB3) (by exact vp_in_nI ha (by decide)) ?_
      rw [ca, ea6]
      refine r_aload_n dX6_isAhead_13 rfl rfl ?_
      refine r_getR (N := 35) dX6_isAhead_14 fwX6_64 (by first | exact hc1 | exact hc2 | exact hc3 | rfl | exact hB1 | exact hB2 | exact hB3) (Nat.le_of_ble_eq_true rfl) rfl (by first | exact hc1 | exact hc2 | exact hc3 | rfl | exact hB1 | exact hB2 | exact hB3) ?_
      refine r_iload_n dX6_isAhead_17 rfl rfl ?_
      refine r_iaload dX6_isAhead_18 (by first | exact hc1 | exact hc2 | exact hc3 | rfl | exact hB1 | exact hB2 | exact hB3) (by exact vp_in_nI hb (by decide)) ?_
      rw [cb, eb6]
      refine r_icmp_ge 26 dX6_isAhead_19 (by decide) (fun c_19 => ?_) (fun c_19 => absurd (nI_le (by omega) (by omega)) c_19)
      refine r_iconst 0 dX6_isAhead_26 (by decide) ?_
      refine r_zreturn dX6_isAhead_27 rfl (by decide) (Nat.zero_le _) (Nat.zero_le _) ?_
      exact ⟨rfl, rfl⟩
  · rw [if_neg (by decide), if_neg (by decide)]
    have hd : decide (dst l T a < dst l T b) = if (l ≤ T.2.2.1 a) = (l ≤ T.2.2.1 b) then decide (T.2.2.1 a < T.2.2.1 b) else decide (l ≤ T.2.2.1 a) := by
      unfold dst
      by_cases h1 : T.2.2.1 a < l <;> by_cases h2 : T.2.2.1 b < l
      · rw [if_pos h1, if_pos h2, if_pos (by simp only [eq_iff_iff]; omega)]
        try (rw [decide_eq_decide]; omega)
      · rw [if_pos h1, if_neg h2, if_neg (by simp only [eq_iff_iff]; omega)]
        try (rw [decide_eq_decide]; omega)
      · rw [if_neg h1, if_pos h2, if_neg (by simp only [eq_iff_iff]; omega)]
        try (rw [decide_eq_decide]; omega)
      · rw [if_neg h1, if_neg h2, if_pos (by simp only [eq_iff_iff]; omega)]
        try (rw [decide_eq_decide]; omega)
    rw [hd]
    have la : nI (T.2.2.1 a) < nI l ↔ T.2.2.1 a < l := nI_ltI (by omega) (by omega)
    have lb : nI (T.2.2.1 b) < nI l ↔ T.2.2.1 b < l := nI_ltI (by omega) (by omega)
    by_cases h1 : T.2.2.1 a < l <;> by_cases h2 : T.2.2.1 b < l
    · rw [if_pos (by simp only [eq_iff_iff]; omega)]
      by_cases hlt : T.2.2.1 a < T.2.2.1 b
      · rw [decide_eq_true hlt]
        refine r_aload_n dX6_isAhead_0 rfl rfl ?_
        refine r_getI (N := 35) dX6_isAhead_1 fwX6_207 (by first | exact hc1 | exact hc2 | exact hc3 | rfl | exact hB1 | exact hB2 | exact hB3) (Nat.le_of_ble_eq_true rfl) rfl ?_
        rw [hw]
        refine r_if_ne 28 dX6_isAhead_4 (by decide) (fun c_4 => ?_) (fun c_4 => absurd c_4 (by decide))
        refine r_aload_n dX6_isAhead_28 rfl rfl ?_
        refine r_getI (N := 35) dX6_isAhead_29 fwX6_207 (by first | exact hc1 | exact hc2 | exact hc3 | rfl | exact hB1 | exact hB2 | exact hB3) (Nat.le_of_ble_eq_true rfl) rfl ?_
        refine r_iconst 2 dX6_isAhead_32 (by decide) ?_
        rw [hw]
        refine r_icmp_ne 47 dX6_isAhead_33 (by decide) (fun c_33 => ?_) (fun c_33 => absurd c_33 (by decide))
        refine r_aload_n dX6_isAhead_47 rfl rfl ?_
        refine r_getR (N := 35) dX6_isAhead_48 fwX6_55 (by first | exact hc1 | exact hc2 | exact hc3 | rfl | exact hB1 | exact hB2 | exact hB3) (Nat.le_of_ble_eq_true rfl) rfl (by first | exact hc1 | exact hc2 | exact hc3 | rfl | exact hB1 | exact hB2 | exact hB3) ?_
        refine r_iload_n dX6_isAhead_51 rfl rfl ?_
        refine r_iaload dX6_isAhead_52 (by first | exact hc1 | exact hc2 | exact hc3 | rfl | exact hB1 | exact hB2 | exact hB3) (by exact vp_in_nI ha (by decide)) ?_
        rw [ca, ea4]
        refine r_aload_n dX6_isAhead_53 rfl rfl ?_
        refine r_getI (N := 35) dX6_isAhead_54 fwX6_210 (by first | exact hc1 | exact hc2 | exact hc3 | rfl | exact hB1 | exact hB2 | exact hB3) (Nat.le_of_ble_eq_true rfl) rfl ?_
        rw [hl]
        refine r_icmp_lt 64 dX6_isAhead_57 (by decide) (fun c_57 => ?_) (fun c_57 => absurd (la.mpr h1) c_57)
        refine r_iconst 0 dX6_isAhead_64 (by decide) ?_
        refine r_istore_n3 dX6_isAhead_65 rfl (Nat.le_of_ble_eq_true rfl) ?_
        refine r_aload_n dX6_isAhead_66 rfl rfl ?_
        refine r_getR (N := 35) dX6_isAhead_67 fwX6_55 (by first | exact hc1 | exact hc2 | exact hc3 | rfl | exact hB1 | exact hB2 | exact hB3) (Nat.le_of_ble_eq_true rfl) rfl (by first | exact hc1 | exact hc2 | exact hc3 | rfl | exact hB1 | exact hB2 | exact hB3) ?_
        refine r_iload_n dX6_isAhead_70 rfl rfl ?_
        refine r_iaload dX6_isAhead_71 (by first | exact hc1 | exact hc2 | exact hc3 | rfl | exact hB1 | exact hB2 | exact hB3) (by exact vp_in_nI hb (by decide)) ?_
        rw [cb, eb4]
        refine r_aload_n dX6_isAhead_72 rfl rfl ?_
        refine r_getI (N := 35) dX6_isAhead_73 fwX6_210 (by first | exact hc1 | exact hc2 | exact hc3 | rfl | exact hB1 | exact hB2 | exact hB3) (Nat.le_of_ble_eq_true rfl) rfl ?_
        rw [hl]
        refine r_icmp_lt 83 dX6_isAhead_76 (by decide) (fun c_76 => ?_) (fun c_76 => absurd (lb.mpr h2) c_76)
        refine r_iconst 0 dX6_isAhead_83 (by decide) ?_
        refine r_istore_4 dX6_isAhead_84 rfl (Nat.le_of_ble_eq_true rfl) ?_
        refine r_iload_n dX6_isAhead_86 rfl rfl ?_
        refine r_iload dX6_isAhead_87 rfl ?_
        refine r_icmp_eq 96 dX6_isAhead_89 (by decide) (fun c_89 => ?_) (fun c_89 => absurd rfl c_89)
        refine r_aload_n dX6_isAhead_96 rfl rfl ?_
        refine r_getR (N := 35) dX6_isAhead_97 fwX6_55 (by first | exact hc1 | exact hc2 | exact hc3 | rfl | exact hB1 | exact hB2 | exact hB3) (Nat.le_of_ble_eq_true rfl) rfl (by first | exact hc1 | exact hc2 | exact hc3 | rfl | exact hB1 | exact hB2 | exact hB3) ?_
        refine r_iload_n dX6_isAhead_100 rfl rfl ?_
        refine r_iaload dX6_isAhead_101 (by first | exact hc1 | exact hc2 | exact hc3 | rfl | exact hB1 | exact hB2 | exact hB3) (by exact vp_in_nI ha (by decide)) ?_
        rw [ca, ea4]
        refine r_aload_n dX6_isAhead_102 rfl rfl ?_
        refine r_getR (N := 35) dX6_isAhead_103 fwX6_55 (by first | exact hc1 | exact hc2 | exact hc3 | rfl | exact hB1 | exact hB2 | exact hB3) (Nat.le_of_ble_eq_true rfl) rfl (by first | exact hc1 | exact hc2 | exact hc3 | rfl | exact hB1 | exact hB2 | exact hB3) ?_
        refine r_iload_n dX6_isAhead_106 rfl rfl ?_
        refine r_iaload dX6_isAhead_107 (by first | exact hc1 | exact hc2 | exact hc3 | rfl | exact hB1 | exact hB2 | exact hB3) (by exact vp_in_nI hb (by decide)) ?_
        rw [cb, eb4]
        refine r_icmp_ge 115 dX6_isAhead_108 (by decide) (fun c_108 => absurd c_108 (nI_ge hlt (by omega))) (fun c_108 => ?_)
        refine r_iconst 1 dX6_isAhead_111 (by decide) ?_
        refine r_goto 116 dX6_isAhead_112 (by decide) ?_
        refine r_zreturn dX6_isAhead_116 rfl (by decide) (Nat.zero_le _) (Nat.zero_le _) ?_
        exact ⟨rfl, rfl⟩
      · rw [decide_eq_false hlt]
        refine r_aload_n dX6_isAhead_0 rfl rfl ?_
        refine r_getI (N := 35) dX6_isAhead_1 fwX6_207 (by first | exact hc1 | exact hc2 | exact hc3 | rfl | exact hB1 | exact hB2 | exact hB3) (Nat.le_of_ble_eq_true rfl) rfl ?_
        rw [hw]
        refine r_if_ne 28 dX6_isAhead_4 (by decide) (fun c_4 => ?_) (fun c_4 => absurd c_4 (by decide))
        refine r_aload_n dX6_isAhead_28 rfl rfl ?_
        refine r_getI (N := 35) dX6_isAhead_29 fwX6_207 (by first | exact hc1 | exact hc2 | exact hc3 | rfl | exact hB1 | exact hB2 | exact hB3) (Nat.le_of_ble_eq_true rfl) rfl ?_
        refine r_iconst 2 dX6_isAhead_32 (by decide) ?_
        rw [hw]
        refine r_icmp_ne 47 dX6_isAhead_33 (by decide) (fun c_33 => ?_) (fun c_33 => absurd c_33 (by decide))
        refine r_aload_n dX6_isAhead_47 rfl rfl ?_
        refine r_getR (N := 35) dX6_isAhead_48 fwX6_55 (by first | exact hc1 | exact hc2 | exact hc3 | rfl | exact hB1 | exact hB2 | exact hB3) (Nat.le_of_ble_eq_true rfl) rfl (by first | exact hc1 | exact hc2 | exact hc3 | rfl | exact hB1 | exact hB2 | exact hB3) ?_
        refine r_iload_n dX6_isAhead_51 rfl rfl ?_
        refine r_iaload dX6_isAhead_52 (by first | exact hc1 | exact hc2 | exact hc3 | rfl | exact hB1 | exact hB2 | exact hB3) (by exact vp_in_nI ha (by decide)) ?_
        rw [ca, ea4]
        refine r_aload_n dX6_isAhead_53 rfl rfl ?_
        refine r_getI (N := 35) dX6_isAhead_54 fwX6_210 (by first | exact hc1 | exact hc2 | exact hc3 | rfl | exact hB1 | exact hB2 | exact hB3) (Nat.le_of_ble_eq_true rfl) rfl ?_
        rw [hl]
        refine r_icmp_lt 64 dX6_isAhead_57 (by decide) (fun c_57 => ?_) (fun c_57 => absurd (la.mpr h1) c_57)
        refine r_iconst 0 dX6_isAhead_64 (by decide) ?_
        refine r_istore_n3 dX6_isAhead_65 rfl (Nat.le_of_ble_eq_true rfl) ?_
        refine r_aload_n dX6_isAhead_66 rfl rfl ?_
        refine r_getR (N := 35) dX6_isAhead_67 fwX6_55 (by first | exact hc1 | exact hc2 | exact hc3 | rfl | exact hB1 | exact hB2 | exact hB3) (Nat.le_of_ble_eq_true rfl) rfl (by first | exact hc1 | exact hc2 | exact hc3 | rfl | exact hB1 | exact hB2 | exact hB3) ?_
        refine r_iload_n dX6_isAhead_70 rfl rfl ?_
        refine r_iaload dX6_isAhead_71 (by first | exact hc1 | exact hc2 | exact hc3 | rfl | exact hB1 | exact hB2 | exact hB3) (by exact vp_in_nI hb (by decide)) ?_
        rw [cb, eb4]
        refine r_aload_n dX6_isAhead_72 rfl rfl ?_
        refine r_getI (N := 35) dX6_isAhead_73 fwX6_210 (by first | exact hc1 | exact hc2 | exact hc3 | rfl | exact hB1 | exact hB2 | exact hB3) (Nat.le_of_ble_eq_true rfl) rfl ?_
        rw [hl]
        refine r_icmp_lt 83 dX6_isAhead_76 (by decide) (fun c_76 => ?_) (fun c_76 => absurd (lb.mpr h2) c_76)
        refine r_iconst 0 dX6_isAhead_83 (by decide) ?_
        refine r_istore_4 dX6_isAhead_84 rfl (Nat.le_of_ble_eq_true rfl) ?_
        refine r_iload_n dX6_isAhead_86 rfl rfl ?_
        refine r_iload dX6_isAhead_87 rfl ?_
        refine r_icmp_eq 96 dX6_isAhead_89 (by decide) (fun c_89 => ?_) (fun c_89 => absurd rfl c_89)
        refine r_aload_n dX6_isAhead_96 rfl rfl ?_
        refine r_getR (N := 35) dX6_isAhead_97 fwX6_55 (by first | exact hc1 | exact hc2 | exact hc3 | rfl | exact hB1 | exact hB2 | exact hB3) (Nat.le_of_ble_eq_true rfl) rfl (by first | exact hc1 | exact hc2 | exact hc3 | rfl | exact hB1 | exact hB2 | exact hB3) ?_
        refine r_iload_n dX6_isAhead_100 rfl rfl ?_
        refine r_iaload dX6_isAhead_101 (by first | exact hc1 | exact hc2 | exact hc3 | rfl | exact hB1 | exact hB2 | exact hB3) (by exact vp_in_nI ha (by decide)) ?_
        rw [ca, ea4]
        refine r_aload_n dX6_isAhead_102 rfl rfl ?_
        refine r_getR (N := 35) dX6_isAhead_103 fwX6_55 (by first | exact hc1 | exact hc2 | exact hc3 | rfl | exact hB1 | exact hB2 | exact hB3) (Nat.le_of_ble_eq_true rfl) rfl (by first | exact hc1 | exact hc2 | exact hc3 | rfl | exact hB1 | exact hB2 | exact hB3) ?_
        refine r_iload_n dX6_isAhead_106 rfl rfl ?_
        refine r_iaload dX6_isAhead_107 (by first | exact hc1 | exact hc2 | exact hc3 | rfl | exact hB1 | exact hB2 | exact hB3) (by exact vp_in_nI hb (by decide)) ?_
        rw [cb, eb4]
        refine r_icmp_ge 115 dX6_isAhead_108 (by decide) (fun c_108 => ?_) (fun c_108 => absurd (nI_le (by omega) (by omega)) c_108)
        refine r_iconst 0 dX6_isAhead_115 (by decide) ?_
        refine r_zreturn dX6_isAhead_116 rfl (by decide) (Nat.zero_le _) (Nat.zero_le _) ?_
        exact ⟨rfl, rfl⟩
    · rw [if_neg (by simp only [eq_iff_iff]; omega), decide_eq_false (show ¬ l ≤ T.2.2.1 a by omega)]
      refine r_aload_n dX6_isAhead_0 rfl rfl ?_
      refine r_getI (N := 35) dX6_isAhead_1 fwX6_207 (by first | exact hc1 | exact hc2 | exact hc3 | rfl | exact hB1 | exact hB2 | exact hB3) (Nat.le_of_ble_eq_true rfl) rfl ?_
      rw [hw]
      refine r_if_ne 28 dX6_isAhead_4 (by decide) (fun c_4 => ?_) (fun c_4 => absurd c_4 (by decide))
      refine r_aload_n dX6_isAhead_28 rfl rfl ?_
      refine r_getI (N := 35) dX6_isAhead_29 fwX6_207 (by first | exact hc1 | exact hc2 | exact hc3 | rfl | exact hB1 | exact hB2 | exact hB3) (Nat.le_of_ble_eq_true rfl) rfl ?_
      refine r_iconst 2 dX6_isAhead_32 (by decide) ?_
      rw [hw]
      refine r_icmp_ne 47 dX6_isAhead_33 (by decide) (fun c_33 => ?_) (fun c_33 => absurd c_33 (by decide))
      refine r_aload_n dX6_isAhead_47 rfl rfl ?_
      refine r_getR (N := 35) dX6_isAhead_48 fwX6_55 (by first | exact hc1 | exact hc2 | exact hc3 | rfl | exact hB1 | exact hB2 | exact hB3) (Nat.le_of_ble_eq_true rfl) rfl (by first | exact hc1 | exact hc2 | exact hc3 | rfl | exact hB1 | exact hB2 | exact hB3) ?_
      refine r_iload_n dX6_isAhead_51 rfl rfl ?_
      refine r_iaload dX6_isAhead_52 (by first | exact hc1 | exact hc2 | exact hc3 | rfl | exact hB1 | exact hB2 | exact hB3) (by exact vp_in_nI ha (by decide)) ?_
      rw [ca, ea4]
      refine r_aload_n dX6_isAhead_53 rfl rfl ?_
      refine r_getI (N := 35) dX6_isAhead_54 fwX6_210 (by first | exact hc1 | exact hc2 | exact hc3 | rfl | exact hB1 | exact hB2 | exact hB3) (Nat.le_of_ble_eq_true rfl) rfl ?_
      rw [hl]
      refine r_icmp_lt 64 dX6_isAhead_57 (by decide) (fun c_57 => ?_) (fun c_57 => absurd (la.mpr h1) c_57)
      refine r_iconst 0 dX6_isAhead_64 (by decide) ?_
      refine r_istore_n3 dX6_isAhead_65 rfl (Nat.le_of_ble_eq_true rfl) ?_
      refine r_aload_n dX6_isAhead_66 rfl rfl ?_
      refine r_getR (N := 35) dX6_isAhead_67 fwX6_55 (by first | exact hc1 | exact hc2 | exact hc3 | rfl | exact hB1 | exact hB2 | exact hB3) (Nat.le_of_ble_eq_true rfl) rfl (by first | exact hc1 | exact hc2 | exact hc3 | rfl | exact hB1 | exact hB2 | exact hB3) ?_
      refine r_iload_n dX6_isAhead_70 rfl rfl ?_
      refine r_iaload dX6_isAhead_71 (by first | exact hc1 | exact hc2 | exact hc3 | rfl | exact hB1 | exact hB2 | exact hB3) (by exact vp_in_nI hb (by decide)) ?_
      rw [cb, eb4]
      refine r_aload_n dX6_isAhead_72 rfl rfl ?_
      refine r_getI (N := 35) dX6_isAhead_73 fwX6_210 (by first | exact hc1 | exact hc2 | exact hc3 | rfl | exact hB1 | exact hB2 | exact hB3) (Nat.le_of_ble_eq_true rfl) rfl ?_
      rw [hl]
      refine r_icmp_lt 83 dX6_isAhead_76 (by decide) (fun c_76 => absurd (lb.mp c_76) h2) (fun c_76 => ?_)
      refine r_iconst 1 dX6_isAhead_79 (by decide) ?_
      refine r_goto 84 dX6_isAhead_80 (by decide) ?_
      refine r_istore_4 dX6_isAhead_84 rfl (Nat.le_of_ble_eq_true rfl) ?_
      refine r_iload_n dX6_isAhead_86 rfl rfl ?_
      refine r_iload dX6_isAhead_87 rfl ?_
      refine r_icmp_eq 96 dX6_isAhead_89 (by decide) (fun c_89 => absurd c_89 (by decide)) (fun c_89 => ?_)
      refine r_iload_n dX6_isAhead_92 rfl rfl ?_
      refine r_goto 116 dX6_isAhead_93 (by decide) ?_
      refine r_zreturn dX6_isAhead_116 rfl (by decide) (Nat.zero_le _) (Nat.zero_le _) ?_
      exact ⟨rfl, rfl⟩
    · rw [if_neg (by simp only [eq_iff_iff]; omega), decide_eq_true (show l ≤ T.2.2.1 a by omega)]
      refine r_aload_n dX6_isAhead_0 rfl rfl ?_
      refine r_getI (N := 35) dX6_isAhead_1 fwX6_207 (by first | exact hc1 | exact hc2 | exact hc3 | rfl | exact hB1 | exact hB2 | exact hB3) (Nat.le_of_ble_eq_true rfl) rfl ?_
      rw [hw]
      refine r_if_ne 28 dX6_isAhead_4 (by decide) (fun c_4 => ?_) (fun c_4 => absurd c_4 (by decide))
      refine r_aload_n dX6_isAhead_28 rfl rfl ?_
      refine r_getI (N := 35) dX6_isAhead_29 fwX6_207 (by first | exact hc1 | exact hc2 | exact hc3 | rfl | exact hB1 | exact hB2 | exact hB3) (Nat.le_of_ble_eq_true rfl) rfl ?_
      refine r_iconst 2 dX6_isAhead_32 (by decide) ?_
      rw [hw]
      refine r_icmp_ne 47 dX6_isAhead_33 (by decide) (fun c_33 => ?_) (fun c_33 => absurd c_33 (by decide))
      refine r_aload_n dX6_isAhead_47 rfl rfl ?_
      refine r_getR (N := 35) dX6_isAhead_48 fwX6_55 (by first | exact hc1 | exact hc2 | exact hc3 | rfl | exact hB1 | exact hB2 | exact hB3) (Nat.le_of_ble_eq_true rfl) rfl (by first | exact hc1 | exact hc2 | exact hc3 | rfl | exact hB1 | exact hB2 | exact hB3) ?_
      refine r_iload_n dX6_isAhead_51 rfl rfl ?_
      refine r_iaload dX6_isAhead_52 (by first | exact hc1 | exact hc2 | exact hc3 | rfl | exact hB1 | exact hB2 | exact hB3) (by exact vp_in_nI ha (by decide)) ?_
      rw [ca, ea4]
      refine r_aload_n dX6_isAhead_53 rfl rfl ?_
      refine r_getI (N := 35) dX6_isAhead_54 fwX6_210 (by first | exact hc1 | exact hc2 | exact hc3 | rfl | exact hB1 | exact hB2 | exact hB3) (Nat.le_of_ble_eq_true rfl) rfl ?_
      rw [hl]
      refine r_icmp_lt 64 dX6_isAhead_57 (by decide) (fun c_57 => absurd (la.mp c_57) h1) (fun c_57 => ?_)
      refine r_iconst 1 dX6_isAhead_60 (by decide) ?_
      refine r_goto 65 dX6_isAhead_61 (by decide) ?_
      refine r_istore_n3 dX6_isAhead_65 rfl (Nat.le_of_ble_eq_true rfl) ?_
      refine r_aload_n dX6_isAhead_66 rfl rfl ?_
      refine r_getR (N := 35) dX6_isAhead_67 fwX6_55 (by first | exact hc1 | exact hc2 | exact hc3 | rfl | exact hB1 | exact hB2 | exact hB3) (Nat.le_of_ble_eq_true rfl) rfl (by first | exact hc1 | exact hc2 | exact hc3 | rfl | exact hB1 | exact hB2 | exact hB3) ?_
      refine r_iload_n dX6_isAhead_70 rfl rfl ?_
      refine r_iaload dX6_isAhead_71 (by first | exact hc1 | exact hc2 | exact hc3 | rfl | exact hB1 | exact hB2 | exact hB3) (by exact vp_in_nI hb (by decide)) ?_
      rw [cb, eb4]
      refine r_aload_n dX6_isAhead_72 rfl rfl ?_
      refine r_getI (N := 35) dX6_isAhead_73 fwX6_210 (by first | exact hc1 | exact hc2 | exact hc3 | rfl | exact hB1 | exact hB2 | exact hB3) (Nat.le_of_ble_eq_true rfl) rfl ?_
      rw [hl]
      refine r_icmp_lt 83 dX6_isAhead_76 (by decide) (fun c_76 => ?_) (fun c_76 => absurd (lb.mpr h2) c_76)
      refine r_iconst 0 dX6_isAhead_83 (by decide) ?_
      refine r_istore_4 dX6_isAhead_84 rfl (Nat.le_of_ble_eq_true rfl) ?_
      refine r_iload_n dX6_isAhead_86 rfl rfl ?_
      refine r_iload dX6_isAhead_87 rfl ?_
      refine r_icmp_eq 96 dX6_isAhead_89 (by decide) (fun c_89 => absurd c_89 (by decide)) (fun c_89 => ?_)
      refine r_iload_n dX6_isAhead_92 rfl rfl ?_
      refine r_goto 116 dX6_isAhead_93 (by decide) ?_
      refine r_zreturn dX6_isAhead_116 rfl (by decide) (Nat.zero_le _) (Nat.zero_le _) ?_
      exact ⟨rfl, rfl⟩
    · rw [if_pos (by simp only [eq_iff_iff]; omega)]
      by_cases hlt : T.2.2.1 a < T.2.2.1 b
      · rw [decide_eq_true hlt]
        refine r_aload_n dX6_isAhead_0 rfl rfl ?_
        refine r_getI (N := 35) dX6_isAhead_1 fwX6_207 (by first | exact hc1 | exact hc2 | exact hc3 | rfl | exact hB1 | exact hB2 | exact hB3) (Nat.le_of_ble_eq_true rfl) rfl ?_
        rw [hw]
        refine r_if_ne 28 dX6_isAhead_4 (by decide) (fun c_4 => ?_) (fun c_4 => absurd c_4 (by decide))
        refine r_aload_n dX6_isAhead_28 rfl rfl ?_
        refine r_getI (N := 35) dX6_isAhead_29 fwX6_207 (by first | exact hc1 | exact hc2 | exact hc3 | rfl | exact hB1 | exact hB2 | exact hB3) (Nat.le_of_ble_eq_true rfl) rfl ?_
        refine r_iconst 2 dX6_isAhead_32 (by decide) ?_
        rw [hw]
        refine r_icmp_ne 47 dX6_isAhead_33 (by decide) (fun c_33 => ?_) (fun c_33 => absurd c_33 (by decide))
        refine r_aload_n dX6_isAhead_47 rfl rfl ?_
        refine r_getR (N := 35) dX6_isAhead_48 fwX6_55 (by first | exact hc1 | exact hc2 | exact hc3 | rfl | exact hB1 | exact hB2 | exact hB3) (Nat.le_of_ble_eq_true rfl) rfl (by first | exact hc1 | exact hc2 | exact hc3 | rfl | exact hB1 | exact hB2 | exact hB3) ?_
        refine r_iload_n dX6_isAhead_51 rfl rfl ?_
        refine r_iaload dX6_isAhead_52 (by first | exact hc1 | exact hc2 | exact hc3 | rfl | exact hB1 | exact hB2 | exact hB3) (by exact vp_in_nI ha (by decide)) ?_
        rw [ca, ea4]
        refine r_aload_n dX6_isAhead_53 rfl rfl ?_
        refine r_getI (N := 35) dX6_isAhead_54 fwX6_210 (by first | exact hc1 | exact hc2 | exact hc3 | rfl | exact hB1 | exact hB2 | exact hB3) (Nat.le_of_ble_eq_true rfl) rfl ?_
        rw [hl]
        refine r_icmp_lt 64 dX6_isAhead_57 (by decide) (fun c_57 => absurd (la.mp c_57) h1) (fun c_57 => ?_)
        refine r_iconst 1 dX6_isAhead_60 (by decide) ?_
        refine r_goto 65 dX6_isAhead_61 (by decide) ?_
        refine r_istore_n3 dX6_isAhead_65 rfl (Nat.le_of_ble_eq_true rfl) ?_
        refine r_aload_n dX6_isAhead_66 rfl rfl ?_
        refine r_getR (N := 35) dX6_isAhead_67 fwX6_55 (by first | exact hc1 | exact hc2 | exact hc3 | rfl | exact hB1 | exact hB2 | exact hB3) (Nat.le_of_ble_eq_true rfl) rfl (by first | exact hc1 | exact hc2 | exact hc3 | rfl | exact hB1 | exact hB2 | exact hB3) ?_
        refine r_iload_n dX6_isAhead_70 rfl rfl ?_
        refine r_iaload dX6_isAhead_71 (by first | exact hc1 | exact hc2 | exact hc3 | rfl | exact hB1 | exact hB2 | exact hB3) (by exact vp_in_nI hb (by decide)) ?_
        rw [cb, eb4]
        refine r_aload_n dX6_isAhead_72 rfl rfl ?_
        refine r_getI (N := 35) dX6_isAhead_73 fwX6_210 (by first | exact hc1 | exact hc2 | exact hc3 | rfl | exact hB1 | exact hB2 | exact hB3) (Nat.le_of_ble_eq_true rfl) rfl ?_
        rw [hl]
        refine r_icmp_lt 83 dX6_isAhead_76 (by decide) (fun c_76 => absurd (lb.mp c_76) h2) (fun c_76 => ?_)
        refine r_iconst 1 dX6_isAhead_79 (by decide) ?_
        refine r_goto 84 dX6_isAhead_80 (by decide) ?_
        refine r_istore_4 dX6_isAhead_84 rfl (Nat.le_of_ble_eq_true rfl) ?_
        refine r_iload_n dX6_isAhead_86 rfl rfl ?_
        refine r_iload dX6_isAhead_87 rfl ?_
        refine r_icmp_eq 96 dX6_isAhead_89 (by decide) (fun c_89 => ?_) (fun c_89 => absurd rfl c_89)
        refine r_aload_n dX6_isAhead_96 rfl rfl ?_
        refine r_getR (N := 35) dX6_isAhead_97 fwX6_55 (by first | exact hc1 | exact hc2 | exact hc3 | rfl | exact hB1 | exact hB2 | exact hB3) (Nat.le_of_ble_eq_true rfl) rfl (by first | exact hc1 | exact hc2 | exact hc3 | rfl | exact hB1 | exact hB2 | exact hB3) ?_
        refine r_iload_n dX6_isAhead_100 rfl rfl ?_
        refine r_iaload dX6_isAhead_101 (by first | exact hc1 | exact hc2 | exact hc3 | rfl | exact hB1 | exact hB2 | exact hB3) (by exact vp_in_nI ha (by decide)) ?_
        rw [ca, ea4]
        refine r_aload_n dX6_isAhead_102 rfl rfl ?_
        refine r_getR (N := 35) dX6_isAhead_103 fwX6_55 (by first | exact hc1 | exact hc2 | exact hc3 | rfl | exact hB1 | exact hB2 | exact hB3) (Nat.le_of_ble_eq_true rfl) rfl (by first | exact hc1 | exact hc2 | exact hc3 | rfl | exact hB1 | exact hB2 | exact hB3) ?_
        refine r_iload_n dX6_isAhead_106 rfl rfl ?_
        refine r_iaload dX6_isAhead_107 (by first | exact hc1 | exact hc2 | exact hc3 | rfl | exact hB1 | exact hB2 | exact hB3) (by exact vp_in_nI hb (by decide)) ?_
        rw [cb, eb4]
        refine r_icmp_ge 115 dX6_isAhead_108 (by decide) (fun c_108 => absurd c_108 (nI_ge hlt (by omega))) (fun c_108 => ?_)
        refine r_iconst 1 dX6_isAhead_111 (by decide) ?_
        refine r_goto 116 dX6_isAhead_112 (by decide) ?_
        refine r_zreturn dX6_isAhead_116 rfl (by decide) (Nat.zero_le _) (Nat.zero_le _) ?_
        exact ⟨rfl, rfl⟩
      · rw [decide_eq_false hlt]
        refine r_aload_n dX6_isAhead_0 rfl rfl ?_
        refine r_getI (N := 35) dX6_isAhead_1 fwX6_207 (by first | exact hc1 | exact hc2 | exact hc3 | rfl | exact hB1 | exact hB2 | exact hB3) (Nat.le_of_ble_eq_true rfl) rfl ?_
        rw [hw]
        refine r_if_ne 28 dX6_isAhead_4 (by decide) (fun c_4 => ?_) (fun c_4 => absurd c_4 (by decide))
        refine r_aload_n dX6_isAhead_28 rfl rfl ?_
        refine r_getI (N := 35) dX6_isAhead_29 fwX6_207 (by first | exact hc1 | exact hc2 | exact hc3 | rfl | exact hB1 | exact hB2 | exact hB3) (Nat.le_of_ble_eq_true rfl) rfl ?_
        refine r_iconst 2 dX6_isAhead_32 (by decide) ?_
        rw [hw]
        refine r_icmp_ne 47 dX6_isAhead_33 (by decide) (fun c_33 => ?_) (fun c_33 => absurd c_33 (by decide))
        refine r_aload_n dX6_isAhead_47 rfl rfl ?_
        refine r_getR (N := 35) dX6_isAhead_48 fwX6_55 (by first | exact hc1 | exact hc2 | exact hc3 | rfl | exact hB1 | exact hB2 | exact hB3) (Nat.le_of_ble_eq_true rfl) rfl (by first | exact hc1 | exact hc2 | exact hc3 | rfl | exact hB1 | exact hB2 | exact hB3) ?_
        refine r_iload_n dX6_isAhead_51 rfl rfl ?_
        refine r_iaload dX6_isAhead_52 (by first | exact hc1 | exact hc2 | exact hc3 | rfl | exact hB1 | exact hB2 | exact hB3) (by exact vp_in_nI ha (by decide)) ?_
        rw [ca, ea4]
        refine r_aload_n dX6_isAhead_53 rfl rfl ?_
        refine r_getI (N := 35) dX6_isAhead_54 fwX6_210 (by first | exact hc1 | exact hc2 | exact hc3 | rfl | exact hB1 | exact hB2 | exact hB3) (Nat.le_of_ble_eq_true rfl) rfl ?_
        rw [hl]
        refine r_icmp_lt 64 dX6_isAhead_57 (by decide) (fun c_57 => absurd (la.mp c_57) h1) (fun c_57 => ?_)
        refine r_iconst 1 dX6_isAhead_60 (by decide) ?_
        refine r_goto 65 dX6_isAhead_61 (by decide) ?_
        refine r_istore_n3 dX6_isAhead_65 rfl (Nat.le_of_ble_eq_true rfl) ?_
        refine r_aload_n dX6_isAhead_66 rfl rfl ?_
        refine r_getR (N := 35) dX6_isAhead_67 fwX6_55 (by first | exact hc1 | exact hc2 | exact hc3 | rfl | exact hB1 | exact hB2 | exact hB3) (Nat.le_of_ble_eq_true rfl) rfl (by first | exact hc1 | exact hc2 | exact hc3 | rfl | exact hB1 | exact hB2 | exact hB3) ?_
        refine r_iload_n dX6_isAhead_70 rfl rfl ?_
        refine r_iaload dX6_isAhead_71 (by first | exact hc1 | exact hc2 | exact hc3 | rfl | exact hB1 | exact hB2 | exact hB3) (by exact vp_in_nI hb (by decide)) ?_
        rw [cb, eb4]
        refine r_aload_n dX6_isAhead_72 rfl rfl ?_
        refine r_getI (N := 35) dX6_isAhead_73 fwX6_210 (by first | exact hc1 | exact hc2 | exact hc3 | rfl | exact hB1 | exact hB2 | exact hB3) (Nat.le_of_ble_eq_true rfl) rfl ?_
        rw [hl]
        refine r_icmp_lt 83 dX6_isAhead_76 (by decide) (fun c_76 => absurd (lb.mp c_76) h2) (fun c_76 => ?_)
        refine r_iconst 1 dX6_isAhead_79 (by decide) ?_
        refine r_goto 84 dX6_isAhead_80 (by decide) ?_
        refine r_istore_4 dX6_isAhead_84 rfl (Nat.le_of_ble_eq_true rfl) ?_
        refine r_iload_n dX6_isAhead_86 rfl rfl ?_
        refine r_iload dX6_isAhead_87 rfl ?_
        refine r_icmp_eq 96 dX6_isAhead_89 (by decide) (fun c_89 => ?_) (fun c_89 => absurd rfl c_89)
        refine r_aload_n dX6_isAhead_96 rfl rfl ?_
        refine r_getR (N := 35) dX6_isAhead_97 fwX6_55 (by first | exact hc1 | exact hc2 | exact hc3 | rfl | exact hB1 | exact hB2 | exact hB3) (Nat.le_of_ble_eq_true rfl) rfl (by first | exact hc1 | exact hc2 | exact hc3 | rfl | exact hB1 | exact hB2 | exact hB3) ?_
        refine r_iload_n dX6_isAhead_100 rfl rfl ?_
        refine r_iaload dX6_isAhead_101 (by first | exact hc1 | exact hc2 | exact hc3 | rfl | exact hB1 | exact hB2 | exact hB3) (by exact vp_in_nI ha (by decide)) ?_
        rw [ca, ea4]
        refine r_aload_n dX6_isAhead_102 rfl rfl ?_
        refine r_getR (N := 35) dX6_isAhead_103 fwX6_55 (by first | exact hc1 | exact hc2 | exact hc3 | rfl | exact hB1 | exact hB2 | exact hB3) (Nat.le_of_ble_eq_true rfl) rfl (by first | exact hc1 | exact hc2 | exact hc3 | rfl | exact hB1 | exact hB2 | exact hB3) ?_
        refine r_iload_n dX6_isAhead_106 rfl rfl ?_
        refine r_iaload dX6_isAhead_107 (by first | exact hc1 | exact hc2 | exact hc3 | rfl | exact hB1 | exact hB2 | exact hB3) (by exact vp_in_nI hb (by decide)) ?_
        rw [cb, eb4]
        refine r_icmp_ge 115 dX6_isAhead_108 (by decide) (fun c_108 => ?_) (fun c_108 => absurd (nI_le (by omega) (by omega)) c_108)
        refine r_iconst 0 dX6_isAhead_115 (by decide) ?_
        refine r_zreturn dX6_isAhead_116 rfl (by decide) (Nat.zero_le _) (Nat.zero_le _) ?_
        exact ⟨rfl, rfl⟩
  · rw [if_neg (by decide), if_pos rfl]
    by_cases hlt : b < a
    · rw [decide_eq_true hlt]
      refine r_aload_n dX6_isAhead_0 rfl rfl ?_
      refine r_getI (N := 35) dX6_isAhead_1 fwX6_207 (by first | exact hc1 | exact hc2 | exact hc3 | rfl | exact hB1 | exact hB2 | exact hB3) (Nat.le_of_ble_eq_true rfl) rfl ?_
      rw [hw]
      refine r_if_ne 28 dX6_isAhead_4 (by decide) (fun c_4 => ?_) (fun c_4 => absurd c_4 (by decide))
      refine r_aload_n dX6_isAhead_28 rfl rfl ?_
      refine r_getI (N := 35) dX6_isAhead_29 fwX6_207 (by first | exact hc1 | exact hc2 | exact hc3 | rfl | exact hB1 | exact hB2 | exact hB3) (Nat.le_of_ble_eq_true rfl) rfl ?_
      refine r_iconst 2 dX6_isAhead_32 (by decide) ?_
      rw [hw]
      refine r_icmp_ne 47 dX6_isAhead_33 (by decide) (fun c_33 => absurd rfl c_33) (fun c_33 => ?_)
      refine r_iload_n dX6_isAhead_36 rfl rfl ?_
      refine r_iload_n dX6_isAhead_37 rfl rfl ?_
      refine r_icmp_le 45 dX6_isAhead_38 (by decide) (fun c_38 => absurd c_38 (nI_ge hlt (by omega))) (fun c_38 => ?_)
      refine r_iconst 1 dX6_isAhead_41 (by decide) ?_
      refine r_goto 46 dX6_isAhead_42 (by decide) ?_
      refine r_zreturn dX6_isAhead_46 rfl (by decide) (Nat.zero_le _) (Nat.zero_le _) ?_
      exact ⟨rfl, rfl⟩
    · rw [decide_eq_false hlt]
      refine r_aload_n dX6_isAhead_0 rfl rfl ?_
      refine r_getI (N := 35) dX6_isAhead_1 fwX6_207 (by first | exact hc1 | exact hc2 | exact hc3 | rfl | exact hB1 | exact hB2 | exact hB3) (Nat.le_of_ble_eq_true rfl) rfl ?_
      rw [hw]
      refine r_if_ne 28 dX6_isAhead_4 (by decide) (fun c_4 => ?_) (fun c_4 => absurd c_4 (by decide))
      refine r_aload_n dX6_isAhead_28 rfl rfl ?_
      refine r_getI (N := 35) dX6_isAhead_29 fwX6_207 (by first | exact hc1 | exact hc2 | exact hc3 | rfl | exact hB1 | exact hB2 | exact hB3) (Nat.le_of_ble_eq_true rfl) rfl ?_
      refine r_iconst 2 dX6_isAhead_32 (by decide) ?_
      rw [hw]
      refine r_icmp_ne 47 dX6_isAhead_33 (by decide) (fun c_33 => absurd rfl c_33) (fun c_33 => ?_)
      refine r_iload_n dX6_isAhead_36 rfl rfl ?_
      refine r_iload_n dX6_isAhead_37 rfl rfl ?_
      refine r_icmp_le 45 dX6_isAhead_38 (by decide) (fun c_38 => ?_) (fun c_38 => absurd (nI_le (by omega) (by omega)) c_38)
      refine r_iconst 0 dX6_isAhead_45 (by decide) ?_
      refine r_zreturn dX6_isAhead_46 rfl (by decide) (Nat.zero_le _) (Nat.zero_le _) ?_
      exact ⟨rfl, rfl⟩
set_option maxHeartbeats 600000 in
set_option maxRecDepth 100000 in
theorem m_next_lp {M : Mem} {T : TSt} {w l : Nat} (h : TM M T) (ok : okT T) (hw : M 40 29 = nI w) (hw2 : w ≤ 2) (hl : M 40 30 = nI l) (hl2 : l < 100000) : ∀ (e t : Nat), t + e = 8 → WP mX6_next 4 [some (.ref 40), some (.int (oI (nxf w l T t))), some (.int (nI t))] [] 0 0 (shp, rfs, M) (fun r1 h1 => r1 = some (.int (oI (nxf w l T 8))) ∧ h1 = (shp, rfs, M)) := by
  intro e
  induction e with
  | zero =>
    intro t ht
    have ht : t = 8 := by omega
    subst ht
    refine r_iload_n dX6_next_4 rfl rfl ?_
    refine r_bipush 8 dX6_next_5 (by decide) ?_
    refine r_icmp_ge 42 dX6_next_7 (by decide) (fun c_7 => ?_) (fun c_7 => absurd (by decide) c_7)
    refine r_iload_n dX6_next_42 rfl rfl ?_
    refine r_ireturn dX6_next_43 rfl (Nat.zero_le _) (Nat.zero_le _) ?_
    exact ⟨rfl, rfl⟩
  | succ e ih =>
    intro t ht
    have hcl : (nI t).toNatClampNeg = t := nI_clamp (by omega)
    obtain ⟨e2, -⟩ := h t (by omega)
    obtain ⟨o1, -⟩ := ok t (by omega)
    have i1 := ih (t + 1) (by omega)
    simp only [nxf] at i1
    cases hq : nxf w l T t with
    | none =>
      rw [hq] at i1
      dsimp only at i1
      simp only [oI]
      by_cases hs : T.1 t = 1
      · rw [if_pos hs] at i1
        rw [hs] at e2
        refine r_iload_n dX6_next_4 rfl rfl ?_
        refine r_bipush 8 dX6_next_5 (by decide) ?_
        refine r_icmp_ge 42 dX6_next_7 (by decide) (fun c_7 => absurd c_7 (nI_ge (a := t) (b := 8) (by omega) (by decide))) (fun c_7 => ?_)
        refine r_aload_n dX6_next_10 rfl rfl ?_
        refine r_getR (N := 35) dX6_next_11 fwX6_49 (by first | exact hc1 | exact hc2 | exact hc3 | rfl | exact hB1 | exact hB2 | exact hB3) (Nat.le_of_ble_eq_true rfl) rfl (by first | exact hc1 | exact hc2 | exact hc3 | rfl | exact hB1 | exact hB2 | exact hB3) ?_
        refine r_iload_n dX6_next_14 rfl rfl ?_
        refine r_iaload dX6_next_15 (by first | exact hc1 | exact hc2 | exact hc3 | rfl | exact hB1 | exact hB2 | exact hB3) (by exact vp_in_nI (by omega) (by decide)) ?_
        rw [hcl, e2]
        refine r_iconst 1 dX6_next_16 (by decide) ?_
        refine r_icmp_ne 36 dX6_next_17 (by decide) (fun c_17 => absurd rfl c_17) (fun c_17 => ?_)
        refine r_iload_n dX6_next_20 rfl rfl ?_
        refine r_iconst (-1) dX6_next_21 (by decide) ?_
        refine r_icmp_eq 34 dX6_next_22 (by decide) (fun c_22 => ?_) (fun c_22 => absurd rfl c_22)
        refine r_iload_n dX6_next_34 rfl rfl ?_
        refine r_istore_n1 dX6_next_35 rfl (Nat.le_of_ble_eq_true rfl) ?_
        refine r_iinc_2 (_ + 1) dX6_next_36 rfl (Nat.le_of_ble_eq_true rfl) rfl ?_
        refine r_goto 4 dX6_next_39 (by decide) ?_
        rw [nI_1]
        exact i1
      · rw [if_neg hs] at i1
        refine r_iload_n dX6_next_4 rfl rfl ?_
        refine r_bipush 8 dX6_next_5 (by decide) ?_
        refine r_icmp_ge 42 dX6_next_7 (by decide) (fun c_7 => absurd c_7 (nI_ge (a := t) (b := 8) (by omega) (by decide))) (fun c_7 => ?_)
        refine r_aload_n dX6_next_10 rfl rfl ?_
        refine r_getR (N := 35) dX6_next_11 fwX6_49 (by first | exact hc1 | exact hc2 | exact hc3 | rfl | exact hB1 | exact hB2 | exact hB3) (Nat.le_of_ble_eq_true rfl) rfl (by first | exact hc1 | exact hc2 | exact hc3 | rfl | exact hB1 | exact hB2 | exact hB3) ?_
        refine r_iload_n dX6_next_14 rfl rfl ?_
        refine r_iaload dX6_next_15 (by first | exact hc1 | exact hc2 | exact hc3 | rfl | exact hB1 | exact hB2 | exact hB3) (by exact vp_in_nI (by omega) (by decide)) ?_
        rw [hcl, e2]
        refine r_iconst 1 dX6_next_16 (by decide) ?_
        refine r_icmp_ne 36 dX6_next_17 (by decide) (fun c_17 => ?_) (fun c_17 => absurd ((nI_eq (a := T.1 t) (b := 1) (by omega) (by decide)).mp c_17) hs)
        refine r_iinc_2 (_ + 1) dX6_next_36 rfl (Nat.le_of_ble_eq_true rfl) rfl ?_
        refine r_goto 4 dX6_next_39 (by decide) ?_
        rw [nI_1]
        exact i1
    | some b =>
      rw [hq] at i1
      dsimp only at i1
      simp only [oI]
      have hb := (nxf_some t b hq).1
      have gg := m_ahead (a := t) (b := b) (by omega) (by omega) h ok hw hw2 hl hl2
      by_cases hs : T.1 t = 1
      · rw [if_pos hs] at i1
        rw [hs] at e2
        clear hq
        cases ha : ahd w l T t b with
        | true =>
          rw [ha] at gg i1
          rw [if_pos rfl] at i1
          refine r_iload_n dX6_next_4 rfl rfl ?_
          refine r_bipush 8 dX6_next_5 (by decide) ?_
          refine r_icmp_ge 42 dX6_next_7 (by decide) (fun c_7 => absurd c_7 (nI_ge (a := t) (b := 8) (by omega) (by decide))) (fun c_7 => ?_)
          refine r_aload_n dX6_next_10 rfl rfl ?_
          refine r_getR (N := 35) dX6_next_11 fwX6_49 (by first | exact hc1 | exact hc2 | exact hc3 | rfl | exact hB1 | exact hB2 | exact hB3) (Nat.le_of_ble_eq_true rfl) rfl (by first | exact hc1 | exact hc2 | exact hc3 | rfl | exact hB1 | exact hB2 | exact hB3) ?_
          refine r_iload_n dX6_next_14 rfl rfl ?_
          refine r_iaload dX6_next_15 (by first | exact hc1 | exact hc2 | exact hc3 | rfl | exact hB1 | exact hB2 | exact hB3) (by exact vp_in_nI (by omega) (by decide)) ?_
          rw [hcl, e2]
          refine r_iconst 1 dX6_next_16 (by decide) ?_
          refine r_icmp_ne 36 dX6_next_17 (by decide) (fun c_17 => absurd rfl c_17) (fun c_17 => ?_)
          refine r_iload_n dX6_next_20 rfl rfl ?_
          refine r_iconst (-1) dX6_next_21 (by decide) ?_
          refine r_icmp_eq 34 dX6_next_22 (by decide) (fun c_22 => absurd c_22 (nI_ne_m1 (by omega))) (fun c_22 => ?_)
          refine r_aload_n dX6_next_25 rfl rfl ?_
          refine r_iload_n dX6_next_26 rfl rfl ?_
          refine r_iload_n dX6_next_27 rfl rfl ?_
          refine gV2 (Y := mX6_isAhead) (ci := 6) (N := 35) dX6_next_28 mlX6_213 vkX6_isAhead (by first | exact hc1 | exact hc2 | exact hc3 | rfl | exact hB1 | exact hB2 | exact hB3) ⟨by decide, rfl⟩ rfl gg ?_
          refine r_if_eq 36 dX6_next_31 (by decide) (fun c_31 => absurd c_31 (by decide)) (fun c_31 => ?_)
          refine r_iload_n dX6_next_34 rfl rfl ?_
          refine r_istore_n1 dX6_next_35 rfl (Nat.le_of_ble_eq_true rfl) ?_
          refine r_iinc_2 (_ + 1) dX6_next_36 rfl (Nat.le_of_ble_eq_true rfl) rfl ?_
          refine r_goto 4 dX6_next_39 (by decide) ?_
          rw [nI_1]
          exact i1
        | false =>
          rw [ha] at gg i1
          rw [if_neg (by decide)] at i1
          refine r_iload_n dX6_next_4 rfl rfl ?_
          refine r_bipush 8 dX6_next_5 (by decide) ?_
          refine r_icmp_ge 42 dX6_next_7 (by decide) (fun c_7 => absurd c_7 (nI_ge (a := t) (b := 8) (by omega) (by decide))) (fun c_7 => ?_)
          refine r_aload_n dX6_next_10 rfl rfl ?_
          refine r_getR (N := 35) dX6_next_11 fwX6_49 (by first | exact hc1 | exact hc2 | exact hc3 | rfl | exact hB1 | exact hB2 | exact hB3) (Nat.le_of_ble_eq_true rfl) rfl (by first | exact hc1 | exact hc2 | exact hc3 | rfl | exact hB1 | exact hB2 | exact hB3) ?_
          refine r_iload_n dX6_next_14 rfl rfl ?_
          refine r_iaload dX6_next_15 (by first | exact hc1 | exact hc2 | exact hc3 | rfl | exact hB1 | exact hB2 | exact hB3) (by exact vp_in_nI (by omega) (by decide)) ?_
          rw [hcl, e2]
          refine r_iconst 1 dX6_next_16 (by decide) ?_
          refine r_icmp_ne 36 dX6_next_17 (by decide) (fun c_17 => absurd rfl c_17) (fun c_17 => ?_)
          refine r_iload_n dX6_next_20 rfl rfl ?_
          refine r_iconst (-1) dX6_next_21 (by decide) ?_
          refine r_icmp_eq 34 dX6_next_22 (by decide) (fun c_22 => absurd c_22 (nI_ne_m1 (by omega))) (fun c_22 => ?_)
          refine r_aload_n dX6_next_25 rfl rfl ?_
          refine r_iload_n dX6_next_26 rfl rfl ?_
          refine r_iload_n dX6_next_27 rfl rfl ?_
          refine gV2 (Y := mX6_isAhead) (ci := 6) (N := 35) dX6_next_28 mlX6_213 vkX6_isAhead (by first | exact hc1 | exact hc2 | exact hc3 | rfl | exact hB1 | exact hB2 | exact hB3) ⟨by decide, rfl⟩ rfl gg ?_
          refine r_if_eq 36 dX6_next_31 (by decide) (fun c_31 => ?_) (fun c_31 => absurd rfl c_31)
          refine r_iinc_2 (_ + 1) dX6_next_36 rfl (Nat.le_of_ble_eq_true rfl) rfl ?_
          refine r_goto 4 dX6_next_39 (by decide) ?_
          rw [nI_1]
          exact i1
      · rw [if_neg hs] at i1
        clear hq
        refine r_iload_n dX6_next_4 rfl rfl ?_
        refine r_bipush 8 dX6_next_5 (by decide) ?_
        refine r_icmp_ge 42 dX6_next_7 (by decide) (fun c_7 => absurd c_7 (nI_ge (a := t) (b := 8) (by omega) (by decide))) (fun c_7 => ?_)
        refine r_aload_n dX6_next_10 rfl rfl ?_
        refine r_getR (N := 35) dX6_next_11 fwX6_49 (by first | exact hc1 | exact hc2 | exact hc3 | rfl | exact hB1 | exact hB2 | exact hB3) (Nat.le_of_ble_eq_true rfl) rfl (by first | exact hc1 | exact hc2 | exact hc3 | rfl | exact hB1 | exact hB2 | exact hB3) ?_
        refine r_iload_n dX6_next_14 rfl rfl ?_
        refine r_iaload dX6_next_15 (by first | exact hc1 | exact hc2 | exact hc3 | rfl | exact hB1 | exact hB2 | exact hB3) (by exact vp_in_nI (by omega) (by decide)) ?_
        rw [hcl, e2]
        refine r_iconst 1 dX6_next_16 (by decide) ?_
        refine r_icmp_ne 36 dX6_next_17 (by decide) (fun c_17 => ?_) (fun c_17 => absurd ((nI_eq (a := T.1 t) (b := 1) (by omega) (by decide)).mp c_17) hs)
        refine r_iinc_2 (_ + 1) dX6_next_36 rfl (Nat.le_of_ble_eq_true rfl) rfl ?_
        refine r_goto 4 dX6_next_39 (by decide) ?_
        rw [nI_1]
        exact i1
set_option maxHeartbeats 600000 in
set_option maxRecDepth 100000 in
theorem m_next {M : Mem} {T : TSt} {w l : Nat} (h : TM M T) (ok : okT T) (hw : M 40 29 = nI w) (hw2 : w ≤ 2) (hl : M 40 30 = nI l) (hl2 : l < 100000) : Gv mX6_next [.ref 40] M (some (.int (oI (nxf w l T 8)))) M := by
  have hl := m_next_lp h ok hw hw2 hl hl2 8 0 rfl
  refine con_of (lv := [some (.ref 40), none, none]) (by decide) rfl (Nat.le_of_ble_eq_true rfl) (by simp [lvle]) ?_
  refine r_iconst (-1) dX6_next_0 (by decide) ?_
  refine r_istore_n1 dX6_next_1 rfl (Nat.le_of_ble_eq_true rfl) ?_
  refine r_iconst 0 dX6_next_2 (by decide) ?_
  refine r_istore_n2 dX6_next_3 rfl (Nat.le_of_ble_eq_true rfl) ?_
  exact hl
