theorem beq_e {a b : Nat} (h : Nat.beq a b = true) : a = b := Nat.eq_of_beq_eq_true h
/-- a step in the case of a word of five ones -/
theorem IC.five {M : Mem} {w e u : Nat} (h : IC M w e u) (hw : w < 1024) (he : e < 252) (h5 : popc w = 5) (hl : lwL.getD e 0 = w) (hv : vlL.getD w 0 = e + 1) (hc : popc (1023 - w) ≠ 4) : IC (upd2 (upd2 M 2 e (nI w)) 3 w (nI e)) (w + 1) (e + 1) u := by
  refine ⟨fun k hk => ?_, fun k h1 h2 => ?_, fun q hq => ?_⟩
  · rw [u_nn (show (2 : Nat) ≠ 3 by decide)]
    by_cases z : k = e
    · subst z
      rw [u_ss]
      unfold lw
      rw [hl]
    · rw [u_sn z]
      exact h.1 k (by omega)
  · rw [u_nn (show (2 : Nat) ≠ 3 by decide), u_sn (by omega)]
    exact h.2.1 k h1 h2
  · by_cases z : q = w
    · subst z
      rw [u_ss, if_pos (by unfold tw; rw [if_neg (by omega)]; omega)]
      unfold vl
      rw [hv, cd_s]
    · rw [u_sn z, u_nn (show (3 : Nat) ≠ 2 by decide), h.2.2 q hq]
      have : tw q ≠ w := by
        unfold tw
        split
        · rename_i h4
          intro e1
          have : q = 1023 - w := by omega
          rw [this] at h4
          exact hc h4
        · exact z
      simp only [tw_same this]
theorem IC.six {M : Mem} {w e u : Nat} (h : IC M w e u) (hw : w < 1024) (hu : 252 ≤ u) (he : e ≤ 252) (h6 : popc w = 6) (hl : lwL.getD u 0 = w) (hv : vlL.getD w 0 = u + 1) (hv2 : vlL.getD (1023 - w) 0 = u + 1) (hc : popc (1023 - w) = 4) : IC (upd2 (upd2 (upd2 M 2 u (nI w)) 3 w (nI u)) 3 (1023 - w) (nI u)) (w + 1) e (u + 1) := by
  refine ⟨fun k hk => ?_, fun k h1 h2 => ?_, fun q hq => ?_⟩
  · rw [u_nn (show (2 : Nat) ≠ 3 by decide), u_nn (show (2 : Nat) ≠ 3 by decide), u_sn (by omega)]
    exact h.1 k (by omega)
  · rw [u_nn (show (2 : Nat) ≠ 3 by decide), u_nn (show (2 : Nat) ≠ 3 by decide)]
    by_cases z : k = u
    · subst z
      rw [u_ss]
      unfold lw
      rw [hl]
    · rw [u_sn z]
      exact h.2.1 k h1 (by omega)
  · by_cases z2 : q = 1023 - w
    · subst z2
      rw [u_ss, if_pos (by unfold tw; rw [if_pos hc]; omega)]
      unfold vl
      rw [hv2, cd_s]
    · rw [u_sn z2]
      by_cases z : q = w
      · subst z
        rw [u_ss, if_pos (by unfold tw; rw [if_neg (by omega)]; omega)]
        unfold vl
        rw [hv, cd_s]
      · rw [u_sn z, u_nn (show (3 : Nat) ≠ 2 by decide), h.2.2 q hq]
        have : tw q ≠ w := by
          unfold tw
          split <;> omega
        simp only [tw_same this]
theorem IC.none_ {M : Mem} {w e u : Nat} (h : IC M w e u) (hw : w < 1024) (h4 : popc w = 4 ∨ vlL.getD w 0 = 0) (hc : popc (1023 - w) ≠ 4 ∨ vlL.getD (1023 - w) 0 = 0) : IC M (w + 1) e u := by
  refine ⟨h.1, h.2.1, fun q hq => ?_⟩
  rw [h.2.2 q hq]
  by_cases z : tw q = w
  · rw [if_neg (by omega), if_pos (by omega)]
    have : vlL.getD q 0 = 0 := by
      unfold tw at z
      split at z
      · rename_i g
        have e1 : q = 1023 - w := by omega
        rw [e1] at g ⊢
        rcases hc with hc | hc
        · exact absurd g hc
        · exact hc
      · rename_i g
        subst z
        rcases h4 with h4 | h4
        · exact absurd h4 g
        · exact h4
    unfold vl
    rw [this]
    rfl
  · simp only [tw_same z]
theorem nI_xor1023 : ∀ w, w < 1024 → (1023 : Int32) ^^^ nI w = nI (1023 - w) := by decide +kernel
def Q1 (M0 : Mem) : Option Value → Hp → Prop := fun r h => r = none ∧ ∃ M', h = (shp.take 4, RLf L1, M') ∧ TabC M' ∧ FrS [2, 3] [] M0 M' ∧ OkH h
theorem scC_5 {d w e u : Nat} (h : scC (d + 1) w e u = true) (h5 : popc w = 5) : e < 252 ∧ lwL.getD e 0 = w ∧ vlL.getD w 0 = e + 1 ∧ popc (1023 - w) ≠ 4 ∧ scC d (w + 1) (e + 1) u = true := by
  unfold scC at h
  rw [if_pos h5] at h
  simp only [Bool.and_eq_true, Bool.not_eq_true', Nat.blt_eq] at h
  obtain ⟨⟨⟨⟨a1, a2⟩, a3⟩, a4⟩, a5⟩ := h
  exact ⟨a1, beq_e a2, beq_e a3, (fun q => by rw [q] at a4; cases a4), a5⟩
theorem scC_6 {d w e u : Nat} (h : scC (d + 1) w e u = true) (h6 : popc w = 6) : popc (1023 - w) = 4 ∧ (u < 264 → lwL.getD u 0 = w ∧ vlL.getD w 0 = u + 1 ∧ vlL.getD (1023 - w) 0 = u + 1 ∧ scC d (w + 1) e (u + 1) = true) ∧ (¬ u < 264 → vlL.getD w 0 = 0 ∧ vlL.getD (1023 - w) 0 = 0 ∧ scC d (w + 1) e u = true) := by
  unfold scC at h
  rw [if_neg (by omega), if_pos h6] at h
  simp only [Bool.and_eq_true] at h
  obtain ⟨a1, a2⟩ := h
  refine ⟨beq_e a1, fun z => ?_, fun z => ?_⟩
  · rw [if_pos z] at a2
    simp only [Bool.and_eq_true] at a2
    obtain ⟨⟨⟨b1, b2⟩, b3⟩, b4⟩ := a2
    exact ⟨beq_e b1, beq_e b2, beq_e b3, b4⟩
  · rw [if_neg z] at a2
    simp only [Bool.and_eq_true] at a2
    obtain ⟨⟨b1, b2⟩, b3⟩ := a2
    exact ⟨beq_e b1, beq_e b2, b3⟩
theorem scC_n {d w e u : Nat} (h : scC (d + 1) w e u = true) (h5 : popc w ≠ 5) (h6 : popc w ≠ 6) : (popc w = 4 ∨ vlL.getD w 0 = 0) ∧ popc (1023 - w) ≠ 4 ∧ scC d (w + 1) e u = true := by
  unfold scC at h
  rw [if_neg h5, if_neg h6] at h
  simp only [Bool.and_eq_true, Bool.not_eq_true', Bool.or_eq_true] at h
  obtain ⟨⟨a1, a2⟩, a3⟩ := h
  refine ⟨?_, (fun q => by rw [q] at a2; cases a2), a3⟩
  rcases a1 with a | a
  · exact Or.inl (beq_e a)
  · exact Or.inr (beq_e a)
set_option maxRecDepth 100000 in
theorem popc_n5 : ∀ w, w < 1024 → popc w ≠ 5 → ¬ nI (popc w) = 5 := by decide +kernel
set_option maxRecDepth 100000 in
theorem popc_n6 : ∀ w, w < 1024 → popc w ≠ 6 → ¬ nI (popc w) = 6 := by decide +kernel
set_option maxHeartbeats 600000 in
set_option maxRecDepth 100000 in
theorem x1_lp {M0 : Mem} (ok0 : OkH (shp.take 4, RLf L1, M0)) : ∀ (d w e u : Nat) (M : Mem), w + d = 1024 → e ≤ 252 → 252 ≤ u → u ≤ 264 → scC d w e u = true → IC M w e u → FrS [2, 3] [] M0 M → WP mX1_init 52 [some (.ref 1), some (.int (nI e)), some (.int (nI u)), some (.int (nI w)), none] [] 2 1288 (shp.take 4, RLf L1, M) (Q1 M0)
  | 0, w, e, u, M, hd, he, hu, hu2, hs, hI, hF => by
    have hw : w = 1024 := by omega
    subst hw
    unfold scC at hs
    simp only [Bool.and_eq_true] at hs
    have h1 := beq_e hs.1
    have h2 := beq_e hs.2
    subst h1 h2
    refine r_iload_n dX1_init_52 rfl rfl ?_
    refine r_sipush 1024 dX1_init_53 (by decide) ?_
    refine r_icmp_ge 146 dX1_init_56 (by decide) (fun c_56 => ?_) (fun c_56 => absurd (by decide) c_56)
    refine r_return dX1_init_146 rfl (Nat.le_of_ble_eq_true rfl) (Nat.le_of_ble_eq_true rfl) ?_
    exact ⟨rfl, M, rfl, hI.end_, hF, ok0.frm hF (by decide)⟩
  | d + 1, w, e, u, M, hd, he, hu, hu2, hs, hI, hF => by
    have hw : w < 1024 := by omega
    have hcw : (nI w).toNatClampNeg = w := nI_clamp (by omega)
    have hce : (nI e).toNatClampNeg = e := nI_clamp (by omega)
    have hcu : (nI u).toNatClampNeg = u := nI_clamp (by omega)
    have hcx : (nI (1023 - w)).toNatClampNeg = 1023 - w := nI_clamp (by omega)
    have hlt : ¬ (1024 : Int32) ≤ nI w := nI_ge (a := w) (b := 1024) (by omega) (by decide)
    by_cases h5 : popc w = 5
    · obtain ⟨a1, a2, a3, a4, a5⟩ := scC_5 hs h5
      have hlt2 : ¬ (252 : Int32) ≤ nI e := nI_ge (a := e) (b := 252) (by omega) (by decide)
      have ih := x1_lp ok0 d (w + 1) (e + 1) u _ (by omega) (by omega) hu hu2 a5 (hI.five hw a1 h5 a2 a3 a4) (by
        intro a k ha _
        simp at ha
        rw [u_nn (by omega), u_nn (by omega)]
        exact hF a k (by simp; omega) (by simp))
      refine r_iload_n dX1_init_52 rfl rfl ?_
      refine r_sipush 1024 dX1_init_53 (by decide) ?_
      refine r_icmp_ge 146 dX1_init_56 (by decide) (fun c_56 => absurd c_56 hlt) (fun c_56 => ?_)
      refine r_iload_n dX1_init_59 rfl rfl ?_
      refine t_callS (Y := mJ6_bitCount_0f7a4) dX1_init_60 mlX1_18 ckJ6_bitCount_0f7a4 skJ6_bitCount_0f7a4 rfl ⟨rfl, rfl⟩ t_bitCount ?_
      rw [bc_tab w hw, h5]
      refine r_istore_4 dX1_init_63 rfl (Nat.le_of_ble_eq_true rfl) ?_
      refine r_iload dX1_init_65 rfl ?_
      refine r_iconst 5 dX1_init_67 (by decide) ?_
      refine r_icmp_ne 98 dX1_init_68 (by decide) (fun c_68 => absurd rfl c_68) (fun c_68 => ?_)
      refine r_iload_n dX1_init_71 rfl rfl ?_
      refine r_sipush 252 dX1_init_72 (by decide) ?_
      refine r_icmp_ge 98 dX1_init_75 (by decide) (fun c_75 => absurd c_75 hlt2) (fun c_75 => ?_)
      refine r_aload_n dX1_init_78 rfl rfl ?_
      refine r_getR (N := 2) dX1_init_79 fwX1_9 (by first | rfl | assumption) (Nat.le_of_ble_eq_true rfl) rfl (by first | rfl | assumption) ?_
      refine r_iload_n dX1_init_82 rfl rfl ?_
      refine r_iload_n dX1_init_83 rfl rfl ?_
      refine r_iastore dX1_init_84 (by first | rfl | assumption) (by exact vp_in_nI (by omega) (by decide)) ?_
      rw [hce]
      refine r_aload_n dX1_init_85 rfl rfl ?_
      refine r_getR (N := 2) dX1_init_86 fwX1_15 (by first | rfl | assumption) (Nat.le_of_ble_eq_true rfl) rfl (by first | rfl | assumption) ?_
      refine r_iload_n dX1_init_89 rfl rfl ?_
      refine r_iload_n dX1_init_90 rfl rfl ?_
      refine r_iastore dX1_init_91 (by first | rfl | assumption) (by exact vp_in_nI (by omega) (by decide)) ?_
      rw [hcw]
      refine r_iinc_1 (_ + 1) dX1_init_92 rfl (Nat.le_of_ble_eq_true rfl) rfl ?_
      refine r_goto 140 dX1_init_95 (by decide) ?_
      refine r_iinc_3 (_ + 1) dX1_init_140 rfl (Nat.le_of_ble_eq_true rfl) rfl ?_
      refine r_goto 52 dX1_init_143 (by decide) ?_
      rw [nI_1, nI_1]
      exact r_weak (by simp [lvle] <;> (repeat' apply And.intro) <;> first | rfl | decide) ih
    · have ne5 : ¬ nI (popc w) = 5 := popc_n5 w hw h5
      by_cases h6 : popc w = 6
      · obtain ⟨b1, b2, b3⟩ := scC_6 hs h6
        by_cases hu3 : u < 264
        · obtain ⟨a2, a3, a4, a5⟩ := b2 hu3
          have hlt2 : ¬ (264 : Int32) ≤ nI u := nI_ge (a := u) (b := 264) (by omega) (by decide)
          have ih := x1_lp ok0 d (w + 1) e (u + 1) _ (by omega) he (by omega) (by omega) a5 (hI.six hw hu he h6 a2 a3 a4 b1) (by
            intro a k ha _
            simp at ha
            rw [u_nn (by omega), u_nn (by omega), u_nn (by omega)]
            exact hF a k (by simp; omega) (by simp))
          refine r_iload_n dX1_init_52 rfl rfl ?_
          refine r_sipush 1024 dX1_init_53 (by decide) ?_
          refine r_icmp_ge 146 dX1_init_56 (by decide) (fun c_56 => absurd c_56 hlt) (fun c_56 => ?_)
          refine r_iload_n dX1_init_59 rfl rfl ?_
          refine t_callS (Y := mJ6_bitCount_0f7a4) dX1_init_60 mlX1_18 ckJ6_bitCount_0f7a4 skJ6_bitCount_0f7a4 rfl ⟨rfl, rfl⟩ t_bitCount ?_
          rw [bc_tab w hw, h6]
          refine r_istore_4 dX1_init_63 rfl (Nat.le_of_ble_eq_true rfl) ?_
          refine r_iload dX1_init_65 rfl ?_
          refine r_iconst 5 dX1_init_67 (by decide) ?_
          refine r_icmp_ne 98 dX1_init_68 (by decide) (fun c_68 => ?_) (fun c_68 => absurd c_68 (by decide))
          refine r_iload dX1_init_98 rfl ?_
          refine r_bipush 6 dX1_init_100 (by decide) ?_
          refine r_icmp_ne 140 dX1_init_102 (by decide) (fun c_102 => absurd rfl c_102) (fun c_102 => ?_)
          refine r_iload_n dX1_init_105 rfl rfl ?_
          refine r_sipush 264 dX1_init_106 (by decide) ?_
          refine r_icmp_ge 140 dX1_init_109 (by decide) (fun c_109 => absurd c_109 hlt2) (fun c_109 => ?_)
          refine r_aload_n dX1_init_112 rfl rfl ?_
          refine r_getR (N := 2) dX1_init_113 fwX1_9 (by first | rfl | assumption) (Nat.le_of_ble_eq_true rfl) rfl (by first | rfl | assumption) ?_
          refine r_iload_n dX1_init_116 rfl rfl ?_
          refine r_iload_n dX1_init_117 rfl rfl ?_
          refine r_iastore dX1_init_118 (by first | rfl | assumption) (by exact vp_in_nI (by omega) (by decide)) ?_
          rw [hcu]
          refine r_aload_n dX1_init_119 rfl rfl ?_
          refine r_getR (N := 2) dX1_init_120 fwX1_15 (by first | rfl | assumption) (Nat.le_of_ble_eq_true rfl) rfl (by first | rfl | assumption) ?_
          refine r_iload_n dX1_init_123 rfl rfl ?_
          refine r_iload_n dX1_init_124 rfl rfl ?_
          refine r_iastore dX1_init_125 (by first | rfl | assumption) (by exact vp_in_nI (by omega) (by decide)) ?_
          rw [hcw]
          refine r_aload_n dX1_init_126 rfl rfl ?_
          refine r_getR (N := 2) dX1_init_127 fwX1_15 (by first | rfl | assumption) (Nat.le_of_ble_eq_true rfl) rfl (by first | rfl | assumption) ?_
          refine r_sipush 1023 dX1_init_130 (by decide) ?_
          refine r_iload_n dX1_init_133 rfl rfl ?_
          refine r_ixor dX1_init_134 ?_
          rw [nI_xor1023 w hw]
          refine r_iload_n dX1_init_135 rfl rfl ?_
          refine r_iastore dX1_init_136 (by first | rfl | assumption) (by exact vp_in_nI (by omega) (by decide)) ?_
          rw [hcx]
          refine r_iinc_2 (_ + 1) dX1_init_137 rfl (Nat.le_of_ble_eq_true rfl) rfl ?_
          refine r_iinc_3 (_ + 1) dX1_init_140 rfl (Nat.le_of_ble_eq_true rfl) rfl ?_
          refine r_goto 52 dX1_init_143 (by decide) ?_
          rw [nI_1, nI_1]
          exact r_weak (by simp [lvle] <;> (repeat' apply And.intro) <;> first | rfl | decide) ih
        · obtain ⟨a2, a3, a5⟩ := b3 hu3
          have hge : (264 : Int32) ≤ nI u := nI_le (a := 264) (b := u) (by omega) (by omega)
          have ih := x1_lp ok0 d (w + 1) e u _ (by omega) he hu hu2 a5 (hI.none_ hw (Or.inr a2) (Or.inr a3)) hF
          refine r_iload_n dX1_init_52 rfl rfl ?_
          refine r_sipush 1024 dX1_init_53 (by decide) ?_
          refine r_icmp_ge 146 dX1_init_56 (by decide) (fun c_56 => absurd c_56 hlt) (fun c_56 => ?_)
          refine r_iload_n dX1_init_59 rfl rfl ?_
          refine t_callS (Y := mJ6_bitCount_0f7a4) dX1_init_60 mlX1_18 ckJ6_bitCount_0f7a4 skJ6_bitCount_0f7a4 rfl ⟨rfl, rfl⟩ t_bitCount ?_
          rw [bc_tab w hw, h6]
          refine r_istore_4 dX1_init_63 rfl (Nat.le_of_ble_eq_true rfl) ?_
          refine r_iload dX1_init_65 rfl ?_
          refine r_iconst 5 dX1_init_67 (by decide) ?_
          refine r_icmp_ne 98 dX1_init_68 (by decide) (fun c_68 => ?_) (fun c_68 => absurd c_68 (by decide))
          refine r_iload dX1_init_98 rfl ?_
          refine r_bipush 6 dX1_init_100 (by decide) ?_
          refine r_icmp_ne 140 dX1_init_102 (by decide) (fun c_102 => absurd rfl c_102) (fun c_102 => ?_)
          refine r_iload_n dX1_init_105 rfl rfl ?_
          refine r_sipush 264 dX1_init_106 (by decide) ?_
          refine r_icmp_ge 140 dX1_init_109 (by decide) (fun c_109 => ?_) (fun c_109 => absurd hge c_109)
          refine r_iinc_3 (_ + 1) dX1_init_140 rfl (Nat.le_of_ble_eq_true rfl) rfl ?_
          refine r_goto 52 dX1_init_143 (by decide) ?_
          rw [nI_1]
          exact r_weak (by simp [lvle] <;> (repeat' apply And.intro) <;> first | rfl | decide) ih
      · have ne6 : ¬ nI (popc w) = 6 := popc_n6 w hw h6
        obtain ⟨a2, a3, a5⟩ := scC_n hs h5 h6
        have ih := x1_lp ok0 d (w + 1) e u _ (by omega) he hu hu2 a5 (hI.none_ hw a2 (Or.inl a3)) hF
        refine r_iload_n dX1_init_52 rfl rfl ?_
        refine r_sipush 1024 dX1_init_53 (by decide) ?_
        refine r_icmp_ge 146 dX1_init_56 (by decide) (fun c_56 => absurd c_56 hlt) (fun c_56 => ?_)
        refine r_iload_n dX1_init_59 rfl rfl ?_
        refine t_callS (Y := mJ6_bitCount_0f7a4) dX1_init_60 mlX1_18 ckJ6_bitCount_0f7a4 skJ6_bitCount_0f7a4 rfl ⟨rfl, rfl⟩ t_bitCount ?_
        rw [bc_tab w hw]
        refine r_istore_4 dX1_init_63 rfl (Nat.le_of_ble_eq_true rfl) ?_
        refine r_iload dX1_init_65 rfl ?_
        refine r_iconst 5 dX1_init_67 (by decide) ?_
        refine r_icmp_ne 98 dX1_init_68 (by decide) (fun c_68 => ?_) (fun c_68 => absurd c_68 ne5)
        refine r_iload dX1_init_98 rfl ?_
        refine r_bipush 6 dX1_init_100 (by decide) ?_
        refine r_icmp_ne 140 dX1_init_102 (by decide) (fun c_102 => ?_) (fun c_102 => absurd c_102 ne6)
        refine r_iinc_3 (_ + 1) dX1_init_140 rfl (Nat.le_of_ble_eq_true rfl) rfl ?_
        refine r_goto 52 dX1_init_143 (by decide) ?_
        rw [nI_1]
        exact r_weak (by simp [lvle] <;> (repeat' apply And.intro) <;> first | rfl | decide) ih
set_option maxHeartbeats 600000 in
set_option maxRecDepth 100000 in
theorem x1_fill {M0 : Mem} {Q : Option Value → Hp → Prop} (hk : ∀ M1, (∀ q, q < 1024 → M1 3 q = -1) → FrS [2, 3] [] M0 M1 → WP mX1_init 44 [some (.ref 1), none, none, none, none] [] 2 1288 (shp.take 4, RLf L1, M1) Q) : ∀ (d i : Nat) (M : Mem), i + d = 1024 → (∀ q, q < i → M 3 q = -1) → FrS [2, 3] [] M0 M → WP mX1_init 24 [some (.ref 1), some (.int (nI i)), none, none, none] [] 2 1288 (shp.take 4, RLf L1, M) Q
  | 0, i, M, hd, h1, hF => by
    have hi : i = 1024 := by omega
    subst hi
    refine r_iload_n dX1_init_24 rfl rfl ?_
    refine r_sipush 1024 dX1_init_25 (by decide) ?_
    refine r_icmp_ge 44 dX1_init_28 (by decide) (fun c_28 => ?_) (fun c_28 => absurd (by decide) c_28)
    exact r_weak (by simp [lvle] <;> (repeat' apply And.intro) <;> first | rfl | decide) (hk M h1 hF)
  | d + 1, i, M, hd, h1, hF => by
    have hlt : ¬ (1024 : Int32) ≤ nI i := nI_ge (a := i) (b := 1024) (by omega) (by decide)
    have hci : (nI i).toNatClampNeg = i := nI_clamp (by omega)
    have ih := x1_fill hk d (i + 1) (upd2 M 3 i (-1)) (by omega) (fun q hq => by
      by_cases z : q = i
      · subst z; rw [u_ss]
      · rw [u_sn z]; exact h1 q (by omega)) (by
        intro a k ha _
        simp at ha
        rw [u_nn (by omega)]
        exact hF a k (by simp; omega) (by simp))
    refine r_iload_n dX1_init_24 rfl rfl ?_
    refine r_sipush 1024 dX1_init_25 (by decide) ?_
    refine r_icmp_ge 44 dX1_init_28 (by decide) (fun c_28 => absurd c_28 hlt) (fun c_28 => ?_)
    refine r_aload_n dX1_init_31 rfl rfl ?_
    refine r_getR (N := 2) dX1_init_32 fwX1_15 (by first | rfl | assumption) (Nat.le_of_ble_eq_true rfl) rfl (by first | rfl | assumption) ?_
    refine r_iload_n dX1_init_35 rfl rfl ?_
    refine r_iconst (-1) dX1_init_36 (by decide) ?_
    refine r_iastore dX1_init_37 (by first | rfl | assumption) (by exact vp_in_nI (by omega) (by decide)) ?_
    rw [hci]
    refine r_iinc_1 (_ + 1) dX1_init_38 rfl (Nat.le_of_ble_eq_true rfl) rfl ?_
    refine r_goto 24 dX1_init_41 (by decide) ?_
    rw [nI_1]
    exact ih
set_option maxHeartbeats 600000 in
set_option maxRecDepth 100000 in
theorem x1_init {M : Mem} (ok : OkH (shp.take 2, RLf [], M)) : Con mX1_init [.ref 1] (shp.take 2, RLf [], M) (Q1 M) := by
  refine con_of (lv := [some (.ref 1), none, none, none, none]) (by decide) rfl (Nat.le_of_ble_eq_true rfl) (by simp [lvle]) ?_
  refine r_aload_n dX1_init_0 rfl rfl ?_
  refine t_obj dX1_init_1 mlX1_3 (Nat.le_of_ble_eq_true rfl) (Nat.le_of_ble_eq_true rfl) ?_
  refine r_aload_n dX1_init_4 rfl rfl ?_
  refine r_sipush 264 dX1_init_5 (by decide) ?_
  refine t_newa (j := 2) (N := 264) dX1_init_8 (by first | rfl | assumption) (by decide) rfl (Nat.le_of_ble_eq_true rfl) (Nat.le_of_ble_eq_true rfl) (Nat.le_of_ble_eq_true rfl) ok (by first | rfl | (simp [rokl, rok] <;> omega)) (by first | rfl | (simp [rokl, rok] <;> omega)) (fun ok => ?_)
  refine t_putR (j := 3) (N := 2) dX1_init_10 fwX1_9 (by first | rfl | assumption) (Nat.le_of_ble_eq_true rfl) rfl ⟨rfl, rfl, rfl⟩ flX1_9 (fun _ => rfl) (fun _ => rfl) ok (by first | exact Nat.le_of_ble_eq_true rfl | omega) (by first | exact Nat.le_of_ble_eq_true rfl | omega) (fun ok => ?_)
  refine r_aload_n dX1_init_13 rfl rfl ?_
  refine r_sipush 1024 dX1_init_14 (by decide) ?_
  refine t_newa (j := 3) (N := 1024) dX1_init_17 (by first | rfl | assumption) (by decide) rfl (Nat.le_of_ble_eq_true rfl) (Nat.le_of_ble_eq_true rfl) (Nat.le_of_ble_eq_true rfl) ok (by first | rfl | (simp [rokl, rok] <;> omega)) (by first | rfl | (simp [rokl, rok] <;> omega)) (fun ok => ?_)
  refine t_putR (j := 4) (N := 2) dX1_init_19 fwX1_15 (by first | rfl | assumption) (Nat.le_of_ble_eq_true rfl) rfl ⟨rfl, rfl, rfl⟩ flX1_15 (fun _ => rfl) (fun _ => rfl) ok (by first | exact Nat.le_of_ble_eq_true rfl | omega) (by first | exact Nat.le_of_ble_eq_true rfl | omega) (fun ok => ?_)
  refine r_iconst 0 dX1_init_22 (by decide) ?_
  refine r_istore_n1 dX1_init_23 rfl (Nat.le_of_ble_eq_true rfl) ?_
  refine x1_fill (M0 := M) (fun M1 h1 hF => ?_) 1024 0 M rfl (fun q hq => absurd hq (by omega)) (fun a k _ _ => rfl)
  refine r_iconst 0 dX1_init_44 (by decide) ?_
  refine r_istore_n1 dX1_init_45 rfl (Nat.le_of_ble_eq_true rfl) ?_
  refine r_sipush 252 dX1_init_46 (by decide) ?_
  refine r_istore_n2 dX1_init_49 rfl (Nat.le_of_ble_eq_true rfl) ?_
  refine r_iconst 0 dX1_init_50 (by decide) ?_
  refine r_istore_n3 dX1_init_51 rfl (Nat.le_of_ble_eq_true rfl) ?_
  refine r_weak (by simp [lvle] <;> (repeat' apply And.intro) <;> first | rfl | decide) (x1_lp ok 1024 0 0 252 M1 rfl (by decide) (by decide) (by decide) scC_ok ⟨fun k hk => absurd hk (by omega), fun k h3 h4 => absurd h4 (by omega), fun q hq => ?_⟩ hF)
  rw [h1 q hq, if_neg (by omega)]
