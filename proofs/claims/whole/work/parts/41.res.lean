def frT (T : TSt) (t : Nat) : TSt := (va_up T.1 t 0, T.2)
theorem okT_fr {T : TSt} {t : Nat} (h : okT T) : okT (frT T t) := by
  intro a ha
  obtain ⟨q1, q2, q3, q4, q5, q6, q7, q8⟩ := h a ha
  unfold frT
  dsimp only
  by_cases hat : a = t
  · subst hat
    rw [vu_s]
    exact ⟨by omega, q2, q3, q4, q5, fun z => absurd rfl z, q7, q8⟩
  · rw [vu_n hat]
    exact ⟨q1, q2, q3, q4, q5, q6, q7, q8⟩
theorem CI.res {M M' : Mem} {dn : Nat} {dp : Nat → Int32} {P : PL} {s : SSt} {w is rm rm' : Nat} {rr rr' : Nat → Int32} {t : Nat} (h : CI M dn dp P s w is rm rr) (F : FrS [24 + 2 * t, 23] [] M M') (ht : t < 8) (e2 : M' (24 + 2 * t) 2 = 0) (eo : ∀ k, k ≠ 2 → M' (24 + 2 * t) k = M (24 + 2 * t) k) (e23 : ∀ i, i < 4 → M' 23 i = if i < rm' then rr' i else 0) : CI M' dn dp P (s.1, s.2.1, frT s.2.2.1 t, s.2.2.2) w is rm' rr' := by
  obtain ⟨h1, ⟨cs, c6, c7, c8, c9⟩, h3, h4⟩ := h
  have F' : FrS [24 + 2 * t, 25 + 2 * t, 23] [] M M' := F.mono (by simp) (by simp)
  refine ⟨h1.frS F (by simp <;> omega) (by simp), ⟨cs.tg F' (by simp), fun a ha => ?_, fun a ha => ?_, ?_, ?_⟩, ?_, e23⟩
  · unfold frT
    dsimp only
    by_cases hat : a = t
    · subst hat
      rw [vu_s, e2, eo 0 (by decide), eo 3 (by decide), eo 4 (by decide), eo 5 (by decide), eo 6 (by decide), eo 7 (by decide)]
      have := c6 a ha
      exact ⟨this.1, rfl, this.2.2⟩
    · have q : ∀ k, M' (24 + 2 * a) k = M (24 + 2 * a) k := fun k => F _ k (by simp <;> omega) (by simp)
      rw [vu_n hat]
      simp only [q]
      exact c6 a ha
  · have q : ∀ k, M' (25 + 2 * a) k = M (25 + 2 * a) k := fun k => F _ k (by simp <;> omega) (by simp)
    unfold frT
    dsimp only
    by_cases hat : a = t
    · subst hat
      rw [vu_s]
      exact ⟨fun z => absurd z (by decide), fun z => absurd z (by decide)⟩
    · rw [vu_n hat]
      simp only [q]
      exact c7 a ha
  · rw [F 0 7 (by simp <;> omega) (by simp)]; exact c8
  · rw [F 0 8 (by simp <;> omega) (by simp)]; exact c9
  · rw [F 0 9 (by simp <;> omega) (by simp)]; exact h3
theorem MI.res {M M' : Mem} {dn : Nat} {dp : Nat → Int32} {P : PL} {s : SSt} {w is rm rm' : Nat} {rr rr' : Nat → Int32} {t : Nat} (h : MI M dn dp P s w is rm rr) (F : FrS [54, 61] [(40, 31)] M M') (e2 : M' 54 t = 0) (eo : ∀ k, k ≠ t → M' 54 k = M 54 k) (e31 : M' 40 31 = nI rm') (e61 : ∀ i, i < rm' → M' 61 i = rr' i) : MI M' dn dp P (s.1, s.2.1, frT s.2.2.1 t, s.2.2.2) w is rm' rr' := by
  obtain ⟨h1, ⟨cs, c6, c7, c8, c9⟩, h3, h4, h5⟩ := h
  have F' : FrS [54, 55, 56, 57, 58, 59, 60, 61] [(40, 31)] M M' := F.mono (by decide) (by decide)
  refine ⟨⟨by rw [F 40 3 (by decide) (by decide)]; exact h1.1, fun j hj => by rw [F 44 j (by decide) (by simp)]; exact h1.2 j hj⟩, ⟨cs.tg F' (by simp), fun a ha => ?_, fun a ha => ?_, ?_, ?_⟩, ?_, e31, e61⟩
  · unfold frT
    dsimp only
    rw [F 55 a (by decide) (by simp), F 56 a (by decide) (by simp), F 57 a (by decide) (by simp), F 59 a (by decide) (by simp), F 60 a (by decide) (by simp)]
    have := c6 a ha
    by_cases hat : a = t
    · subst hat
      rw [vu_s, e2]
      exact ⟨rfl, this.2⟩
    · rw [vu_n hat, eo a hat]
      exact this
  · have q : ∀ k, M' 58 k = M 58 k := fun k => F _ k (by decide) (by simp)
    unfold frT
    dsimp only
    by_cases hat : a = t
    · subst hat
      rw [vu_s]
      exact ⟨fun z => absurd z (by decide), fun z => absurd z (by decide)⟩
    · rw [vu_n hat]
      simp only [q]
      exact c7 a ha
  · rw [F 40 29 (by decide) (by decide)]; exact c8
  · rw [F 40 30 (by decide) (by decide)]; exact c9
  · rw [F 40 28 (by decide) (by decide)]; exact h3
set_option maxHeartbeats 600000 in
set_option maxRecDepth 100000 in
theorem x_copy_lp {c r mn : Nat} {M0 : Mem} {f : Nat → Int32} (hc : isCm c r) (hcr : c ≠ 23 ∧ r ≠ 23) (hmn : mn ≤ 4) (e5 : M0 c 5 = nI mn) (en : ∀ j, j < mn → M0 r j = f j) : ∀ (e k : Nat) (M : Mem), k + e = 4 → (∀ j, j < k → M 23 j = if j < mn then f j else 0) → FrS [23] [] M0 M → ∃ M', WP mX2_copyNumbers 2 [some (.ref c), some (.ref 23), some (.int (nI k))] [] 0 0 (shp, rfs, M) (fun r1 h1 => r1 = none ∧ h1 = (shp, rfs, M')) ∧ (∀ j, j < 4 → M' 23 j = if j < mn then f j else 0) ∧ FrS [23] [] M0 M' := by
  obtain ⟨hc1, hc2, hc3⟩ := id hc
  intro e
  induction e with
  | zero =>
    intro k M hk h F
    have hk : k = 4 := by omega
    subst hk
    refine ⟨M, ?_, h, F⟩
    refine r_iload_n dX2_copyNumbers_2 rfl rfl ?_
    refine r_aload_n dX2_copyNumbers_3 rfl rfl ?_
    refine r_alen dX2_copyNumbers_4 (by first | exact hc1 | exact hc2 | exact hc3 | rfl | exact hB1 | exact hB2 | exact hB3) (by first | exact Or.inl rfl | exact Or.inr rfl) ?_
    refine r_icmp_ge 34 dX2_copyNumbers_5 (by decide) (fun c_5 => ?_) (fun c_5 => absurd (by decide) c_5)
    refine r_return dX2_copyNumbers_34 rfl (Nat.zero_le _) (Nat.zero_le _) ?_
    exact ⟨rfl, rfl⟩
  | succ e ih =>
    intro k M hk h F
    have hcl : (nI k).toNatClampNeg = k := nI_clamp (by omega)
    have c5 : ¬ nI 4 ≤ nI k := nI_ge (by omega) (by decide)
    have m5 : M c 5 = nI mn := by rw [F c 5 (by simp [hcr.1]) (by simp)]; exact e5
    obtain ⟨M', w', i1, i2⟩ := ih (k + 1) (upd2 M 23 k (if k < mn then f k else 0)) (by omega) (fun j hj => by
      by_cases hq : j = k
      · rw [hq, u_ss]
      · rw [u_sn hq]; exact h j (by omega)) (F.upc (by simp))
    refine ⟨M', ?_, i1, i2⟩
    by_cases hlt : k < mn
    · rw [if_pos hlt] at w'
      have g := x_numAt (M := M) hc (j := k) (by omega)
      rw [F r k (by simp [hcr.2]) (by simp), en k hlt] at g
      refine r_iload_n dX2_copyNumbers_2 rfl rfl ?_
      refine r_aload_n dX2_copyNumbers_3 rfl rfl ?_
      refine r_alen dX2_copyNumbers_4 (by first | exact hc1 | exact hc2 | exact hc3 | rfl | exact hB1 | exact hB2 | exact hB3) (by first | exact Or.inl rfl | exact Or.inr rfl) ?_
      refine r_icmp_ge 34 dX2_copyNumbers_5 (by decide) (fun c_5 => absurd c_5 c5) (fun c_5 => ?_)
      refine r_aload_n dX2_copyNumbers_8 rfl rfl ?_
      refine r_iload_n dX2_copyNumbers_9 rfl rfl ?_
      refine r_iload_n dX2_copyNumbers_10 rfl rfl ?_
      refine r_aload_n dX2_copyNumbers_11 rfl rfl ?_
      refine r_getI (N := 8) dX2_copyNumbers_12 fwX2_28 (by first | exact hc1 | exact hc2 | exact hc3 | rfl | exact hB1 | exact hB2 | exact hB3) (Nat.le_of_ble_eq_true rfl) rfl ?_
      rw [m5]
      refine r_icmp_ge 26 dX2_copyNumbers_15 (by decide) (fun c_15 => absurd c_15 (nI_ge hlt (by omega))) (fun c_15 => ?_)
      refine r_aload_n dX2_copyNumbers_18 rfl rfl ?_
      refine r_iload_n dX2_copyNumbers_19 rfl rfl ?_
      refine gV1 (Y := mX2_numberAt) (ci := 2) (N := 8) dX2_copyNumbers_20 mlX2_41 vkX2_numberAt (by first | exact hc1 | exact hc2 | exact hc3 | rfl | exact hB1 | exact hB2 | exact hB3) ⟨by decide, rfl⟩ rfl g ?_
      refine r_goto 27 dX2_copyNumbers_23 (by decide) ?_
      refine r_iastore dX2_copyNumbers_27 (by first | exact hc1 | exact hc2 | exact hc3 | rfl | exact hB1 | exact hB2 | exact hB3) (by exact vp_in_nI (by omega) (by decide)) ?_
      rw [hcl]
      refine r_iinc_2 (_ + 1) dX2_copyNumbers_28 rfl (Nat.le_of_ble_eq_true rfl) rfl ?_
      refine r_goto 2 dX2_copyNumbers_31 (by decide) ?_
      rw [nI_1]
      exact w'
    · rw [if_neg hlt] at w'
      refine r_iload_n dX2_copyNumbers_2 rfl rfl ?_
      refine r_aload_n dX2_copyNumbers_3 rfl rfl ?_
      refine r_alen dX2_copyNumbers_4 (by first | exact hc1 | exact hc2 | exact hc3 | rfl | exact hB1 | exact hB2 | exact hB3) (by first | exact Or.inl rfl | exact Or.inr rfl) ?_
      refine r_icmp_ge 34 dX2_copyNumbers_5 (by decide) (fun c_5 => absurd c_5 c5) (fun c_5 => ?_)
      refine r_aload_n dX2_copyNumbers_8 rfl rfl ?_
      refine r_iload_n dX2_copyNumbers_9 rfl rfl ?_
      refine r_iload_n dX2_copyNumbers_10 rfl rfl ?_
      refine r_aload_n dX2_copyNumbers_11 rfl rfl ?_
      refine r_getI (N := 8) dX2_copyNumbers_12 fwX2_28 (by first | exact hc1 | exact hc2 | exact hc3 | rfl | exact hB1 | exact hB2 | exact hB3) (Nat.le_of_ble_eq_true rfl) rfl ?_
      rw [m5]
      refine r_icmp_ge 26 dX2_copyNumbers_15 (by decide) (fun c_15 => ?_) (fun c_15 => absurd (nI_le (by omega) (by omega)) c_15)
      refine r_iconst 0 dX2_copyNumbers_26 (by decide) ?_
      refine r_iastore dX2_copyNumbers_27 (by first | exact hc1 | exact hc2 | exact hc3 | rfl | exact hB1 | exact hB2 | exact hB3) (by exact vp_in_nI (by omega) (by decide)) ?_
      rw [hcl]
      refine r_iinc_2 (_ + 1) dX2_copyNumbers_28 rfl (Nat.le_of_ble_eq_true rfl) rfl ?_
      refine r_goto 2 dX2_copyNumbers_31 (by decide) ?_
      rw [nI_1]
      exact w'
set_option maxHeartbeats 600000 in
set_option maxRecDepth 100000 in
theorem m_res_lp {t mn : Nat} {M0 : Mem} {f : Nat → Int32} (ht : t < 8) (hmn : mn ≤ 4) (en : ∀ j, j < mn → M0 58 (4 * t + j) = f j) : ∀ (e k : Nat) (M : Mem), k + e = mn → M 40 31 = nI mn → (∀ j, j < k → M 61 j = f j) → FrS [61] [] M0 M → ∃ M', (∀ Q, WP mX6_result 90 [some (.ref 40), some (.int (nI t)), none] [] 0 0 (shp, rfs, M') Q → WP mX6_result 60 [some (.ref 40), some (.int (nI t)), some (.int (nI k))] [] 0 0 (shp, rfs, M) Q) ∧ (∀ j, j < mn → M' 61 j = f j) ∧ FrS [61] [] M0 M' := by
  intro e
  induction e with
  | zero =>
    intro k M hk e31 h F
    have hk : k = mn := by omega
    subst hk
    refine ⟨M, fun Q hq => ?_, h, F⟩
    refine r_iload_n dX6_result_60 rfl rfl ?_
    refine r_aload_n dX6_result_61 rfl rfl ?_
    refine r_getI (N := 35) dX6_result_62 fwX6_226 (by first | rfl | assumption) (Nat.le_of_ble_eq_true rfl) rfl ?_
    rw [e31]
    refine r_icmp_ge 90 dX6_result_65 (by decide) (fun c_65 => ?_) (fun c_65 => absurd (nI_le (Nat.le_refl _) (by omega)) c_65)
    exact r_weak (by simp [lvle] <;> (repeat' apply And.intro) <;> first | rfl | decide) hq
  | succ e ih =>
    intro k M hk e31 h F
    have hcl : (nI k).toNatClampNeg = k := nI_clamp (by omega)
    have e4 : (4 : Int32) * nI t = nI (4 * t) := pk_mul 4 t
    have hcm : (nI (4 * t + k)).toNatClampNeg = 4 * t + k := nI_clamp (by omega)
    have e58 : M 58 (4 * t + k) = f k := by rw [F 58 _ (by decide) (by simp)]; exact en k (by omega)
    obtain ⟨M', w, i1, i2⟩ := ih (k + 1) (upd2 M 61 k (f k)) (by omega) (by rw [u_nn (by decide)]; exact e31) (fun j hj => by
      by_cases hq : j = k
      · rw [hq, u_ss]
      · rw [u_sn hq]; exact h j (by omega)) (F.upc (by simp))
    refine ⟨M', fun Q hq => ?_, i1, i2⟩
    have w' := w Q hq
    refine r_iload_n dX6_result_60 rfl rfl ?_
    refine r_aload_n dX6_result_61 rfl rfl ?_
    refine r_getI (N := 35) dX6_result_62 fwX6_226 (by first | rfl | assumption) (Nat.le_of_ble_eq_true rfl) rfl ?_
    rw [e31]
    refine r_icmp_ge 90 dX6_result_65 (by decide) (fun c_65 => absurd c_65 (nI_ge (by omega) (by omega))) (fun c_65 => ?_)
    refine r_aload_n dX6_result_68 rfl rfl ?_
    refine r_getR (N := 35) dX6_result_69 fwX6_70 (by first | rfl | assumption) (Nat.le_of_ble_eq_true rfl) rfl (by first | rfl | assumption) ?_
    refine r_iload_n dX6_result_72 rfl rfl ?_
    refine r_aload_n dX6_result_73 rfl rfl ?_
    refine r_getR (N := 35) dX6_result_74 fwX6_61 (by first | rfl | assumption) (Nat.le_of_ble_eq_true rfl) rfl (by first | rfl | assumption) ?_
    refine r_iconst 4 dX6_result_77 (by decide) ?_
    refine r_iload_n dX6_result_78 rfl rfl ?_
    refine r_imul dX6_result_79 ?_
    refine r_iload_n dX6_result_80 rfl rfl ?_
    refine r_iadd dX6_result_81 ?_
    rw [e4, nI_add]
    refine r_iaload dX6_result_82 (by first | rfl | assumption) (by exact vp_in_nI (by omega) (by decide)) ?_
    rw [hcm, e58]
    refine r_iastore dX6_result_83 (by first | rfl | assumption) (by exact vp_in_nI (by omega) (by decide)) ?_
    rw [hcl]
    refine r_iinc_2 (_ + 1) dX6_result_84 rfl (Nat.le_of_ble_eq_true rfl) rfl ?_
    refine r_goto 60 dX6_result_87 (by decide) ?_
    rw [nI_1]
    exact w'
theorem okA.fr {c dn : Nat} {dp : Nat → Int32} {P : PL} {s : SSt} {w is rm rm' t : Nat} (h : okA c dn dp P s w is rm) (hr : rm' ≤ 4) : okA (c + 1) dn dp P (s.1, s.2.1, frT s.2.2.1 t, s.2.2.2) w is rm' := by
  obtain ⟨k1, k2, k3, k4, k5, k6, k7, k8⟩ := h
  exact ⟨k1, k2, ⟨k3.1, okT_fr k3.2.1, k3.2.2⟩, k4, by omega, hr, by show s.1.1 ≤ _; omega, k8⟩
set_option maxHeartbeats 600000 in
set_option maxRecDepth 100000 in
theorem B_result {x : Int32} : Both mX5_result mX6_result [.int x] := by
  refine Both.do (fun M c dn dp P s w is rm rr hc h1 ok => ?_)
  rcases ix3 x 8 (by decide) with h | ⟨t, ht, rfl⟩
  · refine Both.same h1 ok (-2) ?_ (fun M1 h2 => ?_)
    · refine con_of (lv := [some (.ref 0), some (.int x), none]) (by decide) rfl (Nat.le_of_ble_eq_true rfl) (by simp [lvle]) ?_
      refine r_aload_n dX5_result_0 rfl rfl ?_
      refine r_iload_n dX5_result_1 rfl rfl ?_
      refine gV1 (Y := mX5_commandOf) (ci := 5) (N := 10) dX5_result_2 mlX5_102 vkX5_commandOf (by first | rfl | assumption) ⟨by decide, rfl⟩ rfl (x_cmdOf_n h) ?_
      refine r_astore_nN_2 dX5_result_5 rfl (Nat.le_of_ble_eq_true rfl) ?_
      refine r_aload_nN dX5_result_6 rfl rfl ?_
      refine r_ifnonnullN dX5_result_7 ?_
      refine r_bipush (-2) dX5_result_10 (by decide) ?_
      refine r_ireturn dX5_result_12 rfl (Nat.zero_le _) (Nat.zero_le _) ?_
      exact ⟨rfl, rfl⟩
    · refine con_of (lv := [some (.ref 40), some (.int x), none]) (by decide) rfl (Nat.le_of_ble_eq_true rfl) (by simp [lvle]) ?_
      refine r_iload_n dX6_result_0 rfl rfl ?_
      refine gS1 (Y := mX6_isTag) dX6_result_1 mlX6_160 ckX6_isTag skX6_isTag rfl (m_isTag_f (tag7 h)) ?_
      refine r_if_ne 10 dX6_result_4 (by decide) (fun c_4 => absurd rfl c_4) (fun c_4 => ?_)
      refine r_bipush (-2) dX6_result_7 (by decide) ?_
      refine r_ireturn dX6_result_9 rfl (Nat.zero_le _) (Nat.zero_le _) ?_
      exact ⟨rfl, rfl⟩
  · have hcl : (nI t).toNatClampNeg = t := nI_clamp (by omega)
    obtain ⟨hc1, hc2, hc3⟩ := isCm_t t ht
    obtain ⟨a0, a2, a3, a4, a5, a6, a7⟩ := h1.2.1.2.1 t ht
    obtain ⟨o1, o2, o3, o4, o5, o6, o7, o8⟩ := ok.2.2.1.2.1 t ht
    have gt : ∀ M, Gv mX6_isTag [.int (nI t)] M (some (.int 1)) M := fun M => m_isTag_t (M := M) (x := nI t) (nI_pos (by omega)) (tag7n ht)
    have m24 := (memL ht).1
    by_cases hs : s.2.2.1.1 t = 2
    · rw [hs] at a2
      have F0 : FrS [24 + 2 * t, 23] [] M (upd2 M (24 + 2 * t) 2 0) := FrS.rf.upc (by simp)
      have hL : ∀ {M' : Mem}, FrS [24 + 2 * t, 23] [] M M' → FrS clsL [] M M' := fun F => F.mono (by
        intro a ha
        simp only [List.mem_cons, List.not_mem_nil, or_false] at ha
        rcases ha with rfl | rfl
        · exact m24
        · decide) (by simp)
      by_cases hr : s.2.2.1.2.1 t = 0 ∧ s.2.2.1.2.2.2.2.2.1 t = 0
      · rw [hr.1] at a3
        rw [hr.2] at a7
        have nn := (h1.2.1.2.2.1 t ht).2 hs hr.1 hr.2
        obtain ⟨M2, w2, i1, F1⟩ := x_copy_lp (M0 := upd2 M (24 + 2 * t) 2 0) (f := s.2.2.1.2.2.2.2.2.2 t) (isCm_t t ht) (by omega) o4 (by rw [u_sn (by decide)]; exact a5) (fun j hj => by rw [u_nn (by omega)]; exact nn j hj) 4 0 _ (by decide) (fun j hj => absurd hj (by omega)) FrS.rf
        have g2 : Gv mX2_copyNumbers [.ref (24 + 2 * t), .ref 23] (upd2 M (24 + 2 * t) 2 0) none M2 := by
          refine con_of (lv := [some (.ref (24 + 2 * t)), some (.ref 23), none]) (by decide) rfl (Nat.le_of_ble_eq_true rfl) (by simp [lvle]) ?_
          refine r_iconst 0 dX2_copyNumbers_0 (by decide) ?_
          refine r_istore_n2 dX2_copyNumbers_1 rfl (Nat.le_of_ble_eq_true rfl) ?_
          exact w2
        have F2 : FrS [24 + 2 * t, 23] [] M M2 := F0.tr (F1.mono (by simp) (by simp))
        have q2 : ∀ k, M2 (24 + 2 * t) k = upd2 M (24 + 2 * t) 2 0 (24 + 2 * t) k := fun k => F1 _ k (by simp <;> omega) (by simp)
        have i2 := h1.res F2 ht (by rw [q2, u_ss]) (fun k hk => by rw [q2, u_sn hk]) i1
        refine ⟨nI 0, M2, dn, dp, P, _, w, is, s.2.2.1.2.2.2.1 t, s.2.2.1.2.2.2.2.2.2 t, ?_, i2, hL F2, ok.fr o4, fun M1 h2 => ?_⟩
        · refine con_of (lv := [some (.ref 0), some (.int (nI t)), none]) (by decide) rfl (Nat.le_of_ble_eq_true rfl) (by simp [lvle]) ?_
          refine r_aload_n dX5_result_0 rfl rfl ?_
          refine r_iload_n dX5_result_1 rfl rfl ?_
          refine gV1 (Y := mX5_commandOf) (ci := 5) (N := 10) dX5_result_2 mlX5_102 vkX5_commandOf (by first | exact hc1 | exact hc2 | exact hc3 | rfl | exact hB1 | exact hB2 | exact hB3) ⟨by decide, rfl⟩ rfl (x_cmdOf_t ht) ?_
          refine r_astore_n2 dX5_result_5 rfl (Nat.le_of_ble_eq_true rfl) ?_
          refine r_aload_n dX5_result_6 rfl rfl ?_
          refine r_ifnonnull 13 dX5_result_7 (by decide) ?_
          refine r_aload_n dX5_result_13 rfl rfl ?_
          refine r_getI (N := 8) dX5_result_14 fwX5_133 (by first | exact hc1 | exact hc2 | exact hc3 | rfl | exact hB1 | exact hB2 | exact hB3) (Nat.le_of_ble_eq_true rfl) rfl ?_
          refine r_iconst 2 dX5_result_17 (by decide) ?_
          rw [a2]
          refine r_icmp_eq 24 dX5_result_18 (by decide) (fun c_18 => ?_) (fun c_18 => absurd rfl c_18)
          refine r_aload_n dX5_result_24 rfl rfl ?_
          refine r_iconst 0 dX5_result_25 (by decide) ?_
          refine r_putI (N := 8) dX5_result_26 fwX5_133 (by first | exact hc1 | exact hc2 | exact hc3 | rfl | exact hB1 | exact hB2 | exact hB3) (Nat.le_of_ble_eq_true rfl) rfl (Or.inl rfl) rfl rfl ?_
          refine r_aload_n dX5_result_29 rfl rfl ?_
          refine r_getI (N := 8) dX5_result_30 fwX5_136 (by first | exact hc1 | exact hc2 | exact hc3 | rfl | exact hB1 | exact hB2 | exact hB3) (Nat.le_of_ble_eq_true rfl) rfl ?_
          rw [u_sn (by decide), a3]
          refine r_if_ne 51 dX5_result_33 (by decide) (fun c_33 => absurd rfl c_33) (fun c_33 => ?_)
          refine r_aload_n dX5_result_36 rfl rfl ?_
          refine r_getI (N := 8) dX5_result_37 fwX5_139 (by first | exact hc1 | exact hc2 | exact hc3 | rfl | exact hB1 | exact hB2 | exact hB3) (Nat.le_of_ble_eq_true rfl) rfl ?_
          rw [u_sn (by decide), a7]
          refine r_if_ne 51 dX5_result_40 (by decide) (fun c_40 => absurd rfl c_40) (fun c_40 => ?_)
          refine r_aload_n dX5_result_43 rfl rfl ?_
          refine r_aload_n dX5_result_44 rfl rfl ?_
          refine r_getR (N := 10) dX5_result_45 fwX5_48 (by first | exact hc1 | exact hc2 | exact hc3 | rfl | exact hB1 | exact hB2 | exact hB3) (Nat.le_of_ble_eq_true rfl) rfl (by first | exact hc1 | exact hc2 | exact hc3 | rfl | exact hB1 | exact hB2 | exact hB3) ?_
          refine gW1 (Y := mX2_copyNumbers) (ci := 2) (N := 8) dX5_result_48 mlX5_142 vkX2_copyNumbers (by first | exact hc1 | exact hc2 | exact hc3 | rfl | exact hB1 | exact hB2 | exact hB3) ⟨by decide, rfl⟩ rfl g2 ?_
          refine r_aload_n dX5_result_51 rfl rfl ?_
          refine r_getI (N := 8) dX5_result_52 fwX5_139 (by first | exact hc1 | exact hc2 | exact hc3 | rfl | exact hB1 | exact hB2 | exact hB3) (Nat.le_of_ble_eq_true rfl) rfl ?_
          rw [q2, u_sn (by decide), a7]
          refine r_ireturn dX5_result_55 rfl (Nat.zero_le _) (Nat.zero_le _) ?_
          exact ⟨rfl, rfl⟩
        · obtain ⟨b2, b3, b4, b5, b6, b7⟩ := h2.2.1.2.1 t ht
          rw [hs] at b2
          rw [hr.1] at b3
          rw [hr.2] at b7
          have nm := (h2.2.1.2.2.1 t ht).2 hs hr.1 hr.2
          obtain ⟨M3, w3, j1, G1⟩ := m_res_lp (M0 := upd2 (upd2 M1 54 t 0) 40 31 (nI (s.2.2.1.2.2.2.1 t))) (f := s.2.2.1.2.2.2.2.2.2 t) ht o4 (fun j hj => by rw [u_nn (by decide), u_nn (by decide)]; exact nm j hj) (s.2.2.1.2.2.2.1 t) 0 _ (by omega) u_ss (fun j hj => absurd hj (by omega)) FrS.rf
          have G0 : FrS [54, 61] [(40, 31)] M1 (upd2 (upd2 M1 54 t 0) 40 31 (nI (s.2.2.1.2.2.2.1 t))) := (FrS.rf.upc (by decide)).ups (by decide)
          have G2 : FrS [54, 61] [(40, 31)] M1 M3 := G0.tr (G1.mono (by decide) (by simp))
          refine ⟨M3, ?_, h2.res G2 (by rw [G1 54 t (by decide) (by simp), u_nn (by decide), u_ss]) (fun k hk => by rw [G1 54 k (by decide) (by simp), u_nn (by decide), u_sn hk]) (by rw [G1 40 31 (by decide) (by simp), u_ss]) j1, G2.mono (by decide) (by decide)⟩
          refine con_of (lv := [some (.ref 40), some (.int (nI t)), none]) (by decide) rfl (Nat.le_of_ble_eq_true rfl) (by simp [lvle]) ?_
          refine r_iload_n dX6_result_0 rfl rfl ?_
          refine gS1 (Y := mX6_isTag) dX6_result_1 mlX6_160 ckX6_isTag skX6_isTag rfl (gt _) ?_
          refine r_if_ne 10 dX6_result_4 (by decide) (fun c_4 => ?_) (fun c_4 => absurd c_4 (by decide))
          refine r_aload_n dX6_result_10 rfl rfl ?_
          refine r_getR (N := 35) dX6_result_11 fwX6_49 (by first | rfl | assumption) (Nat.le_of_ble_eq_true rfl) rfl (by first | rfl | assumption) ?_
          refine r_iload_n dX6_result_14 rfl rfl ?_
          refine r_iaload dX6_result_15 (by first | rfl | assumption) (by exact vp_in_nI ht (by decide)) ?_
          refine r_iconst 2 dX6_result_16 (by decide) ?_
          rw [hcl, b2]
          refine r_icmp_eq 23 dX6_result_17 (by decide) (fun c_17 => ?_) (fun c_17 => absurd rfl c_17)
          refine r_aload_n dX6_result_23 rfl rfl ?_
          refine r_getR (N := 35) dX6_result_24 fwX6_49 (by first | rfl | assumption) (Nat.le_of_ble_eq_true rfl) rfl (by first | rfl | assumption) ?_
          refine r_iload_n dX6_result_27 rfl rfl ?_
          refine r_iconst 0 dX6_result_28 (by decide) ?_
          refine r_iastore dX6_result_29 (by first | rfl | assumption) (by exact vp_in_nI ht (by decide)) ?_
          rw [hcl]
          refine r_aload_n dX6_result_30 rfl rfl ?_
          refine r_getR (N := 35) dX6_result_31 fwX6_52 (by first | rfl | assumption) (Nat.le_of_ble_eq_true rfl) rfl (by first | rfl | assumption) ?_
          refine r_iload_n dX6_result_34 rfl rfl ?_
          refine r_iaload dX6_result_35 (by first | rfl | assumption) (by exact vp_in_nI ht (by decide)) ?_
          rw [hcl, u_nn (show (55 : Nat) ≠ 54 by decide), b3]
          refine r_if_ne 90 dX6_result_36 (by decide) (fun c_36 => absurd rfl c_36) (fun c_36 => ?_)
          refine r_aload_n dX6_result_39 rfl rfl ?_
          refine r_getR (N := 35) dX6_result_40 fwX6_67 (by first | rfl | assumption) (Nat.le_of_ble_eq_true rfl) rfl (by first | rfl | assumption) ?_
          refine r_iload_n dX6_result_43 rfl rfl ?_
          refine r_iaload dX6_result_44 (by first | rfl | assumption) (by exact vp_in_nI ht (by decide)) ?_
          rw [hcl, u_nn (show (60 : Nat) ≠ 54 by decide), b7]
          refine r_if_ne 90 dX6_result_45 (by decide) (fun c_45 => absurd rfl c_45) (fun c_45 => ?_)
          refine r_aload_n dX6_result_48 rfl rfl ?_
          refine r_aload_n dX6_result_49 rfl rfl ?_
          refine r_getR (N := 35) dX6_result_50 fwX6_58 (by first | rfl | assumption) (Nat.le_of_ble_eq_true rfl) rfl (by first | rfl | assumption) ?_
          refine r_iload_n dX6_result_53 rfl rfl ?_
          refine r_iaload dX6_result_54 (by first | rfl | assumption) (by exact vp_in_nI ht (by decide)) ?_
          rw [hcl, u_nn (show (57 : Nat) ≠ 54 by decide), b5]
          refine r_putI (N := 35) dX6_result_55 fwX6_226 (by first | rfl | assumption) (Nat.le_of_ble_eq_true rfl) rfl (Or.inl rfl) rfl rfl ?_
          refine r_iconst 0 dX6_result_58 (by decide) ?_
          refine r_istore_n2 dX6_result_59 rfl (Nat.le_of_ble_eq_true rfl) ?_
          refine w3 _ ?_
          refine r_aload_n dX6_result_90 rfl rfl ?_
          refine r_getR (N := 35) dX6_result_91 fwX6_67 (by first | rfl | assumption) (Nat.le_of_ble_eq_true rfl) rfl (by first | rfl | assumption) ?_
          refine r_iload_n dX6_result_94 rfl rfl ?_
          refine r_iaload dX6_result_95 (by first | rfl | assumption) (by exact vp_in_nI ht (by decide)) ?_
          refine r_ireturn dX6_result_96 rfl (Nat.zero_le _) (Nat.zero_le _) ?_
          rw [hcl, G2 60 t (by decide) (by simp), b7]
          exact ⟨rfl, rfl⟩
      · have i2 := h1.res (rm' := rm) (rr' := rr) F0 ht u_ss (fun k hk => u_sn hk) (fun i hi => by rw [u_nn (by omega)]; exact h1.2.2.2 i hi)
        have hk3 : s.2.2.1.2.1 t = 0 → ¬ nI (s.2.2.1.2.2.2.2.2.1 t) = 0 := fun z q => hr ⟨z, (nI_eq (a := s.2.2.1.2.2.2.2.2.1 t) (b := 0) (by omega) (by decide)).mp q⟩
        refine ⟨nI (s.2.2.1.2.2.2.2.2.1 t), _, dn, dp, P, _, w, is, rm, rr, ?_, i2, hL F0, ok.fr ok.2.2.2.2.2.1, fun M1 h2 => ?_⟩
        · by_cases h3 : s.2.2.1.2.1 t = 0
          · have h4 := hk3 h3
            rw [h3] at a3
            refine con_of (lv := [some (.ref 0), some (.int (nI t)), none]) (by decide) rfl (Nat.le_of_ble_eq_true rfl) (by simp [lvle]) ?_
            refine r_aload_n dX5_result_0 rfl rfl ?_
            refine r_iload_n dX5_result_1 rfl rfl ?_
            refine gV1 (Y := mX5_commandOf) (ci := 5) (N := 10) dX5_result_2 mlX5_102 vkX5_commandOf (by first | exact hc1 | exact hc2 | exact hc3 | rfl | exact hB1 | exact hB2 | exact hB3) ⟨by decide, rfl⟩ rfl (x_cmdOf_t ht) ?_
            refine r_astore_n2 dX5_result_5 rfl (Nat.le_of_ble_eq_true rfl) ?_
            refine r_aload_n dX5_result_6 rfl rfl ?_
            refine r_ifnonnull 13 dX5_result_7 (by decide) ?_
            refine r_aload_n dX5_result_13 rfl rfl ?_
            refine r_getI (N := 8) dX5_result_14 fwX5_133 (by first | exact hc1 | exact hc2 | exact hc3 | rfl | exact hB1 | exact hB2 | exact hB3) (Nat.le_of_ble_eq_true rfl) rfl ?_
            refine r_iconst 2 dX5_result_17 (by decide) ?_
            rw [a2]
            refine r_icmp_eq 24 dX5_result_18 (by decide) (fun c_18 => ?_) (fun c_18 => absurd rfl c_18)
            refine r_aload_n dX5_result_24 rfl rfl ?_
            refine r_iconst 0 dX5_result_25 (by decide) ?_
            refine r_putI (N := 8) dX5_result_26 fwX5_133 (by first | exact hc1 | exact hc2 | exact hc3 | rfl | exact hB1 | exact hB2 | exact hB3) (Nat.le_of_ble_eq_true rfl) rfl (Or.inl rfl) rfl rfl ?_
            refine r_aload_n dX5_result_29 rfl rfl ?_
            refine r_getI (N := 8) dX5_result_30 fwX5_136 (by first | exact hc1 | exact hc2 | exact hc3 | rfl | exact hB1 | exact hB2 | exact hB3) (Nat.le_of_ble_eq_true rfl) rfl ?_
            rw [u_sn (by decide), a3]
            refine r_if_ne 51 dX5_result_33 (by decide) (fun c_33 => absurd rfl c_33) (fun c_33 => ?_)
            refine r_aload_n dX5_result_36 rfl rfl ?_
            refine r_getI (N := 8) dX5_result_37 fwX5_139 (by first | exact hc1 | exact hc2 | exact hc3 | rfl | exact hB1 | exact hB2 | exact hB3) (Nat.le_of_ble_eq_true rfl) rfl ?_
            rw [u_sn (by decide), a7]
            refine r_if_ne 51 dX5_result_40 (by decide) (fun c_40 => ?_) (fun c_40 => absurd c_40 h4)
            refine r_aload_n dX5_result_51 rfl rfl ?_
            refine r_getI (N := 8) dX5_result_52 fwX5_139 (by first | exact hc1 | exact hc2 | exact hc3 | rfl | exact hB1 | exact hB2 | exact hB3) (Nat.le_of_ble_eq_true rfl) rfl ?_
            rw [u_sn (by decide), a7]
            refine r_ireturn dX5_result_55 rfl (Nat.zero_le _) (Nat.zero_le _) ?_
            exact ⟨rfl, rfl⟩
          · have h4 : ¬ nI (s.2.2.1.2.1 t) = 0 := nI_ne0 (by omega) (by omega)
            refine con_of (lv := [some (.ref 0), some (.int (nI t)), none]) (by decide) rfl (Nat.le_of_ble_eq_true rfl) (by simp [lvle]) ?_
            refine r_aload_n dX5_result_0 rfl rfl ?_
            refine r_iload_n dX5_result_1 rfl rfl ?_
            refine gV1 (Y := mX5_commandOf) (ci := 5) (N := 10) dX5_result_2 mlX5_102 vkX5_commandOf (by first | exact hc1 | exact hc2 | exact hc3 | rfl | exact hB1 | exact hB2 | exact hB3) ⟨by decide, rfl⟩ rfl (x_cmdOf_t ht) ?_
            refine r_astore_n2 dX5_result_5 rfl (Nat.le_of_ble_eq_true rfl) ?_
            refine r_aload_n dX5_result_6 rfl rfl ?_
            refine r_ifnonnull 13 dX5_result_7 (by decide) ?_
            refine r_aload_n dX5_result_13 rfl rfl ?_
            refine r_getI (N := 8) dX5_result_14 fwX5_133 (by first | exact hc1 | exact hc2 | exact hc3 | rfl | exact hB1 | exact hB2 | exact hB3) (Nat.le_of_ble_eq_true rfl) rfl ?_
            refine r_iconst 2 dX5_result_17 (by decide) ?_
            rw [a2]
            refine r_icmp_eq 24 dX5_result_18 (by decide) (fun c_18 => ?_) (fun c_18 => absurd rfl c_18)
            refine r_aload_n dX5_result_24 rfl rfl ?_
            refine r_iconst 0 dX5_result_25 (by decide) ?_
            refine r_putI (N := 8) dX5_result_26 fwX5_133 (by first | exact hc1 | exact hc2 | exact hc3 | rfl | exact hB1 | exact hB2 | exact hB3) (Nat.le_of_ble_eq_true rfl) rfl (Or.inl rfl) rfl rfl ?_
            refine r_aload_n dX5_result_29 rfl rfl ?_
            refine r_getI (N := 8) dX5_result_30 fwX5_136 (by first | exact hc1 | exact hc2 | exact hc3 | rfl | exact hB1 | exact hB2 | exact hB3) (Nat.le_of_ble_eq_true rfl) rfl ?_
            rw [u_sn (by decide), a3]
            refine r_if_ne 51 dX5_result_33 (by decide) (fun c_33 => ?_) (fun c_33 => absurd c_33 h4)
            refine r_aload_n dX5_result_51 rfl rfl ?_
            refine r_getI (N := 8) dX5_result_52 fwX5_139 (by first | exact hc1 | exact hc2 | exact hc3 | rfl | exact hB1 | exact hB2 | exact hB3) (Nat.le_of_ble_eq_true rfl) rfl ?_
            rw [u_sn (by decide), a7]
            refine r_ireturn dX5_result_55 rfl (Nat.zero_le _) (Nat.zero_le _) ?_
            exact ⟨rfl, rfl⟩
        · obtain ⟨b2, b3, b4, b5, b6, b7⟩ := h2.2.1.2.1 t ht
          rw [hs] at b2
          have G0 : FrS [54, 61] [(40, 31)] M1 (upd2 M1 54 t 0) := FrS.rf.upc (by decide)
          refine ⟨upd2 M1 54 t 0, ?_, h2.res (rm' := rm) (rr' := rr) G0 u_ss (fun k hk => u_sn hk) (by rw [u_nn (by decide)]; exact h2.2.2.2.1) (fun i hi => by rw [u_nn (by decide)]; exact h2.2.2.2.2 i hi), G0.mono (by decide) (by decide)⟩
          by_cases h3 : s.2.2.1.2.1 t = 0
          · have h4 := hk3 h3
            rw [h3] at b3
            refine con_of (lv := [some (.ref 40), some (.int (nI t)), none]) (by decide) rfl (Nat.le_of_ble_eq_true rfl) (by simp [lvle]) ?_
            refine r_iload_n dX6_result_0 rfl rfl ?_
            refine gS1 (Y := mX6_isTag) dX6_result_1 mlX6_160 ckX6_isTag skX6_isTag rfl (gt _) ?_
            refine r_if_ne 10 dX6_result_4 (by decide) (fun c_4 => ?_) (fun c_4 => absurd c_4 (by decide))
            refine r_aload_n dX6_result_10 rfl rfl ?_
            refine r_getR (N := 35) dX6_result_11 fwX6_49 (by first | rfl | assumption) (Nat.le_of_ble_eq_true rfl) rfl (by first | rfl | assumption) ?_
            refine r_iload_n dX6_result_14 rfl rfl ?_
            refine r_iaload dX6_result_15 (by first | rfl | assumption) (by exact vp_in_nI ht (by decide)) ?_
            refine r_iconst 2 dX6_result_16 (by decide) ?_
            rw [hcl, b2]
            refine r_icmp_eq 23 dX6_result_17 (by decide) (fun c_17 => ?_) (fun c_17 => absurd rfl c_17)
            refine r_aload_n dX6_result_23 rfl rfl ?_
            refine r_getR (N := 35) dX6_result_24 fwX6_49 (by first | rfl | assumption) (Nat.le_of_ble_eq_true rfl) rfl (by first | rfl | assumption) ?_
            refine r_iload_n dX6_result_27 rfl rfl ?_
            refine r_iconst 0 dX6_result_28 (by decide) ?_
            refine r_iastore dX6_result_29 (by first | rfl | assumption) (by exact vp_in_nI ht (by decide)) ?_
            rw [hcl]
            refine r_aload_n dX6_result_30 rfl rfl ?_
            refine r_getR (N := 35) dX6_result_31 fwX6_52 (by first | rfl | assumption) (Nat.le_of_ble_eq_true rfl) rfl (by first | rfl | assumption) ?_
            refine r_iload_n dX6_result_34 rfl rfl ?_
            refine r_iaload dX6_result_35 (by first | rfl | assumption) (by exact vp_in_nI ht (by decide)) ?_
            rw [hcl, u_nn (show (55 : Nat) ≠ 54 by decide), b3]
            refine r_if_ne 90 dX6_result_36 (by decide) (fun c_36 => absurd rfl c_36) (fun c_36 => ?_)
            refine r_aload_n dX6_result_39 rfl rfl ?_
            refine r_getR (N := 35) dX6_result_40 fwX6_67 (by first | rfl | assumption) (Nat.le_of_ble_eq_true rfl) rfl (by first | rfl | assumption) ?_
            refine r_iload_n dX6_result_43 rfl rfl ?_
            refine r_iaload dX6_result_44 (by first | rfl | assumption) (by exact vp_in_nI ht (by decide)) ?_
            rw [hcl, u_nn (show (60 : Nat) ≠ 54 by decide), b7]
            refine r_if_ne 90 dX6_result_45 (by decide) (fun c_45 => ?_) (fun c_45 => absurd c_45 h4)
            refine r_aload_n dX6_result_90 rfl rfl ?_
            refine r_getR (N := 35) dX6_result_91 fwX6_67 (by first | rfl | assumption) (Nat.le_of_ble_eq_true rfl) rfl (by first | rfl | assumption) ?_
            refine r_iload_n dX6_result_94 rfl rfl ?_
            refine r_iaload dX6_result_95 (by first | rfl | assumption) (by exact vp_in_nI ht (by decide)) ?_
            rw [hcl, u_nn (show (60 : Nat) ≠ 54 by decide), b7]
            refine r_ireturn dX6_result_96 rfl (Nat.zero_le _) (Nat.zero_le _) ?_
            exact ⟨rfl, rfl⟩
          · have h4 : ¬ nI (s.2.2.1.2.1 t) = 0 := nI_ne0 (by omega) (by omega)
            refine con_of (lv := [some (.ref 40), some (.int (nI t)), none]) (by decide) rfl (Nat.le_of_ble_eq_true rfl) (by simp [lvle]) ?_
            refine r_iload_n dX6_result_0 rfl rfl ?_
            refine gS1 (Y := mX6_isTag) dX6_result_1 mlX6_160 ckX6_isTag skX6_isTag rfl (gt _) ?_
            refine r_if_ne 10 dX6_result_4 (by decide) (fun c_4 => ?_) (fun c_4 => absurd c_4 (by decide))
            refine r_aload_n dX6_result_10 rfl rfl ?_
            refine r_getR (N := 35) dX6_result_11 fwX6_49 (by first | rfl | assumption) (Nat.le_of_ble_eq_true rfl) rfl (by first | rfl | assumption) ?_
            refine r_iload_n dX6_result_14 rfl rfl ?_
            refine r_iaload dX6_result_15 (by first | rfl | assumption) (by exact vp_in_nI ht (by decide)) ?_
            refine r_iconst 2 dX6_result_16 (by decide) ?_
            rw [hcl, b2]
            refine r_icmp_eq 23 dX6_result_17 (by decide) (fun c_17 => ?_) (fun c_17 => absurd rfl c_17)
            refine r_aload_n dX6_result_23 rfl rfl ?_
            refine r_getR (N := 35) dX6_result_24 fwX6_49 (by first | rfl | assumption) (Nat.le_of_ble_eq_true rfl) rfl (by first | rfl | assumption) ?_
            refine r_iload_n dX6_result_27 rfl rfl ?_
            refine r_iconst 0 dX6_result_28 (by decide) ?_
            refine r_iastore dX6_result_29 (by first | rfl | assumption) (by exact vp_in_nI ht (by decide)) ?_
            rw [hcl]
            refine r_aload_n dX6_result_30 rfl rfl ?_
            refine r_getR (N := 35) dX6_result_31 fwX6_52 (by first | rfl | assumption) (Nat.le_of_ble_eq_true rfl) rfl (by first | rfl | assumption) ?_
            refine r_iload_n dX6_result_34 rfl rfl ?_
            refine r_iaload dX6_result_35 (by first | rfl | assumption) (by exact vp_in_nI ht (by decide)) ?_
            rw [hcl, u_nn (show (55 : Nat) ≠ 54 by decide), b3]
            refine r_if_ne 90 dX6_result_36 (by decide) (fun c_36 => ?_) (fun c_36 => absurd c_36 h4)
            refine r_aload_n dX6_result_90 rfl rfl ?_
            refine r_getR (N := 35) dX6_result_91 fwX6_67 (by first | rfl | assumption) (Nat.le_of_ble_eq_true rfl) rfl (by first | rfl | assumption) ?_
            refine r_iload_n dX6_result_94 rfl rfl ?_
            refine r_iaload dX6_result_95 (by first | rfl | assumption) (by exact vp_in_nI ht (by decide)) ?_
            rw [hcl, u_nn (show (60 : Nat) ≠ 54 by decide), b7]
            refine r_ireturn dX6_result_96 rfl (Nat.zero_le _) (Nat.zero_le _) ?_
            exact ⟨rfl, rfl⟩
    · have hne : ¬ nI (s.2.2.1.1 t) = 2 := fun q => hs ((nI_eq (a := s.2.2.1.1 t) (b := 2) (by omega) (by decide)).mp q)
      refine Both.same h1 ok (-4) ?_ (fun M1 h2 => ?_)
      · refine con_of (lv := [some (.ref 0), some (.int (nI t)), none]) (by decide) rfl (Nat.le_of_ble_eq_true rfl) (by simp [lvle]) ?_
        refine r_aload_n dX5_result_0 rfl rfl ?_
        refine r_iload_n dX5_result_1 rfl rfl ?_
        refine gV1 (Y := mX5_commandOf) (ci := 5) (N := 10) dX5_result_2 mlX5_102 vkX5_commandOf (by first | exact hc1 | exact hc2 | exact hc3 | rfl | exact hB1 | exact hB2 | exact hB3) ⟨by decide, rfl⟩ rfl (x_cmdOf_t ht) ?_
        refine r_astore_n2 dX5_result_5 rfl (Nat.le_of_ble_eq_true rfl) ?_
        refine r_aload_n dX5_result_6 rfl rfl ?_
        refine r_ifnonnull 13 dX5_result_7 (by decide) ?_
        refine r_aload_n dX5_result_13 rfl rfl ?_
        refine r_getI (N := 8) dX5_result_14 fwX5_133 (by first | exact hc1 | exact hc2 | exact hc3 | rfl | exact hB1 | exact hB2 | exact hB3) (Nat.le_of_ble_eq_true rfl) rfl ?_
        refine r_iconst 2 dX5_result_17 (by decide) ?_
        rw [a2]
        refine r_icmp_eq 24 dX5_result_18 (by decide) (fun c_18 => absurd c_18 hne) (fun c_18 => ?_)
        refine r_bipush (-4) dX5_result_21 (by decide) ?_
        refine r_ireturn dX5_result_23 rfl (Nat.zero_le _) (Nat.zero_le _) ?_
        exact ⟨rfl, rfl⟩
      · have b2 := (h2.2.1.2.1 t ht).1
        refine con_of (lv := [some (.ref 40), some (.int (nI t)), none]) (by decide) rfl (Nat.le_of_ble_eq_true rfl) (by simp [lvle]) ?_
        refine r_iload_n dX6_result_0 rfl rfl ?_
        refine gS1 (Y := mX6_isTag) dX6_result_1 mlX6_160 ckX6_isTag skX6_isTag rfl (gt _) ?_
        refine r_if_ne 10 dX6_result_4 (by decide) (fun c_4 => ?_) (fun c_4 => absurd c_4 (by decide))
        refine r_aload_n dX6_result_10 rfl rfl ?_
        refine r_getR (N := 35) dX6_result_11 fwX6_49 (by first | rfl | assumption) (Nat.le_of_ble_eq_true rfl) rfl (by first | rfl | assumption) ?_
        refine r_iload_n dX6_result_14 rfl rfl ?_
        refine r_iaload dX6_result_15 (by first | rfl | assumption) (by exact vp_in_nI ht (by decide)) ?_
        refine r_iconst 2 dX6_result_16 (by decide) ?_
        rw [hcl, b2]
        refine r_icmp_eq 23 dX6_result_17 (by decide) (fun c_17 => absurd c_17 hne) (fun c_17 => ?_)
        refine r_bipush (-4) dX6_result_20 (by decide) ?_
        refine r_ireturn dX6_result_22 rfl (Nat.zero_le _) (Nat.zero_le _) ?_
        exact ⟨rfl, rfl⟩
