theorem sub1 {n : Nat} {x : Int32} (hn : n < 2 ^ 30) (h : x < 0 ∨ nI n ≤ x) : x < 0 ∨ nI n - 1 < x := by
  rcases h with q | q
  · exact Or.inl q
  · rcases Nat.eq_zero_or_pos n with z | z
    · subst z
      refine Or.inr ?_
      rw [i_le] at q
      rw [i_lt]
      have : (nI 0 - 1).toInt = -1 := by decide
      have : (nI 0).toInt = 0 := by decide
      omega
    · refine Or.inr ?_
      rw [show nI n - 1 = nI (n - 1) from pk_sub (a := n) (b := 1) z, i_lt, nI_toInt (by omega)]
      rw [i_le, nI_toInt (by omega)] at q
      omega
theorem sub1n {n j : Nat} (hn : n < 2 ^ 30) (h : j < n) : ¬ nI n - 1 < nI j := by
  rw [show nI n - 1 = nI (n - 1) from pk_sub (a := n) (b := 1) (by omega)]
  exact nI_nlt (by omega) (by omega)
theorem up_le {n j : Nat} {x : Int32} (h : j ≤ n) (hn : n < 2 ^ 31) (q : x < 0 ∨ nI n ≤ x) : x < 0 ∨ nI j ≤ x := q.imp id (fun q => by
  rw [i_le, nI_toInt (by omega)] at q ⊢
  omega)
set_option maxHeartbeats 600000 in
set_option maxRecDepth 100000 in
theorem B_got {x : Int32} : Both mX5_got mX6_got [.int x] := by
  refine Both.tell (fun M c dn dp P s w is rm rr hc h1 h2 ok => ?_)
  have e23 := h1.2.2.2
  have e31 := h2.2.2.2.1
  have e61 := h2.2.2.2.2
  have o := ok.2.2.2.2.2.1
  rcases ix3 x 4 (by decide) with h | ⟨j, hj, rfl⟩
  · refine ⟨0, ?_, ?_⟩
    · refine con_of (lv := [some (.ref 0), some (.int x)]) (by decide) rfl (Nat.le_of_ble_eq_true rfl) (by simp [lvle]) ?_
      refine r_iload_n dX5_got_0 rfl rfl ?_
      refine r_if_lt 22 dX5_got_1 (by decide) (fun c_1 => ?_) (fun c_1 => ?_)
      · refine r_iconst 0 dX5_got_22 (by decide) ?_
        refine r_ireturn dX5_got_23 rfl (Nat.zero_le _) (Nat.zero_le _) ?_
        exact ⟨rfl, rfl⟩
      · refine r_iload_n dX5_got_4 rfl rfl ?_
        refine r_aload_n dX5_got_5 rfl rfl ?_
        refine r_getR (N := 10) dX5_got_6 fwX5_48 (by first | rfl | assumption) (Nat.le_of_ble_eq_true rfl) rfl (by first | rfl | assumption) ?_
        refine r_alen dX5_got_9 (by first | rfl | assumption) (by first | exact Or.inl rfl | exact Or.inr rfl) ?_
        refine r_icmp_ge 22 dX5_got_10 (by decide) (fun c_10 => ?_) (fun c_10 => absurd h (fun q => q.elim c_1 c_10))
        refine r_iconst 0 dX5_got_22 (by decide) ?_
        refine r_ireturn dX5_got_23 rfl (Nat.zero_le _) (Nat.zero_le _) ?_
        exact ⟨rfl, rfl⟩
    · have hf := sub1 (by omega) (up_le o (by decide) h)
      refine con_of (lv := [some (.ref 40), some (.int x)]) (by decide) rfl (Nat.le_of_ble_eq_true rfl) (by simp [lvle]) ?_
      refine r_iload_n dX6_got_0 rfl rfl ?_
      refine r_iconst 0 dX6_got_1 (by decide) ?_
      refine r_aload_n dX6_got_2 rfl rfl ?_
      refine r_getI (N := 35) dX6_got_3 fwX6_226 (by first | rfl | assumption) (Nat.le_of_ble_eq_true rfl) rfl ?_
      refine r_iconst 1 dX6_got_6 (by decide) ?_
      rw [e31]
      refine r_isub dX6_got_7 ?_
      refine gS3 (Y := mX6_in) dX6_got_8 mlX6_81 ckX6_in skX6_in rfl (m_in_f hf) ?_
      refine r_if_eq 23 dX6_got_11 (by decide) (fun c_11 => ?_) (fun c_11 => absurd rfl c_11)
      refine r_iconst 0 dX6_got_23 (by decide) ?_
      refine r_ireturn dX6_got_24 rfl (Nat.zero_le _) (Nat.zero_le _) ?_
      exact ⟨rfl, rfl⟩
  · have hcl : (nI j).toNatClampNeg = j := nI_clamp (by omega)
    have e := e23 j hj
    refine ⟨if j < rm then rr j else 0, ?_, ?_⟩
    · refine con_of (lv := [some (.ref 0), some (.int (nI j))]) (by decide) rfl (Nat.le_of_ble_eq_true rfl) (by simp [lvle]) ?_
      refine r_iload_n dX5_got_0 rfl rfl ?_
      refine r_if_lt 22 dX5_got_1 (by decide) (fun c_1 => absurd c_1 (nI_pos (by omega))) (fun c_1 => ?_)
      refine r_iload_n dX5_got_4 rfl rfl ?_
      refine r_aload_n dX5_got_5 rfl rfl ?_
      refine r_getR (N := 10) dX5_got_6 fwX5_48 (by first | rfl | assumption) (Nat.le_of_ble_eq_true rfl) rfl (by first | rfl | assumption) ?_
      refine r_alen dX5_got_9 (by first | rfl | assumption) (by first | exact Or.inl rfl | exact Or.inr rfl) ?_
      refine r_icmp_ge 22 dX5_got_10 (by decide) (fun c_10 => absurd c_10 (nI_ge (a := j) (b := 4) hj (by decide))) (fun c_10 => ?_)
      refine r_aload_n dX5_got_13 rfl rfl ?_
      refine r_getR (N := 10) dX5_got_14 fwX5_48 (by first | rfl | assumption) (Nat.le_of_ble_eq_true rfl) rfl (by first | rfl | assumption) ?_
      refine r_iload_n dX5_got_17 rfl rfl ?_
      refine r_iaload dX5_got_18 (by first | rfl | assumption) (by exact vp_in_nI hj (by decide)) ?_
      refine r_goto 23 dX5_got_19 (by decide) ?_
      refine r_ireturn dX5_got_23 rfl (Nat.zero_le _) (Nat.zero_le _) ?_
      rw [hcl, e]
      exact ⟨rfl, rfl⟩
    · by_cases hr : j < rm
      · rw [if_pos hr]
        have e2 := e61 j hr
        refine con_of (lv := [some (.ref 40), some (.int (nI j))]) (by decide) rfl (Nat.le_of_ble_eq_true rfl) (by simp [lvle]) ?_
        refine r_iload_n dX6_got_0 rfl rfl ?_
        refine r_iconst 0 dX6_got_1 (by decide) ?_
        refine r_aload_n dX6_got_2 rfl rfl ?_
        refine r_getI (N := 35) dX6_got_3 fwX6_226 (by first | rfl | assumption) (Nat.le_of_ble_eq_true rfl) rfl ?_
        refine r_iconst 1 dX6_got_6 (by decide) ?_
        rw [e31]
        refine r_isub dX6_got_7 ?_
        refine gS3 (Y := mX6_in) dX6_got_8 mlX6_81 ckX6_in skX6_in rfl (m_in_t (nI_pos (by omega)) (sub1n (by omega) hr)) ?_
        refine r_if_eq 23 dX6_got_11 (by decide) (fun c_11 => absurd c_11 (by decide)) (fun c_11 => ?_)
        refine r_aload_n dX6_got_14 rfl rfl ?_
        refine r_getR (N := 35) dX6_got_15 fwX6_70 (by first | rfl | assumption) (Nat.le_of_ble_eq_true rfl) rfl (by first | rfl | assumption) ?_
        refine r_iload_n dX6_got_18 rfl rfl ?_
        refine r_iaload dX6_got_19 (by first | rfl | assumption) (by exact vp_in_nI (by omega) (by decide)) ?_
        refine r_goto 24 dX6_got_20 (by decide) ?_
        refine r_ireturn dX6_got_24 rfl (Nat.zero_le _) (Nat.zero_le _) ?_
        rw [hcl, e2]
        exact ⟨rfl, rfl⟩
      · rw [if_neg hr]
        have hf := sub1 (n := rm) (x := nI j) (by omega) (Or.inr (nI_le (by omega) (by omega)))
        refine con_of (lv := [some (.ref 40), some (.int (nI j))]) (by decide) rfl (Nat.le_of_ble_eq_true rfl) (by simp [lvle]) ?_
        refine r_iload_n dX6_got_0 rfl rfl ?_
        refine r_iconst 0 dX6_got_1 (by decide) ?_
        refine r_aload_n dX6_got_2 rfl rfl ?_
        refine r_getI (N := 35) dX6_got_3 fwX6_226 (by first | rfl | assumption) (Nat.le_of_ble_eq_true rfl) rfl ?_
        refine r_iconst 1 dX6_got_6 (by decide) ?_
        rw [e31]
        refine r_isub dX6_got_7 ?_
        refine gS3 (Y := mX6_in) dX6_got_8 mlX6_81 ckX6_in skX6_in rfl (m_in_f hf) ?_
        refine r_if_eq 23 dX6_got_11 (by decide) (fun c_11 => ?_) (fun c_11 => absurd rfl c_11)
        refine r_iconst 0 dX6_got_23 (by decide) ?_
        refine r_ireturn dX6_got_24 rfl (Nat.zero_le _) (Nat.zero_le _) ?_
        exact ⟨rfl, rfl⟩
set_option maxHeartbeats 600000 in
set_option maxRecDepth 100000 in
theorem B_state {x : Int32} : Both mX5_state mX6_state [.int x] := by
  refine Both.tell (fun M c dn dp P s w is rm rr hc h1 h2 ok => ?_)
  rcases ix3 x 8 (by decide) with h | ⟨t, ht, rfl⟩
  · refine ⟨-2, ?_, ?_⟩
    · refine con_of (lv := [some (.ref 0), some (.int x), none]) (by decide) rfl (Nat.le_of_ble_eq_true rfl) (by simp [lvle]) ?_
      refine r_aload_n dX5_state_0 rfl rfl ?_
      refine r_iload_n dX5_state_1 rfl rfl ?_
      refine gV1 (Y := mX5_commandOf) (ci := 5) (N := 10) dX5_state_2 mlX5_102 vkX5_commandOf (by first | rfl | assumption) ⟨by decide, rfl⟩ rfl (x_cmdOf_n h) ?_
      refine r_astore_nN_2 dX5_state_5 rfl (Nat.le_of_ble_eq_true rfl) ?_
      refine r_aload_nN dX5_state_6 rfl rfl ?_
      refine r_ifnonnullN dX5_state_7 ?_
      refine r_bipush (-2) dX5_state_10 (by decide) ?_
      refine r_goto 19 dX5_state_12 (by decide) ?_
      refine r_ireturn dX5_state_19 rfl (Nat.zero_le _) (Nat.zero_le _) ?_
      exact ⟨rfl, rfl⟩
    · refine con_of (lv := [some (.ref 40), some (.int x)]) (by decide) rfl (Nat.le_of_ble_eq_true rfl) (by simp [lvle]) ?_
      refine r_iload_n dX6_state_0 rfl rfl ?_
      refine gS1 (Y := mX6_isTag) dX6_state_1 mlX6_160 ckX6_isTag skX6_isTag rfl (m_isTag_f (tag7 h)) ?_
      refine r_if_eq 16 dX6_state_4 (by decide) (fun c_4 => ?_) (fun c_4 => absurd rfl c_4)
      refine r_bipush (-2) dX6_state_16 (by decide) ?_
      refine r_ireturn dX6_state_18 rfl (Nat.zero_le _) (Nat.zero_le _) ?_
      exact ⟨rfl, rfl⟩
  · have hcl : (nI t).toNatClampNeg = t := nI_clamp (by omega)
    have e1 := (h1.2.1.2.1 t ht).2.1
    have e2 := (h2.2.1.2.1 t ht).1
    have g := m_isTag_t (M := M) (x := nI t) (nI_pos (by omega)) (tag7n ht)
    refine ⟨nI (s.2.2.1.1 t), ?_, ?_⟩
    · obtain ⟨hc1, hc2, hc3⟩ := isCm_t t ht
      refine con_of (lv := [some (.ref 0), some (.int (nI t)), none]) (by decide) rfl (Nat.le_of_ble_eq_true rfl) (by simp [lvle]) ?_
      refine r_aload_n dX5_state_0 rfl rfl ?_
      refine r_iload_n dX5_state_1 rfl rfl ?_
      refine gV1 (Y := mX5_commandOf) (ci := 5) (N := 10) dX5_state_2 mlX5_102 vkX5_commandOf (by first | exact hc1 | exact hc2 | exact hc3 | rfl | exact hB1 | exact hB2 | exact hB3) ⟨by decide, rfl⟩ rfl (x_cmdOf_t ht) ?_
      refine r_astore_n2 dX5_state_5 rfl (Nat.le_of_ble_eq_true rfl) ?_
      refine r_aload_n dX5_state_6 rfl rfl ?_
      refine r_ifnonnull 15 dX5_state_7 (by decide) ?_
      refine r_aload_n dX5_state_15 rfl rfl ?_
      refine r_getI (N := 8) dX5_state_16 fwX5_133 (by first | exact hc1 | exact hc2 | exact hc3 | rfl | exact hB1 | exact hB2 | exact hB3) (Nat.le_of_ble_eq_true rfl) rfl ?_
      refine r_ireturn dX5_state_19 rfl (Nat.zero_le _) (Nat.zero_le _) ?_
      rw [e1]
      exact ⟨rfl, rfl⟩
    · refine con_of (lv := [some (.ref 40), some (.int (nI t))]) (by decide) rfl (Nat.le_of_ble_eq_true rfl) (by simp [lvle]) ?_
      refine r_iload_n dX6_state_0 rfl rfl ?_
      refine gS1 (Y := mX6_isTag) dX6_state_1 mlX6_160 ckX6_isTag skX6_isTag rfl g ?_
      refine r_if_eq 16 dX6_state_4 (by decide) (fun c_4 => absurd c_4 (by decide)) (fun c_4 => ?_)
      refine r_aload_n dX6_state_7 rfl rfl ?_
      refine r_getR (N := 35) dX6_state_8 fwX6_49 (by first | rfl | assumption) (Nat.le_of_ble_eq_true rfl) rfl (by first | rfl | assumption) ?_
      refine r_iload_n dX6_state_11 rfl rfl ?_
      refine r_iaload dX6_state_12 (by first | rfl | assumption) (by exact vp_in_nI ht (by decide)) ?_
      refine r_goto 18 dX6_state_13 (by decide) ?_
      refine r_ireturn dX6_state_18 rfl (Nat.zero_le _) (Nat.zero_le _) ?_
      rw [hcl, e2]
      exact ⟨rfl, rfl⟩
set_option maxHeartbeats 600000 in
set_option maxRecDepth 100000 in
theorem B_cached {x : Int32} : Both mX5_cached mX6_cached [.int x] := by
  refine Both.tell (fun M c dn dp P s w is rm rr hc h1 h2 ok => ?_)
  have D1 := h1.2.1.1.2.2.2.1
  have D2 := h2.2.1.1.2.2.1
  have od := ok.2.2.1.1
  have o6 := od.1
  have ga := x_atPlace (x := x) D1 od
  have e18 := D2.2.1
  rcases ix3 x s.2.1.2.1 (by omega) with h | ⟨j, hj, rfl⟩
  · refine ⟨-2, ?_, ?_⟩
    · have e : (if x < 0 then (-2 : Int32) else if nI s.2.1.2.1 ≤ x then -2 else nI (s.2.1.2.2.1 x.toNatClampNeg)) = -2 := by
        rcases h with q | q
        · rw [if_pos q]
        · rw [if_pos q]
          split <;> rfl
      rw [e] at ga
      refine con_of (lv := [some (.ref 0), some (.int x)]) (by decide) rfl (Nat.le_of_ble_eq_true rfl) (by simp [lvle]) ?_
      refine r_aload_n dX5_cached_0 rfl rfl ?_
      refine r_getR (N := 10) dX5_cached_1 fwX5_28 (by first | rfl | assumption) (Nat.le_of_ble_eq_true rfl) rfl (by first | rfl | assumption) ?_
      refine r_iload_n dX5_cached_4 rfl rfl ?_
      refine gV1 (Y := mX3_sectorAtPlace) (ci := 3) (N := 4) dX5_cached_5 mlX5_155 vkX3_sectorAtPlace (by first | rfl | assumption) ⟨by decide, rfl⟩ rfl ga ?_
      refine r_ireturn dX5_cached_8 rfl (Nat.zero_le _) (Nat.zero_le _) ?_
      exact ⟨rfl, rfl⟩
    · have hf := sub1 (by omega) h
      refine con_of (lv := [some (.ref 40), some (.int x)]) (by decide) rfl (Nat.le_of_ble_eq_true rfl) (by simp [lvle]) ?_
      refine r_iload_n dX6_cached_0 rfl rfl ?_
      refine r_iconst 0 dX6_cached_1 (by decide) ?_
      refine r_aload_n dX6_cached_2 rfl rfl ?_
      refine r_getI (N := 35) dX6_cached_3 fwX6_171 (by first | rfl | assumption) (Nat.le_of_ble_eq_true rfl) rfl ?_
      refine r_iconst 1 dX6_cached_6 (by decide) ?_
      rw [e18]
      refine r_isub dX6_cached_7 ?_
      refine gS3 (Y := mX6_in) dX6_cached_8 mlX6_81 ckX6_in skX6_in rfl (m_in_f hf) ?_
      refine r_if_eq 23 dX6_cached_11 (by decide) (fun c_11 => ?_) (fun c_11 => absurd rfl c_11)
      refine r_bipush (-2) dX6_cached_23 (by decide) ?_
      refine r_ireturn dX6_cached_25 rfl (Nat.zero_le _) (Nat.zero_le _) ?_
      exact ⟨rfl, rfl⟩
  · have hcl : (nI j).toNatClampNeg = j := nI_clamp (by omega)
    rw [if_neg (nI_pos (by omega)), if_neg (nI_ge hj (by omega)), hcl] at ga
    have e52 := (D2.2.2 j hj).1
    refine ⟨nI (s.2.1.2.2.1 j), ?_, ?_⟩
    · refine con_of (lv := [some (.ref 0), some (.int (nI j))]) (by decide) rfl (Nat.le_of_ble_eq_true rfl) (by simp [lvle]) ?_
      refine r_aload_n dX5_cached_0 rfl rfl ?_
      refine r_getR (N := 10) dX5_cached_1 fwX5_28 (by first | rfl | assumption) (Nat.le_of_ble_eq_true rfl) rfl (by first | rfl | assumption) ?_
      refine r_iload_n dX5_cached_4 rfl rfl ?_
      refine gV1 (Y := mX3_sectorAtPlace) (ci := 3) (N := 4) dX5_cached_5 mlX5_155 vkX3_sectorAtPlace (by first | rfl | assumption) ⟨by decide, rfl⟩ rfl ga ?_
      refine r_ireturn dX5_cached_8 rfl (Nat.zero_le _) (Nat.zero_le _) ?_
      exact ⟨rfl, rfl⟩
    · refine con_of (lv := [some (.ref 40), some (.int (nI j))]) (by decide) rfl (Nat.le_of_ble_eq_true rfl) (by simp [lvle]) ?_
      refine r_iload_n dX6_cached_0 rfl rfl ?_
      refine r_iconst 0 dX6_cached_1 (by decide) ?_
      refine r_aload_n dX6_cached_2 rfl rfl ?_
      refine r_getI (N := 35) dX6_cached_3 fwX6_171 (by first | rfl | assumption) (Nat.le_of_ble_eq_true rfl) rfl ?_
      refine r_iconst 1 dX6_cached_6 (by decide) ?_
      rw [e18]
      refine r_isub dX6_cached_7 ?_
      refine gS3 (Y := mX6_in) dX6_cached_8 mlX6_81 ckX6_in skX6_in rfl (m_in_t (nI_pos (by omega)) (sub1n (by omega) hj)) ?_
      refine r_if_eq 23 dX6_cached_11 (by decide) (fun c_11 => absurd c_11 (by decide)) (fun c_11 => ?_)
      refine r_aload_n dX6_cached_14 rfl rfl ?_
      refine r_getR (N := 35) dX6_cached_15 fwX6_43 (by first | rfl | assumption) (Nat.le_of_ble_eq_true rfl) rfl (by first | rfl | assumption) ?_
      refine r_iload_n dX6_cached_18 rfl rfl ?_
      refine r_iaload dX6_cached_19 (by first | rfl | assumption) (by exact vp_in_nI (by omega) (by decide)) ?_
      refine r_goto 25 dX6_cached_20 (by decide) ?_
      refine r_ireturn dX6_cached_25 rfl (Nat.zero_le _) (Nat.zero_le _) ?_
      rw [hcl, e52]
      exact ⟨rfl, rfl⟩
set_option maxHeartbeats 600000 in
set_option maxRecDepth 100000 in
theorem x_plo_lp {M : Mem} {d : DSt} {x : Int32} (h : DC M d) (ok : okD d) (hx : x < 0 ∨ nI 32 ≤ x) : ∀ (e k : Nat), k + e = d.2.1 → WP mX3_placeInCache 2 [some (.ref 14), some (.int x), some (.int (nI k))] [] 0 0 (shp, rfs, M) (fun r1 h1 => r1 = some (.int (-1)) ∧ h1 = (shp, rfs, M)) := by
  have u6 := ok.1
  intro e
  induction e with
  | zero =>
    intro k hk
    have hk : k = d.2.1 := by omega
    refine r_iload_n dX3_placeInCache_2 rfl rfl ?_
    refine r_aload_n dX3_placeInCache_3 rfl rfl ?_
    refine r_getI (N := 4) dX3_placeInCache_4 fwX3_28 (by first | rfl | assumption) (Nat.le_of_ble_eq_true rfl) rfl ?_
    refine r_icmp_ge 28 dX3_placeInCache_7 (by decide) (fun c_7 => ?_) (fun c_7 => absurd (by rw [h.2.1]; exact nI_le (by omega) (by omega)) c_7)
    refine r_iconst (-1) dX3_placeInCache_28 (by decide) ?_
    refine r_ireturn dX3_placeInCache_29 rfl (Nat.zero_le _) (Nat.zero_le _) ?_
    exact ⟨rfl, rfl⟩
  | succ e ih =>
    intro k hk
    have hcl : (nI k).toNatClampNeg = k := nI_clamp (by omega)
    have hc := ok.2 k (by omega)
    have hne : ¬ nI (d.2.2.1 k) = x := by
      intro q
      rw [← q] at hx
      exact hx.elim (nI_pos (by omega)) (nI_ge hc (by decide))
    refine r_iload_n dX3_placeInCache_2 rfl rfl ?_
    refine r_aload_n dX3_placeInCache_3 rfl rfl ?_
    refine r_getI (N := 4) dX3_placeInCache_4 fwX3_28 (by first | rfl | assumption) (Nat.le_of_ble_eq_true rfl) rfl ?_
    refine r_icmp_ge 28 dX3_placeInCache_7 (by decide) (fun c_7 => absurd c_7 (by rw [h.2.1]; exact nI_ge (by omega) (by omega))) (fun c_7 => ?_)
    refine r_aload_n dX3_placeInCache_10 rfl rfl ?_
    refine r_getR (N := 4) dX3_placeInCache_11 fwX3_15 (by first | rfl | assumption) (Nat.le_of_ble_eq_true rfl) rfl (by first | rfl | assumption) ?_
    refine r_iload_n dX3_placeInCache_14 rfl rfl ?_
    refine r_iaload dX3_placeInCache_15 (by first | rfl | assumption) (by exact vp_in_nI (by omega) (by decide)) ?_
    refine r_iload_n dX3_placeInCache_16 rfl rfl ?_
    rw [hcl, (h.2.2 k (by omega)).1]
    refine r_icmp_ne 22 dX3_placeInCache_17 (by decide) (fun c_17 => ?_) (fun c_17 => absurd c_17 hne)
    refine r_iinc_2 (_ + 1) dX3_placeInCache_22 rfl (Nat.le_of_ble_eq_true rfl) rfl ?_
    refine r_goto 2 dX3_placeInCache_25 (by decide) ?_
    rw [nI_1]
    exact ih (k + 1) (by omega)
set_option maxHeartbeats 600000 in
set_option maxRecDepth 100000 in
theorem x_asRead_o {M : Mem} {d : DSt} {x : Int32} (h : DC M d) (ok : okD d) (hx : x < 0 ∨ nI 32 ≤ x) : Gv mX3_numberAsRead [.ref 14, .int x] M (some (.int 0)) M := by
  have hl := x_plo_lp h ok hx d.2.1 0 (by omega)
  have g : Gv mX3_placeInCache [.ref 14, .int x] M (some (.int (-1))) M := by
    refine con_of (lv := [some (.ref 14), some (.int x), none]) (by decide) rfl (Nat.le_of_ble_eq_true rfl) (by simp [lvle]) ?_
    refine r_iconst 0 dX3_placeInCache_0 (by decide) ?_
    refine r_istore_n2 dX3_placeInCache_1 rfl (Nat.le_of_ble_eq_true rfl) ?_
    exact hl
  refine con_of (lv := [some (.ref 14), some (.int x), none]) (by decide) rfl (Nat.le_of_ble_eq_true rfl) (by simp [lvle]) ?_
  refine r_aload_n dX3_numberAsRead_0 rfl rfl ?_
  refine r_iload_n dX3_numberAsRead_1 rfl rfl ?_
  refine gV1 (Y := mX3_placeInCache) (ci := 3) (N := 4) dX3_numberAsRead_2 mlX3_21 vkX3_placeInCache (by first | rfl | assumption) ⟨by decide, rfl⟩ rfl g ?_
  refine r_istore_n2 dX3_numberAsRead_5 rfl (Nat.le_of_ble_eq_true rfl) ?_
  refine r_iload_n dX3_numberAsRead_6 rfl rfl ?_
  refine r_if_lt 19 dX3_numberAsRead_7 (by decide) (fun c_7 => ?_) (fun c_7 => absurd (by decide) c_7)
  refine r_aload_n dX3_numberAsRead_19 rfl rfl ?_
  refine r_iload_n dX3_numberAsRead_20 rfl rfl ?_
  refine gV1 (Y := mX3_numberOnDisk) (ci := 3) (N := 4) dX3_numberAsRead_21 mlX3_25 vkX3_numberOnDisk (by first | rfl | assumption) ⟨by decide, rfl⟩ rfl (x_onDisk_o hx) ?_
  refine r_ireturn dX3_numberAsRead_24 rfl (Nat.zero_le _) (Nat.zero_le _) ?_
  exact ⟨rfl, rfl⟩
set_option maxHeartbeats 600000 in
set_option maxRecDepth 100000 in
theorem B_sector {x : Int32} {e : Bool} : Both mX5_sector mX6_sector [.int x, .int (eI e)] := by
  refine Both.tell (fun M c dn dp P s w is rm rr hc h1 h2 ok => ?_)
  have D1 := h1.2.1.1.2.2.2.1
  have D2 := h2.2.1.1.2.2.1
  have od := ok.2.2.1.1
  rcases ix3 x 32 (by decide) with h | ⟨j, hj, rfl⟩
  · refine ⟨0, ?_, ?_⟩
    · refine con_of (lv := [some (.ref 0), some (.int x), some (.int (eI e))]) (by decide) rfl (Nat.le_of_ble_eq_true rfl) (by simp [lvle]) ?_
      cases e
      · refine r_iload_n dX5_sector_0 rfl rfl ?_
        refine r_if_eq 15 dX5_sector_1 (by decide) (fun c_1 => ?_) (fun c_1 => absurd rfl c_1)
        refine r_aload_n dX5_sector_15 rfl rfl ?_
        refine r_getR (N := 10) dX5_sector_16 fwX5_28 (by first | rfl | assumption) (Nat.le_of_ble_eq_true rfl) rfl (by first | rfl | assumption) ?_
        refine r_iload_n dX5_sector_19 rfl rfl ?_
        refine gV1 (Y := mX3_numberOnDisk) (ci := 3) (N := 4) dX5_sector_20 mlX5_152 vkX3_numberOnDisk (by first | rfl | assumption) ⟨by decide, rfl⟩ rfl (x_onDisk_o h) ?_
        refine r_ireturn dX5_sector_23 rfl (Nat.zero_le _) (Nat.zero_le _) ?_
        exact ⟨rfl, rfl⟩
      · refine r_iload_n dX5_sector_0 rfl rfl ?_
        refine r_if_eq 15 dX5_sector_1 (by decide) (fun c_1 => absurd c_1 (by decide)) (fun c_1 => ?_)
        refine r_aload_n dX5_sector_4 rfl rfl ?_
        refine r_getR (N := 10) dX5_sector_5 fwX5_28 (by first | rfl | assumption) (Nat.le_of_ble_eq_true rfl) rfl (by first | rfl | assumption) ?_
        refine r_iload_n dX5_sector_8 rfl rfl ?_
        refine gV1 (Y := mX3_numberAsRead) (ci := 3) (N := 4) dX5_sector_9 mlX5_149 vkX3_numberAsRead (by first | rfl | assumption) ⟨by decide, rfl⟩ rfl (x_asRead_o D1 od h) ?_
        refine r_goto 23 dX5_sector_12 (by decide) ?_
        refine r_ireturn dX5_sector_23 rfl (Nat.zero_le _) (Nat.zero_le _) ?_
        exact ⟨rfl, rfl⟩
    · have hf : x < 0 ∨ (31 : Int32) < x := sub1 (n := 32) (by decide) h
      refine con_of (lv := [some (.ref 40), some (.int x), some (.int (eI e))]) (by decide) rfl (Nat.le_of_ble_eq_true rfl) (by simp [lvle]) ?_
      refine r_iload_n dX6_sector_0 rfl rfl ?_
      refine r_iconst 0 dX6_sector_1 (by decide) ?_
      refine r_bipush 31 dX6_sector_2 (by decide) ?_
      refine gS3 (Y := mX6_in) dX6_sector_4 mlX6_81 ckX6_in skX6_in rfl (m_in_f hf) ?_
      refine r_if_ne 14 dX6_sector_7 (by decide) (fun c_7 => absurd rfl c_7) (fun c_7 => ?_)
      refine r_iconst 0 dX6_sector_10 (by decide) ?_
      refine r_goto 32 dX6_sector_11 (by decide) ?_
      refine r_ireturn dX6_sector_32 rfl (Nat.zero_le _) (Nat.zero_le _) ?_
      exact ⟨rfl, rfl⟩
  · have hcl : (nI j).toNatClampNeg = j := nI_clamp (by omega)
    have gt := m_in_t (M := M) (x := nI j) (a := 0) (b := 31) (nI_pos (by omega)) (nI_nlt (a := 31) (b := j) (by omega) (by decide))
    have e1 := D1.1 j hj
    have e2 := D2.1 j hj
    cases e
    · refine ⟨s.2.1.1 j, ?_, ?_⟩
      · have g2 := x_onDisk (M := M) hj
        rw [e1] at g2
        refine con_of (lv := [some (.ref 0), some (.int (nI j)), some (.int (eI false))]) (by decide) rfl (Nat.le_of_ble_eq_true rfl) (by simp [lvle]) ?_
        refine r_iload_n dX5_sector_0 rfl rfl ?_
        refine r_if_eq 15 dX5_sector_1 (by decide) (fun c_1 => ?_) (fun c_1 => absurd rfl c_1)
        refine r_aload_n dX5_sector_15 rfl rfl ?_
        refine r_getR (N := 10) dX5_sector_16 fwX5_28 (by first | rfl | assumption) (Nat.le_of_ble_eq_true rfl) rfl (by first | rfl | assumption) ?_
        refine r_iload_n dX5_sector_19 rfl rfl ?_
        refine gV1 (Y := mX3_numberOnDisk) (ci := 3) (N := 4) dX5_sector_20 mlX5_152 vkX3_numberOnDisk (by first | rfl | assumption) ⟨by decide, rfl⟩ rfl g2 ?_
        refine r_ireturn dX5_sector_23 rfl (Nat.zero_le _) (Nat.zero_le _) ?_
        exact ⟨rfl, rfl⟩
      · refine con_of (lv := [some (.ref 40), some (.int (nI j)), some (.int (eI false))]) (by decide) rfl (Nat.le_of_ble_eq_true rfl) (by simp [lvle]) ?_
        refine r_iload_n dX6_sector_0 rfl rfl ?_
        refine r_iconst 0 dX6_sector_1 (by decide) ?_
        refine r_bipush 31 dX6_sector_2 (by decide) ?_
        refine gS3 (Y := mX6_in) dX6_sector_4 mlX6_81 ckX6_in skX6_in rfl gt ?_
        refine r_if_ne 14 dX6_sector_7 (by decide) (fun c_7 => ?_) (fun c_7 => absurd c_7 (by decide))
        refine r_iload_n dX6_sector_14 rfl rfl ?_
        refine r_if_eq 26 dX6_sector_15 (by decide) (fun c_15 => ?_) (fun c_15 => absurd rfl c_15)
        refine r_aload_n dX6_sector_26 rfl rfl ?_
        refine r_getR (N := 35) dX6_sector_27 fwX6_40 (by first | rfl | assumption) (Nat.le_of_ble_eq_true rfl) rfl (by first | rfl | assumption) ?_
        refine r_iload_n dX6_sector_30 rfl rfl ?_
        refine r_iaload dX6_sector_31 (by first | rfl | assumption) (by exact vp_in_nI hj (by decide)) ?_
        refine r_ireturn dX6_sector_32 rfl (Nat.zero_le _) (Nat.zero_le _) ?_
        rw [hcl, e2]
        exact ⟨rfl, rfl⟩
    · refine ⟨rds s.2.1 j, ?_, ?_⟩
      · have g2 := x_asRead D1 od hj
        refine con_of (lv := [some (.ref 0), some (.int (nI j)), some (.int (eI true))]) (by decide) rfl (Nat.le_of_ble_eq_true rfl) (by simp [lvle]) ?_
        refine r_iload_n dX5_sector_0 rfl rfl ?_
        refine r_if_eq 15 dX5_sector_1 (by decide) (fun c_1 => absurd c_1 (by decide)) (fun c_1 => ?_)
        refine r_aload_n dX5_sector_4 rfl rfl ?_
        refine r_getR (N := 10) dX5_sector_5 fwX5_28 (by first | rfl | assumption) (Nat.le_of_ble_eq_true rfl) rfl (by first | rfl | assumption) ?_
        refine r_iload_n dX5_sector_8 rfl rfl ?_
        refine gV1 (Y := mX3_numberAsRead) (ci := 3) (N := 4) dX5_sector_9 mlX5_149 vkX3_numberAsRead (by first | rfl | assumption) ⟨by decide, rfl⟩ rfl g2 ?_
        refine r_goto 23 dX5_sector_12 (by decide) ?_
        refine r_ireturn dX5_sector_23 rfl (Nat.zero_le _) (Nat.zero_le _) ?_
        exact ⟨rfl, rfl⟩
      · have g2 := m_reads D2 od hj
        refine con_of (lv := [some (.ref 40), some (.int (nI j)), some (.int (eI true))]) (by decide) rfl (Nat.le_of_ble_eq_true rfl) (by simp [lvle]) ?_
        refine r_iload_n dX6_sector_0 rfl rfl ?_
        refine r_iconst 0 dX6_sector_1 (by decide) ?_
        refine r_bipush 31 dX6_sector_2 (by decide) ?_
        refine gS3 (Y := mX6_in) dX6_sector_4 mlX6_81 ckX6_in skX6_in rfl gt ?_
        refine r_if_ne 14 dX6_sector_7 (by decide) (fun c_7 => ?_) (fun c_7 => absurd c_7 (by decide))
        refine r_iload_n dX6_sector_14 rfl rfl ?_
        refine r_if_eq 26 dX6_sector_15 (by decide) (fun c_15 => absurd c_15 (by decide)) (fun c_15 => ?_)
        refine r_aload_n dX6_sector_18 rfl rfl ?_
        refine r_iload_n dX6_sector_19 rfl rfl ?_
        refine gV1 (Y := mX6_reads) (ci := 6) (N := 35) dX6_sector_20 mlX6_194 vkX6_reads (by first | rfl | assumption) ⟨by decide, rfl⟩ rfl g2 ?_
        refine r_goto 32 dX6_sector_23 (by decide) ?_
        refine r_ireturn dX6_sector_32 rfl (Nat.zero_le _) (Nat.zero_le _) ?_
        exact ⟨rfl, rfl⟩
set_option maxHeartbeats 600000 in
set_option maxRecDepth 100000 in
theorem B_way {x : Int32} : Both mX5_way mX6_way [.int x] := by
  refine Both.do (fun M c dn dp P s w is rm rr hc h1 ok => ?_)
  rcases ix3 x 3 (by decide) with h | ⟨j, hj, rfl⟩
  · have hf : x < 0 ∨ (2 : Int32) < x := sub1 (n := 3) (by decide) h
    refine Both.same h1 ok (-3) ?_ (fun M1 h2 => ?_)
    · refine con_of (lv := [some (.ref 0), some (.int x), none]) (by decide) rfl (Nat.le_of_ble_eq_true rfl) (by simp [lvle]) ?_
      refine r_iload_n dX5_way_0 rfl rfl ?_
      refine r_if_lt 9 dX5_way_1 (by decide) (fun c_1 => ?_) (fun c_1 => ?_)
      · refine r_bipush (-3) dX5_way_9 (by decide) ?_
        refine r_ireturn dX5_way_11 rfl (Nat.zero_le _) (Nat.zero_le _) ?_
        exact ⟨rfl, rfl⟩
      · refine r_iload_n dX5_way_4 rfl rfl ?_
        refine r_iconst 2 dX5_way_5 (by decide) ?_
        refine r_icmp_le 12 dX5_way_6 (by decide) (fun c_6 => absurd hf (fun q => q.elim c_1 (le_nlt c_6))) (fun c_6 => ?_)
        refine r_bipush (-3) dX5_way_9 (by decide) ?_
        refine r_ireturn dX5_way_11 rfl (Nat.zero_le _) (Nat.zero_le _) ?_
        exact ⟨rfl, rfl⟩
    · refine con_of (lv := [some (.ref 40), some (.int x), none]) (by decide) rfl (Nat.le_of_ble_eq_true rfl) (by simp [lvle]) ?_
      refine r_iload_n dX6_way_0 rfl rfl ?_
      refine r_iconst 0 dX6_way_1 (by decide) ?_
      refine r_iconst 2 dX6_way_2 (by decide) ?_
      refine gS3 (Y := mX6_in) dX6_way_3 mlX6_81 ckX6_in skX6_in rfl (m_in_f hf) ?_
      refine r_if_ne 12 dX6_way_6 (by decide) (fun c_6 => absurd rfl c_6) (fun c_6 => ?_)
      refine r_bipush (-3) dX6_way_9 (by decide) ?_
      refine r_ireturn dX6_way_11 rfl (Nat.zero_le _) (Nat.zero_le _) ?_
      exact ⟨rfl, rfl⟩
  · have e7 := h1.2.1.2.2.2.1
    have F1 : FrS [] [(0, 7)] M (upd2 M 0 7 (nI j)) := FrS.rf.ups (by decide)
    obtain ⟨q1, ⟨cs, c6, c7, c8, c9⟩, q3, q4⟩ := h1
    have F1' : FrS [24, 25, 23] [(0, 7)] M (upd2 M 0 7 (nI j)) := FrS.rf.ups (by decide)
    refine ⟨nI w, upd2 M 0 7 (nI j), dn, dp, P, s, j, is, rm, rr, ?_, ⟨q1.frS F1 (by simp) (by simp), ⟨CS.tg (t := 0) cs F1' (by simp), fun a ha => ?_, fun a ha => ?_, u_ss, ?_⟩, ?_, fun i hi => ?_⟩, F1.mono (by simp) (by decide), ⟨ok.1, ok.2.1, ok.2.2.1, by omega, ok.up.2.2.2.2⟩, fun M1 h2 => ?_⟩
    · refine con_of (lv := [some (.ref 0), some (.int (nI j)), none]) (by decide) rfl (Nat.le_of_ble_eq_true rfl) (by simp [lvle]) ?_
      refine r_iload_n dX5_way_0 rfl rfl ?_
      refine r_if_lt 9 dX5_way_1 (by decide) (fun c_1 => absurd c_1 (nI_pos (by omega))) (fun c_1 => ?_)
      refine r_iload_n dX5_way_4 rfl rfl ?_
      refine r_iconst 2 dX5_way_5 (by decide) ?_
      refine r_icmp_le 12 dX5_way_6 (by decide) (fun c_6 => ?_) (fun c_6 => absurd (nI_le (a := j) (b := 2) (by omega) (by decide)) c_6)
      refine r_aload_n dX5_way_12 rfl rfl ?_
      refine r_getI (N := 10) dX5_way_13 fwX5_52 (by first | rfl | assumption) (Nat.le_of_ble_eq_true rfl) rfl ?_
      rw [e7]
      refine r_istore_n2 dX5_way_16 rfl (Nat.le_of_ble_eq_true rfl) ?_
      refine r_aload_n dX5_way_17 rfl rfl ?_
      refine r_iload_n dX5_way_18 rfl rfl ?_
      refine r_putI (N := 10) dX5_way_19 fwX5_52 (by first | rfl | assumption) (Nat.le_of_ble_eq_true rfl) rfl (Or.inl rfl) rfl rfl ?_
      refine r_iload_n dX5_way_22 rfl rfl ?_
      refine r_ireturn dX5_way_23 rfl (Nat.zero_le _) (Nat.zero_le _) ?_
      exact ⟨rfl, rfl⟩
    · have q : ∀ k, upd2 M 0 7 (nI j) (24 + 2 * a) k = M (24 + 2 * a) k := fun k => u_nn (by omega)
      simp only [q]
      exact c6 a ha
    · have q : ∀ k, upd2 M 0 7 (nI j) (25 + 2 * a) k = M (25 + 2 * a) k := fun k => u_nn (by omega)
      simp only [q]
      exact c7 a ha
    · rw [u_sn (by decide)]; exact c9
    · rw [u_sn (by decide)]; exact q3
    · rw [u_nn (by decide)]; exact q4 i hi
    · have e29 := h2.2.1.2.2.2.1
      have F2 : FrS [54, 55, 56, 57, 58, 59, 60, 61] [(40, 29)] M1 (upd2 M1 40 29 (nI j)) := FrS.rf.ups (by decide)
      obtain ⟨p1, ⟨ps, p6, p7, p8, p9⟩, p3, p4, p5⟩ := h2
      refine ⟨upd2 M1 40 29 (nI j), ?_, ⟨⟨by rw [u_sn (by decide)]; exact p1.1, fun j hj => by rw [u_nn (by decide)]; exact p1.2 j hj⟩, ⟨ps.tg F2 (by simp), fun a ha => ?_, fun a ha => ?_, u_ss, ?_⟩, ?_, ?_, fun i hi => ?_⟩, F2.mono (by decide) (by decide)⟩
      · have gt := m_in_t (M := M1) (x := nI j) (a := 0) (b := 2) (nI_pos (by omega)) (nI_nlt (a := 2) (b := j) (by omega) (by decide))
        refine con_of (lv := [some (.ref 40), some (.int (nI j)), none]) (by decide) rfl (Nat.le_of_ble_eq_true rfl) (by simp [lvle]) ?_
        refine r_iload_n dX6_way_0 rfl rfl ?_
        refine r_iconst 0 dX6_way_1 (by decide) ?_
        refine r_iconst 2 dX6_way_2 (by decide) ?_
        refine gS3 (Y := mX6_in) dX6_way_3 mlX6_81 ckX6_in skX6_in rfl gt ?_
        refine r_if_ne 12 dX6_way_6 (by decide) (fun c_6 => ?_) (fun c_6 => absurd c_6 (by decide))
        refine r_aload_n dX6_way_12 rfl rfl ?_
        refine r_getI (N := 35) dX6_way_13 fwX6_207 (by first | rfl | assumption) (Nat.le_of_ble_eq_true rfl) rfl ?_
        rw [e29]
        refine r_istore_n2 dX6_way_16 rfl (Nat.le_of_ble_eq_true rfl) ?_
        refine r_aload_n dX6_way_17 rfl rfl ?_
        refine r_iload_n dX6_way_18 rfl rfl ?_
        refine r_putI (N := 35) dX6_way_19 fwX6_207 (by first | rfl | assumption) (Nat.le_of_ble_eq_true rfl) rfl (Or.inl rfl) rfl rfl ?_
        refine r_iload_n dX6_way_22 rfl rfl ?_
        refine r_ireturn dX6_way_23 rfl (Nat.zero_le _) (Nat.zero_le _) ?_
        exact ⟨rfl, rfl⟩
      · rw [u_nn (by decide), u_nn (by decide), u_nn (by decide), u_nn (by decide), u_nn (by decide), u_nn (by decide)]
        exact p6 a ha
      · have q : ∀ k, upd2 M1 40 29 (nI j) 58 k = M1 58 k := fun k => u_nn (by decide)
        simp only [q]
        exact p7 a ha
      · rw [u_sn (by decide)]; exact p9
      · rw [u_sn (by decide)]; exact p3
      · rw [u_sn (by decide)]; exact p4
      · rw [u_nn (by decide)]; exact p5 i hi
