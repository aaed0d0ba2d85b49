section NULLS
variable {X : MX} {pc : Nat} {lv : List (Option Value)} {st : List Value} {k n : Nat} {S : List (Nat × Nat)} {Rf : Nat → Nat → Option Nat} {M : Mem} {Q : Option Value → Hp → Prop}
theorem r_aloadN {i : Nat} (hd : decode X.2.1 pc = .ok (.aload i, 2)) (hv : lv[i]? = some (some .null)) (kk : WP X (pc + 2) lv (.null :: st) k n (S, Rf, M) Q) : WP X pc lv st k n (S, Rf, M) Q :=
  fun l p e s m args below meth c D cI cC A ad0 n0 ad H locs ls C G L => lv_aloadN C.1 C.2.1 hd (L.2.2 i _ hv) (kk l p e s m args below meth c D cI cC A ad0 n0 ad H locs ls C G L)
theorem r_astoreN {i : Nat} (hd : decode X.2.1 pc = .ok (.astore i, 2)) (hc : okc lv = true) (hn : i < X.2.2.1) (kk : WP X (pc + 2) (lv.set i (some .null)) st k n (S, Rf, M) Q) : WP X pc lv (.null :: st) k n (S, Rf, M) Q :=
  fun l p e s m args below meth c D cI cC A ad0 n0 ad H locs ls C G L => lv_astoreN C.1 C.2.1 hd (lh_list L) hn rfl (fun ls' h' => kk l p e s m args below meth c D cI cC A ad0 n0 ad H locs ls' C G (lh_store (v := .null) (okc_ok hc) h'))
theorem r_astoreN_5 {a0 a1 a2 a3 a4 a5 : Option Value} {t : List (Option Value)} (hd : decode X.2.1 pc = .ok (.astore 5, 2)) (hc : okc (a0 :: a1 :: a2 :: a3 :: a4 :: a5 :: t) = true) (hn : 5 < X.2.2.1) (kk : WP X (pc + 2) (a0 :: a1 :: a2 :: a3 :: a4 :: some .null :: t) st k n (S, Rf, M) Q) : WP X pc (a0 :: a1 :: a2 :: a3 :: a4 :: a5 :: t) (.null :: st) k n (S, Rf, M) Q := r_astoreN (i := 5) hd hc hn kk
theorem r_astoreN_10 {a0 a1 a2 a3 a4 a5 a6 a7 a8 a9 a10 : Option Value} {t : List (Option Value)} (hd : decode X.2.1 pc = .ok (.astore 10, 2)) (hc : okc (a0 :: a1 :: a2 :: a3 :: a4 :: a5 :: a6 :: a7 :: a8 :: a9 :: a10 :: t) = true) (hn : 10 < X.2.2.1) (kk : WP X (pc + 2) (a0 :: a1 :: a2 :: a3 :: a4 :: a5 :: a6 :: a7 :: a8 :: a9 :: some .null :: t) st k n (S, Rf, M) Q) : WP X pc (a0 :: a1 :: a2 :: a3 :: a4 :: a5 :: a6 :: a7 :: a8 :: a9 :: a10 :: t) (.null :: st) k n (S, Rf, M) Q := r_astoreN (i := 10) hd hc hn kk
end NULLS
set_option maxHeartbeats 600000 in
set_option maxRecDepth 100000 in
theorem x_cmdOf_t {M : Mem} {t : Nat} (ht : t < 8) : Gv mX5_commandOf [.ref 0, .int (nI t)] M (some (.ref (24 + 2 * t))) M := by
  have hcl : (nI t).toNatClampNeg = t := nI_clamp (by omega)
  have hrf := rf22 t ht
  refine con_of (lv := [some (.ref 0), some (.int (nI t))]) (by decide) rfl (Nat.le_of_ble_eq_true rfl) (by simp [lvle]) ?_
  refine r_iload_n dX5_commandOf_0 rfl rfl ?_
  refine r_if_lt 22 dX5_commandOf_1 (by decide) (fun c_1 => absurd c_1 (nI_pos (by omega))) (fun c_1 => ?_)
  refine r_iload_n dX5_commandOf_4 rfl rfl ?_
  refine r_aload_n dX5_commandOf_5 rfl rfl ?_
  refine r_getR (N := 10) dX5_commandOf_6 fwX5_44 (by first | rfl | assumption) (Nat.le_of_ble_eq_true rfl) rfl (by first | rfl | assumption) ?_
  refine r_alen dX5_commandOf_9 (by first | rfl | assumption) (by first | exact Or.inl rfl | exact Or.inr rfl) ?_
  refine r_icmp_ge 22 dX5_commandOf_10 (by decide) (fun c_10 => absurd c_10 (nI_ge (a := t) (b := 8) ht (by decide))) (fun c_10 => ?_)
  refine r_aload_n dX5_commandOf_13 rfl rfl ?_
  refine r_getR (N := 10) dX5_commandOf_14 fwX5_44 (by first | rfl | assumption) (Nat.le_of_ble_eq_true rfl) rfl (by first | rfl | assumption) ?_
  refine r_iload_n dX5_commandOf_17 rfl rfl ?_
  refine r_aaload dX5_commandOf_18 (by first | rfl | assumption) (by exact vp_in_nI ht (by decide)) (by rw [hcl]; exact hrf) ?_
  refine r_goto 23 dX5_commandOf_19 (by decide) ?_
  refine r_areturn dX5_commandOf_23 rfl (Or.inl ⟨_, rfl⟩) (by first | exact Or.inl rfl | exact Or.inr ⟨_, rfl⟩) (Nat.zero_le _) (Nat.zero_le _) ?_
  exact ⟨rfl, rfl⟩
set_option maxHeartbeats 600000 in
set_option maxRecDepth 100000 in
theorem x_cmdOf_n {M : Mem} {x : Int32} (h : x < 0 ∨ 8 ≤ x) : Gv mX5_commandOf [.ref 0, .int x] M (some .null) M := by
  refine con_of (lv := [some (.ref 0), some (.int x)]) (by decide) rfl (Nat.le_of_ble_eq_true rfl) (by simp [lvle]) ?_
  refine r_iload_n dX5_commandOf_0 rfl rfl ?_
  refine r_if_lt 22 dX5_commandOf_1 (by decide) (fun c_1 => ?_) (fun c_1 => ?_)
  · refine r_null dX5_commandOf_22 ?_
    refine r_areturn dX5_commandOf_23 rfl (Or.inl ⟨_, rfl⟩) (by first | exact Or.inl rfl | exact Or.inr ⟨_, rfl⟩) (Nat.zero_le _) (Nat.zero_le _) ?_
    exact ⟨rfl, rfl⟩
  · refine r_iload_n dX5_commandOf_4 rfl rfl ?_
    refine r_aload_n dX5_commandOf_5 rfl rfl ?_
    refine r_getR (N := 10) dX5_commandOf_6 fwX5_44 (by first | rfl | assumption) (Nat.le_of_ble_eq_true rfl) rfl (by first | rfl | assumption) ?_
    refine r_alen dX5_commandOf_9 (by first | rfl | assumption) (by first | exact Or.inl rfl | exact Or.inr rfl) ?_
    refine r_icmp_ge 22 dX5_commandOf_10 (by decide) (fun c_10 => ?_) (fun c_10 => absurd h (fun q => q.elim c_1 c_10))
    refine r_null dX5_commandOf_22 ?_
    refine r_areturn dX5_commandOf_23 rfl (Or.inl ⟨_, rfl⟩) (by first | exact Or.inl rfl | exact Or.inr ⟨_, rfl⟩) (Nat.zero_le _) (Nat.zero_le _) ?_
    exact ⟨rfl, rfl⟩
theorem rng (y z : Int32) : (y < 0 ∨ 64 ≤ y ∨ z < 1 ∨ 4 < z) ∨ ∃ fi mn, fi < 64 ∧ 1 ≤ mn ∧ mn ≤ 4 ∧ y = nI fi ∧ z = nI mn := by
  rcases ix3 y 64 (by decide) with h | ⟨fi, hf, rfl⟩
  · exact Or.inl (h.elim Or.inl (fun q => Or.inr (Or.inl q)))
  · rcases ix3 z 5 (by decide) with h | ⟨mn, hm, rfl⟩
    · refine Or.inl (Or.inr (Or.inr (h.imp (fun q => ?_) (fun q => ?_))))
      · rw [i_lt] at q ⊢
        exact Int.lt_of_lt_of_le q (by decide)
      · rw [i_le] at q
        rw [i_lt]
        exact Int.lt_of_lt_of_le (by decide) q
    · rcases Nat.eq_zero_or_pos mn with h | h
      · subst h
        exact Or.inl (Or.inr (Or.inr (Or.inl (by decide))))
      · exact Or.inr ⟨fi, mn, hf, h, by omega, rfl, rfl⟩
set_option maxHeartbeats 600000 in
set_option maxRecDepth 100000 in
theorem x_issue_tag {M : Mem} {x k y z : Int32} (h : x < 0 ∨ 8 ≤ x) : Gv mX5_issue [.ref 0, .int x, .int k, .int y, .int z] M (some (.int (-2))) M := by
  refine con_of (lv := [some (.ref 0), some (.int x), some (.int k), some (.int y), some (.int z), none]) (by decide) rfl (Nat.le_of_ble_eq_true rfl) (by simp [lvle]) ?_
  refine r_aload_n dX5_issue_0 rfl rfl ?_
  refine r_iload_n dX5_issue_1 rfl rfl ?_
  refine gV1 (Y := mX5_commandOf) (ci := 5) (N := 10) dX5_issue_2 mlX5_102 vkX5_commandOf (by first | rfl | assumption) ⟨by decide, rfl⟩ rfl (x_cmdOf_n h) ?_
  refine r_astoreN_5 dX5_issue_5 rfl (Nat.le_of_ble_eq_true rfl) ?_
  refine r_aloadN dX5_issue_7 rfl ?_
  refine r_ifnonnullN dX5_issue_9 ?_
  refine r_bipush (-2) dX5_issue_12 (by decide) ?_
  refine r_ireturn dX5_issue_14 rfl (Nat.zero_le _) (Nat.zero_le _) ?_
  exact ⟨rfl, rfl⟩
set_option maxHeartbeats 600000 in
set_option maxRecDepth 100000 in
theorem x_issue_out {M : Mem} {t : Nat} {k y z : Int32} (ht : t < 8) (hk : k ≠ 3) (h : y < 0 ∨ 64 ≤ y ∨ z < 1 ∨ 4 < z) : Gv mX5_issue [.ref 0, .int (nI t), .int k, .int y, .int z] M (some (.int (-3))) M := by
  refine con_of (lv := [some (.ref 0), some (.int (nI t)), some (.int k), some (.int y), some (.int z), none]) (by decide) rfl (Nat.le_of_ble_eq_true rfl) (by simp [lvle]) ?_
  refine r_aload_n dX5_issue_0 rfl rfl ?_
  refine r_iload_n dX5_issue_1 rfl rfl ?_
  refine gV1 (Y := mX5_commandOf) (ci := 5) (N := 10) dX5_issue_2 mlX5_102 vkX5_commandOf (by first | rfl | assumption) ⟨by decide, rfl⟩ rfl (x_cmdOf_t ht) ?_
  refine r_astore_5 dX5_issue_5 rfl (Nat.le_of_ble_eq_true rfl) ?_
  refine r_aload dX5_issue_7 rfl ?_
  refine r_ifnonnull 15 dX5_issue_9 (by decide) ?_
  refine r_iload_n dX5_issue_15 rfl rfl ?_
  refine r_iconst 3 dX5_issue_16 (by decide) ?_
  refine r_icmp_eq 45 dX5_issue_17 (by decide) (fun c_17 => absurd c_17 hk) (fun c_17 => ?_)
  refine r_iload_n dX5_issue_20 rfl rfl ?_
  refine r_if_lt 42 dX5_issue_21 (by decide) (fun c_21 => ?_) (fun c_21 => ?_)
  · refine r_bipush (-3) dX5_issue_42 (by decide) ?_
    refine r_ireturn dX5_issue_44 rfl (Nat.zero_le _) (Nat.zero_le _) ?_
    exact ⟨rfl, rfl⟩
  · refine r_iload_n dX5_issue_24 rfl rfl ?_
    refine r_bipush 64 dX5_issue_25 (by decide) ?_
    refine r_icmp_ge 42 dX5_issue_27 (by decide) (fun c_27 => ?_) (fun c_27 => ?_)
    · refine r_bipush (-3) dX5_issue_42 (by decide) ?_
      refine r_ireturn dX5_issue_44 rfl (Nat.zero_le _) (Nat.zero_le _) ?_
      exact ⟨rfl, rfl⟩
    · refine r_iload dX5_issue_30 rfl ?_
      refine r_iconst 1 dX5_issue_32 (by decide) ?_
      refine r_icmp_lt 42 dX5_issue_33 (by decide) (fun c_33 => ?_) (fun c_33 => ?_)
      · refine r_bipush (-3) dX5_issue_42 (by decide) ?_
        refine r_ireturn dX5_issue_44 rfl (Nat.zero_le _) (Nat.zero_le _) ?_
        exact ⟨rfl, rfl⟩
      · refine r_iload dX5_issue_36 rfl ?_
        refine r_iconst 4 dX5_issue_38 (by decide) ?_
        refine r_icmp_le 45 dX5_issue_39 (by decide) (fun c_39 => absurd h (fun q => q.elim c_21 (fun q => q.elim c_27 (fun q => q.elim c_33 (le_nlt c_39))))) (fun c_39 => ?_)
        refine r_bipush (-3) dX5_issue_42 (by decide) ?_
        refine r_ireturn dX5_issue_44 rfl (Nat.zero_le _) (Nat.zero_le _) ?_
        exact ⟨rfl, rfl⟩
set_option maxHeartbeats 600000 in
set_option maxRecDepth 100000 in
theorem x_issue_not {M : Mem} {t kd fi mn : Nat} (ht : t < 8) (hk : kd ≤ 3) (h : kd ≠ 3 → fi < 64 ∧ 1 ≤ mn ∧ mn ≤ 4) (hs : ¬ M (24 + 2 * t) 2 = 0) : Gv mX5_issue [.ref 0, .int (nI t), .int (nI kd), .int (nI fi), .int (nI mn)] M (some (.int (-4))) M := by
  obtain ⟨hc1, hc2, hc3⟩ := isCm_t t ht
  refine con_of (lv := [some (.ref 0), some (.int (nI t)), some (.int (nI kd)), some (.int (nI fi)), some (.int (nI mn)), none]) (by decide) rfl (Nat.le_of_ble_eq_true rfl) (by simp [lvle]) ?_
  by_cases h3 : kd = 3
  · subst h3
    refine r_aload_n dX5_issue_0 rfl rfl ?_
    refine r_iload_n dX5_issue_1 rfl rfl ?_
    refine gV1 (Y := mX5_commandOf) (ci := 5) (N := 10) dX5_issue_2 mlX5_102 vkX5_commandOf (by first | exact hc1 | exact hc2 | exact hc3 | rfl | exact hB1 | exact hB2 | exact hB3) ⟨by decide, rfl⟩ rfl (x_cmdOf_t ht) ?_
    refine r_astore_5 dX5_issue_5 rfl (Nat.le_of_ble_eq_true rfl) ?_
    refine r_aload dX5_issue_7 rfl ?_
    refine r_ifnonnull 15 dX5_issue_9 (by decide) ?_
    refine r_iload_n dX5_issue_15 rfl rfl ?_
    refine r_iconst 3 dX5_issue_16 (by decide) ?_
    refine r_icmp_eq 45 dX5_issue_17 (by decide) (fun c_17 => ?_) (fun c_17 => absurd rfl c_17)
    refine r_aload dX5_issue_45 rfl ?_
    refine r_getI (N := 8) dX5_issue_47 fwX5_133 (by first | exact hc1 | exact hc2 | exact hc3 | rfl | exact hB1 | exact hB2 | exact hB3) (Nat.le_of_ble_eq_true rfl) rfl ?_
    refine r_if_eq 56 dX5_issue_50 (by decide) (fun c_50 => absurd c_50 hs) (fun c_50 => ?_)
    refine r_bipush (-4) dX5_issue_53 (by decide) ?_
    refine r_ireturn dX5_issue_55 rfl (Nat.zero_le _) (Nat.zero_le _) ?_
    exact ⟨rfl, rfl⟩
  · obtain ⟨h4, h5, h6⟩ := h h3
    refine r_aload_n dX5_issue_0 rfl rfl ?_
    refine r_iload_n dX5_issue_1 rfl rfl ?_
    refine gV1 (Y := mX5_commandOf) (ci := 5) (N := 10) dX5_issue_2 mlX5_102 vkX5_commandOf (by first | exact hc1 | exact hc2 | exact hc3 | rfl | exact hB1 | exact hB2 | exact hB3) ⟨by decide, rfl⟩ rfl (x_cmdOf_t ht) ?_
    refine r_astore_5 dX5_issue_5 rfl (Nat.le_of_ble_eq_true rfl) ?_
    refine r_aload dX5_issue_7 rfl ?_
    refine r_ifnonnull 15 dX5_issue_9 (by decide) ?_
    refine r_iload_n dX5_issue_15 rfl rfl ?_
    refine r_iconst 3 dX5_issue_16 (by decide) ?_
    refine r_icmp_eq 45 dX5_issue_17 (by decide) (fun c_17 => absurd ((nI_eq (a := kd) (b := 3) (by omega) (by decide)).mp c_17) h3) (fun c_17 => ?_)
    refine r_iload_n dX5_issue_20 rfl rfl ?_
    refine r_if_lt 42 dX5_issue_21 (by decide) (fun c_21 => absurd c_21 (nI_pos (by omega))) (fun c_21 => ?_)
    refine r_iload_n dX5_issue_24 rfl rfl ?_
    refine r_bipush 64 dX5_issue_25 (by decide) ?_
    refine r_icmp_ge 42 dX5_issue_27 (by decide) (fun c_27 => absurd c_27 (nI_ge (a := fi) (b := 64) h4 (by decide))) (fun c_27 => ?_)
    refine r_iload dX5_issue_30 rfl ?_
    refine r_iconst 1 dX5_issue_32 (by decide) ?_
    refine r_icmp_lt 42 dX5_issue_33 (by decide) (fun c_33 => absurd c_33 (nI_nlt (a := mn) (b := 1) h5 (by omega))) (fun c_33 => ?_)
    refine r_iload dX5_issue_36 rfl ?_
    refine r_iconst 4 dX5_issue_38 (by decide) ?_
    refine r_icmp_le 45 dX5_issue_39 (by decide) (fun c_39 => ?_) (fun c_39 => absurd (nI_le (a := mn) (b := 4) h6 (by decide)) c_39)
    refine r_aload dX5_issue_45 rfl ?_
    refine r_getI (N := 8) dX5_issue_47 fwX5_133 (by first | exact hc1 | exact hc2 | exact hc3 | rfl | exact hB1 | exact hB2 | exact hB3) (Nat.le_of_ble_eq_true rfl) rfl ?_
    refine r_if_eq 56 dX5_issue_50 (by decide) (fun c_50 => absurd c_50 hs) (fun c_50 => ?_)
    refine r_bipush (-4) dX5_issue_53 (by decide) ?_
    refine r_ireturn dX5_issue_55 rfl (Nat.zero_le _) (Nat.zero_le _) ?_
    exact ⟨rfl, rfl⟩
def issM (M : Mem) (c : Nat) (k y z i : Int32) : Mem := upd2 (upd2 (upd2 (upd2 (upd2 M c 2 1) c 3 k) c 4 y) c 5 z) c 6 i
set_option maxHeartbeats 600000 in
set_option maxRecDepth 100000 in
theorem x_begin {c r : Nat} {M : Mem} {k y z i : Int32} (hc : isCm c r) : Gv mX2_begin [.ref c, .int k, .int y, .int z, .int i] M none (issM M c k y z i) := by
  obtain ⟨hc1, hc2, hc3⟩ := hc
  refine con_of (lv := [some (.ref c), some (.int k), some (.int y), some (.int z), some (.int i)]) (by decide) rfl (Nat.le_of_ble_eq_true rfl) (by simp [lvle]) ?_
  refine r_aload_n dX2_begin_0 rfl rfl ?_
  refine r_iconst 1 dX2_begin_1 (by decide) ?_
  refine r_putI (N := 8) dX2_begin_2 fwX2_15 (by first | exact hc1 | exact hc2 | exact hc3 | rfl | exact hB1 | exact hB2 | exact hB3) (Nat.le_of_ble_eq_true rfl) rfl (Or.inl rfl) rfl rfl ?_
  refine r_aload_n dX2_begin_5 rfl rfl ?_
  refine r_iload_n dX2_begin_6 rfl rfl ?_
  refine r_putI (N := 8) dX2_begin_7 fwX2_22 (by first | exact hc1 | exact hc2 | exact hc3 | rfl | exact hB1 | exact hB2 | exact hB3) (Nat.le_of_ble_eq_true rfl) rfl (Or.inl rfl) rfl rfl ?_
  refine r_aload_n dX2_begin_10 rfl rfl ?_
  refine r_iload_n dX2_begin_11 rfl rfl ?_
  refine r_putI (N := 8) dX2_begin_12 fwX2_25 (by first | exact hc1 | exact hc2 | exact hc3 | rfl | exact hB1 | exact hB2 | exact hB3) (Nat.le_of_ble_eq_true rfl) rfl (Or.inl rfl) rfl rfl ?_
  refine r_aload_n dX2_begin_15 rfl rfl ?_
  refine r_iload_n dX2_begin_16 rfl rfl ?_
  refine r_putI (N := 8) dX2_begin_17 fwX2_28 (by first | exact hc1 | exact hc2 | exact hc3 | rfl | exact hB1 | exact hB2 | exact hB3) (Nat.le_of_ble_eq_true rfl) rfl (Or.inl rfl) rfl rfl ?_
  refine r_aload_n dX2_begin_20 rfl rfl ?_
  refine r_iload dX2_begin_21 rfl ?_
  refine r_putI (N := 8) dX2_begin_23 fwX2_31 (by first | exact hc1 | exact hc2 | exact hc3 | rfl | exact hB1 | exact hB2 | exact hB3) (Nat.le_of_ble_eq_true rfl) rfl (Or.inl rfl) rfl rfl ?_
  refine r_return dX2_begin_26 rfl (Nat.zero_le _) (Nat.zero_le _) ?_
  exact ⟨rfl, rfl⟩
set_option maxHeartbeats 600000 in
set_option maxRecDepth 100000 in
theorem x_issue_ok {M : Mem} {t kd fi mn is : Nat} (ht : t < 8) (hk : kd ≤ 3) (h : kd ≠ 3 → fi < 64 ∧ 1 ≤ mn ∧ mn ≤ 4) (hs : M (24 + 2 * t) 2 = 0) (h9 : M 0 9 = nI is) : Gv mX5_issue [.ref 0, .int (nI t), .int (nI kd), .int (nI fi), .int (nI mn)] M (some (.int 1)) (upd2 (issM M (24 + 2 * t) (nI kd) (nI fi) (nI mn) (nI is)) 0 9 (nI (is + 1))) := by
  obtain ⟨hc1, hc2, hc3⟩ := isCm_t t ht
  have g := x_begin (M := M) (k := nI kd) (y := nI fi) (z := nI mn) (i := nI is) (isCm_t t ht)
  have hn : ∀ k y z i, issM M (24 + 2 * t) k y z i 0 9 = nI is := by
    intro k y z i
    unfold issM
    rw [u_nn (by omega), u_nn (by omega), u_nn (by omega), u_nn (by omega), u_nn (by omega)]
    exact h9
  refine con_of (lv := [some (.ref 0), some (.int (nI t)), some (.int (nI kd)), some (.int (nI fi)), some (.int (nI mn)), none]) (by decide) rfl (Nat.le_of_ble_eq_true rfl) (by simp [lvle]) ?_
  by_cases h3 : kd = 3
  · subst h3
    refine r_aload_n dX5_issue_0 rfl rfl ?_
    refine r_iload_n dX5_issue_1 rfl rfl ?_
    refine gV1 (Y := mX5_commandOf) (ci := 5) (N := 10) dX5_issue_2 mlX5_102 vkX5_commandOf (by first | exact hc1 | exact hc2 | exact hc3 | rfl | exact hB1 | exact hB2 | exact hB3) ⟨by decide, rfl⟩ rfl (x_cmdOf_t ht) ?_
    refine r_astore_5 dX5_issue_5 rfl (Nat.le_of_ble_eq_true rfl) ?_
    refine r_aload dX5_issue_7 rfl ?_
    refine r_ifnonnull 15 dX5_issue_9 (by decide) ?_
    refine r_iload_n dX5_issue_15 rfl rfl ?_
    refine r_iconst 3 dX5_issue_16 (by decide) ?_
    refine r_icmp_eq 45 dX5_issue_17 (by decide) (fun c_17 => ?_) (fun c_17 => absurd rfl c_17)
    refine r_aload dX5_issue_45 rfl ?_
    refine r_getI (N := 8) dX5_issue_47 fwX5_133 (by first | exact hc1 | exact hc2 | exact hc3 | rfl | exact hB1 | exact hB2 | exact hB3) (Nat.le_of_ble_eq_true rfl) rfl ?_
    refine r_if_eq 56 dX5_issue_50 (by decide) (fun c_50 => ?_) (fun c_50 => absurd hs c_50)
    refine r_aload dX5_issue_56 rfl ?_
    refine r_iload_n dX5_issue_58 rfl rfl ?_
    refine r_iload_n dX5_issue_59 rfl rfl ?_
    refine r_iload dX5_issue_60 rfl ?_
    refine r_aload_n dX5_issue_62 rfl rfl ?_
    refine r_getI (N := 10) dX5_issue_63 fwX5_179 (by first | exact hc1 | exact hc2 | exact hc3 | rfl | exact hB1 | exact hB2 | exact hB3) (Nat.le_of_ble_eq_true rfl) rfl ?_
    rw [h9]
    refine gW4 (Y := mX2_begin) (ci := 2) (N := 8) dX5_issue_66 mlX5_182 vkX2_begin (by first | exact hc1 | exact hc2 | exact hc3 | rfl | exact hB1 | exact hB2 | exact hB3) ⟨by decide, rfl⟩ rfl g ?_
    refine r_aload_n dX5_issue_69 rfl rfl ?_
    first | refine r_dupR dX5_issue_70 ?_ | refine r_dupI dX5_issue_70 ?_
    refine r_getI (N := 10) dX5_issue_71 fwX5_179 (by first | exact hc1 | exact hc2 | exact hc3 | rfl | exact hB1 | exact hB2 | exact hB3) (Nat.le_of_ble_eq_true rfl) rfl ?_
    rw [hn]
    refine r_iconst 1 dX5_issue_74 (by decide) ?_
    refine r_iadd dX5_issue_75 ?_
    rw [nI_1]
    refine r_putI (N := 10) dX5_issue_76 fwX5_179 (by first | exact hc1 | exact hc2 | exact hc3 | rfl | exact hB1 | exact hB2 | exact hB3) (Nat.le_of_ble_eq_true rfl) rfl (Or.inl rfl) rfl rfl ?_
    refine r_iconst 1 dX5_issue_79 (by decide) ?_
    refine r_ireturn dX5_issue_80 rfl (Nat.zero_le _) (Nat.zero_le _) ?_
    exact ⟨rfl, rfl⟩
  · obtain ⟨h4, h5, h6⟩ := h h3
    refine r_aload_n dX5_issue_0 rfl rfl ?_
    refine r_iload_n dX5_issue_1 rfl rfl ?_
    refine gV1 (Y := mX5_commandOf) (ci := 5) (N := 10) dX5_issue_2 mlX5_102 vkX5_commandOf (by first | exact hc1 | exact hc2 | exact hc3 | rfl | exact hB1 | exact hB2 | exact hB3) ⟨by decide, rfl⟩ rfl (x_cmdOf_t ht) ?_
    refine r_astore_5 dX5_issue_5 rfl (Nat.le_of_ble_eq_true rfl) ?_
    refine r_aload dX5_issue_7 rfl ?_
    refine r_ifnonnull 15 dX5_issue_9 (by decide) ?_
    refine r_iload_n dX5_issue_15 rfl rfl ?_
    refine r_iconst 3 dX5_issue_16 (by decide) ?_
    refine r_icmp_eq 45 dX5_issue_17 (by decide) (fun c_17 => absurd ((nI_eq (a := kd) (b := 3) (by omega) (by decide)).mp c_17) h3) (fun c_17 => ?_)
    refine r_iload_n dX5_issue_20 rfl rfl ?_
    refine r_if_lt 42 dX5_issue_21 (by decide) (fun c_21 => absurd c_21 (nI_pos (by omega))) (fun c_21 => ?_)
    refine r_iload_n dX5_issue_24 rfl rfl ?_
    refine r_bipush 64 dX5_issue_25 (by decide) ?_
    refine r_icmp_ge 42 dX5_issue_27 (by decide) (fun c_27 => absurd c_27 (nI_ge (a := fi) (b := 64) h4 (by decide))) (fun c_27 => ?_)
    refine r_iload dX5_issue_30 rfl ?_
    refine r_iconst 1 dX5_issue_32 (by decide) ?_
    refine r_icmp_lt 42 dX5_issue_33 (by decide) (fun c_33 => absurd c_33 (nI_nlt (a := mn) (b := 1) h5 (by omega))) (fun c_33 => ?_)
    refine r_iload dX5_issue_36 rfl ?_
    refine r_iconst 4 dX5_issue_38 (by decide) ?_
    refine r_icmp_le 45 dX5_issue_39 (by decide) (fun c_39 => ?_) (fun c_39 => absurd (nI_le (a := mn) (b := 4) h6 (by decide)) c_39)
    refine r_aload dX5_issue_45 rfl ?_
    refine r_getI (N := 8) dX5_issue_47 fwX5_133 (by first | exact hc1 | exact hc2 | exact hc3 | rfl | exact hB1 | exact hB2 | exact hB3) (Nat.le_of_ble_eq_true rfl) rfl ?_
    refine r_if_eq 56 dX5_issue_50 (by decide) (fun c_50 => ?_) (fun c_50 => absurd hs c_50)
    refine r_aload dX5_issue_56 rfl ?_
    refine r_iload_n dX5_issue_58 rfl rfl ?_
    refine r_iload_n dX5_issue_59 rfl rfl ?_
    refine r_iload dX5_issue_60 rfl ?_
    refine r_aload_n dX5_issue_62 rfl rfl ?_
    refine r_getI (N := 10) dX5_issue_63 fwX5_179 (by first | exact hc1 | exact hc2 | exact hc3 | rfl | exact hB1 | exact hB2 | exact hB3) (Nat.le_of_ble_eq_true rfl) rfl ?_
    rw [h9]
    refine gW4 (Y := mX2_begin) (ci := 2) (N := 8) dX5_issue_66 mlX5_182 vkX2_begin (by first | exact hc1 | exact hc2 | exact hc3 | rfl | exact hB1 | exact hB2 | exact hB3) ⟨by decide, rfl⟩ rfl g ?_
    refine r_aload_n dX5_issue_69 rfl rfl ?_
    first | refine r_dupR dX5_issue_70 ?_ | refine r_dupI dX5_issue_70 ?_
    refine r_getI (N := 10) dX5_issue_71 fwX5_179 (by first | exact hc1 | exact hc2 | exact hc3 | rfl | exact hB1 | exact hB2 | exact hB3) (Nat.le_of_ble_eq_true rfl) rfl ?_
    rw [hn]
    refine r_iconst 1 dX5_issue_74 (by decide) ?_
    refine r_iadd dX5_issue_75 ?_
    rw [nI_1]
    refine r_putI (N := 10) dX5_issue_76 fwX5_179 (by first | exact hc1 | exact hc2 | exact hc3 | rfl | exact hB1 | exact hB2 | exact hB3) (Nat.le_of_ble_eq_true rfl) rfl (Or.inl rfl) rfl rfl ?_
    refine r_iconst 1 dX5_issue_79 (by decide) ?_
    refine r_ireturn dX5_issue_80 rfl (Nat.zero_le _) (Nat.zero_le _) ?_
    exact ⟨rfl, rfl⟩
theorem tag7 {x : Int32} (h : x < 0 ∨ 8 ≤ x) : x < 0 ∨ 7 < x := h.imp id (fun q => by rw [i_le] at q; rw [i_lt]; exact Int.lt_of_lt_of_le (by decide) q)
theorem tag7n {t : Nat} (ht : t < 8) : ¬ (7 : Int32) < nI t := nI_nlt (a := 7) (b := t) (by omega) (by decide)
set_option maxHeartbeats 600000 in
set_option maxRecDepth 100000 in
theorem m_ag_tag {M : Mem} {x y z : Int32} (h : x < 0 ∨ 8 ≤ x) : Gv mX6_against [.ref 40, .int x, .int y, .int z] M (some (.int (-2))) M := by
  refine con_of (lv := [some (.ref 40), some (.int x), some (.int y), some (.int z)]) (by decide) rfl (Nat.le_of_ble_eq_true rfl) (by simp [lvle]) ?_
  refine r_iload_n dX6_against_0 rfl rfl ?_
  refine gS1 (Y := mX6_isTag) dX6_against_1 mlX6_160 ckX6_isTag skX6_isTag rfl (m_isTag_f (tag7 h)) ?_
  refine r_if_ne 10 dX6_against_4 (by decide) (fun c_4 => absurd rfl c_4) (fun c_4 => ?_)
  refine r_bipush (-2) dX6_against_7 (by decide) ?_
  refine r_ireturn dX6_against_9 rfl (Nat.zero_le _) (Nat.zero_le _) ?_
  exact ⟨rfl, rfl⟩
set_option maxHeartbeats 600000 in
set_option maxRecDepth 100000 in
theorem m_ag_out {M : Mem} {t : Nat} {y z : Int32} (ht : t < 8) (h : y < 0 ∨ 64 ≤ y ∨ z < 1 ∨ 4 < z) : Gv mX6_against [.ref 40, .int (nI t), .int y, .int z] M (some (.int (-3))) M := by
  have g := m_isTag_t (M := M) (x := nI t) (nI_pos (by omega)) (tag7n ht)
  refine con_of (lv := [some (.ref 40), some (.int (nI t)), some (.int y), some (.int z)]) (by decide) rfl (Nat.le_of_ble_eq_true rfl) (by simp [lvle]) ?_
  by_cases hy : y < 0 ∨ 63 < y
  · refine r_iload_n dX6_against_0 rfl rfl ?_
    refine gS1 (Y := mX6_isTag) dX6_against_1 mlX6_160 ckX6_isTag skX6_isTag rfl g ?_
    refine r_if_ne 10 dX6_against_4 (by decide) (fun c_4 => ?_) (fun c_4 => absurd c_4 (by decide))
    refine r_iload_n dX6_against_10 rfl rfl ?_
    refine r_iconst 0 dX6_against_11 (by decide) ?_
    refine r_bipush 63 dX6_against_12 (by decide) ?_
    refine gS3 (Y := mX6_in) dX6_against_14 mlX6_81 ckX6_in skX6_in rfl (m_in_f hy) ?_
    refine r_if_eq 29 dX6_against_17 (by decide) (fun c_17 => ?_) (fun c_17 => absurd rfl c_17)
    refine r_bipush (-3) dX6_against_29 (by decide) ?_
    refine r_ireturn dX6_against_31 rfl (Nat.zero_le _) (Nat.zero_le _) ?_
    exact ⟨rfl, rfl⟩
  · have hz : z < 1 ∨ 4 < z := by
      rcases h with q | q | q
      · exact absurd (Or.inl q) hy
      · refine absurd (Or.inr ?_) hy
        rw [i_le] at q
        rw [i_lt]
        exact Int.lt_of_lt_of_le (by decide) q
      · exact q
    refine r_iload_n dX6_against_0 rfl rfl ?_
    refine gS1 (Y := mX6_isTag) dX6_against_1 mlX6_160 ckX6_isTag skX6_isTag rfl g ?_
    refine r_if_ne 10 dX6_against_4 (by decide) (fun c_4 => ?_) (fun c_4 => absurd c_4 (by decide))
    refine r_iload_n dX6_against_10 rfl rfl ?_
    refine r_iconst 0 dX6_against_11 (by decide) ?_
    refine r_bipush 63 dX6_against_12 (by decide) ?_
    refine gS3 (Y := mX6_in) dX6_against_14 mlX6_81 ckX6_in skX6_in rfl (m_in_t (fun q => hy (Or.inl q)) (fun q => hy (Or.inr q))) ?_
    refine r_if_eq 29 dX6_against_17 (by decide) (fun c_17 => absurd c_17 (by decide)) (fun c_17 => ?_)
    refine r_iload_n dX6_against_20 rfl rfl ?_
    refine r_iconst 1 dX6_against_21 (by decide) ?_
    refine r_iconst 4 dX6_against_22 (by decide) ?_
    refine gS3 (Y := mX6_in) dX6_against_23 mlX6_81 ckX6_in skX6_in rfl (m_in_f hz) ?_
    refine r_if_ne 32 dX6_against_26 (by decide) (fun c_26 => absurd rfl c_26) (fun c_26 => ?_)
    refine r_bipush (-3) dX6_against_29 (by decide) ?_
    refine r_ireturn dX6_against_31 rfl (Nat.zero_le _) (Nat.zero_le _) ?_
    exact ⟨rfl, rfl⟩
set_option maxHeartbeats 600000 in
set_option maxRecDepth 100000 in
theorem m_ag_in {M : Mem} {t fi mn : Nat} {o : Nat} (ht : t < 8) (h1 : fi < 64) (h2 : 1 ≤ mn) (h3 : mn ≤ 4) (ho : o ≤ 2) (hs : M 54 t = nI o) : Gv mX6_against [.ref 40, .int (nI t), .int (nI fi), .int (nI mn)] M (some (.int (if o = 0 then 0 else -4))) M := by
  have g := m_isTag_t (M := M) (x := nI t) (nI_pos (by omega)) (tag7n ht)
  have gf := m_in_t (M := M) (x := nI fi) (a := 0) (b := 63) (nI_pos (by omega)) (nI_nlt (a := 63) (b := fi) (by omega) (by decide))
  have gm := m_in_t (M := M) (x := nI mn) (a := 1) (b := 4) (nI_nlt (a := mn) (b := 1) h2 (by omega)) (nI_nlt (a := 4) (b := mn) h3 (by decide))
  have hcl : (nI t).toNatClampNeg = t := nI_clamp (by omega)
  refine con_of (lv := [some (.ref 40), some (.int (nI t)), some (.int (nI fi)), some (.int (nI mn))]) (by decide) rfl (Nat.le_of_ble_eq_true rfl) (by simp [lvle]) ?_
  by_cases h0 : o = 0
  · subst h0
    refine r_iload_n dX6_against_0 rfl rfl ?_
    refine gS1 (Y := mX6_isTag) dX6_against_1 mlX6_160 ckX6_isTag skX6_isTag rfl g ?_
    refine r_if_ne 10 dX6_against_4 (by decide) (fun c_4 => ?_) (fun c_4 => absurd c_4 (by decide))
    refine r_iload_n dX6_against_10 rfl rfl ?_
    refine r_iconst 0 dX6_against_11 (by decide) ?_
    refine r_bipush 63 dX6_against_12 (by decide) ?_
    refine gS3 (Y := mX6_in) dX6_against_14 mlX6_81 ckX6_in skX6_in rfl gf ?_
    refine r_if_eq 29 dX6_against_17 (by decide) (fun c_17 => absurd c_17 (by decide)) (fun c_17 => ?_)
    refine r_iload_n dX6_against_20 rfl rfl ?_
    refine r_iconst 1 dX6_against_21 (by decide) ?_
    refine r_iconst 4 dX6_against_22 (by decide) ?_
    refine gS3 (Y := mX6_in) dX6_against_23 mlX6_81 ckX6_in skX6_in rfl gm ?_
    refine r_if_ne 32 dX6_against_26 (by decide) (fun c_26 => ?_) (fun c_26 => absurd c_26 (by decide))
    refine r_aload_n dX6_against_32 rfl rfl ?_
    refine r_getR (N := 35) dX6_against_33 fwX6_49 (by first | rfl | assumption) (Nat.le_of_ble_eq_true rfl) rfl (by first | rfl | assumption) ?_
    refine r_iload_n dX6_against_36 rfl rfl ?_
    refine r_iaload dX6_against_37 (by first | rfl | assumption) (by exact vp_in_nI ht (by decide)) ?_
    rw [hcl, hs]
    refine r_if_eq 46 dX6_against_38 (by decide) (fun c_38 => ?_) (fun c_38 => absurd rfl c_38)
    refine r_iconst 0 dX6_against_46 (by decide) ?_
    refine r_ireturn dX6_against_47 rfl (Nat.zero_le _) (Nat.zero_le _) ?_
    exact ⟨rfl, rfl⟩
  · rw [if_neg h0]
    refine r_iload_n dX6_against_0 rfl rfl ?_
    refine gS1 (Y := mX6_isTag) dX6_against_1 mlX6_160 ckX6_isTag skX6_isTag rfl g ?_
    refine r_if_ne 10 dX6_against_4 (by decide) (fun c_4 => ?_) (fun c_4 => absurd c_4 (by decide))
    refine r_iload_n dX6_against_10 rfl rfl ?_
    refine r_iconst 0 dX6_against_11 (by decide) ?_
    refine r_bipush 63 dX6_against_12 (by decide) ?_
    refine gS3 (Y := mX6_in) dX6_against_14 mlX6_81 ckX6_in skX6_in rfl gf ?_
    refine r_if_eq 29 dX6_against_17 (by decide) (fun c_17 => absurd c_17 (by decide)) (fun c_17 => ?_)
    refine r_iload_n dX6_against_20 rfl rfl ?_
    refine r_iconst 1 dX6_against_21 (by decide) ?_
    refine r_iconst 4 dX6_against_22 (by decide) ?_
    refine gS3 (Y := mX6_in) dX6_against_23 mlX6_81 ckX6_in skX6_in rfl gm ?_
    refine r_if_ne 32 dX6_against_26 (by decide) (fun c_26 => ?_) (fun c_26 => absurd c_26 (by decide))
    refine r_aload_n dX6_against_32 rfl rfl ?_
    refine r_getR (N := 35) dX6_against_33 fwX6_49 (by first | rfl | assumption) (Nat.le_of_ble_eq_true rfl) rfl (by first | rfl | assumption) ?_
    refine r_iload_n dX6_against_36 rfl rfl ?_
    refine r_iaload dX6_against_37 (by first | rfl | assumption) (by exact vp_in_nI ht (by decide)) ?_
    rw [hcl, hs]
    refine r_if_eq 46 dX6_against_38 (by decide) (fun c_38 => absurd c_38 (nI_ne0 (by omega) (by omega))) (fun c_38 => ?_)
    refine r_bipush (-4) dX6_against_41 (by decide) ?_
    refine r_goto 47 dX6_against_43 (by decide) ?_
    refine r_ireturn dX6_against_47 rfl (Nat.zero_le _) (Nat.zero_le _) ?_
    exact ⟨rfl, rfl⟩
def issW (M : Mem) (t : Nat) (k y z : Int32) (is : Nat) : Mem := upd2 (upd2 (upd2 (upd2 (upd2 (upd2 M 54 t 1) 55 t k) 56 t y) 57 t z) 59 t (nI is)) 40 28 (nI (is + 1))
set_option maxHeartbeats 600000 in
set_option maxRecDepth 100000 in
theorem m_issue {M : Mem} {t is : Nat} {k y z : Int32} (ht : t < 8) (h : M 40 28 = nI is) : Gv mX6_issue [.ref 40, .int (nI t), .int k, .int y, .int z] M (some (.int 1)) (issW M t k y z is) := by
  have hcl : (nI t).toNatClampNeg = t := nI_clamp (by omega)
  refine con_of (lv := [some (.ref 40), some (.int (nI t)), some (.int k), some (.int y), some (.int z)]) (by decide) rfl (Nat.le_of_ble_eq_true rfl) (by simp [lvle]) ?_
  refine r_aload_n dX6_issue_0 rfl rfl ?_
  refine r_getR (N := 35) dX6_issue_1 fwX6_49 (by first | rfl | assumption) (Nat.le_of_ble_eq_true rfl) rfl (by first | rfl | assumption) ?_
  refine r_iload_n dX6_issue_4 rfl rfl ?_
  refine r_iconst 1 dX6_issue_5 (by decide) ?_
  refine r_iastore dX6_issue_6 (by first | rfl | assumption) (by exact vp_in_nI ht (by decide)) ?_
  rw [hcl]
  refine r_aload_n dX6_issue_7 rfl rfl ?_
  refine r_getR (N := 35) dX6_issue_8 fwX6_52 (by first | rfl | assumption) (Nat.le_of_ble_eq_true rfl) rfl (by first | rfl | assumption) ?_
  refine r_iload_n dX6_issue_11 rfl rfl ?_
  refine r_iload_n dX6_issue_12 rfl rfl ?_
  refine r_iastore dX6_issue_13 (by first | rfl | assumption) (by exact vp_in_nI ht (by decide)) ?_
  rw [hcl]
  refine r_aload_n dX6_issue_14 rfl rfl ?_
  refine r_getR (N := 35) dX6_issue_15 fwX6_55 (by first | rfl | assumption) (Nat.le_of_ble_eq_true rfl) rfl (by first | rfl | assumption) ?_
  refine r_iload_n dX6_issue_18 rfl rfl ?_
  refine r_iload_n dX6_issue_19 rfl rfl ?_
  refine r_iastore dX6_issue_20 (by first | rfl | assumption) (by exact vp_in_nI ht (by decide)) ?_
  rw [hcl]
  refine r_aload_n dX6_issue_21 rfl rfl ?_
  refine r_getR (N := 35) dX6_issue_22 fwX6_58 (by first | rfl | assumption) (Nat.le_of_ble_eq_true rfl) rfl (by first | rfl | assumption) ?_
  refine r_iload_n dX6_issue_25 rfl rfl ?_
  refine r_iload dX6_issue_26 rfl ?_
  refine r_iastore dX6_issue_28 (by first | rfl | assumption) (by exact vp_in_nI ht (by decide)) ?_
  rw [hcl]
  refine r_aload_n dX6_issue_29 rfl rfl ?_
  refine r_getR (N := 35) dX6_issue_30 fwX6_64 (by first | rfl | assumption) (Nat.le_of_ble_eq_true rfl) rfl (by first | rfl | assumption) ?_
  refine r_iload_n dX6_issue_33 rfl rfl ?_
  refine r_aload_n dX6_issue_34 rfl rfl ?_
  refine r_getI (N := 35) dX6_issue_35 fwX6_157 (by first | rfl | assumption) (Nat.le_of_ble_eq_true rfl) rfl ?_
  rw [u_nn (show (40 : Nat) ≠ 57 by decide), u_nn (show (40 : Nat) ≠ 56 by decide), u_nn (show (40 : Nat) ≠ 55 by decide), u_nn (show (40 : Nat) ≠ 54 by decide), h]
  refine r_iastore dX6_issue_38 (by first | rfl | assumption) (by exact vp_in_nI ht (by decide)) ?_
  rw [hcl]
  refine r_aload_n dX6_issue_39 rfl rfl ?_
  first | refine r_dupR dX6_issue_40 ?_ | refine r_dupI dX6_issue_40 ?_
  refine r_getI (N := 35) dX6_issue_41 fwX6_157 (by first | rfl | assumption) (Nat.le_of_ble_eq_true rfl) rfl ?_
  rw [u_nn (show (40 : Nat) ≠ 59 by decide), u_nn (show (40 : Nat) ≠ 57 by decide), u_nn (show (40 : Nat) ≠ 56 by decide), u_nn (show (40 : Nat) ≠ 55 by decide), u_nn (show (40 : Nat) ≠ 54 by decide), h]
  refine r_iconst 1 dX6_issue_44 (by decide) ?_
  refine r_iadd dX6_issue_45 ?_
  rw [nI_1]
  refine r_putI (N := 35) dX6_issue_46 fwX6_157 (by first | rfl | assumption) (Nat.le_of_ble_eq_true rfl) rfl (Or.inl rfl) rfl rfl ?_
  refine r_iconst 1 dX6_issue_49 (by decide) ?_
  refine r_ireturn dX6_issue_50 rfl (Nat.zero_le _) (Nat.zero_le _) ?_
  exact ⟨rfl, rfl⟩
