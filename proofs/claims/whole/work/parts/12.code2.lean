def encS (x : Int32) (e : Bool) : Int32 := if x < 0 ∨ 264 ≤ x then -3 else wd x.toNatClampNeg e
def decS (x : Int32) (e : Bool) : Int32 := if x < 0 ∨ 1024 ≤ x then -3 else mvf x.toNatClampNeg e
theorem encS_o {x : Int32} {e : Bool} (h : x < 0 ∨ 264 ≤ x) : encS x e = -3 := if_pos h
theorem encS_i {k : Nat} {e : Bool} (h : k < 264) : encS (nI k) e = wd k e := by
  unfold encS
  rw [if_neg, nI_clamp (by omega)]
  rintro (q | q)
  · exact nI_pos (by omega) q
  · exact nI_ge (a := k) (b := 264) h (by decide) q
theorem decS_o {x : Int32} {e : Bool} (h : x < 0 ∨ 1024 ≤ x) : decS x e = -3 := if_pos h
theorem decS_i {k : Nat} {e : Bool} (h : k < 1024) : decS (nI k) e = mvf k e := by
  unfold decS
  rw [if_neg, nI_clamp (by omega)]
  rintro (q | q)
  · exact nI_pos (by omega) q
  · exact nI_ge (a := k) (b := 1024) h (by decide) q
theorem ix3 (x : Int32) (n : Nat) (hn : n < 2 ^ 31) : (x < 0 ∨ nI n ≤ x) ∨ ∃ j : Nat, j < n ∧ x = nI j := by
  rcases pk_ix x hn with h | h | h
  · exact Or.inl (Or.inl h)
  · exact Or.inl (Or.inr h)
  · exact Or.inr h
theorem nlt_le {a b : Int32} (h : ¬ a < b) : b ≤ a := by rw [i_lt] at h; rw [i_le]; omega
theorem nle_lt {a b : Int32} (h : ¬ a ≤ b) : b < a := by rw [i_le] at h; rw [i_lt]; omega
theorem le_nlt {a b : Int32} (h : a ≤ b) : ¬ b < a := by rw [i_le] at h; rw [i_lt]; omega
theorem lt_nle {a b : Int32} (h : a < b) : ¬ b ≤ a := by rw [i_lt] at h; rw [i_le]; omega
theorem neg_up {x : Int32} {b : Int32} (h : x < 0) (hb : 0 ≤ b) : x < b := by rw [i_lt] at *; rw [i_le] at hb; rw [i_0] at *; omega
set_option maxHeartbeats 4000000 in
set_option maxRecDepth 100000 in
theorem x_wordOf {M : Mem} (T : TabC M) {x : Int32} {e : Bool} : Gv mX1_wordOf [.ref 1, .int x, .int (eI e)] M (some (.int (encS x e))) M := by
  refine con_of (lv := [some (.ref 1), some (.int x), some (.int (eI e)), none]) (by decide) rfl (Nat.le_of_ble_eq_true rfl) (by simp [lvle]) ?_
  rcases ix3 x 264 (by decide) with h | ⟨k, hk, rfl⟩
  · rw [encS_o h]
    refine r_iload_n dX1_wordOf_0 rfl rfl ?_
    refine r_if_lt 11 dX1_wordOf_1 (by decide) (fun c_1 => ?_) (fun c_1 => ?_)
    · refine r_bipush (-3) dX1_wordOf_11 (by decide) ?_
      refine r_ireturn dX1_wordOf_13 rfl (Nat.zero_le _) (Nat.zero_le _) ?_
      exact ⟨rfl, rfl⟩
    · refine r_iload_n dX1_wordOf_4 rfl rfl ?_
      refine r_sipush 264 dX1_wordOf_5 (by decide) ?_
      refine r_icmp_lt 14 dX1_wordOf_8 (by decide) (fun c_8 => absurd h (fun q => q.elim c_1 (lt_nle c_8))) (fun c_8 => ?_)
      refine r_bipush (-3) dX1_wordOf_11 (by decide) ?_
      refine r_ireturn dX1_wordOf_13 rfl (Nat.zero_le _) (Nat.zero_le _) ?_
      exact ⟨rfl, rfl⟩
  · rw [encS_i hk]
    have hcl : (nI k).toNatClampNeg = k := nI_clamp (by omega)
    have ht := T.1 k hk
    have h1 : ¬ nI k < 0 := nI_pos (by omega)
    have h2 : nI k < 264 := nI_lt (a := k) (b := 264) hk (by decide)
    obtain ⟨wa, wb⟩ := wd_tab k hk
    by_cases h : k < 252
    · have h3 : nI k < 252 := nI_lt (a := k) (b := 252) h (by decide)
      obtain ⟨wt, wf⟩ := wa h
      refine r_iload_n dX1_wordOf_0 rfl rfl ?_
      refine r_if_lt 11 dX1_wordOf_1 (by decide) (fun c_1 => absurd c_1 h1) (fun c_1 => ?_)
      refine r_iload_n dX1_wordOf_4 rfl rfl ?_
      refine r_sipush 264 dX1_wordOf_5 (by decide) ?_
      refine r_icmp_lt 14 dX1_wordOf_8 (by decide) (fun c_8 => ?_) (fun c_8 => absurd h2 c_8)
      refine r_aload_n dX1_wordOf_14 rfl rfl ?_
      refine r_getR (N := 2) dX1_wordOf_15 fwX1_9 (by first | rfl | assumption) (Nat.le_of_ble_eq_true rfl) rfl (by first | rfl | assumption) ?_
      refine r_iload_n dX1_wordOf_18 rfl rfl ?_
      refine r_iaload dX1_wordOf_19 (by first | rfl | assumption) (by exact vp_in_nI hk (by decide)) ?_
      refine r_istore_n3 dX1_wordOf_20 rfl (Nat.le_of_ble_eq_true rfl) ?_
      refine r_iload_n dX1_wordOf_21 rfl rfl ?_
      refine r_if_eq 40 dX1_wordOf_22 (by decide) (fun c_22 => ?_) (fun c_22 => ?_)
      · refine r_iload_n dX1_wordOf_40 rfl rfl ?_
        refine r_ireturn dX1_wordOf_41 rfl (Nat.zero_le _) (Nat.zero_le _) ?_
        cases e with
        | true => rw [wt, hcl, ht]; exact ⟨rfl, rfl⟩
        | false => rw [wf, hcl, ht]; exact ⟨rfl, rfl⟩
      · refine r_iload_n dX1_wordOf_25 rfl rfl ?_
        refine r_sipush 252 dX1_wordOf_26 (by decide) ?_
        refine r_icmp_lt 40 dX1_wordOf_29 (by decide) (fun c_29 => ?_) (fun c_29 => absurd h3 c_29)
        refine r_iload_n dX1_wordOf_40 rfl rfl ?_
        refine r_ireturn dX1_wordOf_41 rfl (Nat.zero_le _) (Nat.zero_le _) ?_
        cases e with
        | true => rw [wt, hcl, ht]; exact ⟨rfl, rfl⟩
        | false => rw [wf, hcl, ht]; exact ⟨rfl, rfl⟩
    · have h3 : ¬ nI k < 252 := nI_nlt (a := k) (b := 252) (by omega) (by omega)
      obtain ⟨wt, wf⟩ := wb (by omega)
      cases e with
      | true =>
        refine r_iload_n dX1_wordOf_0 rfl rfl ?_
        refine r_if_lt 11 dX1_wordOf_1 (by decide) (fun c_1 => absurd c_1 h1) (fun c_1 => ?_)
        refine r_iload_n dX1_wordOf_4 rfl rfl ?_
        refine r_sipush 264 dX1_wordOf_5 (by decide) ?_
        refine r_icmp_lt 14 dX1_wordOf_8 (by decide) (fun c_8 => ?_) (fun c_8 => absurd h2 c_8)
        refine r_aload_n dX1_wordOf_14 rfl rfl ?_
        refine r_getR (N := 2) dX1_wordOf_15 fwX1_9 (by first | rfl | assumption) (Nat.le_of_ble_eq_true rfl) rfl (by first | rfl | assumption) ?_
        refine r_iload_n dX1_wordOf_18 rfl rfl ?_
        refine r_iaload dX1_wordOf_19 (by first | rfl | assumption) (by exact vp_in_nI hk (by decide)) ?_
        refine r_istore_n3 dX1_wordOf_20 rfl (Nat.le_of_ble_eq_true rfl) ?_
        refine r_iload_n dX1_wordOf_21 rfl rfl ?_
        refine r_if_eq 40 dX1_wordOf_22 (by decide) (fun c_22 => absurd c_22 (by decide)) (fun c_22 => ?_)
        refine r_iload_n dX1_wordOf_25 rfl rfl ?_
        refine r_sipush 252 dX1_wordOf_26 (by decide) ?_
        refine r_icmp_lt 40 dX1_wordOf_29 (by decide) (fun c_29 => absurd c_29 h3) (fun c_29 => ?_)
        refine r_sipush 1023 dX1_wordOf_32 (by decide) ?_
        refine r_iload_n dX1_wordOf_35 rfl rfl ?_
        refine r_ixor dX1_wordOf_36 ?_
        refine r_goto 41 dX1_wordOf_37 (by decide) ?_
        refine r_ireturn dX1_wordOf_41 rfl (Nat.zero_le _) (Nat.zero_le _) ?_
        rw [wt, hcl, ht]
        exact ⟨rfl, rfl⟩
      | false =>
        refine r_iload_n dX1_wordOf_0 rfl rfl ?_
        refine r_if_lt 11 dX1_wordOf_1 (by decide) (fun c_1 => absurd c_1 h1) (fun c_1 => ?_)
        refine r_iload_n dX1_wordOf_4 rfl rfl ?_
        refine r_sipush 264 dX1_wordOf_5 (by decide) ?_
        refine r_icmp_lt 14 dX1_wordOf_8 (by decide) (fun c_8 => ?_) (fun c_8 => absurd h2 c_8)
        refine r_aload_n dX1_wordOf_14 rfl rfl ?_
        refine r_getR (N := 2) dX1_wordOf_15 fwX1_9 (by first | rfl | assumption) (Nat.le_of_ble_eq_true rfl) rfl (by first | rfl | assumption) ?_
        refine r_iload_n dX1_wordOf_18 rfl rfl ?_
        refine r_iaload dX1_wordOf_19 (by first | rfl | assumption) (by exact vp_in_nI hk (by decide)) ?_
        refine r_istore_n3 dX1_wordOf_20 rfl (Nat.le_of_ble_eq_true rfl) ?_
        refine r_iload_n dX1_wordOf_21 rfl rfl ?_
        refine r_if_eq 40 dX1_wordOf_22 (by decide) (fun c_22 => ?_) (fun c_22 => absurd rfl c_22)
        refine r_iload_n dX1_wordOf_40 rfl rfl ?_
        refine r_ireturn dX1_wordOf_41 rfl (Nat.zero_le _) (Nat.zero_le _) ?_
        rw [wf, hcl, ht]
        exact ⟨rfl, rfl⟩
set_option maxHeartbeats 4000000 in
set_option maxRecDepth 100000 in
theorem x_encode {M : Mem} (T : TabC M) {x : Int32} {e : Bool} : Gv mX5_encode [.ref 0, .int x, .int (eI e)] M (some (.int (encS x e))) M := by
  refine con_of (lv := [some (.ref 0), some (.int x), some (.int (eI e))]) (by decide) rfl (Nat.le_of_ble_eq_true rfl) (by simp [lvle]) ?_
  refine r_aload_n dX5_encode_0 rfl rfl ?_
  refine r_getR (N := 10) dX5_encode_1 fwX5_10 (by first | rfl | assumption) (Nat.le_of_ble_eq_true rfl) rfl (by first | rfl | assumption) ?_
  refine r_iload_n dX5_encode_4 rfl rfl ?_
  refine r_iload_n dX5_encode_5 rfl rfl ?_
  refine gV2 (Y := mX1_wordOf) (ci := 1) (N := 2) dX5_encode_6 mlX5_59 vkX1_wordOf (by first | rfl | assumption) ⟨by decide, rfl⟩ rfl (x_wordOf T) ?_
  refine r_ireturn dX5_encode_9 rfl (Nat.zero_le _) (Nat.zero_le _) ?_
  exact ⟨rfl, rfl⟩
set_option maxHeartbeats 4000000 in
set_option maxRecDepth 100000 in
theorem m_encode {M : Mem} (T : TabM M) {x : Int32} {e : Bool} : Gv mX6_encode [.ref 40, .int x, .int (eI e)] M (some (.int (encS x e))) M := by
  refine con_of (lv := [some (.ref 40), some (.int x), some (.int (eI e))]) (by decide) rfl (Nat.le_of_ble_eq_true rfl) (by simp [lvle]) ?_
  rcases ix3 x 264 (by decide) with h | ⟨k, hk, rfl⟩
  · rw [encS_o h]
    have hf : x < 0 ∨ 263 < x := h.imp id (fun q => by rw [i_le] at q; rw [i_lt]; exact Int.lt_of_lt_of_le (by decide) q)
    refine r_iload_n dX6_encode_0 rfl rfl ?_
    refine r_iconst 0 dX6_encode_1 (by decide) ?_
    refine r_sipush 263 dX6_encode_2 (by decide) ?_
    refine gS3 (Y := mX6_in) dX6_encode_5 mlX6_81 ckX6_in skX6_in rfl (m_in_f hf) ?_
    refine r_if_eq 20 dX6_encode_8 (by decide) (fun c_8 => ?_) (fun c_8 => absurd rfl c_8)
    refine r_bipush (-3) dX6_encode_20 (by decide) ?_
    refine r_ireturn dX6_encode_22 rfl (Nat.zero_le _) (Nat.zero_le _) ?_
    exact ⟨rfl, rfl⟩
  · rw [encS_i hk]
    refine r_iload_n dX6_encode_0 rfl rfl ?_
    refine r_iconst 0 dX6_encode_1 (by decide) ?_
    refine r_sipush 263 dX6_encode_2 (by decide) ?_
    refine gS3 (Y := mX6_in) dX6_encode_5 mlX6_81 ckX6_in skX6_in rfl (m_in_t (nI_pos (by omega)) (nI_nlt (a := 263) (b := k) (by omega) (by omega))) ?_
    refine r_if_eq 20 dX6_encode_8 (by decide) (fun c_8 => absurd c_8 (by decide)) (fun c_8 => ?_)
    refine r_aload_n dX6_encode_11 rfl rfl ?_
    refine r_iload_n dX6_encode_12 rfl rfl ?_
    refine r_iload_n dX6_encode_13 rfl rfl ?_
    refine gV2 (Y := mX6_wordOf) (ci := 6) (N := 35) dX6_encode_14 mlX6_85 vkX6_wordOf (by first | rfl | assumption) ⟨by decide, rfl⟩ rfl (m_wordOf T hk) ?_
    refine r_goto 22 dX6_encode_17 (by decide) ?_
    refine r_ireturn dX6_encode_22 rfl (Nat.zero_le _) (Nat.zero_le _) ?_
    exact ⟨rfl, rfl⟩
set_option maxHeartbeats 4000000 in
set_option maxRecDepth 100000 in
theorem x_valueOf {M : Mem} (T : TabC M) {w : Nat} (hw : w < 1024) {e : Bool} : Gv mX1_valueOf [.ref 1, .int (nI w), .int (eI e)] M (some (.int (cvf w e))) M := by
  have hcl : (nI w).toNatClampNeg = w := nI_clamp (by omega)
  have ht := T.2 w hw
  have h1 : ¬ nI w < 0 := nI_pos (by omega)
  have h2 : nI w < 1024 := nI_lt (a := w) (b := 1024) hw (by decide)
  have hb := j_bitCount (M := M) (x := nI w)
  rw [bc_tab w hw] at hb
  refine con_of (lv := [some (.ref 1), some (.int (nI w)), some (.int (eI e)), none, none]) (by decide) rfl (Nat.le_of_ble_eq_true rfl) (by simp [lvle]) ?_
  refine r_iload_n dX1_valueOf_0 rfl rfl ?_
  refine r_if_lt 11 dX1_valueOf_1 (by decide) (fun c_1 => absurd c_1 h1) (fun c_1 => ?_)
  refine r_iload_n dX1_valueOf_4 rfl rfl ?_
  refine r_sipush 1024 dX1_valueOf_5 (by decide) ?_
  refine r_icmp_lt 13 dX1_valueOf_8 (by decide) (fun c_8 => ?_) (fun c_8 => absurd h2 c_8)
  refine r_aload_n dX1_valueOf_13 rfl rfl ?_
  refine r_getR (N := 2) dX1_valueOf_14 fwX1_15 (by first | rfl | assumption) (Nat.le_of_ble_eq_true rfl) rfl (by first | rfl | assumption) ?_
  refine r_iload_n dX1_valueOf_17 rfl rfl ?_
  refine r_iaload dX1_valueOf_18 (by first | rfl | assumption) (by exact vp_in_nI hw (by decide)) ?_
  refine r_istore_n3 dX1_valueOf_19 rfl (Nat.le_of_ble_eq_true rfl) ?_
  refine r_iload_n dX1_valueOf_20 rfl rfl ?_
  refine gS1 (Y := mJ6_bitCount_0f7a4) dX1_valueOf_21 mlX1_18 ckJ6_bitCount_0f7a4 skJ6_bitCount_0f7a4 rfl hb ?_
  refine r_iconst 5 dX1_valueOf_24 (by decide) ?_
  refine r_icmp_ge 32 dX1_valueOf_25 (by decide) (fun c_25 => ?_) (fun c_25 => ?_)
  · refine r_iconst 0 dX1_valueOf_32 (by decide) ?_
    refine r_istore_4 dX1_valueOf_33 rfl (Nat.le_of_ble_eq_true rfl) ?_
    refine r_iload_n dX1_valueOf_35 rfl rfl ?_
    refine r_sipush 252 dX1_valueOf_36 (by decide) ?_
    refine r_icmp_lt 53 dX1_valueOf_39 (by decide) (fun c_39 => ?_) (fun c_39 => ?_)
    · refine r_iload_n dX1_valueOf_53 rfl rfl ?_
      refine r_ireturn dX1_valueOf_54 rfl (Nat.zero_le _) (Nat.zero_le _) ?_
      rw [hcl, ht] at *
      unfold cvf
      first | rw [if_pos c_39] | rw [if_neg c_39, if_neg (le_nlt c_25), if_pos c_45] | rw [if_neg c_39, if_neg (le_nlt c_25), if_neg c_45] | rw [if_neg c_39, if_pos (nle_lt c_25), if_pos c_45] | rw [if_neg c_39, if_pos (nle_lt c_25), if_neg c_45]
      exact ⟨rfl, rfl⟩
    · refine r_iload dX1_valueOf_42 rfl ?_
      refine r_iload_n dX1_valueOf_44 rfl rfl ?_
      refine r_icmp_eq 53 dX1_valueOf_45 (by decide) (fun c_45 => ?_) (fun c_45 => ?_)
      · refine r_iload_n dX1_valueOf_53 rfl rfl ?_
        refine r_ireturn dX1_valueOf_54 rfl (Nat.zero_le _) (Nat.zero_le _) ?_
        rw [hcl, ht] at *
        unfold cvf
        first | rw [if_pos c_39] | rw [if_neg c_39, if_neg (le_nlt c_25), if_pos c_45] | rw [if_neg c_39, if_neg (le_nlt c_25), if_neg c_45] | rw [if_neg c_39, if_pos (nle_lt c_25), if_pos c_45] | rw [if_neg c_39, if_pos (nle_lt c_25), if_neg c_45]
        exact ⟨rfl, rfl⟩
      · refine r_bipush (-2) dX1_valueOf_48 (by decide) ?_
        refine r_goto 54 dX1_valueOf_50 (by decide) ?_
        refine r_ireturn dX1_valueOf_54 rfl (Nat.zero_le _) (Nat.zero_le _) ?_
        rw [hcl, ht] at *
        unfold cvf
        first | rw [if_pos c_39] | rw [if_neg c_39, if_neg (le_nlt c_25), if_pos c_45] | rw [if_neg c_39, if_neg (le_nlt c_25), if_neg c_45] | rw [if_neg c_39, if_pos (nle_lt c_25), if_pos c_45] | rw [if_neg c_39, if_pos (nle_lt c_25), if_neg c_45]
        exact ⟨rfl, rfl⟩
  · refine r_iconst 1 dX1_valueOf_28 (by decide) ?_
    refine r_goto 33 dX1_valueOf_29 (by decide) ?_
    refine r_istore_4 dX1_valueOf_33 rfl (Nat.le_of_ble_eq_true rfl) ?_
    refine r_iload_n dX1_valueOf_35 rfl rfl ?_
    refine r_sipush 252 dX1_valueOf_36 (by decide) ?_
    refine r_icmp_lt 53 dX1_valueOf_39 (by decide) (fun c_39 => ?_) (fun c_39 => ?_)
    · refine r_iload_n dX1_valueOf_53 rfl rfl ?_
      refine r_ireturn dX1_valueOf_54 rfl (Nat.zero_le _) (Nat.zero_le _) ?_
      rw [hcl, ht] at *
      unfold cvf
      first | rw [if_pos c_39] | rw [if_neg c_39, if_neg (le_nlt c_25), if_pos c_45] | rw [if_neg c_39, if_neg (le_nlt c_25), if_neg c_45] | rw [if_neg c_39, if_pos (nle_lt c_25), if_pos c_45] | rw [if_neg c_39, if_pos (nle_lt c_25), if_neg c_45]
      exact ⟨rfl, rfl⟩
    · refine r_iload dX1_valueOf_42 rfl ?_
      refine r_iload_n dX1_valueOf_44 rfl rfl ?_
      refine r_icmp_eq 53 dX1_valueOf_45 (by decide) (fun c_45 => ?_) (fun c_45 => ?_)
      · refine r_iload_n dX1_valueOf_53 rfl rfl ?_
        refine r_ireturn dX1_valueOf_54 rfl (Nat.zero_le _) (Nat.zero_le _) ?_
        rw [hcl, ht] at *
        unfold cvf
        first | rw [if_pos c_39] | rw [if_neg c_39, if_neg (le_nlt c_25), if_pos c_45] | rw [if_neg c_39, if_neg (le_nlt c_25), if_neg c_45] | rw [if_neg c_39, if_pos (nle_lt c_25), if_pos c_45] | rw [if_neg c_39, if_pos (nle_lt c_25), if_neg c_45]
        exact ⟨rfl, rfl⟩
      · refine r_bipush (-2) dX1_valueOf_48 (by decide) ?_
        refine r_goto 54 dX1_valueOf_50 (by decide) ?_
        refine r_ireturn dX1_valueOf_54 rfl (Nat.zero_le _) (Nat.zero_le _) ?_
        rw [hcl, ht] at *
        unfold cvf
        first | rw [if_pos c_39] | rw [if_neg c_39, if_neg (le_nlt c_25), if_pos c_45] | rw [if_neg c_39, if_neg (le_nlt c_25), if_neg c_45] | rw [if_neg c_39, if_pos (nle_lt c_25), if_pos c_45] | rw [if_neg c_39, if_pos (nle_lt c_25), if_neg c_45]
        exact ⟨rfl, rfl⟩
theorem nI_ne_m1 {i : Nat} (h : i < 2 ^ 31) : ¬ nI i = -1 := fun q => absurd (q ▸ nI_pos (n := i) h) (by decide)
theorem cvf_lo {w : Nat} {e : Bool} {x : Int32} (h : vl w = x) (hx : x < 252) : cvf w e = x := by
  unfold cvf
  rw [h, if_pos hx]
theorem cvf_hi {w : Nat} {e : Bool} {x : Int32} (h : vl w = x) (hx : ¬ x < 252) : cvf w e = if (if nI (popc w) < 5 then (1 : Int32) else 0) = eI e then x else -2 := by
  unfold cvf
  rw [h, if_neg hx]
theorem mvf_e {w : Nat} {e : Bool} {x : Int32} (h : en w = x) (hx : ¬ x = -1) : mvf w e = x := by
  unfold mvf
  rw [h, if_neg hx]
theorem mvf_u {w : Nat} {e : Bool} {k : Nat} (h : en w = -1) (hu : ufn w e = nI k) (hk : k < 2 ^ 31) : mvf w e = nI (252 + k) := by
  unfold mvf
  rw [h, if_pos rfl, hu, if_neg (nI_ne_m1 hk)]
  exact nI_add 252 k
theorem mvf_n {w : Nat} {e : Bool} (h : en w = -1) (hu : ufn w e = -1) : mvf w e = -1 := by
  unfold mvf
  rw [h, if_pos rfl, hu, if_pos rfl]
/-- what class and model tell of a word -/
theorem c_kinds {w : Nat} (hw : w < 1024) (e : Bool) : (∃ i, i < 252 ∧ en w = nI i ∧ cvf w e = nI i ∧ mvf w e = nI i) ∨ (en w = -1 ∧ ufn w true = -1 ∧ ufn w false = -1 ∧ cvf w e = -1 ∧ mvf w e = -1) ∨ (∃ k, k < 12 ∧ en w = -1 ∧ ufn w e = nI k ∧ cvf w e = nI (252 + k) ∧ mvf w e = nI (252 + k)) ∨ (∃ k, k < 12 ∧ en w = -1 ∧ ufn w e = -1 ∧ ufn w (!e) = nI k ∧ cvf w e = -2 ∧ mvf w e = -1) := by
  rcases w_kinds hw with ⟨i, hi, h1, h2, h3, h4⟩ | ⟨h1, h2, h3, h4⟩ | ⟨k, hk, h1, h2, h3, h4, h5⟩ | ⟨k, hk, h1, h2, h3, h4, h5⟩
  · exact Or.inl ⟨i, hi, h1, cvf_lo h2 (nI_lt (a := i) (b := 252) hi (by decide)), mvf_e h1 (nI_ne_m1 (by omega))⟩
  · refine Or.inr (Or.inl ⟨h1, h3, h4, cvf_lo h2 (by decide), mvf_n h1 ?_⟩)
    cases e
    · exact h4
    · exact h3
  · have e1 : ¬ nI (252 + k) < 252 := nI_nlt (a := 252 + k) (b := 252) (by omega) (by omega)
    cases e with
    | true => exact Or.inr (Or.inr (Or.inr ⟨k, hk, h1, h4, h3, by rw [cvf_hi h2 e1, h5]; exact if_neg (by decide), mvf_n h1 h4⟩))
    | false => exact Or.inr (Or.inr (Or.inl ⟨k, hk, h1, h3, by rw [cvf_hi h2 e1, h5]; exact if_pos (by decide), mvf_u h1 h3 (by omega)⟩))
  · have e1 : ¬ nI (252 + k) < 252 := nI_nlt (a := 252 + k) (b := 252) (by omega) (by omega)
    cases e with
    | false => exact Or.inr (Or.inr (Or.inr ⟨k, hk, h1, h4, h3, by rw [cvf_hi h2 e1, h5]; exact if_neg (by decide), mvf_n h1 h4⟩))
    | true => exact Or.inr (Or.inr (Or.inl ⟨k, hk, h1, h3, by rw [cvf_hi h2 e1, h5]; exact if_pos (by decide), mvf_u h1 h3 (by omega)⟩))
theorem dv_tab {w : Nat} (hw : w < 1024) (e : Bool) : (if 0 ≤ cvf w e then cvf w e else -1) = mvf w e := by
  rcases c_kinds hw e with ⟨i, hi, -, h2, h3⟩ | ⟨-, -, -, h2, h3⟩ | ⟨k, hk, -, -, h2, h3⟩ | ⟨k, hk, -, -, -, h2, h3⟩
  · rw [h2, h3, if_pos (nI_pos' (by omega))]
  · rw [h2, h3, if_neg (by decide)]
  · rw [h2, h3, if_pos (nI_pos' (by omega))]
  · rw [h2, h3, if_neg (by decide)]
set_option maxHeartbeats 4000000 in
set_option maxRecDepth 100000 in
theorem x_decode {M : Mem} (T : TabC M) {x : Int32} {e : Bool} : Gv mX5_decode [.ref 0, .int x, .int (eI e)] M (some (.int (decS x e))) M := by
  refine con_of (lv := [some (.ref 0), some (.int x), some (.int (eI e)), none]) (by decide) rfl (Nat.le_of_ble_eq_true rfl) (by simp [lvle]) ?_
  rcases ix3 x 1024 (by decide) with h | ⟨k, hk, rfl⟩
  · rw [decS_o h]
    refine r_iload_n dX5_decode_0 rfl rfl ?_
    refine r_if_lt 11 dX5_decode_1 (by decide) (fun c_1 => ?_) (fun c_1 => ?_)
    · refine r_bipush (-3) dX5_decode_11 (by decide) ?_
      refine r_ireturn dX5_decode_13 rfl (Nat.zero_le _) (Nat.zero_le _) ?_
      exact ⟨rfl, rfl⟩
    · refine r_iload_n dX5_decode_4 rfl rfl ?_
      refine r_sipush 1024 dX5_decode_5 (by decide) ?_
      refine r_icmp_lt 14 dX5_decode_8 (by decide) (fun c_8 => absurd h (fun q => q.elim c_1 (lt_nle c_8))) (fun c_8 => ?_)
      refine r_bipush (-3) dX5_decode_11 (by decide) ?_
      refine r_ireturn dX5_decode_13 rfl (Nat.zero_le _) (Nat.zero_le _) ?_
      exact ⟨rfl, rfl⟩
  · rw [decS_i hk, ← dv_tab hk]
    refine r_iload_n dX5_decode_0 rfl rfl ?_
    refine r_if_lt 11 dX5_decode_1 (by decide) (fun c_1 => absurd c_1 (nI_pos (by omega))) (fun c_1 => ?_)
    refine r_iload_n dX5_decode_4 rfl rfl ?_
    refine r_sipush 1024 dX5_decode_5 (by decide) ?_
    refine r_icmp_lt 14 dX5_decode_8 (by decide) (fun c_8 => ?_) (fun c_8 => absurd (nI_lt (a := k) (b := 1024) hk (by decide)) c_8)
    refine r_aload_n dX5_decode_14 rfl rfl ?_
    refine r_getR (N := 10) dX5_decode_15 fwX5_10 (by first | rfl | assumption) (Nat.le_of_ble_eq_true rfl) rfl (by first | rfl | assumption) ?_
    refine r_iload_n dX5_decode_18 rfl rfl ?_
    refine r_iload_n dX5_decode_19 rfl rfl ?_
    refine gV2 (Y := mX1_valueOf) (ci := 1) (N := 2) dX5_decode_20 mlX5_63 vkX1_valueOf (by first | rfl | assumption) ⟨by decide, rfl⟩ rfl (x_valueOf T hk) ?_
    refine r_istore_n3 dX5_decode_23 rfl (Nat.le_of_ble_eq_true rfl) ?_
    refine r_iload_n dX5_decode_24 rfl rfl ?_
    refine r_if_ge 32 dX5_decode_25 (by decide) (fun c_25 => ?_) (fun c_25 => ?_)
    · refine r_iload_n dX5_decode_32 rfl rfl ?_
      refine r_ireturn dX5_decode_33 rfl (Nat.zero_le _) (Nat.zero_le _) ?_
      first | rw [if_pos c_25] | rw [if_neg c_25]
      exact ⟨rfl, rfl⟩
    · refine r_iconst (-1) dX5_decode_28 (by decide) ?_
      refine r_goto 33 dX5_decode_29 (by decide) ?_
      refine r_ireturn dX5_decode_33 rfl (Nat.zero_le _) (Nat.zero_le _) ?_
      first | rw [if_pos c_25] | rw [if_neg c_25]
      exact ⟨rfl, rfl⟩
set_option maxHeartbeats 4000000 in
set_option maxRecDepth 100000 in
theorem m_decode {M : Mem} (T : TabM M) {x : Int32} {e : Bool} : Gv mX6_decode [.ref 40, .int x, .int (eI e)] M (some (.int (decS x e))) M := by
  refine con_of (lv := [some (.ref 40), some (.int x), some (.int (eI e))]) (by decide) rfl (Nat.le_of_ble_eq_true rfl) (by simp [lvle]) ?_
  rcases ix3 x 1024 (by decide) with h | ⟨k, hk, rfl⟩
  · rw [decS_o h]
    have hf : x < 0 ∨ 1023 < x := h.imp id (fun q => by rw [i_le] at q; rw [i_lt]; exact Int.lt_of_lt_of_le (by decide) q)
    refine r_iload_n dX6_decode_0 rfl rfl ?_
    refine r_iconst 0 dX6_decode_1 (by decide) ?_
    refine r_sipush 1023 dX6_decode_2 (by decide) ?_
    refine gS3 (Y := mX6_in) dX6_decode_5 mlX6_81 ckX6_in skX6_in rfl (m_in_f hf) ?_
    refine r_if_eq 20 dX6_decode_8 (by decide) (fun c_8 => ?_) (fun c_8 => absurd rfl c_8)
    refine r_bipush (-3) dX6_decode_20 (by decide) ?_
    refine r_ireturn dX6_decode_22 rfl (Nat.zero_le _) (Nat.zero_le _) ?_
    exact ⟨rfl, rfl⟩
  · rw [decS_i hk]
    refine r_iload_n dX6_decode_0 rfl rfl ?_
    refine r_iconst 0 dX6_decode_1 (by decide) ?_
    refine r_sipush 1023 dX6_decode_2 (by decide) ?_
    refine gS3 (Y := mX6_in) dX6_decode_5 mlX6_81 ckX6_in skX6_in rfl (m_in_t (nI_pos (by omega)) (nI_nlt (a := 1023) (b := k) (by omega) (by omega))) ?_
    refine r_if_eq 20 dX6_decode_8 (by decide) (fun c_8 => absurd c_8 (by decide)) (fun c_8 => ?_)
    refine r_aload_n dX6_decode_11 rfl rfl ?_
    refine r_iload_n dX6_decode_12 rfl rfl ?_
    refine r_iload_n dX6_decode_13 rfl rfl ?_
    refine gV2 (Y := mX6_valueOf) (ci := 6) (N := 35) dX6_decode_14 mlX6_92 vkX6_valueOf (by first | rfl | assumption) ⟨by decide, rfl⟩ rfl (m_valueOf T hk) ?_
    refine r_goto 22 dX6_decode_17 (by decide) ?_
    refine r_ireturn dX6_decode_22 rfl (Nat.zero_le _) (Nat.zero_le _) ?_
    exact ⟨rfl, rfl⟩
set_option maxHeartbeats 4000000 in
set_option maxRecDepth 100000 in
theorem m_crc_lp {M : Mem} {a b : Int32} : ∀ (m : Nat) (c : Int32), m ≤ 8 → WP mX6_checkByte 5 [some (.int a), some (.int b), some (.int c), some (.int (nI m + (-1))), none] [] 0 0 (shp, rfs, M) (fun r1 h1 => r1 = some (.int (crcBits b m c)) ∧ h1 = (shp, rfs, M)) := by
  intro m
  induction m with
  | zero =>
    intro c _
    refine r_iload_n dX6_checkByte_5 rfl rfl ?_
    refine r_if_lt 46 dX6_checkByte_6 (by decide) (fun c_6 => ?_) (fun c_6 => absurd m1_lt c_6)
    refine r_iload_n dX6_checkByte_46 rfl rfl ?_
    refine r_ireturn dX6_checkByte_47 rfl (Nat.zero_le _) (Nat.zero_le _) ?_
    exact ⟨rfl, rfl⟩
  | succ m ih =>
    intro c hm
    rw [m1_nI]
    have hsh := sh_and1 b (i := m) (by omega)
    refine r_iload_n dX6_checkByte_5 rfl rfl ?_
    refine r_if_lt 46 dX6_checkByte_6 (by decide) (fun c_6 => absurd c_6 (nI_nneg (by omega))) (fun c_6 => ?_)
    refine r_iload_n dX6_checkByte_9 rfl rfl ?_
    refine r_bipush 31 dX6_checkByte_10 (by decide) ?_
    refine r_iushr dX6_checkByte_12 ?_
    refine r_iload_n dX6_checkByte_13 rfl rfl ?_
    refine r_iload_n dX6_checkByte_14 rfl rfl ?_
    refine r_ishr dX6_checkByte_15 ?_
    refine r_iconst 1 dX6_checkByte_16 (by decide) ?_
    refine r_iand dX6_checkByte_17 ?_
    refine r_ixor dX6_checkByte_18 ?_
    refine r_istore_4 dX6_checkByte_19 rfl (Nat.le_of_ble_eq_true rfl) ?_
    refine r_iload_n dX6_checkByte_21 rfl rfl ?_
    refine r_iconst 1 dX6_checkByte_22 (by decide) ?_
    refine r_ishl dX6_checkByte_23 ?_
    refine r_istore_n2 dX6_checkByte_24 rfl (Nat.le_of_ble_eq_true rfl) ?_
    refine r_iload dX6_checkByte_25 rfl ?_
    refine r_iconst 1 dX6_checkByte_27 (by decide) ?_
    refine r_icmp_ne 38 dX6_checkByte_28 (by decide) (fun c_28 => ?_) (fun c_28 => ?_)
    · refine r_iload_n dX6_checkByte_38 rfl rfl ?_
      refine r_istore_n2 dX6_checkByte_39 rfl (Nat.le_of_ble_eq_true rfl) ?_
      refine r_iinc_3 (_ + (-1)) dX6_checkByte_40 rfl (Nat.le_of_ble_eq_true rfl) rfl ?_
      refine r_goto 5 dX6_checkByte_43 (by decide) ?_
      rw [hsh] at c_28
      have hs := (show crcStep c (us b (nI m) &&& 1) = _ by first | exact if_pos c_28 | exact if_neg c_28)
      simp only [crcBits]
      rw [hs]
      exact r_weak (by simp [lvle] <;> (repeat' apply And.intro) <;> first | rfl | decide) (ih _ (by omega))
    · refine r_iload_n dX6_checkByte_31 rfl rfl ?_
      refine r_ldc 79764919 dX6_checkByte_32 cnX6_99 ?_
      refine r_ixor dX6_checkByte_34 ?_
      refine r_goto 39 dX6_checkByte_35 (by decide) ?_
      refine r_istore_n2 dX6_checkByte_39 rfl (Nat.le_of_ble_eq_true rfl) ?_
      refine r_iinc_3 (_ + (-1)) dX6_checkByte_40 rfl (Nat.le_of_ble_eq_true rfl) rfl ?_
      refine r_goto 5 dX6_checkByte_43 (by decide) ?_
      rw [hsh] at c_28
      have hs := (show crcStep c (us b (nI m) &&& 1) = _ by first | exact if_pos c_28 | exact if_neg c_28)
      simp only [crcBits]
      rw [hs]
      exact r_weak (by simp [lvle] <;> (repeat' apply And.intro) <;> first | rfl | decide) (ih _ (by omega))
set_option maxHeartbeats 4000000 in
set_option maxRecDepth 100000 in
theorem m_checkByte {M : Mem} {a b : Int32} : Gv mX6_checkByte [.int a, .int b] M (some (.int (crcByte a b))) M := by
  refine con_of (lv := [some (.int a), some (.int b), none, none, none]) (by decide) rfl (Nat.le_of_ble_eq_true rfl) (by simp [lvle]) ?_
  refine r_iload_n dX6_checkByte_0 rfl rfl ?_
  refine r_istore_n2 dX6_checkByte_1 rfl (Nat.le_of_ble_eq_true rfl) ?_
  refine r_bipush 7 dX6_checkByte_2 (by decide) ?_
  refine r_istore_n3 dX6_checkByte_4 rfl (Nat.le_of_ble_eq_true rfl) ?_
  exact m_crc_lp 8 a (Nat.le_refl _)
set_option maxHeartbeats 4000000 in
set_option maxRecDepth 100000 in
theorem m_checkOf_lp {M : Mem} {r fr n N : Nat} (hs : shp[r]? = some (7, N)) (hN : fr + n ≤ N) (hN2 : N < 2 ^ 31) : ∀ (d j : Nat), j + d = n → WP mX6_checkOf 6 [some (.ref r), some (.int (nI fr)), some (.int (nI n)), some (.int (crcN (fun q => M r (fr + q)) j)), some (.int (nI j))] [] 0 0 (shp, rfs, M) (fun r1 h1 => r1 = some (.int (crcN (fun q => M r (fr + q)) n)) ∧ h1 = (shp, rfs, M)) := by
  intro d
  induction d with
  | zero =>
    intro j hj
    have hj : j = n := by omega
    subst hj
    refine r_iload dX6_checkOf_6 rfl ?_
    refine r_iload_n dX6_checkOf_8 rfl rfl ?_
    refine r_icmp_ge 29 dX6_checkOf_9 (by decide) (fun c_9 => ?_) (fun c_9 => absurd (nI_le (Nat.le_refl _) (by omega)) c_9)
    refine r_iload_n dX6_checkOf_29 rfl rfl ?_
    refine r_ireturn dX6_checkOf_30 rfl (Nat.zero_le _) (Nat.zero_le _) ?_
    exact ⟨rfl, rfl⟩
  | succ d ih =>
    intro j hj
    have hcl : (nI (fr + j)).toNatClampNeg = fr + j := nI_clamp (by omega)
    have hg := m_checkByte (M := M) (a := crcN (fun q => M r (fr + q)) j) (b := M r (fr + j))
    refine r_iload dX6_checkOf_6 rfl ?_
    refine r_iload_n dX6_checkOf_8 rfl rfl ?_
    refine r_icmp_ge 29 dX6_checkOf_9 (by decide) (fun c_9 => absurd c_9 (nI_ge (by omega) (by omega))) (fun c_9 => ?_)
    refine r_iload_n dX6_checkOf_12 rfl rfl ?_
    refine r_aload_n dX6_checkOf_13 rfl rfl ?_
    refine r_iload_n dX6_checkOf_14 rfl rfl ?_
    refine r_iload dX6_checkOf_15 rfl ?_
    refine r_iadd dX6_checkOf_17 ?_
    rw [nI_add]
    refine r_iaload dX6_checkOf_18 (by first | rfl | assumption) (by exact vp_in_nI (by omega) hN2) ?_
    refine gS2 (Y := mX6_checkByte) dX6_checkOf_19 mlX6_101 ckX6_checkByte skX6_checkByte rfl (by rw [hcl]; exact hg) ?_
    refine r_istore_n3 dX6_checkOf_22 rfl (Nat.le_of_ble_eq_true rfl) ?_
    refine r_iinc_4 (_ + 1) dX6_checkOf_23 rfl (Nat.le_of_ble_eq_true rfl) rfl ?_
    refine r_goto 6 dX6_checkOf_26 (by decide) ?_
    rw [nI_1]
    exact ih (j + 1) (by omega)
set_option maxHeartbeats 4000000 in
set_option maxRecDepth 100000 in
theorem m_checkOf {M : Mem} {r fr n N : Nat} (hs : shp[r]? = some (7, N)) (hN : fr + n ≤ N) (hN2 : N < 2 ^ 31) : Gv mX6_checkOf [.ref r, .int (nI fr), .int (nI n)] M (some (.int (crcN (fun q => M r (fr + q)) n))) M := by
  refine con_of (lv := [some (.ref r), some (.int (nI fr)), some (.int (nI n)), none, none]) (by decide) rfl (Nat.le_of_ble_eq_true rfl) (by simp [lvle]) ?_
  refine r_ldc 1378996274 dX6_checkOf_0 cnX6_100 ?_
  refine r_istore_n3 dX6_checkOf_2 rfl (Nat.le_of_ble_eq_true rfl) ?_
  refine r_iconst 0 dX6_checkOf_3 (by decide) ?_
  refine r_istore_4 dX6_checkOf_4 rfl (Nat.le_of_ble_eq_true rfl) ?_
  exact m_checkOf_lp hs hN hN2 n 0 (by omega)
