theorem CI.dr {M M' : Mem} {dn : Nat} {dp : Nat → Int32} {P : PL} {s : SSt} {w is rm : Nat} {rr : Nat → Int32} (h : CI M dn dp P s w is rm rr) (F : FrS [18, 19] [] M M') {n : Nat} {p : Nat → Int32} (H : HB M' 18 19 n p) : CI M' n p P s w is rm rr := by
  obtain ⟨h1, ⟨⟨c1, c2, c3, c4, c5⟩, c6, c7, c8, c9⟩, h3, h4⟩ := h
  refine ⟨H, ⟨⟨c1.frS F (by decide) (by simp), c2.frS F (by decide) (by simp), c3.frS F (by decide) (by simp), c4.frS F (by decide) (by simp), c5.frS F (by decide) (by simp) (by simp)⟩, fun t ht => ?_, fun t ht => ?_, ?_, ?_⟩, ?_, fun i hi => ?_⟩
  · have a : ∀ k, M' (24 + 2 * t) k = M (24 + 2 * t) k := fun k => F _ k (by simp <;> omega) (by simp)
    simp only [a]
    exact c6 t ht
  · have a : ∀ k, M' (25 + 2 * t) k = M (25 + 2 * t) k := fun k => F _ k (by simp <;> omega) (by simp)
    simp only [a]
    exact c7 t ht
  · rw [F 0 7 (by decide) (by simp)]; exact c8
  · rw [F 0 8 (by decide) (by simp)]; exact c9
  · rw [F 0 9 (by decide) (by simp)]; exact h3
  · rw [F 23 i (by decide) (by simp)]; exact h4 i hi
theorem MI.dr {M M' : Mem} {dn : Nat} {dp : Nat → Int32} {P : PL} {s : SSt} {w is rm : Nat} {rr : Nat → Int32} (h : MI M dn dp P s w is rm rr) (F : FrS [44, 49] [(40, 3), (40, 14)] M M') {n : Nat} {p : Nat → Int32} (H : M' 40 3 = nI n ∧ ∀ j, j < n → M' 44 j = p j) : MI M' n p P s w is rm rr := by
  obtain ⟨h1, ⟨⟨c1, c3, c4, c5⟩, c6, c7, c8, c9⟩, h3, h4, h5⟩ := h
  refine ⟨H, ⟨⟨c1.frS F (by decide) (by decide), c3.frS F (by decide) (by decide) (by decide), c4.frS F (by decide) (by decide) (by decide), c5.frS F (by decide) (by decide) (by decide)⟩, fun t ht => ?_, fun t ht => ?_, ?_, ?_⟩, ?_, ?_, fun i hi => ?_⟩
  · simp only [F 54 t (by decide) (by simp), F 55 t (by decide) (by simp), F 56 t (by decide) (by simp), F 57 t (by decide) (by simp), F 59 t (by decide) (by simp), F 60 t (by decide) (by simp)]
    exact c6 t ht
  · have a : ∀ k, M' 58 k = M 58 k := fun k => F _ k (by decide) (by simp)
    simp only [a]
    exact c7 t ht
  · rw [F 40 29 (by decide) (by decide)]; exact c8
  · rw [F 40 30 (by decide) (by decide)]; exact c9
  · rw [F 40 28 (by decide) (by decide)]; exact h3
  · rw [F 40 31 (by decide) (by decide)]; exact h4
  · rw [F 61 i (by decide) (by simp)]; exact h5 i hi
/-- nothing changes, both refuse or tell -/
theorem Both.same {X Y : MX} {avs : List Value} {c dn : Nat} {dp : Nat → Int32} {P : PL} {s : SSt} {w is rm : Nat} {rr : Nat → Int32} {M : Mem} (h1 : CI M dn dp P s w is rm rr) (ok : okA c dn dp P s w is rm) (r : Int32) (g1 : Gv X (.ref 0 :: avs) M (some (.int r)) M) (g2 : ∀ M1, MI M1 dn dp P s w is rm rr → Gv Y (.ref 40 :: avs) M1 (some (.int r)) M1) : ∃ (r : Int32) (M1 : Mem) (dn' : Nat) (dp' : Nat → Int32) (P' : PL) (s' : SSt) (w' is' rm' : Nat) (rr' : Nat → Int32), Gv X (.ref 0 :: avs) M (some (.int r)) M1 ∧ CI M1 dn' dp' P' s' w' is' rm' rr' ∧ FrS clsL [] M M1 ∧ okA (c + 1) dn' dp' P' s' w' is' rm' ∧ ∀ M1, MI M1 dn dp P s w is rm rr → ∃ M2, Gv Y (.ref 40 :: avs) M1 (some (.int r)) M2 ∧ MI M2 dn' dp' P' s' w' is' rm' rr' ∧ FrS modL [] M1 M2 :=
  ⟨r, M, dn, dp, P, s, w, is, rm, rr, g1, h1, FrS.rf, ok.up, fun M1 h2 => ⟨M1, g2 M1 h2, h2, FrS.rf⟩⟩
set_option maxHeartbeats 600000 in
set_option maxRecDepth 100000 in
theorem B_draft {x : Int32} : Both mX5_draft mX6_draft [.int x] := by
  refine Both.do (fun M c dn dp P s w is rm rr hc h1 ok => ?_)
  have hdn := ok.1.1
  rcases ix3 x 256 (by decide) with h | ⟨j, hj, rfl⟩
  · have hf : x < 0 ∨ 255 < x := h.imp id (fun q => by rw [i_le] at q; rw [i_lt]; exact Int.lt_of_lt_of_le (by decide) q)
    refine Both.same h1 ok (-3) ?_ (fun M1 h2 => ?_)
    · refine con_of (lv := [some (.ref 0), some (.int x)]) (by decide) rfl (Nat.le_of_ble_eq_true rfl) (by simp [lvle]) ?_
      refine r_iload_n dX5_draft_0 rfl rfl ?_
      refine r_if_lt 11 dX5_draft_1 (by decide) (fun c_1 => ?_) (fun c_1 => ?_)
      · refine r_bipush (-3) dX5_draft_11 (by decide) ?_
        refine r_ireturn dX5_draft_13 rfl (Nat.zero_le _) (Nat.zero_le _) ?_
        exact ⟨rfl, rfl⟩
      · refine r_iload_n dX5_draft_4 rfl rfl ?_
        refine r_sipush 255 dX5_draft_5 (by decide) ?_
        refine r_icmp_le 14 dX5_draft_8 (by decide) (fun c_8 => absurd hf (fun q => q.elim c_1 (le_nlt c_8))) (fun c_8 => ?_)
        refine r_bipush (-3) dX5_draft_11 (by decide) ?_
        refine r_ireturn dX5_draft_13 rfl (Nat.zero_le _) (Nat.zero_le _) ?_
        exact ⟨rfl, rfl⟩
    · refine con_of (lv := [some (.ref 40), some (.int x)]) (by decide) rfl (Nat.le_of_ble_eq_true rfl) (by simp [lvle]) ?_
      refine r_iload_n dX6_draft_0 rfl rfl ?_
      refine r_iconst 0 dX6_draft_1 (by decide) ?_
      refine r_sipush 255 dX6_draft_2 (by decide) ?_
      refine gS3 (Y := mX6_in) dX6_draft_5 mlX6_81 ckX6_in skX6_in rfl (m_in_f hf) ?_
      refine r_if_ne 14 dX6_draft_8 (by decide) (fun c_8 => absurd rfl c_8) (fun c_8 => ?_)
      refine r_bipush (-3) dX6_draft_11 (by decide) ?_
      refine r_ireturn dX6_draft_13 rfl (Nat.zero_le _) (Nat.zero_le _) ?_
      exact ⟨rfl, rfl⟩
  · have h0 : ¬ nI j < 0 := nI_pos (by omega)
    have h255 : nI j ≤ 255 := nI_le (a := j) (b := 255) (by omega) (by decide)
    have gs := b_size (M := M) isBy18
    rw [h1.1.1] at gs
    by_cases h12 : dn = 12
    · subst h12
      refine Both.same h1 ok (-5) ?_ (fun M1 h2 => ?_)
      · refine con_of (lv := [some (.ref 0), some (.int (nI j))]) (by decide) rfl (Nat.le_of_ble_eq_true rfl) (by simp [lvle]) ?_
        refine r_iload_n dX5_draft_0 rfl rfl ?_
        refine r_if_lt 11 dX5_draft_1 (by decide) (fun c_1 => absurd c_1 h0) (fun c_1 => ?_)
        refine r_iload_n dX5_draft_4 rfl rfl ?_
        refine r_sipush 255 dX5_draft_5 (by decide) ?_
        refine r_icmp_le 14 dX5_draft_8 (by decide) (fun c_8 => ?_) (fun c_8 => absurd h255 c_8)
        refine r_aload_n dX5_draft_14 rfl rfl ?_
        refine r_getR (N := 10) dX5_draft_15 fwX5_35 (by first | rfl | assumption) (Nat.le_of_ble_eq_true rfl) rfl (by first | rfl | assumption) ?_
        refine gV0 (Y := mX0_size) (ci := 0) (N := 2) dX5_draft_18 mlX5_66 vkX0_size (by first | rfl | assumption) ⟨by decide, rfl⟩ rfl gs ?_
        refine r_bipush 12 dX5_draft_21 (by decide) ?_
        refine r_icmp_lt 29 dX5_draft_23 (by decide) (fun c_23 => absurd c_23 (by decide)) (fun c_23 => ?_)
        refine r_bipush (-5) dX5_draft_26 (by decide) ?_
        refine r_ireturn dX5_draft_28 rfl (Nat.zero_le _) (Nat.zero_le _) ?_
        exact ⟨rfl, rfl⟩
      · have e3 := h2.1.1
        refine con_of (lv := [some (.ref 40), some (.int (nI j))]) (by decide) rfl (Nat.le_of_ble_eq_true rfl) (by simp [lvle]) ?_
        refine r_iload_n dX6_draft_0 rfl rfl ?_
        refine r_iconst 0 dX6_draft_1 (by decide) ?_
        refine r_sipush 255 dX6_draft_2 (by decide) ?_
        refine gS3 (Y := mX6_in) dX6_draft_5 mlX6_81 ckX6_in skX6_in rfl (m_in_t h0 (le_nlt h255)) ?_
        refine r_if_ne 14 dX6_draft_8 (by decide) (fun c_8 => ?_) (fun c_8 => absurd c_8 (by decide))
        refine r_aload_n dX6_draft_14 rfl rfl ?_
        refine r_getI (N := 35) dX6_draft_15 fwX6_95 (by first | rfl | assumption) (Nat.le_of_ble_eq_true rfl) rfl ?_
        refine r_bipush 12 dX6_draft_18 (by decide) ?_
        rw [e3]
        refine r_icmp_ne 26 dX6_draft_20 (by decide) (fun c_20 => absurd rfl c_20) (fun c_20 => ?_)
        refine r_bipush (-5) dX6_draft_23 (by decide) ?_
        refine r_ireturn dX6_draft_25 rfl (Nat.zero_le _) (Nat.zero_le _) ?_
        exact ⟨rfl, rfl⟩
    · obtain ⟨M1, g1, H1, F1⟩ := b_addX (M := M) (x := nI j) (g := upd dp dn (nI j)) isBy18 (h1.1.gg (fun q hq => (upd_n (by omega)).symm)) (by omega) (by rw [upd_s]; exact (okB_nI hj).symm)
      have gs2 := b_size (M := M1) isBy18
      rw [H1.1] at gs2
      refine ⟨nI (dn + 1), M1, dn + 1, upd dp dn (nI j), P, s, w, is, rm, rr, ?_, h1.dr F1.S H1, F1.S.mono (by decide) (by simp), ⟨⟨by omega, fun q hq => ?_⟩, ok.up.2⟩, fun M1 h2 => ?_⟩
      · have h23 : nI dn < 12 := nI_lt (a := dn) (b := 12) (by omega) (by decide)
        refine con_of (lv := [some (.ref 0), some (.int (nI j))]) (by decide) rfl (Nat.le_of_ble_eq_true rfl) (by simp [lvle]) ?_
        refine r_iload_n dX5_draft_0 rfl rfl ?_
        refine r_if_lt 11 dX5_draft_1 (by decide) (fun c_1 => absurd c_1 h0) (fun c_1 => ?_)
        refine r_iload_n dX5_draft_4 rfl rfl ?_
        refine r_sipush 255 dX5_draft_5 (by decide) ?_
        refine r_icmp_le 14 dX5_draft_8 (by decide) (fun c_8 => ?_) (fun c_8 => absurd h255 c_8)
        refine r_aload_n dX5_draft_14 rfl rfl ?_
        refine r_getR (N := 10) dX5_draft_15 fwX5_35 (by first | rfl | assumption) (Nat.le_of_ble_eq_true rfl) rfl (by first | rfl | assumption) ?_
        refine gV0 (Y := mX0_size) (ci := 0) (N := 2) dX5_draft_18 mlX5_66 vkX0_size (by first | rfl | assumption) ⟨by decide, rfl⟩ rfl gs ?_
        refine r_bipush 12 dX5_draft_21 (by decide) ?_
        refine r_icmp_lt 29 dX5_draft_23 (by decide) (fun c_23 => ?_) (fun c_23 => absurd h23 c_23)
        refine r_aload_n dX5_draft_29 rfl rfl ?_
        refine r_getR (N := 10) dX5_draft_30 fwX5_35 (by first | rfl | assumption) (Nat.le_of_ble_eq_true rfl) rfl (by first | rfl | assumption) ?_
        refine r_iload_n dX5_draft_33 rfl rfl ?_
        refine gW1 (Y := mX0_add) (ci := 0) (N := 2) dX5_draft_34 mlX5_70 vkX0_add (by first | rfl | assumption) ⟨by decide, rfl⟩ rfl g1 ?_
        refine r_aload_n dX5_draft_37 rfl rfl ?_
        refine r_getR (N := 10) dX5_draft_38 fwX5_35 (by first | rfl | assumption) (Nat.le_of_ble_eq_true rfl) rfl (by first | rfl | assumption) ?_
        refine gV0 (Y := mX0_size) (ci := 0) (N := 2) dX5_draft_41 mlX5_66 vkX0_size (by first | rfl | assumption) ⟨by decide, rfl⟩ rfl gs2 ?_
        refine r_ireturn dX5_draft_44 rfl (Nat.zero_le _) (Nat.zero_le _) ?_
        exact ⟨rfl, rfl⟩
      · by_cases hq2 : q = dn
        · rw [hq2, upd_s]; exact okB_nI hj
        · rw [upd_n hq2]; exact ok.1.2 q (by omega)
      · obtain ⟨e3, e44⟩ := h2.1
        have hcl : (nI dn).toNatClampNeg = dn := nI_clamp (by omega)
        refine ⟨upd2 (upd2 M1 44 dn (nI j)) 40 3 (nI (dn + 1)), ?_, h2.dr ((FrS.rf.upc (by decide)).ups (by decide)) ⟨u_ss, fun q hq => ?_⟩, (FrS.rf.upc (by decide)).upc (by decide)⟩
        · refine con_of (lv := [some (.ref 40), some (.int (nI j))]) (by decide) rfl (Nat.le_of_ble_eq_true rfl) (by simp [lvle]) ?_
          refine r_iload_n dX6_draft_0 rfl rfl ?_
          refine r_iconst 0 dX6_draft_1 (by decide) ?_
          refine r_sipush 255 dX6_draft_2 (by decide) ?_
          refine gS3 (Y := mX6_in) dX6_draft_5 mlX6_81 ckX6_in skX6_in rfl (m_in_t h0 (le_nlt h255)) ?_
          refine r_if_ne 14 dX6_draft_8 (by decide) (fun c_8 => ?_) (fun c_8 => absurd c_8 (by decide))
          refine r_aload_n dX6_draft_14 rfl rfl ?_
          refine r_getI (N := 35) dX6_draft_15 fwX6_95 (by first | rfl | assumption) (Nat.le_of_ble_eq_true rfl) rfl ?_
          refine r_bipush 12 dX6_draft_18 (by decide) ?_
          rw [e3]
          refine r_icmp_ne 26 dX6_draft_20 (by decide) (fun c_20 => ?_) (fun c_20 => absurd ((nI_eq (a := dn) (b := 12) (by omega) (by decide)).mp c_20) h12)
          refine r_aload_n dX6_draft_26 rfl rfl ?_
          refine r_getR (N := 35) dX6_draft_27 fwX6_19 (by first | rfl | assumption) (Nat.le_of_ble_eq_true rfl) rfl (by first | rfl | assumption) ?_
          refine r_aload_n dX6_draft_30 rfl rfl ?_
          refine r_getI (N := 35) dX6_draft_31 fwX6_95 (by first | rfl | assumption) (Nat.le_of_ble_eq_true rfl) rfl ?_
          refine r_iload_n dX6_draft_34 rfl rfl ?_
          rw [e3]
          refine r_iastore dX6_draft_35 (by first | rfl | assumption) (by exact vp_in_nI (by omega) (by decide)) ?_
          rw [hcl]
          refine r_aload_n dX6_draft_36 rfl rfl ?_
          first | refine r_dupR dX6_draft_37 ?_ | refine r_dupI dX6_draft_37 ?_
          refine r_getI (N := 35) dX6_draft_38 fwX6_95 (by first | rfl | assumption) (Nat.le_of_ble_eq_true rfl) rfl ?_
          refine r_iconst 1 dX6_draft_41 (by decide) ?_
          rw [u_nn (show (40 : Nat) ≠ 44 by decide), e3]
          refine r_iadd dX6_draft_42 ?_
          rw [nI_1]
          refine r_putI (N := 35) dX6_draft_43 fwX6_95 (by first | rfl | assumption) (Nat.le_of_ble_eq_true rfl) rfl (Or.inl rfl) rfl rfl ?_
          refine r_aload_n dX6_draft_46 rfl rfl ?_
          refine r_getI (N := 35) dX6_draft_47 fwX6_95 (by first | rfl | assumption) (Nat.le_of_ble_eq_true rfl) rfl ?_
          rw [u_ss]
          refine r_ireturn dX6_draft_50 rfl (Nat.zero_le _) (Nat.zero_le _) ?_
          exact ⟨rfl, rfl⟩
        · rw [u_nn (by decide)]
          by_cases hq2 : q = dn
          · rw [hq2, u_ss, upd_s]
          · rw [u_sn hq2, upd_n hq2]; exact e44 q (by omega)
theorem CI.ln {M M' : Mem} {dn : Nat} {dp : Nat → Int32} {P P' : PL} {s : SSt} {v : LSt} {w is rm : Nat} {rr : Nat → Int32} (h : CI M dn dp P s w is rm rr) (F : FrS [6, 7, 8, 9, 10, 11, 12, 13] [(4, 5), (4, 10), (4, 11), (4, 12), (4, 8)] M M') (hv : VC M' v) (hP : PC M' P') : CI M' dn dp P' (v, s.2) w is rm rr := by
  obtain ⟨h1, ⟨⟨c1, c2, c3, c4, c5⟩, c6, c7, c8, c9⟩, h3, h4⟩ := h
  refine ⟨h1.frS F (by decide) (by decide), ⟨⟨c1.frS F (by decide) (by decide), c2.frS F (by decide) (by decide), hv, c4.frS F (by decide) (by decide), hP⟩, fun t ht => ?_, fun t ht => ?_, ?_, ?_⟩, ?_, fun i hi => ?_⟩
  · have a : ∀ k, M' (24 + 2 * t) k = M (24 + 2 * t) k := fun k => F _ k (by simp <;> omega) (by simp <;> omega)
    simp only [a]
    exact c6 t ht
  · have a : ∀ k, M' (25 + 2 * t) k = M (25 + 2 * t) k := fun k => F _ k (by simp <;> omega) (by simp <;> omega)
    simp only [a]
    exact c7 t ht
  · rw [F 0 7 (by decide) (by decide)]; exact c8
  · rw [F 0 8 (by decide) (by decide)]; exact c9
  · rw [F 0 9 (by decide) (by decide)]; exact h3
  · rw [F 23 i (by decide) (by simp)]; exact h4 i hi
theorem MI.ln {M M' : Mem} {dn : Nat} {dp : Nat → Int32} {P P' : PL} {s : SSt} {v : LSt} {w is rm : Nat} {rr : Nat → Int32} (h : MI M dn dp P s w is rm rr) (F : FrS [45, 46, 47, 48, 50] [(40, 12), (40, 34), (40, 33), (40, 8), (40, 9), (40, 10), (40, 5)] M M') (hv : VM M' v) (hP : PM M' P') : MI M' dn dp P' (v, s.2) w is rm rr := by
  obtain ⟨h1, ⟨⟨c1, c3, c4, c5⟩, c6, c7, c8, c9⟩, h3, h4, h5⟩ := h
  refine ⟨⟨by rw [F 40 3 (by decide) (by decide)]; exact h1.1, fun j hj => by rw [F 44 j (by decide) (by simp)]; exact h1.2 j hj⟩, ⟨⟨c1.frS F (by decide) (by decide), hv, c4.frS F (by decide) (by decide) (by decide), hP⟩, fun t ht => ?_, fun t ht => ?_, ?_, ?_⟩, ?_, ?_, fun i hi => ?_⟩
  · simp only [F 54 t (by decide) (by simp), F 55 t (by decide) (by simp), F 56 t (by decide) (by simp), F 57 t (by decide) (by simp), F 59 t (by decide) (by simp), F 60 t (by decide) (by simp)]
    exact c6 t ht
  · have a : ∀ k, M' 58 k = M 58 k := fun k => F _ k (by decide) (by simp)
    simp only [a]
    exact c7 t ht
  · rw [F 40 29 (by decide) (by decide)]; exact c8
  · rw [F 40 30 (by decide) (by decide)]; exact c9
  · rw [F 40 28 (by decide) (by decide)]; exact h3
  · rw [F 40 31 (by decide) (by decide)]; exact h4
  · rw [F 61 i (by decide) (by simp)]; exact h5 i hi
set_option maxHeartbeats 600000 in
set_option maxRecDepth 100000 in
theorem m_test_lp {M0 : Mem} {n : Nat} {p : Nat → Int32} (hn : n ≤ 12) (h44 : ∀ j, j < n → M0 44 j = p j) : ∀ (e k : Nat) (M : Mem), k + e = n → M 40 14 = nI n → (∀ j, j < k → M 49 j = p j) → FrS [49] [(40, 14)] M0 M → ∃ M', (∀ Q, WP mX6_test 46 [some (.ref 40), none] [] 0 0 (shp, rfs, M') Q → WP mX6_test 20 [some (.ref 40), some (.int (nI k))] [] 0 0 (shp, rfs, M) Q) ∧ HP M' n p ∧ FrS [49] [(40, 14)] M0 M' := by
  intro e
  induction e with
  | zero =>
    intro k M hk h14 h F
    have hk : k = n := by omega
    subst hk
    refine ⟨M, fun Q hq => ?_, ⟨h14, h⟩, F⟩
    refine r_iload_n dX6_test_20 rfl rfl ?_
    refine r_aload_n dX6_test_21 rfl rfl ?_
    refine r_getI (N := 35) dX6_test_22 fwX6_125 (by first | rfl | assumption) (Nat.le_of_ble_eq_true rfl) rfl ?_
    rw [h14]
    refine r_icmp_ge 46 dX6_test_25 (by decide) (fun c_25 => ?_) (fun c_25 => absurd (nI_le (Nat.le_refl _) (by omega)) c_25)
    exact r_weak (by simp [lvle] <;> (repeat' apply And.intro) <;> first | rfl | decide) hq
  | succ e ih =>
    intro k M hk h14 h F
    have hcl : (nI k).toNatClampNeg = k := nI_clamp (by omega)
    have e44 : M 44 k = p k := by rw [F 44 k (by decide) (by simp)]; exact h44 k (by omega)
    obtain ⟨M', w, H', F'⟩ := ih (k + 1) (upd2 M 49 k (p k)) (by omega) (by rw [u_nn (by decide)]; exact h14) (fun j hj => by
      by_cases hq : j = k
      · rw [hq, u_ss]
      · rw [u_sn hq]; exact h j (by omega)) (F.upc (by decide))
    refine ⟨M', fun Q hq => ?_, H', F'⟩
    have w' := w Q hq
    refine r_iload_n dX6_test_20 rfl rfl ?_
    refine r_aload_n dX6_test_21 rfl rfl ?_
    refine r_getI (N := 35) dX6_test_22 fwX6_125 (by first | rfl | assumption) (Nat.le_of_ble_eq_true rfl) rfl ?_
    rw [h14]
    refine r_icmp_ge 46 dX6_test_25 (by decide) (fun c_25 => absurd c_25 (nI_ge (by omega) (by omega))) (fun c_25 => ?_)
    refine r_aload_n dX6_test_28 rfl rfl ?_
    refine r_getR (N := 35) dX6_test_29 fwX6_34 (by first | rfl | assumption) (Nat.le_of_ble_eq_true rfl) rfl (by first | rfl | assumption) ?_
    refine r_iload_n dX6_test_32 rfl rfl ?_
    refine r_aload_n dX6_test_33 rfl rfl ?_
    refine r_getR (N := 35) dX6_test_34 fwX6_19 (by first | rfl | assumption) (Nat.le_of_ble_eq_true rfl) rfl (by first | rfl | assumption) ?_
    refine r_iload_n dX6_test_37 rfl rfl ?_
    refine r_iaload dX6_test_38 (by first | rfl | assumption) (by exact vp_in_nI (by omega) (by decide)) ?_
    rw [hcl, e44]
    refine r_iastore dX6_test_39 (by first | rfl | assumption) (by exact vp_in_nI (by omega) (by decide)) ?_
    rw [hcl]
    refine r_iinc_1 (_ + 1) dX6_test_40 rfl (Nat.le_of_ble_eq_true rfl) rfl ?_
    refine r_goto 20 dX6_test_43 (by decide) ?_
    rw [nI_1]
    exact w'
set_option maxHeartbeats 600000 in
set_option maxRecDepth 100000 in
theorem B_test : Both mX5_test mX6_test [] := by
  refine Both.do (fun M c dn dp P s w is rm rr hc h1 ok => ?_)
  have hdn := ok.1.1
  have gs := b_size (M := M) isBy18
  rw [h1.1.1] at gs
  by_cases h0 : dn = 0
  · subst h0
    refine Both.same h1 ok (-4) ?_ (fun M1 h2 => ?_)
    · refine con_of (lv := [some (.ref 0), none]) (by decide) rfl (Nat.le_of_ble_eq_true rfl) (by simp [lvle]) ?_
      refine r_aload_n dX5_test_0 rfl rfl ?_
      refine r_getR (N := 10) dX5_test_1 fwX5_35 (by first | rfl | assumption) (Nat.le_of_ble_eq_true rfl) rfl (by first | rfl | assumption) ?_
      refine gV0 (Y := mX0_size) (ci := 0) (N := 2) dX5_test_4 mlX5_66 vkX0_size (by first | rfl | assumption) ⟨by decide, rfl⟩ rfl gs ?_
      refine r_if_ne 13 dX5_test_7 (by decide) (fun c_7 => absurd rfl c_7) (fun c_7 => ?_)
      refine r_bipush (-4) dX5_test_10 (by decide) ?_
      refine r_ireturn dX5_test_12 rfl (Nat.zero_le _) (Nat.zero_le _) ?_
      exact ⟨rfl, rfl⟩
    · have e3 := h2.1.1
      refine con_of (lv := [some (.ref 40), none]) (by decide) rfl (Nat.le_of_ble_eq_true rfl) (by simp [lvle]) ?_
      refine r_aload_n dX6_test_0 rfl rfl ?_
      refine r_getI (N := 35) dX6_test_1 fwX6_95 (by first | rfl | assumption) (Nat.le_of_ble_eq_true rfl) rfl ?_
      rw [e3]
      refine r_if_ne 10 dX6_test_4 (by decide) (fun c_4 => absurd rfl c_4) (fun c_4 => ?_)
      refine r_bipush (-4) dX6_test_7 (by decide) ?_
      refine r_ireturn dX6_test_9 rfl (Nat.zero_le _) (Nat.zero_le _) ?_
      exact ⟨rfl, rfl⟩
  · have hne : ¬ nI dn = 0 := nI_ne0 (by omega) (by omega)
    have hp : okF dp dn := ⟨by omega, by omega, ok.1.2⟩
    have hfr := ok.2.2.2.2.2.2.1
    obtain ⟨c1, c2, c3, c4, c5⟩ := h1.2.1.1
    obtain ⟨M1, g1, v1, F1⟩ := x_sendOnce c1 c2 isBy18 (by decide) h1.1 hp c3 c5 ok.2.1 (by omega)
    obtain ⟨M2, g2, H2, F2⟩ := b_clearX (M := M1) isBy18 dp
    have i1 := h1.ln (F1.mono (by decide) (by decide)) v1 (c5.frS F1 (by decide) (by decide) (by decide))
    have i2 := i1.dr F2.S H2
    refine ⟨fdF P dp dn s.1.1, M2, 0, dp, P, (one P dp dn s.1, s.2), w, is, rm, rr, ?_, i2, (F1.mono (by decide) (by decide)).tr (F2.S.mono (by decide) (by simp)), ⟨⟨by omega, fun q hq => absurd hq (by omega)⟩, ok.2.1, ok.2.2.1, ok.2.2.2.1, by have := ok.2.2.2.2.1; omega, ok.2.2.2.2.2.1, ?_, ?_⟩, fun M1 h2 => ?_⟩
    · refine con_of (lv := [some (.ref 0), none]) (by decide) rfl (Nat.le_of_ble_eq_true rfl) (by simp [lvle]) ?_
      refine r_aload_n dX5_test_0 rfl rfl ?_
      refine r_getR (N := 10) dX5_test_1 fwX5_35 (by first | rfl | assumption) (Nat.le_of_ble_eq_true rfl) rfl (by first | rfl | assumption) ?_
      refine gV0 (Y := mX0_size) (ci := 0) (N := 2) dX5_test_4 mlX5_66 vkX0_size (by first | rfl | assumption) ⟨by decide, rfl⟩ rfl gs ?_
      refine r_if_ne 13 dX5_test_7 (by decide) (fun c_7 => ?_) (fun c_7 => absurd c_7 hne)
      refine r_aload_n dX5_test_13 rfl rfl ?_
      refine r_getR (N := 10) dX5_test_14 fwX5_21 (by first | rfl | assumption) (Nat.le_of_ble_eq_true rfl) rfl (by first | rfl | assumption) ?_
      refine r_aload_n dX5_test_17 rfl rfl ?_
      refine r_getR (N := 10) dX5_test_18 fwX5_35 (by first | rfl | assumption) (Nat.le_of_ble_eq_true rfl) rfl (by first | rfl | assumption) ?_
      refine gV1 (Y := mX4_sendOnce) (ci := 4) (N := 13) dX5_test_21 mlX5_77 vkX4_sendOnce (by first | rfl | assumption) ⟨by decide, rfl⟩ rfl g1 ?_
      refine r_istore_n1 dX5_test_24 rfl (Nat.le_of_ble_eq_true rfl) ?_
      refine r_aload_n dX5_test_25 rfl rfl ?_
      refine r_getR (N := 10) dX5_test_26 fwX5_35 (by first | rfl | assumption) (Nat.le_of_ble_eq_true rfl) rfl (by first | rfl | assumption) ?_
      refine gW0 (Y := mX0_clear) (ci := 0) (N := 2) dX5_test_29 mlX5_81 vkX0_clear (by first | rfl | assumption) ⟨by decide, rfl⟩ rfl g2 ?_
      refine r_iload_n dX5_test_32 rfl rfl ?_
      refine r_ireturn dX5_test_33 rfl (Nat.zero_le _) (Nat.zero_le _) ?_
      exact ⟨rfl, rfl⟩
    · show s.1.1 + 1 ≤ 200 * (c + 1)
      omega
    · show 10 * (dn + 6) ≤ 180
      omega
    · obtain ⟨e3, e44⟩ := h2.1
      have F0 : FrS [49] [(40, 14)] M1 (upd2 M1 40 14 (nI dn)) := FrS.rf.ups (by decide)
      obtain ⟨M3, w3, H3, F3⟩ := m_test_lp (M0 := upd2 M1 40 14 (nI dn)) (n := dn) (p := dp) (by omega) (fun j hj => by rw [u_nn (by decide)]; exact e44 j hj) dn 0 (upd2 M1 40 14 (nI dn)) (by omega) u_ss (fun j hj => absurd hj (by omega)) FrS.rf
      have F13 : FrS [44, 49] [(40, 3), (40, 14)] M1 (upd2 M3 40 3 0) := ((F0.tr F3).mono (by decide) (by decide)).ups (by decide)
      have i3 := h2.dr F13 (n := 0) (p := dp) ⟨u_ss, fun j hj => absurd hj (by omega)⟩
      have H4 : HP (upd2 M3 40 3 0) dn dp := ⟨by rw [u_sn (by decide)]; exact H3.1, fun j hj => by rw [u_nn (by decide)]; exact H3.2 j hj⟩
      obtain ⟨M4, g4, v4, F4⟩ := m_sendOnce i3.2.1.1.1 H4 hp i3.2.1.1.2.1 i3.2.1.1.2.2.2 ok.2.1 (by omega)
      refine ⟨M4, ?_, i3.ln (F4.mono (by decide) (by decide)) v4 (i3.2.1.1.2.2.2.frS F4 (by decide) (by decide) (by decide)), (F13.mono (by decide) (by decide)).tr (F4.mono (by decide) (by decide))⟩
      refine con_of (lv := [some (.ref 40), none]) (by decide) rfl (Nat.le_of_ble_eq_true rfl) (by simp [lvle]) ?_
      refine r_aload_n dX6_test_0 rfl rfl ?_
      refine r_getI (N := 35) dX6_test_1 fwX6_95 (by first | rfl | assumption) (Nat.le_of_ble_eq_true rfl) rfl ?_
      rw [e3]
      refine r_if_ne 10 dX6_test_4 (by decide) (fun c_4 => ?_) (fun c_4 => absurd c_4 hne)
      refine r_aload_n dX6_test_10 rfl rfl ?_
      refine r_aload_n dX6_test_11 rfl rfl ?_
      refine r_getI (N := 35) dX6_test_12 fwX6_95 (by first | rfl | assumption) (Nat.le_of_ble_eq_true rfl) rfl ?_
      rw [e3]
      refine r_putI (N := 35) dX6_test_15 fwX6_125 (by first | rfl | assumption) (Nat.le_of_ble_eq_true rfl) rfl (Or.inl rfl) rfl rfl ?_
      refine r_iconst 0 dX6_test_18 (by decide) ?_
      refine r_istore_n1 dX6_test_19 rfl (Nat.le_of_ble_eq_true rfl) ?_
      refine w3 _ ?_
      refine r_aload_n dX6_test_46 rfl rfl ?_
      refine r_iconst 0 dX6_test_47 (by decide) ?_
      refine r_putI (N := 35) dX6_test_48 fwX6_95 (by first | rfl | assumption) (Nat.le_of_ble_eq_true rfl) rfl (Or.inl rfl) rfl rfl ?_
      refine r_aload_n dX6_test_51 rfl rfl ?_
      refine gV0 (Y := mX6_sendOnce) (ci := 6) (N := 35) dX6_test_52 mlX6_150 vkX6_sendOnce (by first | rfl | assumption) ⟨by decide, rfl⟩ rfl g4 ?_
      refine r_ireturn dX6_test_55 rfl (Nat.zero_le _) (Nat.zero_le _) ?_
      exact ⟨rfl, rfl⟩
def addP (P : PL) (a b : Int32) : PL := (P.1 + 1, upd P.2.1 P.1 a, upd P.2.2 P.1 b)
theorem le_of_nlt_m {x : Int32} (h : ¬ (1000000 : Int32) < x) (h0 : ¬ x < 0) : ∃ b, b ≤ 1000000 ∧ x = nI b := by
  obtain ⟨j, hj, rfl⟩ := nI_of h0
  refine ⟨j, ?_, rfl⟩
  rw [i_lt, nI_toInt hj] at h
  have : (1000000 : Int32).toInt = 1000000 := by decide
  omega
set_option maxHeartbeats 600000 in
set_option maxRecDepth 100000 in
theorem B_plan {x y : Int32} : Both mX5_plan mX6_plan [.int x, .int y] := by
  refine Both.do (fun M c dn dp P s w is rm rr hc h1 ok => ?_)
  by_cases hx : x < 0 ∨ 1000000 < x
  · refine Both.same h1 ok (-3) ?_ (fun M1 h2 => ?_)
    · refine con_of (lv := [some (.ref 0), some (.int x), some (.int y)]) (by decide) rfl (Nat.le_of_ble_eq_true rfl) (by simp [lvle]) ?_
      refine r_iload_n dX5_plan_0 rfl rfl ?_
      refine r_if_lt 20 dX5_plan_1 (by decide) (fun c_1 => ?_) (fun c_1 => ?_)
      · refine r_bipush (-3) dX5_plan_20 (by decide) ?_
        refine r_ireturn dX5_plan_22 rfl (Nat.zero_le _) (Nat.zero_le _) ?_
        exact ⟨rfl, rfl⟩
      · refine r_iload_n dX5_plan_4 rfl rfl ?_
        refine r_ldc 1000000 dX5_plan_5 cnX5_90 ?_
        refine r_icmp_gt 20 dX5_plan_7 (by decide) (fun c_7 => ?_) (fun c_7 => absurd hx (fun q => q.elim c_1 c_7))
        refine r_bipush (-3) dX5_plan_20 (by decide) ?_
        refine r_ireturn dX5_plan_22 rfl (Nat.zero_le _) (Nat.zero_le _) ?_
        exact ⟨rfl, rfl⟩
    · refine con_of (lv := [some (.ref 40), some (.int x), some (.int y)]) (by decide) rfl (Nat.le_of_ble_eq_true rfl) (by simp [lvle]) ?_
      refine r_iload_n dX6_plan_0 rfl rfl ?_
      refine r_iconst 0 dX6_plan_1 (by decide) ?_
      refine r_ldc 1000000 dX6_plan_2 cnX6_156 ?_
      refine gS3 (Y := mX6_in) dX6_plan_4 mlX6_81 ckX6_in skX6_in rfl (m_in_f hx) ?_
      refine r_if_eq 20 dX6_plan_7 (by decide) (fun c_7 => ?_) (fun c_7 => absurd rfl c_7)
      refine r_bipush (-3) dX6_plan_20 (by decide) ?_
      refine r_ireturn dX6_plan_22 rfl (Nat.zero_le _) (Nat.zero_le _) ?_
      exact ⟨rfl, rfl⟩
  · have hx1 : ¬ x < 0 := fun q => hx (Or.inl q)
    have hx2 : ¬ (1000000 : Int32) < x := fun q => hx (Or.inr q)
    by_cases hy : y < 0 ∨ 1000000 < y
    · refine Both.same h1 ok (-3) ?_ (fun M1 h2 => ?_)
      · refine con_of (lv := [some (.ref 0), some (.int x), some (.int y)]) (by decide) rfl (Nat.le_of_ble_eq_true rfl) (by simp [lvle]) ?_
        refine r_iload_n dX5_plan_0 rfl rfl ?_
        refine r_if_lt 20 dX5_plan_1 (by decide) (fun c_1 => absurd c_1 hx1) (fun c_1 => ?_)
        refine r_iload_n dX5_plan_4 rfl rfl ?_
        refine r_ldc 1000000 dX5_plan_5 cnX5_90 ?_
        refine r_icmp_gt 20 dX5_plan_7 (by decide) (fun c_7 => absurd c_7 hx2) (fun c_7 => ?_)
        refine r_iload_n dX5_plan_10 rfl rfl ?_
        refine r_if_lt 20 dX5_plan_11 (by decide) (fun c_11 => ?_) (fun c_11 => ?_)
        · refine r_bipush (-3) dX5_plan_20 (by decide) ?_
          refine r_ireturn dX5_plan_22 rfl (Nat.zero_le _) (Nat.zero_le _) ?_
          exact ⟨rfl, rfl⟩
        · refine r_iload_n dX5_plan_14 rfl rfl ?_
          refine r_ldc 1000000 dX5_plan_15 cnX5_90 ?_
          refine r_icmp_le 23 dX5_plan_17 (by decide) (fun c_17 => absurd hy (fun q => q.elim c_11 (le_nlt c_17))) (fun c_17 => ?_)
          refine r_bipush (-3) dX5_plan_20 (by decide) ?_
          refine r_ireturn dX5_plan_22 rfl (Nat.zero_le _) (Nat.zero_le _) ?_
          exact ⟨rfl, rfl⟩
      · refine con_of (lv := [some (.ref 40), some (.int x), some (.int y)]) (by decide) rfl (Nat.le_of_ble_eq_true rfl) (by simp [lvle]) ?_
        refine r_iload_n dX6_plan_0 rfl rfl ?_
        refine r_iconst 0 dX6_plan_1 (by decide) ?_
        refine r_ldc 1000000 dX6_plan_2 cnX6_156 ?_
        refine gS3 (Y := mX6_in) dX6_plan_4 mlX6_81 ckX6_in skX6_in rfl (m_in_t hx1 hx2) ?_
        refine r_if_eq 20 dX6_plan_7 (by decide) (fun c_7 => absurd c_7 (by decide)) (fun c_7 => ?_)
        refine r_iload_n dX6_plan_10 rfl rfl ?_
        refine r_iconst 0 dX6_plan_11 (by decide) ?_
        refine r_ldc 1000000 dX6_plan_12 cnX6_156 ?_
        refine gS3 (Y := mX6_in) dX6_plan_14 mlX6_81 ckX6_in skX6_in rfl (m_in_f hy) ?_
        refine r_if_ne 23 dX6_plan_17 (by decide) (fun c_17 => absurd rfl c_17) (fun c_17 => ?_)
        refine r_bipush (-3) dX6_plan_20 (by decide) ?_
        refine r_ireturn dX6_plan_22 rfl (Nat.zero_le _) (Nat.zero_le _) ?_
        exact ⟨rfl, rfl⟩
    · have hy1 : ¬ y < 0 := fun q => hy (Or.inl q)
      have hy2 : ¬ (1000000 : Int32) < y := fun q => hy (Or.inr q)
      have hP := h1.2.1.1.2.2.2.2
      have o30 := ok.2.1.1
      by_cases h30 : P.1 = 30
      · refine Both.same h1 ok (-5) ?_ (fun M1 h2 => ?_)
        · have g : Gv mX4_addFault [.ref 4, .int x, .int y] M (some (.int (-5))) M := by
            refine con_of (lv := [some (.ref 4), some (.int x), some (.int y)]) (by decide) rfl (Nat.le_of_ble_eq_true rfl) (by simp [lvle]) ?_
            refine r_aload_n dX4_addFault_0 rfl rfl ?_
            refine r_getI (N := 13) dX4_addFault_1 fwX4_54 (by first | rfl | assumption) (Nat.le_of_ble_eq_true rfl) rfl ?_
            refine r_bipush 30 dX4_addFault_4 (by decide) ?_
            rw [hP.1, h30]
            refine r_icmp_lt 12 dX4_addFault_6 (by decide) (fun c_6 => absurd c_6 (by decide)) (fun c_6 => ?_)
            refine r_bipush (-5) dX4_addFault_9 (by decide) ?_
            refine r_ireturn dX4_addFault_11 rfl (Nat.zero_le _) (Nat.zero_le _) ?_
            exact ⟨rfl, rfl⟩
          refine con_of (lv := [some (.ref 0), some (.int x), some (.int y)]) (by decide) rfl (Nat.le_of_ble_eq_true rfl) (by simp [lvle]) ?_
          refine r_iload_n dX5_plan_0 rfl rfl ?_
          refine r_if_lt 20 dX5_plan_1 (by decide) (fun c_1 => absurd c_1 hx1) (fun c_1 => ?_)
          refine r_iload_n dX5_plan_4 rfl rfl ?_
          refine r_ldc 1000000 dX5_plan_5 cnX5_90 ?_
          refine r_icmp_gt 20 dX5_plan_7 (by decide) (fun c_7 => absurd c_7 hx2) (fun c_7 => ?_)
          refine r_iload_n dX5_plan_10 rfl rfl ?_
          refine r_if_lt 20 dX5_plan_11 (by decide) (fun c_11 => absurd c_11 hy1) (fun c_11 => ?_)
          refine r_iload_n dX5_plan_14 rfl rfl ?_
          refine r_ldc 1000000 dX5_plan_15 cnX5_90 ?_
          refine r_icmp_le 23 dX5_plan_17 (by decide) (fun c_17 => ?_) (fun c_17 => absurd (nlt_le hy2) c_17)
          refine r_aload_n dX5_plan_23 rfl rfl ?_
          refine r_getR (N := 10) dX5_plan_24 fwX5_21 (by first | rfl | assumption) (Nat.le_of_ble_eq_true rfl) rfl (by first | rfl | assumption) ?_
          refine r_iload_n dX5_plan_27 rfl rfl ?_
          refine r_iload_n dX5_plan_28 rfl rfl ?_
          refine gV2 (Y := mX4_addFault) (ci := 4) (N := 13) dX5_plan_29 mlX5_91 vkX4_addFault (by first | rfl | assumption) ⟨by decide, rfl⟩ rfl g ?_
          refine r_ireturn dX5_plan_32 rfl (Nat.zero_le _) (Nat.zero_le _) ?_
          exact ⟨rfl, rfl⟩
        · have e5 := h2.2.1.1.2.2.2.1
          refine con_of (lv := [some (.ref 40), some (.int x), some (.int y)]) (by decide) rfl (Nat.le_of_ble_eq_true rfl) (by simp [lvle]) ?_
          refine r_iload_n dX6_plan_0 rfl rfl ?_
          refine r_iconst 0 dX6_plan_1 (by decide) ?_
          refine r_ldc 1000000 dX6_plan_2 cnX6_156 ?_
          refine gS3 (Y := mX6_in) dX6_plan_4 mlX6_81 ckX6_in skX6_in rfl (m_in_t hx1 hx2) ?_
          refine r_if_eq 20 dX6_plan_7 (by decide) (fun c_7 => absurd c_7 (by decide)) (fun c_7 => ?_)
          refine r_iload_n dX6_plan_10 rfl rfl ?_
          refine r_iconst 0 dX6_plan_11 (by decide) ?_
          refine r_ldc 1000000 dX6_plan_12 cnX6_156 ?_
          refine gS3 (Y := mX6_in) dX6_plan_14 mlX6_81 ckX6_in skX6_in rfl (m_in_t hy1 hy2) ?_
          refine r_if_ne 23 dX6_plan_17 (by decide) (fun c_17 => ?_) (fun c_17 => absurd c_17 (by decide))
          refine r_aload_n dX6_plan_23 rfl rfl ?_
          refine r_getI (N := 35) dX6_plan_24 fwX6_132 (by first | rfl | assumption) (Nat.le_of_ble_eq_true rfl) rfl ?_
          refine r_bipush 30 dX6_plan_27 (by decide) ?_
          rw [e5, h30]
          refine r_icmp_ne 35 dX6_plan_29 (by decide) (fun c_29 => absurd rfl c_29) (fun c_29 => ?_)
          refine r_bipush (-5) dX6_plan_32 (by decide) ?_
          refine r_ireturn dX6_plan_34 rfl (Nat.zero_le _) (Nat.zero_le _) ?_
          exact ⟨rfl, rfl⟩
      · have hcl : (nI P.1).toNatClampNeg = P.1 := nI_clamp (by omega)
        have F1 : FrS [6, 7, 8, 9, 10, 11, 12, 13] [(4, 5), (4, 10), (4, 11), (4, 12), (4, 8)] M (upd2 (upd2 (upd2 M 11 P.1 x) 12 P.1 y) 4 8 (nI (P.1 + 1))) := ((FrS.rf.upc (by decide)).upc (by decide)).ups (by decide)
        have F1' : FrS [11, 12] [(4, 8)] M (upd2 (upd2 (upd2 M 11 P.1 x) 12 P.1 y) 4 8 (nI (P.1 + 1))) := ((FrS.rf.upc (by decide)).upc (by decide)).ups (by decide)
        have v0 := h1.2.1.1.2.2.1
        have v1 : VC (upd2 (upd2 (upd2 M 11 P.1 x) 12 P.1 y) 4 8 (nI (P.1 + 1))) s.1 := ⟨by rw [F1' 4 10 (by decide) (by decide)]; exact v0.1, fun j q => by rw [F1' 13 j (by decide) (by simp)]; exact v0.2.1 j q, by rw [F1' 4 11 (by decide) (by decide)]; exact v0.2.2.1, by rw [F1' 4 12 (by decide) (by decide)]; exact v0.2.2.2.1, by rw [F1' 4 5 (by decide) (by decide)]; exact v0.2.2.2.2.1, fun j q => by rw [F1' 10 j (by decide) (by simp)]; exact v0.2.2.2.2.2 j q⟩
        have p1 : PC (upd2 (upd2 (upd2 M 11 P.1 x) 12 P.1 y) 4 8 (nI (P.1 + 1))) (addP P x y) := by
          refine ⟨u_ss, fun j hj => ?_⟩
          have hj : j < P.1 + 1 := hj
          rw [u_nn (show (11 : Nat) ≠ 4 by decide), u_nn (show (12 : Nat) ≠ 4 by decide), u_nn (show (11 : Nat) ≠ 12 by decide)]
          show _ = upd _ _ _ _ ∧ _ = upd _ _ _ _
          by_cases hq : j = P.1
          · rw [hq, u_ss, u_ss, upd_s, upd_s]; exact ⟨rfl, rfl⟩
          · rw [u_sn hq, u_sn hq, upd_n hq, upd_n hq, u_nn (by decide)]; exact hP.2 j (by omega)
        refine ⟨nI (P.1 + 1), _, dn, dp, addP P x y, s, w, is, rm, rr, ?_, h1.ln F1 v1 p1, F1.mono (by decide) (by decide), ⟨ok.1, ⟨by show P.1 + 1 ≤ 30; omega, fun j hj => ?_⟩, ok.up.2.2⟩, fun M1 h2 => ?_⟩
        · have g : Gv mX4_addFault [.ref 4, .int x, .int y] M (some (.int (nI (P.1 + 1)))) (upd2 (upd2 (upd2 M 11 P.1 x) 12 P.1 y) 4 8 (nI (P.1 + 1))) := by
            refine con_of (lv := [some (.ref 4), some (.int x), some (.int y)]) (by decide) rfl (Nat.le_of_ble_eq_true rfl) (by simp [lvle]) ?_
            refine r_aload_n dX4_addFault_0 rfl rfl ?_
            refine r_getI (N := 13) dX4_addFault_1 fwX4_54 (by first | rfl | assumption) (Nat.le_of_ble_eq_true rfl) rfl ?_
            refine r_bipush 30 dX4_addFault_4 (by decide) ?_
            rw [hP.1]
            refine r_icmp_lt 12 dX4_addFault_6 (by decide) (fun c_6 => ?_) (fun c_6 => absurd (nI_lt (a := P.1) (b := 30) (by omega) (by decide)) c_6)
            refine r_aload_n dX4_addFault_12 rfl rfl ?_
            refine r_getR (N := 13) dX4_addFault_13 fwX4_28 (by first | rfl | assumption) (Nat.le_of_ble_eq_true rfl) rfl (by first | rfl | assumption) ?_
            refine r_aload_n dX4_addFault_16 rfl rfl ?_
            refine r_getI (N := 13) dX4_addFault_17 fwX4_54 (by first | rfl | assumption) (Nat.le_of_ble_eq_true rfl) rfl ?_
            refine r_iload_n dX4_addFault_20 rfl rfl ?_
            rw [hP.1]
            refine r_iastore dX4_addFault_21 (by first | rfl | assumption) (by exact vp_in_nI (by omega) (by decide)) ?_
            rw [hcl]
            refine r_aload_n dX4_addFault_22 rfl rfl ?_
            refine r_getR (N := 13) dX4_addFault_23 fwX4_31 (by first | rfl | assumption) (Nat.le_of_ble_eq_true rfl) rfl (by first | rfl | assumption) ?_
            refine r_aload_n dX4_addFault_26 rfl rfl ?_
            refine r_getI (N := 13) dX4_addFault_27 fwX4_54 (by first | rfl | assumption) (Nat.le_of_ble_eq_true rfl) rfl ?_
            refine r_iload_n dX4_addFault_30 rfl rfl ?_
            rw [u_nn (show (4 : Nat) ≠ 11 by decide), hP.1]
            refine r_iastore dX4_addFault_31 (by first | rfl | assumption) (by exact vp_in_nI (by omega) (by decide)) ?_
            rw [hcl]
            refine r_aload_n dX4_addFault_32 rfl rfl ?_
            first | refine r_dupR dX4_addFault_33 ?_ | refine r_dupI dX4_addFault_33 ?_
            refine r_getI (N := 13) dX4_addFault_34 fwX4_54 (by first | rfl | assumption) (Nat.le_of_ble_eq_true rfl) rfl ?_
            refine r_iconst 1 dX4_addFault_37 (by decide) ?_
            rw [u_nn (show (4 : Nat) ≠ 12 by decide), u_nn (show (4 : Nat) ≠ 11 by decide), hP.1]
            refine r_iadd dX4_addFault_38 ?_
            rw [nI_1]
            refine r_putI (N := 13) dX4_addFault_39 fwX4_54 (by first | rfl | assumption) (Nat.le_of_ble_eq_true rfl) rfl (Or.inl rfl) rfl rfl ?_
            refine r_aload_n dX4_addFault_42 rfl rfl ?_
            refine r_getI (N := 13) dX4_addFault_43 fwX4_54 (by first | rfl | assumption) (Nat.le_of_ble_eq_true rfl) rfl ?_
            rw [u_ss]
            refine r_ireturn dX4_addFault_46 rfl (Nat.zero_le _) (Nat.zero_le _) ?_
            exact ⟨rfl, rfl⟩
          refine con_of (lv := [some (.ref 0), some (.int x), some (.int y)]) (by decide) rfl (Nat.le_of_ble_eq_true rfl) (by simp [lvle]) ?_
          refine r_iload_n dX5_plan_0 rfl rfl ?_
          refine r_if_lt 20 dX5_plan_1 (by decide) (fun c_1 => absurd c_1 hx1) (fun c_1 => ?_)
          refine r_iload_n dX5_plan_4 rfl rfl ?_
          refine r_ldc 1000000 dX5_plan_5 cnX5_90 ?_
          refine r_icmp_gt 20 dX5_plan_7 (by decide) (fun c_7 => absurd c_7 hx2) (fun c_7 => ?_)
          refine r_iload_n dX5_plan_10 rfl rfl ?_
          refine r_if_lt 20 dX5_plan_11 (by decide) (fun c_11 => absurd c_11 hy1) (fun c_11 => ?_)
          refine r_iload_n dX5_plan_14 rfl rfl ?_
          refine r_ldc 1000000 dX5_plan_15 cnX5_90 ?_
          refine r_icmp_le 23 dX5_plan_17 (by decide) (fun c_17 => ?_) (fun c_17 => absurd (nlt_le hy2) c_17)
          refine r_aload_n dX5_plan_23 rfl rfl ?_
          refine r_getR (N := 10) dX5_plan_24 fwX5_21 (by first | rfl | assumption) (Nat.le_of_ble_eq_true rfl) rfl (by first | rfl | assumption) ?_
          refine r_iload_n dX5_plan_27 rfl rfl ?_
          refine r_iload_n dX5_plan_28 rfl rfl ?_
          refine gV2 (Y := mX4_addFault) (ci := 4) (N := 13) dX5_plan_29 mlX5_91 vkX4_addFault (by first | rfl | assumption) ⟨by decide, rfl⟩ rfl g ?_
          refine r_ireturn dX5_plan_32 rfl (Nat.zero_le _) (Nat.zero_le _) ?_
          exact ⟨rfl, rfl⟩
        · have hj : j < P.1 + 1 := hj
          show ∃ b, b ≤ 1000000 ∧ upd P.2.2 P.1 y j = nI b
          by_cases hq : j = P.1
          · rw [hq, upd_s]; exact le_of_nlt_m hy2 hy1
          · rw [upd_n hq]; exact ok.2.1.2 j (by omega)
        · have hM := h2.2.1.1.2.2.2
          have v0 := h2.2.1.1.2.1
          have F2 : FrS [45, 46, 47, 48, 50] [(40, 12), (40, 34), (40, 33), (40, 8), (40, 9), (40, 10), (40, 5)] M1 (upd2 (upd2 (upd2 M1 45 P.1 x) 46 P.1 y) 40 5 (nI (P.1 + 1))) := ((FrS.rf.upc (by decide)).upc (by decide)).ups (by decide)
          have F2' : FrS [45, 46] [(40, 5)] M1 (upd2 (upd2 (upd2 M1 45 P.1 x) 46 P.1 y) 40 5 (nI (P.1 + 1))) := ((FrS.rf.upc (by decide)).upc (by decide)).ups (by decide)
          refine ⟨_, ?_, h2.ln F2 (v0.frS F2' (by decide) (by decide) (by decide)) (P' := addP P x y) ⟨u_ss, fun j hj => ?_⟩, F2.mono (by decide) (by decide)⟩
          · have e5 := hM.1
            refine con_of (lv := [some (.ref 40), some (.int x), some (.int y)]) (by decide) rfl (Nat.le_of_ble_eq_true rfl) (by simp [lvle]) ?_
            refine r_iload_n dX6_plan_0 rfl rfl ?_
            refine r_iconst 0 dX6_plan_1 (by decide) ?_
            refine r_ldc 1000000 dX6_plan_2 cnX6_156 ?_
            refine gS3 (Y := mX6_in) dX6_plan_4 mlX6_81 ckX6_in skX6_in rfl (m_in_t hx1 hx2) ?_
            refine r_if_eq 20 dX6_plan_7 (by decide) (fun c_7 => absurd c_7 (by decide)) (fun c_7 => ?_)
            refine r_iload_n dX6_plan_10 rfl rfl ?_
            refine r_iconst 0 dX6_plan_11 (by decide) ?_
            refine r_ldc 1000000 dX6_plan_12 cnX6_156 ?_
            refine gS3 (Y := mX6_in) dX6_plan_14 mlX6_81 ckX6_in skX6_in rfl (m_in_t hy1 hy2) ?_
            refine r_if_ne 23 dX6_plan_17 (by decide) (fun c_17 => ?_) (fun c_17 => absurd c_17 (by decide))
            refine r_aload_n dX6_plan_23 rfl rfl ?_
            refine r_getI (N := 35) dX6_plan_24 fwX6_132 (by first | rfl | assumption) (Nat.le_of_ble_eq_true rfl) rfl ?_
            refine r_bipush 30 dX6_plan_27 (by decide) ?_
            rw [e5]
            refine r_icmp_ne 35 dX6_plan_29 (by decide) (fun c_29 => ?_) (fun c_29 => absurd ((nI_eq (a := P.1) (b := 30) (by omega) (by decide)).mp c_29) h30)
            refine r_aload_n dX6_plan_35 rfl rfl ?_
            refine r_getR (N := 35) dX6_plan_36 fwX6_22 (by first | rfl | assumption) (Nat.le_of_ble_eq_true rfl) rfl (by first | rfl | assumption) ?_
            refine r_aload_n dX6_plan_39 rfl rfl ?_
            refine r_getI (N := 35) dX6_plan_40 fwX6_132 (by first | rfl | assumption) (Nat.le_of_ble_eq_true rfl) rfl ?_
            refine r_iload_n dX6_plan_43 rfl rfl ?_
            rw [e5]
            refine r_iastore dX6_plan_44 (by first | rfl | assumption) (by exact vp_in_nI (by omega) (by decide)) ?_
            rw [hcl]
            refine r_aload_n dX6_plan_45 rfl rfl ?_
            refine r_getR (N := 35) dX6_plan_46 fwX6_25 (by first | rfl | assumption) (Nat.le_of_ble_eq_true rfl) rfl (by first | rfl | assumption) ?_
            refine r_aload_n dX6_plan_49 rfl rfl ?_
            refine r_getI (N := 35) dX6_plan_50 fwX6_132 (by first | rfl | assumption) (Nat.le_of_ble_eq_true rfl) rfl ?_
            refine r_iload_n dX6_plan_53 rfl rfl ?_
            rw [u_nn (show (40 : Nat) ≠ 45 by decide), e5]
            refine r_iastore dX6_plan_54 (by first | rfl | assumption) (by exact vp_in_nI (by omega) (by decide)) ?_
            rw [hcl]
            refine r_aload_n dX6_plan_55 rfl rfl ?_
            first | refine r_dupR dX6_plan_56 ?_ | refine r_dupI dX6_plan_56 ?_
            refine r_getI (N := 35) dX6_plan_57 fwX6_132 (by first | rfl | assumption) (Nat.le_of_ble_eq_true rfl) rfl ?_
            refine r_iconst 1 dX6_plan_60 (by decide) ?_
            rw [u_nn (show (40 : Nat) ≠ 46 by decide), u_nn (show (40 : Nat) ≠ 45 by decide), e5]
            refine r_iadd dX6_plan_61 ?_
            rw [nI_1]
            refine r_putI (N := 35) dX6_plan_62 fwX6_132 (by first | rfl | assumption) (Nat.le_of_ble_eq_true rfl) rfl (Or.inl rfl) rfl rfl ?_
            refine r_aload_n dX6_plan_65 rfl rfl ?_
            refine r_getI (N := 35) dX6_plan_66 fwX6_132 (by first | rfl | assumption) (Nat.le_of_ble_eq_true rfl) rfl ?_
            rw [u_ss]
            refine r_ireturn dX6_plan_69 rfl (Nat.zero_le _) (Nat.zero_le _) ?_
            exact ⟨rfl, rfl⟩
          · have hj : j < P.1 + 1 := hj
            rw [u_nn (show (45 : Nat) ≠ 40 by decide), u_nn (show (46 : Nat) ≠ 40 by decide), u_nn (show (45 : Nat) ≠ 46 by decide)]
            show _ = upd _ _ _ _ ∧ _ = upd _ _ _ _
            by_cases hq : j = P.1
            · rw [hq, u_ss, u_ss, upd_s, upd_s]; exact ⟨rfl, rfl⟩
            · rw [u_sn hq, u_sn hq, upd_n hq, upd_n hq, u_nn (by decide)]; exact hM.2 j (by omega)
set_option maxHeartbeats 600000 in
set_option maxRecDepth 100000 in
theorem B_calm : Both mX5_calm mX6_calm [] := by
  refine Both.do (fun M c dn dp P s w is rm rr hc h1 ok => ?_)
  have hP := h1.2.1.1.2.2.2.2
  have v0 := h1.2.1.1.2.2.1
  have F1 : FrS [6, 7, 8, 9, 10, 11, 12, 13] [(4, 5), (4, 10), (4, 11), (4, 12), (4, 8)] M (upd2 M 4 8 0) := FrS.rf.ups (by decide)
  have F1' : FrS [] [(4, 8)] M (upd2 M 4 8 0) := FrS.rf.ups (by decide)
  have v1 : VC (upd2 M 4 8 0) s.1 := ⟨by rw [F1' 4 10 (by decide) (by decide)]; exact v0.1, fun j q => by rw [F1' 13 j (by decide) (by simp)]; exact v0.2.1 j q, by rw [F1' 4 11 (by decide) (by decide)]; exact v0.2.2.1, by rw [F1' 4 12 (by decide) (by decide)]; exact v0.2.2.2.1, by rw [F1' 4 5 (by decide) (by decide)]; exact v0.2.2.2.2.1, fun j q => by rw [F1' 10 j (by decide) (by simp)]; exact v0.2.2.2.2.2 j q⟩
  refine ⟨nI P.1, _, dn, dp, (0, P.2), s, w, is, rm, rr, ?_, h1.ln F1 v1 (P' := (0, P.2)) ⟨u_ss, fun j hj => absurd hj (by show ¬ j < 0; omega)⟩, F1.mono (by decide) (by decide), ⟨ok.1, ⟨by show 0 ≤ 30; omega, fun j hj => absurd hj (by show ¬ j < 0; omega)⟩, ok.up.2.2⟩, fun M1 h2 => ?_⟩
  · have g : Gv mX4_dropFaults [.ref 4] M (some (.int (nI P.1))) (upd2 M 4 8 0) := by
      refine con_of (lv := [some (.ref 4), none]) (by decide) rfl (Nat.le_of_ble_eq_true rfl) (by simp [lvle]) ?_
      refine r_aload_n dX4_dropFaults_0 rfl rfl ?_
      refine r_getI (N := 13) dX4_dropFaults_1 fwX4_54 (by first | rfl | assumption) (Nat.le_of_ble_eq_true rfl) rfl ?_
      rw [hP.1]
      refine r_istore_n1 dX4_dropFaults_4 rfl (Nat.le_of_ble_eq_true rfl) ?_
      refine r_aload_n dX4_dropFaults_5 rfl rfl ?_
      refine r_iconst 0 dX4_dropFaults_6 (by decide) ?_
      refine r_putI (N := 13) dX4_dropFaults_7 fwX4_54 (by first | rfl | assumption) (Nat.le_of_ble_eq_true rfl) rfl (Or.inl rfl) rfl rfl ?_
      refine r_iload_n dX4_dropFaults_10 rfl rfl ?_
      refine r_ireturn dX4_dropFaults_11 rfl (Nat.zero_le _) (Nat.zero_le _) ?_
      exact ⟨rfl, rfl⟩
    refine con_of (lv := [some (.ref 0)]) (by decide) rfl (Nat.le_of_ble_eq_true rfl) (by simp [lvle]) ?_
    refine r_aload_n dX5_calm_0 rfl rfl ?_
    refine r_getR (N := 10) dX5_calm_1 fwX5_21 (by first | rfl | assumption) (Nat.le_of_ble_eq_true rfl) rfl (by first | rfl | assumption) ?_
    refine gV0 (Y := mX4_dropFaults) (ci := 4) (N := 13) dX5_calm_4 mlX5_95 vkX4_dropFaults (by first | rfl | assumption) ⟨by decide, rfl⟩ rfl g ?_
    refine r_ireturn dX5_calm_7 rfl (Nat.zero_le _) (Nat.zero_le _) ?_
    exact ⟨rfl, rfl⟩
  · have hM := h2.2.1.1.2.2.2
    have v0 := h2.2.1.1.2.1
    have F2 : FrS [45, 46, 47, 48, 50] [(40, 12), (40, 34), (40, 33), (40, 8), (40, 9), (40, 10), (40, 5)] M1 (upd2 M1 40 5 0) := FrS.rf.ups (by decide)
    have F2' : FrS [] [(40, 5)] M1 (upd2 M1 40 5 0) := FrS.rf.ups (by decide)
    refine ⟨_, ?_, h2.ln F2 (v0.frS F2' (by decide) (by decide) (by decide)) (P' := (0, P.2)) ⟨u_ss, fun j hj => absurd hj (by show ¬ j < 0; omega)⟩, F2.mono (by decide) (by decide)⟩
    have e5 := hM.1
    refine con_of (lv := [some (.ref 40), none]) (by decide) rfl (Nat.le_of_ble_eq_true rfl) (by simp [lvle]) ?_
    refine r_aload_n dX6_calm_0 rfl rfl ?_
    refine r_getI (N := 35) dX6_calm_1 fwX6_132 (by first | rfl | assumption) (Nat.le_of_ble_eq_true rfl) rfl ?_
    rw [e5]
    refine r_istore_n1 dX6_calm_4 rfl (Nat.le_of_ble_eq_true rfl) ?_
    refine r_aload_n dX6_calm_5 rfl rfl ?_
    refine r_iconst 0 dX6_calm_6 (by decide) ?_
    refine r_putI (N := 35) dX6_calm_7 fwX6_132 (by first | rfl | assumption) (Nat.le_of_ble_eq_true rfl) rfl (Or.inl rfl) rfl rfl ?_
    refine r_iload_n dX6_calm_10 rfl rfl ?_
    refine r_ireturn dX6_calm_11 rfl (Nat.zero_le _) (Nat.zero_le _) ?_
    exact ⟨rfl, rfl⟩
