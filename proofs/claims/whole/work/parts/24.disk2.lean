set_option maxHeartbeats 4000000 in
set_option maxRecDepth 100000 in
theorem m_leave_lp {M0 : Mem} {u i : Nat} {cs : Nat → Nat} {cn : Nat → Int32} (hu : u + 1 ≤ 6) (hi : i ≤ u) : ∀ (e j : Nat) (M : Mem), j + e = u → i ≤ j → M 40 18 = nI u → (∀ q, q < u + 1 → M 52 q = nI (shj cs i j q) ∧ M 53 q = shj cn i j q) → FrS [52, 53] [(40, 18)] M0 M → ∃ M', WP mX6_leave 12 [some (.ref 40), none, some (.int (nI j))] [] 0 0 (shp, rfs, M) (fun r1 h1 => r1 = none ∧ h1 = (shp, rfs, M')) ∧ M' 40 18 = nI u ∧ (∀ q, q < u → M' 52 q = nI (sh cs i q) ∧ M' 53 q = sh cn i q) ∧ FrS [52, 53] [(40, 18)] M0 M' := by
  intro e
  induction e with
  | zero =>
    intro j M hj hij h3 h F
    have hj : j = u := by omega
    subst hj
    refine ⟨M, ?_, h3, fun q hq => ?_, F⟩
    · refine r_iload_n dX6_leave_12 rfl rfl ?_
      refine r_aload_n dX6_leave_13 rfl rfl ?_
      refine r_getI (N := 35) dX6_leave_14 fwX6_171 (by first | rfl | assumption) (Nat.le_of_ble_eq_true rfl) rfl ?_
      refine r_icmp_ge 54 dX6_leave_17 (by decide) (fun c_17 => ?_) (fun c_17 => absurd (by rw [h3]; exact nI_le (Nat.le_refl _) (by omega)) c_17)
      refine r_return dX6_leave_54 rfl (Nat.zero_le _) (Nat.zero_le _) ?_
      exact ⟨rfl, rfl⟩
    · have := h q (by omega)
      rw [shj_l hq, shj_l hq] at this
      exact this
  | succ e ih =>
    intro j M hj hij h3 h F
    have c0 : (nI j).toNatClampNeg = j := nI_clamp (by omega)
    have c1 : (nI (j + 1)).toNatClampNeg = j + 1 := nI_clamp (by omega)
    have e1 : M 52 (j + 1) = nI (cs (j + 1)) := by rw [(h (j + 1) (by omega)).1, shj_h (by omega)]
    have e2 : M 53 (j + 1) = cn (j + 1) := by rw [(h (j + 1) (by omega)).2, shj_h (by omega)]
    obtain ⟨M', w, H', H2, F'⟩ := ih (j + 1) (upd2 (upd2 M 52 j (M 52 (j + 1))) 53 j (M 53 (j + 1))) (by omega) (by omega) (by rw [u_nn (by decide), u_nn (by decide)]; exact h3) (fun q hq => by
      rw [u_nn (show (52 : Nat) ≠ 53 by decide)]
      by_cases hqj : q = j
      · subst hqj
        rw [u_ss, u_ss, shj_at hij, shj_at hij, e1, e2]
        exact ⟨rfl, rfl⟩
      · rw [u_sn hqj, u_sn hqj, u_nn (by decide), shj_up hij hqj, shj_up' hij hqj]
        exact h q hq) ((F.upc (by decide)).upc (by decide))
    refine ⟨M', ?_, H', H2, F'⟩
    refine r_iload_n dX6_leave_12 rfl rfl ?_
    refine r_aload_n dX6_leave_13 rfl rfl ?_
    refine r_getI (N := 35) dX6_leave_14 fwX6_171 (by first | rfl | assumption) (Nat.le_of_ble_eq_true rfl) rfl ?_
    refine r_icmp_ge 54 dX6_leave_17 (by decide) (fun c_17 => absurd c_17 (by rw [h3]; exact nI_ge (by omega) (by omega))) (fun c_17 => ?_)
    refine r_aload_n dX6_leave_20 rfl rfl ?_
    refine r_getR (N := 35) dX6_leave_21 fwX6_43 (by first | rfl | assumption) (Nat.le_of_ble_eq_true rfl) rfl (by first | rfl | assumption) ?_
    refine r_iload_n dX6_leave_24 rfl rfl ?_
    refine r_aload_n dX6_leave_25 rfl rfl ?_
    refine r_getR (N := 35) dX6_leave_26 fwX6_43 (by first | rfl | assumption) (Nat.le_of_ble_eq_true rfl) rfl (by first | rfl | assumption) ?_
    refine r_iload_n dX6_leave_29 rfl rfl ?_
    refine r_iconst 1 dX6_leave_30 (by decide) ?_
    refine r_iadd dX6_leave_31 ?_
    rw [nI_1]
    refine r_iaload dX6_leave_32 (by first | rfl | assumption) (by exact vp_in_nI (by omega) (by decide)) ?_
    rw [c1]
    refine r_iastore dX6_leave_33 (by first | rfl | assumption) (by exact vp_in_nI (by omega) (by decide)) ?_
    rw [c0]
    refine r_aload_n dX6_leave_34 rfl rfl ?_
    refine r_getR (N := 35) dX6_leave_35 fwX6_46 (by first | rfl | assumption) (Nat.le_of_ble_eq_true rfl) rfl (by first | rfl | assumption) ?_
    refine r_iload_n dX6_leave_38 rfl rfl ?_
    refine r_aload_n dX6_leave_39 rfl rfl ?_
    refine r_getR (N := 35) dX6_leave_40 fwX6_46 (by first | rfl | assumption) (Nat.le_of_ble_eq_true rfl) rfl (by first | rfl | assumption) ?_
    refine r_iload_n dX6_leave_43 rfl rfl ?_
    refine r_iconst 1 dX6_leave_44 (by decide) ?_
    refine r_iadd dX6_leave_45 ?_
    rw [nI_1]
    refine r_iaload dX6_leave_46 (by first | rfl | assumption) (by exact vp_in_nI (by omega) (by decide)) ?_
    rw [c1, u_nn (show (53 : Nat) ≠ 52 by decide)]
    refine r_iastore dX6_leave_47 (by first | rfl | assumption) (by exact vp_in_nI (by omega) (by decide)) ?_
    rw [c0]
    refine r_iinc_2 (_ + 1) dX6_leave_48 rfl (Nat.le_of_ble_eq_true rfl) rfl ?_
    refine r_goto 12 dX6_leave_51 (by decide) ?_
    rw [nI_1]
    exact w
set_option maxHeartbeats 4000000 in
set_option maxRecDepth 100000 in
theorem m_leave {M : Mem} {d : DSt} {i : Nat} (h : DM M d) (ok : okD d) (hi : i < d.2.1) : ∃ M', Gv mX6_leave [.ref 40, .int (nI i)] M none M' ∧ DM M' (rem d i) ∧ FrS [52, 53] [(40, 18)] M M' := by
  obtain ⟨u, hu⟩ : ∃ u, d.2.1 = u + 1 := ⟨d.2.1 - 1, by omega⟩
  have u6 := ok.1
  have h18 : M 40 18 = nI (u + 1) := by rw [h.2.1, hu]
  obtain ⟨M', w, H1, H2, F'⟩ := m_leave_lp (M0 := M) (u := u) (i := i) (cs := d.2.2.1) (cn := d.2.2.2) (by omega) (by omega) (u - i) i (upd2 M 40 18 (nI u)) (by omega) (Nat.le_refl _) u_ss (fun q hq => by rw [shj_i, shj_i, u_nn (by decide), u_nn (by decide)]; exact h.2.2 q (by omega)) (FrS.rf.ups (by decide))
  refine ⟨M', ?_, ⟨fun j hj => ?_, ?_, fun j hj => ?_⟩, F'⟩
  · refine con_of (lv := [some (.ref 40), some (.int (nI i)), none]) (by decide) rfl (Nat.le_of_ble_eq_true rfl) (by simp [lvle]) ?_
    refine r_aload_n dX6_leave_0 rfl rfl ?_
    first | refine r_dupR dX6_leave_1 ?_ | refine r_dupI dX6_leave_1 ?_
    refine r_getI (N := 35) dX6_leave_2 fwX6_171 (by first | rfl | assumption) (Nat.le_of_ble_eq_true rfl) rfl ?_
    refine r_iconst 1 dX6_leave_5 (by decide) ?_
    refine r_isub dX6_leave_6 ?_
    rw [h18, nI_m1]
    refine r_putI (N := 35) dX6_leave_7 fwX6_171 (by first | rfl | assumption) (Nat.le_of_ble_eq_true rfl) rfl (Or.inl rfl) rfl rfl ?_
    refine r_iload_n dX6_leave_10 rfl rfl ?_
    refine r_istore_n2 dX6_leave_11 rfl (Nat.le_of_ble_eq_true rfl) ?_
    exact r_weak (by simp [lvle] <;> (repeat' apply And.intro) <;> first | rfl | decide) w
  · rw [F' 51 j (by decide) (by simp)]; exact h.1 j hj
  · rw [H1]; show _ = nI (d.2.1 - 1); rw [hu]; rfl
  · have hj : j < d.2.1 - 1 := hj
    exact H2 j (by omega)
theorem DM.put {M : Mem} {d : DSt} {s : Nat} {v : Int32} (h : DM M d) : DM (upd2 M 51 s v) (upd d.1 s v, d.2) := ⟨fun j hj => by
  by_cases hq : j = s
  · subst hq; rw [u_ss]; exact upd_s.symm
  · rw [u_sn hq, h.1 j hj]; exact (upd_n hq).symm, by rw [u_nn (by decide)]; exact h.2.1, fun j hj => by rw [u_nn (by decide), u_nn (by decide)]; exact h.2.2 j hj⟩
theorem DC.put {M : Mem} {d : DSt} {s : Nat} {v : Int32} (h : DC M d) : DC (upd2 M 15 s v) (upd d.1 s v, d.2) := ⟨fun j hj => by
  by_cases hq : j = s
  · subst hq; rw [u_ss]; exact upd_s.symm
  · rw [u_sn hq, h.1 j hj]; exact (upd_n hq).symm, by rw [u_nn (by decide)]; exact h.2.1, fun j hj => by rw [u_nn (by decide), u_nn (by decide)]; exact h.2.2 j hj⟩
set_option maxHeartbeats 4000000 in
set_option maxRecDepth 100000 in
theorem m_lay {M : Mem} {d : DSt} (h : DM M d) (ok : okD d) (hu : 0 < d.2.1) : ∃ M', Gv mX6_lay [.ref 40, .int 0] M none M' ∧ DM M' (rem (upd d.1 (d.2.2.1 0) (d.2.2.2 0), d.2.1, d.2.2.1, d.2.2.2) 0) ∧ FrS [51, 52, 53] [(40, 18)] M M' := by
  have hc : (nI (d.2.2.1 0)).toNatClampNeg = d.2.2.1 0 := nI_clamp (by have := ok.2 0 hu; omega)
  have u6 := ok.1
  obtain ⟨M', g, H, F⟩ := m_leave (M := upd2 M 51 (d.2.2.1 0) (d.2.2.2 0)) (d := (upd d.1 (d.2.2.1 0) (d.2.2.2 0), d.2.1, d.2.2.1, d.2.2.2)) (i := 0) h.put ok hu
  refine ⟨M', ?_, H, (FrS.rf.upc (by decide)).tr (F.mono (by decide) (by decide))⟩
  have e1 := (h.2.2 0 hu).1
  have e2 := (h.2.2 0 hu).2
  refine con_of (lv := [some (.ref 40), some (.int 0)]) (by decide) rfl (Nat.le_of_ble_eq_true rfl) (by simp [lvle]) ?_
  refine r_aload_n dX6_lay_0 rfl rfl ?_
  refine r_getR (N := 35) dX6_lay_1 fwX6_40 (by first | rfl | assumption) (Nat.le_of_ble_eq_true rfl) rfl (by first | rfl | assumption) ?_
  refine r_aload_n dX6_lay_4 rfl rfl ?_
  refine r_getR (N := 35) dX6_lay_5 fwX6_43 (by first | rfl | assumption) (Nat.le_of_ble_eq_true rfl) rfl (by first | rfl | assumption) ?_
  refine r_iload_n dX6_lay_8 rfl rfl ?_
  refine r_iaload dX6_lay_9 (by first | rfl | assumption) (by exact vp_in_nI (n := 0) (by decide) (by decide)) ?_
  rw [show ((0 : Int32).toNatClampNeg) = 0 from rfl, e1]
  refine r_aload_n dX6_lay_10 rfl rfl ?_
  refine r_getR (N := 35) dX6_lay_11 fwX6_46 (by first | rfl | assumption) (Nat.le_of_ble_eq_true rfl) rfl (by first | rfl | assumption) ?_
  refine r_iload_n dX6_lay_14 rfl rfl ?_
  refine r_iaload dX6_lay_15 (by first | rfl | assumption) (by exact vp_in_nI (n := 0) (by decide) (by decide)) ?_
  rw [show ((0 : Int32).toNatClampNeg) = 0 from rfl, e2]
  refine r_iastore dX6_lay_16 (by first | rfl | assumption) (by exact vp_in_nI (ok.2 0 hu) (by decide)) ?_
  rw [hc]
  refine r_aload_n dX6_lay_17 rfl rfl ?_
  refine r_iload_n dX6_lay_18 rfl rfl ?_
  refine gW1 (Y := mX6_leave) (ci := 6) (N := 35) dX6_lay_19 mlX6_174 vkX6_leave (by first | rfl | assumption) ⟨by decide, rfl⟩ rfl g ?_
  refine r_return dX6_lay_22 rfl (Nat.zero_le _) (Nat.zero_le _) ?_
  exact ⟨rfl, rfl⟩
set_option maxHeartbeats 4000000 in
set_option maxRecDepth 100000 in
theorem m_written {M : Mem} {d : DSt} {s : Nat} {v : Int32} (h : DM M d) (ok : okD d) (hs : s < 32) : ∃ M', Gv mX6_written [.ref 40, .int (nI s), .int v] M none M' ∧ DM M' (wrt d s v) ∧ FrS [51, 52, 53] [(40, 18)] M M' := by
  have g := m_plc h ok (s := s) (by omega)
  have u6 := ok.1
  unfold wrt
  cases hp : plc d s with
  | some i =>
    rw [hp] at g
    obtain ⟨hi, hcs⟩ := plc_some hp
    have hcl : (oI (some i)).toNatClampNeg = i := nI_clamp (by omega)
    refine ⟨upd2 M 53 i v, ?_, ⟨fun j hj => ?_, ?_, fun j hj => ?_⟩, FrS.rf.upc (by decide)⟩
    · refine con_of (lv := [some (.ref 40), some (.int (nI s)), some (.int v), none]) (by decide) rfl (Nat.le_of_ble_eq_true rfl) (by simp [lvle]) ?_
      refine r_aload_n dX6_written_0 rfl rfl ?_
      refine r_iload_n dX6_written_1 rfl rfl ?_
      refine gV1 (Y := mX6_placeOf) (ci := 6) (N := 35) dX6_written_2 mlX6_177 vkX6_placeOf (by first | rfl | assumption) ⟨by decide, rfl⟩ rfl g ?_
      refine r_istore_n3 dX6_written_5 rfl (Nat.le_of_ble_eq_true rfl) ?_
      refine r_iload_n dX6_written_6 rfl rfl ?_
      refine r_iconst (-1) dX6_written_7 (by decide) ?_
      refine r_icmp_eq 19 dX6_written_8 (by decide) (fun c_8 => absurd c_8 (nI_ne_m1 (by omega))) (fun c_8 => ?_)
      refine r_aload_n dX6_written_11 rfl rfl ?_
      refine r_getR (N := 35) dX6_written_12 fwX6_46 (by first | rfl | assumption) (Nat.le_of_ble_eq_true rfl) rfl (by first | rfl | assumption) ?_
      refine r_iload_n dX6_written_15 rfl rfl ?_
      refine r_iload_n dX6_written_16 rfl rfl ?_
      refine r_iastore dX6_written_17 (by first | rfl | assumption) (by exact vp_in_nI (by omega) (by decide)) ?_
      rw [hcl]
      refine r_return dX6_written_18 rfl (Nat.zero_le _) (Nat.zero_le _) ?_
      exact ⟨rfl, rfl⟩
    · rw [u_nn (by decide)]; exact h.1 j hj
    · rw [u_nn (by decide)]; exact h.2.1
    · rw [u_nn (by decide)]
      refine ⟨(h.2.2 j hj).1, ?_⟩
      by_cases hq : j = i
      · subst hq; rw [u_ss]; exact upd_s.symm
      · rw [u_sn hq, (h.2.2 j hj).2]; exact (upd_n hq).symm
  | none =>
    rw [hp] at g
    have key : ∃ M1, DM M1 (wr1 d) ∧ FrS [51, 52, 53] [(40, 18)] M M1 ∧ ∀ Q, WP mX6_written 33 [some (.ref 40), some (.int (nI s)), some (.int v), none] [] 0 0 (shp, rfs, M1) Q → WP mX6_written 19 [some (.ref 40), some (.int (nI s)), some (.int v), none] [] 0 0 (shp, rfs, M) Q := by
      by_cases h6 : d.2.1 = 6
      · obtain ⟨M1, g1, H1, F1⟩ := m_lay h ok (by omega)
        refine ⟨M1, by unfold wr1; rw [if_pos h6]; exact H1, F1, fun Q hq => ?_⟩
        refine r_aload_n dX6_written_19 rfl rfl ?_
        refine r_getI (N := 35) dX6_written_20 fwX6_171 (by first | rfl | assumption) (Nat.le_of_ble_eq_true rfl) rfl ?_
        refine r_bipush 6 dX6_written_23 (by decide) ?_
        rw [h.2.1, h6]
        refine r_icmp_ne 33 dX6_written_25 (by decide) (fun c_25 => absurd rfl c_25) (fun c_25 => ?_)
        refine r_aload_n dX6_written_28 rfl rfl ?_
        refine r_iconst 0 dX6_written_29 (by decide) ?_
        refine gW1 (Y := mX6_lay) (ci := 6) (N := 35) dX6_written_30 mlX6_180 vkX6_lay (by first | rfl | assumption) ⟨by decide, rfl⟩ rfl g1 ?_
        exact hq
      · refine ⟨M, by unfold wr1; rw [if_neg h6]; exact h, FrS.rf, fun Q hq => ?_⟩
        refine r_aload_n dX6_written_19 rfl rfl ?_
        refine r_getI (N := 35) dX6_written_20 fwX6_171 (by first | rfl | assumption) (Nat.le_of_ble_eq_true rfl) rfl ?_
        refine r_bipush 6 dX6_written_23 (by decide) ?_
        rw [h.2.1]
        refine r_icmp_ne 33 dX6_written_25 (by decide) (fun c_25 => ?_) (fun c_25 => absurd ((nI_eq (a := d.2.1) (b := 6) (by omega) (by decide)).mp c_25) h6)
        exact hq
    obtain ⟨M1, H1, F1, w1⟩ := key
    obtain ⟨ok1, u5⟩ := wr1_ok ok
    have hcl : (M1 40 18).toNatClampNeg = (wr1 d).2.1 := by rw [H1.2.1]; exact nI_clamp (by omega)
    refine ⟨upd2 (upd2 (upd2 M1 52 (wr1 d).2.1 (nI s)) 53 (wr1 d).2.1 v) 40 18 (nI ((wr1 d).2.1 + 1)), ?_, ⟨fun j hj => ?_, u_ss, fun j hj => ?_⟩, ((F1.upc (by decide)).upc (by decide)).ups (by decide)⟩
    · refine con_of (lv := [some (.ref 40), some (.int (nI s)), some (.int v), none]) (by decide) rfl (Nat.le_of_ble_eq_true rfl) (by simp [lvle]) ?_
      refine r_aload_n dX6_written_0 rfl rfl ?_
      refine r_iload_n dX6_written_1 rfl rfl ?_
      refine gV1 (Y := mX6_placeOf) (ci := 6) (N := 35) dX6_written_2 mlX6_177 vkX6_placeOf (by first | rfl | assumption) ⟨by decide, rfl⟩ rfl g ?_
      refine r_istore_n3 dX6_written_5 rfl (Nat.le_of_ble_eq_true rfl) ?_
      refine r_iload_n dX6_written_6 rfl rfl ?_
      refine r_iconst (-1) dX6_written_7 (by decide) ?_
      refine r_icmp_eq 19 dX6_written_8 (by decide) (fun c_8 => ?_) (fun c_8 => absurd rfl c_8)
      refine r_weak (by simp [lvle] <;> (repeat' apply And.intro) <;> first | rfl | decide) (w1 _ ?_)
      refine r_aload_n dX6_written_33 rfl rfl ?_
      refine r_getR (N := 35) dX6_written_34 fwX6_43 (by first | rfl | assumption) (Nat.le_of_ble_eq_true rfl) rfl (by first | rfl | assumption) ?_
      refine r_aload_n dX6_written_37 rfl rfl ?_
      refine r_getI (N := 35) dX6_written_38 fwX6_171 (by first | rfl | assumption) (Nat.le_of_ble_eq_true rfl) rfl ?_
      refine r_iload_n dX6_written_41 rfl rfl ?_
      refine r_iastore dX6_written_42 (by first | rfl | assumption) (by rw [H1.2.1]; exact vp_in_nI (by omega) (by decide)) ?_
      rw [hcl]
      refine r_aload_n dX6_written_43 rfl rfl ?_
      refine r_getR (N := 35) dX6_written_44 fwX6_46 (by first | rfl | assumption) (Nat.le_of_ble_eq_true rfl) rfl (by first | rfl | assumption) ?_
      refine r_aload_n dX6_written_47 rfl rfl ?_
      refine r_getI (N := 35) dX6_written_48 fwX6_171 (by first | rfl | assumption) (Nat.le_of_ble_eq_true rfl) rfl ?_
      refine r_iload_n dX6_written_51 rfl rfl ?_
      refine r_iastore dX6_written_52 (by first | rfl | assumption) (by rw [u_nn (by decide), H1.2.1]; exact vp_in_nI (by omega) (by decide)) ?_
      rw [u_nn (show (40 : Nat) ≠ 52 by decide), hcl]
      refine r_aload_n dX6_written_53 rfl rfl ?_
      first | refine r_dupR dX6_written_54 ?_ | refine r_dupI dX6_written_54 ?_
      refine r_getI (N := 35) dX6_written_55 fwX6_171 (by first | rfl | assumption) (Nat.le_of_ble_eq_true rfl) rfl ?_
      refine r_iconst 1 dX6_written_58 (by decide) ?_
      refine r_iadd dX6_written_59 ?_
      refine r_putI (N := 35) dX6_written_60 fwX6_171 (by first | rfl | assumption) (Nat.le_of_ble_eq_true rfl) rfl (Or.inl rfl) rfl rfl ?_
      refine r_return dX6_written_63 rfl (Nat.zero_le _) (Nat.zero_le _) ?_
      rw [u_nn (by decide), u_nn (by decide), H1.2.1, nI_1]
      exact ⟨rfl, rfl⟩
    · rw [u_nn (by decide), u_nn (by decide), u_nn (by decide)]; exact H1.1 j hj
    · have hj : j < (wr1 d).2.1 + 1 := hj
      rw [u_nn (show (52 : Nat) ≠ 40 by decide), u_nn (show (53 : Nat) ≠ 40 by decide), u_nn (show (52 : Nat) ≠ 53 by decide)]
      show _ = nI (va_up _ _ _ j) ∧ _ = upd _ _ _ j
      by_cases hq : j = (wr1 d).2.1
      · rw [hq, u_ss, u_ss, upd_s]
        simp [va_up]
      · rw [u_sn hq, u_sn hq, upd_n hq, u_nn (show (53 : Nat) ≠ 52 by decide)]
        simp only [va_up, if_neg hq]
        exact H1.2.2 j (by omega)
set_option maxHeartbeats 4000000 in
set_option maxRecDepth 100000 in
theorem m_through {M : Mem} {d : DSt} {s : Nat} {v : Int32} (h : DM M d) (ok : okD d) (hs : s < 32) : ∃ M', Gv mX6_through [.ref 40, .int (nI s), .int v] M none M' ∧ DM M' (thr d s v) ∧ FrS [51, 52, 53] [(40, 18)] M M' := by
  have g := m_plc h ok (s := s) (by omega)
  have u6 := ok.1
  have hcl : (nI s).toNatClampNeg = s := nI_clamp (by omega)
  unfold thr
  cases hp : plc d s with
  | some i =>
    rw [hp] at g
    obtain ⟨hi, hcs⟩ := plc_some hp
    obtain ⟨M1, g1, H1, F1⟩ := m_leave h ok hi
    refine ⟨upd2 M1 51 s v, ?_, H1.put, (F1.mono (by decide) (by decide)).upc (by decide)⟩
    refine con_of (lv := [some (.ref 40), some (.int (nI s)), some (.int v), none]) (by decide) rfl (Nat.le_of_ble_eq_true rfl) (by simp [lvle]) ?_
    refine r_aload_n dX6_through_0 rfl rfl ?_
    refine r_iload_n dX6_through_1 rfl rfl ?_
    refine gV1 (Y := mX6_placeOf) (ci := 6) (N := 35) dX6_through_2 mlX6_177 vkX6_placeOf (by first | rfl | assumption) ⟨by decide, rfl⟩ rfl g ?_
    refine r_istore_n3 dX6_through_5 rfl (Nat.le_of_ble_eq_true rfl) ?_
    refine r_iload_n dX6_through_6 rfl rfl ?_
    refine r_iconst (-1) dX6_through_7 (by decide) ?_
    refine r_icmp_eq 16 dX6_through_8 (by decide) (fun c_8 => absurd c_8 (nI_ne_m1 (by omega))) (fun c_8 => ?_)
    refine r_aload_n dX6_through_11 rfl rfl ?_
    refine r_iload_n dX6_through_12 rfl rfl ?_
    refine gW1 (Y := mX6_leave) (ci := 6) (N := 35) dX6_through_13 mlX6_174 vkX6_leave (by first | rfl | assumption) ⟨by decide, rfl⟩ rfl g1 ?_
    refine r_aload_n dX6_through_16 rfl rfl ?_
    refine r_getR (N := 35) dX6_through_17 fwX6_40 (by first | rfl | assumption) (Nat.le_of_ble_eq_true rfl) rfl (by first | rfl | assumption) ?_
    refine r_iload_n dX6_through_20 rfl rfl ?_
    refine r_iload_n dX6_through_21 rfl rfl ?_
    refine r_iastore dX6_through_22 (by first | rfl | assumption) (by exact vp_in_nI hs (by decide)) ?_
    rw [hcl]
    refine r_return dX6_through_23 rfl (Nat.zero_le _) (Nat.zero_le _) ?_
    exact ⟨rfl, rfl⟩
  | none =>
    rw [hp] at g
    refine ⟨upd2 M 51 s v, ?_, h.put, FrS.rf.upc (by decide)⟩
    refine con_of (lv := [some (.ref 40), some (.int (nI s)), some (.int v), none]) (by decide) rfl (Nat.le_of_ble_eq_true rfl) (by simp [lvle]) ?_
    refine r_aload_n dX6_through_0 rfl rfl ?_
    refine r_iload_n dX6_through_1 rfl rfl ?_
    refine gV1 (Y := mX6_placeOf) (ci := 6) (N := 35) dX6_through_2 mlX6_177 vkX6_placeOf (by first | rfl | assumption) ⟨by decide, rfl⟩ rfl g ?_
    refine r_istore_n3 dX6_through_5 rfl (Nat.le_of_ble_eq_true rfl) ?_
    refine r_iload_n dX6_through_6 rfl rfl ?_
    refine r_iconst (-1) dX6_through_7 (by decide) ?_
    refine r_icmp_eq 16 dX6_through_8 (by decide) (fun c_8 => ?_) (fun c_8 => absurd rfl c_8)
    refine r_aload_n dX6_through_16 rfl rfl ?_
    refine r_getR (N := 35) dX6_through_17 fwX6_40 (by first | rfl | assumption) (Nat.le_of_ble_eq_true rfl) rfl (by first | rfl | assumption) ?_
    refine r_iload_n dX6_through_20 rfl rfl ?_
    refine r_iload_n dX6_through_21 rfl rfl ?_
    refine r_iastore dX6_through_22 (by first | rfl | assumption) (by exact vp_in_nI hs (by decide)) ?_
    rw [hcl]
    refine r_return dX6_through_23 rfl (Nat.zero_le _) (Nat.zero_le _) ?_
    exact ⟨rfl, rfl⟩
set_option maxHeartbeats 4000000 in
set_option maxRecDepth 100000 in
theorem x_through {M : Mem} {d : DSt} {s : Nat} {v : Int32} (h : DC M d) (ok : okD d) (hs : s < 32) : ∃ M', Gv mX3_putThrough [.ref 14, .int (nI s), .int v] M none M' ∧ DC M' (thr d s v) ∧ FrS [15, 16, 17] [(14, 3)] M M' := by
  have g := x_plc h ok (s := s) (by omega)
  have u6 := ok.1
  unfold thr
  cases hp : plc d s with
  | some i =>
    rw [hp] at g
    obtain ⟨hi, hcs⟩ := plc_some hp
    obtain ⟨M1, g1, H1, F1⟩ := x_rem h ok hi
    refine ⟨upd2 M1 15 s v, ?_, H1.put, (F1.mono (by decide) (by decide)).upc (by decide)⟩
    refine con_of (lv := [some (.ref 14), some (.int (nI s)), some (.int v), none]) (by decide) rfl (Nat.le_of_ble_eq_true rfl) (by simp [lvle]) ?_
    refine r_aload_n dX3_putThrough_0 rfl rfl ?_
    refine r_iload_n dX3_putThrough_1 rfl rfl ?_
    refine gV1 (Y := mX3_placeInCache) (ci := 3) (N := 4) dX3_putThrough_2 mlX3_21 vkX3_placeInCache (by first | rfl | assumption) ⟨by decide, rfl⟩ rfl g ?_
    refine r_istore_n3 dX3_putThrough_5 rfl (Nat.le_of_ble_eq_true rfl) ?_
    refine r_iload_n dX3_putThrough_6 rfl rfl ?_
    refine r_if_lt 15 dX3_putThrough_7 (by decide) (fun c_7 => absurd c_7 (nI_pos (by omega))) (fun c_7 => ?_)
    refine r_aload_n dX3_putThrough_10 rfl rfl ?_
    refine r_iload_n dX3_putThrough_11 rfl rfl ?_
    refine gW1 (Y := mX3_removeFromCache) (ci := 3) (N := 4) dX3_putThrough_12 mlX3_36 vkX3_removeFromCache (by first | rfl | assumption) ⟨by decide, rfl⟩ rfl g1 ?_
    refine r_aload_n dX3_putThrough_15 rfl rfl ?_
    refine r_iload_n dX3_putThrough_16 rfl rfl ?_
    refine r_iload_n dX3_putThrough_17 rfl rfl ?_
    refine gW2 (Y := mX3_putOnDisk) (ci := 3) (N := 4) dX3_putThrough_18 mlX3_32 vkX3_putOnDisk (by first | rfl | assumption) ⟨by decide, rfl⟩ rfl (x_put hs) ?_
    refine r_return dX3_putThrough_21 rfl (Nat.zero_le _) (Nat.zero_le _) ?_
    exact ⟨rfl, rfl⟩
  | none =>
    rw [hp] at g
    refine ⟨upd2 M 15 s v, ?_, h.put, FrS.rf.upc (by decide)⟩
    refine con_of (lv := [some (.ref 14), some (.int (nI s)), some (.int v), none]) (by decide) rfl (Nat.le_of_ble_eq_true rfl) (by simp [lvle]) ?_
    refine r_aload_n dX3_putThrough_0 rfl rfl ?_
    refine r_iload_n dX3_putThrough_1 rfl rfl ?_
    refine gV1 (Y := mX3_placeInCache) (ci := 3) (N := 4) dX3_putThrough_2 mlX3_21 vkX3_placeInCache (by first | rfl | assumption) ⟨by decide, rfl⟩ rfl g ?_
    refine r_istore_n3 dX3_putThrough_5 rfl (Nat.le_of_ble_eq_true rfl) ?_
    refine r_iload_n dX3_putThrough_6 rfl rfl ?_
    refine r_if_lt 15 dX3_putThrough_7 (by decide) (fun c_7 => ?_) (fun c_7 => absurd (by decide) c_7)
    refine r_aload_n dX3_putThrough_15 rfl rfl ?_
    refine r_iload_n dX3_putThrough_16 rfl rfl ?_
    refine r_iload_n dX3_putThrough_17 rfl rfl ?_
    refine gW2 (Y := mX3_putOnDisk) (ci := 3) (N := 4) dX3_putThrough_18 mlX3_32 vkX3_putOnDisk (by first | rfl | assumption) ⟨by decide, rfl⟩ rfl (x_put hs) ?_
    refine r_return dX3_putThrough_21 rfl (Nat.zero_le _) (Nat.zero_le _) ?_
    exact ⟨rfl, rfl⟩
set_option maxHeartbeats 4000000 in
set_option maxRecDepth 100000 in
theorem x_putIn {M : Mem} {d : DSt} {s : Nat} {v : Int32} (h : DC M d) (ok : okD d) (hs : s < 32) : ∃ M', Gv mX3_putInCache [.ref 14, .int (nI s), .int v] M none M' ∧ DC M' (wrt d s v) ∧ FrS [15, 16, 17] [(14, 3)] M M' := by
  have g := x_plc h ok (s := s) (by omega)
  have u6 := ok.1
  unfold wrt
  cases hp : plc d s with
  | some i =>
    rw [hp] at g
    obtain ⟨hi, hcs⟩ := plc_some hp
    have hcl : (oI (some i)).toNatClampNeg = i := nI_clamp (by omega)
    refine ⟨upd2 (upd2 M 16 i (nI s)) 17 i v, ?_, ⟨fun j hj => ?_, ?_, fun j hj => ?_⟩, (FrS.rf.upc (by decide)).upc (by decide)⟩
    · refine con_of (lv := [some (.ref 14), some (.int (nI s)), some (.int v), none]) (by decide) rfl (Nat.le_of_ble_eq_true rfl) (by simp [lvle]) ?_
      refine r_aload_n dX3_putInCache_0 rfl rfl ?_
      refine r_iload_n dX3_putInCache_1 rfl rfl ?_
      refine gV1 (Y := mX3_placeInCache) (ci := 3) (N := 4) dX3_putInCache_2 mlX3_21 vkX3_placeInCache (by first | rfl | assumption) ⟨by decide, rfl⟩ rfl g ?_
      refine r_istore_n3 dX3_putInCache_5 rfl (Nat.le_of_ble_eq_true rfl) ?_
      refine r_iload_n dX3_putInCache_6 rfl rfl ?_
      refine r_if_ge 55 dX3_putInCache_7 (by decide) (fun c_7 => ?_) (fun c_7 => absurd (nI_pos' (n := i) (by omega)) c_7)
      refine r_aload_n dX3_putInCache_55 rfl rfl ?_
      refine r_getR (N := 4) dX3_putInCache_56 fwX3_15 (by first | rfl | assumption) (Nat.le_of_ble_eq_true rfl) rfl (by first | rfl | assumption) ?_
      refine r_iload_n dX3_putInCache_59 rfl rfl ?_
      refine r_iload_n dX3_putInCache_60 rfl rfl ?_
      refine r_iastore dX3_putInCache_61 (by first | rfl | assumption) (by exact vp_in_nI (by omega) (by decide)) ?_
      rw [hcl]
      refine r_aload_n dX3_putInCache_62 rfl rfl ?_
      refine r_getR (N := 4) dX3_putInCache_63 fwX3_18 (by first | rfl | assumption) (Nat.le_of_ble_eq_true rfl) rfl (by first | rfl | assumption) ?_
      refine r_iload_n dX3_putInCache_66 rfl rfl ?_
      refine r_iload_n dX3_putInCache_67 rfl rfl ?_
      refine r_iastore dX3_putInCache_68 (by first | rfl | assumption) (by exact vp_in_nI (by omega) (by decide)) ?_
      rw [hcl]
      refine r_return dX3_putInCache_69 rfl (Nat.zero_le _) (Nat.zero_le _) ?_
      exact ⟨rfl, rfl⟩
    · rw [u_nn (by decide), u_nn (by decide)]; exact h.1 j hj
    · rw [u_nn (by decide), u_nn (by decide)]; exact h.2.1
    · rw [u_nn (by decide)]
      by_cases hq : j = i
      · subst hq; rw [u_ss, u_ss, hcs]; exact ⟨rfl, upd_s.symm⟩
      · rw [u_sn hq, u_sn hq, u_nn (by decide), (h.2.2 j hj).2]; exact ⟨(h.2.2 j hj).1, (upd_n hq).symm⟩
  | none =>
    rw [hp] at g
    have key : ∃ M1, DC M1 (wr1 d) ∧ FrS [15, 16, 17] [(14, 3)] M M1 ∧ ∀ Q, WP mX3_putInCache 40 [some (.ref 14), some (.int (nI s)), some (.int v), none] [] 0 0 (shp, rfs, M1) Q → WP mX3_putInCache 10 [some (.ref 14), some (.int (nI s)), some (.int v), none] [] 0 0 (shp, rfs, M) Q := by
      by_cases h6 : d.2.1 = 6
      · have c0 := ok.2 0 (by omega)
        have e1 := (h.2.2 0 (by omega)).1
        have e2 := (h.2.2 0 (by omega)).2
        obtain ⟨M1, g1, H1, F1⟩ := x_rem (M := upd2 M 15 (d.2.2.1 0) (d.2.2.2 0)) (d := (upd d.1 (d.2.2.1 0) (d.2.2.2 0), d.2.1, d.2.2.1, d.2.2.2)) (i := 0) h.put ok (by show 0 < d.2.1; omega)
        refine ⟨M1, by unfold wr1; rw [if_pos h6]; exact H1, (FrS.rf.upc (by decide)).tr (F1.mono (by decide) (by decide)), fun Q hq => ?_⟩
        refine r_aload_n dX3_putInCache_10 rfl rfl ?_
        refine r_getI (N := 4) dX3_putInCache_11 fwX3_28 (by first | rfl | assumption) (Nat.le_of_ble_eq_true rfl) rfl ?_
        refine r_bipush 6 dX3_putInCache_14 (by decide) ?_
        rw [h.2.1, h6]
        refine r_icmp_lt 40 dX3_putInCache_16 (by decide) (fun c_16 => absurd c_16 (by decide)) (fun c_16 => ?_)
        refine r_aload_n dX3_putInCache_19 rfl rfl ?_
        refine r_aload_n dX3_putInCache_20 rfl rfl ?_
        refine r_getR (N := 4) dX3_putInCache_21 fwX3_15 (by first | rfl | assumption) (Nat.le_of_ble_eq_true rfl) rfl (by first | rfl | assumption) ?_
        refine r_iconst 0 dX3_putInCache_24 (by decide) ?_
        refine r_iaload dX3_putInCache_25 (by first | rfl | assumption) (by exact vp_in_nI (n := 0) (by decide) (by decide)) ?_
        rw [show ((0 : Int32).toNatClampNeg) = 0 from rfl, e1]
        refine r_aload_n dX3_putInCache_26 rfl rfl ?_
        refine r_getR (N := 4) dX3_putInCache_27 fwX3_18 (by first | rfl | assumption) (Nat.le_of_ble_eq_true rfl) rfl (by first | rfl | assumption) ?_
        refine r_iconst 0 dX3_putInCache_30 (by decide) ?_
        refine r_iaload dX3_putInCache_31 (by first | rfl | assumption) (by exact vp_in_nI (n := 0) (by decide) (by decide)) ?_
        rw [show ((0 : Int32).toNatClampNeg) = 0 from rfl, e2]
        refine gW2 (Y := mX3_putOnDisk) (ci := 3) (N := 4) dX3_putInCache_32 mlX3_32 vkX3_putOnDisk (by first | rfl | assumption) ⟨by decide, rfl⟩ rfl (x_put c0) ?_
        refine r_aload_n dX3_putInCache_35 rfl rfl ?_
        refine r_iconst 0 dX3_putInCache_36 (by decide) ?_
        refine gW1 (Y := mX3_removeFromCache) (ci := 3) (N := 4) dX3_putInCache_37 mlX3_36 vkX3_removeFromCache (by first | rfl | assumption) ⟨by decide, rfl⟩ rfl g1 ?_
        exact hq
      · refine ⟨M, by unfold wr1; rw [if_neg h6]; exact h, FrS.rf, fun Q hq => ?_⟩
        refine r_aload_n dX3_putInCache_10 rfl rfl ?_
        refine r_getI (N := 4) dX3_putInCache_11 fwX3_28 (by first | rfl | assumption) (Nat.le_of_ble_eq_true rfl) rfl ?_
        refine r_bipush 6 dX3_putInCache_14 (by decide) ?_
        rw [h.2.1]
        refine r_icmp_lt 40 dX3_putInCache_16 (by decide) (fun c_16 => ?_) (fun c_16 => absurd (nI_lt (a := d.2.1) (b := 6) (by omega) (by decide)) c_16)
        exact hq
    obtain ⟨M1, H1, F1, w1⟩ := key
    obtain ⟨ok1, u5⟩ := wr1_ok ok
    have hcl : (nI (wr1 d).2.1).toNatClampNeg = (wr1 d).2.1 := nI_clamp (by omega)
    refine ⟨upd2 (upd2 (upd2 M1 14 3 (nI ((wr1 d).2.1 + 1))) 16 (wr1 d).2.1 (nI s)) 17 (wr1 d).2.1 v, ?_, ⟨fun j hj => ?_, ?_, fun j hj => ?_⟩, ((F1.ups (by decide)).upc (by decide)).upc (by decide)⟩
    · refine con_of (lv := [some (.ref 14), some (.int (nI s)), some (.int v), none]) (by decide) rfl (Nat.le_of_ble_eq_true rfl) (by simp [lvle]) ?_
      refine r_aload_n dX3_putInCache_0 rfl rfl ?_
      refine r_iload_n dX3_putInCache_1 rfl rfl ?_
      refine gV1 (Y := mX3_placeInCache) (ci := 3) (N := 4) dX3_putInCache_2 mlX3_21 vkX3_placeInCache (by first | rfl | assumption) ⟨by decide, rfl⟩ rfl g ?_
      refine r_istore_n3 dX3_putInCache_5 rfl (Nat.le_of_ble_eq_true rfl) ?_
      refine r_iload_n dX3_putInCache_6 rfl rfl ?_
      refine r_if_ge 55 dX3_putInCache_7 (by decide) (fun c_7 => absurd c_7 (by decide)) (fun c_7 => ?_)
      refine r_weak (by simp [lvle] <;> (repeat' apply And.intro) <;> first | rfl | decide) (w1 _ ?_)
      refine r_aload_n dX3_putInCache_40 rfl rfl ?_
      refine r_getI (N := 4) dX3_putInCache_41 fwX3_28 (by first | rfl | assumption) (Nat.le_of_ble_eq_true rfl) rfl ?_
      rw [H1.2.1]
      refine r_istore_n3 dX3_putInCache_44 rfl (Nat.le_of_ble_eq_true rfl) ?_
      refine r_aload_n dX3_putInCache_45 rfl rfl ?_
      first | refine r_dupR dX3_putInCache_46 ?_ | refine r_dupI dX3_putInCache_46 ?_
      refine r_getI (N := 4) dX3_putInCache_47 fwX3_28 (by first | rfl | assumption) (Nat.le_of_ble_eq_true rfl) rfl ?_
      refine r_iconst 1 dX3_putInCache_50 (by decide) ?_
      refine r_iadd dX3_putInCache_51 ?_
      rw [H1.2.1, nI_1]
      refine r_putI (N := 4) dX3_putInCache_52 fwX3_28 (by first | rfl | assumption) (Nat.le_of_ble_eq_true rfl) rfl (Or.inl rfl) rfl rfl ?_
      refine r_aload_n dX3_putInCache_55 rfl rfl ?_
      refine r_getR (N := 4) dX3_putInCache_56 fwX3_15 (by first | rfl | assumption) (Nat.le_of_ble_eq_true rfl) rfl (by first | rfl | assumption) ?_
      refine r_iload_n dX3_putInCache_59 rfl rfl ?_
      refine r_iload_n dX3_putInCache_60 rfl rfl ?_
      refine r_iastore dX3_putInCache_61 (by first | rfl | assumption) (by exact vp_in_nI (by omega) (by decide)) ?_
      rw [hcl]
      refine r_aload_n dX3_putInCache_62 rfl rfl ?_
      refine r_getR (N := 4) dX3_putInCache_63 fwX3_18 (by first | rfl | assumption) (Nat.le_of_ble_eq_true rfl) rfl (by first | rfl | assumption) ?_
      refine r_iload_n dX3_putInCache_66 rfl rfl ?_
      refine r_iload_n dX3_putInCache_67 rfl rfl ?_
      refine r_iastore dX3_putInCache_68 (by first | rfl | assumption) (by exact vp_in_nI (by omega) (by decide)) ?_
      rw [hcl]
      refine r_return dX3_putInCache_69 rfl (Nat.zero_le _) (Nat.zero_le _) ?_
      exact ⟨rfl, rfl⟩
    · rw [u_nn (by decide), u_nn (by decide), u_nn (by decide)]; exact H1.1 j hj
    · rw [u_nn (by decide), u_nn (by decide), u_ss]
    · have hj : j < (wr1 d).2.1 + 1 := hj
      rw [u_nn (show (16 : Nat) ≠ 17 by decide)]
      show _ = nI (va_up _ _ _ j) ∧ _ = upd _ _ _ j
      by_cases hq : j = (wr1 d).2.1
      · rw [hq, u_ss, u_ss, upd_s]
        simp [va_up]
      · rw [u_sn hq, u_sn hq, upd_n hq, u_nn (by decide), u_nn (by decide), u_nn (by decide)]
        simp only [va_up, if_neg hq]
        exact H1.2.2 j (by omega)
set_option maxHeartbeats 4000000 in
set_option maxRecDepth 100000 in
theorem x_layAll_lp {M0 : Mem} {d : DSt} (h : DC M0 d) (ok : okD d) : ∀ (e k : Nat) (M : Mem), k + e = d.2.1 → (∀ j, j < 32 → M 15 j = lyd d.1 d.2.2.1 d.2.2.2 k j) → FrS [15] [] M0 M → ∃ M', WP mX3_layAll 2 [some (.ref 14), some (.int (nI k))] [] 0 0 (shp, rfs, M) (fun r1 h1 => r1 = none ∧ h1 = (shp, rfs, M')) ∧ DC M' (layD d) ∧ FrS [15] [(14, 3)] M0 M' := by
  have u6 := ok.1
  intro e
  induction e with
  | zero =>
    intro k M hk H F
    have hk : k = d.2.1 := by omega
    have h3 : M 14 3 = nI d.2.1 := by rw [F 14 3 (by decide) (by decide)]; exact h.2.1
    refine ⟨upd2 M 14 3 0, ?_, ⟨fun j hj => ?_, u_ss, fun j hj => absurd hj (by show ¬ j < 0; omega)⟩, (F.mono (by decide) (by decide)).ups (by decide)⟩
    · refine r_iload_n dX3_layAll_2 rfl rfl ?_
      refine r_aload_n dX3_layAll_3 rfl rfl ?_
      refine r_getI (N := 4) dX3_layAll_4 fwX3_28 (by first | rfl | assumption) (Nat.le_of_ble_eq_true rfl) rfl ?_
      refine r_icmp_ge 32 dX3_layAll_7 (by decide) (fun c_7 => ?_) (fun c_7 => absurd (by rw [h3]; exact nI_le (by omega) (by omega)) c_7)
      refine r_aload_n dX3_layAll_32 rfl rfl ?_
      refine r_iconst 0 dX3_layAll_33 (by decide) ?_
      refine r_putI (N := 4) dX3_layAll_34 fwX3_28 (by first | rfl | assumption) (Nat.le_of_ble_eq_true rfl) rfl (Or.inl rfl) rfl rfl ?_
      refine r_return dX3_layAll_37 rfl (Nat.zero_le _) (Nat.zero_le _) ?_
      exact ⟨rfl, rfl⟩
    · rw [u_nn (by decide), H j hj, hk]; rfl
  | succ e ih =>
    intro k M hk H F
    have h3 : M 14 3 = nI d.2.1 := by rw [F 14 3 (by decide) (by decide)]; exact h.2.1
    have hcl : (nI k).toNatClampNeg = k := nI_clamp (by omega)
    have e1 : M 16 k = nI (d.2.2.1 k) := by rw [F 16 k (by decide) (by simp)]; exact (h.2.2 k (by omega)).1
    have e2 : M 17 k = d.2.2.2 k := by rw [F 17 k (by decide) (by simp)]; exact (h.2.2 k (by omega)).2
    obtain ⟨M', w, H', F'⟩ := ih (k + 1) (upd2 M 15 (d.2.2.1 k) (d.2.2.2 k)) (by omega) (fun j hj => by
      show _ = upd _ _ _ j
      by_cases hq : j = d.2.2.1 k
      · rw [hq, u_ss, upd_s]
      · rw [u_sn hq, upd_n hq]; exact H j hj) (F.upc (by decide))
    refine ⟨M', ?_, H', F'⟩
    refine r_iload_n dX3_layAll_2 rfl rfl ?_
    refine r_aload_n dX3_layAll_3 rfl rfl ?_
    refine r_getI (N := 4) dX3_layAll_4 fwX3_28 (by first | rfl | assumption) (Nat.le_of_ble_eq_true rfl) rfl ?_
    refine r_icmp_ge 32 dX3_layAll_7 (by decide) (fun c_7 => absurd c_7 (by rw [h3]; exact nI_ge (by omega) (by omega))) (fun c_7 => ?_)
    refine r_aload_n dX3_layAll_10 rfl rfl ?_
    refine r_aload_n dX3_layAll_11 rfl rfl ?_
    refine r_getR (N := 4) dX3_layAll_12 fwX3_15 (by first | rfl | assumption) (Nat.le_of_ble_eq_true rfl) rfl (by first | rfl | assumption) ?_
    refine r_iload_n dX3_layAll_15 rfl rfl ?_
    refine r_iaload dX3_layAll_16 (by first | rfl | assumption) (by exact vp_in_nI (by omega) (by decide)) ?_
    rw [hcl, e1]
    refine r_aload_n dX3_layAll_17 rfl rfl ?_
    refine r_getR (N := 4) dX3_layAll_18 fwX3_18 (by first | rfl | assumption) (Nat.le_of_ble_eq_true rfl) rfl (by first | rfl | assumption) ?_
    refine r_iload_n dX3_layAll_21 rfl rfl ?_
    refine r_iaload dX3_layAll_22 (by first | rfl | assumption) (by exact vp_in_nI (by omega) (by decide)) ?_
    rw [hcl, e2]
    refine gW2 (Y := mX3_putOnDisk) (ci := 3) (N := 4) dX3_layAll_23 mlX3_32 vkX3_putOnDisk (by first | rfl | assumption) ⟨by decide, rfl⟩ rfl (x_put (ok.2 k (by omega))) ?_
    refine r_iinc_1 (_ + 1) dX3_layAll_26 rfl (Nat.le_of_ble_eq_true rfl) rfl ?_
    refine r_goto 2 dX3_layAll_29 (by decide) ?_
    rw [nI_1]
    exact w
set_option maxHeartbeats 4000000 in
set_option maxRecDepth 100000 in
theorem x_layAll {M : Mem} {d : DSt} (h : DC M d) (ok : okD d) : ∃ M', Gv mX3_layAll [.ref 14] M none M' ∧ DC M' (layD d) ∧ FrS [15] [(14, 3)] M M' := by
  obtain ⟨M', w, H', F'⟩ := x_layAll_lp h ok d.2.1 0 M (by omega) h.1 FrS.rf
  refine ⟨M', ?_, H', F'⟩
  refine con_of (lv := [some (.ref 14), none]) (by decide) rfl (Nat.le_of_ble_eq_true rfl) (by simp [lvle]) ?_
  refine r_iconst 0 dX3_layAll_0 (by decide) ?_
  refine r_istore_n1 dX3_layAll_1 rfl (Nat.le_of_ble_eq_true rfl) ?_
  exact w
set_option maxHeartbeats 4000000 in
set_option maxRecDepth 100000 in
theorem x_drop {M : Mem} : Gv mX3_dropCache [.ref 14] M (some (.int (M 14 3))) (upd2 M 14 3 0) := by
  refine con_of (lv := [some (.ref 14), none]) (by decide) rfl (Nat.le_of_ble_eq_true rfl) (by simp [lvle]) ?_
  refine r_aload_n dX3_dropCache_0 rfl rfl ?_
  refine r_getI (N := 4) dX3_dropCache_1 fwX3_28 (by first | rfl | assumption) (Nat.le_of_ble_eq_true rfl) rfl ?_
  refine r_istore_n1 dX3_dropCache_4 rfl (Nat.le_of_ble_eq_true rfl) ?_
  refine r_aload_n dX3_dropCache_5 rfl rfl ?_
  refine r_iconst 0 dX3_dropCache_6 (by decide) ?_
  refine r_putI (N := 4) dX3_dropCache_7 fwX3_28 (by first | rfl | assumption) (Nat.le_of_ble_eq_true rfl) rfl (Or.inl rfl) rfl rfl ?_
  refine r_iload_n dX3_dropCache_10 rfl rfl ?_
  refine r_ireturn dX3_dropCache_11 rfl (Nat.zero_le _) (Nat.zero_le _) ?_
  exact ⟨rfl, rfl⟩
set_option maxHeartbeats 4000000 in
set_option maxRecDepth 100000 in
theorem x_atPlace {M : Mem} {d : DSt} {x : Int32} (h : DC M d) (ok : okD d) : Gv mX3_sectorAtPlace [.ref 14, .int x] M (some (.int (if x < 0 then -2 else if nI d.2.1 ≤ x then -2 else nI (d.2.2.1 x.toNatClampNeg)))) M := by
  have u6 := ok.1
  refine con_of (lv := [some (.ref 14), some (.int x)]) (by decide) rfl (Nat.le_of_ble_eq_true rfl) (by simp [lvle]) ?_
  refine r_iload_n dX3_sectorAtPlace_0 rfl rfl ?_
  refine r_if_lt 21 dX3_sectorAtPlace_1 (by decide) (fun c_1 => ?_) (fun c_1 => ?_)
  · refine r_bipush (-2) dX3_sectorAtPlace_21 (by decide) ?_
    refine r_ireturn dX3_sectorAtPlace_23 rfl (Nat.zero_le _) (Nat.zero_le _) ?_
    refine ⟨?_, rfl⟩
    try rw [h.2.1] at c_9
    first | rw [if_pos c_1] | rw [if_neg c_1, if_pos c_9] | (rw [if_neg c_1, if_neg c_9]; obtain ⟨j, hj, hh, _⟩ := ix_of c_1 c_9 rfl u6 (by decide); rw [hh, nI_clamp (by omega), (h.2.2 j hj).1])
  · refine r_iload_n dX3_sectorAtPlace_4 rfl rfl ?_
    refine r_aload_n dX3_sectorAtPlace_5 rfl rfl ?_
    refine r_getI (N := 4) dX3_sectorAtPlace_6 fwX3_28 (by first | rfl | assumption) (Nat.le_of_ble_eq_true rfl) rfl ?_
    refine r_icmp_ge 21 dX3_sectorAtPlace_9 (by decide) (fun c_9 => ?_) (fun c_9 => ?_)
    · refine r_bipush (-2) dX3_sectorAtPlace_21 (by decide) ?_
      refine r_ireturn dX3_sectorAtPlace_23 rfl (Nat.zero_le _) (Nat.zero_le _) ?_
      refine ⟨?_, rfl⟩
      try rw [h.2.1] at c_9
      first | rw [if_pos c_1] | rw [if_neg c_1, if_pos c_9] | (rw [if_neg c_1, if_neg c_9]; obtain ⟨j, hj, hh, _⟩ := ix_of c_1 c_9 rfl u6 (by decide); rw [hh, nI_clamp (by omega), (h.2.2 j hj).1])
    · refine r_aload_n dX3_sectorAtPlace_12 rfl rfl ?_
      refine r_getR (N := 4) dX3_sectorAtPlace_13 fwX3_15 (by first | rfl | assumption) (Nat.le_of_ble_eq_true rfl) rfl (by first | rfl | assumption) ?_
      refine r_iload_n dX3_sectorAtPlace_16 rfl rfl ?_
      refine r_iaload dX3_sectorAtPlace_17 (by first | rfl | assumption) (by rw [h.2.1] at c_9; obtain ⟨j, _, _, hh⟩ := ix_of c_1 c_9 rfl u6 (by decide); exact hh) ?_
      refine r_goto 23 dX3_sectorAtPlace_18 (by decide) ?_
      refine r_ireturn dX3_sectorAtPlace_23 rfl (Nat.zero_le _) (Nat.zero_le _) ?_
      refine ⟨?_, rfl⟩
      try rw [h.2.1] at c_9
      first | rw [if_pos c_1] | rw [if_neg c_1, if_pos c_9] | (rw [if_neg c_1, if_neg c_9]; obtain ⟨j, hj, hh, _⟩ := ix_of c_1 c_9 rfl u6 (by decide); rw [hh, nI_clamp (by omega), (h.2.2 j hj).1])
theorem lyd_sh {dk : Nat → Int32} {cs : Nat → Nat} {cn : Nat → Int32} : ∀ k, lyd (upd dk (cs 0) (cn 0)) (sh cs 0) (sh cn 0) k = lyd dk cs cn (k + 1)
  | 0 => rfl
  | k + 1 => by
    show upd (lyd _ _ _ k) _ _ = upd (lyd dk cs cn (k + 1)) _ _
    rw [lyd_sh k]
    rfl
