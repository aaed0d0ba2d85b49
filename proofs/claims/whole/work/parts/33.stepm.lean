set_option maxHeartbeats 600000 in
set_option maxRecDepth 100000 in
theorem m_step_n {M : Mem} {v : LSt} {d : DSt} {P : PL} {T : TSt} {w l : Nat} (h : MA M v d P T w l) (okt : okT T) (hw2 : w ≤ 2) (hl2 : l < 100000) (hn : nxf w l T 8 = none) : Gv mX6_step [.ref 40] M (some (.int (-4))) M := by
  have g := m_next h.2.1 okt h.2.2.2.1 hw2 h.2.2.2.2 hl2
  rw [hn] at g
  clear hn
  refine con_of (lv := [some (.ref 40), none]) (by decide) rfl (Nat.le_of_ble_eq_true rfl) (by simp [lvle]) ?_
  refine r_aload_n dX6_step_0 rfl rfl ?_
  refine gV0 (Y := mX6_next) (ci := 6) (N := 35) dX6_step_1 mlX6_217 vkX6_next (by first | exact hc1 | exact hc2 | exact hc3 | rfl | exact hB1 | exact hB2 | exact hB3) ⟨by decide, rfl⟩ rfl g ?_
  refine r_istore_n1 dX6_step_4 rfl (Nat.le_of_ble_eq_true rfl) ?_
  refine r_iload_n dX6_step_5 rfl rfl ?_
  refine r_iconst (-1) dX6_step_6 (by decide) ?_
  refine r_icmp_ne 13 dX6_step_7 (by decide) (fun c_7 => absurd rfl c_7) (fun c_7 => ?_)
  refine r_bipush (-4) dX6_step_10 (by decide) ?_
  refine r_ireturn dX6_step_12 rfl (Nat.zero_le _) (Nat.zero_le _) ?_
  exact ⟨rfl, rfl⟩
set_option maxHeartbeats 600000 in
set_option maxRecDepth 100000 in
theorem m_step_s {M : Mem} {v : LSt} {d : DSt} {P : PL} {T : TSt} {w l t : Nat} (h : MA M v d P T w l) (okt : okT T) (okp : okP P) (okd : okD d) (hw2 : w ≤ 2) (hl2 : l < 100000) (hfr : v.1 + 30 < 2 ^ 31) (hn : nxf w l T 8 = some t) : ∃ M', Gv mX6_step [.ref 40] M (some (.int (nI t))) M' ∧ MA M' (cmdT P T v d t).1 (cmdT P T v d t).2.1 P (endT T t (cmdT P T v d t).2.2.2 (cmdT P T v d t).2.2.1) w (lastN (T.2.1 t) (T.2.2.1 t) (T.2.2.2.1 t)) ∧ FrS bigC' bigS' M M' := by
  have g := m_next h.2.1 okt h.2.2.2.1 hw2 h.2.2.2.2 hl2
  obtain ⟨ht, hs⟩ := nxf_some 8 t hn
  rw [hn] at g
  clear hn
  have hcl : (nI t).toNatClampNeg = t := nI_clamp (by omega)
  obtain ⟨e2, e3, e4, e5, e6, e7⟩ := h.2.1 t ht
  obtain ⟨o1, o2, o3, o4, o5, o6, o7, o8⟩ := okt t ht
  have hla : Gv mX6_lastOf [.int (nI (T.2.1 t)), .int (nI (T.2.2.1 t)), .int (nI (T.2.2.2.1 t))] M (some (.int (nI (lastN (T.2.1 t) (T.2.2.1 t) (T.2.2.2.1 t))))) M := by
    have g := m_lastOf (M := M) (k := nI (T.2.1 t)) (a := nI (T.2.2.1 t)) (b := nI (T.2.2.2.1 t))
    unfold lastN
    by_cases h3 : T.2.1 t = 3
    · rw [if_pos (by rw [h3]; rfl)] at g
      rw [if_pos h3]
      exact g
    · rw [if_neg (show ¬ nI (T.2.1 t) = 3 from fun z => h3 ((nI_eq (a := T.2.1 t) (b := 3) (by omega) (by decide)).mp z)), nI_add] at g
      rw [if_neg h3]
      have := o6 (by omega) h3
      rw [show nI (T.2.2.1 t + T.2.2.2.1 t) - 1 = nI (T.2.2.1 t + T.2.2.2.1 t - 1) from pk_sub (a := T.2.2.1 t + T.2.2.2.1 t) (b := 1) (by omega)] at g
      exact g
  have F1 : FrS [] [(40, 30)] M (upd2 M 40 30 (nI (lastN (T.2.1 t) (T.2.2.1 t) (T.2.2.2.1 t)))) := FrS.rf.ups (by decide)
  have h1 : MS (upd2 M 40 30 (nI (lastN (T.2.1 t) (T.2.2.1 t) (T.2.2.2.1 t)))) v d P := ⟨h.1.1.frS F1 (by decide) (by decide), h.1.2.1.frS F1 (by decide) (by decide) (by decide), h.1.2.2.1.frS F1 (by decide) (by decide) (by decide), h.1.2.2.2.frS F1 (by decide) (by decide) (by decide)⟩
  have e8 : (upd2 M 40 30 (nI (lastN (T.2.1 t) (T.2.2.1 t) (T.2.2.2.1 t)))) 40 30 = nI (lastN (T.2.1 t) (T.2.2.1 t) (T.2.2.2.1 t)) := u_ss
  have wpu : ∀ Q, WP mX6_step 38 [some (.ref 40), some (.int (nI t))] [] 0 0 (shp, rfs, upd2 M 40 30 (nI (lastN (T.2.1 t) (T.2.2.1 t) (T.2.2.2.1 t)))) Q → WP mX6_step 0 [some (.ref 40), none] [] 0 0 (shp, rfs, M) Q := by
    intro Q hq
    refine r_aload_n dX6_step_0 rfl rfl ?_
    refine gV0 (Y := mX6_next) (ci := 6) (N := 35) dX6_step_1 mlX6_217 vkX6_next (by first | exact hc1 | exact hc2 | exact hc3 | rfl | exact hB1 | exact hB2 | exact hB3) ⟨by decide, rfl⟩ rfl g ?_
    refine r_istore_n1 dX6_step_4 rfl (Nat.le_of_ble_eq_true rfl) ?_
    refine r_iload_n dX6_step_5 rfl rfl ?_
    refine r_iconst (-1) dX6_step_6 (by decide) ?_
    refine r_icmp_ne 13 dX6_step_7 (by decide) (fun c_7 => ?_) (fun c_7 => absurd c_7 (nI_ne_m1 (by omega)))
    refine r_aload_n dX6_step_13 rfl rfl ?_
    refine r_aload_n dX6_step_14 rfl rfl ?_
    refine r_getR (N := 35) dX6_step_15 fwX6_52 (by first | exact hc1 | exact hc2 | exact hc3 | rfl | exact hB1 | exact hB2 | exact hB3) (Nat.le_of_ble_eq_true rfl) rfl (by first | exact hc1 | exact hc2 | exact hc3 | rfl | exact hB1 | exact hB2 | exact hB3) ?_
    refine r_iload_n dX6_step_18 rfl rfl ?_
    refine r_iaload dX6_step_19 (by first | exact hc1 | exact hc2 | exact hc3 | rfl | exact hB1 | exact hB2 | exact hB3) (by exact vp_in_nI ht (by decide)) ?_
    rw [show (oI (some t)).toNatClampNeg = t from hcl, e3]
    refine r_aload_n dX6_step_20 rfl rfl ?_
    refine r_getR (N := 35) dX6_step_21 fwX6_55 (by first | exact hc1 | exact hc2 | exact hc3 | rfl | exact hB1 | exact hB2 | exact hB3) (Nat.le_of_ble_eq_true rfl) rfl (by first | exact hc1 | exact hc2 | exact hc3 | rfl | exact hB1 | exact hB2 | exact hB3) ?_
    refine r_iload_n dX6_step_24 rfl rfl ?_
    refine r_iaload dX6_step_25 (by first | exact hc1 | exact hc2 | exact hc3 | rfl | exact hB1 | exact hB2 | exact hB3) (by exact vp_in_nI ht (by decide)) ?_
    rw [show (oI (some t)).toNatClampNeg = t from hcl, e4]
    refine r_aload_n dX6_step_26 rfl rfl ?_
    refine r_getR (N := 35) dX6_step_27 fwX6_58 (by first | exact hc1 | exact hc2 | exact hc3 | rfl | exact hB1 | exact hB2 | exact hB3) (Nat.le_of_ble_eq_true rfl) rfl (by first | exact hc1 | exact hc2 | exact hc3 | rfl | exact hB1 | exact hB2 | exact hB3) ?_
    refine r_iload_n dX6_step_30 rfl rfl ?_
    refine r_iaload dX6_step_31 (by first | exact hc1 | exact hc2 | exact hc3 | rfl | exact hB1 | exact hB2 | exact hB3) (by exact vp_in_nI ht (by decide)) ?_
    rw [show (oI (some t)).toNatClampNeg = t from hcl, e5]
    refine gS3 (Y := mX6_lastOf) dX6_step_32 mlX6_187 ckX6_lastOf skX6_lastOf rfl hla ?_
    refine r_putI (N := 35) dX6_step_35 fwX6_210 (by first | exact hc1 | exact hc2 | exact hc3 | rfl | exact hB1 | exact hB2 | exact hB3) (Nat.le_of_ble_eq_true rfl) rfl (Or.inl rfl) rfl rfl ?_
    exact hq
  generalize upd2 M 40 30 (nI (lastN (T.2.1 t) (T.2.2.1 t) (T.2.2.2.1 t))) = M1 at F1 h1 e8 wpu
  have cf : CFm M1 t (T.2.1 t) (T.2.2.1 t) (T.2.2.2.1 t) := ⟨by rw [F1 55 t (by simp) (by simp)]; exact e3, by rw [F1 56 t (by simp) (by simp)]; exact e4, by rw [F1 57 t (by simp) (by simp)]; exact e5⟩
  obtain ⟨M2, g2, h2, n2, F2, k2⟩ := m_done (f := T.2.2.2.2.2.2 t) ht o2 o3 o4 o5 (o6 (by omega)) okp cf h1 okd (fun z z3 j hj => by rw [F1 58 _ (by simp) (by simp)]; exact (h.2.2.1 t ht).1 hs z z3 j hj) hfr
  unfold cmdT
  generalize cmd P (T.2.1 t) t (T.2.2.1 t) (T.2.2.2.1 t) v d (T.2.2.2.2.2.2 t) = r at g2 h2 n2 ⊢
  obtain ⟨rv, rd, rf, ro⟩ := r
  dsimp only at g2 h2 n2 ⊢
  have F3 : FrS [54, 60] [] M2 (upd2 (upd2 M2 60 t (nI ro)) 54 t 2) := (FrS.rf.upc (by simp)).upc (by simp)
  have h3 : MS (upd2 (upd2 M2 60 t (nI ro)) 54 t 2) rv rd P := ⟨h2.1.frS F3 (by decide) (by decide), h2.2.1.frS F3 (by decide) (by decide) (by decide), h2.2.2.1.frS F3 (by decide) (by decide) (by decide), h2.2.2.2.frS F3 (by decide) (by decide) (by decide)⟩
  have fo2 : ∀ c k, c ∉ fyC → c ≠ 40 → M2 c k = M c k := fun c k hc h40 => by rw [F2 c k hc (by unfold fyS; simp [h40]), F1 c k (by simp) (by simp [h40])]
  refine ⟨_, ?_, ⟨h3, ?_, ?_, ?_, ?_⟩, ?_⟩
  · refine con_of (lv := [some (.ref 40), none]) (by decide) rfl (Nat.le_of_ble_eq_true rfl) (by simp [lvle]) ?_
    refine wpu _ ?_
    refine r_aload_n dX6_step_38 rfl rfl ?_
    refine r_getR (N := 35) dX6_step_39 fwX6_67 (by first | exact hc1 | exact hc2 | exact hc3 | rfl | exact hB1 | exact hB2 | exact hB3) (Nat.le_of_ble_eq_true rfl) rfl (by first | exact hc1 | exact hc2 | exact hc3 | rfl | exact hB1 | exact hB2 | exact hB3) ?_
    refine r_iload_n dX6_step_42 rfl rfl ?_
    refine r_aload_n dX6_step_43 rfl rfl ?_
    refine r_iload_n dX6_step_44 rfl rfl ?_
    refine gV1 (Y := mX6_done) (ci := 6) (N := 35) dX6_step_45 mlX6_220 vkX6_done (by first | exact hc1 | exact hc2 | exact hc3 | rfl | exact hB1 | exact hB2 | exact hB3) ⟨by decide, rfl⟩ rfl g2 ?_
    refine r_iastore dX6_step_48 (by first | exact hc1 | exact hc2 | exact hc3 | rfl | exact hB1 | exact hB2 | exact hB3) (by exact vp_in_nI ht (by decide)) ?_
    rw [hcl]
    refine r_aload_n dX6_step_49 rfl rfl ?_
    refine r_getR (N := 35) dX6_step_50 fwX6_49 (by first | exact hc1 | exact hc2 | exact hc3 | rfl | exact hB1 | exact hB2 | exact hB3) (Nat.le_of_ble_eq_true rfl) rfl (by first | exact hc1 | exact hc2 | exact hc3 | rfl | exact hB1 | exact hB2 | exact hB3) ?_
    refine r_iload_n dX6_step_53 rfl rfl ?_
    refine r_iconst 2 dX6_step_54 (by decide) ?_
    refine r_iastore dX6_step_55 (by first | exact hc1 | exact hc2 | exact hc3 | rfl | exact hB1 | exact hB2 | exact hB3) (by exact vp_in_nI ht (by decide)) ?_
    rw [hcl]
    refine r_iload_n dX6_step_56 rfl rfl ?_
    refine r_ireturn dX6_step_57 rfl (Nat.zero_le _) (Nat.zero_le _) ?_
    exact ⟨rfl, rfl⟩
  · intro a ha
    obtain ⟨a2, a3, a4, a5, a6, a7⟩ := h.2.1 a ha
    rw [u_nn (show (55 : Nat) ≠ 54 by decide), u_nn (show (55 : Nat) ≠ 60 by decide), u_nn (show (56 : Nat) ≠ 54 by decide), u_nn (show (56 : Nat) ≠ 60 by decide), u_nn (show (57 : Nat) ≠ 54 by decide), u_nn (show (57 : Nat) ≠ 60 by decide), u_nn (show (59 : Nat) ≠ 54 by decide), u_nn (show (59 : Nat) ≠ 60 by decide), u_nn (show (60 : Nat) ≠ 54 by decide), fo2 55 a (by decide) (by decide), fo2 56 a (by decide) (by decide), fo2 57 a (by decide) (by decide), fo2 59 a (by decide) (by decide)]
    by_cases hat : a = t
    · subst hat
      obtain ⟨s1, s2, s3⟩ := endT_s (T := T) (t := a) (o := ro) (f := rf)
      rw [s1, s2, u_ss, u_ss]
      exact ⟨rfl, a3, a4, a5, a6, rfl⟩
    · obtain ⟨s1, s2, s3⟩ := endT_o (T := T) (o := ro) (f := rf) hat
      rw [s1, s2, u_sn hat, u_sn hat, u_nn (by decide), fo2 54 a (by decide) (by decide), fo2 60 a (by decide) (by decide)]
      exact ⟨a2, a3, a4, a5, a6, a7⟩
  · intro a ha
    by_cases hat : a = t
    · subst hat
      obtain ⟨s1, s2, s3⟩ := endT_s (T := T) (t := a) (o := ro) (f := rf)
      rw [s1, s2, s3]
      refine ⟨fun z => absurd z (by decide), fun _ z1 z2 j hj => ?_⟩
      rw [u_nn (by decide), u_nn (by decide)]
      exact n2 z1 z2 j hj
    · obtain ⟨s1, s2, s3⟩ := endT_o (T := T) (o := ro) (f := rf) hat
      obtain ⟨p1, p2⟩ := h.2.2.1 a ha
      have hmn := (okt a ha).2.2.2.1
      rw [s1, s2, s3]
      refine ⟨fun z1 z2 z3 j hj => ?_, fun z1 z2 z3 j hj => ?_⟩
      · rw [u_nn (by decide), u_nn (by decide), k2 _ (by omega), F1 58 _ (by simp) (by simp)]
        exact p1 z1 z2 z3 j hj
      · have hj : j < T.2.2.2.1 a := hj
        rw [u_nn (by decide), u_nn (by decide), k2 _ (by omega), F1 58 _ (by simp) (by simp)]
        exact p2 z1 z2 z3 j hj
  · rw [u_nn (by omega), u_nn (by omega), F2 40 29 (by decide) (by decide), F1 40 29 (by simp) (by decide)]
    exact h.2.2.2.1
  · rw [u_nn (by omega), u_nn (by omega), F2 40 30 (by decide) (by decide)]
    exact e8
  · exact (((F1.mono (by simp) (by decide)).tr (F2.mono (by decide) (by decide))).upc (by decide)).upc (by decide)
/-- the disk, the link and the tags as commands change them -/
abbrev SSt : Type := LSt × DSt × TSt × Nat
def stS (P : PL) (s : SSt) (t : Nat) : SSt := ((cmdT P s.2.2.1 s.1 s.2.1 t).1, (cmdT P s.2.2.1 s.1 s.2.1 t).2.1, endT s.2.2.1 t (cmdT P s.2.2.1 s.1 s.2.1 t).2.2.2 (cmdT P s.2.2.1 s.1 s.2.1 t).2.2.1, lastN (s.2.2.1.2.1 t) (s.2.2.1.2.2.1 t) (s.2.2.1.2.2.2.1 t))
def drS (P : PL) (w : Nat) : Nat → SSt → Nat × SSt
  | 0, s => (0, s)
  | n + 1, s => match nxf w s.2.2.2 s.2.2.1 8 with
    | none => (0, s)
    | some t => ((drS P w n (stS P s t)).1 + 1, (drS P w n (stS P s t)).2)
def okS (s : SSt) : Prop := okD s.2.1 ∧ okT s.2.2.1 ∧ s.2.2.2 < 100000
def CAs (M : Mem) (P : PL) (w : Nat) (s : SSt) : Prop := CA M s.1 s.2.1 P s.2.2.1 w s.2.2.2
def MAs (M : Mem) (P : PL) (w : Nat) (s : SSt) : Prop := MA M s.1 s.2.1 P s.2.2.1 w s.2.2.2
theorem okS_st {P : PL} {s : SSt} {t : Nat} (h : okS s) (hd : okD (cmdT P s.2.2.1 s.1 s.2.1 t).2.1) (ht : t < 8) (hs : s.2.2.1.1 t = 1) : okS (stS P s t) ∧ (stS P s t).1.1 ≤ s.1.1 + 24 := by
  obtain ⟨o1, o2, o3, o4, o5, o6, o7, o8⟩ := h.2.1 t ht
  have hc : (cmdT P s.2.2.1 s.1 s.2.1 t).1.1 ≤ s.1.1 + 24 ∧ (cmdT P s.2.2.1 s.1 s.2.1 t).2.2.2 ≤ 2 := by
    unfold cmdT
    exact cmd_fr o4
  unfold stS okS
  generalize cmdT P s.2.2.1 s.1 s.2.1 t = r at hd hc ⊢
  dsimp only
  refine ⟨⟨hd, okT_end h.2.1 hs (by omega), ?_⟩, hc.1⟩
  unfold lastN
  split <;> omega
set_option maxHeartbeats 600000 in
set_option maxRecDepth 100000 in
theorem x_dr_lp {P : PL} {w : Nat} (okp : okP P) (hw2 : w ≤ 2) {M0 : Mem} : ∀ (n k : Nat) (M : Mem) (s : SSt), k + n = 8 → CAs M P w s → okS s → s.1.1 + 24 * n + 30 < 2 ^ 31 → FrS bigC bigS M0 M → ∃ M', WP mX5_drain 2 [some (.ref 0), some (.int (nI k))] [] 0 0 (shp, rfs, M) (fun r1 h1 => r1 = some (.int (nI (k + (drS P w n s).1))) ∧ h1 = (shp, rfs, M')) ∧ CAs M' P w (drS P w n s).2 ∧ okS (drS P w n s).2 ∧ (drS P w n s).2.1.1 ≤ s.1.1 + 24 * n ∧ FrS bigC bigS M0 M' := by
  intro n
  induction n with
  | zero =>
    intro k M s hk h ok hfr F
    have hk : k = 8 := by omega
    subst hk
    refine ⟨M, ?_, h, ok, by simp [drS], F⟩
    refine r_iload_n dX5_drain_2 rfl rfl ?_
    refine r_bipush 8 dX5_drain_3 (by decide) ?_
    refine r_icmp_ge 21 dX5_drain_5 (by decide) (fun c_5 => ?_) (fun c_5 => absurd (by decide) c_5)
    refine r_iload_n dX5_drain_21 rfl rfl ?_
    refine r_ireturn dX5_drain_22 rfl (Nat.zero_le _) (Nat.zero_le _) ?_
    exact ⟨rfl, rfl⟩
  | succ n ih =>
    intro k M s hk h ok hfr F
    have c5 : ¬ (8 : Int32) ≤ nI k := nI_ge (a := k) (b := 8) (by omega) (by decide)
    simp only [drS]
    cases hq : nxf w s.2.2.2 s.2.2.1 8 with
    | none =>
      dsimp only
      have g := x_step_n h ok.2.1 hw2 ok.2.2 hq
      refine ⟨M, ?_, h, ok, by omega, F⟩
      clear hq
      refine r_iload_n dX5_drain_2 rfl rfl ?_
      refine r_bipush 8 dX5_drain_3 (by decide) ?_
      refine r_icmp_ge 21 dX5_drain_5 (by decide) (fun c_5 => absurd c_5 c5) (fun c_5 => ?_)
      refine r_aload_n dX5_drain_8 rfl rfl ?_
      refine gV0 (Y := mX5_step) (ci := 5) (N := 10) dX5_drain_9 mlX5_130 vkX5_step (by first | rfl | assumption) ⟨by decide, rfl⟩ rfl g ?_
      refine r_if_lt 21 dX5_drain_12 (by decide) (fun c_12 => ?_) (fun c_12 => absurd (by decide) c_12)
      refine r_iload_n dX5_drain_21 rfl rfl ?_
      refine r_ireturn dX5_drain_22 rfl (Nat.zero_le _) (Nat.zero_le _) ?_
      exact ⟨rfl, rfl⟩
    | some t =>
      dsimp only
      obtain ⟨ht, hs⟩ := nxf_some 8 t hq
      obtain ⟨M1, g1, h1, d1, F1⟩ := x_step_s h ok.2.1 okp ok.1 hw2 ok.2.2 (by omega) hq
      obtain ⟨ok1, fr1⟩ := okS_st ok d1 ht hs
      have h1' : CAs M1 P w (stS P s t) := by
        unfold CAs stS
        dsimp only
        exact h1
      clear h1 d1 hq
      generalize stS P s t = s1 at h1' ok1 fr1 ⊢
      obtain ⟨M', w', i1, i2, i3, i4⟩ := ih (k + 1) M1 s1 (by omega) h1' ok1 (by omega) (F.tr F1)
      refine ⟨M', ?_, i1, i2, by omega, i4⟩
      rw [show k + 1 + (drS P w n s1).1 = k + ((drS P w n s1).1 + 1) by omega] at w'
      clear i1 i2 i3
      refine r_iload_n dX5_drain_2 rfl rfl ?_
      refine r_bipush 8 dX5_drain_3 (by decide) ?_
      refine r_icmp_ge 21 dX5_drain_5 (by decide) (fun c_5 => absurd c_5 c5) (fun c_5 => ?_)
      refine r_aload_n dX5_drain_8 rfl rfl ?_
      refine gV0 (Y := mX5_step) (ci := 5) (N := 10) dX5_drain_9 mlX5_130 vkX5_step (by first | rfl | assumption) ⟨by decide, rfl⟩ rfl g1 ?_
      refine r_if_lt 21 dX5_drain_12 (by decide) (fun c_12 => absurd c_12 (nI_pos (by omega))) (fun c_12 => ?_)
      refine r_iinc_1 (_ + 1) dX5_drain_15 rfl (Nat.le_of_ble_eq_true rfl) rfl ?_
      refine r_goto 2 dX5_drain_18 (by decide) ?_
      rw [nI_1]
      exact w'
def cn (f : Nat → Nat) : Nat → Nat
  | 0 => 0
  | t + 1 => cn f t + if f t = 1 then 1 else 0
theorem cn_le (f : Nat → Nat) : ∀ n, cn f n ≤ n
  | 0 => Nat.le_refl _
  | n + 1 => by
    have := cn_le f n
    simp only [cn]
    split <;> omega
theorem cn_up {f : Nat → Nat} {t : Nat} (hs : f t = 1) : ∀ n, cn (va_up f t 2) n + (if t < n then 1 else 0) = cn f n
  | 0 => by simp [cn]
  | n + 1 => by
    have ih := cn_up hs n
    simp only [cn]
    by_cases h : n = t
    · subst h
      have e : va_up f n 2 n = 2 := by simp [va_up]
      rw [if_neg (by omega)] at ih
      rw [e, if_neg (by decide), if_pos (by omega), if_pos hs]
      omega
    · have e : va_up f t 2 n = f n := by simp [va_up, h]
      rw [e]
      by_cases h2 : t < n
      · rw [if_pos h2] at ih
        rw [if_pos (show t < n + 1 by omega)]
        omega
      · rw [if_neg h2] at ih
        rw [if_neg (show ¬ t < n + 1 by omega)]
        omega
set_option maxHeartbeats 600000 in
set_option maxRecDepth 100000 in
theorem m_dr_lp {P : PL} {w : Nat} (okp : okP P) (hw2 : w ≤ 2) {M0 : Mem} : ∀ (n k : Nat) (M : Mem) (s : SSt), cn s.2.2.1.1 8 ≤ n → k + n ≤ 8 → MAs M P w s → okS s → (∀ t, nxf w s.2.2.2 s.2.2.1 8 = some t → True) → s.1.1 + 24 * n + 30 < 2 ^ 31 → FrS bigC' bigS' M0 M → (∀ s, okS s → ∀ t, t < 8 → s.2.2.1.1 t = 1 → okD (cmdT P s.2.2.1 s.1 s.2.1 t).2.1) → ∃ M', WP mX6_drain 2 [some (.ref 40), some (.int (nI k)), none] [] 0 0 (shp, rfs, M) (fun r1 h1 => r1 = some (.int (nI (k + (drS P w n s).1))) ∧ h1 = (shp, rfs, M')) ∧ MAs M' P w (drS P w n s).2 ∧ FrS bigC' bigS' M0 M' := by
  intro n
  induction n with
  | zero =>
    intro k M s hc hk h ok _ hfr F hD
    have hn : nxf w s.2.2.2 s.2.2.1 8 = none := by
      cases hq : nxf w s.2.2.2 s.2.2.1 8 with
      | none => rfl
      | some t =>
        obtain ⟨ht, hs⟩ := nxf_some 8 t hq
        have := cn_up hs 8
        rw [if_pos ht] at this
        omega
    have g := m_next h.2.1 ok.2.1 h.2.2.2.1 hw2 h.2.2.2.2 ok.2.2
    rw [hn] at g
    refine ⟨M, ?_, h, F⟩
    clear hn
    refine r_aload_n dX6_drain_2 rfl rfl ?_
    refine gV0 (Y := mX6_next) (ci := 6) (N := 35) dX6_drain_3 mlX6_217 vkX6_next (by first | rfl | assumption) ⟨by decide, rfl⟩ rfl g ?_
    refine r_iconst (-1) dX6_drain_6 (by decide) ?_
    refine r_icmp_eq 30 dX6_drain_7 (by decide) (fun c_7 => ?_) (fun c_7 => absurd rfl c_7)
    refine r_iload_n dX6_drain_30 rfl rfl ?_
    refine r_ireturn dX6_drain_31 rfl (Nat.zero_le _) (Nat.zero_le _) ?_
    exact ⟨rfl, rfl⟩
  | succ n ih =>
    intro k M s hc hk h ok _ hfr F hD
    have g := m_next h.2.1 ok.2.1 h.2.2.2.1 hw2 h.2.2.2.2 ok.2.2
    simp only [drS]
    cases hq : nxf w s.2.2.2 s.2.2.1 8 with
    | none =>
      dsimp only
      rw [hq] at g
      refine ⟨M, ?_, h, F⟩
      clear hq
      refine r_aload_n dX6_drain_2 rfl rfl ?_
      refine gV0 (Y := mX6_next) (ci := 6) (N := 35) dX6_drain_3 mlX6_217 vkX6_next (by first | rfl | assumption) ⟨by decide, rfl⟩ rfl g ?_
      refine r_iconst (-1) dX6_drain_6 (by decide) ?_
      refine r_icmp_eq 30 dX6_drain_7 (by decide) (fun c_7 => ?_) (fun c_7 => absurd rfl c_7)
      refine r_iload_n dX6_drain_30 rfl rfl ?_
      refine r_ireturn dX6_drain_31 rfl (Nat.zero_le _) (Nat.zero_le _) ?_
      exact ⟨rfl, rfl⟩
    | some t =>
      dsimp only
      rw [hq] at g
      obtain ⟨ht, hs⟩ := nxf_some 8 t hq
      obtain ⟨M1, g1, h1, F1⟩ := m_step_s h ok.2.1 okp ok.1 hw2 ok.2.2 (by omega) hq
      obtain ⟨ok1, fr1⟩ := okS_st ok (hD s ok t ht hs) ht hs
      have h1' : MAs M1 P w (stS P s t) := by
        unfold MAs stS
        dsimp only
        exact h1
      have hc1 : cn (stS P s t).2.2.1.1 8 ≤ n := by
        have := cn_up hs 8
        rw [if_pos ht] at this
        show cn (va_up s.2.2.1.1 t 2) 8 ≤ n
        omega
      clear h1 hq
      generalize stS P s t = s1 at h1' ok1 fr1 hc1 ⊢
      obtain ⟨M', w', i1, i4⟩ := ih (k + 1) M1 s1 hc1 (by omega) h1' ok1 (fun _ _ => trivial) (by omega) (F.tr F1) hD
      refine ⟨M', ?_, i1, i4⟩
      rw [show k + 1 + (drS P w n s1).1 = k + ((drS P w n s1).1 + 1) by omega] at w'
      clear i1
      refine r_aload_n dX6_drain_2 rfl rfl ?_
      refine gV0 (Y := mX6_next) (ci := 6) (N := 35) dX6_drain_3 mlX6_217 vkX6_next (by first | rfl | assumption) ⟨by decide, rfl⟩ rfl g ?_
      refine r_iconst (-1) dX6_drain_6 (by decide) ?_
      refine r_icmp_eq 30 dX6_drain_7 (by decide) (fun c_7 => absurd c_7 (nI_ne_m1 (by omega))) (fun c_7 => ?_)
      refine r_aload_n dX6_drain_10 rfl rfl ?_
      refine gV0 (Y := mX6_step) (ci := 6) (N := 35) dX6_drain_11 mlX6_223 vkX6_step (by first | rfl | assumption) ⟨by decide, rfl⟩ rfl g1 ?_
      refine r_istore_n2 dX6_drain_14 rfl (Nat.le_of_ble_eq_true rfl) ?_
      refine r_iload_n dX6_drain_15 rfl rfl ?_
      refine r_iload_n dX6_drain_16 rfl rfl ?_
      refine r_if_lt 24 dX6_drain_17 (by decide) (fun c_17 => absurd c_17 (nI_pos (by omega))) (fun c_17 => ?_)
      refine r_iconst 1 dX6_drain_20 (by decide) ?_
      refine r_goto 25 dX6_drain_21 (by decide) ?_
      refine r_iadd dX6_drain_25 ?_
      refine r_istore_n1 dX6_drain_26 rfl (Nat.le_of_ble_eq_true rfl) ?_
      refine r_goto 2 dX6_drain_27 (by decide) ?_
      rw [nI_1]
      exact r_weak (by simp [lvle] <;> (repeat' apply And.intro) <;> first | rfl | decide) w'
