theorem lpC_ok {P : PL} {kd tg fi : Nat} : ∀ (e k : Nat) (v : LSt) (d : DSt) (f : Nat → Int32), fi + k + e ≤ 32 → okD d → okD (lpC P kd tg fi e k v d f).2.1
  | 0, k, v, d, f, _, h => h
  | e + 1, k, v, d, f, hk, h => by
    simp only [lpC]
    generalize dl P (pNum tg (if kd = 0 then rds d (fi + k) else f k)) 6 4 v = q
    split
    · refine lpC_ok e (k + 1) _ _ _ (by omega) ?_
      split
      · exact h
      · split
        · exact wrt_ok h (by omega)
        · exact thr_ok h
    · exact h
theorem cmdT_ok {P : PL} {T : TSt} {v : LSt} {d : DSt} {t : Nat} (hT : okT T) (h : okD d) (ht : t < 8) (hs : T.1 t = 1) : okD (cmdT P T v d t).2.1 := by
  obtain ⟨o1, o2, o3, o4, o5, o6, o7, o8⟩ := hT t ht
  unfold cmdT cmd
  generalize dl P (pOrd (T.2.1 t) t (T.2.2.1 t) (T.2.2.2.1 t)) 5 4 v = q
  split
  · split
    · exact h
    · rename_i hl
      have h2 : okD (lpC P (T.2.1 t) t (T.2.2.1 t) (T.2.2.2.1 t) 0 q.1 d (T.2.2.2.2.2.2 t)).2.1 := by
        by_cases h3 : T.2.1 t = 3
        · rw [o5 h3]
          exact h
        · refine lpC_ok _ _ _ _ _ ?_ h
          unfold lastN at hl
          rw [if_neg h3] at hl
          have := o6 (by omega) h3
          omega
      generalize lpC P (T.2.1 t) t (T.2.2.1 t) (T.2.2.2.1 t) 0 q.1 d (T.2.2.2.2.2.2 t) = r at h2
      unfold cmd2
      generalize dl P (pAns t 0) 3 4 r.1 = q2
      split
      · dsimp only
        split
        · exact lay_ok
        · exact h2
      · exact h2
  · exact h
theorem okSt {P : PL} {s : SSt} (h : okS s) : ∀ t, t < 8 → s.2.2.1.1 t = 1 → okD (cmdT P s.2.2.1 s.1 s.2.1 t).2.1 := fun t ht hs => cmdT_ok h.2.1 h.1 ht hs
def clsL : List Nat := [0, 1, 2, 3, 4, 5, 6, 7, 8, 9, 10, 11, 12, 13, 14, 15, 16, 17, 18, 19, 20, 21, 22, 23, 24, 25, 26, 27, 28, 29, 30, 31, 32, 33, 34, 35, 36, 37, 38, 39]
def modL : List Nat := [40, 41, 42, 43, 44, 45, 46, 47, 48, 49, 50, 51, 52, 53, 54, 55, 56, 57, 58, 59, 60, 61]
/-- the class's own state: THE DRAFT, THE PLAN, disk, link and tags, WAY, how many were ISSUED, what was told -/
def CI (M : Mem) (dn : Nat) (dp : Nat → Int32) (P : PL) (s : SSt) (w is rm : Nat) (rr : Nat → Int32) : Prop := HB M 18 19 dn dp ∧ CAs M P w s ∧ M 0 9 = nI is ∧ ∀ i, i < 4 → M 23 i = if i < rm then rr i else 0
def MI (M : Mem) (dn : Nat) (dp : Nat → Int32) (P : PL) (s : SSt) (w is rm : Nat) (rr : Nat → Int32) : Prop := (M 40 3 = nI dn ∧ ∀ j, j < dn → M 44 j = dp j) ∧ MAs M P w s ∧ M 40 28 = nI is ∧ M 40 31 = nI rm ∧ ∀ i, i < rm → M 61 i = rr i
/-- what holds of the state behind at most c calls -/
def okA (c dn : Nat) (dp : Nat → Int32) (P : PL) (s : SSt) (w is rm : Nat) : Prop := (dn ≤ 12 ∧ ∀ j, j < dn → okB (dp j)) ∧ okP P ∧ okS s ∧ w ≤ 2 ∧ is ≤ c ∧ rm ≤ 4 ∧ s.1.1 ≤ 200 * c ∧ s.1.2.2.2.2.1 ≤ 180
theorem low_mod {b : Nat} (h : b < 40) : b ∉ modL := by unfold modL; simp <;> omega
theorem keepC {M M' : Mem} {dn : Nat} {dp : Nat → Int32} {P : PL} {s : SSt} {w is rm : Nat} {rr : Nat → Int32} (h : CI M dn dp P s w is rm rr) (F : FrS modL [] M M') : CI M' dn dp P s w is rm rr := by
  have a : ∀ b k, b < 40 → M' b k = M b k := fun b k hb => F b k (low_mod hb) (by simp)
  obtain ⟨h1, ⟨⟨c1, c2, c3, c4, c5⟩, c6, c7, c8, c9⟩, h3, h4⟩ := h
  refine ⟨h1.frS F (by decide) (by simp), ⟨⟨c1.frS F (by decide) (by simp), c2.frS F (by decide) (by simp), c3.frS F (by decide) (by simp), c4.frS F (by decide) (by simp), c5.frS F (by decide) (by simp) (by simp)⟩, fun t ht => ?_, fun t ht => ?_, ?_, ?_⟩, ?_, fun i hi => ?_⟩
  · simp only [a _ _ (show 24 + 2 * t < 40 by omega)]
    exact c6 t ht
  · simp only [a _ _ (show 25 + 2 * t < 40 by omega)]
    exact c7 t ht
  · rw [a _ _ (by decide)]; exact c8
  · rw [a _ _ (by decide)]; exact c9
  · rw [a _ _ (by decide)]; exact h3
  · rw [a _ _ (by decide)]; exact h4 i hi
theorem hi_cls {b : Nat} (h : 40 ≤ b) : b ∉ clsL := by unfold clsL; simp <;> omega
theorem keepM {M M' : Mem} {dn : Nat} {dp : Nat → Int32} {P : PL} {s : SSt} {w is rm : Nat} {rr : Nat → Int32} (h : MI M dn dp P s w is rm rr) (F : FrS clsL [] M M') : MI M' dn dp P s w is rm rr := by
  have a : ∀ b k, 40 ≤ b → M' b k = M b k := fun b k hb => F b k (hi_cls hb) (by simp)
  obtain ⟨⟨h1, h2⟩, ⟨⟨c1, c3, c4, c5⟩, c6, c7, c8, c9⟩, h3, h4, h5⟩ := h
  refine ⟨⟨by rw [a _ _ (by decide)]; exact h1, fun j hj => by rw [a _ _ (by decide)]; exact h2 j hj⟩, ⟨⟨c1.frS F (by decide) (by simp), c3.frS F (by decide) (by simp) (by simp), c4.frS F (by decide) (by simp) (by simp), c5.frS F (by decide) (by simp) (by simp)⟩, fun t ht => ?_, fun t ht => ?_, ?_, ?_⟩, ?_, ?_, fun i hi => ?_⟩
  · simp only [a 54 _ (by decide), a 55 _ (by decide), a 56 _ (by decide), a 57 _ (by decide), a 59 _ (by decide), a 60 _ (by decide)]
    exact c6 t ht
  · simp only [a 58 _ (by decide)]
    exact c7 t ht
  · rw [a _ _ (by decide)]; exact c8
  · rw [a _ _ (by decide)]; exact c9
  · rw [a _ _ (by decide)]; exact h3
  · rw [a _ _ (by decide)]; exact h4
  · rw [a _ _ (by decide)]; exact h5 i hi
/-- a call of both, in the law's order: the same answer, and both states follow -/
def Both (X Y : MX) (avs : List Value) : Prop := ∀ (M : Mem) (c dn : Nat) (dp : Nat → Int32) (P : PL) (s : SSt) (w is rm : Nat) (rr : Nat → Int32), c < 600 → CI M dn dp P s w is rm rr → MI M dn dp P s w is rm rr → okA c dn dp P s w is rm →
  ∃ (r : Int32) (M1 M2 : Mem) (dn' : Nat) (dp' : Nat → Int32) (P' : PL) (s' : SSt) (w' is' rm' : Nat) (rr' : Nat → Int32), Gv X (.ref 0 :: avs) M (some (.int r)) M1 ∧ Gv Y (.ref 40 :: avs) M1 (some (.int r)) M2 ∧ CI M2 dn' dp' P' s' w' is' rm' rr' ∧ MI M2 dn' dp' P' s' w' is' rm' rr' ∧ okA (c + 1) dn' dp' P' s' w' is' rm'
theorem okA.up {c dn : Nat} {dp : Nat → Int32} {P : PL} {s : SSt} {w is rm : Nat} (h : okA c dn dp P s w is rm) : okA (c + 1) dn dp P s w is rm := ⟨h.1, h.2.1, h.2.2.1, h.2.2.2.1, by have := h.2.2.2.2.1; omega, h.2.2.2.2.2.1, by have := h.2.2.2.2.2.2.1; omega, h.2.2.2.2.2.2.2⟩
/-- both only tell -/
theorem Both.tell {X Y : MX} {avs : List Value} (h : ∀ (M : Mem) (c dn : Nat) (dp : Nat → Int32) (P : PL) (s : SSt) (w is rm : Nat) (rr : Nat → Int32), c < 600 → CI M dn dp P s w is rm rr → MI M dn dp P s w is rm rr → okA c dn dp P s w is rm → ∃ r, Gv X (.ref 0 :: avs) M (some (.int r)) M ∧ Gv Y (.ref 40 :: avs) M (some (.int r)) M) : Both X Y avs := by
  intro M c dn dp P s w is rm rr hc h1 h2 ok
  obtain ⟨r, g1, g2⟩ := h M c dn dp P s w is rm rr hc h1 h2 ok
  exact ⟨r, M, M, dn, dp, P, s, w, is, rm, rr, g1, g2, h1, h2, ok.up⟩
/-- both do -/
theorem Both.do {X Y : MX} {avs : List Value} (h : ∀ (M : Mem) (c dn : Nat) (dp : Nat → Int32) (P : PL) (s : SSt) (w is rm : Nat) (rr : Nat → Int32), c < 600 → CI M dn dp P s w is rm rr → okA c dn dp P s w is rm → ∃ (r : Int32) (M1 : Mem) (dn' : Nat) (dp' : Nat → Int32) (P' : PL) (s' : SSt) (w' is' rm' : Nat) (rr' : Nat → Int32), Gv X (.ref 0 :: avs) M (some (.int r)) M1 ∧ CI M1 dn' dp' P' s' w' is' rm' rr' ∧ FrS clsL [] M M1 ∧ okA (c + 1) dn' dp' P' s' w' is' rm' ∧
    ∀ M1, MI M1 dn dp P s w is rm rr → ∃ M2, Gv Y (.ref 40 :: avs) M1 (some (.int r)) M2 ∧ MI M2 dn' dp' P' s' w' is' rm' rr' ∧ FrS modL [] M1 M2) : Both X Y avs := by
  intro M c dn dp P s w is rm rr hc h1 h2 ok
  obtain ⟨r, M1, dn', dp', P', s', w', is', rm', rr', g1, i1, F1, ok', hm⟩ := h M c dn dp P s w is rm rr hc h1 ok
  obtain ⟨M2, g2, i2, F2⟩ := hm M1 (keepM h2 F1)
  exact ⟨r, M1, M2, dn', dp', P', s', w', is', rm', rr', g1, g2, keepC i1 F2, i2, ok'⟩
set_option maxHeartbeats 600000 in
set_option maxRecDepth 100000 in
theorem B_encode {x : Int32} {e : Bool} : Both mX5_encode mX6_encode [.int x, .int (eI e)] := Both.tell (fun M c dn dp P s w is rm rr hc h1 h2 ok => ⟨_, x_encode h1.2.1.1.1, m_encode h2.2.1.1.1⟩)
set_option maxHeartbeats 600000 in
set_option maxRecDepth 100000 in
theorem B_decode {x : Int32} {e : Bool} : Both mX5_decode mX6_decode [.int x, .int (eI e)] := Both.tell (fun M c dn dp P s w is rm rr hc h1 h2 ok => ⟨_, x_decode h1.2.1.1.1, m_decode h2.2.1.1.1⟩)
set_option maxHeartbeats 600000 in
set_option maxRecDepth 100000 in
theorem x_check {M : Mem} {n : Nat} {p : Nat → Int32} (H : HB M 18 19 n p) : Gv mX5_check [.ref 0] M (some (.int (crcN p n))) M := by
  have gs := b_size (M := M) isBy18
  rw [H.1] at gs
  have gc := b_checksum isBy18 (M := M) H.1 H.2.1 (Nat.le_refl n)
  rw [crcN_congr (f := M 19) (g := p) n (fun j q => H.2.2 j q)] at gc
  refine con_of (lv := [some (.ref 0)]) (by decide) rfl (Nat.le_of_ble_eq_true rfl) (by simp [lvle]) ?_
  refine r_aload_n dX5_check_0 rfl rfl ?_
  refine r_getR (N := 10) dX5_check_1 fwX5_35 (by first | rfl | assumption) (Nat.le_of_ble_eq_true rfl) rfl (by first | rfl | assumption) ?_
  refine r_aload_n dX5_check_4 rfl rfl ?_
  refine r_getR (N := 10) dX5_check_5 fwX5_35 (by first | rfl | assumption) (Nat.le_of_ble_eq_true rfl) rfl (by first | rfl | assumption) ?_
  refine gV0 (Y := mX0_size) (ci := 0) (N := 2) dX5_check_8 mlX5_66 vkX0_size (by first | rfl | assumption) ⟨by decide, rfl⟩ rfl gs ?_
  refine gV1 (Y := mX0_checksum) (ci := 0) (N := 2) dX5_check_11 mlX5_73 vkX0_checksum (by first | rfl | assumption) ⟨by decide, rfl⟩ rfl gc ?_
  refine r_ireturn dX5_check_14 rfl (Nat.zero_le _) (Nat.zero_le _) ?_
  exact ⟨rfl, rfl⟩
set_option maxHeartbeats 600000 in
set_option maxRecDepth 100000 in
theorem m_check {M : Mem} {n : Nat} {p : Nat → Int32} (hn : n ≤ 12) (h1 : M 40 3 = nI n) (h2 : ∀ j, j < n → M 44 j = p j) : Gv mX6_check [.ref 40] M (some (.int (crcN p n))) M := by
  have hck := m_checkOf (M := M) (r := 44) (fr := 0) (n := n) (N := 12) rfl (by omega) (by decide)
  rw [show (fun q => M 44 (0 + q)) = M 44 by funext q; rw [Nat.zero_add], crcN_congr (f := M 44) (g := p) n h2] at hck
  refine con_of (lv := [some (.ref 40)]) (by decide) rfl (Nat.le_of_ble_eq_true rfl) (by simp [lvle]) ?_
  refine r_aload_n dX6_check_0 rfl rfl ?_
  refine r_getR (N := 35) dX6_check_1 fwX6_19 (by first | rfl | assumption) (Nat.le_of_ble_eq_true rfl) rfl (by first | rfl | assumption) ?_
  refine r_iconst 0 dX6_check_4 (by decide) ?_
  refine r_aload_n dX6_check_5 rfl rfl ?_
  refine r_getI (N := 35) dX6_check_6 fwX6_95 (by first | rfl | assumption) (Nat.le_of_ble_eq_true rfl) rfl ?_
  rw [h1]
  refine gS3 (Y := mX6_checkOf) dX6_check_9 mlX6_105 ckX6_checkOf skX6_checkOf rfl hck ?_
  refine r_ireturn dX6_check_12 rfl (Nat.zero_le _) (Nat.zero_le _) ?_
  exact ⟨rfl, rfl⟩
theorem B_check : Both mX5_check mX6_check [] := Both.tell (fun M c dn dp P s w is rm rr hc h1 h2 ok => ⟨_, x_check h1.1, m_check ok.1.1 h2.1.1 h2.1.2⟩)
set_option maxHeartbeats 600000 in
set_option maxRecDepth 100000 in
theorem B_wire {x : Int32} : Both mX5_wire mX6_wire [.int x] := by
  refine Both.tell (fun M c dn dp P s w is rm rr hc h1 h2 ok => ?_)
  obtain ⟨-, -, -, -, v5, v6⟩ := h1.2.1.1.2.2.1
  obtain ⟨-, -, -, -, m5, m6⟩ := h2.2.1.1.2.1
  have hb := ok.2.2.2.2.2.2.2
  generalize s.1.2.2.2.2.1 = nb at v5 v6 m5 m6 hb
  rcases ix3 x nb (by omega) with h | ⟨j, hj, rfl⟩
  · refine ⟨-2, ?_, ?_⟩
    · have g : Gv mX4_bitAt [.ref 4, .int x] M (some (.int (-2))) M := by
        refine con_of (lv := [some (.ref 4), some (.int x)]) (by decide) rfl (Nat.le_of_ble_eq_true rfl) (by simp [lvle]) ?_
        refine r_iload_n dX4_bitAt_0 rfl rfl ?_
        refine r_if_lt 21 dX4_bitAt_1 (by decide) (fun c_1 => ?_) (fun c_1 => ?_)
        · refine r_bipush (-2) dX4_bitAt_21 (by decide) ?_
          refine r_ireturn dX4_bitAt_23 rfl (Nat.zero_le _) (Nat.zero_le _) ?_
          exact ⟨rfl, rfl⟩
        · refine r_iload_n dX4_bitAt_4 rfl rfl ?_
          refine r_aload_n dX4_bitAt_5 rfl rfl ?_
          refine r_getI (N := 13) dX4_bitAt_6 fwX4_43 (by first | rfl | assumption) (Nat.le_of_ble_eq_true rfl) rfl ?_
          rw [v5]
          refine r_icmp_ge 21 dX4_bitAt_9 (by decide) (fun c_9 => ?_) (fun c_9 => absurd h (fun q => q.elim c_1 c_9))
          refine r_bipush (-2) dX4_bitAt_21 (by decide) ?_
          refine r_ireturn dX4_bitAt_23 rfl (Nat.zero_le _) (Nat.zero_le _) ?_
          exact ⟨rfl, rfl⟩
      refine con_of (lv := [some (.ref 0), some (.int x)]) (by decide) rfl (Nat.le_of_ble_eq_true rfl) (by simp [lvle]) ?_
      refine r_aload_n dX5_wire_0 rfl rfl ?_
      refine r_getR (N := 10) dX5_wire_1 fwX5_21 (by first | rfl | assumption) (Nat.le_of_ble_eq_true rfl) rfl (by first | rfl | assumption) ?_
      refine r_iload_n dX5_wire_4 rfl rfl ?_
      refine gV1 (Y := mX4_bitAt) (ci := 4) (N := 13) dX5_wire_5 mlX5_84 vkX4_bitAt (by first | rfl | assumption) ⟨by decide, rfl⟩ rfl g ?_
      refine r_ireturn dX5_wire_8 rfl (Nat.zero_le _) (Nat.zero_le _) ?_
      exact ⟨rfl, rfl⟩
    · have hf : x < 0 ∨ M 40 12 - 1 < x := by
        rcases h with q | q
        · exact Or.inl q
        · rcases Nat.eq_zero_or_pos nb with z | z
          · rw [m5, z]
            rcases Decidable.em (x < 0) with y | y
            · exact Or.inl y
            · refine Or.inr ?_
              rw [i_lt] at y ⊢
              rw [i_0] at y
              have : (nI 0 - 1).toInt = -1 := by decide
              omega
          · refine Or.inr ?_
            rw [m5, show nI nb - 1 = nI (nb - 1) from pk_sub (a := nb) (b := 1) z, i_lt, nI_toInt (by omega)]
            rw [i_le, nI_toInt (by omega)] at q
            omega
      refine con_of (lv := [some (.ref 40), some (.int x)]) (by decide) rfl (Nat.le_of_ble_eq_true rfl) (by simp [lvle]) ?_
      refine r_iload_n dX6_wire_0 rfl rfl ?_
      refine r_iconst 0 dX6_wire_1 (by decide) ?_
      refine r_aload_n dX6_wire_2 rfl rfl ?_
      refine r_getI (N := 35) dX6_wire_3 fwX6_118 (by first | rfl | assumption) (Nat.le_of_ble_eq_true rfl) rfl ?_
      refine r_iconst 1 dX6_wire_6 (by decide) ?_
      refine r_isub dX6_wire_7 ?_
      refine gS3 (Y := mX6_in) dX6_wire_8 mlX6_81 ckX6_in skX6_in rfl (m_in_f hf) ?_
      refine r_if_eq 23 dX6_wire_11 (by decide) (fun c_11 => ?_) (fun c_11 => absurd rfl c_11)
      refine r_bipush (-2) dX6_wire_23 (by decide) ?_
      refine r_ireturn dX6_wire_25 rfl (Nat.zero_le _) (Nat.zero_le _) ?_
      exact ⟨rfl, rfl⟩
  · have hcl : (nI j).toNatClampNeg = j := nI_clamp (by omega)
    refine ⟨s.1.2.2.2.2.2 j, ?_, ?_⟩
    · have g : Gv mX4_bitAt [.ref 4, .int (nI j)] M (some (.int (s.1.2.2.2.2.2 j))) M := by
        refine con_of (lv := [some (.ref 4), some (.int (nI j))]) (by decide) rfl (Nat.le_of_ble_eq_true rfl) (by simp [lvle]) ?_
        refine r_iload_n dX4_bitAt_0 rfl rfl ?_
        refine r_if_lt 21 dX4_bitAt_1 (by decide) (fun c_1 => absurd c_1 (nI_pos (by omega))) (fun c_1 => ?_)
        refine r_iload_n dX4_bitAt_4 rfl rfl ?_
        refine r_aload_n dX4_bitAt_5 rfl rfl ?_
        refine r_getI (N := 13) dX4_bitAt_6 fwX4_43 (by first | rfl | assumption) (Nat.le_of_ble_eq_true rfl) rfl ?_
        rw [v5]
        refine r_icmp_ge 21 dX4_bitAt_9 (by decide) (fun c_9 => absurd c_9 (nI_ge hj (by omega))) (fun c_9 => ?_)
        refine r_aload_n dX4_bitAt_12 rfl rfl ?_
        refine r_getR (N := 13) dX4_bitAt_13 fwX4_25 (by first | rfl | assumption) (Nat.le_of_ble_eq_true rfl) rfl (by first | rfl | assumption) ?_
        refine r_iload_n dX4_bitAt_16 rfl rfl ?_
        refine r_iaload dX4_bitAt_17 (by first | rfl | assumption) (by exact vp_in_nI (by omega) (by decide)) ?_
        refine r_goto 23 dX4_bitAt_18 (by decide) ?_
        refine r_ireturn dX4_bitAt_23 rfl (Nat.zero_le _) (Nat.zero_le _) ?_
        rw [hcl, v6 j hj]
        exact ⟨rfl, rfl⟩
      refine con_of (lv := [some (.ref 0), some (.int (nI j))]) (by decide) rfl (Nat.le_of_ble_eq_true rfl) (by simp [lvle]) ?_
      refine r_aload_n dX5_wire_0 rfl rfl ?_
      refine r_getR (N := 10) dX5_wire_1 fwX5_21 (by first | rfl | assumption) (Nat.le_of_ble_eq_true rfl) rfl (by first | rfl | assumption) ?_
      refine r_iload_n dX5_wire_4 rfl rfl ?_
      refine gV1 (Y := mX4_bitAt) (ci := 4) (N := 13) dX5_wire_5 mlX5_84 vkX4_bitAt (by first | rfl | assumption) ⟨by decide, rfl⟩ rfl g ?_
      refine r_ireturn dX5_wire_8 rfl (Nat.zero_le _) (Nat.zero_le _) ?_
      exact ⟨rfl, rfl⟩
    · have ht : ¬ M 40 12 - 1 < nI j := by
        rw [m5, show nI nb - 1 = nI (nb - 1) from pk_sub (a := nb) (b := 1) (by omega)]
        exact nI_nlt (by omega) (by omega)
      refine con_of (lv := [some (.ref 40), some (.int (nI j))]) (by decide) rfl (Nat.le_of_ble_eq_true rfl) (by simp [lvle]) ?_
      refine r_iload_n dX6_wire_0 rfl rfl ?_
      refine r_iconst 0 dX6_wire_1 (by decide) ?_
      refine r_aload_n dX6_wire_2 rfl rfl ?_
      refine r_getI (N := 35) dX6_wire_3 fwX6_118 (by first | rfl | assumption) (Nat.le_of_ble_eq_true rfl) rfl ?_
      refine r_iconst 1 dX6_wire_6 (by decide) ?_
      refine r_isub dX6_wire_7 ?_
      refine gS3 (Y := mX6_in) dX6_wire_8 mlX6_81 ckX6_in skX6_in rfl (m_in_t (nI_pos (by omega)) ht) ?_
      refine r_if_eq 23 dX6_wire_11 (by decide) (fun c_11 => absurd c_11 (by decide)) (fun c_11 => ?_)
      refine r_aload_n dX6_wire_14 rfl rfl ?_
      refine r_getR (N := 35) dX6_wire_15 fwX6_31 (by first | rfl | assumption) (Nat.le_of_ble_eq_true rfl) rfl (by first | rfl | assumption) ?_
      refine r_iload_n dX6_wire_18 rfl rfl ?_
      refine r_iaload dX6_wire_19 (by first | rfl | assumption) (by exact vp_in_nI (by omega) (by decide)) ?_
      refine r_goto 25 dX6_wire_20 (by decide) ?_
      refine r_ireturn dX6_wire_25 rfl (Nat.zero_le _) (Nat.zero_le _) ?_
      rw [hcl, m6 j hj]
      exact ⟨rfl, rfl⟩
set_option maxHeartbeats 600000 in
set_option maxRecDepth 100000 in
theorem B_finding {x : Int32} : Both mX5_finding mX6_finding [.int x] := by
  refine Both.tell (fun M c dn dp P s w is rm rr hc h1 h2 ok => ?_)
  obtain ⟨v1, v2, -⟩ := h1.2.1.1.2.2.1
  obtain ⟨m1, m2, -⟩ := h2.2.1.1.2.1
  have hb := ok.2.2.2.2.2.2.1
  generalize s.1.1 = fr at v1 m1 hb
  rcases ix3 x 16 (by decide) with h | ⟨j, hj, rfl⟩
  · refine ⟨-2, ?_, ?_⟩
    · have g : Gv mX4_findingFromEnd [.ref 4, .int x] M (some (.int (-2))) M := by
        refine con_of (lv := [some (.ref 4), some (.int x)]) (by decide) rfl (Nat.le_of_ble_eq_true rfl) (by simp [lvle]) ?_
        refine r_iload_n dX4_findingFromEnd_0 rfl rfl ?_
        refine r_if_lt 18 dX4_findingFromEnd_1 (by decide) (fun c_1 => ?_) (fun c_1 => ?_)
        · refine r_bipush (-2) dX4_findingFromEnd_18 (by decide) ?_
          refine r_ireturn dX4_findingFromEnd_20 rfl (Nat.zero_le _) (Nat.zero_le _) ?_
          exact ⟨rfl, rfl⟩
        · refine r_iload_n dX4_findingFromEnd_4 rfl rfl ?_
          refine r_bipush 16 dX4_findingFromEnd_5 (by decide) ?_
          refine r_icmp_ge 18 dX4_findingFromEnd_7 (by decide) (fun c_7 => ?_) (fun c_7 => absurd h (fun q => q.elim c_1 c_7))
          refine r_bipush (-2) dX4_findingFromEnd_18 (by decide) ?_
          refine r_ireturn dX4_findingFromEnd_20 rfl (Nat.zero_le _) (Nat.zero_le _) ?_
          exact ⟨rfl, rfl⟩
      refine con_of (lv := [some (.ref 0), some (.int x)]) (by decide) rfl (Nat.le_of_ble_eq_true rfl) (by simp [lvle]) ?_
      refine r_aload_n dX5_finding_0 rfl rfl ?_
      refine r_getR (N := 10) dX5_finding_1 fwX5_21 (by first | rfl | assumption) (Nat.le_of_ble_eq_true rfl) rfl (by first | rfl | assumption) ?_
      refine r_iload_n dX5_finding_4 rfl rfl ?_
      refine gV1 (Y := mX4_findingFromEnd) (ci := 4) (N := 13) dX5_finding_5 mlX5_87 vkX4_findingFromEnd (by first | rfl | assumption) ⟨by decide, rfl⟩ rfl g ?_
      refine r_ireturn dX5_finding_8 rfl (Nat.zero_le _) (Nat.zero_le _) ?_
      exact ⟨rfl, rfl⟩
    · have hf : x < 0 ∨ 15 < x := h.imp id (fun q => by rw [i_le] at q; rw [i_lt]; exact Int.lt_of_lt_of_le (by decide) q)
      refine con_of (lv := [some (.ref 40), some (.int x)]) (by decide) rfl (Nat.le_of_ble_eq_true rfl) (by simp [lvle]) ?_
      refine r_iload_n dX6_finding_0 rfl rfl ?_
      refine r_iconst 0 dX6_finding_1 (by decide) ?_
      refine r_bipush 15 dX6_finding_2 (by decide) ?_
      refine gS3 (Y := mX6_in) dX6_finding_4 mlX6_81 ckX6_in skX6_in rfl (m_in_f hf) ?_
      refine r_if_eq 37 dX6_finding_7 (by decide) (fun c_7 => ?_) (fun c_7 => absurd rfl c_7)
      refine r_bipush (-2) dX6_finding_37 (by decide) ?_
      refine r_ireturn dX6_finding_39 rfl (Nat.zero_le _) (Nat.zero_le _) ?_
      exact ⟨rfl, rfl⟩
  · have h0 : ¬ nI j < 0 := nI_pos (by omega)
    have h16 : ¬ (16 : Int32) ≤ nI j := nI_ge (a := j) (b := 16) hj (by decide)
    have h15 : ¬ (15 : Int32) < nI j := nI_nlt (a := 15) (b := j) (by omega) (by omega)
    by_cases hjf : j < fr
    · have e1 : nI fr - 1 - nI j = nI (fr - 1 - j) := by rw [show nI fr - 1 = nI (fr - 1) from pk_sub (a := fr) (b := 1) (by omega)]; exact pk_sub (by omega)
      have hlt : (fr - 1 - j) % 16 < 16 := Nat.mod_lt _ (by decide)
      have hcl : (nI ((fr - 1 - j) % 16)).toNatClampNeg = (fr - 1 - j) % 16 := nI_clamp (by omega)
      have gp := x_place (M := M) (f := fr - 1 - j) (by omega)
      have hrem : nI (fr - 1 - j) - nI (fr - 1 - j) / 16 * 16 = nI ((fr - 1 - j) % 16) := pk_rem (a := fr - 1 - j) (d := 16) (by omega) (by decide) (by decide)
      refine ⟨s.1.2.1 ((fr - 1 - j) % 16), ?_, ?_⟩
      · have g : Gv mX4_findingFromEnd [.ref 4, .int (nI j)] M (some (.int (s.1.2.1 ((fr - 1 - j) % 16)))) M := by
          refine con_of (lv := [some (.ref 4), some (.int (nI j))]) (by decide) rfl (Nat.le_of_ble_eq_true rfl) (by simp [lvle]) ?_
          refine r_iload_n dX4_findingFromEnd_0 rfl rfl ?_
          refine r_if_lt 18 dX4_findingFromEnd_1 (by decide) (fun c_1 => absurd c_1 h0) (fun c_1 => ?_)
          refine r_iload_n dX4_findingFromEnd_4 rfl rfl ?_
          refine r_bipush 16 dX4_findingFromEnd_5 (by decide) ?_
          refine r_icmp_ge 18 dX4_findingFromEnd_7 (by decide) (fun c_7 => absurd c_7 h16) (fun c_7 => ?_)
          refine r_iload_n dX4_findingFromEnd_10 rfl rfl ?_
          refine r_aload_n dX4_findingFromEnd_11 rfl rfl ?_
          refine r_getI (N := 13) dX4_findingFromEnd_12 fwX4_47 (by first | rfl | assumption) (Nat.le_of_ble_eq_true rfl) rfl ?_
          rw [v1]
          refine r_icmp_lt 21 dX4_findingFromEnd_15 (by decide) (fun c_15 => ?_) (fun c_15 => absurd (nI_lt hjf (by omega)) c_15)
          refine r_aload_n dX4_findingFromEnd_21 rfl rfl ?_
          refine r_getR (N := 13) dX4_findingFromEnd_22 fwX4_34 (by first | rfl | assumption) (Nat.le_of_ble_eq_true rfl) rfl (by first | rfl | assumption) ?_
          refine r_aload_n dX4_findingFromEnd_25 rfl rfl ?_
          refine r_aload_n dX4_findingFromEnd_26 rfl rfl ?_
          refine r_getI (N := 13) dX4_findingFromEnd_27 fwX4_47 (by first | rfl | assumption) (Nat.le_of_ble_eq_true rfl) rfl ?_
          refine r_iconst 1 dX4_findingFromEnd_30 (by decide) ?_
          refine r_isub dX4_findingFromEnd_31 ?_
          refine r_iload_n dX4_findingFromEnd_32 rfl rfl ?_
          refine r_isub dX4_findingFromEnd_33 ?_
          rw [v1, e1]
          refine gV1 (Y := mX4_placeOfFinding) (ci := 4) (N := 13) dX4_findingFromEnd_34 mlX4_50 vkX4_placeOfFinding (by first | rfl | assumption) ⟨by decide, rfl⟩ rfl gp ?_
          refine r_iaload dX4_findingFromEnd_37 (by first | rfl | assumption) (by exact vp_in_nI hlt (by decide)) ?_
          refine r_ireturn dX4_findingFromEnd_38 rfl (Nat.zero_le _) (Nat.zero_le _) ?_
          rw [hcl, v2 _ hlt]
          exact ⟨rfl, rfl⟩
        refine con_of (lv := [some (.ref 0), some (.int (nI j))]) (by decide) rfl (Nat.le_of_ble_eq_true rfl) (by simp [lvle]) ?_
        refine r_aload_n dX5_finding_0 rfl rfl ?_
        refine r_getR (N := 10) dX5_finding_1 fwX5_21 (by first | rfl | assumption) (Nat.le_of_ble_eq_true rfl) rfl (by first | rfl | assumption) ?_
        refine r_iload_n dX5_finding_4 rfl rfl ?_
        refine gV1 (Y := mX4_findingFromEnd) (ci := 4) (N := 13) dX5_finding_5 mlX5_87 vkX4_findingFromEnd (by first | rfl | assumption) ⟨by decide, rfl⟩ rfl g ?_
        refine r_ireturn dX5_finding_8 rfl (Nat.zero_le _) (Nat.zero_le _) ?_
        exact ⟨rfl, rfl⟩
      · refine con_of (lv := [some (.ref 40), some (.int (nI j))]) (by decide) rfl (Nat.le_of_ble_eq_true rfl) (by simp [lvle]) ?_
        refine r_iload_n dX6_finding_0 rfl rfl ?_
        refine r_iconst 0 dX6_finding_1 (by decide) ?_
        refine r_bipush 15 dX6_finding_2 (by decide) ?_
        refine gS3 (Y := mX6_in) dX6_finding_4 mlX6_81 ckX6_in skX6_in rfl (m_in_t h0 h15) ?_
        refine r_if_eq 37 dX6_finding_7 (by decide) (fun c_7 => absurd c_7 (by decide)) (fun c_7 => ?_)
        refine r_iload_n dX6_finding_10 rfl rfl ?_
        refine r_aload_n dX6_finding_11 rfl rfl ?_
        refine r_getI (N := 35) dX6_finding_12 fwX6_135 (by first | rfl | assumption) (Nat.le_of_ble_eq_true rfl) rfl ?_
        rw [m1]
        refine r_icmp_ge 37 dX6_finding_15 (by decide) (fun c_15 => absurd c_15 (nI_ge hjf (by omega))) (fun c_15 => ?_)
        refine r_aload_n dX6_finding_18 rfl rfl ?_
        refine r_getR (N := 35) dX6_finding_19 fwX6_28 (by first | rfl | assumption) (Nat.le_of_ble_eq_true rfl) rfl (by first | rfl | assumption) ?_
        refine r_aload_n dX6_finding_22 rfl rfl ?_
        refine r_getI (N := 35) dX6_finding_23 fwX6_135 (by first | rfl | assumption) (Nat.le_of_ble_eq_true rfl) rfl ?_
        refine r_iconst 1 dX6_finding_26 (by decide) ?_
        refine r_isub dX6_finding_27 ?_
        refine r_iload_n dX6_finding_28 rfl rfl ?_
        refine r_isub dX6_finding_29 ?_
        rw [m1, e1]
        refine r_bipush 16 dX6_finding_30 (by decide) ?_
        refine r_irem dX6_finding_32 (by decide) ?_
        rw [hrem]
        refine r_iaload dX6_finding_33 (by first | rfl | assumption) (by exact vp_in_nI hlt (by decide)) ?_
        refine r_goto 39 dX6_finding_34 (by decide) ?_
        refine r_ireturn dX6_finding_39 rfl (Nat.zero_le _) (Nat.zero_le _) ?_
        rw [hcl, m2 _ hlt]
        exact ⟨rfl, rfl⟩
    · refine ⟨-2, ?_, ?_⟩
      · have g : Gv mX4_findingFromEnd [.ref 4, .int (nI j)] M (some (.int (-2))) M := by
          refine con_of (lv := [some (.ref 4), some (.int (nI j))]) (by decide) rfl (Nat.le_of_ble_eq_true rfl) (by simp [lvle]) ?_
          refine r_iload_n dX4_findingFromEnd_0 rfl rfl ?_
          refine r_if_lt 18 dX4_findingFromEnd_1 (by decide) (fun c_1 => absurd c_1 h0) (fun c_1 => ?_)
          refine r_iload_n dX4_findingFromEnd_4 rfl rfl ?_
          refine r_bipush 16 dX4_findingFromEnd_5 (by decide) ?_
          refine r_icmp_ge 18 dX4_findingFromEnd_7 (by decide) (fun c_7 => absurd c_7 h16) (fun c_7 => ?_)
          refine r_iload_n dX4_findingFromEnd_10 rfl rfl ?_
          refine r_aload_n dX4_findingFromEnd_11 rfl rfl ?_
          refine r_getI (N := 13) dX4_findingFromEnd_12 fwX4_47 (by first | rfl | assumption) (Nat.le_of_ble_eq_true rfl) rfl ?_
          rw [v1]
          refine r_icmp_lt 21 dX4_findingFromEnd_15 (by decide) (fun c_15 => absurd c_15 (nI_nlt (by omega) (by omega))) (fun c_15 => ?_)
          refine r_bipush (-2) dX4_findingFromEnd_18 (by decide) ?_
          refine r_ireturn dX4_findingFromEnd_20 rfl (Nat.zero_le _) (Nat.zero_le _) ?_
          exact ⟨rfl, rfl⟩
        refine con_of (lv := [some (.ref 0), some (.int (nI j))]) (by decide) rfl (Nat.le_of_ble_eq_true rfl) (by simp [lvle]) ?_
        refine r_aload_n dX5_finding_0 rfl rfl ?_
        refine r_getR (N := 10) dX5_finding_1 fwX5_21 (by first | rfl | assumption) (Nat.le_of_ble_eq_true rfl) rfl (by first | rfl | assumption) ?_
        refine r_iload_n dX5_finding_4 rfl rfl ?_
        refine gV1 (Y := mX4_findingFromEnd) (ci := 4) (N := 13) dX5_finding_5 mlX5_87 vkX4_findingFromEnd (by first | rfl | assumption) ⟨by decide, rfl⟩ rfl g ?_
        refine r_ireturn dX5_finding_8 rfl (Nat.zero_le _) (Nat.zero_le _) ?_
        exact ⟨rfl, rfl⟩
      · refine con_of (lv := [some (.ref 40), some (.int (nI j))]) (by decide) rfl (Nat.le_of_ble_eq_true rfl) (by simp [lvle]) ?_
        refine r_iload_n dX6_finding_0 rfl rfl ?_
        refine r_iconst 0 dX6_finding_1 (by decide) ?_
        refine r_bipush 15 dX6_finding_2 (by decide) ?_
        refine gS3 (Y := mX6_in) dX6_finding_4 mlX6_81 ckX6_in skX6_in rfl (m_in_t h0 h15) ?_
        refine r_if_eq 37 dX6_finding_7 (by decide) (fun c_7 => absurd c_7 (by decide)) (fun c_7 => ?_)
        refine r_iload_n dX6_finding_10 rfl rfl ?_
        refine r_aload_n dX6_finding_11 rfl rfl ?_
        refine r_getI (N := 35) dX6_finding_12 fwX6_135 (by first | rfl | assumption) (Nat.le_of_ble_eq_true rfl) rfl ?_
        rw [m1]
        refine r_icmp_ge 37 dX6_finding_15 (by decide) (fun c_15 => ?_) (fun c_15 => absurd (nI_le (by omega) (by omega)) c_15)
        refine r_bipush (-2) dX6_finding_37 (by decide) ?_
        refine r_ireturn dX6_finding_39 rfl (Nat.zero_le _) (Nat.zero_le _) ?_
        exact ⟨rfl, rfl⟩
