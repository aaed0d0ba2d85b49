def bigC : List Nat := [6, 7, 8, 9, 10, 13, 15, 16, 17, 20, 21, 24, 25, 26, 27, 28, 29, 30, 31, 32, 33, 34, 35, 36, 37, 38, 39]
def bigS : List (Nat × Nat) := [(4, 5), (4, 10), (4, 11), (4, 12), (14, 3), (0, 8)]
def bigC' : List Nat := [47, 48, 49, 50, 51, 52, 53, 54, 58, 60]
def bigS' : List (Nat × Nat) := [(40, 12), (40, 34), (40, 33), (40, 8), (40, 9), (40, 10), (40, 14), (40, 18), (40, 30)]
theorem memC {t : Nat} (ht : t < 8) : 24 + 2 * t ∈ bigC ∧ 25 + 2 * t ∈ bigC := by
  have : t = 0 ∨ t = 1 ∨ t = 2 ∨ t = 3 ∨ t = 4 ∨ t = 5 ∨ t = 6 ∨ t = 7 := by omega
  rcases this with rfl | rfl | rfl | rfl | rfl | rfl | rfl | rfl <;> decide
def NC (M : Mem) (T : TSt) : Prop := ∀ t, t < 8 → (T.1 t = 1 → T.2.1 t ≠ 0 → T.2.1 t ≠ 3 → ∀ j, j < 4 → M (25 + 2 * t) j = T.2.2.2.2.2.2 t j) ∧ (T.1 t = 2 → T.2.1 t = 0 → T.2.2.2.2.2.1 t = 0 → ∀ j, j < T.2.2.2.1 t → M (25 + 2 * t) j = T.2.2.2.2.2.2 t j)
def NM (M : Mem) (T : TSt) : Prop := ∀ t, t < 8 → (T.1 t = 1 → T.2.1 t ≠ 0 → T.2.1 t ≠ 3 → ∀ j, j < 4 → M 58 (4 * t + j) = T.2.2.2.2.2.2 t j) ∧ (T.1 t = 2 → T.2.1 t = 0 → T.2.2.2.2.2.1 t = 0 → ∀ j, j < T.2.2.2.1 t → M 58 (4 * t + j) = T.2.2.2.2.2.2 t j)
def CA (M : Mem) (v : LSt) (d : DSt) (P : PL) (T : TSt) (w l : Nat) : Prop := CS M v d P ∧ TC M T ∧ NC M T ∧ M 0 7 = nI w ∧ M 0 8 = nI l
def MA (M : Mem) (v : LSt) (d : DSt) (P : PL) (T : TSt) (w l : Nat) : Prop := MS M v d P ∧ TM M T ∧ NM M T ∧ M 40 29 = nI w ∧ M 40 30 = nI l
/-- a command has ended -/
def endT (T : TSt) (t o : Nat) (f : Nat → Int32) : TSt := (va_up T.1 t 2, T.2.1, T.2.2.1, T.2.2.2.1, T.2.2.2.2.1, va_up T.2.2.2.2.2.1 t o, va_up T.2.2.2.2.2.2 t f)
def cmdT (P : PL) (T : TSt) (v : LSt) (d : DSt) (t : Nat) : LSt × DSt × (Nat → Int32) × Nat := cmd P (T.2.1 t) t (T.2.2.1 t) (T.2.2.2.1 t) v d (T.2.2.2.2.2.2 t)
theorem lpC_fr {P : PL} {kd tg fi : Nat} : ∀ (e k : Nat) (v : LSt) (d : DSt) (f : Nat → Int32), (lpC P kd tg fi e k v d f).1.1 ≤ v.1 + 4 * e
  | 0, k, v, d, f => by simp [lpC]
  | e + 1, k, v, d, f => by
    simp only [lpC]
    have h1 := dl_fr P (pNum tg (if kd = 0 then rds d (fi + k) else f k)) 6 4 v
    generalize dl P (pNum tg (if kd = 0 then rds d (fi + k) else f k)) 6 4 v = q at h1 ⊢
    split
    · have := lpC_fr (P := P) (kd := kd) (tg := tg) (fi := fi) e (k + 1) q.1 (if kd = 0 then d else if kd = 1 then wrt d (fi + k) (f k) else thr d (fi + k) (f k)) (if kd = 0 then upd f k (rds d (fi + k)) else f)
      omega
    · dsimp only
      omega
theorem cmd_fr {P : PL} {kd tg fi mn : Nat} {v : LSt} {d : DSt} {f : Nat → Int32} (hmn : mn ≤ 4) : (cmd P kd tg fi mn v d f).1.1 ≤ v.1 + 24 ∧ (cmd P kd tg fi mn v d f).2.2.2 ≤ 2 := by
  unfold cmd
  have h1 := dl_fr P (pOrd kd tg fi mn) 5 4 v
  generalize dl P (pOrd kd tg fi mn) 5 4 v = q at h1 ⊢
  split
  · split
    · have h2 := dl_fr P (pAns tg 2) 3 4 q.1
      generalize dl P (pAns tg 2) 3 4 q.1 = q2 at h2 ⊢
      dsimp only
      refine ⟨by omega, ?_⟩
      split <;> omega
    · have h2 := lpC_fr (P := P) (kd := kd) (tg := tg) (fi := fi) mn 0 q.1 d f
      generalize lpC P kd tg fi mn 0 q.1 d f = q2 at h2 ⊢
      unfold cmd2
      split
      · have h3 := dl_fr P (pAns tg 0) 3 4 q2.1
        generalize dl P (pAns tg 0) 3 4 q2.1 = q3 at h3 ⊢
        dsimp only
        refine ⟨by omega, ?_⟩
        split <;> omega
      · dsimp only
        omega
  · dsimp only
    omega
theorem okT_end {T : TSt} {t o : Nat} {f : Nat → Int32} (h : okT T) (hs : T.1 t = 1) (ho : o ≤ 3) : okT (endT T t o f) := by
  intro a ha
  obtain ⟨h1, h2, h3, h4, h5, h6, h7, h8⟩ := h a ha
  unfold endT
  dsimp only [va_up]
  by_cases hat : a = t
  · subst hat
    rw [if_pos rfl, if_pos rfl]
    exact ⟨by omega, h2, h3, h4, h5, fun _ => h6 (by omega), h7, ho⟩
  · rw [if_neg hat, if_neg hat]
    exact ⟨h1, h2, h3, h4, h5, h6, h7, h8⟩
set_option maxHeartbeats 600000 in
set_option maxRecDepth 100000 in
theorem x_end {c r : Nat} {M : Mem} {o : Int32} (hc : isCm c r) : Gv mX2_end [.ref c, .int o] M none (upd2 (upd2 M c 2 2) c 7 o) := by
  obtain ⟨hc1, hc2, hc3⟩ := hc
  refine con_of (lv := [some (.ref c), some (.int o)]) (by decide) rfl (Nat.le_of_ble_eq_true rfl) (by simp [lvle]) ?_
  refine r_aload_n dX2_end_0 rfl rfl ?_
  refine r_iconst 2 dX2_end_1 (by decide) ?_
  refine r_putI (N := 8) dX2_end_2 fwX2_15 (by first | exact hc1 | exact hc2 | exact hc3 | rfl | exact hB1 | exact hB2 | exact hB3) (Nat.le_of_ble_eq_true rfl) rfl (Or.inl rfl) rfl rfl ?_
  refine r_aload_n dX2_end_5 rfl rfl ?_
  refine r_iload_n dX2_end_6 rfl rfl ?_
  refine r_putI (N := 8) dX2_end_7 fwX2_34 (by first | exact hc1 | exact hc2 | exact hc3 | rfl | exact hB1 | exact hB2 | exact hB3) (Nat.le_of_ble_eq_true rfl) rfl (Or.inl rfl) rfl rfl ?_
  refine r_return dX2_end_10 rfl (Nat.zero_le _) (Nat.zero_le _) ?_
  exact ⟨rfl, rfl⟩
set_option maxHeartbeats 600000 in
set_option maxRecDepth 100000 in
theorem x_step_n {M : Mem} {v : LSt} {d : DSt} {P : PL} {T : TSt} {w l : Nat} (h : CA M v d P T w l) (okt : okT T) (hw2 : w ≤ 2) (hl2 : l < 100000) (hn : nxf w l T 8 = none) : Gv mX5_step [.ref 0] M (some (.int (-4))) M := by
  have g := x_next h.2.1 okt h.2.2.2.1 hw2 h.2.2.2.2 hl2
  rw [hn] at g
  clear hn
  refine con_of (lv := [some (.ref 0), none]) (by decide) rfl (Nat.le_of_ble_eq_true rfl) (by simp [lvle]) ?_
  refine r_aload_n dX5_step_0 rfl rfl ?_
  refine gV0 (Y := mX5_nextCommand) (ci := 5) (N := 10) dX5_step_1 mlX5_110 vkX5_nextCommand (by first | exact hc1 | exact hc2 | exact hc3 | rfl | exact hB1 | exact hB2 | exact hB3) ⟨by decide, rfl⟩ rfl g ?_
  refine r_astore_nN_1 dX5_step_4 rfl (Nat.le_of_ble_eq_true rfl) ?_
  refine r_aload_nN dX5_step_5 rfl rfl ?_
  refine r_ifnonnullN dX5_step_6 ?_
  refine r_bipush (-4) dX5_step_9 (by decide) ?_
  refine r_ireturn dX5_step_11 rfl (Nat.zero_le _) (Nat.zero_le _) ?_
  exact ⟨rfl, rfl⟩
theorem endT_o {T : TSt} {t o a : Nat} {f : Nat → Int32} (h : a ≠ t) : (endT T t o f).1 a = T.1 a ∧ (endT T t o f).2.2.2.2.2.1 a = T.2.2.2.2.2.1 a ∧ (endT T t o f).2.2.2.2.2.2 a = T.2.2.2.2.2.2 a := by
  unfold endT
  dsimp only [va_up]
  exact ⟨if_neg h, if_neg h, if_neg h⟩
theorem endT_s {T : TSt} {t o : Nat} {f : Nat → Int32} : (endT T t o f).1 t = 2 ∧ (endT T t o f).2.2.2.2.2.1 t = o ∧ (endT T t o f).2.2.2.2.2.2 t = f := by
  unfold endT
  dsimp only [va_up]
  exact ⟨if_pos rfl, if_pos rfl, if_pos rfl⟩
set_option maxHeartbeats 600000 in
set_option maxRecDepth 100000 in
theorem x_step_s {M : Mem} {v : LSt} {d : DSt} {P : PL} {T : TSt} {w l t : Nat} (h : CA M v d P T w l) (okt : okT T) (okp : okP P) (okd : okD d) (hw2 : w ≤ 2) (hl2 : l < 100000) (hfr : v.1 + 30 < 2 ^ 31) (hn : nxf w l T 8 = some t) : ∃ M', Gv mX5_step [.ref 0] M (some (.int (nI t))) M' ∧ CA M' (cmdT P T v d t).1 (cmdT P T v d t).2.1 P (endT T t (cmdT P T v d t).2.2.2 (cmdT P T v d t).2.2.1) w (lastN (T.2.1 t) (T.2.2.1 t) (T.2.2.2.1 t)) ∧ okD (cmdT P T v d t).2.1 ∧ FrS bigC bigS M M' := by
  have g := x_next h.2.1 okt h.2.2.2.1 hw2 h.2.2.2.2 hl2
  obtain ⟨ht, hs⟩ := nxf_some 8 t hn
  rw [hn] at g
  clear hn
  obtain ⟨hc1, hc2, hc3⟩ := isCm_t t ht
  obtain ⟨e0, e2, e3, e4, e5, e6, e7⟩ := h.2.1 t ht
  obtain ⟨o1, o2, o3, o4, o5, o6, o7, o8⟩ := okt t ht
  have hla : Gv mX2_lastSector [.ref (24 + 2 * t)] M (some (.int (nI (lastN (T.2.1 t) (T.2.2.1 t) (T.2.2.2.1 t))))) M := by
    have g := x_lastS (M := M) (isCm_t t ht)
    rw [e3, e4, e5] at g
    unfold lastN
    by_cases h3 : T.2.1 t = 3
    · rw [if_pos (by rw [h3]; rfl)] at g
      rw [if_pos h3]
      exact g
    · rw [if_neg (show ¬ nI (T.2.1 t) = 3 from fun z => h3 ((nI_eq (a := T.2.1 t) (b := 3) (by omega) (by decide)).mp z)), nI_add] at g
      rw [if_neg h3]
      have := o6 (by omega) h3
      rw [show nI (T.2.2.1 t + T.2.2.2.1 t) - 1 = nI (T.2.2.1 t + T.2.2.2.1 t - 1) from pk_sub (a := T.2.2.1 t + T.2.2.2.1 t) (b := 1) (by omega)] at g
      exact g
  have F1 : FrS [] [(0, 8)] M (upd2 M 0 8 (nI (lastN (T.2.1 t) (T.2.2.1 t) (T.2.2.2.1 t)))) := FrS.rf.ups (by decide)
  have h1 : CS (upd2 M 0 8 (nI (lastN (T.2.1 t) (T.2.2.1 t) (T.2.2.2.1 t)))) v d P := ⟨h.1.1.frS F1 (by decide) (by decide), h.1.2.1.frS F1 (by decide) (by decide), h.1.2.2.1.frS F1 (by decide) (by decide), h.1.2.2.2.1.frS F1 (by decide) (by decide), h.1.2.2.2.2.frS F1 (by decide) (by decide) (by decide)⟩
  have e8 : (upd2 M 0 8 (nI (lastN (T.2.1 t) (T.2.2.1 t) (T.2.2.2.1 t)))) 0 8 = nI (lastN (T.2.1 t) (T.2.2.1 t) (T.2.2.2.1 t)) := u_ss
  have wpu : ∀ Q, WP mX5_step 20 [some (.ref 0), some (.ref (24 + 2 * t))] [] 0 0 (shp, rfs, upd2 M 0 8 (nI (lastN (T.2.1 t) (T.2.2.1 t) (T.2.2.2.1 t)))) Q → WP mX5_step 0 [some (.ref 0), none] [] 0 0 (shp, rfs, M) Q := by
    intro Q hq
    refine r_aload_n dX5_step_0 rfl rfl ?_
    refine gV0 (Y := mX5_nextCommand) (ci := 5) (N := 10) dX5_step_1 mlX5_110 vkX5_nextCommand (by first | exact hc1 | exact hc2 | exact hc3 | rfl | exact hB1 | exact hB2 | exact hB3) ⟨by decide, rfl⟩ rfl g ?_
    refine r_astore_n1 dX5_step_4 rfl (Nat.le_of_ble_eq_true rfl) ?_
    refine r_aload_n dX5_step_5 rfl rfl ?_
    refine r_ifnonnull 12 dX5_step_6 (by decide) ?_
    refine r_aload_n dX5_step_12 rfl rfl ?_
    refine r_aload_n dX5_step_13 rfl rfl ?_
    refine gV0 (Y := mX2_lastSector) (ci := 2) (N := 8) dX5_step_14 mlX5_114 vkX2_lastSector (by first | exact hc1 | exact hc2 | exact hc3 | rfl | exact hB1 | exact hB2 | exact hB3) ⟨by decide, rfl⟩ rfl hla ?_
    refine r_putI (N := 10) dX5_step_17 fwX5_117 (by first | exact hc1 | exact hc2 | exact hc3 | rfl | exact hB1 | exact hB2 | exact hB3) (Nat.le_of_ble_eq_true rfl) rfl (Or.inl rfl) rfl rfl ?_
    exact hq
  generalize upd2 M 0 8 (nI (lastN (T.2.1 t) (T.2.2.1 t) (T.2.2.2.1 t))) = M1 at F1 h1 e8 wpu
  have cf : CF M1 t (T.2.1 t) (T.2.2.1 t) (T.2.2.2.1 t) := by
    have a : ∀ k, M1 (24 + 2 * t) k = M (24 + 2 * t) k := fun k => F1 _ k (by simp) (by simp <;> omega)
    exact ⟨by rw [a]; exact e0, by rw [a]; exact e3, by rw [a]; exact e4, by rw [a]; exact e5⟩
  obtain ⟨M2, g2, h2, ok2, n2, F2⟩ := x_carryOut (f := T.2.2.2.2.2.2 t) ht o2 o3 o4 o5 (o6 (by omega)) okp cf h1 okd (fun z z3 j hj => by rw [F1 _ j (by simp) (by simp <;> omega)]; exact (h.2.2.1 t ht).1 hs z z3 j hj) hfr
  unfold cmdT
  generalize cmd P (T.2.1 t) t (T.2.2.1 t) (T.2.2.2.1 t) v d (T.2.2.2.2.2.2 t) = r at g2 h2 ok2 n2 ⊢
  obtain ⟨rv, rd, rf, ro⟩ := r
  dsimp only at g2 h2 ok2 n2 ⊢
  have g3 := x_end (M := M2) (o := nI ro) (isCm_t t ht)
  have F3 : FrS [24 + 2 * t] [] M2 (upd2 (upd2 M2 (24 + 2 * t) 2 2) (24 + 2 * t) 7 (nI ro)) := (FrS.rf.upc (by simp)).upc (by simp)
  have h3 : CS (upd2 (upd2 M2 (24 + 2 * t) 2 2) (24 + 2 * t) 7 (nI ro)) rv rd P := ⟨h2.1.frS F3 ⟨by simp <;> omega, by simp <;> omega⟩ (by simp), h2.2.1.frS F3 (by simp <;> omega) (by simp), h2.2.2.1.frS F3 ⟨by simp <;> omega, by simp <;> omega, by simp <;> omega⟩ (by simp), h2.2.2.2.1.frS F3 ⟨by simp <;> omega, by simp <;> omega, by simp <;> omega, by simp <;> omega⟩ (by simp), h2.2.2.2.2.frS F3 ⟨by simp <;> omega, by simp <;> omega, by simp <;> omega⟩ (by simp) (by simp)⟩
  have fo2 : ∀ a, a < 8 → ∀ k, M2 (24 + 2 * a) k = M (24 + 2 * a) k := fun a _ k => by rw [F2 _ k (by unfold fxC; simp <;> omega) (by unfold fxS; simp <;> omega), F1 _ k (by simp) (by simp <;> omega)]
  have fo3 : ∀ a, a < 8 → a ≠ t → ∀ k, M2 (25 + 2 * a) k = M (25 + 2 * a) k := fun a _ hat k => by rw [F2 _ k (by unfold fxC; simp <;> omega) (by unfold fxS; simp <;> omega), F1 _ k (by simp) (by simp <;> omega)]
  refine ⟨_, ?_, ⟨h3, ?_, ?_, ?_, ?_⟩, ok2, ?_⟩
  · refine con_of (lv := [some (.ref 0), none]) (by decide) rfl (Nat.le_of_ble_eq_true rfl) (by simp [lvle]) ?_
    refine wpu _ ?_
    refine r_aload_n dX5_step_20 rfl rfl ?_
    refine r_aload_n dX5_step_21 rfl rfl ?_
    refine r_aload_n dX5_step_22 rfl rfl ?_
    refine gV1 (Y := mX5_carryOut) (ci := 5) (N := 10) dX5_step_23 mlX5_120 vkX5_carryOut (by first | exact hc1 | exact hc2 | exact hc3 | rfl | exact hB1 | exact hB2 | exact hB3) ⟨by decide, rfl⟩ rfl g2 ?_
    refine gW1 (Y := mX2_end) (ci := 2) (N := 8) dX5_step_26 mlX5_124 vkX2_end (by first | exact hc1 | exact hc2 | exact hc3 | rfl | exact hB1 | exact hB2 | exact hB3) ⟨by decide, rfl⟩ rfl g3 ?_
    refine r_aload_n dX5_step_29 rfl rfl ?_
    refine r_getI (N := 8) dX5_step_30 fwX5_127 (by first | exact hc1 | exact hc2 | exact hc3 | rfl | exact hB1 | exact hB2 | exact hB3) (Nat.le_of_ble_eq_true rfl) rfl ?_
    refine r_ireturn dX5_step_33 rfl (Nat.zero_le _) (Nat.zero_le _) ?_
    refine ⟨?_, rfl⟩
    rw [u_sn (by decide), u_sn (by decide), fo2 t ht, e0]
  · intro a ha
    obtain ⟨a0, a2, a3, a4, a5, a6, a7⟩ := h.2.1 a ha
    by_cases hat : a = t
    · subst hat
      obtain ⟨s1, s2, s3⟩ := endT_s (T := T) (t := a) (o := ro) (f := rf)
      rw [s1, s2]
      refine ⟨?_, ?_, ?_, ?_, ?_, ?_, ?_⟩
      · rw [u_sn (by decide), u_sn (by decide), fo2 a ha]; exact a0
      · rw [u_sn (by decide), u_ss]; rfl
      · rw [u_sn (by decide), u_sn (by decide), fo2 a ha]; exact a3
      · rw [u_sn (by decide), u_sn (by decide), fo2 a ha]; exact a4
      · rw [u_sn (by decide), u_sn (by decide), fo2 a ha]; exact a5
      · rw [u_sn (by decide), u_sn (by decide), fo2 a ha]; exact a6
      · rw [u_ss]
    · obtain ⟨s1, s2, s3⟩ := endT_o (T := T) (o := ro) (f := rf) hat
      rw [s1, s2]
      have hne : 24 + 2 * a ≠ 24 + 2 * t := by omega
      simp only [u_nn hne, fo2 a ha]
      exact ⟨a0, a2, a3, a4, a5, a6, a7⟩
  · intro a ha
    by_cases hat : a = t
    · subst hat
      obtain ⟨s1, s2, s3⟩ := endT_s (T := T) (t := a) (o := ro) (f := rf)
      rw [s1, s2, s3]
      refine ⟨fun z => absurd z (by decide), fun _ z1 z2 j hj => ?_⟩
      rw [u_nn (by omega), u_nn (by omega)]
      exact n2 z1 z2 j hj
    · obtain ⟨s1, s2, s3⟩ := endT_o (T := T) (o := ro) (f := rf) hat
      rw [s1, s2, s3]
      have hne : 25 + 2 * a ≠ 24 + 2 * t := by omega
      simp only [u_nn hne, fo3 a ha hat]
      exact h.2.2.1 a ha
  · rw [u_nn (by omega), u_nn (by omega), F2 0 7 (by unfold fxC; simp <;> omega) (by decide), F1 0 7 (by simp) (by decide)]
    exact h.2.2.2.1
  · rw [u_nn (by omega), u_nn (by omega), F2 0 8 (by unfold fxC; simp <;> omega) (by decide)]
    exact e8
  · have m1 := memC ht
    refine (((F1.mono (by simp) (by unfold bigS; simp)).tr (F2.mono ?_ (by unfold fxS bigS; simp))).upc m1.1).upc m1.1
    intro a ha
    unfold fxC at ha
    simp only [List.mem_cons, List.not_mem_nil, or_false] at ha
    rcases ha with rfl | rfl | rfl | rfl | rfl | rfl | rfl | rfl | rfl | rfl | rfl | rfl
    all_goals first | exact m1.2 | decide
