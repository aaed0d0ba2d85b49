theorem dl_nb (P : PL) (p : Nat → Int32) (n : Nat) (hn : n ≤ 12) : ∀ (d : Nat) (v : LSt), v.2.2.2.2.1 ≤ 180 → (dl P p n d v).1.2.2.2.2.1 ≤ 180
  | 0, v, h => by simpa [dl] using h
  | d + 1, v, h => by
    have h1 : (one P p n v).2.2.2.2.1 ≤ 180 := by show 10 * (n + 6) ≤ 180; omega
    simp only [dl]
    split
    · exact h1
    · exact dl_nb P p n hn d _ h1
theorem lpC_nb {P : PL} {kd tg fi : Nat} : ∀ (e k : Nat) (v : LSt) (d : DSt) (f : Nat → Int32), v.2.2.2.2.1 ≤ 180 → (lpC P kd tg fi e k v d f).1.2.2.2.2.1 ≤ 180
  | 0, k, v, d, f, h => by simpa [lpC] using h
  | e + 1, k, v, d, f, h => by
    simp only [lpC]
    have h1 := dl_nb P (pNum tg (if kd = 0 then rds d (fi + k) else f k)) 6 (by decide) 4 v h
    generalize dl P (pNum tg (if kd = 0 then rds d (fi + k) else f k)) 6 4 v = q at h1 ⊢
    split
    · exact lpC_nb e (k + 1) _ _ _ h1
    · exact h1
theorem cmd_nb {P : PL} {kd tg fi mn : Nat} {v : LSt} {d : DSt} {f : Nat → Int32} (h : v.2.2.2.2.1 ≤ 180) : (cmd P kd tg fi mn v d f).1.2.2.2.2.1 ≤ 180 := by
  unfold cmd
  have h1 := dl_nb P (pOrd kd tg fi mn) 5 (by decide) 4 v h
  generalize dl P (pOrd kd tg fi mn) 5 4 v = q at h1 ⊢
  split
  · split
    · have h2 := dl_nb P (pAns tg 2) 3 (by decide) 4 q.1 h1
      generalize dl P (pAns tg 2) 3 4 q.1 = q2 at h2 ⊢
      exact h2
    · have h2 := lpC_nb (P := P) (kd := kd) (tg := tg) (fi := fi) mn 0 q.1 d f h1
      generalize lpC P kd tg fi mn 0 q.1 d f = q2 at h2 ⊢
      unfold cmd2
      split
      · have h3 := dl_nb P (pAns tg 0) 3 (by decide) 4 q2.1 h2
        generalize dl P (pAns tg 0) 3 4 q2.1 = q3 at h3 ⊢
        exact h3
      · exact h2
  · exact h1
theorem stS_nb {P : PL} {s : SSt} {t : Nat} (h : s.1.2.2.2.2.1 ≤ 180) : (stS P s t).1.2.2.2.2.1 ≤ 180 := by
  have h1 : (cmdT P s.2.2.1 s.1 s.2.1 t).1.2.2.2.2.1 ≤ 180 := by
    unfold cmdT
    have h2 := cmd_nb (P := P) (kd := s.2.2.1.2.1 t) (tg := t) (fi := s.2.2.1.2.2.1 t) (mn := s.2.2.1.2.2.2.1 t) (d := s.2.1) (f := s.2.2.1.2.2.2.2.2.2 t) h
    generalize cmd P (s.2.2.1.2.1 t) t (s.2.2.1.2.2.1 t) (s.2.2.1.2.2.2.1 t) s.1 s.2.1 (s.2.2.1.2.2.2.2.2.2 t) = q at h2 ⊢
    exact h2
  unfold stS
  generalize cmdT P s.2.2.1 s.1 s.2.1 t = q at h1 ⊢
  exact h1
theorem drS_nb {P : PL} {w : Nat} : ∀ (n : Nat) (s : SSt), s.1.2.2.2.2.1 ≤ 180 → (drS P w n s).2.1.2.2.2.2.1 ≤ 180
  | 0, s, h => h
  | n + 1, s, h => by
    simp only [drS]
    split
    · exact h
    · exact drS_nb n _ (stS_nb h)
theorem CI.big {M M' : Mem} {dn : Nat} {dp : Nat → Int32} {P : PL} {s s' : SSt} {w is rm : Nat} {rr : Nat → Int32} (h : CI M dn dp P s w is rm rr) (F : FrS bigC bigS M M') (h' : CAs M' P w s') : CI M' dn dp P s' w is rm rr := by
  obtain ⟨h1, -, h3, h4⟩ := h
  refine ⟨h1.frS F (by decide) (by decide), h', ?_, fun i hi => ?_⟩
  · rw [F 0 9 (by decide) (by decide)]; exact h3
  · rw [F 23 i (by decide) (by unfold bigS; simp)]; exact h4 i hi
theorem MI.big {M M' : Mem} {dn : Nat} {dp : Nat → Int32} {P : PL} {s s' : SSt} {w is rm : Nat} {rr : Nat → Int32} (h : MI M dn dp P s w is rm rr) (F : FrS bigC' bigS' M M') (h' : MAs M' P w s') : MI M' dn dp P s' w is rm rr := by
  obtain ⟨h1, -, h3, h4, h5⟩ := h
  refine ⟨⟨by rw [F 40 3 (by decide) (by decide)]; exact h1.1, fun j hj => by rw [F 44 j (by decide) (by unfold bigS'; simp)]; exact h1.2 j hj⟩, h', ?_, ?_, fun i hi => ?_⟩
  · rw [F 40 28 (by decide) (by decide)]; exact h3
  · rw [F 40 31 (by decide) (by decide)]; exact h4
  · rw [F 61 i (by decide) (by unfold bigS'; simp)]; exact h5 i hi
set_option maxHeartbeats 600000 in
set_option maxRecDepth 100000 in
theorem B_step : Both mX5_step mX6_step [] := by
  refine Both.do (fun M c dn dp P s w is rm rr hc h1 ok => ?_)
  obtain ⟨k1, k2, k3, k4, k5, k6, k7, k8⟩ := ok
  cases hq : nxf w s.2.2.2 s.2.2.1 8 with
  | none => exact Both.same h1 ⟨k1, k2, k3, k4, k5, k6, k7, k8⟩ (-4) (x_step_n h1.2.1 k3.2.1 k4 k3.2.2 hq) (fun M1 h2 => m_step_n h2.2.1 k3.2.1 k4 k3.2.2 hq)
  | some t =>
    obtain ⟨ht, hs⟩ := nxf_some 8 t hq
    obtain ⟨M1, g1, i1, d1, F1⟩ := x_step_s h1.2.1 k3.2.1 k2 k3.1 k4 k3.2.2 (by omega) hq
    have i1' : CAs M1 P w (stS P s t) := by
      unfold CAs stS
      dsimp only
      exact i1
    obtain ⟨ok1, fr1⟩ := okS_st k3 d1 ht hs
    have nb1 := stS_nb (P := P) (t := t) k8
    refine ⟨nI t, M1, dn, dp, P, stS P s t, w, is, rm, rr, g1, h1.big F1 i1', F1.mono (by decide) (by decide), ⟨k1, k2, ok1, k4, by omega, k6, by omega, nb1⟩, fun M1 h2 => ?_⟩
    obtain ⟨M2, g2, i2, F2⟩ := m_step_s h2.2.1 k3.2.1 k2 k3.1 k4 k3.2.2 (by omega) hq
    have i2' : MAs M2 P w (stS P s t) := by
      unfold MAs stS
      dsimp only
      exact i2
    exact ⟨M2, g2, h2.big F2 i2', F2.mono (by decide) (by decide)⟩
set_option maxHeartbeats 600000 in
set_option maxRecDepth 100000 in
theorem B_drain : Both mX5_drain mX6_drain [] := by
  refine Both.do (fun M c dn dp P s w is rm rr hc h1 ok => ?_)
  obtain ⟨k1, k2, k3, k4, k5, k6, k7, k8⟩ := ok
  obtain ⟨M1, w1, i1, ok1, fr1, F1⟩ := x_dr_lp k2 k4 8 0 M s rfl h1.2.1 k3 (by omega) FrS.rf
  have nb1 := drS_nb (P := P) (w := w) 8 s k8
  have cn1 := cn_le s.2.2.1.1 8
  have hm : ∀ M1, MI M1 dn dp P s w is rm rr → ∃ M2, Gv mX6_drain [.ref 40] M1 (some (.int (nI (0 + (drS P w 8 s).1)))) M2 ∧ MI M2 dn dp P (drS P w 8 s).2 w is rm rr ∧ FrS modL [] M1 M2 := by
    intro M1 h2
    obtain ⟨M2, w2, i2, F2⟩ := m_dr_lp k2 k4 8 0 M1 s cn1 (by decide) h2.2.1 k3 (fun _ _ => trivial) (by omega) FrS.rf (fun s h => okSt h)
    refine ⟨M2, ?_, h2.big F2 i2, F2.mono (by decide) (by decide)⟩
    clear i2
    generalize drS P w 8 s = q at w2 ⊢
    refine con_of (lv := [some (.ref 40), none, none]) (by decide) rfl (Nat.le_of_ble_eq_true rfl) (by simp [lvle]) ?_
    refine r_iconst 0 dX6_drain_0 (by decide) ?_
    refine r_istore_n1 dX6_drain_1 rfl (Nat.le_of_ble_eq_true rfl) ?_
    exact w2
  refine ⟨nI (0 + (drS P w 8 s).1), M1, dn, dp, P, (drS P w 8 s).2, w, is, rm, rr, ?_, h1.big F1 i1, F1.mono (by decide) (by decide), ⟨k1, k2, ok1, k4, by omega, k6, by omega, nb1⟩, hm⟩
  clear hm i1 ok1 fr1 nb1
  generalize drS P w 8 s = q at w1 ⊢
  refine con_of (lv := [some (.ref 0), none]) (by decide) rfl (Nat.le_of_ble_eq_true rfl) (by simp [lvle]) ?_
  refine r_iconst 0 dX5_drain_0 (by decide) ?_
  refine r_istore_n1 dX5_drain_1 rfl (Nat.le_of_ble_eq_true rfl) ?_
  exact w1
