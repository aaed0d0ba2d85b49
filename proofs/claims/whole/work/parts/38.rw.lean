def isT (T : TSt) (t kd fi mn is : Nat) (f : Nat → Int32) : TSt := (va_up T.1 t 1, va_up T.2.1 t kd, va_up T.2.2.1 t fi, va_up T.2.2.2.1 t mn, va_up T.2.2.2.2.1 t is, T.2.2.2.2.2.1, va_up T.2.2.2.2.2.2 t f)
theorem vu_s {α : Type} {f : Nat → α} {t : Nat} {x : α} : va_up f t x t = x := by simp [va_up]
theorem vu_n {α : Type} {f : Nat → α} {t a : Nat} {x : α} (h : a ≠ t) : va_up f t x a = f a := by simp [va_up, h]
theorem okT_is {T : TSt} {t kd fi mn is : Nat} {f : Nat → Int32} (h : okT T) (hk : kd ≤ 3) (h1 : fi < 64) (h2 : mn ≤ 4) (h3 : kd = 3 → mn = 0) (h4 : kd ≠ 3 → 1 ≤ mn) (h5 : is < 100000) : okT (isT T t kd fi mn is f) := by
  intro a ha
  obtain ⟨q1, q2, q3, q4, q5, q6, q7, q8⟩ := h a ha
  unfold isT
  dsimp only
  by_cases hat : a = t
  · subst hat
    rw [vu_s, vu_s, vu_s, vu_s, vu_s]
    exact ⟨by omega, hk, by omega, h2, h3, fun _ => h4, h5, q8⟩
  · rw [vu_n hat, vu_n hat, vu_n hat, vu_n hat, vu_n hat]
    exact ⟨q1, q2, q3, q4, q5, q6, q7, q8⟩
/-- disk, link, tables and THE PLAN stay over a change of one tag -/
theorem CS.tg {M M' : Mem} {v : LSt} {d : DSt} {P : PL} {t : Nat} {ss : List (Nat × Nat)} (h : CS M v d P) (F : FrS [24 + 2 * t, 25 + 2 * t, 23] ss M M') (hss : ∀ q ∈ ss, q.1 = 0 ) : CS M' v d P := by
  have k : ∀ a b, a ≠ 0 → (a, b) ∉ ss := fun a b h q => h (hss _ q)
  have k2 : ∀ q ∈ ss, ∀ a, a ≠ 0 → q.1 ≠ a := fun q hq a ha e => ha (e ▸ hss q hq)
  have f : ∀ c k', c < 23 → c ≠ 0 → M' c k' = M c k' := fun c k' hc h0 => F c k' (by simp <;> omega) (k _ _ h0)
  obtain ⟨c1, c2, c3, c4, c5⟩ := h
  refine ⟨c1.frS F ⟨by simp <;> omega, by simp <;> omega⟩ ?_, c2.frS F (by simp <;> omega) ?_, ?_, ?_, ?_⟩
  · intro q hq; exact ⟨k2 q hq _ (by decide), k2 q hq _ (by decide)⟩
  · intro q hq; exact k2 q hq _ (by decide)
  · exact ⟨by rw [f _ _ (by decide) (by decide)]; exact c3.1, fun j q => by rw [f _ _ (by decide) (by decide)]; exact c3.2.1 j q, by rw [f _ _ (by decide) (by decide)]; exact c3.2.2.1, by rw [f _ _ (by decide) (by decide)]; exact c3.2.2.2.1, by rw [f _ _ (by decide) (by decide)]; exact c3.2.2.2.2.1, fun j q => by rw [f _ _ (by decide) (by decide)]; exact c3.2.2.2.2.2 j q⟩
  · exact ⟨fun j q => by rw [f _ _ (by decide) (by decide)]; exact c4.1 j q, by rw [f _ _ (by decide) (by decide)]; exact c4.2.1, fun j q => by rw [f 16 _ (by decide) (by decide), f 17 _ (by decide) (by decide)]; exact c4.2.2 j q⟩
  · exact ⟨by rw [f _ _ (by decide) (by decide)]; exact c5.1, fun j q => by rw [f 11 _ (by decide) (by decide), f 12 _ (by decide) (by decide)]; exact c5.2 j q⟩
theorem CI.iss {M M' : Mem} {dn : Nat} {dp : Nat → Int32} {P : PL} {s : SSt} {w is rm : Nat} {rr : Nat → Int32} {t kd fi mn : Nat} {f : Nat → Int32} (h : CI M dn dp P s w is rm rr) (F : FrS [24 + 2 * t, 25 + 2 * t] [(0, 9)] M M') (ht : t < 8)
    (e0 : M' (24 + 2 * t) 0 = M (24 + 2 * t) 0) (e2 : M' (24 + 2 * t) 2 = 1) (e3 : M' (24 + 2 * t) 3 = nI kd) (e4 : M' (24 + 2 * t) 4 = nI fi) (e5 : M' (24 + 2 * t) 5 = nI mn) (e6 : M' (24 + 2 * t) 6 = nI is) (e7 : M' (24 + 2 * t) 7 = M (24 + 2 * t) 7)
    (en : kd ≠ 0 → kd ≠ 3 → ∀ j, j < 4 → M' (25 + 2 * t) j = f j) (e9 : M' 0 9 = nI (is + 1)) : CI M' dn dp P (s.1, s.2.1, isT s.2.2.1 t kd fi mn is f, s.2.2.2) w (is + 1) rm rr := by
  obtain ⟨h1, ⟨cs, c6, c7, c8, c9⟩, h3, h4⟩ := h
  have F' : FrS [24 + 2 * t, 25 + 2 * t, 23] [(0, 9)] M M' := F.mono (by simp) (by simp)
  refine ⟨h1.frS F (by simp <;> omega) (by simp), ⟨cs.tg F' (by simp), fun a ha => ?_, fun a ha => ?_, ?_, ?_⟩, e9, fun i hi => ?_⟩
  · unfold isT
    dsimp only
    by_cases hat : a = t
    · subst hat
      rw [vu_s, vu_s, vu_s, vu_s, vu_s]
      exact ⟨by rw [e0]; exact (c6 a ha).1, e2, e3, e4, e5, e6, by rw [e7]; exact (c6 a ha).2.2.2.2.2.2⟩
    · have q : ∀ k, M' (24 + 2 * a) k = M (24 + 2 * a) k := fun k => F _ k (by simp <;> omega) (by simp <;> omega)
      rw [vu_n hat, vu_n hat, vu_n hat, vu_n hat, vu_n hat]
      simp only [q]
      exact c6 a ha
  · unfold isT
    dsimp only
    by_cases hat : a = t
    · subst hat
      rw [vu_s, vu_s, vu_s, vu_s]
      exact ⟨fun _ => en, fun z => absurd z (by decide)⟩
    · have q : ∀ k, M' (25 + 2 * a) k = M (25 + 2 * a) k := fun k => F _ k (by simp <;> omega) (by simp <;> omega)
      rw [vu_n hat, vu_n hat, vu_n hat, vu_n hat]
      simp only [q]
      exact c7 a ha
  · rw [F 0 7 (by simp <;> omega) (by simp)]; exact c8
  · rw [F 0 8 (by simp <;> omega) (by simp)]; exact c9
  · rw [F 23 i (by simp <;> omega) (by simp)]; exact h4 i hi
theorem MS.tg {M M' : Mem} {v : LSt} {d : DSt} {P : PL} {ss : List (Nat × Nat)} (h : MS M v d P) (F : FrS [54, 55, 56, 57, 58, 59, 60, 61] ss M M') (hss : ∀ q ∈ ss, q.1 = 40 ∧ (q.2 = 28 ∨ q.2 = 29 ∨ q.2 = 31)) : MS M' v d P := by
  have k : ∀ a b, a ≠ 40 → (a, b) ∉ ss := fun a b h q => h (hss _ q).1
  have k2 : ∀ q ∈ ss, ∀ a, a ≠ 40 → q.1 ≠ a := fun q hq a ha e => ha (e ▸ (hss q hq).1)
  have k3 : ∀ b, b ≠ 28 → b ≠ 29 → b ≠ 31 → (40, b) ∉ ss := fun b h1 h2 h3 q => by
    have := (hss _ q).2
    dsimp only at this
    omega
  obtain ⟨c1, c3, c4, c5⟩ := h
  have f : ∀ c k', c < 54 → c ≠ 40 → M' c k' = M c k' := fun c k' hc h0 => F c k' (by simp <;> omega) (k _ _ h0)
  have g : ∀ b, b ≠ 28 → b ≠ 29 → b ≠ 31 → M' 40 b = M 40 b := fun b h1 h2 h3 => F 40 b (by decide) (k3 b h1 h2 h3)
  refine ⟨c1.frS F (by decide) ?_, ?_, ?_, ?_⟩
  · intro q hq; exact ⟨k2 q hq _ (by decide), k2 q hq _ (by decide), k2 q hq _ (by decide)⟩
  · exact ⟨by rw [g _ (by decide) (by decide) (by decide)]; exact c3.1, fun j q => by rw [f _ _ (by decide) (by decide)]; exact c3.2.1 j q, by rw [g _ (by decide) (by decide) (by decide)]; exact c3.2.2.1, by rw [g _ (by decide) (by decide) (by decide)]; exact c3.2.2.2.1, by rw [g _ (by decide) (by decide) (by decide)]; exact c3.2.2.2.2.1, fun j q => by rw [f _ _ (by decide) (by decide)]; exact c3.2.2.2.2.2 j q⟩
  · exact ⟨fun j q => by rw [f _ _ (by decide) (by decide)]; exact c4.1 j q, by rw [g _ (by decide) (by decide) (by decide)]; exact c4.2.1, fun j q => by rw [f 52 _ (by decide) (by decide), f 53 _ (by decide) (by decide)]; exact c4.2.2 j q⟩
  · exact ⟨by rw [g _ (by decide) (by decide) (by decide)]; exact c5.1, fun j q => by rw [f 45 _ (by decide) (by decide), f 46 _ (by decide) (by decide)]; exact c5.2 j q⟩
theorem MI.iss {M M1 : Mem} {dn : Nat} {dp : Nat → Int32} {P : PL} {s : SSt} {w is rm : Nat} {rr : Nat → Int32} {t kd fi mn : Nat} {f : Nat → Int32} (h : MI M dn dp P s w is rm rr) (F : FrS [58] [] M M1) (ht : t < 8) (hok : okT s.2.2.1)
    (eo : ∀ k, k < 4 * t ∨ 4 * t + 4 ≤ k → M1 58 k = M 58 k) (en : kd ≠ 0 → kd ≠ 3 → ∀ j, j < 4 → M1 58 (4 * t + j) = f j) : MI (issW M1 t (nI kd) (nI fi) (nI mn) is) dn dp P (s.1, s.2.1, isT s.2.2.1 t kd fi mn is f, s.2.2.2) w (is + 1) rm rr ∧ FrS modL [] M (issW M1 t (nI kd) (nI fi) (nI mn) is) := by
  obtain ⟨h1, ⟨cs, c6, c7, c8, c9⟩, h3, h4, h5⟩ := h
  have G : FrS [54, 55, 56, 57, 59] [(40, 28)] M1 (issW M1 t (nI kd) (nI fi) (nI mn) is) := (((((FrS.rf.upc (by decide)).upc (by decide)).upc (by decide)).upc (by decide)).upc (by decide)).ups (by decide)
  have F' : FrS [54, 55, 56, 57, 58, 59, 60, 61] [(40, 28)] M (issW M1 t (nI kd) (nI fi) (nI mn) is) := (F.mono (by decide) (by decide)).tr (G.mono (by decide) (by decide))
  refine ⟨⟨⟨by rw [F' 40 3 (by decide) (by decide)]; exact h1.1, fun j hj => by rw [F' 44 j (by decide) (by simp)]; exact h1.2 j hj⟩, ⟨cs.tg F' (by simp), fun a ha => ?_, fun a ha => ?_, ?_, ?_⟩, u_ss, ?_, fun i hi => ?_⟩, F'.mono (by decide) (by simp [modL])⟩
  · unfold isT issW
    dsimp only
    rw [u_nn (show (54 : Nat) ≠ 40 by decide), u_nn (show (54 : Nat) ≠ 59 by decide), u_nn (show (54 : Nat) ≠ 57 by decide), u_nn (show (54 : Nat) ≠ 56 by decide), u_nn (show (54 : Nat) ≠ 55 by decide), u_nn (show (55 : Nat) ≠ 40 by decide), u_nn (show (55 : Nat) ≠ 59 by decide), u_nn (show (55 : Nat) ≠ 57 by decide), u_nn (show (55 : Nat) ≠ 56 by decide), u_nn (show (56 : Nat) ≠ 40 by decide), u_nn (show (56 : Nat) ≠ 59 by decide), u_nn (show (56 : Nat) ≠ 57 by decide), u_nn (show (57 : Nat) ≠ 40 by decide), u_nn (show (57 : Nat) ≠ 59 by decide), u_nn (show (59 : Nat) ≠ 40 by decide), u_nn (show (60 : Nat) ≠ 40 by decide), u_nn (show (60 : Nat) ≠ 59 by decide), u_nn (show (60 : Nat) ≠ 57 by decide), u_nn (show (60 : Nat) ≠ 56 by decide), u_nn (show (60 : Nat) ≠ 55 by decide), u_nn (show (60 : Nat) ≠ 54 by decide), F 60 a (by decide) (by simp)]
    by_cases hat : a = t
    · subst hat
      rw [vu_s, vu_s, vu_s, vu_s, vu_s, u_ss, u_ss, u_ss, u_ss, u_ss]
      exact ⟨rfl, rfl, rfl, rfl, rfl, (c6 a ha).2.2.2.2.2⟩
    · rw [vu_n hat, vu_n hat, vu_n hat, vu_n hat, vu_n hat, u_sn hat, u_sn hat, u_sn hat, u_sn hat, u_sn hat, u_nn (show (55 : Nat) ≠ 54 by decide), u_nn (show (56 : Nat) ≠ 55 by decide), u_nn (show (56 : Nat) ≠ 54 by decide), u_nn (show (57 : Nat) ≠ 56 by decide), u_nn (show (57 : Nat) ≠ 55 by decide), u_nn (show (57 : Nat) ≠ 54 by decide), u_nn (show (59 : Nat) ≠ 57 by decide), u_nn (show (59 : Nat) ≠ 56 by decide), u_nn (show (59 : Nat) ≠ 55 by decide), u_nn (show (59 : Nat) ≠ 54 by decide), F 54 a (by decide) (by simp), F 55 a (by decide) (by simp), F 56 a (by decide) (by simp), F 57 a (by decide) (by simp), F 59 a (by decide) (by simp)]
      exact c6 a ha
  · have e58 : ∀ k, issW M1 t (nI kd) (nI fi) (nI mn) is 58 k = M1 58 k := fun k => G 58 k (by decide) (by simp)
    simp only [e58]
    unfold isT
    dsimp only
    by_cases hat : a = t
    · subst hat
      rw [vu_s, vu_s, vu_s, vu_s]
      exact ⟨fun _ => en, fun z => absurd z (by decide)⟩
    · have hmn := (hok a ha).2.2.2.1
      obtain ⟨p1, p2⟩ := c7 a ha
      rw [vu_n hat, vu_n hat, vu_n hat, vu_n hat]
      refine ⟨fun z1 z2 z3 j hj => ?_, fun z1 z2 z3 j hj => ?_⟩
      · rw [eo _ (by omega)]; exact p1 z1 z2 z3 j hj
      · rw [eo _ (by omega)]; exact p2 z1 z2 z3 j hj
  · rw [F' 40 29 (by decide) (by decide)]; exact c8
  · rw [F' 40 30 (by decide) (by decide)]; exact c9
  · rw [F' 40 31 (by decide) (by decide)]; exact h4
  · rw [G 61 i (by decide) (by simp), F 61 i (by decide) (by simp)]; exact h5 i hi
theorem memL {t : Nat} (ht : t < 8) : 24 + 2 * t ∈ clsL ∧ 25 + 2 * t ∈ clsL := by
  have : t = 0 ∨ t = 1 ∨ t = 2 ∨ t = 3 ∨ t = 4 ∨ t = 5 ∨ t = 6 ∨ t = 7 := by omega
  rcases this with rfl | rfl | rfl | rfl | rfl | rfl | rfl | rfl <;> decide
theorem CI.is2 {M M' : Mem} {dn : Nat} {dp : Nat → Int32} {P : PL} {s : SSt} {w is rm : Nat} {rr : Nat → Int32} {t kd fi mn : Nat} {f : Nat → Int32} (h : CI M dn dp P s w is rm rr) (ht : t < 8) (G : FrS [25 + 2 * t] [] (upd2 (issM M (24 + 2 * t) (nI kd) (nI fi) (nI mn) (nI is)) 0 9 (nI (is + 1))) M') (en : kd ≠ 0 → kd ≠ 3 → ∀ j, j < 4 → M' (25 + 2 * t) j = f j) : CI M' dn dp P (s.1, s.2.1, isT s.2.2.1 t kd fi mn is f, s.2.2.2) w (is + 1) rm rr ∧ FrS clsL [] M M' := by
  have F : FrS [24 + 2 * t, 25 + 2 * t] [(0, 9)] M (upd2 (issM M (24 + 2 * t) (nI kd) (nI fi) (nI mn) (nI is)) 0 9 (nI (is + 1))) := (((((FrS.rf.upc (by simp)).upc (by simp)).upc (by simp)).upc (by simp)).upc (by simp)).ups (by simp)
  have F' : FrS [24 + 2 * t, 25 + 2 * t] [(0, 9)] M M' := F.tr (G.mono (by simp) (by simp))
  have g : ∀ k, M' (24 + 2 * t) k = issM M (24 + 2 * t) (nI kd) (nI fi) (nI mn) (nI is) (24 + 2 * t) k := fun k => by rw [G _ k (by simp <;> omega) (by simp), u_nn (by omega)]
  refine ⟨h.iss F' ht ?_ ?_ ?_ ?_ ?_ ?_ ?_ en ?_, F'.mono ?_ (by decide)⟩
  · rw [g]; unfold issM; rw [u_sn (by decide), u_sn (by decide), u_sn (by decide), u_sn (by decide), u_sn (by decide)]
  · rw [g]; unfold issM; rw [u_sn (by decide), u_sn (by decide), u_sn (by decide), u_sn (by decide), u_ss]
  · rw [g]; unfold issM; rw [u_sn (by decide), u_sn (by decide), u_sn (by decide), u_ss]
  · rw [g]; unfold issM; rw [u_sn (by decide), u_sn (by decide), u_ss]
  · rw [g]; unfold issM; rw [u_sn (by decide), u_ss]
  · rw [g]; unfold issM; rw [u_ss]
  · rw [g]; unfold issM; rw [u_sn (by decide), u_sn (by decide), u_sn (by decide), u_sn (by decide), u_sn (by decide)]
  · rw [G 0 9 (by simp <;> omega) (by simp), u_ss]
  · have := memL ht
    intro a ha
    simp only [List.mem_cons, List.not_mem_nil, or_false] at ha
    rcases ha with rfl | rfl
    · exact this.1
    · exact this.2
theorem okA.is {c dn : Nat} {dp : Nat → Int32} {P : PL} {s : SSt} {w is rm t kd fi mn : Nat} {f : Nat → Int32} (h : okA c dn dp P s w is rm) (hc : c < 600) (hk : kd ≤ 3) (h1 : fi < 64) (h2 : mn ≤ 4) (h3 : kd = 3 → mn = 0) (h4 : kd ≠ 3 → 1 ≤ mn) : okA (c + 1) dn dp P (s.1, s.2.1, isT s.2.2.1 t kd fi mn is f, s.2.2.2) w (is + 1) rm := by
  obtain ⟨k1, k2, k3, k4, k5, k6, k7, k8⟩ := h
  exact ⟨k1, k2, ⟨k3.1, okT_is k3.2.1 hk h1 h2 h3 h4 (by omega), k3.2.2⟩, k4, by omega, k6, by show s.1.1 ≤ _; omega, k8⟩
set_option maxHeartbeats 600000 in
set_option maxRecDepth 100000 in
theorem B_read {x y z : Int32} : Both mX5_read mX6_read [.int x, .int y, .int z] := by
  refine Both.do (fun M c dn dp P s w is rm rr hc h1 ok => ?_)
  rcases ix3 x 8 (by decide) with h | ⟨t, ht, rfl⟩
  · refine Both.same h1 ok (-2) ?_ (fun M1 h2 => ?_)
    · refine con_of (lv := [some (.ref 0), some (.int x), some (.int y), some (.int z)]) (by decide) rfl (Nat.le_of_ble_eq_true rfl) (by simp [lvle]) ?_
      refine r_aload_n dX5_read_0 rfl rfl ?_
      refine r_iload_n dX5_read_1 rfl rfl ?_
      refine r_iconst 0 dX5_read_2 (by decide) ?_
      refine r_iload_n dX5_read_3 rfl rfl ?_
      refine r_iload_n dX5_read_4 rfl rfl ?_
      refine gV4 (Y := mX5_issue) (ci := 5) (N := 10) dX5_read_5 mlX5_98 vkX5_issue (by first | rfl | assumption) ⟨by decide, rfl⟩ rfl (x_issue_tag h) ?_
      refine r_ireturn dX5_read_8 rfl (Nat.zero_le _) (Nat.zero_le _) ?_
      exact ⟨rfl, rfl⟩
    · refine con_of (lv := [some (.ref 40), some (.int x), some (.int y), some (.int z), none]) (by decide) rfl (Nat.le_of_ble_eq_true rfl) (by simp [lvle]) ?_
      refine r_aload_n dX6_read_0 rfl rfl ?_
      refine r_iload_n dX6_read_1 rfl rfl ?_
      refine r_iload_n dX6_read_2 rfl rfl ?_
      refine r_iload_n dX6_read_3 rfl rfl ?_
      refine gV3 (Y := mX6_against) (ci := 6) (N := 35) dX6_read_4 mlX6_163 vkX6_against (by first | rfl | assumption) ⟨by decide, rfl⟩ rfl (m_ag_tag h) ?_
      refine r_istore_4 dX6_read_7 rfl (Nat.le_of_ble_eq_true rfl) ?_
      refine r_iload dX6_read_9 rfl ?_
      refine r_if_eq 19 dX6_read_11 (by decide) (fun c_11 => absurd c_11 (by decide)) (fun c_11 => ?_)
      refine r_iload dX6_read_14 rfl ?_
      refine r_goto 27 dX6_read_16 (by decide) ?_
      refine r_ireturn dX6_read_27 rfl (Nat.zero_le _) (Nat.zero_le _) ?_
      exact ⟨rfl, rfl⟩
  · rcases rng y z with h | ⟨fi, mn, hf, hm1, hm2, rfl, rfl⟩
    · refine Both.same h1 ok (-3) ?_ (fun M1 h2 => ?_)
      · refine con_of (lv := [some (.ref 0), some (.int (nI t)), some (.int y), some (.int z)]) (by decide) rfl (Nat.le_of_ble_eq_true rfl) (by simp [lvle]) ?_
        refine r_aload_n dX5_read_0 rfl rfl ?_
        refine r_iload_n dX5_read_1 rfl rfl ?_
        refine r_iconst 0 dX5_read_2 (by decide) ?_
        refine r_iload_n dX5_read_3 rfl rfl ?_
        refine r_iload_n dX5_read_4 rfl rfl ?_
        refine gV4 (Y := mX5_issue) (ci := 5) (N := 10) dX5_read_5 mlX5_98 vkX5_issue (by first | rfl | assumption) ⟨by decide, rfl⟩ rfl (x_issue_out ht (by decide) h) ?_
        refine r_ireturn dX5_read_8 rfl (Nat.zero_le _) (Nat.zero_le _) ?_
        exact ⟨rfl, rfl⟩
      · refine con_of (lv := [some (.ref 40), some (.int (nI t)), some (.int y), some (.int z), none]) (by decide) rfl (Nat.le_of_ble_eq_true rfl) (by simp [lvle]) ?_
        refine r_aload_n dX6_read_0 rfl rfl ?_
        refine r_iload_n dX6_read_1 rfl rfl ?_
        refine r_iload_n dX6_read_2 rfl rfl ?_
        refine r_iload_n dX6_read_3 rfl rfl ?_
        refine gV3 (Y := mX6_against) (ci := 6) (N := 35) dX6_read_4 mlX6_163 vkX6_against (by first | rfl | assumption) ⟨by decide, rfl⟩ rfl (m_ag_out ht h) ?_
        refine r_istore_4 dX6_read_7 rfl (Nat.le_of_ble_eq_true rfl) ?_
        refine r_iload dX6_read_9 rfl ?_
        refine r_if_eq 19 dX6_read_11 (by decide) (fun c_11 => absurd c_11 (by decide)) (fun c_11 => ?_)
        refine r_iload dX6_read_14 rfl ?_
        refine r_goto 27 dX6_read_16 (by decide) ?_
        refine r_ireturn dX6_read_27 rfl (Nat.zero_le _) (Nat.zero_le _) ?_
        exact ⟨rfl, rfl⟩
    · have o1 := (ok.2.2.1.2.1 t ht).1
      by_cases hs : s.2.2.1.1 t = 0
      · have es : M (24 + 2 * t) 2 = 0 := by rw [(h1.2.1.2.1 t ht).2.1, hs]; rfl
        have gi := x_issue_ok (kd := 0) (fi := fi) (mn := mn) ht (by decide) (fun _ => ⟨hf, hm1, hm2⟩) es h1.2.2.1
        obtain ⟨i1, F1⟩ := h1.is2 (kd := 0) (fi := fi) (mn := mn) (f := s.2.2.1.2.2.2.2.2.2 t) ht FrS.rf (fun z => absurd rfl z)
        refine ⟨1, _, dn, dp, P, _, w, is + 1, rm, rr, ?_, i1, F1, ok.is hc (by decide) hf hm2 (fun z => absurd z (by decide)) (fun _ => hm1), fun M1 h2 => ?_⟩
        · refine con_of (lv := [some (.ref 0), some (.int (nI t)), some (.int (nI fi)), some (.int (nI mn))]) (by decide) rfl (Nat.le_of_ble_eq_true rfl) (by simp [lvle]) ?_
          refine r_aload_n dX5_read_0 rfl rfl ?_
          refine r_iload_n dX5_read_1 rfl rfl ?_
          refine r_iconst 0 dX5_read_2 (by decide) ?_
          refine r_iload_n dX5_read_3 rfl rfl ?_
          refine r_iload_n dX5_read_4 rfl rfl ?_
          refine gV4 (Y := mX5_issue) (ci := 5) (N := 10) dX5_read_5 mlX5_98 vkX5_issue (by first | rfl | assumption) ⟨by decide, rfl⟩ rfl gi ?_
          refine r_ireturn dX5_read_8 rfl (Nat.zero_le _) (Nat.zero_le _) ?_
          exact ⟨rfl, rfl⟩
        · have ga := m_ag_in (M := M1) ht hf hm1 hm2 o1 (h2.2.1.2.1 t ht).1
          rw [if_pos hs] at ga
          have gi := m_issue (k := nI 0) (y := nI fi) (z := nI mn) ht h2.2.2.1
          obtain ⟨i2, F2⟩ := h2.iss (kd := 0) (fi := fi) (mn := mn) (f := s.2.2.1.2.2.2.2.2.2 t) FrS.rf ht ok.2.2.1.2.1 (fun k _ => rfl) (fun z => absurd rfl z)
          refine ⟨_, ?_, i2, F2⟩
          refine con_of (lv := [some (.ref 40), some (.int (nI t)), some (.int (nI fi)), some (.int (nI mn)), none]) (by decide) rfl (Nat.le_of_ble_eq_true rfl) (by simp [lvle]) ?_
          refine r_aload_n dX6_read_0 rfl rfl ?_
          refine r_iload_n dX6_read_1 rfl rfl ?_
          refine r_iload_n dX6_read_2 rfl rfl ?_
          refine r_iload_n dX6_read_3 rfl rfl ?_
          refine gV3 (Y := mX6_against) (ci := 6) (N := 35) dX6_read_4 mlX6_163 vkX6_against (by first | rfl | assumption) ⟨by decide, rfl⟩ rfl ga ?_
          refine r_istore_4 dX6_read_7 rfl (Nat.le_of_ble_eq_true rfl) ?_
          refine r_iload dX6_read_9 rfl ?_
          refine r_if_eq 19 dX6_read_11 (by decide) (fun c_11 => ?_) (fun c_11 => absurd rfl c_11)
          refine r_aload_n dX6_read_19 rfl rfl ?_
          refine r_iload_n dX6_read_20 rfl rfl ?_
          refine r_iconst 0 dX6_read_21 (by decide) ?_
          refine r_iload_n dX6_read_22 rfl rfl ?_
          refine r_iload_n dX6_read_23 rfl rfl ?_
          refine gV4 (Y := mX6_issue) (ci := 6) (N := 35) dX6_read_24 mlX6_167 vkX6_issue (by first | rfl | assumption) ⟨by decide, rfl⟩ rfl gi ?_
          refine r_ireturn dX6_read_27 rfl (Nat.zero_le _) (Nat.zero_le _) ?_
          exact ⟨rfl, rfl⟩
      · refine Both.same h1 ok (-4) ?_ (fun M1 h2 => ?_)
        · have es : ¬ M (24 + 2 * t) 2 = 0 := by rw [(h1.2.1.2.1 t ht).2.1]; exact nI_ne0 (by omega) (by omega)
          have gi := x_issue_not (kd := 0) (fi := fi) (mn := mn) ht (by decide) (fun _ => ⟨hf, hm1, hm2⟩) es
          refine con_of (lv := [some (.ref 0), some (.int (nI t)), some (.int (nI fi)), some (.int (nI mn))]) (by decide) rfl (Nat.le_of_ble_eq_true rfl) (by simp [lvle]) ?_
          refine r_aload_n dX5_read_0 rfl rfl ?_
          refine r_iload_n dX5_read_1 rfl rfl ?_
          refine r_iconst 0 dX5_read_2 (by decide) ?_
          refine r_iload_n dX5_read_3 rfl rfl ?_
          refine r_iload_n dX5_read_4 rfl rfl ?_
          refine gV4 (Y := mX5_issue) (ci := 5) (N := 10) dX5_read_5 mlX5_98 vkX5_issue (by first | rfl | assumption) ⟨by decide, rfl⟩ rfl gi ?_
          refine r_ireturn dX5_read_8 rfl (Nat.zero_le _) (Nat.zero_le _) ?_
          exact ⟨rfl, rfl⟩
        · have ga := m_ag_in (M := M1) ht hf hm1 hm2 o1 (h2.2.1.2.1 t ht).1
          rw [if_neg hs] at ga
          refine con_of (lv := [some (.ref 40), some (.int (nI t)), some (.int (nI fi)), some (.int (nI mn)), none]) (by decide) rfl (Nat.le_of_ble_eq_true rfl) (by simp [lvle]) ?_
          refine r_aload_n dX6_read_0 rfl rfl ?_
          refine r_iload_n dX6_read_1 rfl rfl ?_
          refine r_iload_n dX6_read_2 rfl rfl ?_
          refine r_iload_n dX6_read_3 rfl rfl ?_
          refine gV3 (Y := mX6_against) (ci := 6) (N := 35) dX6_read_4 mlX6_163 vkX6_against (by first | rfl | assumption) ⟨by decide, rfl⟩ rfl ga ?_
          refine r_istore_4 dX6_read_7 rfl (Nat.le_of_ble_eq_true rfl) ?_
          refine r_iload dX6_read_9 rfl ?_
          refine r_if_eq 19 dX6_read_11 (by decide) (fun c_11 => absurd c_11 (by decide)) (fun c_11 => ?_)
          refine r_iload dX6_read_14 rfl ?_
          refine r_goto 27 dX6_read_16 (by decide) ?_
          refine r_ireturn dX6_read_27 rfl (Nat.zero_le _) (Nat.zero_le _) ?_
          exact ⟨rfl, rfl⟩
set_option maxHeartbeats 600000 in
set_option maxRecDepth 100000 in
theorem B_flush {x : Int32} : Both mX5_flush mX6_flush [.int x] := by
  refine Both.do (fun M c dn dp P s w is rm rr hc h1 ok => ?_)
  rcases ix3 x 8 (by decide) with h | ⟨t, ht, rfl⟩
  · refine Both.same h1 ok (-2) ?_ (fun M1 h2 => ?_)
    · refine con_of (lv := [some (.ref 0), some (.int x)]) (by decide) rfl (Nat.le_of_ble_eq_true rfl) (by simp [lvle]) ?_
      refine r_aload_n dX5_flush_0 rfl rfl ?_
      refine r_iload_n dX5_flush_1 rfl rfl ?_
      refine r_iconst 3 dX5_flush_2 (by decide) ?_
      refine r_iconst 0 dX5_flush_3 (by decide) ?_
      refine r_iconst 0 dX5_flush_4 (by decide) ?_
      refine gV4 (Y := mX5_issue) (ci := 5) (N := 10) dX5_flush_5 mlX5_98 vkX5_issue (by first | rfl | assumption) ⟨by decide, rfl⟩ rfl (x_issue_tag h) ?_
      refine r_ireturn dX5_flush_8 rfl (Nat.zero_le _) (Nat.zero_le _) ?_
      exact ⟨rfl, rfl⟩
    · refine con_of (lv := [some (.ref 40), some (.int x), none]) (by decide) rfl (Nat.le_of_ble_eq_true rfl) (by simp [lvle]) ?_
      refine r_aload_n dX6_flush_0 rfl rfl ?_
      refine r_iload_n dX6_flush_1 rfl rfl ?_
      refine r_iconst 0 dX6_flush_2 (by decide) ?_
      refine r_iconst 1 dX6_flush_3 (by decide) ?_
      refine gV3 (Y := mX6_against) (ci := 6) (N := 35) dX6_flush_4 mlX6_163 vkX6_against (by first | rfl | assumption) ⟨by decide, rfl⟩ rfl (m_ag_tag h) ?_
      refine r_istore_n2 dX6_flush_7 rfl (Nat.le_of_ble_eq_true rfl) ?_
      refine r_iload_n dX6_flush_8 rfl rfl ?_
      refine r_if_eq 16 dX6_flush_9 (by decide) (fun c_9 => absurd c_9 (by decide)) (fun c_9 => ?_)
      refine r_iload_n dX6_flush_12 rfl rfl ?_
      refine r_goto 24 dX6_flush_13 (by decide) ?_
      refine r_ireturn dX6_flush_24 rfl (Nat.zero_le _) (Nat.zero_le _) ?_
      exact ⟨rfl, rfl⟩
  · have o1 := (ok.2.2.1.2.1 t ht).1
    by_cases hs : s.2.2.1.1 t = 0
    · have es : M (24 + 2 * t) 2 = 0 := by rw [(h1.2.1.2.1 t ht).2.1, hs]; rfl
      have gi := x_issue_ok (kd := 3) (fi := 0) (mn := 0) ht (by decide) (fun z => absurd rfl z) es h1.2.2.1
      obtain ⟨i1, F1⟩ := h1.is2 (kd := 3) (fi := 0) (mn := 0) (f := s.2.2.1.2.2.2.2.2.2 t) ht FrS.rf (fun _ z => absurd rfl z)
      refine ⟨1, _, dn, dp, P, _, w, is + 1, rm, rr, ?_, i1, F1, ok.is hc (by decide) (by decide) (by decide) (fun _ => rfl) (fun z => absurd rfl z), fun M1 h2 => ?_⟩
      · refine con_of (lv := [some (.ref 0), some (.int (nI t))]) (by decide) rfl (Nat.le_of_ble_eq_true rfl) (by simp [lvle]) ?_
        refine r_aload_n dX5_flush_0 rfl rfl ?_
        refine r_iload_n dX5_flush_1 rfl rfl ?_
        refine r_iconst 3 dX5_flush_2 (by decide) ?_
        refine r_iconst 0 dX5_flush_3 (by decide) ?_
        refine r_iconst 0 dX5_flush_4 (by decide) ?_
        refine gV4 (Y := mX5_issue) (ci := 5) (N := 10) dX5_flush_5 mlX5_98 vkX5_issue (by first | rfl | assumption) ⟨by decide, rfl⟩ rfl gi ?_
        refine r_ireturn dX5_flush_8 rfl (Nat.zero_le _) (Nat.zero_le _) ?_
        exact ⟨rfl, rfl⟩
      · have ga := m_ag_in (M := M1) (fi := 0) (mn := 1) ht (by decide) (by decide) (by decide) o1 (h2.2.1.2.1 t ht).1
        rw [if_pos hs] at ga
        have gi := m_issue (k := nI 3) (y := nI 0) (z := nI 0) ht h2.2.2.1
        obtain ⟨i2, F2⟩ := h2.iss (kd := 3) (fi := 0) (mn := 0) (f := s.2.2.1.2.2.2.2.2.2 t) FrS.rf ht ok.2.2.1.2.1 (fun k _ => rfl) (fun _ z => absurd rfl z)
        refine ⟨_, ?_, i2, F2⟩
        refine con_of (lv := [some (.ref 40), some (.int (nI t)), none]) (by decide) rfl (Nat.le_of_ble_eq_true rfl) (by simp [lvle]) ?_
        refine r_aload_n dX6_flush_0 rfl rfl ?_
        refine r_iload_n dX6_flush_1 rfl rfl ?_
        refine r_iconst 0 dX6_flush_2 (by decide) ?_
        refine r_iconst 1 dX6_flush_3 (by decide) ?_
        refine gV3 (Y := mX6_against) (ci := 6) (N := 35) dX6_flush_4 mlX6_163 vkX6_against (by first | rfl | assumption) ⟨by decide, rfl⟩ rfl ga ?_
        refine r_istore_n2 dX6_flush_7 rfl (Nat.le_of_ble_eq_true rfl) ?_
        refine r_iload_n dX6_flush_8 rfl rfl ?_
        refine r_if_eq 16 dX6_flush_9 (by decide) (fun c_9 => ?_) (fun c_9 => absurd rfl c_9)
        refine r_aload_n dX6_flush_16 rfl rfl ?_
        refine r_iload_n dX6_flush_17 rfl rfl ?_
        refine r_iconst 3 dX6_flush_18 (by decide) ?_
        refine r_iconst 0 dX6_flush_19 (by decide) ?_
        refine r_iconst 0 dX6_flush_20 (by decide) ?_
        refine gV4 (Y := mX6_issue) (ci := 6) (N := 35) dX6_flush_21 mlX6_167 vkX6_issue (by first | rfl | assumption) ⟨by decide, rfl⟩ rfl gi ?_
        refine r_ireturn dX6_flush_24 rfl (Nat.zero_le _) (Nat.zero_le _) ?_
        exact ⟨rfl, rfl⟩
    · refine Both.same h1 ok (-4) ?_ (fun M1 h2 => ?_)
      · have es : ¬ M (24 + 2 * t) 2 = 0 := by rw [(h1.2.1.2.1 t ht).2.1]; exact nI_ne0 (by omega) (by omega)
        have gi := x_issue_not (kd := 3) (fi := 0) (mn := 0) ht (by decide) (fun z => absurd rfl z) es
        refine con_of (lv := [some (.ref 0), some (.int (nI t))]) (by decide) rfl (Nat.le_of_ble_eq_true rfl) (by simp [lvle]) ?_
        refine r_aload_n dX5_flush_0 rfl rfl ?_
        refine r_iload_n dX5_flush_1 rfl rfl ?_
        refine r_iconst 3 dX5_flush_2 (by decide) ?_
        refine r_iconst 0 dX5_flush_3 (by decide) ?_
        refine r_iconst 0 dX5_flush_4 (by decide) ?_
        refine gV4 (Y := mX5_issue) (ci := 5) (N := 10) dX5_flush_5 mlX5_98 vkX5_issue (by first | rfl | assumption) ⟨by decide, rfl⟩ rfl gi ?_
        refine r_ireturn dX5_flush_8 rfl (Nat.zero_le _) (Nat.zero_le _) ?_
        exact ⟨rfl, rfl⟩
      · have ga := m_ag_in (M := M1) (fi := 0) (mn := 1) ht (by decide) (by decide) (by decide) o1 (h2.2.1.2.1 t ht).1
        rw [if_neg hs] at ga
        refine con_of (lv := [some (.ref 40), some (.int (nI t)), none]) (by decide) rfl (Nat.le_of_ble_eq_true rfl) (by simp [lvle]) ?_
        refine r_aload_n dX6_flush_0 rfl rfl ?_
        refine r_iload_n dX6_flush_1 rfl rfl ?_
        refine r_iconst 0 dX6_flush_2 (by decide) ?_
        refine r_iconst 1 dX6_flush_3 (by decide) ?_
        refine gV3 (Y := mX6_against) (ci := 6) (N := 35) dX6_flush_4 mlX6_163 vkX6_against (by first | rfl | assumption) ⟨by decide, rfl⟩ rfl ga ?_
        refine r_istore_n2 dX6_flush_7 rfl (Nat.le_of_ble_eq_true rfl) ?_
        refine r_iload_n dX6_flush_8 rfl rfl ?_
        refine r_if_eq 16 dX6_flush_9 (by decide) (fun c_9 => absurd c_9 (by decide)) (fun c_9 => ?_)
        refine r_iload_n dX6_flush_12 rfl rfl ?_
        refine r_goto 24 dX6_flush_13 (by decide) ?_
        refine r_ireturn dX6_flush_24 rfl (Nat.zero_le _) (Nat.zero_le _) ?_
        exact ⟨rfl, rfl⟩
