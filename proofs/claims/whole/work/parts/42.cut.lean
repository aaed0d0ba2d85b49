def cutT (T : TSt) (n : Nat) : TSt := (fun a => if a < n ∧ T.1 a = 1 then 2 else T.1 a, T.2.1, T.2.2.1, T.2.2.2.1, T.2.2.2.2.1, fun a => if a < n ∧ T.1 a = 1 then 3 else T.2.2.2.2.2.1 a, T.2.2.2.2.2.2)
theorem cutT_0 {T : TSt} : cutT T 0 = T := by
  unfold cutT
  simp
theorem cutT_n {T : TSt} {k : Nat} (h : T.1 k ≠ 1) : cutT T (k + 1) = cutT T k := by
  have e : ∀ a, (a < k + 1 ∧ T.1 a = 1) ↔ (a < k ∧ T.1 a = 1) := by
    intro a
    constructor
    · rintro ⟨p, q⟩
      refine ⟨?_, q⟩
      rcases Nat.lt_or_ge a k with z | z
      · exact z
      · have : a = k := by omega
        exact absurd (this ▸ q) h
    · rintro ⟨p, q⟩; exact ⟨by omega, q⟩
  unfold cutT
  simp only [e]
theorem okT_cut {T : TSt} {n : Nat} (h : okT T) : okT (cutT T n) := by
  intro a ha
  obtain ⟨q1, q2, q3, q4, q5, q6, q7, q8⟩ := h a ha
  unfold cutT
  dsimp only
  by_cases z : a < n ∧ T.1 a = 1
  · rw [if_pos z, if_pos z]
    exact ⟨by omega, q2, q3, q4, q5, fun _ => q6 (by omega), q7, by omega⟩
  · rw [if_neg z, if_neg z]
    exact ⟨q1, q2, q3, q4, q5, q6, q7, q8⟩
def cutC : List Nat := [24, 26, 28, 30, 32, 34, 36, 38]
theorem memU {t : Nat} (ht : t < 8) : 24 + 2 * t ∈ cutC := by
  have : t = 0 ∨ t = 1 ∨ t = 2 ∨ t = 3 ∨ t = 4 ∨ t = 5 ∨ t = 6 ∨ t = 7 := by omega
  rcases this with rfl | rfl | rfl | rfl | rfl | rfl | rfl | rfl <;> decide
theorem cutT_y {T : TSt} {k a : Nat} (h : a ≠ k) : (cutT T (k + 1)).1 a = (cutT T k).1 a ∧ (cutT T (k + 1)).2.2.2.2.2.1 a = (cutT T k).2.2.2.2.2.1 a := by
  have e : (a < k + 1 ∧ T.1 a = 1) ↔ (a < k ∧ T.1 a = 1) := by
    constructor
    · rintro ⟨p, q⟩; exact ⟨by omega, q⟩
    · rintro ⟨p, q⟩; exact ⟨by omega, q⟩
  unfold cutT
  simp only [e]
  exact ⟨trivial, trivial⟩
theorem cutT_z {T : TSt} {k : Nat} (h : T.1 k = 1) : (cutT T (k + 1)).1 k = 2 ∧ (cutT T (k + 1)).2.2.2.2.2.1 k = 3 := by
  unfold cutT
  exact ⟨if_pos ⟨Nat.lt_succ_self k, h⟩, if_pos ⟨Nat.lt_succ_self k, h⟩⟩
theorem cutT_k {T : TSt} {k : Nat} : (cutT T k).1 k = T.1 k := by
  unfold cutT
  exact if_neg (fun q => absurd q.1 (Nat.lt_irrefl k))
set_option maxHeartbeats 600000 in
set_option maxRecDepth 100000 in
theorem x_cut_lp {T : TSt} {M0 : Mem} (ok : okT T) : ∀ (e k : Nat) (M : Mem), k + e = 8 → TC M (cutT T k) → FrS cutC [] M0 M → ∃ M', (∀ Q, WP mX5_cut 41 [some (.ref 0), none, none, none, none] [] 0 0 (shp, rfs, M') Q → WP mX5_cut 10 [some (.ref 0), some (.ref 22), some (.int (nI 8)), some (.int (nI k)), none] [] 0 0 (shp, rfs, M) Q) ∧ TC M' (cutT T 8) ∧ FrS cutC [] M0 M' := by
  intro e
  induction e with
  | zero =>
    intro k M hk h F
    have hk : k = 8 := by omega
    subst hk
    refine ⟨M, fun Q hq => ?_, h, F⟩
    refine r_iload_n dX5_cut_10 rfl rfl ?_
    refine r_iload_n dX5_cut_11 rfl rfl ?_
    refine r_icmp_ge 41 dX5_cut_12 (by decide) (fun c_12 => ?_) (fun c_12 => absurd (nI_le (Nat.le_refl _) (by decide)) c_12)
    exact r_weak (by simp [lvle] <;> (repeat' apply And.intro) <;> first | rfl | decide) hq
  | succ e ih =>
    intro k M hk h F
    obtain ⟨hc1, hc2, hc3⟩ := isCm_t k (by omega)
    have hcl : (nI k).toNatClampNeg = k := nI_clamp (by omega)
    have hrf := rf22 k (by omega)
    have e2 := (h k (by omega)).2.1
    rw [cutT_k] at e2
    have o1 := (ok k (by omega)).1
    by_cases hs : T.1 k = 1
    · rw [hs] at e2
      have g := x_end (M := M) (o := 3) (isCm_t k (by omega))
      obtain ⟨M', w, i1, i2⟩ := ih (k + 1) (upd2 (upd2 M (24 + 2 * k) 2 2) (24 + 2 * k) 7 3) (by omega) (fun a ha => by
        have q := h a ha
        by_cases hak : a = k
        · subst hak
          obtain ⟨z1, z2⟩ := cutT_z (T := T) hs
          have g : ∀ j, j ≠ 2 → j ≠ 7 → upd2 (upd2 M (24 + 2 * a) 2 2) (24 + 2 * a) 7 3 (24 + 2 * a) j = M (24 + 2 * a) j := fun j h2 h7 => by rw [u_sn h7, u_sn h2]
          rw [z1, z2, g 0 (by decide) (by decide), g 3 (by decide) (by decide), g 4 (by decide) (by decide), g 5 (by decide) (by decide), g 6 (by decide) (by decide), u_ss, u_sn (show (2 : Nat) ≠ 7 by decide), u_ss]
          exact ⟨q.1, rfl, q.2.2.1, q.2.2.2.1, q.2.2.2.2.1, q.2.2.2.2.2.1, rfl⟩
        · obtain ⟨z1, z2⟩ := cutT_y (T := T) hak
          rw [z1, z2]
          have f : ∀ j, upd2 (upd2 M (24 + 2 * k) 2 2) (24 + 2 * k) 7 3 (24 + 2 * a) j = M (24 + 2 * a) j := fun j => by rw [u_nn (by omega), u_nn (by omega)]
          simp only [f]
          exact q) ((F.upc (memU (by omega))).upc (memU (by omega)))
      refine ⟨M', fun Q hq => ?_, i1, i2⟩
      have w' := w Q hq
      refine r_iload_n dX5_cut_10 rfl rfl ?_
      refine r_iload_n dX5_cut_11 rfl rfl ?_
      refine r_icmp_ge 41 dX5_cut_12 (by decide) (fun c_12 => absurd c_12 (nI_ge (by omega) (by decide))) (fun c_12 => ?_)
      refine r_aload_n dX5_cut_15 rfl rfl ?_
      refine r_iload_n dX5_cut_16 rfl rfl ?_
      refine r_aaload dX5_cut_17 (by first | exact hc1 | exact hc2 | exact hc3 | rfl | exact hB1 | exact hB2 | exact hB3) (by exact vp_in_nI (by omega) (by decide)) (by rw [hcl]; exact hrf) ?_
      refine r_astore_4 dX5_cut_18 rfl (Nat.le_of_ble_eq_true rfl) ?_
      refine r_aload dX5_cut_20 rfl ?_
      refine r_getI (N := 8) dX5_cut_22 fwX5_133 (by first | exact hc1 | exact hc2 | exact hc3 | rfl | exact hB1 | exact hB2 | exact hB3) (Nat.le_of_ble_eq_true rfl) rfl ?_
      refine r_iconst 1 dX5_cut_25 (by decide) ?_
      rw [e2]
      refine r_icmp_ne 35 dX5_cut_26 (by decide) (fun c_26 => absurd rfl c_26) (fun c_26 => ?_)
      refine r_aload dX5_cut_29 rfl ?_
      refine r_iconst 3 dX5_cut_31 (by decide) ?_
      refine gW1 (Y := mX2_end) (ci := 2) (N := 8) dX5_cut_32 mlX5_124 vkX2_end (by first | exact hc1 | exact hc2 | exact hc3 | rfl | exact hB1 | exact hB2 | exact hB3) ⟨by decide, rfl⟩ rfl g ?_
      refine r_iinc_3 (_ + 1) dX5_cut_35 rfl (Nat.le_of_ble_eq_true rfl) rfl ?_
      refine r_goto 10 dX5_cut_38 (by decide) ?_
      rw [nI_1]
      exact r_weak (by simp [lvle] <;> (repeat' apply And.intro) <;> first | rfl | decide) w'
    · have hne : ¬ nI (T.1 k) = 1 := fun q => hs ((nI_eq (a := T.1 k) (b := 1) (by omega) (by decide)).mp q)
      obtain ⟨M', w, i1, i2⟩ := ih (k + 1) M (by omega) (by rw [cutT_n hs]; exact h) F
      refine ⟨M', fun Q hq => ?_, i1, i2⟩
      have w' := w Q hq
      refine r_iload_n dX5_cut_10 rfl rfl ?_
      refine r_iload_n dX5_cut_11 rfl rfl ?_
      refine r_icmp_ge 41 dX5_cut_12 (by decide) (fun c_12 => absurd c_12 (nI_ge (by omega) (by decide))) (fun c_12 => ?_)
      refine r_aload_n dX5_cut_15 rfl rfl ?_
      refine r_iload_n dX5_cut_16 rfl rfl ?_
      refine r_aaload dX5_cut_17 (by first | exact hc1 | exact hc2 | exact hc3 | rfl | exact hB1 | exact hB2 | exact hB3) (by exact vp_in_nI (by omega) (by decide)) (by rw [hcl]; exact hrf) ?_
      refine r_astore_4 dX5_cut_18 rfl (Nat.le_of_ble_eq_true rfl) ?_
      refine r_aload dX5_cut_20 rfl ?_
      refine r_getI (N := 8) dX5_cut_22 fwX5_133 (by first | exact hc1 | exact hc2 | exact hc3 | rfl | exact hB1 | exact hB2 | exact hB3) (Nat.le_of_ble_eq_true rfl) rfl ?_
      refine r_iconst 1 dX5_cut_25 (by decide) ?_
      rw [e2]
      refine r_icmp_ne 35 dX5_cut_26 (by decide) (fun c_26 => ?_) (fun c_26 => absurd c_26 hne)
      refine r_iinc_3 (_ + 1) dX5_cut_35 rfl (Nat.le_of_ble_eq_true rfl) rfl ?_
      refine r_goto 10 dX5_cut_38 (by decide) ?_
      rw [nI_1]
      exact r_weak (by simp [lvle] <;> (repeat' apply And.intro) <;> first | rfl | decide) w'
set_option maxHeartbeats 600000 in
set_option maxRecDepth 100000 in
theorem m_cut_lp {T : TSt} {M0 : Mem} {u : Int32} (ok : okT T) : ∀ (e k : Nat) (M : Mem), k + e = 8 → TM M (cutT T k) → FrS [54, 60] [] M0 M → ∃ M', WP mX6_cut 12 [some (.ref 40), some (.int u), some (.int (nI k))] [] 0 0 (shp, rfs, M) (fun r1 h1 => r1 = some (.int u) ∧ h1 = (shp, rfs, M')) ∧ TM M' (cutT T 8) ∧ FrS [54, 60] [] M0 M' := by
  intro e
  induction e with
  | zero =>
    intro k M hk h F
    have hk : k = 8 := by omega
    subst hk
    refine ⟨M, ?_, h, F⟩
    refine r_iload_n dX6_cut_12 rfl rfl ?_
    refine r_bipush 8 dX6_cut_13 (by decide) ?_
    refine r_icmp_ge 48 dX6_cut_15 (by decide) (fun c_15 => ?_) (fun c_15 => absurd (by decide) c_15)
    refine r_iload_n dX6_cut_48 rfl rfl ?_
    refine r_ireturn dX6_cut_49 rfl (Nat.zero_le _) (Nat.zero_le _) ?_
    exact ⟨rfl, rfl⟩
  | succ e ih =>
    intro k M hk h F
    have hcl : (nI k).toNatClampNeg = k := nI_clamp (by omega)
    have e2 := (h k (by omega)).1
    rw [cutT_k] at e2
    have o1 := (ok k (by omega)).1
    have c8 : ¬ (8 : Int32) ≤ nI k := nI_ge (a := k) (b := 8) (by omega) (by decide)
    by_cases hs : T.1 k = 1
    · rw [hs] at e2
      obtain ⟨M', w, i1, i2⟩ := ih (k + 1) (upd2 (upd2 M 54 k 2) 60 k 3) (by omega) (fun a ha => by
        have q := h a ha
        rw [u_nn (show (54 : Nat) ≠ 60 by decide), u_nn (show (55 : Nat) ≠ 60 by decide), u_nn (show (55 : Nat) ≠ 54 by decide), u_nn (show (56 : Nat) ≠ 60 by decide), u_nn (show (56 : Nat) ≠ 54 by decide), u_nn (show (57 : Nat) ≠ 60 by decide), u_nn (show (57 : Nat) ≠ 54 by decide), u_nn (show (59 : Nat) ≠ 60 by decide), u_nn (show (59 : Nat) ≠ 54 by decide)]
        by_cases hak : a = k
        · subst hak
          obtain ⟨z1, z2⟩ := cutT_z (T := T) hs
          rw [z1, z2, u_ss, u_ss]
          exact ⟨rfl, q.2.1, q.2.2.1, q.2.2.2.1, q.2.2.2.2.1, rfl⟩
        · obtain ⟨z1, z2⟩ := cutT_y (T := T) hak
          rw [z1, z2, u_sn hak, u_sn hak, u_nn (by decide)]
          exact q) ((F.upc (by decide)).upc (by decide))
      refine ⟨M', ?_, i1, i2⟩
      refine r_iload_n dX6_cut_12 rfl rfl ?_
      refine r_bipush 8 dX6_cut_13 (by decide) ?_
      refine r_icmp_ge 48 dX6_cut_15 (by decide) (fun c_15 => absurd c_15 c8) (fun c_15 => ?_)
      refine r_aload_n dX6_cut_18 rfl rfl ?_
      refine r_getR (N := 35) dX6_cut_19 fwX6_49 (by first | rfl | assumption) (Nat.le_of_ble_eq_true rfl) rfl (by first | rfl | assumption) ?_
      refine r_iload_n dX6_cut_22 rfl rfl ?_
      refine r_iaload dX6_cut_23 (by first | rfl | assumption) (by exact vp_in_nI (by omega) (by decide)) ?_
      refine r_iconst 1 dX6_cut_24 (by decide) ?_
      rw [hcl, e2]
      refine r_icmp_ne 42 dX6_cut_25 (by decide) (fun c_25 => absurd rfl c_25) (fun c_25 => ?_)
      refine r_aload_n dX6_cut_28 rfl rfl ?_
      refine r_getR (N := 35) dX6_cut_29 fwX6_49 (by first | rfl | assumption) (Nat.le_of_ble_eq_true rfl) rfl (by first | rfl | assumption) ?_
      refine r_iload_n dX6_cut_32 rfl rfl ?_
      refine r_iconst 2 dX6_cut_33 (by decide) ?_
      refine r_iastore dX6_cut_34 (by first | rfl | assumption) (by exact vp_in_nI (by omega) (by decide)) ?_
      rw [hcl]
      refine r_aload_n dX6_cut_35 rfl rfl ?_
      refine r_getR (N := 35) dX6_cut_36 fwX6_67 (by first | rfl | assumption) (Nat.le_of_ble_eq_true rfl) rfl (by first | rfl | assumption) ?_
      refine r_iload_n dX6_cut_39 rfl rfl ?_
      refine r_iconst 3 dX6_cut_40 (by decide) ?_
      refine r_iastore dX6_cut_41 (by first | rfl | assumption) (by exact vp_in_nI (by omega) (by decide)) ?_
      rw [hcl]
      refine r_iinc_2 (_ + 1) dX6_cut_42 rfl (Nat.le_of_ble_eq_true rfl) rfl ?_
      refine r_goto 12 dX6_cut_45 (by decide) ?_
      rw [nI_1]
      exact w
    · have hne : ¬ nI (T.1 k) = 1 := fun q => hs ((nI_eq (a := T.1 k) (b := 1) (by omega) (by decide)).mp q)
      obtain ⟨M', w, i1, i2⟩ := ih (k + 1) M (by omega) (by rw [cutT_n hs]; exact h) F
      refine ⟨M', ?_, i1, i2⟩
      refine r_iload_n dX6_cut_12 rfl rfl ?_
      refine r_bipush 8 dX6_cut_13 (by decide) ?_
      refine r_icmp_ge 48 dX6_cut_15 (by decide) (fun c_15 => absurd c_15 c8) (fun c_15 => ?_)
      refine r_aload_n dX6_cut_18 rfl rfl ?_
      refine r_getR (N := 35) dX6_cut_19 fwX6_49 (by first | rfl | assumption) (Nat.le_of_ble_eq_true rfl) rfl (by first | rfl | assumption) ?_
      refine r_iload_n dX6_cut_22 rfl rfl ?_
      refine r_iaload dX6_cut_23 (by first | rfl | assumption) (by exact vp_in_nI (by omega) (by decide)) ?_
      refine r_iconst 1 dX6_cut_24 (by decide) ?_
      rw [hcl, e2]
      refine r_icmp_ne 42 dX6_cut_25 (by decide) (fun c_25 => ?_) (fun c_25 => absurd c_25 hne)
      refine r_iinc_2 (_ + 1) dX6_cut_42 rfl (Nat.le_of_ble_eq_true rfl) rfl ?_
      refine r_goto 12 dX6_cut_45 (by decide) ?_
      rw [nI_1]
      exact w
theorem NC_cut {M M' : Mem} {T : TSt} (h : NC M T) (e : ∀ t, t < 8 → ∀ j, M' (25 + 2 * t) j = M (25 + 2 * t) j) : NC M' (cutT T 8) := by
  intro a ha
  simp only [e a ha]
  obtain ⟨p1, p2⟩ := h a ha
  unfold cutT
  dsimp only
  by_cases hs : T.1 a = 1
  · rw [if_pos ⟨ha, hs⟩, if_pos ⟨ha, hs⟩]
    exact ⟨fun z => absurd z (by decide), fun _ _ z => absurd z (by decide)⟩
  · rw [if_neg (fun q => hs q.2), if_neg (fun q => hs q.2)]
    exact ⟨p1, p2⟩
theorem NM_cut {M M' : Mem} {T : TSt} (h : NM M T) (e : ∀ j, M' 58 j = M 58 j) : NM M' (cutT T 8) := by
  intro a ha
  simp only [e]
  obtain ⟨p1, p2⟩ := h a ha
  unfold cutT
  dsimp only
  by_cases hs : T.1 a = 1
  · rw [if_pos ⟨ha, hs⟩, if_pos ⟨ha, hs⟩]
    exact ⟨fun z => absurd z (by decide), fun _ _ z => absurd z (by decide)⟩
  · rw [if_neg (fun q => hs q.2), if_neg (fun q => hs q.2)]
    exact ⟨p1, p2⟩
set_option maxHeartbeats 600000 in
set_option maxRecDepth 100000 in
theorem B_cut : Both mX5_cut mX6_cut [] := by
  refine Both.do (fun M c dn dp P s w is rm rr hc h1 ok => ?_)
  obtain ⟨k1, k2, k3, k4, k5, k6, k7, k8⟩ := ok
  obtain ⟨q1, ⟨⟨a1, a2, a3, a4, a5⟩, c6, c7, c8, c9⟩, q3, q4⟩ := h1
  obtain ⟨M1, w1, i1, F1⟩ := x_cut_lp (M0 := M) k3.2.1 8 0 M (by decide) (by rw [cutT_0]; exact c6) FrS.rf
  have gd := x_drop (M := M1)
  have F2 : FrS cutC [(14, 3)] M (upd2 M1 14 3 0) := (F1.mono (by simp) (by simp)).ups (by simp)
  rw [F1 14 3 (by decide) (by simp), a4.2.1] at gd
  have f : ∀ b k, b ∉ cutC → b ≠ 14 → upd2 M1 14 3 0 b k = M b k := fun b k hb h14 => F2 b k hb (by simp [h14])
  refine ⟨nI s.2.1.2.1, upd2 M1 14 3 0, dn, dp, P, (s.1, (s.2.1.1, 0, s.2.1.2.2), cutT s.2.2.1 8, s.2.2.2), w, is, rm, rr, ?_, ⟨q1.frS F2 (by decide) (by decide), ⟨⟨a1.frS F2 (by decide) (by decide), a2.frS F2 (by decide) (by decide), ?_, ⟨fun j hj => ?_, u_ss, fun j hj => absurd hj (by show ¬ j < 0; omega)⟩, ?_⟩, fun a ha => ?_, NC_cut c7 (fun t ht j => f _ j ?_ (by omega)), ?_, ?_⟩, ?_, fun i hi => ?_⟩, F2.mono (by decide) (by decide), ⟨k1, k2, ⟨⟨by show 0 ≤ 6; omega, fun j hj => absurd hj (by show ¬ j < 0; omega)⟩, okT_cut k3.2.1, k3.2.2⟩, k4, by omega, k6, by show s.1.1 ≤ _; omega, k8⟩, fun M1 h2 => ?_⟩
  · refine con_of (lv := [some (.ref 0), none, none, none, none]) (by decide) rfl (Nat.le_of_ble_eq_true rfl) (by simp [lvle]) ?_
    refine r_aload_n dX5_cut_0 rfl rfl ?_
    refine r_getR (N := 10) dX5_cut_1 fwX5_44 (by first | rfl | assumption) (Nat.le_of_ble_eq_true rfl) rfl (by first | rfl | assumption) ?_
    refine r_astore_n1 dX5_cut_4 rfl (Nat.le_of_ble_eq_true rfl) ?_
    refine r_aload_n dX5_cut_5 rfl rfl ?_
    refine r_alen dX5_cut_6 (by first | rfl | assumption) (by first | exact Or.inl rfl | exact Or.inr rfl) ?_
    refine r_istore_n2 dX5_cut_7 rfl (Nat.le_of_ble_eq_true rfl) ?_
    refine r_iconst 0 dX5_cut_8 (by decide) ?_
    refine r_istore_n3 dX5_cut_9 rfl (Nat.le_of_ble_eq_true rfl) ?_
    refine w1 _ ?_
    refine r_aload_n dX5_cut_41 rfl rfl ?_
    refine r_getR (N := 10) dX5_cut_42 fwX5_28 (by first | rfl | assumption) (Nat.le_of_ble_eq_true rfl) rfl (by first | rfl | assumption) ?_
    refine gV0 (Y := mX3_dropCache) (ci := 3) (N := 4) dX5_cut_45 mlX5_146 vkX3_dropCache (by first | rfl | assumption) ⟨by decide, rfl⟩ rfl gd ?_
    refine r_ireturn dX5_cut_48 rfl (Nat.zero_le _) (Nat.zero_le _) ?_
    exact ⟨rfl, rfl⟩
  · exact ⟨by rw [f _ _ (by decide) (by decide)]; exact a3.1, fun j q => by rw [f _ _ (by decide) (by decide)]; exact a3.2.1 j q, by rw [f _ _ (by decide) (by decide)]; exact a3.2.2.1, by rw [f _ _ (by decide) (by decide)]; exact a3.2.2.2.1, by rw [f _ _ (by decide) (by decide)]; exact a3.2.2.2.2.1, fun j q => by rw [f _ _ (by decide) (by decide)]; exact a3.2.2.2.2.2 j q⟩
  · rw [f _ _ (by decide) (by decide)]; exact a4.1 j hj
  · exact ⟨by rw [f _ _ (by decide) (by decide)]; exact a5.1, fun j q => by rw [f 11 _ (by decide) (by decide), f 12 _ (by decide) (by decide)]; exact a5.2 j q⟩
  · have g : ∀ k, upd2 M1 14 3 0 (24 + 2 * a) k = M1 (24 + 2 * a) k := fun k => u_nn (by omega)
    simp only [g]
    exact i1 a ha
  · unfold cutC; simp <;> omega
  · rw [f _ _ (by decide) (by decide)]; exact c8
  · rw [f _ _ (by decide) (by decide)]; exact c9
  · rw [f _ _ (by decide) (by decide)]; exact q3
  · rw [f _ _ (by decide) (by decide)]; exact q4 i hi
  · obtain ⟨p1, ⟨⟨b1, b3, b4, b5⟩, p6, p7, p8, p9⟩, p3, p4, p5⟩ := h2
    have G0 : FrS [54, 60] [(40, 18)] M1 (upd2 M1 40 18 0) := FrS.rf.ups (by decide)
    obtain ⟨M2, w2, j1, G1⟩ := m_cut_lp (M0 := upd2 M1 40 18 0) (u := nI s.2.1.2.1) k3.2.1 8 0 (upd2 M1 40 18 0) (by decide) (by
      rw [cutT_0]
      intro a ha
      rw [u_nn (by decide), u_nn (by decide), u_nn (by decide), u_nn (by decide), u_nn (by decide), u_nn (by decide)]
      exact p6 a ha) FrS.rf
    have G2 : FrS [54, 60] [(40, 18)] M1 M2 := G0.tr (G1.mono (by simp) (by simp))
    have f : ∀ b k, b ≠ 54 → b ≠ 60 → b ≠ 40 → M2 b k = M1 b k := fun b k h1 h2 h3 => G2 b k (by simp [h1, h2]) (by simp [h3])
    have g : ∀ k, k ≠ 18 → M2 40 k = M1 40 k := fun k h => G2 40 k (by decide) (by simp [h])
    have e18 := b4.2.1
    refine ⟨M2, ?_, ⟨⟨by rw [g _ (by decide)]; exact p1.1, fun j hj => by rw [f _ _ (by decide) (by decide) (by decide)]; exact p1.2 j hj⟩, ⟨⟨b1.frS G2 (by decide) (by decide), ?_, ⟨fun j hj => ?_, ?_, fun j hj => absurd hj (by show ¬ j < 0; omega)⟩, ?_⟩, j1, NM_cut p7 (fun j => f _ j (by decide) (by decide) (by decide)), ?_, ?_⟩, ?_, ?_, fun i hi => ?_⟩, G2.mono (by decide) (by decide)⟩
    · refine con_of (lv := [some (.ref 40), none, none]) (by decide) rfl (Nat.le_of_ble_eq_true rfl) (by simp [lvle]) ?_
      refine r_aload_n dX6_cut_0 rfl rfl ?_
      refine r_getI (N := 35) dX6_cut_1 fwX6_171 (by first | rfl | assumption) (Nat.le_of_ble_eq_true rfl) rfl ?_
      rw [e18]
      refine r_istore_n1 dX6_cut_4 rfl (Nat.le_of_ble_eq_true rfl) ?_
      refine r_aload_n dX6_cut_5 rfl rfl ?_
      refine r_iconst 0 dX6_cut_6 (by decide) ?_
      refine r_putI (N := 35) dX6_cut_7 fwX6_171 (by first | rfl | assumption) (Nat.le_of_ble_eq_true rfl) rfl (Or.inl rfl) rfl rfl ?_
      refine r_iconst 0 dX6_cut_10 (by decide) ?_
      refine r_istore_n2 dX6_cut_11 rfl (Nat.le_of_ble_eq_true rfl) ?_
      exact w2
    · exact ⟨by rw [g _ (by decide)]; exact b3.1, fun j q => by rw [f _ _ (by decide) (by decide) (by decide)]; exact b3.2.1 j q, by rw [g _ (by decide)]; exact b3.2.2.1, by rw [g _ (by decide)]; exact b3.2.2.2.1, by rw [g _ (by decide)]; exact b3.2.2.2.2.1, fun j q => by rw [f _ _ (by decide) (by decide) (by decide)]; exact b3.2.2.2.2.2 j q⟩
    · rw [f _ _ (by decide) (by decide) (by decide)]; exact b4.1 j hj
    · rw [G1 40 18 (by decide) (by simp), u_ss]; rfl
    · exact ⟨by rw [g _ (by decide)]; exact b5.1, fun j q => by rw [f 45 _ (by decide) (by decide) (by decide), f 46 _ (by decide) (by decide) (by decide)]; exact b5.2 j q⟩
    · rw [g _ (by decide)]; exact p8
    · rw [g _ (by decide)]; exact p9
    · rw [g _ (by decide)]; exact p3
    · rw [g _ (by decide)]; exact p4
    · rw [f _ _ (by decide) (by decide) (by decide)]; exact p5 i hi
def ct (f : Nat → Nat) (v : Nat) : Nat → Nat
  | 0 => 0
  | n + 1 => ct f v n + if f n = v then 1 else 0
set_option maxHeartbeats 600000 in
set_option maxRecDepth 100000 in
theorem x_at_lp {M : Mem} {T : TSt} {v : Nat} (h : TC M T) (ok : okT T) (hv : v < 3) : ∀ (e k : Nat), k + e = 8 → WP mX5_commandsAt 14 [some (.ref 0), some (.int (nI v)), some (.int (nI (ct T.1 v k))), some (.ref 22), some (.int (nI 8)), some (.int (nI k)), none] [] 0 0 (shp, rfs, M) (fun r1 h1 => r1 = some (.int (nI (ct T.1 v 8))) ∧ h1 = (shp, rfs, M)) := by
  intro e
  induction e with
  | zero =>
    intro k hk
    have hk : k = 8 := by omega
    subst hk
    refine r_iload dX5_commandsAt_14 rfl ?_
    refine r_iload dX5_commandsAt_16 rfl ?_
    refine r_icmp_ge 45 dX5_commandsAt_18 (by decide) (fun c_18 => ?_) (fun c_18 => absurd (nI_le (Nat.le_refl _) (by decide)) c_18)
    refine r_iload_n dX5_commandsAt_45 rfl rfl ?_
    refine r_ireturn dX5_commandsAt_46 rfl (Nat.zero_le _) (Nat.zero_le _) ?_
    exact ⟨rfl, rfl⟩
  | succ e ih =>
    intro k hk
    obtain ⟨hc1, hc2, hc3⟩ := isCm_t k (by omega)
    have hcl : (nI k).toNatClampNeg = k := nI_clamp (by omega)
    have hrf := rf22 k (by omega)
    have e2 := (h k (by omega)).2.1
    have o1 := (ok k (by omega)).1
    have i1 := ih (k + 1) (by omega)
    simp only [ct] at i1
    by_cases hs : T.1 k = v
    · rw [if_pos hs] at i1
      rw [hs] at e2
      refine r_iload dX5_commandsAt_14 rfl ?_
      refine r_iload dX5_commandsAt_16 rfl ?_
      refine r_icmp_ge 45 dX5_commandsAt_18 (by decide) (fun c_18 => absurd c_18 (nI_ge (by omega) (by decide))) (fun c_18 => ?_)
      refine r_aload_n dX5_commandsAt_21 rfl rfl ?_
      refine r_iload dX5_commandsAt_22 rfl ?_
      refine r_aaload dX5_commandsAt_24 (by first | exact hc1 | exact hc2 | exact hc3 | rfl | exact hB1 | exact hB2 | exact hB3) (by exact vp_in_nI (by omega) (by decide)) (by rw [hcl]; exact hrf) ?_
      refine r_astore_6 dX5_commandsAt_25 rfl (Nat.le_of_ble_eq_true rfl) ?_
      refine r_aload dX5_commandsAt_27 rfl ?_
      refine r_getI (N := 8) dX5_commandsAt_29 fwX5_133 (by first | exact hc1 | exact hc2 | exact hc3 | rfl | exact hB1 | exact hB2 | exact hB3) (Nat.le_of_ble_eq_true rfl) rfl ?_
      refine r_iload_n dX5_commandsAt_32 rfl rfl ?_
      rw [e2]
      refine r_icmp_ne 39 dX5_commandsAt_33 (by decide) (fun c_33 => absurd rfl c_33) (fun c_33 => ?_)
      refine r_iinc_2 (_ + 1) dX5_commandsAt_36 rfl (Nat.le_of_ble_eq_true rfl) rfl ?_
      refine r_iinc_5 (_ + 1) dX5_commandsAt_39 rfl (Nat.le_of_ble_eq_true rfl) rfl ?_
      refine r_goto 14 dX5_commandsAt_42 (by decide) ?_
      rw [nI_1, nI_1]
      exact r_weak (by simp [lvle] <;> (repeat' apply And.intro) <;> first | rfl | decide) i1
    · rw [if_neg hs, Nat.add_zero] at i1
      have hne : ¬ nI (T.1 k) = nI v := fun q => hs ((nI_eq (by omega) (by omega)).mp q)
      refine r_iload dX5_commandsAt_14 rfl ?_
      refine r_iload dX5_commandsAt_16 rfl ?_
      refine r_icmp_ge 45 dX5_commandsAt_18 (by decide) (fun c_18 => absurd c_18 (nI_ge (by omega) (by decide))) (fun c_18 => ?_)
      refine r_aload_n dX5_commandsAt_21 rfl rfl ?_
      refine r_iload dX5_commandsAt_22 rfl ?_
      refine r_aaload dX5_commandsAt_24 (by first | exact hc1 | exact hc2 | exact hc3 | rfl | exact hB1 | exact hB2 | exact hB3) (by exact vp_in_nI (by omega) (by decide)) (by rw [hcl]; exact hrf) ?_
      refine r_astore_6 dX5_commandsAt_25 rfl (Nat.le_of_ble_eq_true rfl) ?_
      refine r_aload dX5_commandsAt_27 rfl ?_
      refine r_getI (N := 8) dX5_commandsAt_29 fwX5_133 (by first | exact hc1 | exact hc2 | exact hc3 | rfl | exact hB1 | exact hB2 | exact hB3) (Nat.le_of_ble_eq_true rfl) rfl ?_
      refine r_iload_n dX5_commandsAt_32 rfl rfl ?_
      rw [e2]
      refine r_icmp_ne 39 dX5_commandsAt_33 (by decide) (fun c_33 => ?_) (fun c_33 => absurd c_33 hne)
      refine r_iinc_5 (_ + 1) dX5_commandsAt_39 rfl (Nat.le_of_ble_eq_true rfl) rfl ?_
      refine r_goto 14 dX5_commandsAt_42 (by decide) ?_
      rw [nI_1]
      exact r_weak (by simp [lvle] <;> (repeat' apply And.intro) <;> first | rfl | decide) i1
set_option maxHeartbeats 600000 in
set_option maxRecDepth 100000 in
theorem m_tags_lp {M : Mem} {T : TSt} {v : Nat} (h : TM M T) (ok : okT T) (hv : v < 3) : ∀ (e k : Nat), k + e = 8 → WP mX6_tags 4 [some (.ref 40), some (.int (nI v)), some (.int (nI (ct T.1 v k))), some (.int (nI k))] [] 0 0 (shp, rfs, M) (fun r1 h1 => r1 = some (.int (nI (ct T.1 v 8))) ∧ h1 = (shp, rfs, M)) := by
  intro e
  induction e with
  | zero =>
    intro k hk
    have hk : k = 8 := by omega
    subst hk
    refine r_iload_n dX6_tags_4 rfl rfl ?_
    refine r_bipush 8 dX6_tags_5 (by decide) ?_
    refine r_icmp_ge 34 dX6_tags_7 (by decide) (fun c_7 => ?_) (fun c_7 => absurd (by decide) c_7)
    refine r_iload_n dX6_tags_34 rfl rfl ?_
    refine r_ireturn dX6_tags_35 rfl (Nat.zero_le _) (Nat.zero_le _) ?_
    exact ⟨rfl, rfl⟩
  | succ e ih =>
    intro k hk
    have hcl : (nI k).toNatClampNeg = k := nI_clamp (by omega)
    have e2 := (h k (by omega)).1
    have o1 := (ok k (by omega)).1
    have i1 := ih (k + 1) (by omega)
    have c8 : ¬ (8 : Int32) ≤ nI k := nI_ge (a := k) (b := 8) (by omega) (by decide)
    simp only [ct] at i1
    by_cases hs : T.1 k = v
    · rw [if_pos hs] at i1
      rw [hs] at e2
      refine r_iload_n dX6_tags_4 rfl rfl ?_
      refine r_bipush 8 dX6_tags_5 (by decide) ?_
      refine r_icmp_ge 34 dX6_tags_7 (by decide) (fun c_7 => absurd c_7 c8) (fun c_7 => ?_)
      refine r_iload_n dX6_tags_10 rfl rfl ?_
      refine r_aload_n dX6_tags_11 rfl rfl ?_
      refine r_getR (N := 35) dX6_tags_12 fwX6_49 (by first | rfl | assumption) (Nat.le_of_ble_eq_true rfl) rfl (by first | rfl | assumption) ?_
      refine r_iload_n dX6_tags_15 rfl rfl ?_
      refine r_iaload dX6_tags_16 (by first | rfl | assumption) (by exact vp_in_nI (by omega) (by decide)) ?_
      refine r_iload_n dX6_tags_17 rfl rfl ?_
      rw [hcl, e2]
      refine r_icmp_ne 25 dX6_tags_18 (by decide) (fun c_18 => absurd rfl c_18) (fun c_18 => ?_)
      refine r_iconst 1 dX6_tags_21 (by decide) ?_
      refine r_goto 26 dX6_tags_22 (by decide) ?_
      refine r_iadd dX6_tags_26 ?_
      refine r_istore_n2 dX6_tags_27 rfl (Nat.le_of_ble_eq_true rfl) ?_
      refine r_iinc_3 (_ + 1) dX6_tags_28 rfl (Nat.le_of_ble_eq_true rfl) rfl ?_
      refine r_goto 4 dX6_tags_31 (by decide) ?_
      rw [nI_1, nI_1]
      exact i1
    · rw [if_neg hs] at i1
      have hne : ¬ nI (T.1 k) = nI v := fun q => hs ((nI_eq (by omega) (by omega)).mp q)
      have e0 : nI (ct T.1 v k) + 0 = nI (ct T.1 v k + 0) := nI_add _ 0
      refine r_iload_n dX6_tags_4 rfl rfl ?_
      refine r_bipush 8 dX6_tags_5 (by decide) ?_
      refine r_icmp_ge 34 dX6_tags_7 (by decide) (fun c_7 => absurd c_7 c8) (fun c_7 => ?_)
      refine r_iload_n dX6_tags_10 rfl rfl ?_
      refine r_aload_n dX6_tags_11 rfl rfl ?_
      refine r_getR (N := 35) dX6_tags_12 fwX6_49 (by first | rfl | assumption) (Nat.le_of_ble_eq_true rfl) rfl (by first | rfl | assumption) ?_
      refine r_iload_n dX6_tags_15 rfl rfl ?_
      refine r_iaload dX6_tags_16 (by first | rfl | assumption) (by exact vp_in_nI (by omega) (by decide)) ?_
      refine r_iload_n dX6_tags_17 rfl rfl ?_
      rw [hcl, e2]
      refine r_icmp_ne 25 dX6_tags_18 (by decide) (fun c_18 => ?_) (fun c_18 => absurd c_18 hne)
      refine r_iconst 0 dX6_tags_25 (by decide) ?_
      refine r_iadd dX6_tags_26 ?_
      refine r_istore_n2 dX6_tags_27 rfl (Nat.le_of_ble_eq_true rfl) ?_
      refine r_iinc_3 (_ + 1) dX6_tags_28 rfl (Nat.le_of_ble_eq_true rfl) rfl ?_
      refine r_goto 4 dX6_tags_31 (by decide) ?_
      rw [nI_1, e0]
      exact i1
set_option maxHeartbeats 600000 in
set_option maxRecDepth 100000 in
theorem x_at {M : Mem} {T : TSt} {v : Nat} (h : TC M T) (ok : okT T) (hv : v < 3) : Gv mX5_commandsAt [.ref 0, .int (nI v)] M (some (.int (nI (ct T.1 v 8)))) M := by
  have hl := x_at_lp h ok hv 8 0 rfl
  refine con_of (lv := [some (.ref 0), some (.int (nI v)), none, none, none, none, none]) (by decide) rfl (Nat.le_of_ble_eq_true rfl) (by simp [lvle]) ?_
  refine r_iconst 0 dX5_commandsAt_0 (by decide) ?_
  refine r_istore_n2 dX5_commandsAt_1 rfl (Nat.le_of_ble_eq_true rfl) ?_
  refine r_aload_n dX5_commandsAt_2 rfl rfl ?_
  refine r_getR (N := 10) dX5_commandsAt_3 fwX5_44 (by first | rfl | assumption) (Nat.le_of_ble_eq_true rfl) rfl (by first | rfl | assumption) ?_
  refine r_astore_n3 dX5_commandsAt_6 rfl (Nat.le_of_ble_eq_true rfl) ?_
  refine r_aload_n dX5_commandsAt_7 rfl rfl ?_
  refine r_alen dX5_commandsAt_8 (by first | rfl | assumption) (by first | exact Or.inl rfl | exact Or.inr rfl) ?_
  refine r_istore_4 dX5_commandsAt_9 rfl (Nat.le_of_ble_eq_true rfl) ?_
  refine r_iconst 0 dX5_commandsAt_11 (by decide) ?_
  refine r_istore_5 dX5_commandsAt_12 rfl (Nat.le_of_ble_eq_true rfl) ?_
  exact hl
set_option maxHeartbeats 600000 in
set_option maxRecDepth 100000 in
theorem m_tags {M : Mem} {T : TSt} {v : Nat} (h : TM M T) (ok : okT T) (hv : v < 3) : Gv mX6_tags [.ref 40, .int (nI v)] M (some (.int (nI (ct T.1 v 8)))) M := by
  have hl := m_tags_lp h ok hv 8 0 rfl
  refine con_of (lv := [some (.ref 40), some (.int (nI v)), none, none]) (by decide) rfl (Nat.le_of_ble_eq_true rfl) (by simp [lvle]) ?_
  refine r_iconst 0 dX6_tags_0 (by decide) ?_
  refine r_istore_n2 dX6_tags_1 rfl (Nat.le_of_ble_eq_true rfl) ?_
  refine r_iconst 0 dX6_tags_2 (by decide) ?_
  refine r_istore_n3 dX6_tags_3 rfl (Nat.le_of_ble_eq_true rfl) ?_
  exact hl
