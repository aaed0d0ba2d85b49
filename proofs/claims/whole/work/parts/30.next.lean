/-- the tags: stage, kind, first, many, turn, outcome, numbers -/
abbrev TSt : Type := (Nat → Nat) × (Nat → Nat) × (Nat → Nat) × (Nat → Nat) × (Nat → Nat) × (Nat → Nat) × (Nat → Nat → Int32)
def TC (M : Mem) (T : TSt) : Prop := ∀ t, t < 8 → M (24 + 2 * t) 0 = nI t ∧ M (24 + 2 * t) 2 = nI (T.1 t) ∧ M (24 + 2 * t) 3 = nI (T.2.1 t) ∧ M (24 + 2 * t) 4 = nI (T.2.2.1 t) ∧ M (24 + 2 * t) 5 = nI (T.2.2.2.1 t) ∧ M (24 + 2 * t) 6 = nI (T.2.2.2.2.1 t) ∧ M (24 + 2 * t) 7 = nI (T.2.2.2.2.2.1 t)
def TM (M : Mem) (T : TSt) : Prop := ∀ t, t < 8 → M 54 t = nI (T.1 t) ∧ M 55 t = nI (T.2.1 t) ∧ M 56 t = nI (T.2.2.1 t) ∧ M 57 t = nI (T.2.2.2.1 t) ∧ M 59 t = nI (T.2.2.2.2.1 t) ∧ M 60 t = nI (T.2.2.2.2.2.1 t)
def okT (T : TSt) : Prop := ∀ t, t < 8 → T.1 t ≤ 2 ∧ T.2.1 t ≤ 3 ∧ T.2.2.1 t ≤ 63 ∧ T.2.2.2.1 t ≤ 4 ∧ (T.2.1 t = 3 → T.2.2.2.1 t = 0) ∧ (T.1 t ≠ 0 → T.2.1 t ≠ 3 → 1 ≤ T.2.2.2.1 t) ∧ T.2.2.2.2.1 t < 100000 ∧ T.2.2.2.2.2.1 t ≤ 3
def dst (l : Nat) (T : TSt) (a : Nat) : Nat := if T.2.2.1 a < l then T.2.2.1 a + 64 else T.2.2.1 a
def ahd (w l : Nat) (T : TSt) (a b : Nat) : Bool := if w = 0 then decide (T.2.2.2.2.1 a < T.2.2.2.2.1 b) else if w = 2 then decide (b < a) else decide (dst l T a < dst l T b)
def nxf (w l : Nat) (T : TSt) : Nat → Option Nat
  | 0 => none
  | t + 1 => match nxf w l T t with
    | none => if T.1 t = 1 then some t else none
    | some b => if T.1 t = 1 then (if ahd w l T t b = true then some t else some b) else some b
theorem nxf_some {w l : Nat} {T : TSt} : ∀ n b, nxf w l T n = some b → b < n ∧ T.1 b = 1
  | 0, b, h => by cases h
  | n + 1, b, h => by
    simp only [nxf] at h
    cases hq : nxf w l T n with
    | none =>
      rw [hq] at h
      dsimp only at h
      split at h
      · cases h; exact ⟨by omega, by assumption⟩
      · cases h
    | some c =>
      have ih := nxf_some n c hq
      rw [hq] at h
      dsimp only at h
      split at h
      · split at h
        · cases h; exact ⟨by omega, by assumption⟩
        · cases h; exact ⟨by omega, ih.2⟩
      · cases h; exact ⟨by omega, ih.2⟩
theorem nxf_none {w l : Nat} {T : TSt} : ∀ n, nxf w l T n = none → ∀ t, t < n → T.1 t ≠ 1
  | 0, _, t, h => absurd h (by omega)
  | n + 1, h, t, ht => by
    simp only [nxf] at h
    cases hq : nxf w l T n with
    | none =>
      rw [hq] at h
      dsimp only at h
      split at h
      · cases h
      · by_cases htn : t = n
        · rw [htn]; assumption
        · exact nxf_none n hq t (by omega)
    | some c =>
      rw [hq] at h
      dsimp only at h
      split at h
      · split at h <;> cases h
      · cases h
def vb : Option Nat → Value
  | none => .null
  | some b => .ref (24 + 2 * b)
set_option maxHeartbeats 600000 in
set_option maxRecDepth 100000 in
theorem x_dist {M : Mem} {T : TSt} {a l : Nat} (ha : a < 8) (h : TC M T) (ok : okT T) (hl : M 0 8 = nI l) (hl2 : l < 100000) : Gv mX5_distance [.ref 0, .ref (24 + 2 * a)] M (some (.int (nI (dst l T a)))) M := by
  obtain ⟨hc1, hc2, hc3⟩ := isCm_t a ha
  obtain ⟨-, -, -, e4, -⟩ := h a ha
  obtain ⟨-, -, o4, -⟩ := ok a ha
  have h64 : nI (T.2.2.1 a) + 64 = nI (T.2.2.1 a + 64) := nI_add _ 64
  refine con_of (lv := [some (.ref 0), some (.ref (24 + 2 * a))]) (by decide) rfl (Nat.le_of_ble_eq_true rfl) (by simp [lvle]) ?_
  unfold dst
  by_cases hlt : T.2.2.1 a < l
  · rw [if_pos hlt]
    refine r_aload_n dX5_distance_0 rfl rfl ?_
    refine r_getI (N := 8) dX5_distance_1 fwX5_195 (by first | exact hc1 | exact hc2 | exact hc3 | rfl | exact hB1 | exact hB2 | exact hB3) (Nat.le_of_ble_eq_true rfl) rfl ?_
    refine r_aload_n dX5_distance_4 rfl rfl ?_
    refine r_getI (N := 10) dX5_distance_5 fwX5_117 (by first | exact hc1 | exact hc2 | exact hc3 | rfl | exact hB1 | exact hB2 | exact hB3) (Nat.le_of_ble_eq_true rfl) rfl ?_
    rw [e4, hl]
    refine r_icmp_ge 21 dX5_distance_8 (by decide) (fun c_8 => absurd c_8 (nI_ge hlt (by omega))) (fun c_8 => ?_)
    refine r_aload_n dX5_distance_11 rfl rfl ?_
    refine r_getI (N := 8) dX5_distance_12 fwX5_195 (by first | exact hc1 | exact hc2 | exact hc3 | rfl | exact hB1 | exact hB2 | exact hB3) (Nat.le_of_ble_eq_true rfl) rfl ?_
    refine r_bipush 64 dX5_distance_15 (by decide) ?_
    rw [e4]
    refine r_iadd dX5_distance_17 ?_
    rw [h64]
    refine r_goto 25 dX5_distance_18 (by decide) ?_
    refine r_ireturn dX5_distance_25 rfl (Nat.zero_le _) (Nat.zero_le _) ?_
    exact ⟨rfl, rfl⟩
  · rw [if_neg hlt]
    refine r_aload_n dX5_distance_0 rfl rfl ?_
    refine r_getI (N := 8) dX5_distance_1 fwX5_195 (by first | exact hc1 | exact hc2 | exact hc3 | rfl | exact hB1 | exact hB2 | exact hB3) (Nat.le_of_ble_eq_true rfl) rfl ?_
    refine r_aload_n dX5_distance_4 rfl rfl ?_
    refine r_getI (N := 10) dX5_distance_5 fwX5_117 (by first | exact hc1 | exact hc2 | exact hc3 | rfl | exact hB1 | exact hB2 | exact hB3) (Nat.le_of_ble_eq_true rfl) rfl ?_
    rw [e4, hl]
    refine r_icmp_ge 21 dX5_distance_8 (by decide) (fun c_8 => ?_) (fun c_8 => absurd (nI_le (by omega) (by omega)) c_8)
    refine r_aload_n dX5_distance_21 rfl rfl ?_
    refine r_getI (N := 8) dX5_distance_22 fwX5_195 (by first | exact hc1 | exact hc2 | exact hc3 | rfl | exact hB1 | exact hB2 | exact hB3) (Nat.le_of_ble_eq_true rfl) rfl ?_
    rw [e4]
    refine r_ireturn dX5_distance_25 rfl (Nat.zero_le _) (Nat.zero_le _) ?_
    exact ⟨rfl, rfl⟩
set_option maxHeartbeats 600000 in
set_option maxRecDepth 100000 in
theorem x_goes {M : Mem} {T : TSt} {a b w l : Nat} (ha : a < 8) (hb : b < 8) (h : TC M T) (ok : okT T) (hw : M 0 7 = nI w) (hw2 : w ≤ 2) (hl : M 0 8 = nI l) (hl2 : l < 100000) : Gv mX5_goesAhead [.ref 0, .ref (24 + 2 * a), .ref (24 + 2 * b)] M (some (.int (eI (ahd w l T a b)))) M := by
  obtain ⟨hc1, hc2, hc3⟩ := isCm_t a ha
  obtain ⟨hB1, hB2, hB3⟩ := isCm_t b hb
  obtain ⟨ea0, -, -, ea4, -, ea6, -⟩ := h a ha
  obtain ⟨eb0, -, -, eb4, -, eb6, -⟩ := h b hb
  obtain ⟨-, -, oa3, -, -, -, oa6, -⟩ := ok a ha
  obtain ⟨-, -, ob3, -, -, -, ob6, -⟩ := ok b hb
  have ga := x_dist ha h ok hl hl2
  have gb := x_dist hb h ok hl hl2
  have da : dst l T a < 200 := by unfold dst; split <;> omega
  have db : dst l T b < 200 := by unfold dst; split <;> omega
  refine con_of (lv := [some (.ref 0), some (.ref (24 + 2 * a)), some (.ref (24 + 2 * b))]) (by decide) rfl (Nat.le_of_ble_eq_true rfl) (by simp [lvle]) ?_
  refine r_aload_n dX5_goesAhead_0 rfl rfl ?_
  refine r_getI (N := 10) dX5_goesAhead_1 fwX5_52 rfl (Nat.le_of_ble_eq_true rfl) rfl ?_
  rw [hw]
  unfold ahd
  have hw3 : w = 0 ∨ w = 1 ∨ w = 2 := by omega
  rcases hw3 with rfl | rfl | rfl
  · refine r_lookup (off := 64) 68 dX5_goesAhead_4 (by decide) (by decide) (by decide) ?_
    rw [if_pos rfl]
    by_cases hlt : T.2.2.2.2.1 a < T.2.2.2.2.1 b
    · rw [decide_eq_true hlt]
      refine r_aload_n dX5_goesAhead_68 rfl rfl ?_
      refine r_getI (N := 8) dX5_goesAhead_69 fwX5_192 (by first | exact hc1 | exact hc2 | exact hc3 | rfl | exact hB1 | exact hB2 | exact hB3) (Nat.le_of_ble_eq_true rfl) rfl ?_
      refine r_aload_n dX5_goesAhead_72 rfl rfl ?_
      refine r_getI (N := 8) dX5_goesAhead_73 fwX5_192 (by first | exact hc1 | exact hc2 | exact hc3 | rfl | exact hB1 | exact hB2 | exact hB3) (Nat.le_of_ble_eq_true rfl) rfl ?_
      rw [ea6, eb6]
      refine r_icmp_ge 83 dX5_goesAhead_76 (by decide) (fun c_76 => absurd c_76 (nI_ge hlt (by omega))) (fun c_76 => ?_)
      refine r_iconst 1 dX5_goesAhead_79 (by decide) ?_
      refine r_goto 84 dX5_goesAhead_80 (by decide) ?_
      refine r_zreturn dX5_goesAhead_84 rfl (by decide) (Nat.zero_le _) (Nat.zero_le _) ?_
      exact ⟨rfl, rfl⟩
    · rw [decide_eq_false hlt]
      refine r_aload_n dX5_goesAhead_68 rfl rfl ?_
      refine r_getI (N := 8) dX5_goesAhead_69 fwX5_192 (by first | exact hc1 | exact hc2 | exact hc3 | rfl | exact hB1 | exact hB2 | exact hB3) (Nat.le_of_ble_eq_true rfl) rfl ?_
      refine r_aload_n dX5_goesAhead_72 rfl rfl ?_
      refine r_getI (N := 8) dX5_goesAhead_73 fwX5_192 (by first | exact hc1 | exact hc2 | exact hc3 | rfl | exact hB1 | exact hB2 | exact hB3) (Nat.le_of_ble_eq_true rfl) rfl ?_
      rw [ea6, eb6]
      refine r_icmp_ge 83 dX5_goesAhead_76 (by decide) (fun c_76 => ?_) (fun c_76 => absurd (nI_le (by omega) (by omega)) c_76)
      refine r_iconst 0 dX5_goesAhead_83 (by decide) ?_
      refine r_zreturn dX5_goesAhead_84 rfl (by decide) (Nat.zero_le _) (Nat.zero_le _) ?_
      exact ⟨rfl, rfl⟩
  · refine r_lookup (off := 28) 32 dX5_goesAhead_4 (by decide) (by decide) (by decide) ?_
    rw [if_neg (by decide), if_neg (by decide)]
    by_cases hlt : dst l T a < dst l T b
    · rw [decide_eq_true hlt]
      refine r_aload_n dX5_goesAhead_32 rfl rfl ?_
      refine r_aload_n dX5_goesAhead_33 rfl rfl ?_
      refine gV1 (Y := mX5_distance) (ci := 5) (N := 10) dX5_goesAhead_34 mlX5_189 vkX5_distance (by first | exact hc1 | exact hc2 | exact hc3 | rfl | exact hB1 | exact hB2 | exact hB3) ⟨by decide, rfl⟩ rfl ga ?_
      refine r_aload_n dX5_goesAhead_37 rfl rfl ?_
      refine r_aload_n dX5_goesAhead_38 rfl rfl ?_
      refine gV1 (Y := mX5_distance) (ci := 5) (N := 10) dX5_goesAhead_39 mlX5_189 vkX5_distance (by first | exact hc1 | exact hc2 | exact hc3 | rfl | exact hB1 | exact hB2 | exact hB3) ⟨by decide, rfl⟩ rfl gb ?_
      refine r_icmp_ge 49 dX5_goesAhead_42 (by decide) (fun c_42 => absurd c_42 (nI_ge hlt (by omega))) (fun c_42 => ?_)
      refine r_iconst 1 dX5_goesAhead_45 (by decide) ?_
      refine r_goto 50 dX5_goesAhead_46 (by decide) ?_
      refine r_zreturn dX5_goesAhead_50 rfl (by decide) (Nat.zero_le _) (Nat.zero_le _) ?_
      exact ⟨rfl, rfl⟩
    · rw [decide_eq_false hlt]
      refine r_aload_n dX5_goesAhead_32 rfl rfl ?_
      refine r_aload_n dX5_goesAhead_33 rfl rfl ?_
      refine gV1 (Y := mX5_distance) (ci := 5) (N := 10) dX5_goesAhead_34 mlX5_189 vkX5_distance (by first | exact hc1 | exact hc2 | exact hc3 | rfl | exact hB1 | exact hB2 | exact hB3) ⟨by decide, rfl⟩ rfl ga ?_
      refine r_aload_n dX5_goesAhead_37 rfl rfl ?_
      refine r_aload_n dX5_goesAhead_38 rfl rfl ?_
      refine gV1 (Y := mX5_distance) (ci := 5) (N := 10) dX5_goesAhead_39 mlX5_189 vkX5_distance (by first | exact hc1 | exact hc2 | exact hc3 | rfl | exact hB1 | exact hB2 | exact hB3) ⟨by decide, rfl⟩ rfl gb ?_
      refine r_icmp_ge 49 dX5_goesAhead_42 (by decide) (fun c_42 => ?_) (fun c_42 => absurd (nI_le (by omega) (by omega)) c_42)
      refine r_iconst 0 dX5_goesAhead_49 (by decide) ?_
      refine r_zreturn dX5_goesAhead_50 rfl (by decide) (Nat.zero_le _) (Nat.zero_le _) ?_
      exact ⟨rfl, rfl⟩
  · refine r_lookup (off := 47) 51 dX5_goesAhead_4 (by decide) (by decide) (by decide) ?_
    rw [if_neg (by decide), if_pos rfl]
    by_cases hlt : b < a
    · rw [decide_eq_true hlt]
      refine r_aload_n dX5_goesAhead_51 rfl rfl ?_
      refine r_getI (N := 8) dX5_goesAhead_52 fwX5_127 (by first | exact hc1 | exact hc2 | exact hc3 | rfl | exact hB1 | exact hB2 | exact hB3) (Nat.le_of_ble_eq_true rfl) rfl ?_
      refine r_aload_n dX5_goesAhead_55 rfl rfl ?_
      refine r_getI (N := 8) dX5_goesAhead_56 fwX5_127 (by first | exact hc1 | exact hc2 | exact hc3 | rfl | exact hB1 | exact hB2 | exact hB3) (Nat.le_of_ble_eq_true rfl) rfl ?_
      rw [ea0, eb0]
      refine r_icmp_le 66 dX5_goesAhead_59 (by decide) (fun c_59 => absurd c_59 (nI_ge hlt (by omega))) (fun c_59 => ?_)
      refine r_iconst 1 dX5_goesAhead_62 (by decide) ?_
      refine r_goto 67 dX5_goesAhead_63 (by decide) ?_
      refine r_zreturn dX5_goesAhead_67 rfl (by decide) (Nat.zero_le _) (Nat.zero_le _) ?_
      exact ⟨rfl, rfl⟩
    · rw [decide_eq_false hlt]
      refine r_aload_n dX5_goesAhead_51 rfl rfl ?_
      refine r_getI (N := 8) dX5_goesAhead_52 fwX5_127 (by first | exact hc1 | exact hc2 | exact hc3 | rfl | exact hB1 | exact hB2 | exact hB3) (Nat.le_of_ble_eq_true rfl) rfl ?_
      refine r_aload_n dX5_goesAhead_55 rfl rfl ?_
      refine r_getI (N := 8) dX5_goesAhead_56 fwX5_127 (by first | exact hc1 | exact hc2 | exact hc3 | rfl | exact hB1 | exact hB2 | exact hB3) (Nat.le_of_ble_eq_true rfl) rfl ?_
      rw [ea0, eb0]
      refine r_icmp_le 66 dX5_goesAhead_59 (by decide) (fun c_59 => ?_) (fun c_59 => absurd (nI_le (by omega) (by omega)) c_59)
      refine r_iconst 0 dX5_goesAhead_66 (by decide) ?_
      refine r_zreturn dX5_goesAhead_67 rfl (by decide) (Nat.zero_le _) (Nat.zero_le _) ?_
      exact ⟨rfl, rfl⟩
theorem rf22 : ∀ t, t < 8 → rfs 22 t = some (24 + 2 * t)
  | 0, _ => rfl
  | 1, _ => rfl
  | 2, _ => rfl
  | 3, _ => rfl
  | 4, _ => rfl
  | 5, _ => rfl
  | 6, _ => rfl
  | 7, _ => rfl
  | n + 8, h => absurd h (by omega)
set_option maxHeartbeats 600000 in
set_option maxRecDepth 100000 in
theorem x_next_lp {M : Mem} {T : TSt} {w l : Nat} (h : TC M T) (ok : okT T) (hw : M 0 7 = nI w) (hw2 : w ≤ 2) (hl : M 0 8 = nI l) (hl2 : l < 100000) : ∀ (e t : Nat), t + e = 8 → WP mX5_nextCommand 13 [some (.ref 0), some (vb (nxf w l T t)), some (.ref 22), some (.int (nI 8)), some (.int (nI t)), none] [] 0 0 (shp, rfs, M) (fun r1 h1 => r1 = some (vb (nxf w l T 8)) ∧ h1 = (shp, rfs, M)) := by
  intro e
  induction e with
  | zero =>
    intro t ht
    have ht : t = 8 := by omega
    subst ht
    cases hq : nxf w l T 8 with
    | none =>
      simp only [vb]
      refine r_iload dX5_nextCommand_13 rfl ?_
      refine r_iload_n dX5_nextCommand_15 rfl rfl ?_
      refine r_icmp_ge 57 dX5_nextCommand_16 (by decide) (fun c_16 => ?_) (fun c_16 => absurd (nI_le (Nat.le_refl _) (by decide)) c_16)
      refine r_aload_nN dX5_nextCommand_57 rfl rfl ?_
      refine r_areturn dX5_nextCommand_58 rfl (Or.inl ⟨_, rfl⟩) (by first | exact Or.inl rfl | exact Or.inr ⟨_, rfl⟩) (Nat.zero_le _) (Nat.zero_le _) ?_
      exact ⟨rfl, rfl⟩
    | some b =>
      simp only [vb]
      refine r_iload dX5_nextCommand_13 rfl ?_
      refine r_iload_n dX5_nextCommand_15 rfl rfl ?_
      refine r_icmp_ge 57 dX5_nextCommand_16 (by decide) (fun c_16 => ?_) (fun c_16 => absurd (nI_le (Nat.le_refl _) (by decide)) c_16)
      refine r_aload_n dX5_nextCommand_57 rfl rfl ?_
      refine r_areturn dX5_nextCommand_58 rfl (Or.inl ⟨_, rfl⟩) (by first | exact Or.inl rfl | exact Or.inr ⟨_, rfl⟩) (Nat.zero_le _) (Nat.zero_le _) ?_
      exact ⟨rfl, rfl⟩
  | succ e ih =>
    intro t ht
    obtain ⟨hc1, hc2, hc3⟩ := isCm_t t (by omega)
    have hcl : (nI t).toNatClampNeg = t := nI_clamp (by omega)
    have hrf := rf22 t (by omega)
    obtain ⟨-, e2, -⟩ := h t (by omega)
    obtain ⟨o1, -⟩ := ok t (by omega)
    have i1 := ih (t + 1) (by omega)
    simp only [nxf] at i1
    cases hq : nxf w l T t with
    | none =>
      rw [hq] at i1
      dsimp only at i1
      simp only [vb]
      by_cases hs : T.1 t = 1
      · rw [if_pos hs] at i1
        rw [hs] at e2
        refine r_iload dX5_nextCommand_13 rfl ?_
        refine r_iload_n dX5_nextCommand_15 rfl rfl ?_
        refine r_icmp_ge 57 dX5_nextCommand_16 (by decide) (fun c_16 => absurd c_16 (nI_ge (by omega) (by decide))) (fun c_16 => ?_)
        refine r_aload_n dX5_nextCommand_19 rfl rfl ?_
        refine r_iload dX5_nextCommand_20 rfl ?_
        refine r_aaload dX5_nextCommand_22 (by first | exact hc1 | exact hc2 | exact hc3 | rfl | exact hB1 | exact hB2 | exact hB3) (by exact vp_in_nI (by omega) (by decide)) (by rw [hcl]; exact hrf) ?_
        refine r_astore_5 dX5_nextCommand_23 rfl (Nat.le_of_ble_eq_true rfl) ?_
        refine r_aload dX5_nextCommand_25 rfl ?_
        refine r_getI (N := 8) dX5_nextCommand_27 fwX5_133 (by first | exact hc1 | exact hc2 | exact hc3 | rfl | exact hB1 | exact hB2 | exact hB3) (Nat.le_of_ble_eq_true rfl) rfl ?_
        refine r_iconst 1 dX5_nextCommand_30 (by decide) ?_
        rw [e2]
        refine r_icmp_ne 51 dX5_nextCommand_31 (by decide) (fun c_31 => absurd rfl c_31) (fun c_31 => ?_)
        refine r_aload_nN dX5_nextCommand_34 rfl rfl ?_
        refine r_ifnullN 48 dX5_nextCommand_35 (by decide) ?_
        refine r_aload dX5_nextCommand_48 rfl ?_
        refine r_astore_n1 dX5_nextCommand_50 rfl (Nat.le_of_ble_eq_true rfl) ?_
        refine r_iinc_4 (_ + 1) dX5_nextCommand_51 rfl (Nat.le_of_ble_eq_true rfl) rfl ?_
        refine r_goto 13 dX5_nextCommand_54 (by decide) ?_
        rw [nI_1]
        exact r_weak (by simp [lvle] <;> (repeat' apply And.intro) <;> first | rfl | decide) i1
      · rw [if_neg hs] at i1
        refine r_iload dX5_nextCommand_13 rfl ?_
        refine r_iload_n dX5_nextCommand_15 rfl rfl ?_
        refine r_icmp_ge 57 dX5_nextCommand_16 (by decide) (fun c_16 => absurd c_16 (nI_ge (by omega) (by decide))) (fun c_16 => ?_)
        refine r_aload_n dX5_nextCommand_19 rfl rfl ?_
        refine r_iload dX5_nextCommand_20 rfl ?_
        refine r_aaload dX5_nextCommand_22 (by first | exact hc1 | exact hc2 | exact hc3 | rfl | exact hB1 | exact hB2 | exact hB3) (by exact vp_in_nI (by omega) (by decide)) (by rw [hcl]; exact hrf) ?_
        refine r_astore_5 dX5_nextCommand_23 rfl (Nat.le_of_ble_eq_true rfl) ?_
        refine r_aload dX5_nextCommand_25 rfl ?_
        refine r_getI (N := 8) dX5_nextCommand_27 fwX5_133 (by first | exact hc1 | exact hc2 | exact hc3 | rfl | exact hB1 | exact hB2 | exact hB3) (Nat.le_of_ble_eq_true rfl) rfl ?_
        refine r_iconst 1 dX5_nextCommand_30 (by decide) ?_
        rw [e2]
        refine r_icmp_ne 51 dX5_nextCommand_31 (by decide) (fun c_31 => ?_) (fun c_31 => absurd ((nI_eq (a := T.1 t) (b := 1) (by omega) (by decide)).mp c_31) hs)
        refine r_iinc_4 (_ + 1) dX5_nextCommand_51 rfl (Nat.le_of_ble_eq_true rfl) rfl ?_
        refine r_goto 13 dX5_nextCommand_54 (by decide) ?_
        rw [nI_1]
        exact r_weak (by simp [lvle] <;> (repeat' apply And.intro) <;> first | rfl | decide) i1
    | some b =>
      rw [hq] at i1
      dsimp only at i1
      simp only [vb]
      have hb := (nxf_some t b hq).1
      have gg := x_goes (a := t) (b := b) (by omega) (by omega) h ok hw hw2 hl hl2
      by_cases hs : T.1 t = 1
      · rw [if_pos hs] at i1
        rw [hs] at e2
        clear hq
        cases ha : ahd w l T t b with
        | true =>
          rw [ha] at gg i1
          rw [if_pos rfl] at i1
          refine r_iload dX5_nextCommand_13 rfl ?_
          refine r_iload_n dX5_nextCommand_15 rfl rfl ?_
          refine r_icmp_ge 57 dX5_nextCommand_16 (by decide) (fun c_16 => absurd c_16 (nI_ge (by omega) (by decide))) (fun c_16 => ?_)
          refine r_aload_n dX5_nextCommand_19 rfl rfl ?_
          refine r_iload dX5_nextCommand_20 rfl ?_
          refine r_aaload dX5_nextCommand_22 (by first | exact hc1 | exact hc2 | exact hc3 | rfl | exact hB1 | exact hB2 | exact hB3) (by exact vp_in_nI (by omega) (by decide)) (by rw [hcl]; exact hrf) ?_
          refine r_astore_5 dX5_nextCommand_23 rfl (Nat.le_of_ble_eq_true rfl) ?_
          refine r_aload dX5_nextCommand_25 rfl ?_
          refine r_getI (N := 8) dX5_nextCommand_27 fwX5_133 (by first | exact hc1 | exact hc2 | exact hc3 | rfl | exact hB1 | exact hB2 | exact hB3) (Nat.le_of_ble_eq_true rfl) rfl ?_
          refine r_iconst 1 dX5_nextCommand_30 (by decide) ?_
          rw [e2]
          refine r_icmp_ne 51 dX5_nextCommand_31 (by decide) (fun c_31 => absurd rfl c_31) (fun c_31 => ?_)
          refine r_aload_n dX5_nextCommand_34 rfl rfl ?_
          refine r_ifnull dX5_nextCommand_35 ?_
          refine r_aload_n dX5_nextCommand_38 rfl rfl ?_
          refine r_aload dX5_nextCommand_39 rfl ?_
          refine r_aload_n dX5_nextCommand_41 rfl rfl ?_
          refine gV2 (Y := mX5_goesAhead) (ci := 5) (N := 10) dX5_nextCommand_42 mlX5_185 vkX5_goesAhead (by first | exact hc1 | exact hc2 | exact hc3 | rfl | exact hB1 | exact hB2 | exact hB3) ⟨by decide, rfl⟩ rfl gg ?_
          refine r_if_eq 51 dX5_nextCommand_45 (by decide) (fun c_45 => absurd c_45 (by decide)) (fun c_45 => ?_)
          refine r_aload dX5_nextCommand_48 rfl ?_
          refine r_astore_n1 dX5_nextCommand_50 rfl (Nat.le_of_ble_eq_true rfl) ?_
          refine r_iinc_4 (_ + 1) dX5_nextCommand_51 rfl (Nat.le_of_ble_eq_true rfl) rfl ?_
          refine r_goto 13 dX5_nextCommand_54 (by decide) ?_
          rw [nI_1]
          exact r_weak (by simp [lvle] <;> (repeat' apply And.intro) <;> first | rfl | decide) i1
        | false =>
          rw [ha] at gg i1
          rw [if_neg (by decide)] at i1
          refine r_iload dX5_nextCommand_13 rfl ?_
          refine r_iload_n dX5_nextCommand_15 rfl rfl ?_
          refine r_icmp_ge 57 dX5_nextCommand_16 (by decide) (fun c_16 => absurd c_16 (nI_ge (by omega) (by decide))) (fun c_16 => ?_)
          refine r_aload_n dX5_nextCommand_19 rfl rfl ?_
          refine r_iload dX5_nextCommand_20 rfl ?_
          refine r_aaload dX5_nextCommand_22 (by first | exact hc1 | exact hc2 | exact hc3 | rfl | exact hB1 | exact hB2 | exact hB3) (by exact vp_in_nI (by omega) (by decide)) (by rw [hcl]; exact hrf) ?_
          refine r_astore_5 dX5_nextCommand_23 rfl (Nat.le_of_ble_eq_true rfl) ?_
          refine r_aload dX5_nextCommand_25 rfl ?_
          refine r_getI (N := 8) dX5_nextCommand_27 fwX5_133 (by first | exact hc1 | exact hc2 | exact hc3 | rfl | exact hB1 | exact hB2 | exact hB3) (Nat.le_of_ble_eq_true rfl) rfl ?_
          refine r_iconst 1 dX5_nextCommand_30 (by decide) ?_
          rw [e2]
          refine r_icmp_ne 51 dX5_nextCommand_31 (by decide) (fun c_31 => absurd rfl c_31) (fun c_31 => ?_)
          refine r_aload_n dX5_nextCommand_34 rfl rfl ?_
          refine r_ifnull dX5_nextCommand_35 ?_
          refine r_aload_n dX5_nextCommand_38 rfl rfl ?_
          refine r_aload dX5_nextCommand_39 rfl ?_
          refine r_aload_n dX5_nextCommand_41 rfl rfl ?_
          refine gV2 (Y := mX5_goesAhead) (ci := 5) (N := 10) dX5_nextCommand_42 mlX5_185 vkX5_goesAhead (by first | exact hc1 | exact hc2 | exact hc3 | rfl | exact hB1 | exact hB2 | exact hB3) ⟨by decide, rfl⟩ rfl gg ?_
          refine r_if_eq 51 dX5_nextCommand_45 (by decide) (fun c_45 => ?_) (fun c_45 => absurd rfl c_45)
          refine r_iinc_4 (_ + 1) dX5_nextCommand_51 rfl (Nat.le_of_ble_eq_true rfl) rfl ?_
          refine r_goto 13 dX5_nextCommand_54 (by decide) ?_
          rw [nI_1]
          exact r_weak (by simp [lvle] <;> (repeat' apply And.intro) <;> first | rfl | decide) i1
      · rw [if_neg hs] at i1
        clear hq
        refine r_iload dX5_nextCommand_13 rfl ?_
        refine r_iload_n dX5_nextCommand_15 rfl rfl ?_
        refine r_icmp_ge 57 dX5_nextCommand_16 (by decide) (fun c_16 => absurd c_16 (nI_ge (by omega) (by decide))) (fun c_16 => ?_)
        refine r_aload_n dX5_nextCommand_19 rfl rfl ?_
        refine r_iload dX5_nextCommand_20 rfl ?_
        refine r_aaload dX5_nextCommand_22 (by first | exact hc1 | exact hc2 | exact hc3 | rfl | exact hB1 | exact hB2 | exact hB3) (by exact vp_in_nI (by omega) (by decide)) (by rw [hcl]; exact hrf) ?_
        refine r_astore_5 dX5_nextCommand_23 rfl (Nat.le_of_ble_eq_true rfl) ?_
        refine r_aload dX5_nextCommand_25 rfl ?_
        refine r_getI (N := 8) dX5_nextCommand_27 fwX5_133 (by first | exact hc1 | exact hc2 | exact hc3 | rfl | exact hB1 | exact hB2 | exact hB3) (Nat.le_of_ble_eq_true rfl) rfl ?_
        refine r_iconst 1 dX5_nextCommand_30 (by decide) ?_
        rw [e2]
        refine r_icmp_ne 51 dX5_nextCommand_31 (by decide) (fun c_31 => ?_) (fun c_31 => absurd ((nI_eq (a := T.1 t) (b := 1) (by omega) (by decide)).mp c_31) hs)
        refine r_iinc_4 (_ + 1) dX5_nextCommand_51 rfl (Nat.le_of_ble_eq_true rfl) rfl ?_
        refine r_goto 13 dX5_nextCommand_54 (by decide) ?_
        rw [nI_1]
        exact r_weak (by simp [lvle] <;> (repeat' apply And.intro) <;> first | rfl | decide) i1
set_option maxHeartbeats 600000 in
set_option maxRecDepth 100000 in
theorem x_next {M : Mem} {T : TSt} {w l : Nat} (h : TC M T) (ok : okT T) (hw : M 0 7 = nI w) (hw2 : w ≤ 2) (hl : M 0 8 = nI l) (hl2 : l < 100000) : Gv mX5_nextCommand [.ref 0] M (some (vb (nxf w l T 8))) M := by
  have hl := x_next_lp h ok hw hw2 hl hl2 8 0 rfl
  refine con_of (lv := [some (.ref 0), none, none, none, none, none]) (by decide) rfl (Nat.le_of_ble_eq_true rfl) (by simp [lvle]) ?_
  refine r_null dX5_nextCommand_0 ?_
  refine r_astore_nN_1 dX5_nextCommand_1 rfl (Nat.le_of_ble_eq_true rfl) ?_
  refine r_aload_n dX5_nextCommand_2 rfl rfl ?_
  refine r_getR (N := 10) dX5_nextCommand_3 fwX5_44 (by first | rfl | assumption) (Nat.le_of_ble_eq_true rfl) rfl (by first | rfl | assumption) ?_
  refine r_astore_n2 dX5_nextCommand_6 rfl (Nat.le_of_ble_eq_true rfl) ?_
  refine r_aload_n dX5_nextCommand_7 rfl rfl ?_
  refine r_alen dX5_nextCommand_8 (by first | rfl | assumption) (by first | exact Or.inl rfl | exact Or.inr rfl) ?_
  refine r_istore_n3 dX5_nextCommand_9 rfl (Nat.le_of_ble_eq_true rfl) ?_
  refine r_iconst 0 dX5_nextCommand_10 (by decide) ?_
  refine r_istore_4 dX5_nextCommand_11 rfl (Nat.le_of_ble_eq_true rfl) ?_
  exact hl
