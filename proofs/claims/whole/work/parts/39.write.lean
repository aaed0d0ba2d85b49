def f4 (a b c d : Int32) (j : Nat) : Int32 := if j = 0 then a else if j = 1 then b else if j = 2 then c else d
set_option maxHeartbeats 600000 in
set_option maxRecDepth 100000 in
theorem x_setNumbers {c r : Nat} {M : Mem} {x0 x1 x2 x3 : Int32} (hc : isCm c r) : Gv mX2_setNumbers [.ref c, .int x0, .int x1, .int x2, .int x3] M none (upd2 (upd2 (upd2 (upd2 M r 0 x0) r 1 x1) r 2 x2) r 3 x3) := by
  have g0 := fun M => x_setNum (M := M) (j := 0) (x := x0) hc (by decide)
  have g1 := fun M => x_setNum (M := M) (j := 1) (x := x1) hc (by decide)
  have g2 := fun M => x_setNum (M := M) (j := 2) (x := x2) hc (by decide)
  have g3 := fun M => x_setNum (M := M) (j := 3) (x := x3) hc (by decide)
  obtain ⟨hc1, hc2, hc3⟩ := hc
  refine con_of (lv := [some (.ref c), some (.int x0), some (.int x1), some (.int x2), some (.int x3)]) (by decide) rfl (Nat.le_of_ble_eq_true rfl) (by simp [lvle]) ?_
  refine r_aload_n dX2_setNumbers_0 rfl rfl ?_
  refine r_iconst 0 dX2_setNumbers_1 (by decide) ?_
  refine r_iload_n dX2_setNumbers_2 rfl rfl ?_
  refine gW2 (Y := mX2_setNumber) (ci := 2) (N := 8) dX2_setNumbers_3 mlX2_37 vkX2_setNumber (by first | exact hc1 | exact hc2 | exact hc3 | rfl | exact hB1 | exact hB2 | exact hB3) ⟨by decide, rfl⟩ rfl (g0 _) ?_
  refine r_aload_n dX2_setNumbers_6 rfl rfl ?_
  refine r_iconst 1 dX2_setNumbers_7 (by decide) ?_
  refine r_iload_n dX2_setNumbers_8 rfl rfl ?_
  refine gW2 (Y := mX2_setNumber) (ci := 2) (N := 8) dX2_setNumbers_9 mlX2_37 vkX2_setNumber (by first | exact hc1 | exact hc2 | exact hc3 | rfl | exact hB1 | exact hB2 | exact hB3) ⟨by decide, rfl⟩ rfl (g1 _) ?_
  refine r_aload_n dX2_setNumbers_12 rfl rfl ?_
  refine r_iconst 2 dX2_setNumbers_13 (by decide) ?_
  refine r_iload_n dX2_setNumbers_14 rfl rfl ?_
  refine gW2 (Y := mX2_setNumber) (ci := 2) (N := 8) dX2_setNumbers_15 mlX2_37 vkX2_setNumber (by first | exact hc1 | exact hc2 | exact hc3 | rfl | exact hB1 | exact hB2 | exact hB3) ⟨by decide, rfl⟩ rfl (g2 _) ?_
  refine r_aload_n dX2_setNumbers_18 rfl rfl ?_
  refine r_iconst 3 dX2_setNumbers_19 (by decide) ?_
  refine r_iload dX2_setNumbers_20 rfl ?_
  refine gW2 (Y := mX2_setNumber) (ci := 2) (N := 8) dX2_setNumbers_22 mlX2_37 vkX2_setNumber (by first | exact hc1 | exact hc2 | exact hc3 | rfl | exact hB1 | exact hB2 | exact hB3) ⟨by decide, rfl⟩ rfl (g3 _) ?_
  refine r_return dX2_setNumbers_25 rfl (Nat.zero_le _) (Nat.zero_le _) ?_
  exact ⟨rfl, rfl⟩
theorem f4_u {M : Mem} {r b : Nat} {x0 x1 x2 x3 : Int32} {j : Nat} (hj : j < 4) : upd2 (upd2 (upd2 (upd2 M r b x0) r (b + 1) x1) r (b + 2) x2) r (b + 3) x3 r (b + j) = f4 x0 x1 x2 x3 j := by
  have : j = 0 ∨ j = 1 ∨ j = 2 ∨ j = 3 := by omega
  unfold f4
  rcases this with rfl | rfl | rfl | rfl
  · rw [u_sn (by omega), u_sn (by omega), u_sn (by omega), Nat.add_zero, u_ss, if_pos rfl]
  · rw [u_sn (by omega), u_sn (by omega), u_ss, if_neg (by decide), if_pos rfl]
  · rw [u_sn (by omega), u_ss, if_neg (by decide), if_neg (by decide), if_pos rfl]
  · rw [u_ss, if_neg (by decide), if_neg (by decide), if_neg (by decide)]
def wK (e : Bool) : Nat := if e = true then 2 else 1
set_option maxHeartbeats 600000 in
set_option maxRecDepth 100000 in
theorem B_write {x y z x0 x1 x2 x3 : Int32} {e : Bool} : Both mX5_write mX6_write [.int x, .int y, .int z, .int (eI e), .int x0, .int x1, .int x2, .int x3] := by
  refine Both.do (fun M c dn dp P s w is rm rr hc h1 ok => ?_)
  have hk : wK e ≤ 3 ∧ wK e ≠ 0 ∧ wK e ≠ 3 := by cases e <;> decide
  have kw : ∀ {M : Mem} {Q : Option Value → Hp → Prop}, WP mX5_write 12 [some (.ref 0), some (.int x), some (.int y), some (.int z), some (.int (eI e)), some (.int x0), some (.int x1), some (.int x2), some (.int x3), none, none] [.int (nI (wK e)), .int x, .ref 0] 0 0 (shp, rfs, M) Q → WP mX5_write 0 [some (.ref 0), some (.int x), some (.int y), some (.int z), some (.int (eI e)), some (.int x0), some (.int x1), some (.int x2), some (.int x3), none, none] [] 0 0 (shp, rfs, M) Q := by
    intro M Q hq
    cases e
    · refine r_aload_n dX5_write_0 rfl rfl ?_
      refine r_iload_n dX5_write_1 rfl rfl ?_
      refine r_iload dX5_write_2 rfl ?_
      refine r_if_eq 11 dX5_write_4 (by decide) (fun c_4 => ?_) (fun c_4 => absurd rfl c_4)
      refine r_iconst 1 dX5_write_11 (by decide) ?_
      exact hq
    · refine r_aload_n dX5_write_0 rfl rfl ?_
      refine r_iload_n dX5_write_1 rfl rfl ?_
      refine r_iload dX5_write_2 rfl ?_
      refine r_if_eq 11 dX5_write_4 (by decide) (fun c_4 => absurd c_4 (by decide)) (fun c_4 => ?_)
      refine r_iconst 2 dX5_write_7 (by decide) ?_
      refine r_goto 12 dX5_write_8 (by decide) ?_
      exact hq
  rcases ix3 x 8 (by decide) with h | ⟨t, ht, rfl⟩
  · refine Both.same h1 ok (-2) ?_ (fun M1 h2 => ?_)
    · refine con_of (lv := [some (.ref 0), some (.int x), some (.int y), some (.int z), some (.int (eI e)), some (.int x0), some (.int x1), some (.int x2), some (.int x3), none, none]) (by decide) rfl (Nat.le_of_ble_eq_true rfl) (by simp [lvle]) ?_
      refine kw ?_
      refine r_iload_n dX5_write_12 rfl rfl ?_
      refine r_iload_n dX5_write_13 rfl rfl ?_
      refine gV4 (Y := mX5_issue) (ci := 5) (N := 10) dX5_write_14 mlX5_98 vkX5_issue (by first | rfl | assumption) ⟨by decide, rfl⟩ rfl (x_issue_tag h) ?_
      refine r_istore_9 dX5_write_17 rfl (Nat.le_of_ble_eq_true rfl) ?_
      refine r_aload_n dX5_write_19 rfl rfl ?_
      refine r_iload_n dX5_write_20 rfl rfl ?_
      refine gV1 (Y := mX5_commandOf) (ci := 5) (N := 10) dX5_write_21 mlX5_102 vkX5_commandOf (by first | rfl | assumption) ⟨by decide, rfl⟩ rfl (x_cmdOf_n h) ?_
      refine r_astoreN_10 dX5_write_24 rfl (Nat.le_of_ble_eq_true rfl) ?_
      refine r_iload dX5_write_26 rfl ?_
      refine r_if_le 49 dX5_write_28 (by decide) (fun c_28 => ?_) (fun c_28 => absurd (by decide) c_28)
      refine r_iload dX5_write_49 rfl ?_
      refine r_ireturn dX5_write_51 rfl (Nat.zero_le _) (Nat.zero_le _) ?_
      exact ⟨rfl, rfl⟩
    · refine con_of (lv := [some (.ref 40), some (.int x), some (.int y), some (.int z), some (.int (eI e)), some (.int x0), some (.int x1), some (.int x2), some (.int x3), none]) (by decide) rfl (Nat.le_of_ble_eq_true rfl) (by simp [lvle]) ?_
      refine r_aload_n dX6_write_0 rfl rfl ?_
      refine r_iload_n dX6_write_1 rfl rfl ?_
      refine r_iload_n dX6_write_2 rfl rfl ?_
      refine r_iload_n dX6_write_3 rfl rfl ?_
      refine gV3 (Y := mX6_against) (ci := 6) (N := 35) dX6_write_4 mlX6_163 vkX6_against (by first | rfl | assumption) ⟨by decide, rfl⟩ rfl (m_ag_tag h) ?_
      refine r_istore_9 dX6_write_7 rfl (Nat.le_of_ble_eq_true rfl) ?_
      refine r_iload dX6_write_9 rfl ?_
      refine r_if_eq 17 dX6_write_11 (by decide) (fun c_11 => absurd c_11 (by decide)) (fun c_11 => ?_)
      refine r_iload dX6_write_14 rfl ?_
      refine r_ireturn dX6_write_16 rfl (Nat.zero_le _) (Nat.zero_le _) ?_
      exact ⟨rfl, rfl⟩
  · rcases rng y z with h | ⟨fi, mn, hf, hm1, hm2, rfl, rfl⟩
    · refine Both.same h1 ok (-3) ?_ (fun M1 h2 => ?_)
      · have gi := x_issue_out (M := M) (k := nI (wK e)) ht (by cases e <;> decide) h
        refine con_of (lv := [some (.ref 0), some (.int (nI t)), some (.int y), some (.int z), some (.int (eI e)), some (.int x0), some (.int x1), some (.int x2), some (.int x3), none, none]) (by decide) rfl (Nat.le_of_ble_eq_true rfl) (by simp [lvle]) ?_
        refine kw ?_
        refine r_iload_n dX5_write_12 rfl rfl ?_
        refine r_iload_n dX5_write_13 rfl rfl ?_
        refine gV4 (Y := mX5_issue) (ci := 5) (N := 10) dX5_write_14 mlX5_98 vkX5_issue (by first | rfl | assumption) ⟨by decide, rfl⟩ rfl gi ?_
        refine r_istore_9 dX5_write_17 rfl (Nat.le_of_ble_eq_true rfl) ?_
        refine r_aload_n dX5_write_19 rfl rfl ?_
        refine r_iload_n dX5_write_20 rfl rfl ?_
        refine gV1 (Y := mX5_commandOf) (ci := 5) (N := 10) dX5_write_21 mlX5_102 vkX5_commandOf (by first | rfl | assumption) ⟨by decide, rfl⟩ rfl (x_cmdOf_t ht) ?_
        refine r_astore_10 dX5_write_24 rfl (Nat.le_of_ble_eq_true rfl) ?_
        refine r_iload dX5_write_26 rfl ?_
        refine r_if_le 49 dX5_write_28 (by decide) (fun c_28 => ?_) (fun c_28 => absurd (by decide) c_28)
        refine r_iload dX5_write_49 rfl ?_
        refine r_ireturn dX5_write_51 rfl (Nat.zero_le _) (Nat.zero_le _) ?_
        exact ⟨rfl, rfl⟩
      · refine con_of (lv := [some (.ref 40), some (.int (nI t)), some (.int y), some (.int z), some (.int (eI e)), some (.int x0), some (.int x1), some (.int x2), some (.int x3), none]) (by decide) rfl (Nat.le_of_ble_eq_true rfl) (by simp [lvle]) ?_
        refine r_aload_n dX6_write_0 rfl rfl ?_
        refine r_iload_n dX6_write_1 rfl rfl ?_
        refine r_iload_n dX6_write_2 rfl rfl ?_
        refine r_iload_n dX6_write_3 rfl rfl ?_
        refine gV3 (Y := mX6_against) (ci := 6) (N := 35) dX6_write_4 mlX6_163 vkX6_against (by first | rfl | assumption) ⟨by decide, rfl⟩ rfl (m_ag_out ht h) ?_
        refine r_istore_9 dX6_write_7 rfl (Nat.le_of_ble_eq_true rfl) ?_
        refine r_iload dX6_write_9 rfl ?_
        refine r_if_eq 17 dX6_write_11 (by decide) (fun c_11 => absurd c_11 (by decide)) (fun c_11 => ?_)
        refine r_iload dX6_write_14 rfl ?_
        refine r_ireturn dX6_write_16 rfl (Nat.zero_le _) (Nat.zero_le _) ?_
        exact ⟨rfl, rfl⟩
    · have o1 := (ok.2.2.1.2.1 t ht).1
      by_cases hs : s.2.2.1.1 t = 0
      · have es : M (24 + 2 * t) 2 = 0 := by rw [(h1.2.1.2.1 t ht).2.1, hs]; rfl
        have gi := x_issue_ok (kd := wK e) (fi := fi) (mn := mn) ht hk.1 (fun _ => ⟨hf, hm1, hm2⟩) es h1.2.2.1
        have gn := x_setNumbers (M := upd2 (issM M (24 + 2 * t) (nI (wK e)) (nI fi) (nI mn) (nI is)) 0 9 (nI (is + 1))) (x0 := x0) (x1 := x1) (x2 := x2) (x3 := x3) (isCm_t t ht)
        obtain ⟨i1, F1⟩ := h1.is2 (kd := wK e) (fi := fi) (mn := mn) (f := f4 x0 x1 x2 x3) (M' := upd2 (upd2 (upd2 (upd2 (upd2 (issM M (24 + 2 * t) (nI (wK e)) (nI fi) (nI mn) (nI is)) 0 9 (nI (is + 1))) (25 + 2 * t) 0 x0) (25 + 2 * t) 1 x1) (25 + 2 * t) 2 x2) (25 + 2 * t) 3 x3) ht ((((FrS.rf.upc (by simp)).upc (by simp)).upc (by simp)).upc (by simp)) (fun _ _ j hj => by
          have := f4_u (M := upd2 (issM M (24 + 2 * t) (nI (wK e)) (nI fi) (nI mn) (nI is)) 0 9 (nI (is + 1))) (r := 25 + 2 * t) (b := 0) (x0 := x0) (x1 := x1) (x2 := x2) (x3 := x3) hj
          simp only [Nat.zero_add] at this
          exact this)
        refine ⟨1, _, dn, dp, P, _, w, is + 1, rm, rr, ?_, i1, F1, ok.is hc hk.1 hf hm2 (fun z => absurd z hk.2.2) (fun _ => hm1), fun M1 h2 => ?_⟩
        · obtain ⟨hc1, hc2, hc3⟩ := isCm_t t ht
          refine con_of (lv := [some (.ref 0), some (.int (nI t)), some (.int (nI fi)), some (.int (nI mn)), some (.int (eI e)), some (.int x0), some (.int x1), some (.int x2), some (.int x3), none, none]) (by decide) rfl (Nat.le_of_ble_eq_true rfl) (by simp [lvle]) ?_
          refine kw ?_
          refine r_iload_n dX5_write_12 rfl rfl ?_
          refine r_iload_n dX5_write_13 rfl rfl ?_
          refine gV4 (Y := mX5_issue) (ci := 5) (N := 10) dX5_write_14 mlX5_98 vkX5_issue (by first | exact hc1 | exact hc2 | exact hc3 | rfl | exact hB1 | exact hB2 | exact hB3) ⟨by decide, rfl⟩ rfl gi ?_
          refine r_istore_9 dX5_write_17 rfl (Nat.le_of_ble_eq_true rfl) ?_
          refine r_aload_n dX5_write_19 rfl rfl ?_
          refine r_iload_n dX5_write_20 rfl rfl ?_
          refine gV1 (Y := mX5_commandOf) (ci := 5) (N := 10) dX5_write_21 mlX5_102 vkX5_commandOf (by first | exact hc1 | exact hc2 | exact hc3 | rfl | exact hB1 | exact hB2 | exact hB3) ⟨by decide, rfl⟩ rfl (x_cmdOf_t ht) ?_
          refine r_astore_10 dX5_write_24 rfl (Nat.le_of_ble_eq_true rfl) ?_
          refine r_iload dX5_write_26 rfl ?_
          refine r_if_le 49 dX5_write_28 (by decide) (fun c_28 => absurd c_28 (by decide)) (fun c_28 => ?_)
          refine r_aload dX5_write_31 rfl ?_
          refine r_ifnull dX5_write_33 ?_
          refine r_aload dX5_write_36 rfl ?_
          refine r_iload dX5_write_38 rfl ?_
          refine r_iload dX5_write_40 rfl ?_
          refine r_iload dX5_write_42 rfl ?_
          refine r_iload dX5_write_44 rfl ?_
          refine gW4 (Y := mX2_setNumbers) (ci := 2) (N := 8) dX5_write_46 mlX5_106 vkX2_setNumbers (by first | exact hc1 | exact hc2 | exact hc3 | rfl | exact hB1 | exact hB2 | exact hB3) ⟨by decide, rfl⟩ rfl gn ?_
          refine r_iload dX5_write_49 rfl ?_
          refine r_ireturn dX5_write_51 rfl (Nat.zero_le _) (Nat.zero_le _) ?_
          exact ⟨rfl, rfl⟩
        · have ga := m_ag_in (M := M1) ht hf hm1 hm2 o1 (h2.2.1.2.1 t ht).1
          rw [if_pos hs] at ga
          have e0 : (4 : Int32) * nI t = nI (4 * t) := pk_mul 4 t
          have e1 : nI (4 * t) + 1 = nI (4 * t + 1) := nI_add _ 1
          have e2 : nI (4 * t) + 2 = nI (4 * t + 2) := nI_add _ 2
          have e3 : nI (4 * t) + 3 = nI (4 * t + 3) := nI_add _ 3
          have l0 : (nI (4 * t)).toNatClampNeg = 4 * t := nI_clamp (by omega)
          have l1 : (nI (4 * t + 1)).toNatClampNeg = 4 * t + 1 := nI_clamp (by omega)
          have l2 : (nI (4 * t + 2)).toNatClampNeg = 4 * t + 2 := nI_clamp (by omega)
          have l3 : (nI (4 * t + 3)).toNatClampNeg = 4 * t + 3 := nI_clamp (by omega)
          have F0 : FrS [58] [] M1 (upd2 (upd2 (upd2 (upd2 M1 58 (4 * t) x0) 58 (4 * t + 1) x1) 58 (4 * t + 2) x2) 58 (4 * t + 3) x3) := ((((FrS.rf.upc (by simp)).upc (by simp)).upc (by simp)).upc (by simp))
          have gi := m_issue (M := upd2 (upd2 (upd2 (upd2 M1 58 (4 * t) x0) 58 (4 * t + 1) x1) 58 (4 * t + 2) x2) 58 (4 * t + 3) x3) (k := nI (wK e)) (y := nI fi) (z := nI mn) ht (by rw [F0 40 28 (by decide) (by simp)]; exact h2.2.2.1)
          obtain ⟨i2, F2⟩ := h2.iss (kd := wK e) (fi := fi) (mn := mn) (f := f4 x0 x1 x2 x3) F0 ht ok.2.2.1.2.1 (fun k hk => by rw [u_sn (by omega), u_sn (by omega), u_sn (by omega), u_sn (by omega)]) (fun _ _ j hj => f4_u hj)
          refine ⟨_, ?_, i2, F2⟩
          have km : ∀ {Q : Option Value → Hp → Prop}, WP mX6_write 75 [some (.ref 40), some (.int (nI t)), some (.int (nI fi)), some (.int (nI mn)), some (.int (eI e)), some (.int x0), some (.int x1), some (.int x2), some (.int x3), none] [.int (nI (wK e)), .int (nI t), .ref 40] 0 0 (shp, rfs, upd2 (upd2 (upd2 (upd2 M1 58 (4 * t) x0) 58 (4 * t + 1) x1) 58 (4 * t + 2) x2) 58 (4 * t + 3) x3) Q → WP mX6_write 63 [some (.ref 40), some (.int (nI t)), some (.int (nI fi)), some (.int (nI mn)), some (.int (eI e)), some (.int x0), some (.int x1), some (.int x2), some (.int x3), none] [] 0 0 (shp, rfs, upd2 (upd2 (upd2 (upd2 M1 58 (4 * t) x0) 58 (4 * t + 1) x1) 58 (4 * t + 2) x2) 58 (4 * t + 3) x3) Q := by
            intro Q hq
            cases e
            · refine r_aload_n dX6_write_63 rfl rfl ?_
              refine r_iload_n dX6_write_64 rfl rfl ?_
              refine r_iload dX6_write_65 rfl ?_
              refine r_if_eq 74 dX6_write_67 (by decide) (fun c_67 => ?_) (fun c_67 => absurd rfl c_67)
              refine r_iconst 1 dX6_write_74 (by decide) ?_
              exact hq
            · refine r_aload_n dX6_write_63 rfl rfl ?_
              refine r_iload_n dX6_write_64 rfl rfl ?_
              refine r_iload dX6_write_65 rfl ?_
              refine r_if_eq 74 dX6_write_67 (by decide) (fun c_67 => absurd c_67 (by decide)) (fun c_67 => ?_)
              refine r_iconst 2 dX6_write_70 (by decide) ?_
              refine r_goto 75 dX6_write_71 (by decide) ?_
              exact hq
          refine con_of (lv := [some (.ref 40), some (.int (nI t)), some (.int (nI fi)), some (.int (nI mn)), some (.int (eI e)), some (.int x0), some (.int x1), some (.int x2), some (.int x3), none]) (by decide) rfl (Nat.le_of_ble_eq_true rfl) (by simp [lvle]) ?_
          refine r_aload_n dX6_write_0 rfl rfl ?_
          refine r_iload_n dX6_write_1 rfl rfl ?_
          refine r_iload_n dX6_write_2 rfl rfl ?_
          refine r_iload_n dX6_write_3 rfl rfl ?_
          refine gV3 (Y := mX6_against) (ci := 6) (N := 35) dX6_write_4 mlX6_163 vkX6_against (by first | rfl | assumption) ⟨by decide, rfl⟩ rfl ga ?_
          refine r_istore_9 dX6_write_7 rfl (Nat.le_of_ble_eq_true rfl) ?_
          refine r_iload dX6_write_9 rfl ?_
          refine r_if_eq 17 dX6_write_11 (by decide) (fun c_11 => ?_) (fun c_11 => absurd rfl c_11)
          refine r_aload_n dX6_write_17 rfl rfl ?_
          refine r_getR (N := 35) dX6_write_18 fwX6_61 (by first | rfl | assumption) (Nat.le_of_ble_eq_true rfl) rfl (by first | rfl | assumption) ?_
          refine r_iconst 4 dX6_write_21 (by decide) ?_
          refine r_iload_n dX6_write_22 rfl rfl ?_
          refine r_imul dX6_write_23 ?_
          refine r_iload dX6_write_24 rfl ?_
          rw [e0]
          refine r_iastore dX6_write_26 (by first | rfl | assumption) (by exact vp_in_nI (by omega) (by decide)) ?_
          rw [l0]
          refine r_aload_n dX6_write_27 rfl rfl ?_
          refine r_getR (N := 35) dX6_write_28 fwX6_61 (by first | rfl | assumption) (Nat.le_of_ble_eq_true rfl) rfl (by first | rfl | assumption) ?_
          refine r_iconst 4 dX6_write_31 (by decide) ?_
          refine r_iload_n dX6_write_32 rfl rfl ?_
          refine r_imul dX6_write_33 ?_
          refine r_iconst 1 dX6_write_34 (by decide) ?_
          refine r_iadd dX6_write_35 ?_
          refine r_iload dX6_write_36 rfl ?_
          rw [e0, e1]
          refine r_iastore dX6_write_38 (by first | rfl | assumption) (by exact vp_in_nI (by omega) (by decide)) ?_
          rw [l1]
          refine r_aload_n dX6_write_39 rfl rfl ?_
          refine r_getR (N := 35) dX6_write_40 fwX6_61 (by first | rfl | assumption) (Nat.le_of_ble_eq_true rfl) rfl (by first | rfl | assumption) ?_
          refine r_iconst 4 dX6_write_43 (by decide) ?_
          refine r_iload_n dX6_write_44 rfl rfl ?_
          refine r_imul dX6_write_45 ?_
          refine r_iconst 2 dX6_write_46 (by decide) ?_
          refine r_iadd dX6_write_47 ?_
          refine r_iload dX6_write_48 rfl ?_
          rw [e0, e2]
          refine r_iastore dX6_write_50 (by first | rfl | assumption) (by exact vp_in_nI (by omega) (by decide)) ?_
          rw [l2]
          refine r_aload_n dX6_write_51 rfl rfl ?_
          refine r_getR (N := 35) dX6_write_52 fwX6_61 (by first | rfl | assumption) (Nat.le_of_ble_eq_true rfl) rfl (by first | rfl | assumption) ?_
          refine r_iconst 4 dX6_write_55 (by decide) ?_
          refine r_iload_n dX6_write_56 rfl rfl ?_
          refine r_imul dX6_write_57 ?_
          refine r_iconst 3 dX6_write_58 (by decide) ?_
          refine r_iadd dX6_write_59 ?_
          refine r_iload dX6_write_60 rfl ?_
          rw [e0, e3]
          refine r_iastore dX6_write_62 (by first | rfl | assumption) (by exact vp_in_nI (by omega) (by decide)) ?_
          rw [l3]
          refine r_weak (by simp [lvle] <;> (repeat' apply And.intro) <;> first | rfl | decide) (km ?_)
          refine r_iload_n dX6_write_75 rfl rfl ?_
          refine r_iload_n dX6_write_76 rfl rfl ?_
          refine gV4 (Y := mX6_issue) (ci := 6) (N := 35) dX6_write_77 mlX6_167 vkX6_issue (by first | rfl | assumption) ⟨by decide, rfl⟩ rfl gi ?_
          refine r_ireturn dX6_write_80 rfl (Nat.zero_le _) (Nat.zero_le _) ?_
          exact ⟨rfl, rfl⟩
      · refine Both.same h1 ok (-4) ?_ (fun M1 h2 => ?_)
        · have es : ¬ M (24 + 2 * t) 2 = 0 := by rw [(h1.2.1.2.1 t ht).2.1]; exact nI_ne0 (by omega) (by omega)
          have gi := x_issue_not (kd := wK e) (fi := fi) (mn := mn) ht hk.1 (fun _ => ⟨hf, hm1, hm2⟩) es
          refine con_of (lv := [some (.ref 0), some (.int (nI t)), some (.int (nI fi)), some (.int (nI mn)), some (.int (eI e)), some (.int x0), some (.int x1), some (.int x2), some (.int x3), none, none]) (by decide) rfl (Nat.le_of_ble_eq_true rfl) (by simp [lvle]) ?_
          refine kw ?_
          refine r_iload_n dX5_write_12 rfl rfl ?_
          refine r_iload_n dX5_write_13 rfl rfl ?_
          refine gV4 (Y := mX5_issue) (ci := 5) (N := 10) dX5_write_14 mlX5_98 vkX5_issue (by first | rfl | assumption) ⟨by decide, rfl⟩ rfl gi ?_
          refine r_istore_9 dX5_write_17 rfl (Nat.le_of_ble_eq_true rfl) ?_
          refine r_aload_n dX5_write_19 rfl rfl ?_
          refine r_iload_n dX5_write_20 rfl rfl ?_
          refine gV1 (Y := mX5_commandOf) (ci := 5) (N := 10) dX5_write_21 mlX5_102 vkX5_commandOf (by first | rfl | assumption) ⟨by decide, rfl⟩ rfl (x_cmdOf_t ht) ?_
          refine r_astore_10 dX5_write_24 rfl (Nat.le_of_ble_eq_true rfl) ?_
          refine r_iload dX5_write_26 rfl ?_
          refine r_if_le 49 dX5_write_28 (by decide) (fun c_28 => ?_) (fun c_28 => absurd (by decide) c_28)
          refine r_iload dX5_write_49 rfl ?_
          refine r_ireturn dX5_write_51 rfl (Nat.zero_le _) (Nat.zero_le _) ?_
          exact ⟨rfl, rfl⟩
        · have ga := m_ag_in (M := M1) ht hf hm1 hm2 o1 (h2.2.1.2.1 t ht).1
          rw [if_neg hs] at ga
          refine con_of (lv := [some (.ref 40), some (.int (nI t)), some (.int (nI fi)), some (.int (nI mn)), some (.int (eI e)), some (.int x0), some (.int x1), some (.int x2), some (.int x3), none]) (by decide) rfl (Nat.le_of_ble_eq_true rfl) (by simp [lvle]) ?_
          refine r_aload_n dX6_write_0 rfl rfl ?_
          refine r_iload_n dX6_write_1 rfl rfl ?_
          refine r_iload_n dX6_write_2 rfl rfl ?_
          refine r_iload_n dX6_write_3 rfl rfl ?_
          refine gV3 (Y := mX6_against) (ci := 6) (N := 35) dX6_write_4 mlX6_163 vkX6_against (by first | rfl | assumption) ⟨by decide, rfl⟩ rfl ga ?_
          refine r_istore_9 dX6_write_7 rfl (Nat.le_of_ble_eq_true rfl) ?_
          refine r_iload dX6_write_9 rfl ?_
          refine r_if_eq 17 dX6_write_11 (by decide) (fun c_11 => absurd c_11 (by decide)) (fun c_11 => ?_)
          refine r_iload dX6_write_14 rfl ?_
          refine r_ireturn dX6_write_16 rfl (Nat.zero_le _) (Nat.zero_le _) ?_
          exact ⟨rfl, rfl⟩
