theorem t_aastq {X : MX} {pc : Nat} {lv : List (Option Value)} {st : List Value} {k n j : Nat} {l : List (Nat × Nat × Nat)} {M : Mem} {Q : Option Value → Hp → Prop} {a N b Nb q : Nat} {i : Int32} (hd : decode X.2.1 pc = .ok (.aastore, 1)) (hq : i.toNatClampNeg = q) (hs : (shp.take j)[a]? = some (8, N)) (hin : vp_in i N) (hsb : (shp.take j)[b]? = some (2, Nb)) (ok : OkH (shp.take j, RLf l, M)) (kk : OkH (shp.take j, RLf ((a, q, b) :: l), M) → WP X (pc + 1) lv st k n (shp.take j, RLf ((a, q, b) :: l), M) Q) : WP X pc lv (.ref b :: .int i :: .ref a :: st) k n (shp.take j, RLf l, M) Q := by
  subst hq
  exact t_aast hd hs hin hsb ok kk
/-- the class's memory behind the first i commands -/
def Jc (M : Mem) (i : Nat) : Prop := TabC M ∧ TabS M ∧ (∀ t, t < i → M (24 + 2 * t) 0 = nI t) ∧ ∀ a k, a ≠ 2 → a ≠ 3 → a ≠ 5 → (∀ t, t < i → ¬ (a = 24 + 2 * t ∧ k = 0)) → M a k = 0
theorem Jc.step {M : Mem} {i a : Nat} {x : Int32} (h : Jc M i) (he : a = 24 + 2 * i) (hx : x = nI i) : Jc (upd2 (upd2 M a 2 0) a 0 x) (i + 1) := by
  subst he hx
  obtain ⟨h1, h2, h3, h4⟩ := h
  have F : FrS [24 + 2 * i] [] M (upd2 (upd2 M (24 + 2 * i) 2 0) (24 + 2 * i) 0 (nI i)) := fun b k hb _ => by
    simp at hb
    rw [u_nn hb, u_nn hb]
  refine ⟨h1.frS F ⟨by simp <;> omega, by simp <;> omega⟩ (by simp), h2.frS F (by simp <;> omega) (by simp), fun t ht => ?_, fun b k g2 g3 g5 g => ?_⟩
  · by_cases z : t = i
    · subst z; rw [u_ss]
    · rw [F _ _ (by simp <;> omega) (by simp)]
      exact h3 t (by omega)
  · by_cases z : b = 24 + 2 * i
    · have zk : k ≠ 0 := fun q => g i (by omega) ⟨z, q⟩
      subst z
      rw [u_sn zk]
      by_cases z2 : k = 2
      · subst z2; rw [u_ss]
      · rw [u_sn z2]
        exact h4 _ _ g2 g3 g5 (fun t ht q => g t (by omega) q)
    · rw [F b k (by simp <;> exact z) (by simp)]
      exact h4 b k g2 g3 g5 (fun t ht q => g t (by omega) q)
set_option maxHeartbeats 600000 in
set_option maxRecDepth 100000 in
theorem x2_step {j a i : Nat} {l : List (Nat × Nat × Nat)} {M : Mem} {x : Int32} (hs : shp[j]? = some (7, 4)) (ha : (shp.take j)[a]? = some (2, 8)) (ok : OkH (shp.take j, RLf l, M)) (he : a = 24 + 2 * i) (hx : x = nI i) (J : Jc M i) : Con mX2_init [.ref a, .int x] (shp.take j, RLf l, M) (fun r h => r = none ∧ ∃ M', h = (shp.take (j + 1), RLf ((a, 1, j) :: l), M') ∧ Jc M' (i + 1) ∧ OkH h) := by
  have hj := tk_lt hs
  have haj : a < j := by
    have := lt_of_get ha
    rw [tk_len (by omega)] at this
    exact this
  have ha1 := tk_up ha
  refine con_of (lv := [some (.ref a), some (.int x)]) (by decide) rfl (Nat.le_of_ble_eq_true rfl) (by simp [lvle]) ?_
  refine r_aload_n dX2_init_0 rfl rfl ?_
  refine t_obj dX2_init_1 mlX2_3 (Nat.le_of_ble_eq_true rfl) (Nat.le_of_ble_eq_true rfl) ?_
  refine r_aload_n dX2_init_4 rfl rfl ?_
  refine r_iconst 4 dX2_init_5 (by decide) ?_
  refine t_newa (j := j) (N := 4) dX2_init_6 (by first | rfl | assumption) (by decide) rfl (Nat.le_of_ble_eq_true rfl) (Nat.le_of_ble_eq_true rfl) (Nat.le_of_ble_eq_true rfl) ok (by first | rfl | (simp [rokl, rok] <;> omega)) (by first | rfl | (simp [rokl, rok] <;> omega)) (fun ok => ?_)
  refine t_putR (j := (j + 1)) (N := 8) dX2_init_8 fwX2_9 (by first | rfl | assumption) (Nat.le_of_ble_eq_true rfl) rfl ⟨rfl, rfl, rfl⟩ flX2_9 (fun _ => rfl) (fun _ => rfl) ok (by first | exact Nat.le_of_ble_eq_true rfl | omega) (by first | exact Nat.le_of_ble_eq_true rfl | omega) (fun ok => ?_)
  refine r_aload_n dX2_init_11 rfl rfl ?_
  refine r_iconst 0 dX2_init_12 (by decide) ?_
  refine t_putI (j := (j + 1)) (N := 8) dX2_init_13 fwX2_15 (by first | rfl | assumption) (Nat.le_of_ble_eq_true rfl) rfl (Or.inl rfl) rfl rfl ok (fun ok => ?_)
  refine r_aload_n dX2_init_16 rfl rfl ?_
  refine r_iload_n dX2_init_17 rfl rfl ?_
  refine t_putI (j := (j + 1)) (N := 8) dX2_init_18 fwX2_19 (by first | rfl | assumption) (Nat.le_of_ble_eq_true rfl) rfl (Or.inr ⟨rfl, rfl, rfl, flX2_19⟩) rfl rfl ok (fun ok => ?_)
  refine r_return dX2_init_21 rfl (Nat.le_of_ble_eq_true rfl) (Nat.le_of_ble_eq_true rfl) ?_
  exact ⟨rfl, _, rfl, J.step he hx, ok⟩
abbrev L5 : List (Nat × Nat × Nat) := [(22, 7, 38), (38, 1, 39), (22, 6, 36), (36, 1, 37), (22, 5, 34), (34, 1, 35), (22, 4, 32), (32, 1, 33), (22, 3, 30), (30, 1, 31), (22, 2, 28), (28, 1, 29), (22, 1, 26), (26, 1, 27), (22, 0, 24), (24, 1, 25), (0, 6, 23), (0, 5, 22), (0, 4, 20), (20, 0, 21), (0, 3, 18), (18, 0, 19), (0, 2, 14), (14, 2, 17), (14, 1, 16), (14, 0, 15), (0, 1, 4), (4, 0, 1), (4, 9, 13), (4, 7, 12), (4, 6, 11), (4, 4, 10), (4, 3, 8), (8, 0, 9), (4, 2, 6), (6, 0, 7), (4, 1, 5), (0, 0, 1), (1, 1, 3), (1, 0, 2)]
def Q5 : Option Value → Hp → Prop := fun r h => r = none ∧ ∃ M', h = (shp.take 40, RLf L5, M') ∧ Jc M' 8 ∧ OkH h
theorem Jc0 {M1 M2 : Mem} (hT : TabC M1) (hS : TabS M2) (F1 : FrS [2, 3] [] (fun _ _ => 0) M1) (F2 : FrS [5] [] M1 M2) : Jc (upd2 M2 0 7 0) 0 := by
  have F3 : FrS [] [(0, 7)] M2 (upd2 M2 0 7 0) := fun a k _ z => by
    simp at z
    by_cases q : a = 0
    · subst q; rw [u_sn (z rfl)]
    · rw [u_nn q]
  refine ⟨(hT.frS F2 (by decide) (by simp)).frS F3 (by simp) (by simp), hS.frS F3 (by simp) (by simp), fun t ht => absurd ht (by omega), fun a k g2 g3 g5 _ => ?_⟩
  by_cases q : a = 0 ∧ k = 7
  · obtain ⟨rfl, rfl⟩ := q
    rw [u_ss]
  · rw [F3 a k (by simp) (by simpa using q), F2 a k (by simpa using g5) (by simp), F1 a k (by simp; exact ⟨g2, g3⟩) (by simp)]
set_option maxHeartbeats 600000 in
set_option maxRecDepth 100000 in
theorem x5_init (ok : OkH (shp.take 1, RLf [], fun _ _ => 0)) : Con mX5_init [.ref 0] (shp.take 1, RLf [], fun _ _ => 0) Q5 := by
  refine con_of (lv := [some (.ref 0), none]) (by decide) rfl (Nat.le_of_ble_eq_true rfl) (by simp [lvle]) ?_
  refine r_aload_n dX5_init_0 rfl rfl ?_
  refine t_obj dX5_init_1 mlX5_1 (Nat.le_of_ble_eq_true rfl) (Nat.le_of_ble_eq_true rfl) ?_
  refine r_aload_n dX5_init_4 rfl rfl ?_
  refine t_newc (j := 1) (ci := 1) (N := 2) dX5_init_5 (by decide) rfl clX5_7 inw1 iniw1 dfv1 (by first | rfl | assumption) (Nat.le_of_ble_eq_true rfl) (Nat.le_of_ble_eq_true rfl) ok (by first | rfl | (simp [rokl, rok] <;> omega)) (by first | rfl | (simp [rokl, rok] <;> omega)) (fun ok => ?_)
  first | refine r_dupR dX5_init_8 ?_ | refine r_dupI dX5_init_8 ?_
  refine t_call0 (Y := mX1_init) (j := 2) dX5_init_9 (Or.inl mlX5_9) ckX1_init ikX1_init ⟨rfl, rfl⟩ rfl (Nat.le_of_ble_eq_true rfl) (by first | rfl | (simp [rokl, rok] <;> omega)) (by first | rfl | (simp [rokl, rok] <;> omega)) (x1_init ok) (fun h' q => ?_)
  obtain ⟨M1, rfl, hT, F1, ok⟩ := q
  refine t_putR (j := 4) (N := 10) dX5_init_12 fwX5_10 (by first | rfl | assumption) (Nat.le_of_ble_eq_true rfl) rfl ⟨rfl, rfl, rfl⟩ flX5_10 (fun _ => rfl) (fun _ => rfl) ok (by first | exact Nat.le_of_ble_eq_true rfl | omega) (by first | exact Nat.le_of_ble_eq_true rfl | omega) (fun ok => ?_)
  refine r_aload_n dX5_init_15 rfl rfl ?_
  refine t_newc (j := 4) (ci := 4) (N := 13) dX5_init_16 (by decide) rfl clX5_16 inw4 iniw4 dfv4 (by first | rfl | assumption) (Nat.le_of_ble_eq_true rfl) (Nat.le_of_ble_eq_true rfl) ok (by first | rfl | (simp [rokl, rok] <;> omega)) (by first | rfl | (simp [rokl, rok] <;> omega)) (fun ok => ?_)
  first | refine r_dupR dX5_init_19 ?_ | refine r_dupI dX5_init_19 ?_
  refine r_aload_n dX5_init_20 rfl rfl ?_
  refine r_getR (N := 10) dX5_init_21 fwX5_10 (by first | rfl | assumption) (Nat.le_of_ble_eq_true rfl) rfl (by first | rfl | assumption) ?_
  refine t_call1 (Y := mX4_init) (j := 5) dX5_init_24 (Or.inl mlX5_18) ckX4_init ikX4_init ⟨rfl, rfl⟩ rfl (Nat.le_of_ble_eq_true rfl) (by first | rfl | (simp [rokl, rok] <;> omega)) (by first | rfl | (simp [rokl, rok] <;> omega)) (x4_init ok) (fun h' q => ?_)
  obtain ⟨M2, rfl, hS, F2, ok⟩ := q
  refine t_putR (j := 14) (N := 10) dX5_init_27 fwX5_21 (by first | rfl | assumption) (Nat.le_of_ble_eq_true rfl) rfl ⟨rfl, rfl, rfl⟩ flX5_21 (fun _ => rfl) (fun _ => rfl) ok (by first | exact Nat.le_of_ble_eq_true rfl | omega) (by first | exact Nat.le_of_ble_eq_true rfl | omega) (fun ok => ?_)
  refine r_aload_n dX5_init_30 rfl rfl ?_
  refine t_newc (j := 14) (ci := 3) (N := 4) dX5_init_31 (by decide) rfl clX5_25 inw3 iniw3 dfv3 (by first | rfl | assumption) (Nat.le_of_ble_eq_true rfl) (Nat.le_of_ble_eq_true rfl) ok (by first | rfl | (simp [rokl, rok] <;> omega)) (by first | rfl | (simp [rokl, rok] <;> omega)) (fun ok => ?_)
  first | refine r_dupR dX5_init_34 ?_ | refine r_dupI dX5_init_34 ?_
  refine t_call0 (Y := mX3_init) (j := 15) dX5_init_35 mlX5_27 ckX3_init ikX3_init ⟨rfl, rfl⟩ rfl (Nat.le_of_ble_eq_true rfl) (by first | rfl | (simp [rokl, rok] <;> omega)) (by first | rfl | (simp [rokl, rok] <;> omega)) (x3_init ok) (fun h' q => ?_)
  obtain ⟨rfl, ok⟩ := q
  refine t_putR (j := 18) (N := 10) dX5_init_38 fwX5_28 (by first | rfl | assumption) (Nat.le_of_ble_eq_true rfl) rfl ⟨rfl, rfl, rfl⟩ flX5_28 (fun _ => rfl) (fun _ => rfl) ok (by first | exact Nat.le_of_ble_eq_true rfl | omega) (by first | exact Nat.le_of_ble_eq_true rfl | omega) (fun ok => ?_)
  refine r_aload_n dX5_init_41 rfl rfl ?_
  refine t_newc (j := 18) (ci := 0) (N := 2) dX5_init_42 (by decide) rfl clX5_32 inw0 iniw0 dfv0 (by first | rfl | assumption) (Nat.le_of_ble_eq_true rfl) (Nat.le_of_ble_eq_true rfl) ok (by first | rfl | (simp [rokl, rok] <;> omega)) (by first | rfl | (simp [rokl, rok] <;> omega)) (fun ok => ?_)
  first | refine r_dupR dX5_init_45 ?_ | refine r_dupI dX5_init_45 ?_
  refine t_call0 (Y := mX0_init) (j := 19) dX5_init_46 mlX5_34 ckX0_init ikX0_init ⟨rfl, rfl⟩ rfl (Nat.le_of_ble_eq_true rfl) (by first | rfl | (simp [rokl, rok] <;> omega)) (by first | rfl | (simp [rokl, rok] <;> omega)) (x0_init rfl rfl ok) (fun h' q => ?_)
  obtain ⟨rfl, ok⟩ := q
  refine t_putR (j := 20) (N := 10) dX5_init_49 fwX5_35 (by first | rfl | assumption) (Nat.le_of_ble_eq_true rfl) rfl ⟨rfl, rfl, rfl⟩ flX5_35 (fun _ => rfl) (fun _ => rfl) ok (by first | exact Nat.le_of_ble_eq_true rfl | omega) (by first | exact Nat.le_of_ble_eq_true rfl | omega) (fun ok => ?_)
  refine r_aload_n dX5_init_52 rfl rfl ?_
  refine t_newc (j := 20) (ci := 0) (N := 2) dX5_init_53 (by decide) rfl clX5_32 inw0 iniw0 dfv0 (by first | rfl | assumption) (Nat.le_of_ble_eq_true rfl) (Nat.le_of_ble_eq_true rfl) ok (by first | rfl | (simp [rokl, rok] <;> omega)) (by first | rfl | (simp [rokl, rok] <;> omega)) (fun ok => ?_)
  first | refine r_dupR dX5_init_56 ?_ | refine r_dupI dX5_init_56 ?_
  refine t_call0 (Y := mX0_init) (j := 21) dX5_init_57 mlX5_34 ckX0_init ikX0_init ⟨rfl, rfl⟩ rfl (Nat.le_of_ble_eq_true rfl) (by first | rfl | (simp [rokl, rok] <;> omega)) (by first | rfl | (simp [rokl, rok] <;> omega)) (x0_init rfl rfl ok) (fun h' q => ?_)
  obtain ⟨rfl, ok⟩ := q
  refine t_putR (j := 22) (N := 10) dX5_init_60 fwX5_39 (by first | rfl | assumption) (Nat.le_of_ble_eq_true rfl) rfl ⟨rfl, rfl, rfl⟩ flX5_39 (fun _ => rfl) (fun _ => rfl) ok (by first | exact Nat.le_of_ble_eq_true rfl | omega) (by first | exact Nat.le_of_ble_eq_true rfl | omega) (fun ok => ?_)
  refine r_aload_n dX5_init_63 rfl rfl ?_
  refine r_bipush 8 dX5_init_64 (by decide) ?_
  refine t_newq (j := 22) (N := 8) dX5_init_66 clX5_42 (by first | rfl | assumption) (by decide) rfl (Nat.le_of_ble_eq_true rfl) (Nat.le_of_ble_eq_true rfl) (Nat.le_of_ble_eq_true rfl) ok (by first | rfl | (simp [rokl, rok] <;> omega)) (by first | rfl | (simp [rokl, rok] <;> omega)) (fun ok => ?_)
  refine t_putR (j := 23) (N := 10) dX5_init_69 fwX5_44 (by first | rfl | assumption) (Nat.le_of_ble_eq_true rfl) rfl ⟨rfl, rfl, rfl⟩ flX5_44 (fun _ => rfl) (fun _ => rfl) ok (by first | exact Nat.le_of_ble_eq_true rfl | omega) (by first | exact Nat.le_of_ble_eq_true rfl | omega) (fun ok => ?_)
  refine r_aload_n dX5_init_72 rfl rfl ?_
  refine r_iconst 4 dX5_init_73 (by decide) ?_
  refine t_newa (j := 23) (N := 4) dX5_init_74 (by first | rfl | assumption) (by decide) rfl (Nat.le_of_ble_eq_true rfl) (Nat.le_of_ble_eq_true rfl) (Nat.le_of_ble_eq_true rfl) ok (by first | rfl | (simp [rokl, rok] <;> omega)) (by first | rfl | (simp [rokl, rok] <;> omega)) (fun ok => ?_)
  refine t_putR (j := 24) (N := 10) dX5_init_76 fwX5_48 (by first | rfl | assumption) (Nat.le_of_ble_eq_true rfl) rfl ⟨rfl, rfl, rfl⟩ flX5_48 (fun _ => rfl) (fun _ => rfl) ok (by first | exact Nat.le_of_ble_eq_true rfl | omega) (by first | exact Nat.le_of_ble_eq_true rfl | omega) (fun ok => ?_)
  refine r_aload_n dX5_init_79 rfl rfl ?_
  refine r_iconst 0 dX5_init_80 (by decide) ?_
  refine t_putI (j := 24) (N := 10) dX5_init_81 fwX5_52 (by first | rfl | assumption) (Nat.le_of_ble_eq_true rfl) rfl (Or.inl rfl) rfl rfl ok (fun ok => ?_)
  refine r_iconst 0 dX5_init_84 (by decide) ?_
  refine r_istore_n1 dX5_init_85 rfl (Nat.le_of_ble_eq_true rfl) ?_
  have J0 := Jc0 hT hS F1 F2
  generalize upd2 M2 0 7 0 = N0 at J0 ok ⊢
  refine r_iload_n dX5_init_86 rfl rfl ?_
  refine r_bipush 8 dX5_init_87 (by decide) ?_
  refine r_icmp_ge 112 dX5_init_89 (by decide) (fun c_89 => absurd c_89 (by decide)) (fun c_89 => ?_)
  refine r_aload_n dX5_init_92 rfl rfl ?_
  refine r_getR (N := 10) dX5_init_93 fwX5_44 (by first | rfl | assumption) (Nat.le_of_ble_eq_true rfl) rfl (by first | rfl | assumption) ?_
  refine r_iload_n dX5_init_96 rfl rfl ?_
  refine t_newc (j := 24) (ci := 2) (N := 8) dX5_init_97 (by decide) rfl clX5_42 inw2 iniw2 dfv2 (by first | rfl | assumption) (Nat.le_of_ble_eq_true rfl) (Nat.le_of_ble_eq_true rfl) ok (by first | rfl | (simp [rokl, rok] <;> omega)) (by first | rfl | (simp [rokl, rok] <;> omega)) (fun ok => ?_)
  first | refine r_dupR dX5_init_100 ?_ | refine r_dupI dX5_init_100 ?_
  refine r_iload_n dX5_init_101 rfl rfl ?_
  refine t_call1 (Y := mX2_init) (j := 25) dX5_init_102 (Or.inl mlX5_56) ckX2_init ikX2_init ⟨rfl, rfl⟩ rfl (Nat.le_of_ble_eq_true rfl) (by first | rfl | (simp [rokl, rok] <;> omega)) (by first | rfl | (simp [rokl, rok] <;> omega)) (x2_step (i := 0) rfl rfl ok rfl rfl J0) (fun h' q => ?_)
  obtain ⟨N1, rfl, J1, ok⟩ := q
  refine t_aastq (j := 26) (Nb := 8) (q := 0) dX5_init_105 rfl (by first | rfl | assumption) (by exact vp_in_nI (n := 0) (by decide) (by decide)) (by first | rfl | assumption) ok (fun ok => ?_)
  refine r_iinc_1 1 dX5_init_106 rfl (Nat.le_of_ble_eq_true rfl) rfl ?_
  refine r_goto 86 dX5_init_109 (by decide) ?_
  skip
  refine r_iload_n dX5_init_86 rfl rfl ?_
  refine r_bipush 8 dX5_init_87 (by decide) ?_
  refine r_icmp_ge 112 dX5_init_89 (by decide) (fun c_89 => absurd c_89 (by decide)) (fun c_89 => ?_)
  refine r_aload_n dX5_init_92 rfl rfl ?_
  refine r_getR (N := 10) dX5_init_93 fwX5_44 (by first | rfl | assumption) (Nat.le_of_ble_eq_true rfl) rfl (by first | rfl | assumption) ?_
  refine r_iload_n dX5_init_96 rfl rfl ?_
  refine t_newc (j := 26) (ci := 2) (N := 8) dX5_init_97 (by decide) rfl clX5_42 inw2 iniw2 dfv2 (by first | rfl | assumption) (Nat.le_of_ble_eq_true rfl) (Nat.le_of_ble_eq_true rfl) ok (by first | rfl | (simp [rokl, rok] <;> omega)) (by first | rfl | (simp [rokl, rok] <;> omega)) (fun ok => ?_)
  first | refine r_dupR dX5_init_100 ?_ | refine r_dupI dX5_init_100 ?_
  refine r_iload_n dX5_init_101 rfl rfl ?_
  refine t_call1 (Y := mX2_init) (j := 27) dX5_init_102 (Or.inl mlX5_56) ckX2_init ikX2_init ⟨rfl, rfl⟩ rfl (Nat.le_of_ble_eq_true rfl) (by first | rfl | (simp [rokl, rok] <;> omega)) (by first | rfl | (simp [rokl, rok] <;> omega)) (x2_step (i := 1) rfl rfl ok rfl rfl J1) (fun h' q => ?_)
  obtain ⟨N2, rfl, J2, ok⟩ := q
  refine t_aastq (j := 28) (Nb := 8) (q := 1) dX5_init_105 rfl (by first | rfl | assumption) (by exact vp_in_nI (n := 1) (by decide) (by decide)) (by first | rfl | assumption) ok (fun ok => ?_)
  refine r_iinc_1 2 dX5_init_106 rfl (Nat.le_of_ble_eq_true rfl) rfl ?_
  refine r_goto 86 dX5_init_109 (by decide) ?_
  skip
  refine r_iload_n dX5_init_86 rfl rfl ?_
  refine r_bipush 8 dX5_init_87 (by decide) ?_
  refine r_icmp_ge 112 dX5_init_89 (by decide) (fun c_89 => absurd c_89 (by decide)) (fun c_89 => ?_)
  refine r_aload_n dX5_init_92 rfl rfl ?_
  refine r_getR (N := 10) dX5_init_93 fwX5_44 (by first | rfl | assumption) (Nat.le_of_ble_eq_true rfl) rfl (by first | rfl | assumption) ?_
  refine r_iload_n dX5_init_96 rfl rfl ?_
  refine t_newc (j := 28) (ci := 2) (N := 8) dX5_init_97 (by decide) rfl clX5_42 inw2 iniw2 dfv2 (by first | rfl | assumption) (Nat.le_of_ble_eq_true rfl) (Nat.le_of_ble_eq_true rfl) ok (by first | rfl | (simp [rokl, rok] <;> omega)) (by first | rfl | (simp [rokl, rok] <;> omega)) (fun ok => ?_)
  first | refine r_dupR dX5_init_100 ?_ | refine r_dupI dX5_init_100 ?_
  refine r_iload_n dX5_init_101 rfl rfl ?_
  refine t_call1 (Y := mX2_init) (j := 29) dX5_init_102 (Or.inl mlX5_56) ckX2_init ikX2_init ⟨rfl, rfl⟩ rfl (Nat.le_of_ble_eq_true rfl) (by first | rfl | (simp [rokl, rok] <;> omega)) (by first | rfl | (simp [rokl, rok] <;> omega)) (x2_step (i := 2) rfl rfl ok rfl rfl J2) (fun h' q => ?_)
  obtain ⟨N3, rfl, J3, ok⟩ := q
  refine t_aastq (j := 30) (Nb := 8) (q := 2) dX5_init_105 rfl (by first | rfl | assumption) (by exact vp_in_nI (n := 2) (by decide) (by decide)) (by first | rfl | assumption) ok (fun ok => ?_)
  refine r_iinc_1 3 dX5_init_106 rfl (Nat.le_of_ble_eq_true rfl) rfl ?_
  refine r_goto 86 dX5_init_109 (by decide) ?_
  skip
  refine r_iload_n dX5_init_86 rfl rfl ?_
  refine r_bipush 8 dX5_init_87 (by decide) ?_
  refine r_icmp_ge 112 dX5_init_89 (by decide) (fun c_89 => absurd c_89 (by decide)) (fun c_89 => ?_)
  refine r_aload_n dX5_init_92 rfl rfl ?_
  refine r_getR (N := 10) dX5_init_93 fwX5_44 (by first | rfl | assumption) (Nat.le_of_ble_eq_true rfl) rfl (by first | rfl | assumption) ?_
  refine r_iload_n dX5_init_96 rfl rfl ?_
  refine t_newc (j := 30) (ci := 2) (N := 8) dX5_init_97 (by decide) rfl clX5_42 inw2 iniw2 dfv2 (by first | rfl | assumption) (Nat.le_of_ble_eq_true rfl) (Nat.le_of_ble_eq_true rfl) ok (by first | rfl | (simp [rokl, rok] <;> omega)) (by first | rfl | (simp [rokl, rok] <;> omega)) (fun ok => ?_)
  first | refine r_dupR dX5_init_100 ?_ | refine r_dupI dX5_init_100 ?_
  refine r_iload_n dX5_init_101 rfl rfl ?_
  refine t_call1 (Y := mX2_init) (j := 31) dX5_init_102 (Or.inl mlX5_56) ckX2_init ikX2_init ⟨rfl, rfl⟩ rfl (Nat.le_of_ble_eq_true rfl) (by first | rfl | (simp [rokl, rok] <;> omega)) (by first | rfl | (simp [rokl, rok] <;> omega)) (x2_step (i := 3) rfl rfl ok rfl rfl J3) (fun h' q => ?_)
  obtain ⟨N4, rfl, J4, ok⟩ := q
  refine t_aastq (j := 32) (Nb := 8) (q := 3) dX5_init_105 rfl (by first | rfl | assumption) (by exact vp_in_nI (n := 3) (by decide) (by decide)) (by first | rfl | assumption) ok (fun ok => ?_)
  refine r_iinc_1 4 dX5_init_106 rfl (Nat.le_of_ble_eq_true rfl) rfl ?_
  refine r_goto 86 dX5_init_109 (by decide) ?_
  skip
  refine r_iload_n dX5_init_86 rfl rfl ?_
  refine r_bipush 8 dX5_init_87 (by decide) ?_
  refine r_icmp_ge 112 dX5_init_89 (by decide) (fun c_89 => absurd c_89 (by decide)) (fun c_89 => ?_)
  refine r_aload_n dX5_init_92 rfl rfl ?_
  refine r_getR (N := 10) dX5_init_93 fwX5_44 (by first | rfl | assumption) (Nat.le_of_ble_eq_true rfl) rfl (by first | rfl | assumption) ?_
  refine r_iload_n dX5_init_96 rfl rfl ?_
  refine t_newc (j := 32) (ci := 2) (N := 8) dX5_init_97 (by decide) rfl clX5_42 inw2 iniw2 dfv2 (by first | rfl | assumption) (Nat.le_of_ble_eq_true rfl) (Nat.le_of_ble_eq_true rfl) ok (by first | rfl | (simp [rokl, rok] <;> omega)) (by first | rfl | (simp [rokl, rok] <;> omega)) (fun ok => ?_)
  first | refine r_dupR dX5_init_100 ?_ | refine r_dupI dX5_init_100 ?_
  refine r_iload_n dX5_init_101 rfl rfl ?_
  refine t_call1 (Y := mX2_init) (j := 33) dX5_init_102 (Or.inl mlX5_56) ckX2_init ikX2_init ⟨rfl, rfl⟩ rfl (Nat.le_of_ble_eq_true rfl) (by first | rfl | (simp [rokl, rok] <;> omega)) (by first | rfl | (simp [rokl, rok] <;> omega)) (x2_step (i := 4) rfl rfl ok rfl rfl J4) (fun h' q => ?_)
  obtain ⟨N5, rfl, J5, ok⟩ := q
  refine t_aastq (j := 34) (Nb := 8) (q := 4) dX5_init_105 rfl (by first | rfl | assumption) (by exact vp_in_nI (n := 4) (by decide) (by decide)) (by first | rfl | assumption) ok (fun ok => ?_)
  refine r_iinc_1 5 dX5_init_106 rfl (Nat.le_of_ble_eq_true rfl) rfl ?_
  refine r_goto 86 dX5_init_109 (by decide) ?_
  skip
  refine r_iload_n dX5_init_86 rfl rfl ?_
  refine r_bipush 8 dX5_init_87 (by decide) ?_
  refine r_icmp_ge 112 dX5_init_89 (by decide) (fun c_89 => absurd c_89 (by decide)) (fun c_89 => ?_)
  refine r_aload_n dX5_init_92 rfl rfl ?_
  refine r_getR (N := 10) dX5_init_93 fwX5_44 (by first | rfl | assumption) (Nat.le_of_ble_eq_true rfl) rfl (by first | rfl | assumption) ?_
  refine r_iload_n dX5_init_96 rfl rfl ?_
  refine t_newc (j := 34) (ci := 2) (N := 8) dX5_init_97 (by decide) rfl clX5_42 inw2 iniw2 dfv2 (by first | rfl | assumption) (Nat.le_of_ble_eq_true rfl) (Nat.le_of_ble_eq_true rfl) ok (by first | rfl | (simp [rokl, rok] <;> omega)) (by first | rfl | (simp [rokl, rok] <;> omega)) (fun ok => ?_)
  first | refine r_dupR dX5_init_100 ?_ | refine r_dupI dX5_init_100 ?_
  refine r_iload_n dX5_init_101 rfl rfl ?_
  refine t_call1 (Y := mX2_init) (j := 35) dX5_init_102 (Or.inl mlX5_56) ckX2_init ikX2_init ⟨rfl, rfl⟩ rfl (Nat.le_of_ble_eq_true rfl) (by first | rfl | (simp [rokl, rok] <;> omega)) (by first | rfl | (simp [rokl, rok] <;> omega)) (x2_step (i := 5) rfl rfl ok rfl rfl J5) (fun h' q => ?_)
  obtain ⟨N6, rfl, J6, ok⟩ := q
  refine t_aastq (j := 36) (Nb := 8) (q := 5) dX5_init_105 rfl (by first | rfl | assumption) (by exact vp_in_nI (n := 5) (by decide) (by decide)) (by first | rfl | assumption) ok (fun ok => ?_)
  refine r_iinc_1 6 dX5_init_106 rfl (Nat.le_of_ble_eq_true rfl) rfl ?_
  refine r_goto 86 dX5_init_109 (by decide) ?_
  skip
  refine r_iload_n dX5_init_86 rfl rfl ?_
  refine r_bipush 8 dX5_init_87 (by decide) ?_
  refine r_icmp_ge 112 dX5_init_89 (by decide) (fun c_89 => absurd c_89 (by decide)) (fun c_89 => ?_)
  refine r_aload_n dX5_init_92 rfl rfl ?_
  refine r_getR (N := 10) dX5_init_93 fwX5_44 (by first | rfl | assumption) (Nat.le_of_ble_eq_true rfl) rfl (by first | rfl | assumption) ?_
  refine r_iload_n dX5_init_96 rfl rfl ?_
  refine t_newc (j := 36) (ci := 2) (N := 8) dX5_init_97 (by decide) rfl clX5_42 inw2 iniw2 dfv2 (by first | rfl | assumption) (Nat.le_of_ble_eq_true rfl) (Nat.le_of_ble_eq_true rfl) ok (by first | rfl | (simp [rokl, rok] <;> omega)) (by first | rfl | (simp [rokl, rok] <;> omega)) (fun ok => ?_)
  first | refine r_dupR dX5_init_100 ?_ | refine r_dupI dX5_init_100 ?_
  refine r_iload_n dX5_init_101 rfl rfl ?_
  refine t_call1 (Y := mX2_init) (j := 37) dX5_init_102 (Or.inl mlX5_56) ckX2_init ikX2_init ⟨rfl, rfl⟩ rfl (Nat.le_of_ble_eq_true rfl) (by first | rfl | (simp [rokl, rok] <;> omega)) (by first | rfl | (simp [rokl, rok] <;> omega)) (x2_step (i := 6) rfl rfl ok rfl rfl J6) (fun h' q => ?_)
  obtain ⟨N7, rfl, J7, ok⟩ := q
  refine t_aastq (j := 38) (Nb := 8) (q := 6) dX5_init_105 rfl (by first | rfl | assumption) (by exact vp_in_nI (n := 6) (by decide) (by decide)) (by first | rfl | assumption) ok (fun ok => ?_)
  refine r_iinc_1 7 dX5_init_106 rfl (Nat.le_of_ble_eq_true rfl) rfl ?_
  refine r_goto 86 dX5_init_109 (by decide) ?_
  skip
  refine r_iload_n dX5_init_86 rfl rfl ?_
  refine r_bipush 8 dX5_init_87 (by decide) ?_
  refine r_icmp_ge 112 dX5_init_89 (by decide) (fun c_89 => absurd c_89 (by decide)) (fun c_89 => ?_)
  refine r_aload_n dX5_init_92 rfl rfl ?_
  refine r_getR (N := 10) dX5_init_93 fwX5_44 (by first | rfl | assumption) (Nat.le_of_ble_eq_true rfl) rfl (by first | rfl | assumption) ?_
  refine r_iload_n dX5_init_96 rfl rfl ?_
  refine t_newc (j := 38) (ci := 2) (N := 8) dX5_init_97 (by decide) rfl clX5_42 inw2 iniw2 dfv2 (by first | rfl | assumption) (Nat.le_of_ble_eq_true rfl) (Nat.le_of_ble_eq_true rfl) ok (by first | rfl | (simp [rokl, rok] <;> omega)) (by first | rfl | (simp [rokl, rok] <;> omega)) (fun ok => ?_)
  first | refine r_dupR dX5_init_100 ?_ | refine r_dupI dX5_init_100 ?_
  refine r_iload_n dX5_init_101 rfl rfl ?_
  refine t_call1 (Y := mX2_init) (j := 39) dX5_init_102 (Or.inl mlX5_56) ckX2_init ikX2_init ⟨rfl, rfl⟩ rfl (Nat.le_of_ble_eq_true rfl) (by first | rfl | (simp [rokl, rok] <;> omega)) (by first | rfl | (simp [rokl, rok] <;> omega)) (x2_step (i := 7) rfl rfl ok rfl rfl J7) (fun h' q => ?_)
  obtain ⟨N8, rfl, J8, ok⟩ := q
  refine t_aastq (j := 40) (Nb := 8) (q := 7) dX5_init_105 rfl (by first | rfl | assumption) (by exact vp_in_nI (n := 7) (by decide) (by decide)) (by first | rfl | assumption) ok (fun ok => ?_)
  refine r_iinc_1 8 dX5_init_106 rfl (Nat.le_of_ble_eq_true rfl) rfl ?_
  refine r_goto 86 dX5_init_109 (by decide) ?_
  skip
  refine r_iload_n dX5_init_86 rfl rfl ?_
  refine r_bipush 8 dX5_init_87 (by decide) ?_
  refine r_icmp_ge 112 dX5_init_89 (by decide) (fun c_89 => ?_) (fun c_89 => absurd (by decide) c_89)
  refine r_return dX5_init_112 rfl (Nat.le_of_ble_eq_true rfl) (Nat.le_of_ble_eq_true rfl) ?_
  exact ⟨rfl, _, rfl, J8, ok⟩
