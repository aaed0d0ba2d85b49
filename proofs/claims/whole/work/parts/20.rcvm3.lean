theorem rb_ok {X : Nat → Nat} {j l : Nat} (hx : X (j + 1) < 1024) (hj : j + 1 < l) (hl : l ≤ 17) (h : pw (X (j + 1)) (eR X (j + 1)) (j + 1) l = 0) : okB (rb X j) := by
  have hn : ¬ cvf (X (j + 1)) (eR X (j + 1)) < 0 := fun q => (pw_n hx (w := j + 1) (l := l) q).2 h
  obtain ⟨k, hk, he⟩ := cvf_nn hx hn
  have hm : misp (cvf (X (j + 1)) (eR X (j + 1))) (j + 1) l = false := by
    cases hq : misp (cvf (X (j + 1)) (eR X (j + 1))) (j + 1) l with
    | false => rfl
    | true => rw [pw_3 hn hq] at h; exact absurd h (by decide)
  refine okB_xor ?_ (sc_tab j (by omega)).2
  unfold misp at hm
  rw [if_neg (by omega), if_neg (by omega), decide_eq_false_iff_not] at hm
  rw [he] at hm ⊢
  exact okB_v hm hk
set_option maxHeartbeats 4000000 in
set_option maxRecDepth 100000 in
theorem m_rc_cmp {M : Mem} {l : Nat} {z c : Int32} (hl : 6 ≤ l) (hl2 : l ≤ 17) (g : Nat → Int32) (hg : ∀ q, q < 4 → M 50 (l - 4 + q) = g q) (hz0 : (∀ q, q < 4 → g q = nby c q) → z = 0) (hz4 : ∀ q, q < 4 → ¬ g q = nby c q → z = 4) : ∀ (d k : Nat), k + d = 4 → (∀ q, q < k → g q = nby c q) → WP mX6_receive 92 [some (.ref 40), some (.int (nI (l + 1))), some (.int c), some (.int (nI k))] [] 0 0 (shp, rfs, M) (fun r1 h1 => r1 = some (.int z) ∧ h1 = (shp, rfs, M)) := by
  have h5 : nI (l + 1) - 5 = nI (l - 4) := by
    rw [show (nI (l + 1) - 5 : Int32) = nI (l + 1 - 5) from pk_sub (a := l + 1) (b := 5) (by omega)]
    congr 1
  intro d
  induction d with
  | zero =>
    intro k hk h
    have hk : k = 4 := by omega
    subst hk
    rw [hz0 h]
    refine r_iload_n dX6_receive_92 rfl rfl ?_
    refine r_iconst 4 dX6_receive_93 (by decide) ?_
    refine r_icmp_ge 131 dX6_receive_94 (by decide) (fun c_94 => ?_) (fun c_94 => absurd (by decide) c_94)
    refine r_iconst 0 dX6_receive_131 (by decide) ?_
    refine r_ireturn dX6_receive_132 rfl (Nat.zero_le _) (Nat.zero_le _) ?_
    exact ⟨rfl, rfl⟩
  | succ d ih =>
    intro k hk h
    have hcl : (nI (l - 4 + k)).toNatClampNeg = l - 4 + k := nI_clamp (by omega)
    have hsh : 24 - 8 * nI k = nI (24 - 8 * k) := by
      rw [show (8 : Int32) * nI k = nI (8 * k) from pk_mul 8 k]
      exact pk_sub (a := 24) (b := 8 * k) (by omega)
    have hcmp : us c (nI (24 - 8 * k)) &&& 255 = nby c k := rfl
    refine r_iload_n dX6_receive_92 rfl rfl ?_
    refine r_iconst 4 dX6_receive_93 (by decide) ?_
    refine r_icmp_ge 131 dX6_receive_94 (by decide) (fun c_94 => absurd c_94 (nI_ge (a := k) (b := 4) (by omega) (by decide))) (fun c_94 => ?_)
    refine r_aload_n dX6_receive_97 rfl rfl ?_
    refine r_getR (N := 35) dX6_receive_98 fwX6_37 (by first | rfl | assumption) (Nat.le_of_ble_eq_true rfl) rfl (by first | rfl | assumption) ?_
    refine r_iload_n dX6_receive_101 rfl rfl ?_
    refine r_iconst 5 dX6_receive_102 (by decide) ?_
    refine r_isub dX6_receive_103 ?_
    refine r_iload_n dX6_receive_104 rfl rfl ?_
    rw [h5]
    refine r_iadd dX6_receive_105 ?_
    rw [nI_add]
    refine r_iaload dX6_receive_106 (by first | rfl | assumption) (by exact vp_in_nI (by omega) (by decide)) ?_
    rw [hcl, hg k (by omega)]
    refine r_iload_n dX6_receive_107 rfl rfl ?_
    refine r_bipush 24 dX6_receive_108 (by decide) ?_
    refine r_bipush 8 dX6_receive_110 (by decide) ?_
    refine r_iload_n dX6_receive_112 rfl rfl ?_
    refine r_imul dX6_receive_113 ?_
    refine r_isub dX6_receive_114 ?_
    rw [hsh]
    refine r_iushr dX6_receive_115 ?_
    refine r_sipush 255 dX6_receive_116 (by decide) ?_
    refine r_iand dX6_receive_119 ?_
    refine r_icmp_eq 125 dX6_receive_120 (by decide) (fun c_120 => ?_) (fun c_120 => ?_)
    · refine r_iinc_3 (_ + 1) dX6_receive_125 rfl (Nat.le_of_ble_eq_true rfl) rfl ?_
      refine r_goto 92 dX6_receive_128 (by decide) ?_
      rw [nI_1]
      exact ih (k + 1) (by omega) (fun q hq => (Nat.lt_or_ge q k).elim (h q) (fun z => by rw [show q = k by omega]; exact c_120))
    · refine r_iconst 4 dX6_receive_123 (by decide) ?_
      refine r_ireturn dX6_receive_124 rfl (Nat.zero_le _) (Nat.zero_le _) ?_
      rw [hz4 k (by omega) c_120]
      exact ⟨rfl, rfl⟩
set_option maxHeartbeats 4000000 in
set_option maxRecDepth 100000 in
theorem m_rc_ds {M0 : Mem} {l : Nat} {X : Nat → Nat} (hl : 6 ≤ l) (hl2 : l ≤ 17) (hg : ∀ j, j ≤ l → M0 50 j = cvf (X j) (eR X j)) : ∀ (d k : Nat) (M : Mem), k + 1 + d = l → (∀ j, j < k → M 50 (j + 1) = rb X j) → (∀ j, k < j → M 50 j = M0 50 j) → M 40 33 = rS k → FrS [50] [(40, 33)] M0 M → ∃ M', (∀ Q, WP mX6_receive 77 [some (.ref 40), some (.int (nI (l + 1))), none, none] [] 0 0 (shp, rfs, M') Q → WP mX6_receive 47 [some (.ref 40), some (.int (nI (l + 1))), some (.int (nI (k + 1))), none] [] 0 0 (shp, rfs, M) Q) ∧ (∀ j, j < l - 1 → M' 50 (j + 1) = rb X j) ∧ FrS [50] [(40, 33)] M0 M' := by
  intro d
  induction d with
  | zero =>
    intro k M hk h1 h2 hr F
    have hk : k + 1 = l := by omega
    refine ⟨M, fun Q hq => ?_, fun j hj => h1 j (by omega), F⟩
    subst hk
    refine r_iload_n dX6_receive_47 rfl rfl ?_
    refine r_iload_n dX6_receive_48 rfl rfl ?_
    refine r_iconst 1 dX6_receive_49 (by decide) ?_
    refine r_isub dX6_receive_50 ?_
    rw [nI_m1]
    refine r_icmp_ge 77 dX6_receive_51 (by decide) (fun c_51 => ?_) (fun c_51 => absurd (nI_le (Nat.le_refl _) (by omega)) c_51)
    exact r_weak (by simp [lvle] <;> (repeat' apply And.intro) <;> first | rfl | decide) hq
  | succ d ih =>
    intro k M hk h1 h2 hr F
    have hcl : (nI (k + 1)).toNatClampNeg = k + 1 := nI_clamp (by omega)
    have g1 := m_nextScramble (i := k) (by omega) hr
    have hv : M 50 (k + 1) ^^^ sc k = rb X k := by rw [h2 (k + 1) (by omega), hg (k + 1) (by omega)]; rfl
    have F1 : FrS [50] [(40, 33)] M0 (upd2 (upd2 M 40 33 (rS (k + 1))) 50 (k + 1) (rb X k)) := (F.ups (by decide)).upc (by decide)
    obtain ⟨M', w, H', F'⟩ := ih (k + 1) _ (by omega) (fun j hj => by
        by_cases hq : j = k
        · subst hq; rw [u_ss]
        · rw [u_sn (by omega), u_nn (by decide)]; exact h1 j (by omega)) (fun j hj => by rw [u_sn (by omega), u_nn (by decide)]; exact h2 j (by omega)) (by rw [u_nn (by decide), u_ss]) F1
    refine ⟨M', fun Q hq => ?_, H', F'⟩
    have w' := w Q hq
    refine r_iload_n dX6_receive_47 rfl rfl ?_
    refine r_iload_n dX6_receive_48 rfl rfl ?_
    refine r_iconst 1 dX6_receive_49 (by decide) ?_
    refine r_isub dX6_receive_50 ?_
    rw [nI_m1]
    refine r_icmp_ge 77 dX6_receive_51 (by decide) (fun c_51 => absurd c_51 (nI_ge (by omega) (by omega))) (fun c_51 => ?_)
    refine r_aload_n dX6_receive_54 rfl rfl ?_
    refine r_getR (N := 35) dX6_receive_55 fwX6_37 (by first | rfl | assumption) (Nat.le_of_ble_eq_true rfl) rfl (by first | rfl | assumption) ?_
    refine r_iload_n dX6_receive_58 rfl rfl ?_
    refine r_aload_n dX6_receive_59 rfl rfl ?_
    refine r_getR (N := 35) dX6_receive_60 fwX6_37 (by first | rfl | assumption) (Nat.le_of_ble_eq_true rfl) rfl (by first | rfl | assumption) ?_
    refine r_iload_n dX6_receive_63 rfl rfl ?_
    refine r_iaload dX6_receive_64 (by first | rfl | assumption) (by exact vp_in_nI (by omega) (by decide)) ?_
    refine r_aload_n dX6_receive_65 rfl rfl ?_
    refine gV0 (Y := mX6_nextScramble) (ci := 6) (N := 35) dX6_receive_66 mlX6_128 vkX6_nextScramble (by first | rfl | assumption) ⟨by decide, rfl⟩ rfl g1 ?_
    refine r_ixor dX6_receive_69 ?_
    rw [hcl, hv]
    refine r_iastore dX6_receive_70 (by first | rfl | assumption) (by exact vp_in_nI (by omega) (by decide)) ?_
    rw [hcl]
    refine r_iinc_2 (_ + 1) dX6_receive_71 rfl (Nat.le_of_ble_eq_true rfl) rfl ?_
    refine r_goto 47 dX6_receive_74 (by decide) ?_
    rw [nI_1]
    exact w'
set_option maxHeartbeats 4000000 in
set_option maxRecDepth 100000 in
theorem m_rc_lp {M0 : Mem} {l : Nat} (T : TabM M0) (hl : 6 ≤ l) (hl2 : l ≤ 17) (h01 : is01 (M0 48) (10 * (l + 1))) : ∀ (d k : Nat) (M : Mem), k + d = l + 1 → (∀ j, j < k → M 50 j = cvf (xW (M0 48) j) (eR (xW (M0 48)) j) ∧ pw (xW (M0 48) j) (eR (xW (M0 48)) j) j l = 0) → M 40 34 = eI (eR (xW (M0 48)) k) → FrS [50] [(40, 34)] M0 M → ∃ M', WP mX6_receive 15 [some (.ref 40), some (.int (nI (l + 1))), some (.int (nI k)), none] [] 0 0 (shp, rfs, M) (fun r1 h1 => r1 = some (.int (rcL (xW (M0 48)) l (rcZ (xW (M0 48)) l) d k)) ∧ h1 = (shp, rfs, M')) ∧ FrS [50] [(40, 34), (40, 33)] M0 M' := by
  intro d
  induction d with
  | zero =>
    intro k M hk h he F
    have hk : k = l + 1 := by omega
    subst hk
    have F0 : FrS [50] [(40, 34), (40, 33)] M0 M := F.mono (by decide) (by decide)
    obtain ⟨M', w, H', F'⟩ := m_rc_ds (M0 := upd2 M 40 33 65535) (l := l) (X := xW (M0 48)) hl hl2 (fun j hj => by rw [u_nn (by decide)]; exact (h j (by omega)).1) (l - 1) 0 (upd2 M 40 33 65535) (by omega) (fun j hj => absurd hj (by omega)) (fun j _ => rfl) u_ss FrS.rf
    refine ⟨M', ?_, (F0.ups (by decide)).tr (F'.mono (by decide) (by decide))⟩
    have hok : ∀ j, j < l - 1 → okB (rb (xW (M0 48)) j) := fun j hj => rb_ok (xW_lt h01 (by omega)) (by omega) hl2 (h (j + 1) (by omega)).2
    have hck := m_checkOf (M := M') (r := 50) (fr := 1) (n := l - 5) (N := 18) rfl (by omega) (by decide)
    rw [crcN_congr (f := fun q => M' 50 (1 + q)) (g := rb (xW (M0 48))) (l - 5) (fun j hj => by rw [Nat.add_comm]; exact H' j (by omega))] at hck
    have h6 : nI (l + 1) - 6 = nI (l - 5) := by
      rw [show (nI (l + 1) - 6 : Int32) = nI (l + 1 - 6) from pk_sub (a := l + 1) (b := 6) (by omega)]
      congr 1
    have hn4 := num4_eq (x := crcN (rb (xW (M0 48))) (l - 5)) (hok (l - 5) (by omega)) (hok (l - 5 + 1) (by omega)) (hok (l - 5 + 1 + 1) (by omega)) (hok (l - 5 + 1 + 1 + 1) (by omega))
    have hcm := m_rc_cmp (M := M') (l := l) (z := rcZ (xW (M0 48)) l) (c := crcN (rb (xW (M0 48))) (l - 5)) hl hl2 (fun q => rb (xW (M0 48)) (l - 5 + q)) (fun q hq => by rw [show l - 4 + q = l - 5 + q + 1 by omega]; exact H' _ (by omega)) (fun h => if_pos (hn4.mpr ⟨h 0 (by omega), h 1 (by omega), h 2 (by omega), h 3 (by omega)⟩)) (fun q hq hne => if_neg (fun z => by
        obtain ⟨z0, z1, z2, z3⟩ := hn4.mp z
        have hq4 : q = 0 ∨ q = 1 ∨ q = 2 ∨ q = 3 := by omega
        rcases hq4 with rfl | rfl | rfl | rfl
        · exact hne z0
        · exact hne z1
        · exact hne z2
        · exact hne z3)) 4 0 rfl (fun q hq => absurd hq (by omega))
    refine r_iload_n dX6_receive_15 rfl rfl ?_
    refine r_iload_n dX6_receive_16 rfl rfl ?_
    refine r_icmp_ge 39 dX6_receive_17 (by decide) (fun c_17 => ?_) (fun c_17 => absurd (nI_le (Nat.le_refl _) (by omega)) c_17)
    refine r_aload_n dX6_receive_39 rfl rfl ?_
    refine r_ldc 65535 dX6_receive_40 cnX6_112 ?_
    refine r_putI (N := 35) dX6_receive_42 fwX6_109 (by first | rfl | assumption) (Nat.le_of_ble_eq_true rfl) rfl (Or.inl rfl) rfl rfl ?_
    refine r_iconst 1 dX6_receive_45 (by decide) ?_
    refine r_istore_n2 dX6_receive_46 rfl (Nat.le_of_ble_eq_true rfl) ?_
    refine r_weak (by simp [lvle] <;> (repeat' apply And.intro) <;> first | rfl | decide) (w _ ?_)
    refine r_aload_n dX6_receive_77 rfl rfl ?_
    refine r_getR (N := 35) dX6_receive_78 fwX6_37 (by first | rfl | assumption) (Nat.le_of_ble_eq_true rfl) rfl (by first | rfl | assumption) ?_
    refine r_iconst 1 dX6_receive_81 (by decide) ?_
    refine r_iload_n dX6_receive_82 rfl rfl ?_
    refine r_bipush 6 dX6_receive_83 (by decide) ?_
    refine r_isub dX6_receive_85 ?_
    rw [h6]
    refine gS3 (Y := mX6_checkOf) dX6_receive_86 mlX6_105 ckX6_checkOf skX6_checkOf rfl hck ?_
    refine r_istore_n2 dX6_receive_89 rfl (Nat.le_of_ble_eq_true rfl) ?_
    refine r_iconst 0 dX6_receive_90 (by decide) ?_
    refine r_istore_n3 dX6_receive_91 rfl (Nat.le_of_ble_eq_true rfl) ?_
    exact hcm
  | succ d ih =>
    intro k M hk h he F
    have r48 : M 48 = M0 48 := F.row (by decide) (by simp)
    obtain ⟨M1, g1, F1, h1⟩ := m_findWord (M := M) (k := k) (l := l) (T.frS F (by decide) (by decide)) (by omega) hl2 (by rw [r48]; exact h01) (by rw [r48]; exact he)
    rw [r48] at g1 h1
    have F01 := F.tr F1
    simp only [rcL]
    by_cases hp : pw (xW (M0 48) k) (eR (xW (M0 48)) k) k l = 0
    · rw [if_pos hp]
      obtain ⟨i1, i2, i3⟩ := h1 hp
      obtain ⟨M', w, F'⟩ := ih (k + 1) M1 (by omega) (fun j hj => by
        by_cases hq : j = k
        · subst hq; exact ⟨i1, hp⟩
        · rw [i3 j hq]; exact h j (by omega)) i2 F01
      refine ⟨M', ?_, F'⟩
      rw [hp] at g1
      refine r_iload_n dX6_receive_15 rfl rfl ?_
      refine r_iload_n dX6_receive_16 rfl rfl ?_
      refine r_icmp_ge 39 dX6_receive_17 (by decide) (fun c_17 => absurd c_17 (nI_ge (by omega) (by omega))) (fun c_17 => ?_)
      refine r_aload_n dX6_receive_20 rfl rfl ?_
      refine r_iload_n dX6_receive_21 rfl rfl ?_
      refine r_iload_n dX6_receive_22 rfl rfl ?_
      refine gV2 (Y := mX6_findWord) (ci := 6) (N := 35) dX6_receive_23 mlX6_138 vkX6_findWord (by first | rfl | assumption) ⟨by decide, rfl⟩ rfl g1 ?_
      refine r_istore_n3 dX6_receive_26 rfl (Nat.le_of_ble_eq_true rfl) ?_
      refine r_iload_n dX6_receive_27 rfl rfl ?_
      refine r_if_eq 33 dX6_receive_28 (by decide) (fun c_28 => ?_) (fun c_28 => absurd rfl c_28)
      refine r_iinc_2 (_ + 1) dX6_receive_33 rfl (Nat.le_of_ble_eq_true rfl) rfl ?_
      refine r_goto 15 dX6_receive_36 (by decide) ?_
      rw [nI_1]
      exact r_weak (by simp [lvle] <;> (repeat' apply And.intro) <;> first | rfl | decide) w
    · rw [if_neg hp]
      refine ⟨M1, ?_, F01.mono (by decide) (by decide)⟩
      refine r_iload_n dX6_receive_15 rfl rfl ?_
      refine r_iload_n dX6_receive_16 rfl rfl ?_
      refine r_icmp_ge 39 dX6_receive_17 (by decide) (fun c_17 => absurd c_17 (nI_ge (by omega) (by omega))) (fun c_17 => ?_)
      refine r_aload_n dX6_receive_20 rfl rfl ?_
      refine r_iload_n dX6_receive_21 rfl rfl ?_
      refine r_iload_n dX6_receive_22 rfl rfl ?_
      refine gV2 (Y := mX6_findWord) (ci := 6) (N := 35) dX6_receive_23 mlX6_138 vkX6_findWord (by first | rfl | assumption) ⟨by decide, rfl⟩ rfl g1 ?_
      refine r_istore_n3 dX6_receive_26 rfl (Nat.le_of_ble_eq_true rfl) ?_
      refine r_iload_n dX6_receive_27 rfl rfl ?_
      refine r_if_eq 33 dX6_receive_28 (by decide) (fun c_28 => absurd c_28 hp) (fun c_28 => ?_)
      refine r_iload_n dX6_receive_31 rfl rfl ?_
      refine r_ireturn dX6_receive_32 rfl (Nat.zero_le _) (Nat.zero_le _) ?_
      exact ⟨rfl, rfl⟩
set_option maxHeartbeats 4000000 in
set_option maxRecDepth 100000 in
theorem m_receive {M : Mem} {l : Nat} (T : TabM M) (hl : 6 ≤ l) (hl2 : l ≤ 17) (hb : M 40 12 = nI (10 * (l + 1))) (h01 : is01 (M 48) (10 * (l + 1))) : ∃ M', Gv mX6_receive [.ref 40] M (some (.int (rcv (xW (M 48)) l))) M' ∧ FrS [50] [(40, 34), (40, 33)] M M' := by
  have F0 : FrS [50] [(40, 34), (40, 33)] M (upd2 M 40 34 0) := FrS.rf.ups (by decide)
  have r48 : upd2 M 40 34 0 48 = M 48 := upd2_n (by decide)
  obtain ⟨M', w, F'⟩ := m_rc_lp (M0 := upd2 M 40 34 0) (l := l) (T.frS F0 (by decide) (by decide)) hl hl2 (by rw [r48]; exact h01) (l + 1) 0 (upd2 M 40 34 0) (by omega) (fun j q => absurd q (by omega)) u_ss FrS.rf
  rw [r48] at w
  refine ⟨M', ?_, F0.tr F'⟩
  have hd : nI (10 * (l + 1)) / 10 = nI (l + 1) := by
    rw [show (nI (10 * (l + 1)) / 10 : Int32) = nI (10 * (l + 1) / 10) from pk_div (a := 10 * (l + 1)) (d := 10) (by omega) (by decide) (by decide)]
    congr 1
    omega
  refine con_of (lv := [some (.ref 40), none, none, none]) (by decide) rfl (Nat.le_of_ble_eq_true rfl) (by simp [lvle]) ?_
  refine r_aload_n dX6_receive_0 rfl rfl ?_
  refine r_getI (N := 35) dX6_receive_1 fwX6_118 (by first | rfl | assumption) (Nat.le_of_ble_eq_true rfl) rfl ?_
  refine r_bipush 10 dX6_receive_4 (by decide) ?_
  refine r_idiv dX6_receive_6 (by decide) ?_
  rw [hb, hd]
  refine r_istore_n1 dX6_receive_7 rfl (Nat.le_of_ble_eq_true rfl) ?_
  refine r_aload_n dX6_receive_8 rfl rfl ?_
  refine r_iconst 0 dX6_receive_9 (by decide) ?_
  refine r_putI (N := 35) dX6_receive_10 fwX6_114 (by first | rfl | assumption) (Nat.le_of_ble_eq_true rfl) rfl (Or.inl rfl) (by decide) (by decide) ?_
  refine r_iconst 0 dX6_receive_13 (by decide) ?_
  refine r_istore_n2 dX6_receive_14 rfl (Nat.le_of_ble_eq_true rfl) ?_
  exact w
