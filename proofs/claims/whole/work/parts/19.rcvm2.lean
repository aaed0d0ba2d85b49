theorem eR_s {X : Nat → Nat} {w : Nat} {v : Int32} (h : cvf (X w) (eR X w) = v) : eR X (w + 1) = Bool.xor (eR X w) (decide (252 ≤ v)) := by
  show Bool.xor _ _ = _
  rw [h]
theorem m_gg {M : Mem} {k : Nat} {v : Int32} : (upd2 M 50 k v) 50 k = v := u_ss
set_option maxHeartbeats 4000000 in
set_option maxRecDepth 100000 in
theorem m_findWord {M : Mem} {k l : Nat} (T : TabM M) (hk : k ≤ l) (hl : l ≤ 17) (h01 : is01 (M 48) (10 * (l + 1))) (he : M 40 34 = eI (eR (xW (M 48)) k)) : ∃ M', Gv mX6_findWord [.ref 40, .int (nI k), .int (nI (l + 1))] M (some (.int (pw (xW (M 48) k) (eR (xW (M 48)) k) k l))) M' ∧ FrS [50] [(40, 34)] M M' ∧ (pw (xW (M 48) k) (eR (xW (M 48)) k) k l = 0 → M' 50 k = cvf (xW (M 48) k) (eR (xW (M 48)) k) ∧ M' 40 34 = eI (eR (xW (M 48)) (k + 1)) ∧ ∀ j, j ≠ k → M' 50 j = M 50 j) := by
  have hx : xW (M 48) k < 1024 := xW_lt h01 (by omega)
  have hcl : (nI (xW (M 48) k)).toNatClampNeg = xW (M 48) k := nI_clamp (by omega)
  have hclk : (nI k).toNatClampNeg = k := nI_clamp (by omega)
  have ht := T.2.1 _ hx
  have u0 := m_unevenOf T (w := xW (M 48) k) (e := false)
  have u1 := m_unevenOf T (w := xW (M 48) k) (e := true)
  have ue := m_unevenOf T (w := xW (M 48) k) (e := eR (xW (M 48)) k)
  have vo := m_valueOf T hx (e := eR (xW (M 48)) k)
  rw [← he] at ue vo
  have go : ∀ (M' : Mem), WP mX6_findWord 35 [some (.ref 40), some (.int (nI k)), some (.int (nI (l + 1))), some (.int (nI (xW (M 48) k))), none, none] [] 0 0 (shp, rfs, M) (fun r1 h1 => r1 = some (.int (pw (xW (M 48) k) (eR (xW (M 48)) k) k l)) ∧ h1 = (shp, rfs, M')) → Gv mX6_findWord [.ref 40, .int (nI k), .int (nI (l + 1))] M (some (.int (pw (xW (M 48) k) (eR (xW (M 48)) k) k l))) M' := by
    intro M' h
    have h2 := m_fw_lp (k := k) (wo := nI (l + 1)) h01 (by omega) (by omega) h 10 0 rfl
    refine con_of (lv := [some (.ref 40), some (.int (nI k)), some (.int (nI (l + 1))), none, none, none]) (by decide) rfl (Nat.le_of_ble_eq_true rfl) (by simp [lvle]) ?_
    refine r_iconst 0 dX6_findWord_0 (by decide) ?_
    refine r_istore_n3 dX6_findWord_1 rfl (Nat.le_of_ble_eq_true rfl) ?_
    refine r_iconst 0 dX6_findWord_2 (by decide) ?_
    refine r_istore_4 dX6_findWord_3 rfl (Nat.le_of_ble_eq_true rfl) ?_
    exact h2
  rcases c_kinds hx (eR (xW (M 48)) k) with ⟨i, hi, h1, h2, h3⟩ | ⟨h1, h2, h2', h3, h4⟩ | ⟨q, hq, h1, h2, h3, h4⟩ | ⟨q, hq, h1, h2, h2', h3, h4⟩
  · have hn : ¬ cvf (xW (M 48) k) (eR (xW (M 48)) k) < 0 := by rw [h2]; exact nI_pos (by omega)
    have hx2 : eR (xW (M 48)) (k + 1) = eR (xW (M 48)) k := by
      rw [eR_s h2, decide_eq_false (show ¬ (252 : Int32) ≤ nI i from nI_ge (a := i) (b := 252) hi (by decide))]
      cases eR (xW (M 48)) k <;> rfl
    have F : FrS [50] [(40, 34)] M (upd2 M 50 k (nI i)) := FrS.rf.upc (by decide)
    have ht2 := m_fw_tail (M := upd2 M 50 k (nI i)) (x := nI (xW (M 48) k)) hk hl (b := none) (v := none)
    rw [u_ss] at ht2
    have hp : pw (xW (M 48) k) (eR (xW (M 48)) k) k l = if misp (nI i) k l = true then 3 else 0 := by unfold pw; rw [if_neg hn, h2]
    refine ⟨_, go _ ?_, F, fun _ => ⟨by rw [u_ss, h2], by rw [u_nn (by decide), he, hx2], fun j hj => u_sn hj⟩⟩
    rw [hp]
    rw [h3] at vo
    refine r_aload_n dX6_findWord_35 rfl rfl ?_
    refine r_getR (N := 35) dX6_findWord_36 fwX6_13 (by first | rfl | assumption) (Nat.le_of_ble_eq_true rfl) rfl (by first | rfl | assumption) ?_
    refine r_iload_n dX6_findWord_39 rfl rfl ?_
    refine r_iaload dX6_findWord_40 (by first | rfl | assumption) (by exact vp_in_nI hx (by decide)) ?_
    refine r_iconst (-1) dX6_findWord_41 (by decide) ?_
    rw [hcl, ht, h1]
    refine r_icmp_eq 49 dX6_findWord_42 (by decide) (fun c_42 => absurd c_42 (nI_ne_m1 (by omega))) (fun c_42 => ?_)
    refine r_iconst 1 dX6_findWord_45 (by decide) ?_
    refine r_goto 50 dX6_findWord_46 (by decide) ?_
    refine r_istore_4 dX6_findWord_50 rfl (Nat.le_of_ble_eq_true rfl) ?_
    refine r_iload dX6_findWord_52 rfl ?_
    refine r_if_ne 79 dX6_findWord_54 (by decide) (fun c_54 => ?_) (fun c_54 => absurd c_54 (by decide))
    refine r_iload dX6_findWord_79 rfl ?_
    refine r_if_ne 99 dX6_findWord_81 (by decide) (fun c_81 => ?_) (fun c_81 => absurd c_81 (by decide))
    refine r_aload_n dX6_findWord_99 rfl rfl ?_
    refine r_getR (N := 35) dX6_findWord_100 fwX6_37 (by first | rfl | assumption) (Nat.le_of_ble_eq_true rfl) rfl (by first | rfl | assumption) ?_
    refine r_iload_n dX6_findWord_103 rfl rfl ?_
    refine r_aload_n dX6_findWord_104 rfl rfl ?_
    refine r_iload_n dX6_findWord_105 rfl rfl ?_
    refine r_aload_n dX6_findWord_106 rfl rfl ?_
    refine r_getI (N := 35) dX6_findWord_107 fwX6_114 (by first | rfl | assumption) (Nat.le_of_ble_eq_true rfl) rfl ?_
    refine gV2 (Y := mX6_valueOf) (ci := 6) (N := 35) dX6_findWord_110 mlX6_92 vkX6_valueOf (by first | rfl | assumption) ⟨by decide, rfl⟩ rfl vo ?_
    refine r_iastore dX6_findWord_113 (by first | rfl | assumption) (by exact vp_in_nI (by omega) (by decide)) ?_
    rw [hclk]
    refine r_iload dX6_findWord_114 rfl ?_
    refine r_if_ne 135 dX6_findWord_116 (by decide) (fun c_116 => ?_) (fun c_116 => absurd c_116 (by decide))
    exact r_weak (by simp [lvle] <;> (repeat' apply And.intro) <;> first | rfl | decide) ht2
  · have hn : cvf (xW (M 48) k) (eR (xW (M 48)) k) < 0 := by rw [h3]; decide
    obtain ⟨p1, p2⟩ := pw_n hx (w := k) (l := l) hn
    refine ⟨M, go _ ?_, FrS.rf, fun q => absurd q p2⟩
    rw [p1, h3]
    rw [h2'] at u0
    rw [h2] at u1
    refine r_aload_n dX6_findWord_35 rfl rfl ?_
    refine r_getR (N := 35) dX6_findWord_36 fwX6_13 (by first | rfl | assumption) (Nat.le_of_ble_eq_true rfl) rfl (by first | rfl | assumption) ?_
    refine r_iload_n dX6_findWord_39 rfl rfl ?_
    refine r_iaload dX6_findWord_40 (by first | rfl | assumption) (by exact vp_in_nI hx (by decide)) ?_
    refine r_iconst (-1) dX6_findWord_41 (by decide) ?_
    rw [hcl, ht, h1]
    refine r_icmp_eq 49 dX6_findWord_42 (by decide) (fun c_42 => ?_) (fun c_42 => absurd rfl c_42)
    refine r_iconst 0 dX6_findWord_49 (by decide) ?_
    refine r_istore_4 dX6_findWord_50 rfl (Nat.le_of_ble_eq_true rfl) ?_
    refine r_iload dX6_findWord_52 rfl ?_
    refine r_if_ne 79 dX6_findWord_54 (by decide) (fun c_54 => absurd rfl c_54) (fun c_54 => ?_)
    refine r_aload_n dX6_findWord_57 rfl rfl ?_
    refine r_iload_n dX6_findWord_58 rfl rfl ?_
    refine r_iconst 0 dX6_findWord_59 (by decide) ?_
    refine gV2 (Y := mX6_unevenOf) (ci := 6) (N := 35) dX6_findWord_60 mlX6_89 vkX6_unevenOf (by first | rfl | assumption) ⟨by decide, rfl⟩ rfl u0 ?_
    refine r_iconst (-1) dX6_findWord_63 (by decide) ?_
    refine r_icmp_ne 79 dX6_findWord_64 (by decide) (fun c_64 => absurd rfl c_64) (fun c_64 => ?_)
    refine r_aload_n dX6_findWord_67 rfl rfl ?_
    refine r_iload_n dX6_findWord_68 rfl rfl ?_
    refine r_iconst 1 dX6_findWord_69 (by decide) ?_
    refine gV2 (Y := mX6_unevenOf) (ci := 6) (N := 35) dX6_findWord_70 mlX6_89 vkX6_unevenOf (by first | rfl | assumption) ⟨by decide, rfl⟩ rfl u1 ?_
    refine r_iconst (-1) dX6_findWord_73 (by decide) ?_
    refine r_icmp_ne 79 dX6_findWord_74 (by decide) (fun c_74 => absurd rfl c_74) (fun c_74 => ?_)
    refine r_iconst 1 dX6_findWord_77 (by decide) ?_
    refine r_ireturn dX6_findWord_78 rfl (Nat.zero_le _) (Nat.zero_le _) ?_
    exact ⟨rfl, rfl⟩
  · have hn : ¬ cvf (xW (M 48) k) (eR (xW (M 48)) k) < 0 := by rw [h3]; exact nI_pos (by omega)
    have hx2 : eR (xW (M 48)) (k + 1) = !eR (xW (M 48)) k := by
      rw [eR_s h3, decide_eq_true (show (252 : Int32) ≤ nI (252 + q) from nI_le (a := 252) (b := 252 + q) (by omega) (by omega))]
      cases eR (xW (M 48)) k <;> rfl
    have F : FrS [50] [(40, 34)] M (upd2 (upd2 M 50 k (nI (252 + q))) 40 34 (eI (!eR (xW (M 48)) k))) := (FrS.rf.upc (by decide)).ups (by decide)
    have ht2 := m_fw_tail (M := upd2 (upd2 M 50 k (nI (252 + q))) 40 34 (eI (!eR (xW (M 48)) k))) (x := nI (xW (M 48) k)) hk hl (b := none) (v := none)
    rw [u_nn (by decide), u_ss] at ht2
    have hp : pw (xW (M 48) k) (eR (xW (M 48)) k) k l = if misp (nI (252 + q)) k l = true then 3 else 0 := by unfold pw; rw [if_neg hn, h3]
    refine ⟨_, go _ ?_, F, fun _ => ⟨by rw [u_nn (by decide), u_ss, h3], by rw [u_ss, hx2], fun j hj => by rw [u_nn (by decide), u_sn hj]⟩⟩
    rw [hp]
    rw [h4] at vo
    rw [h2] at ue
    have hue : ¬ (ufn (xW (M 48) k) false = -1 ∧ ufn (xW (M 48) k) true = -1) := by
      rintro ⟨z1, z2⟩
      refine nI_ne_m1 (i := q) (by omega) (h2 ▸ ?_)
      cases eR (xW (M 48)) k
      · exact z1
      · exact z2
    have he2 : ∀ v : Int32, (upd2 M 50 k v) 40 34 = eI (eR (xW (M 48)) k) := fun v => by rw [u_nn (by decide), he]
    refine r_aload_n dX6_findWord_35 rfl rfl ?_
    refine r_getR (N := 35) dX6_findWord_36 fwX6_13 (by first | rfl | assumption) (Nat.le_of_ble_eq_true rfl) rfl (by first | rfl | assumption) ?_
    refine r_iload_n dX6_findWord_39 rfl rfl ?_
    refine r_iaload dX6_findWord_40 (by first | rfl | assumption) (by exact vp_in_nI hx (by decide)) ?_
    refine r_iconst (-1) dX6_findWord_41 (by decide) ?_
    rw [hcl, ht, h1]
    refine r_icmp_eq 49 dX6_findWord_42 (by decide) (fun c_42 => ?_) (fun c_42 => absurd rfl c_42)
    refine r_iconst 0 dX6_findWord_49 (by decide) ?_
    refine r_istore_4 dX6_findWord_50 rfl (Nat.le_of_ble_eq_true rfl) ?_
    refine r_iload dX6_findWord_52 rfl ?_
    refine r_if_ne 79 dX6_findWord_54 (by decide) (fun c_54 => absurd rfl c_54) (fun c_54 => ?_)
    refine r_aload_n dX6_findWord_57 rfl rfl ?_
    refine r_iload_n dX6_findWord_58 rfl rfl ?_
    refine r_iconst 0 dX6_findWord_59 (by decide) ?_
    refine gV2 (Y := mX6_unevenOf) (ci := 6) (N := 35) dX6_findWord_60 mlX6_89 vkX6_unevenOf (by first | rfl | assumption) ⟨by decide, rfl⟩ rfl u0 ?_
    refine r_iconst (-1) dX6_findWord_63 (by decide) ?_
    refine r_icmp_ne 79 dX6_findWord_64 (by decide) (fun c_64 => ?_) (fun c_64 => ?_)
    · refine r_iload dX6_findWord_79 rfl ?_
      refine r_if_ne 99 dX6_findWord_81 (by decide) (fun c_81 => absurd rfl c_81) (fun c_81 => ?_)
      refine r_aload_n dX6_findWord_84 rfl rfl ?_
      refine r_iload_n dX6_findWord_85 rfl rfl ?_
      refine r_aload_n dX6_findWord_86 rfl rfl ?_
      refine r_getI (N := 35) dX6_findWord_87 fwX6_114 (by first | rfl | assumption) (Nat.le_of_ble_eq_true rfl) rfl ?_
      refine gV2 (Y := mX6_unevenOf) (ci := 6) (N := 35) dX6_findWord_90 mlX6_89 vkX6_unevenOf (by first | rfl | assumption) ⟨by decide, rfl⟩ rfl ue ?_
      refine r_iconst (-1) dX6_findWord_93 (by decide) ?_
      refine r_icmp_ne 99 dX6_findWord_94 (by decide) (fun c_94 => ?_) (fun c_94 => absurd c_94 (nI_ne_m1 (by omega)))
      refine r_aload_n dX6_findWord_99 rfl rfl ?_
      refine r_getR (N := 35) dX6_findWord_100 fwX6_37 (by first | rfl | assumption) (Nat.le_of_ble_eq_true rfl) rfl (by first | rfl | assumption) ?_
      refine r_iload_n dX6_findWord_103 rfl rfl ?_
      refine r_aload_n dX6_findWord_104 rfl rfl ?_
      refine r_iload_n dX6_findWord_105 rfl rfl ?_
      refine r_aload_n dX6_findWord_106 rfl rfl ?_
      refine r_getI (N := 35) dX6_findWord_107 fwX6_114 (by first | rfl | assumption) (Nat.le_of_ble_eq_true rfl) rfl ?_
      refine gV2 (Y := mX6_valueOf) (ci := 6) (N := 35) dX6_findWord_110 mlX6_92 vkX6_valueOf (by first | rfl | assumption) ⟨by decide, rfl⟩ rfl vo ?_
      refine r_iastore dX6_findWord_113 (by first | rfl | assumption) (by exact vp_in_nI (by omega) (by decide)) ?_
      rw [hclk]
      refine r_iload dX6_findWord_114 rfl ?_
      refine r_if_ne 135 dX6_findWord_116 (by decide) (fun c_116 => absurd rfl c_116) (fun c_116 => ?_)
      refine r_aload_n dX6_findWord_119 rfl rfl ?_
      refine r_aload_n dX6_findWord_120 rfl rfl ?_
      refine r_getI (N := 35) dX6_findWord_121 fwX6_114 (by first | rfl | assumption) (Nat.le_of_ble_eq_true rfl) rfl ?_
      rw [he2]
      refine r_if_ne 131 dX6_findWord_124 (by decide) (fun c_124 => ?_) (fun c_124 => ?_)
      · refine r_iconst 0 dX6_findWord_131 (by decide) ?_
        refine r_putI (N := 35) dX6_findWord_132 fwX6_114 (by first | rfl | assumption) (Nat.le_of_ble_eq_true rfl) rfl (Or.inl rfl) (by decide) (by decide) ?_
        first | (have h5 : eR (xW (M 48)) k = true := (by cases hz : eR (xW (M 48)) k with | true => rfl | false => exact absurd (by rw [hz]; rfl) c_124); rw [h5] at ht2 ⊢; exact r_weak (by simp [lvle] <;> (repeat' apply And.intro) <;> first | rfl | decide) ht2) | (have h5 : eR (xW (M 48)) k = false := (by cases hz : eR (xW (M 48)) k with | false => rfl | true => rw [hz] at c_124; exact absurd c_124 (by decide)); rw [h5] at ht2 ⊢; exact r_weak (by simp [lvle] <;> (repeat' apply And.intro) <;> first | rfl | decide) ht2)
      · refine r_iconst 1 dX6_findWord_127 (by decide) ?_
        refine r_goto 132 dX6_findWord_128 (by decide) ?_
        refine r_putI (N := 35) dX6_findWord_132 fwX6_114 (by first | rfl | assumption) (Nat.le_of_ble_eq_true rfl) rfl (Or.inl rfl) (by decide) (by decide) ?_
        first | (have h5 : eR (xW (M 48)) k = true := (by cases hz : eR (xW (M 48)) k with | true => rfl | false => exact absurd (by rw [hz]; rfl) c_124); rw [h5] at ht2 ⊢; exact r_weak (by simp [lvle] <;> (repeat' apply And.intro) <;> first | rfl | decide) ht2) | (have h5 : eR (xW (M 48)) k = false := (by cases hz : eR (xW (M 48)) k with | false => rfl | true => rw [hz] at c_124; exact absurd c_124 (by decide)); rw [h5] at ht2 ⊢; exact r_weak (by simp [lvle] <;> (repeat' apply And.intro) <;> first | rfl | decide) ht2)
    · refine r_aload_n dX6_findWord_67 rfl rfl ?_
      refine r_iload_n dX6_findWord_68 rfl rfl ?_
      refine r_iconst 1 dX6_findWord_69 (by decide) ?_
      refine gV2 (Y := mX6_unevenOf) (ci := 6) (N := 35) dX6_findWord_70 mlX6_89 vkX6_unevenOf (by first | rfl | assumption) ⟨by decide, rfl⟩ rfl u1 ?_
      refine r_iconst (-1) dX6_findWord_73 (by decide) ?_
      refine r_icmp_ne 79 dX6_findWord_74 (by decide) (fun c_74 => ?_) (fun c_74 => absurd ⟨c_64, c_74⟩ hue)
      refine r_iload dX6_findWord_79 rfl ?_
      refine r_if_ne 99 dX6_findWord_81 (by decide) (fun c_81 => absurd rfl c_81) (fun c_81 => ?_)
      refine r_aload_n dX6_findWord_84 rfl rfl ?_
      refine r_iload_n dX6_findWord_85 rfl rfl ?_
      refine r_aload_n dX6_findWord_86 rfl rfl ?_
      refine r_getI (N := 35) dX6_findWord_87 fwX6_114 (by first | rfl | assumption) (Nat.le_of_ble_eq_true rfl) rfl ?_
      refine gV2 (Y := mX6_unevenOf) (ci := 6) (N := 35) dX6_findWord_90 mlX6_89 vkX6_unevenOf (by first | rfl | assumption) ⟨by decide, rfl⟩ rfl ue ?_
      refine r_iconst (-1) dX6_findWord_93 (by decide) ?_
      refine r_icmp_ne 99 dX6_findWord_94 (by decide) (fun c_94 => ?_) (fun c_94 => absurd c_94 (nI_ne_m1 (by omega)))
      refine r_aload_n dX6_findWord_99 rfl rfl ?_
      refine r_getR (N := 35) dX6_findWord_100 fwX6_37 (by first | rfl | assumption) (Nat.le_of_ble_eq_true rfl) rfl (by first | rfl | assumption) ?_
      refine r_iload_n dX6_findWord_103 rfl rfl ?_
      refine r_aload_n dX6_findWord_104 rfl rfl ?_
      refine r_iload_n dX6_findWord_105 rfl rfl ?_
      refine r_aload_n dX6_findWord_106 rfl rfl ?_
      refine r_getI (N := 35) dX6_findWord_107 fwX6_114 (by first | rfl | assumption) (Nat.le_of_ble_eq_true rfl) rfl ?_
      refine gV2 (Y := mX6_valueOf) (ci := 6) (N := 35) dX6_findWord_110 mlX6_92 vkX6_valueOf (by first | rfl | assumption) ⟨by decide, rfl⟩ rfl vo ?_
      refine r_iastore dX6_findWord_113 (by first | rfl | assumption) (by exact vp_in_nI (by omega) (by decide)) ?_
      rw [hclk]
      refine r_iload dX6_findWord_114 rfl ?_
      refine r_if_ne 135 dX6_findWord_116 (by decide) (fun c_116 => absurd rfl c_116) (fun c_116 => ?_)
      refine r_aload_n dX6_findWord_119 rfl rfl ?_
      refine r_aload_n dX6_findWord_120 rfl rfl ?_
      refine r_getI (N := 35) dX6_findWord_121 fwX6_114 (by first | rfl | assumption) (Nat.le_of_ble_eq_true rfl) rfl ?_
      rw [he2]
      refine r_if_ne 131 dX6_findWord_124 (by decide) (fun c_124 => ?_) (fun c_124 => ?_)
      · refine r_iconst 0 dX6_findWord_131 (by decide) ?_
        refine r_putI (N := 35) dX6_findWord_132 fwX6_114 (by first | rfl | assumption) (Nat.le_of_ble_eq_true rfl) rfl (Or.inl rfl) (by decide) (by decide) ?_
        first | (have h5 : eR (xW (M 48)) k = true := (by cases hz : eR (xW (M 48)) k with | true => rfl | false => exact absurd (by rw [hz]; rfl) c_124); rw [h5] at ht2 ⊢; exact r_weak (by simp [lvle] <;> (repeat' apply And.intro) <;> first | rfl | decide) ht2) | (have h5 : eR (xW (M 48)) k = false := (by cases hz : eR (xW (M 48)) k with | false => rfl | true => rw [hz] at c_124; exact absurd c_124 (by decide)); rw [h5] at ht2 ⊢; exact r_weak (by simp [lvle] <;> (repeat' apply And.intro) <;> first | rfl | decide) ht2)
      · refine r_iconst 1 dX6_findWord_127 (by decide) ?_
        refine r_goto 132 dX6_findWord_128 (by decide) ?_
        refine r_putI (N := 35) dX6_findWord_132 fwX6_114 (by first | rfl | assumption) (Nat.le_of_ble_eq_true rfl) rfl (Or.inl rfl) (by decide) (by decide) ?_
        first | (have h5 : eR (xW (M 48)) k = true := (by cases hz : eR (xW (M 48)) k with | true => rfl | false => exact absurd (by rw [hz]; rfl) c_124); rw [h5] at ht2 ⊢; exact r_weak (by simp [lvle] <;> (repeat' apply And.intro) <;> first | rfl | decide) ht2) | (have h5 : eR (xW (M 48)) k = false := (by cases hz : eR (xW (M 48)) k with | false => rfl | true => rw [hz] at c_124; exact absurd c_124 (by decide)); rw [h5] at ht2 ⊢; exact r_weak (by simp [lvle] <;> (repeat' apply And.intro) <;> first | rfl | decide) ht2)
  · have hn : cvf (xW (M 48) k) (eR (xW (M 48)) k) < 0 := by rw [h3]; decide
    obtain ⟨p1, p2⟩ := pw_n hx (w := k) (l := l) hn
    refine ⟨M, go _ ?_, FrS.rf, fun q => absurd q p2⟩
    rw [p1, h3]
    rw [h2] at ue
    have hue : ¬ (ufn (xW (M 48) k) false = -1 ∧ ufn (xW (M 48) k) true = -1) := by
      rintro ⟨z1, z2⟩
      refine nI_ne_m1 (i := q) (by omega) (h2' ▸ ?_)
      cases eR (xW (M 48)) k
      · exact z2
      · exact z1
    refine r_aload_n dX6_findWord_35 rfl rfl ?_
    refine r_getR (N := 35) dX6_findWord_36 fwX6_13 (by first | rfl | assumption) (Nat.le_of_ble_eq_true rfl) rfl (by first | rfl | assumption) ?_
    refine r_iload_n dX6_findWord_39 rfl rfl ?_
    refine r_iaload dX6_findWord_40 (by first | rfl | assumption) (by exact vp_in_nI hx (by decide)) ?_
    refine r_iconst (-1) dX6_findWord_41 (by decide) ?_
    rw [hcl, ht, h1]
    refine r_icmp_eq 49 dX6_findWord_42 (by decide) (fun c_42 => ?_) (fun c_42 => absurd rfl c_42)
    refine r_iconst 0 dX6_findWord_49 (by decide) ?_
    refine r_istore_4 dX6_findWord_50 rfl (Nat.le_of_ble_eq_true rfl) ?_
    refine r_iload dX6_findWord_52 rfl ?_
    refine r_if_ne 79 dX6_findWord_54 (by decide) (fun c_54 => absurd rfl c_54) (fun c_54 => ?_)
    refine r_aload_n dX6_findWord_57 rfl rfl ?_
    refine r_iload_n dX6_findWord_58 rfl rfl ?_
    refine r_iconst 0 dX6_findWord_59 (by decide) ?_
    refine gV2 (Y := mX6_unevenOf) (ci := 6) (N := 35) dX6_findWord_60 mlX6_89 vkX6_unevenOf (by first | rfl | assumption) ⟨by decide, rfl⟩ rfl u0 ?_
    refine r_iconst (-1) dX6_findWord_63 (by decide) ?_
    refine r_icmp_ne 79 dX6_findWord_64 (by decide) (fun c_64 => ?_) (fun c_64 => ?_)
    · refine r_iload dX6_findWord_79 rfl ?_
      refine r_if_ne 99 dX6_findWord_81 (by decide) (fun c_81 => absurd rfl c_81) (fun c_81 => ?_)
      refine r_aload_n dX6_findWord_84 rfl rfl ?_
      refine r_iload_n dX6_findWord_85 rfl rfl ?_
      refine r_aload_n dX6_findWord_86 rfl rfl ?_
      refine r_getI (N := 35) dX6_findWord_87 fwX6_114 (by first | rfl | assumption) (Nat.le_of_ble_eq_true rfl) rfl ?_
      refine gV2 (Y := mX6_unevenOf) (ci := 6) (N := 35) dX6_findWord_90 mlX6_89 vkX6_unevenOf (by first | rfl | assumption) ⟨by decide, rfl⟩ rfl ue ?_
      refine r_iconst (-1) dX6_findWord_93 (by decide) ?_
      refine r_icmp_ne 99 dX6_findWord_94 (by decide) (fun c_94 => absurd rfl c_94) (fun c_94 => ?_)
      refine r_iconst 2 dX6_findWord_97 (by decide) ?_
      refine r_ireturn dX6_findWord_98 rfl (Nat.zero_le _) (Nat.zero_le _) ?_
      exact ⟨rfl, rfl⟩
    · refine r_aload_n dX6_findWord_67 rfl rfl ?_
      refine r_iload_n dX6_findWord_68 rfl rfl ?_
      refine r_iconst 1 dX6_findWord_69 (by decide) ?_
      refine gV2 (Y := mX6_unevenOf) (ci := 6) (N := 35) dX6_findWord_70 mlX6_89 vkX6_unevenOf (by first | rfl | assumption) ⟨by decide, rfl⟩ rfl u1 ?_
      refine r_iconst (-1) dX6_findWord_73 (by decide) ?_
      refine r_icmp_ne 79 dX6_findWord_74 (by decide) (fun c_74 => ?_) (fun c_74 => absurd ⟨c_64, c_74⟩ hue)
      refine r_iload dX6_findWord_79 rfl ?_
      refine r_if_ne 99 dX6_findWord_81 (by decide) (fun c_81 => absurd rfl c_81) (fun c_81 => ?_)
      refine r_aload_n dX6_findWord_84 rfl rfl ?_
      refine r_iload_n dX6_findWord_85 rfl rfl ?_
      refine r_aload_n dX6_findWord_86 rfl rfl ?_
      refine r_getI (N := 35) dX6_findWord_87 fwX6_114 (by first | rfl | assumption) (Nat.le_of_ble_eq_true rfl) rfl ?_
      refine gV2 (Y := mX6_unevenOf) (ci := 6) (N := 35) dX6_findWord_90 mlX6_89 vkX6_unevenOf (by first | rfl | assumption) ⟨by decide, rfl⟩ rfl ue ?_
      refine r_iconst (-1) dX6_findWord_93 (by decide) ?_
      refine r_icmp_ne 99 dX6_findWord_94 (by decide) (fun c_94 => absurd rfl c_94) (fun c_94 => ?_)
      refine r_iconst 2 dX6_findWord_97 (by decide) ?_
      refine r_ireturn dX6_findWord_98 rfl (Nat.zero_le _) (Nat.zero_le _) ?_
      exact ⟨rfl, rfl⟩
