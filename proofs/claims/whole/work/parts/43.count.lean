set_option maxHeartbeats 600000 in
set_option maxRecDepth 100000 in
theorem B_count {x : Int32} : Both mX5_count mX6_count [.int x] := by
  refine Both.tell (fun M c dn dp P s w is rm rr hc h1 h2 ok => ?_)
  rcases ix3 x 10 (by decide) with h | ⟨j, hj, rfl⟩
  · have hx : x.toInt < 0 ∨ 9 < x.toInt := by
      rw [i_lt, i_le, i_0, nI_toInt (by decide)] at h
      omega
    refine ⟨-3, ?_, ?_⟩
    · refine con_of (lv := [some (.ref 0), some (.int x)]) (by decide) rfl (Nat.le_of_ble_eq_true rfl) (by simp [lvle]) ?_
      refine r_iload_n dX5_count_0 rfl rfl ?_
      refine r_tabOut 129 dX5_count_1 hx (by decide) ?_
      refine r_bipush (-3) dX5_count_129 (by decide) ?_
      refine r_ireturn dX5_count_131 rfl (Nat.zero_le _) (Nat.zero_le _) ?_
      exact ⟨rfl, rfl⟩
    · refine con_of (lv := [some (.ref 40), some (.int x)]) (by decide) rfl (Nat.le_of_ble_eq_true rfl) (by simp [lvle]) ?_
      refine r_iload_n dX6_count_0 rfl rfl ?_
      refine r_tabOut 108 dX6_count_1 hx (by decide) ?_
      refine r_bipush (-3) dX6_count_108 (by decide) ?_
      refine r_ireturn dX6_count_110 rfl (Nat.zero_le _) (Nat.zero_le _) ?_
      exact ⟨rfl, rfl⟩
  · have hj10 : j = 0 ∨ j = 1 ∨ j = 2 ∨ j = 3 ∨ j = 4 ∨ j = 5 ∨ j = 6 ∨ j = 7 ∨ j = 8 ∨ j = 9 := by omega
    have gs := b_size (M := M) isBy18
    rw [h1.1.1] at gs
    have x1 := x_at (v := 1) h1.2.1.2.1 ok.2.2.1.2.1 (by decide)
    have x2 := x_at (v := 2) h1.2.1.2.1 ok.2.2.1.2.1 (by decide)
    have m1 := m_tags (v := 1) h2.2.1.2.1 ok.2.2.1.2.1 (by decide)
    have m2 := m_tags (v := 2) h2.2.1.2.1 ok.2.2.1.2.1 (by decide)
    rcases hj10 with rfl | rfl | rfl | rfl | rfl | rfl | rfl | rfl | rfl | rfl
    · refine ⟨nI s.1.1, ?_, ?_⟩
      · have e := h1.2.1.1.2.2.1.1
        refine con_of (lv := [some (.ref 0), some (.int (nI 0))]) (by decide) rfl (Nat.le_of_ble_eq_true rfl) (by simp [lvle]) ?_
        refine r_iload_n dX5_count_0 rfl rfl ?_
        refine r_tabIn (off := 55) 56 dX5_count_1 (by decide) (by decide) (by decide) (by decide) ?_
        refine r_aload_n dX5_count_56 rfl rfl ?_
        refine r_getR (N := 10) dX5_count_57 fwX5_21 (by first | rfl | assumption) (Nat.le_of_ble_eq_true rfl) rfl (by first | rfl | assumption) ?_
        refine r_getI (N := 13) dX5_count_60 fwX5_158 (by first | rfl | assumption) (Nat.le_of_ble_eq_true rfl) rfl ?_
        refine r_ireturn dX5_count_63 rfl (Nat.zero_le _) (Nat.zero_le _) ?_
        rw [e]
        exact ⟨rfl, rfl⟩
      · have e := h2.2.1.1.2.1.1
        refine con_of (lv := [some (.ref 40), some (.int (nI 0))]) (by decide) rfl (Nat.le_of_ble_eq_true rfl) (by simp [lvle]) ?_
        refine r_iload_n dX6_count_0 rfl rfl ?_
        refine r_tabIn (off := 55) 56 dX6_count_1 (by decide) (by decide) (by decide) (by decide) ?_
        refine r_aload_n dX6_count_56 rfl rfl ?_
        refine r_getI (N := 35) dX6_count_57 fwX6_135 (by first | rfl | assumption) (Nat.le_of_ble_eq_true rfl) rfl ?_
        refine r_ireturn dX6_count_60 rfl (Nat.zero_le _) (Nat.zero_le _) ?_
        rw [e]
        exact ⟨rfl, rfl⟩
    · refine ⟨s.1.2.2.1, ?_, ?_⟩
      · have e := h1.2.1.1.2.2.1.2.2.1
        refine con_of (lv := [some (.ref 0), some (.int (nI 1))]) (by decide) rfl (Nat.le_of_ble_eq_true rfl) (by simp [lvle]) ?_
        refine r_iload_n dX5_count_0 rfl rfl ?_
        refine r_tabIn (off := 63) 64 dX5_count_1 (by decide) (by decide) (by decide) (by decide) ?_
        refine r_aload_n dX5_count_64 rfl rfl ?_
        refine r_getR (N := 10) dX5_count_65 fwX5_21 (by first | rfl | assumption) (Nat.le_of_ble_eq_true rfl) rfl (by first | rfl | assumption) ?_
        refine r_getI (N := 13) dX5_count_68 fwX5_161 (by first | rfl | assumption) (Nat.le_of_ble_eq_true rfl) rfl ?_
        refine r_ireturn dX5_count_71 rfl (Nat.zero_le _) (Nat.zero_le _) ?_
        rw [e]
        exact ⟨rfl, rfl⟩
      · have e := h2.2.1.1.2.1.2.2.1
        refine con_of (lv := [some (.ref 40), some (.int (nI 1))]) (by decide) rfl (Nat.le_of_ble_eq_true rfl) (by simp [lvle]) ?_
        refine r_iload_n dX6_count_0 rfl rfl ?_
        refine r_tabIn (off := 60) 61 dX6_count_1 (by decide) (by decide) (by decide) (by decide) ?_
        refine r_aload_n dX6_count_61 rfl rfl ?_
        refine r_getI (N := 35) dX6_count_62 fwX6_147 (by first | rfl | assumption) (Nat.le_of_ble_eq_true rfl) rfl ?_
        refine r_ireturn dX6_count_65 rfl (Nat.zero_le _) (Nat.zero_le _) ?_
        rw [e]
        exact ⟨rfl, rfl⟩
    · refine ⟨s.1.2.2.2.1, ?_, ?_⟩
      · have e := h1.2.1.1.2.2.1.2.2.2.1
        refine con_of (lv := [some (.ref 0), some (.int (nI 2))]) (by decide) rfl (Nat.le_of_ble_eq_true rfl) (by simp [lvle]) ?_
        refine r_iload_n dX5_count_0 rfl rfl ?_
        refine r_tabIn (off := 71) 72 dX5_count_1 (by decide) (by decide) (by decide) (by decide) ?_
        refine r_aload_n dX5_count_72 rfl rfl ?_
        refine r_getR (N := 10) dX5_count_73 fwX5_21 (by first | rfl | assumption) (Nat.le_of_ble_eq_true rfl) rfl (by first | rfl | assumption) ?_
        refine r_getI (N := 13) dX5_count_76 fwX5_164 (by first | rfl | assumption) (Nat.le_of_ble_eq_true rfl) rfl ?_
        refine r_ireturn dX5_count_79 rfl (Nat.zero_le _) (Nat.zero_le _) ?_
        rw [e]
        exact ⟨rfl, rfl⟩
      · have e := h2.2.1.1.2.1.2.2.2.1
        refine con_of (lv := [some (.ref 40), some (.int (nI 2))]) (by decide) rfl (Nat.le_of_ble_eq_true rfl) (by simp [lvle]) ?_
        refine r_iload_n dX6_count_0 rfl rfl ?_
        refine r_tabIn (off := 65) 66 dX6_count_1 (by decide) (by decide) (by decide) (by decide) ?_
        refine r_aload_n dX6_count_66 rfl rfl ?_
        refine r_getI (N := 35) dX6_count_67 fwX6_153 (by first | rfl | assumption) (Nat.le_of_ble_eq_true rfl) rfl ?_
        refine r_ireturn dX6_count_70 rfl (Nat.zero_le _) (Nat.zero_le _) ?_
        rw [e]
        exact ⟨rfl, rfl⟩
    · refine ⟨nI P.1, ?_, ?_⟩
      · have e := h1.2.1.1.2.2.2.2.1
        refine con_of (lv := [some (.ref 0), some (.int (nI 3))]) (by decide) rfl (Nat.le_of_ble_eq_true rfl) (by simp [lvle]) ?_
        refine r_iload_n dX5_count_0 rfl rfl ?_
        refine r_tabIn (off := 79) 80 dX5_count_1 (by decide) (by decide) (by decide) (by decide) ?_
        refine r_aload_n dX5_count_80 rfl rfl ?_
        refine r_getR (N := 10) dX5_count_81 fwX5_21 (by first | rfl | assumption) (Nat.le_of_ble_eq_true rfl) rfl (by first | rfl | assumption) ?_
        refine r_getI (N := 13) dX5_count_84 fwX5_167 (by first | rfl | assumption) (Nat.le_of_ble_eq_true rfl) rfl ?_
        refine r_ireturn dX5_count_87 rfl (Nat.zero_le _) (Nat.zero_le _) ?_
        rw [e]
        exact ⟨rfl, rfl⟩
      · have e := h2.2.1.1.2.2.2.1
        refine con_of (lv := [some (.ref 40), some (.int (nI 3))]) (by decide) rfl (Nat.le_of_ble_eq_true rfl) (by simp [lvle]) ?_
        refine r_iload_n dX6_count_0 rfl rfl ?_
        refine r_tabIn (off := 70) 71 dX6_count_1 (by decide) (by decide) (by decide) (by decide) ?_
        refine r_aload_n dX6_count_71 rfl rfl ?_
        refine r_getI (N := 35) dX6_count_72 fwX6_132 (by first | rfl | assumption) (Nat.le_of_ble_eq_true rfl) rfl ?_
        refine r_ireturn dX6_count_75 rfl (Nat.zero_le _) (Nat.zero_le _) ?_
        rw [e]
        exact ⟨rfl, rfl⟩
    · refine ⟨nI s.2.1.2.1, ?_, ?_⟩
      · have e := h1.2.1.1.2.2.2.1.2.1
        refine con_of (lv := [some (.ref 0), some (.int (nI 4))]) (by decide) rfl (Nat.le_of_ble_eq_true rfl) (by simp [lvle]) ?_
        refine r_iload_n dX5_count_0 rfl rfl ?_
        refine r_tabIn (off := 87) 88 dX5_count_1 (by decide) (by decide) (by decide) (by decide) ?_
        refine r_aload_n dX5_count_88 rfl rfl ?_
        refine r_getR (N := 10) dX5_count_89 fwX5_28 (by first | rfl | assumption) (Nat.le_of_ble_eq_true rfl) rfl (by first | rfl | assumption) ?_
        refine r_getI (N := 4) dX5_count_92 fwX5_170 (by first | rfl | assumption) (Nat.le_of_ble_eq_true rfl) rfl ?_
        refine r_ireturn dX5_count_95 rfl (Nat.zero_le _) (Nat.zero_le _) ?_
        rw [e]
        exact ⟨rfl, rfl⟩
      · have e := h2.2.1.1.2.2.1.2.1
        refine con_of (lv := [some (.ref 40), some (.int (nI 4))]) (by decide) rfl (Nat.le_of_ble_eq_true rfl) (by simp [lvle]) ?_
        refine r_iload_n dX6_count_0 rfl rfl ?_
        refine r_tabIn (off := 75) 76 dX6_count_1 (by decide) (by decide) (by decide) (by decide) ?_
        refine r_aload_n dX6_count_76 rfl rfl ?_
        refine r_getI (N := 35) dX6_count_77 fwX6_171 (by first | rfl | assumption) (Nat.le_of_ble_eq_true rfl) rfl ?_
        refine r_ireturn dX6_count_80 rfl (Nat.zero_le _) (Nat.zero_le _) ?_
        rw [e]
        exact ⟨rfl, rfl⟩
    · refine ⟨nI (ct s.2.2.1.1 1 8), ?_, ?_⟩
      · refine con_of (lv := [some (.ref 0), some (.int (nI 5))]) (by decide) rfl (Nat.le_of_ble_eq_true rfl) (by simp [lvle]) ?_
        refine r_iload_n dX5_count_0 rfl rfl ?_
        refine r_tabIn (off := 95) 96 dX5_count_1 (by decide) (by decide) (by decide) (by decide) ?_
        refine r_aload_n dX5_count_96 rfl rfl ?_
        refine r_iconst 1 dX5_count_97 (by decide) ?_
        refine gV1 (Y := mX5_commandsAt) (ci := 5) (N := 10) dX5_count_98 mlX5_173 vkX5_commandsAt (by first | rfl | assumption) ⟨by decide, rfl⟩ rfl x1 ?_
        refine r_ireturn dX5_count_101 rfl (Nat.zero_le _) (Nat.zero_le _) ?_
        exact ⟨rfl, rfl⟩
      · refine con_of (lv := [some (.ref 40), some (.int (nI 5))]) (by decide) rfl (Nat.le_of_ble_eq_true rfl) (by simp [lvle]) ?_
        refine r_iload_n dX6_count_0 rfl rfl ?_
        refine r_tabIn (off := 80) 81 dX6_count_1 (by decide) (by decide) (by decide) (by decide) ?_
        refine r_aload_n dX6_count_81 rfl rfl ?_
        refine r_iconst 1 dX6_count_82 (by decide) ?_
        refine gV1 (Y := mX6_tags) (ci := 6) (N := 35) dX6_count_83 mlX6_229 vkX6_tags (by first | rfl | assumption) ⟨by decide, rfl⟩ rfl m1 ?_
        refine r_ireturn dX6_count_86 rfl (Nat.zero_le _) (Nat.zero_le _) ?_
        exact ⟨rfl, rfl⟩
    · refine ⟨nI (ct s.2.2.1.1 2 8), ?_, ?_⟩
      · refine con_of (lv := [some (.ref 0), some (.int (nI 6))]) (by decide) rfl (Nat.le_of_ble_eq_true rfl) (by simp [lvle]) ?_
        refine r_iload_n dX5_count_0 rfl rfl ?_
        refine r_tabIn (off := 101) 102 dX5_count_1 (by decide) (by decide) (by decide) (by decide) ?_
        refine r_aload_n dX5_count_102 rfl rfl ?_
        refine r_iconst 2 dX5_count_103 (by decide) ?_
        refine gV1 (Y := mX5_commandsAt) (ci := 5) (N := 10) dX5_count_104 mlX5_173 vkX5_commandsAt (by first | rfl | assumption) ⟨by decide, rfl⟩ rfl x2 ?_
        refine r_ireturn dX5_count_107 rfl (Nat.zero_le _) (Nat.zero_le _) ?_
        exact ⟨rfl, rfl⟩
      · refine con_of (lv := [some (.ref 40), some (.int (nI 6))]) (by decide) rfl (Nat.le_of_ble_eq_true rfl) (by simp [lvle]) ?_
        refine r_iload_n dX6_count_0 rfl rfl ?_
        refine r_tabIn (off := 86) 87 dX6_count_1 (by decide) (by decide) (by decide) (by decide) ?_
        refine r_aload_n dX6_count_87 rfl rfl ?_
        refine r_iconst 2 dX6_count_88 (by decide) ?_
        refine gV1 (Y := mX6_tags) (ci := 6) (N := 35) dX6_count_89 mlX6_229 vkX6_tags (by first | rfl | assumption) ⟨by decide, rfl⟩ rfl m2 ?_
        refine r_ireturn dX6_count_92 rfl (Nat.zero_le _) (Nat.zero_le _) ?_
        exact ⟨rfl, rfl⟩
    · refine ⟨nI s.2.2.2, ?_, ?_⟩
      · have e := h1.2.1.2.2.2.2
        refine con_of (lv := [some (.ref 0), some (.int (nI 7))]) (by decide) rfl (Nat.le_of_ble_eq_true rfl) (by simp [lvle]) ?_
        refine r_iload_n dX5_count_0 rfl rfl ?_
        refine r_tabIn (off := 107) 108 dX5_count_1 (by decide) (by decide) (by decide) (by decide) ?_
        refine r_aload_n dX5_count_108 rfl rfl ?_
        refine r_getI (N := 10) dX5_count_109 fwX5_117 (by first | rfl | assumption) (Nat.le_of_ble_eq_true rfl) rfl ?_
        refine r_ireturn dX5_count_112 rfl (Nat.zero_le _) (Nat.zero_le _) ?_
        rw [e]
        exact ⟨rfl, rfl⟩
      · have e := h2.2.1.2.2.2.2
        refine con_of (lv := [some (.ref 40), some (.int (nI 7))]) (by decide) rfl (Nat.le_of_ble_eq_true rfl) (by simp [lvle]) ?_
        refine r_iload_n dX6_count_0 rfl rfl ?_
        refine r_tabIn (off := 92) 93 dX6_count_1 (by decide) (by decide) (by decide) (by decide) ?_
        refine r_aload_n dX6_count_93 rfl rfl ?_
        refine r_getI (N := 35) dX6_count_94 fwX6_210 (by first | rfl | assumption) (Nat.le_of_ble_eq_true rfl) rfl ?_
        refine r_ireturn dX6_count_97 rfl (Nat.zero_le _) (Nat.zero_le _) ?_
        rw [e]
        exact ⟨rfl, rfl⟩
    · refine ⟨nI dn, ?_, ?_⟩
      · refine con_of (lv := [some (.ref 0), some (.int (nI 8))]) (by decide) rfl (Nat.le_of_ble_eq_true rfl) (by simp [lvle]) ?_
        refine r_iload_n dX5_count_0 rfl rfl ?_
        refine r_tabIn (off := 112) 113 dX5_count_1 (by decide) (by decide) (by decide) (by decide) ?_
        refine r_aload_n dX5_count_113 rfl rfl ?_
        refine r_getR (N := 10) dX5_count_114 fwX5_35 (by first | rfl | assumption) (Nat.le_of_ble_eq_true rfl) rfl (by first | rfl | assumption) ?_
        refine gV0 (Y := mX0_size) (ci := 0) (N := 2) dX5_count_117 mlX5_66 vkX0_size (by first | rfl | assumption) ⟨by decide, rfl⟩ rfl gs ?_
        refine r_ireturn dX5_count_120 rfl (Nat.zero_le _) (Nat.zero_le _) ?_
        exact ⟨rfl, rfl⟩
      · have e := h2.1.1
        refine con_of (lv := [some (.ref 40), some (.int (nI 8))]) (by decide) rfl (Nat.le_of_ble_eq_true rfl) (by simp [lvle]) ?_
        refine r_iload_n dX6_count_0 rfl rfl ?_
        refine r_tabIn (off := 97) 98 dX6_count_1 (by decide) (by decide) (by decide) (by decide) ?_
        refine r_aload_n dX6_count_98 rfl rfl ?_
        refine r_getI (N := 35) dX6_count_99 fwX6_95 (by first | rfl | assumption) (Nat.le_of_ble_eq_true rfl) rfl ?_
        refine r_ireturn dX6_count_102 rfl (Nat.zero_le _) (Nat.zero_le _) ?_
        rw [e]
        exact ⟨rfl, rfl⟩
    · refine ⟨nI s.1.2.2.2.2.1, ?_, ?_⟩
      · have e := h1.2.1.1.2.2.1.2.2.2.2.1
        refine con_of (lv := [some (.ref 0), some (.int (nI 9))]) (by decide) rfl (Nat.le_of_ble_eq_true rfl) (by simp [lvle]) ?_
        refine r_iload_n dX5_count_0 rfl rfl ?_
        refine r_tabIn (off := 120) 121 dX5_count_1 (by decide) (by decide) (by decide) (by decide) ?_
        refine r_aload_n dX5_count_121 rfl rfl ?_
        refine r_getR (N := 10) dX5_count_122 fwX5_21 (by first | rfl | assumption) (Nat.le_of_ble_eq_true rfl) rfl (by first | rfl | assumption) ?_
        refine r_getI (N := 13) dX5_count_125 fwX5_176 (by first | rfl | assumption) (Nat.le_of_ble_eq_true rfl) rfl ?_
        refine r_ireturn dX5_count_128 rfl (Nat.zero_le _) (Nat.zero_le _) ?_
        rw [e]
        exact ⟨rfl, rfl⟩
      · have e := h2.2.1.1.2.1.2.2.2.2.1
        refine con_of (lv := [some (.ref 40), some (.int (nI 9))]) (by decide) rfl (Nat.le_of_ble_eq_true rfl) (by simp [lvle]) ?_
        refine r_iload_n dX6_count_0 rfl rfl ?_
        refine r_tabIn (off := 102) 103 dX6_count_1 (by decide) (by decide) (by decide) (by decide) ?_
        refine r_aload_n dX6_count_103 rfl rfl ?_
        refine r_getI (N := 35) dX6_count_104 fwX6_118 (by first | rfl | assumption) (Nat.le_of_ble_eq_true rfl) rfl ?_
        refine r_ireturn dX6_count_107 rfl (Nat.zero_le _) (Nat.zero_le _) ?_
        rw [e]
        exact ⟨rfl, rfl⟩
