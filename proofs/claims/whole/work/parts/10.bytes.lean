set_option maxHeartbeats 4000000 in
set_option maxRecDepth 100000 in
theorem b_size {o r : Nat} {M : Mem} (hB : isBy o r) : Gv mX0_size [.ref o] M (some (.int (M o 1))) M := by
  obtain ⟨hB1, hB2, hB3, hB4⟩ := hB
  refine con_of (lv := [some (.ref o)]) (by decide) rfl (Nat.le_of_ble_eq_true rfl) (by simp [lvle]) ?_
  refine r_aload_n dX0_size_0 rfl rfl ?_
  refine r_getI (N := 2) dX0_size_1 fwX0_15 (by first | rfl | assumption) (Nat.le_of_ble_eq_true rfl) rfl ?_
  refine r_ireturn dX0_size_4 rfl (Nat.zero_le _) (Nat.zero_le _) ?_
  exact ⟨rfl, rfl⟩
set_option maxHeartbeats 4000000 in
set_option maxRecDepth 100000 in
theorem b_clear {o r : Nat} {M : Mem} (hB : isBy o r) : Gv mX0_clear [.ref o] M none (upd2 M o 1 0) := by
  obtain ⟨hB1, hB2, hB3, hB4⟩ := hB
  refine con_of (lv := [some (.ref o)]) (by decide) rfl (Nat.le_of_ble_eq_true rfl) (by simp [lvle]) ?_
  refine r_aload_n dX0_clear_0 rfl rfl ?_
  refine r_iconst 0 dX0_clear_1 (by decide) ?_
  refine r_putI (N := 2) dX0_clear_2 fwX0_15 (by first | rfl | assumption) (Nat.le_of_ble_eq_true rfl) rfl (Or.inl rfl) rfl rfl ?_
  refine r_return dX0_clear_5 rfl (Nat.zero_le _) (Nat.zero_le _) ?_
  exact ⟨rfl, rfl⟩
set_option maxHeartbeats 4000000 in
set_option maxRecDepth 100000 in
theorem b_at {o r : Nat} {M : Mem} (hB : isBy o r) {n : Nat} {x : Int32} (hn : M o 1 = nI n) (hn2 : n ≤ 16) : Gv mX0_at [.ref o, .int x] M (some (.int (if x < 0 then 0 else if M o 1 ≤ x then 0 else M r x.toNatClampNeg))) M := by
  obtain ⟨hB1, hB2, hB3, hB4⟩ := hB
  refine con_of (lv := [some (.ref o), some (.int x)]) (by decide) rfl (Nat.le_of_ble_eq_true rfl) (by simp [lvle]) ?_
  refine r_iload_n dX0_at_0 rfl rfl ?_
  refine r_if_lt 21 dX0_at_1 (by decide) (fun c_1 => ?_) (fun c_1 => ?_)
  · refine r_iconst 0 dX0_at_21 (by decide) ?_
    refine r_ireturn dX0_at_22 rfl (Nat.zero_le _) (Nat.zero_le _) ?_
    refine ⟨?_, rfl⟩
    first | rw [if_pos c_1] | rw [if_neg c_1, if_pos c_9] | rw [if_neg c_1, if_neg c_9]
  · refine r_iload_n dX0_at_4 rfl rfl ?_
    refine r_aload_n dX0_at_5 rfl rfl ?_
    refine r_getI (N := 2) dX0_at_6 fwX0_15 (by first | rfl | assumption) (Nat.le_of_ble_eq_true rfl) rfl ?_
    refine r_icmp_ge 21 dX0_at_9 (by decide) (fun c_9 => ?_) (fun c_9 => ?_)
    · refine r_iconst 0 dX0_at_21 (by decide) ?_
      refine r_ireturn dX0_at_22 rfl (Nat.zero_le _) (Nat.zero_le _) ?_
      refine ⟨?_, rfl⟩
      first | rw [if_pos c_1] | rw [if_neg c_1, if_pos c_9] | rw [if_neg c_1, if_neg c_9]
    · refine r_aload_n dX0_at_12 rfl rfl ?_
      refine r_getR (N := 2) dX0_at_13 fwX0_9 (by first | rfl | assumption) (Nat.le_of_ble_eq_true rfl) rfl (by first | rfl | assumption) ?_
      refine r_iload_n dX0_at_16 rfl rfl ?_
      refine r_iaload dX0_at_17 (by first | rfl | assumption) (by obtain ⟨j, _, _, h⟩ := ix_of c_1 c_9 hn hn2 (by decide); exact h) ?_
      refine r_goto 22 dX0_at_18 (by decide) ?_
      refine r_ireturn dX0_at_22 rfl (Nat.zero_le _) (Nat.zero_le _) ?_
      refine ⟨?_, rfl⟩
      first | rw [if_pos c_1] | rw [if_neg c_1, if_pos c_9] | rw [if_neg c_1, if_neg c_9]
set_option maxHeartbeats 4000000 in
set_option maxRecDepth 100000 in
theorem b_add {o r : Nat} {M : Mem} (hB : isBy o r) {n : Nat} {x : Int32} (hn : M o 1 = nI n) (hn2 : n < 16) : Gv mX0_add [.ref o, .int x] M none (upd2 (upd2 M r n (x &&& 255)) o 1 (nI (n + 1))) := by
  obtain ⟨hB1, hB2, hB3, hB4⟩ := hB
  have hcl : (M o 1).toNatClampNeg = n := by rw [hn]; exact nI_clamp (by omega)
  refine con_of (lv := [some (.ref o), some (.int x)]) (by decide) rfl (Nat.le_of_ble_eq_true rfl) (by simp [lvle]) ?_
  refine r_aload_n dX0_add_0 rfl rfl ?_
  refine r_getI (N := 2) dX0_add_1 fwX0_15 (by first | rfl | assumption) (Nat.le_of_ble_eq_true rfl) rfl ?_
  refine r_aload_n dX0_add_4 rfl rfl ?_
  refine r_getR (N := 2) dX0_add_5 fwX0_9 (by first | rfl | assumption) (Nat.le_of_ble_eq_true rfl) rfl (by first | rfl | assumption) ?_
  refine r_alen dX0_add_8 (by first | rfl | assumption) (by first | exact Or.inl rfl | exact Or.inr rfl) ?_
  refine r_icmp_ge 36 dX0_add_9 (by decide) (fun c_9 => absurd c_9 (by rw [hn, nI_leI (by decide) (by omega)]; omega)) (fun c_9 => ?_)
  refine r_aload_n dX0_add_12 rfl rfl ?_
  refine r_getR (N := 2) dX0_add_13 fwX0_9 (by first | rfl | assumption) (Nat.le_of_ble_eq_true rfl) rfl (by first | rfl | assumption) ?_
  refine r_aload_n dX0_add_16 rfl rfl ?_
  refine r_getI (N := 2) dX0_add_17 fwX0_15 (by first | rfl | assumption) (Nat.le_of_ble_eq_true rfl) rfl ?_
  refine r_iload_n dX0_add_20 rfl rfl ?_
  refine r_sipush 255 dX0_add_21 (by decide) ?_
  refine r_iand dX0_add_24 ?_
  refine r_iastore dX0_add_25 (by first | rfl | assumption) (by rw [hn]; exact vp_in_nI hn2 (by decide)) ?_
  refine r_aload_n dX0_add_26 rfl rfl ?_
  first | refine r_dupR dX0_add_27 ?_ | refine r_dupI dX0_add_27 ?_
  refine r_getI (N := 2) dX0_add_28 fwX0_15 (by first | rfl | assumption) (Nat.le_of_ble_eq_true rfl) rfl ?_
  refine r_iconst 1 dX0_add_31 (by decide) ?_
  refine r_iadd dX0_add_32 ?_
  refine r_putI (N := 2) dX0_add_33 fwX0_15 (by first | rfl | assumption) (Nat.le_of_ble_eq_true rfl) rfl (Or.inl rfl) rfl rfl ?_
  refine r_return dX0_add_36 rfl (Nat.zero_le _) (Nat.zero_le _) ?_
  refine ⟨rfl, ?_⟩
  rw [hcl, u_nn hB4, hn, nI_1]
theorem b_addX {o r : Nat} {M : Mem} (hB : isBy o r) {n : Nat} {x : Int32} {g : Nat → Int32} (H : HB M o r n g) (hn : n < 16) (hg : g n = x &&& 255) : ∃ M', Gv mX0_add [.ref o, .int x] M none M' ∧ HB M' o r (n + 1) g ∧ Fr [o, r] M M' := by
  refine ⟨_, b_add hB H.1 hn, ⟨u_ss, by omega, fun j hj => ?_⟩, (Fr.rf.up (by simp)).up (by simp)⟩
  rw [u_nn (Ne.symm hB.2.2.2)]
  by_cases h : j = n
  · subst h
    rw [u_ss, hg]
  · rw [u_sn h]
    exact H.2.2 j (by omega)
theorem b_clearX {o r : Nat} {M : Mem} (hB : isBy o r) (g : Nat → Int32) : ∃ M', Gv mX0_clear [.ref o] M none M' ∧ HB M' o r 0 g ∧ Fr [o, r] M M' :=
  ⟨_, b_clear hB, ⟨u_ss, by omega, fun j hj => absurd hj (by omega)⟩, Fr.rf.up (by simp)⟩
theorem HB.gg {M : Mem} {o r n : Nat} {f g : Nat → Int32} (h : HB M o r n f) (hg : ∀ j, j < n → f j = g j) : HB M o r n g := ⟨h.1, h.2.1, fun j q => (h.2.2 j q).trans (hg j q)⟩
theorem HB.fr {M M' : Mem} {o r n : Nat} {f : Nat → Int32} {ex : List Nat} (h : HB M o r n f) (F : Fr ex M M') (ho : o ∉ ex) (hr : r ∉ ex) : HB M' o r n f := ⟨by rw [F o ho]; exact h.1, h.2.1, fun j q => by rw [F r hr]; exact h.2.2 j q⟩
/-- the four bytes of a number -/
def nby (x : Int32) (j : Nat) : Int32 := us x (nI (24 - 8 * j)) &&& 255
set_option maxHeartbeats 4000000 in
set_option maxRecDepth 100000 in
theorem b_addNumberX {o r : Nat} {M : Mem} (hB : isBy o r) {n : Nat} {x : Int32} {g : Nat → Int32} (H : HB M o r n g) (hn : n + 4 ≤ 16) (hg : ∀ q, q < 4 → g (n + q) = nby x q) : ∃ M', Gv mX0_addNumber [.ref o, .int x] M none M' ∧ HB M' o r (n + 4) g ∧ Fr [o, r] M M' := by
  obtain ⟨M1, g1, H1, F1⟩ := b_addX (x := us x 24) hB H (by omega) (hg 0 (by omega))
  obtain ⟨M2, g2, H2, F2⟩ := b_addX (x := us x (24 + (-8))) hB H1 (by omega) (by have h := hg 1 (by omega); unfold nby at h; rw [show n + 1 = n + 1 from rfl, h, show (24 + (-8) : Int32) = nI (24 - 8 * 1) by decide])
  obtain ⟨M3, g3, H3, F3⟩ := b_addX (x := us x (24 + (-8) + (-8))) hB H2 (by omega) (by have h := hg 2 (by omega); unfold nby at h; rw [show n + 2 = n + 2 from rfl, h, show (24 + (-8) + (-8) : Int32) = nI (24 - 8 * 2) by decide])
  obtain ⟨M4, g4, H4, F4⟩ := b_addX (x := us x (24 + (-8) + (-8) + (-8))) hB H3 (by omega) (by have h := hg 3 (by omega); unfold nby at h; rw [show n + 3 = n + 3 from rfl, h, show (24 + (-8) + (-8) + (-8) : Int32) = nI (24 - 8 * 3) by decide])
  refine ⟨M4, ?_, H4, F1.tr (F2.tr (F3.tr F4 (fun _ q => q) (fun _ q => q)) (fun _ q => q) (fun _ q => q)) (fun _ q => q) (fun _ q => q)⟩
  obtain ⟨hB1, hB2, hB3, hB4⟩ := id hB
  refine con_of (lv := [some (.ref o), some (.int x), none]) (by decide) rfl (Nat.le_of_ble_eq_true rfl) (by simp [lvle]) ?_
  refine r_bipush 24 dX0_addNumber_0 (by decide) ?_
  refine r_istore_n2 dX0_addNumber_2 rfl (Nat.le_of_ble_eq_true rfl) ?_
  skip
  refine r_iload_n dX0_addNumber_3 rfl rfl ?_
  refine r_if_lt 20 dX0_addNumber_4 (by decide) (fun c_4 => absurd c_4 (by decide)) (fun c_4 => ?_)
  refine r_aload_n dX0_addNumber_7 rfl rfl ?_
  refine r_iload_n dX0_addNumber_8 rfl rfl ?_
  refine r_iload_n dX0_addNumber_9 rfl rfl ?_
  refine r_iushr dX0_addNumber_10 ?_
  refine gW1 (Y := mX0_add) (ci := 0) (N := 2) dX0_addNumber_11 mlX0_19 vkX0_add (by first | rfl | assumption) ⟨by decide, rfl⟩ rfl g1 ?_
  refine r_iinc_2 (_ + (-8)) dX0_addNumber_14 rfl (Nat.le_of_ble_eq_true rfl) rfl ?_
  refine r_goto 3 dX0_addNumber_17 (by decide) ?_
  skip
  refine r_iload_n dX0_addNumber_3 rfl rfl ?_
  refine r_if_lt 20 dX0_addNumber_4 (by decide) (fun c_4 => absurd c_4 (by decide)) (fun c_4 => ?_)
  refine r_aload_n dX0_addNumber_7 rfl rfl ?_
  refine r_iload_n dX0_addNumber_8 rfl rfl ?_
  refine r_iload_n dX0_addNumber_9 rfl rfl ?_
  refine r_iushr dX0_addNumber_10 ?_
  refine gW1 (Y := mX0_add) (ci := 0) (N := 2) dX0_addNumber_11 mlX0_19 vkX0_add (by first | rfl | assumption) ⟨by decide, rfl⟩ rfl g2 ?_
  refine r_iinc_2 (_ + (-8)) dX0_addNumber_14 rfl (Nat.le_of_ble_eq_true rfl) rfl ?_
  refine r_goto 3 dX0_addNumber_17 (by decide) ?_
  skip
  refine r_iload_n dX0_addNumber_3 rfl rfl ?_
  refine r_if_lt 20 dX0_addNumber_4 (by decide) (fun c_4 => absurd c_4 (by decide)) (fun c_4 => ?_)
  refine r_aload_n dX0_addNumber_7 rfl rfl ?_
  refine r_iload_n dX0_addNumber_8 rfl rfl ?_
  refine r_iload_n dX0_addNumber_9 rfl rfl ?_
  refine r_iushr dX0_addNumber_10 ?_
  refine gW1 (Y := mX0_add) (ci := 0) (N := 2) dX0_addNumber_11 mlX0_19 vkX0_add (by first | rfl | assumption) ⟨by decide, rfl⟩ rfl g3 ?_
  refine r_iinc_2 (_ + (-8)) dX0_addNumber_14 rfl (Nat.le_of_ble_eq_true rfl) rfl ?_
  refine r_goto 3 dX0_addNumber_17 (by decide) ?_
  skip
  refine r_iload_n dX0_addNumber_3 rfl rfl ?_
  refine r_if_lt 20 dX0_addNumber_4 (by decide) (fun c_4 => absurd c_4 (by decide)) (fun c_4 => ?_)
  refine r_aload_n dX0_addNumber_7 rfl rfl ?_
  refine r_iload_n dX0_addNumber_8 rfl rfl ?_
  refine r_iload_n dX0_addNumber_9 rfl rfl ?_
  refine r_iushr dX0_addNumber_10 ?_
  refine gW1 (Y := mX0_add) (ci := 0) (N := 2) dX0_addNumber_11 mlX0_19 vkX0_add (by first | rfl | assumption) ⟨by decide, rfl⟩ rfl g4 ?_
  refine r_iinc_2 (_ + (-8)) dX0_addNumber_14 rfl (Nat.le_of_ble_eq_true rfl) rfl ?_
  refine r_goto 3 dX0_addNumber_17 (by decide) ?_
  skip
  refine r_iload_n dX0_addNumber_3 rfl rfl ?_
  refine r_if_lt 20 dX0_addNumber_4 (by decide) (fun c_4 => ?_) (fun c_4 => absurd (by decide) c_4)
  refine r_return dX0_addNumber_20 rfl (Nat.zero_le _) (Nat.zero_le _) ?_
  exact ⟨rfl, rfl⟩
set_option maxHeartbeats 4000000 in
set_option maxRecDepth 100000 in
theorem b_crc_in {o r : Nat} {M : Mem} (hB : isBy o r) {mn : Int32} {j : Nat} (hj : j < 16) {Q : Option Value → Hp → Prop} : ∀ (m : Nat) (c : Int32), m ≤ 8 → WP mX0_checksum 66 [some (.ref o), some (.int mn), some (.int (crcBits (M r j) m c)), some (.int (nI j)), none, none] [] 0 0 (shp, rfs, M) Q → WP mX0_checksum 22 [some (.ref o), some (.int mn), some (.int c), some (.int (nI j)), some (.int (nI m + (-1))), none] [] 0 0 (shp, rfs, M) Q := by
  obtain ⟨hB1, hB2, hB3, hB4⟩ := hB
  have hcl : (nI j).toNatClampNeg = j := nI_clamp (by omega)
  intro m
  induction m with
  | zero =>
    intro c _ hk
    refine r_iload dX0_checksum_22 rfl ?_
    refine r_if_lt 66 dX0_checksum_24 (by decide) (fun c_24 => ?_) (fun c_24 => absurd m1_lt c_24)
    exact r_weak (by simp [lvle] <;> (repeat' apply And.intro) <;> first | rfl | decide) hk
  | succ m ih =>
    intro c hm hk
    rw [m1_nI]
    refine r_iload dX0_checksum_22 rfl ?_
    refine r_if_lt 66 dX0_checksum_24 (by decide) (fun c_24 => absurd c_24 (nI_nneg (by omega))) (fun c_24 => ?_)
    refine r_iload_n dX0_checksum_27 rfl rfl ?_
    refine r_bipush 31 dX0_checksum_28 (by decide) ?_
    refine r_iushr dX0_checksum_30 ?_
    refine r_aload_n dX0_checksum_31 rfl rfl ?_
    refine r_getR (N := 2) dX0_checksum_32 fwX0_9 (by first | rfl | assumption) (Nat.le_of_ble_eq_true rfl) rfl (by first | rfl | assumption) ?_
    refine r_iload_n dX0_checksum_35 rfl rfl ?_
    refine r_iaload dX0_checksum_36 (by first | rfl | assumption) (by exact vp_in_nI hj (by decide)) ?_
    refine r_iload dX0_checksum_37 rfl ?_
    refine r_iushr dX0_checksum_39 ?_
    refine r_iconst 1 dX0_checksum_40 (by decide) ?_
    refine r_iand dX0_checksum_41 ?_
    refine r_ixor dX0_checksum_42 ?_
    refine r_istore_5 dX0_checksum_43 rfl (Nat.le_of_ble_eq_true rfl) ?_
    refine r_iload_n dX0_checksum_45 rfl rfl ?_
    refine r_iconst 1 dX0_checksum_46 (by decide) ?_
    refine r_ishl dX0_checksum_47 ?_
    refine r_istore_n2 dX0_checksum_48 rfl (Nat.le_of_ble_eq_true rfl) ?_
    refine r_iload dX0_checksum_49 rfl ?_
    refine r_iconst 1 dX0_checksum_51 (by decide) ?_
    refine r_icmp_ne 60 dX0_checksum_52 (by decide) (fun c_52 => ?_) (fun c_52 => ?_)
    · refine r_iinc_4 (_ + (-1)) dX0_checksum_60 rfl (Nat.le_of_ble_eq_true rfl) rfl ?_
      refine r_goto 22 dX0_checksum_63 (by decide) ?_
      rw [hcl] at c_52
      refine r_weak (by simp [lvle] <;> (repeat' apply And.intro) <;> first | rfl | decide) (ih _ (by omega) ?_)
      have hs := (show crcStep c (us (M r j) (nI m) &&& 1) = _ by first | exact if_pos c_52 | exact if_neg c_52)
      rw [← hs]
      exact hk
    · refine r_iload_n dX0_checksum_55 rfl rfl ?_
      refine r_ldc 79764919 dX0_checksum_56 cnX0_48 ?_
      refine r_ixor dX0_checksum_58 ?_
      refine r_istore_n2 dX0_checksum_59 rfl (Nat.le_of_ble_eq_true rfl) ?_
      refine r_iinc_4 (_ + (-1)) dX0_checksum_60 rfl (Nat.le_of_ble_eq_true rfl) rfl ?_
      refine r_goto 22 dX0_checksum_63 (by decide) ?_
      rw [hcl] at c_52
      refine r_weak (by simp [lvle] <;> (repeat' apply And.intro) <;> first | rfl | decide) (ih _ (by omega) ?_)
      have hs := (show crcStep c (us (M r j) (nI m) &&& 1) = _ by first | exact if_pos c_52 | exact if_neg c_52)
      rw [← hs]
      exact hk
set_option maxHeartbeats 4000000 in
set_option maxRecDepth 100000 in
theorem b_crc_out {o r : Nat} {M : Mem} (hB : isBy o r) {n mn : Nat} (hn : M o 1 = nI n) (hn2 : n ≤ 16) (hmn : mn ≤ n) {Q : Option Value → Hp → Prop} (hk : WP mX0_checksum 72 [some (.ref o), some (.int (nI mn)), some (.int (crcN (M r) mn)), none, none, none] [] 0 0 (shp, rfs, M) Q) : ∀ (d j : Nat), j + d = mn → WP mX0_checksum 5 [some (.ref o), some (.int (nI mn)), some (.int (crcN (M r) j)), some (.int (nI j)), none, none] [] 0 0 (shp, rfs, M) Q := by
  obtain ⟨hB1, hB2, hB3, hB4⟩ := id hB
  intro d
  induction d with
  | zero =>
    intro j hj
    have hj : j = mn := by omega
    subst hj
    refine r_iload_n dX0_checksum_5 rfl rfl ?_
    refine r_iload_n dX0_checksum_6 rfl rfl ?_
    refine r_icmp_ge 72 dX0_checksum_7 (by decide) (fun c_7 => ?_) (fun c_7 => absurd (nI_le (Nat.le_refl _) (by omega)) c_7)
    exact r_weak (by simp [lvle] <;> (repeat' apply And.intro) <;> first | rfl | decide) hk
  | succ d ih =>
    intro j hj
    refine r_iload_n dX0_checksum_5 rfl rfl ?_
    refine r_iload_n dX0_checksum_6 rfl rfl ?_
    refine r_icmp_ge 72 dX0_checksum_7 (by decide) (fun c_7 => absurd c_7 (nI_ge (by omega) (by omega))) (fun c_7 => ?_)
    refine r_iload_n dX0_checksum_10 rfl rfl ?_
    refine r_aload_n dX0_checksum_11 rfl rfl ?_
    refine r_getI (N := 2) dX0_checksum_12 fwX0_15 (by first | rfl | assumption) (Nat.le_of_ble_eq_true rfl) rfl ?_
    refine r_icmp_ge 72 dX0_checksum_15 (by decide) (fun c_15 => absurd c_15 (by rw [hn]; exact nI_ge (by omega) (by omega))) (fun c_15 => ?_)
    refine r_bipush 7 dX0_checksum_18 (by decide) ?_
    refine r_istore_4 dX0_checksum_20 rfl (Nat.le_of_ble_eq_true rfl) ?_
    refine r_weak (by simp [lvle] <;> (repeat' apply And.intro) <;> first | rfl | decide) (b_crc_in (mn := nI mn) (j := j) hB (by omega) 8 _ (Nat.le_refl _) ?_)
    rw [show crcBits (M r j) 8 (crcN (M r) j) = crcN (M r) (j + 1) from rfl]
    refine r_iinc_3 (_ + 1) dX0_checksum_66 rfl (Nat.le_of_ble_eq_true rfl) rfl ?_
    refine r_goto 5 dX0_checksum_69 (by decide) ?_
    rw [nI_1]
    exact ih (j + 1) (by omega)
set_option maxHeartbeats 4000000 in
set_option maxRecDepth 100000 in
theorem b_checksum {o r : Nat} {M : Mem} (hB : isBy o r) {n mn : Nat} (hn : M o 1 = nI n) (hn2 : n ≤ 16) (hmn : mn ≤ n) : Gv mX0_checksum [.ref o, .int (nI mn)] M (some (.int (crcN (M r) mn))) M := by
  obtain ⟨hB1, hB2, hB3, hB4⟩ := id hB
  refine con_of (lv := [some (.ref o), some (.int (nI mn)), none, none, none, none]) (by decide) rfl (Nat.le_of_ble_eq_true rfl) (by simp [lvle]) ?_
  refine r_ldc 1378996274 dX0_checksum_0 cnX0_47 ?_
  refine r_istore_n2 dX0_checksum_2 rfl (Nat.le_of_ble_eq_true rfl) ?_
  refine r_iconst 0 dX0_checksum_3 (by decide) ?_
  refine r_istore_n3 dX0_checksum_4 rfl (Nat.le_of_ble_eq_true rfl) ?_
  refine b_crc_out hB hn hn2 hmn ?_ mn 0 (by omega)
  refine r_iload_n dX0_checksum_72 rfl rfl ?_
  refine r_ireturn dX0_checksum_73 rfl (Nat.zero_le _) (Nat.zero_le _) ?_
  exact ⟨rfl, rfl⟩
set_option maxHeartbeats 4000000 in
set_option maxRecDepth 100000 in
theorem b_copy_lp {o r o2 r2 : Nat} {M0 : Mem} (hB : isBy o r) (hB' : isBy o2 r2) {n : Nat} {g : Nat → Int32} (h1 : o2 ∉ [o, r]) (h2 : r2 ∉ [o, r]) (H0 : HB M0 o2 r2 n g) (hok : ∀ j, j < n → okB (g j)) : ∀ (d j : Nat) (M : Mem), j + d = n → HB M o r j g → Fr [o, r] M0 M → ∃ M', WP mX0_copy 6 [some (.ref o), some (.ref o2), some (.int (nI j))] [] 0 0 (shp, rfs, M) (fun r1 h1 => r1 = none ∧ h1 = (shp, rfs, M')) ∧ HB M' o r n g ∧ Fr [o, r] M0 M' := by
  obtain ⟨hB1, hB2, hB3, hB4⟩ := id hB
  obtain ⟨hB1', hB2', hB3', hB4'⟩ := id hB'
  have hn16 := H0.2.1
  intro d
  induction d with
  | zero =>
    intro j M hj H F
    have hj : j = n := by omega
    subst hj
    have hlen : M o2 1 = nI j := by rw [F o2 h1]; exact H0.1
    refine ⟨M, ?_, H, F⟩
    refine r_iload_n dX0_copy_6 rfl rfl ?_
    refine r_aload_n dX0_copy_7 rfl rfl ?_
    refine r_getI (N := 2) dX0_copy_8 fwX0_15 (by first | rfl | assumption) (Nat.le_of_ble_eq_true rfl) rfl ?_
    refine r_icmp_ge 29 dX0_copy_11 (by decide) (fun c_11 => ?_) (fun c_11 => absurd (by rw [hlen]; exact nI_le (Nat.le_refl _) (by omega)) c_11)
    refine r_return dX0_copy_29 rfl (Nat.zero_le _) (Nat.zero_le _) ?_
    exact ⟨rfl, rfl⟩
  | succ d ih =>
    intro j M hj H F
    have hlen : M o2 1 = nI n := by rw [F o2 h1]; exact H0.1
    have hat := b_at (M := M) hB' (x := nI j) hlen hn16
    rw [if_neg (nI_pos (by omega)), hlen, if_neg (nI_ge (by omega) (by omega)), nI_clamp (by omega), F r2 h2, H0.2.2 j (by omega)] at hat
    obtain ⟨M1, g1, H1, F1⟩ := b_addX (x := g j) hB H (by omega) (hok j (by omega)).symm
    obtain ⟨M', w, H', F'⟩ := ih (j + 1) M1 (by omega) H1 (F.tr F1 (fun _ q => q) (fun _ q => q))
    refine ⟨M', ?_, H', F'⟩
    refine r_iload_n dX0_copy_6 rfl rfl ?_
    refine r_aload_n dX0_copy_7 rfl rfl ?_
    refine r_getI (N := 2) dX0_copy_8 fwX0_15 (by first | rfl | assumption) (Nat.le_of_ble_eq_true rfl) rfl ?_
    refine r_icmp_ge 29 dX0_copy_11 (by decide) (fun c_11 => absurd c_11 (by rw [hlen]; exact nI_ge (by omega) (by omega))) (fun c_11 => ?_)
    refine r_aload_n dX0_copy_14 rfl rfl ?_
    refine r_aload_n dX0_copy_15 rfl rfl ?_
    refine r_iload_n dX0_copy_16 rfl rfl ?_
    refine gV1 (Y := mX0_at) (ci := 0) (N := 2) dX0_copy_17 mlX0_26 vkX0_at (by first | rfl | assumption) ⟨by decide, rfl⟩ rfl hat ?_
    refine gW1 (Y := mX0_add) (ci := 0) (N := 2) dX0_copy_20 mlX0_19 vkX0_add (by first | rfl | assumption) ⟨by decide, rfl⟩ rfl g1 ?_
    refine r_iinc_2 (_ + 1) dX0_copy_23 rfl (Nat.le_of_ble_eq_true rfl) rfl ?_
    refine r_goto 6 dX0_copy_26 (by decide) ?_
    rw [nI_1]
    exact w
set_option maxHeartbeats 4000000 in
set_option maxRecDepth 100000 in
theorem b_copyX {o r o2 r2 : Nat} {M : Mem} (hB : isBy o r) (hB' : isBy o2 r2) {n : Nat} {g : Nat → Int32} (h1 : o2 ∉ [o, r]) (h2 : r2 ∉ [o, r]) (H0 : HB M o2 r2 n g) (hok : ∀ j, j < n → okB (g j)) : ∃ M', Gv mX0_copy [.ref o, .ref o2] M none M' ∧ HB M' o r n g ∧ Fr [o, r] M M' := by
  obtain ⟨hB1, hB2, hB3, hB4⟩ := id hB
  obtain ⟨M1, g1, H1, F1⟩ := b_clearX (M := M) hB g
  obtain ⟨M', w, H', F'⟩ := b_copy_lp hB hB' h1 h2 H0 hok n 0 M1 (by omega) H1 F1
  refine ⟨M', ?_, H', F'⟩
  refine con_of (lv := [some (.ref o), some (.ref o2), none]) (by decide) rfl (Nat.le_of_ble_eq_true rfl) (by simp [lvle]) ?_
  refine r_aload_n dX0_copy_0 rfl rfl ?_
  refine gW0 (Y := mX0_clear) (ci := 0) (N := 2) dX0_copy_1 mlX0_23 vkX0_clear (by first | rfl | assumption) ⟨by decide, rfl⟩ rfl g1 ?_
  refine r_iconst 0 dX0_copy_4 (by decide) ?_
  refine r_istore_n2 dX0_copy_5 rfl (Nat.le_of_ble_eq_true rfl) ?_
  exact w
