def TabS (M : Mem) : Prop := ∀ i, i < 16 → M 5 i = sc i
theorem TabS.frS {M M' : Mem} {cs : List Nat} {ss : List (Nat × Nat)} (h : TabS M) (F : FrS cs ss M M') (h2 : 5 ∉ cs) (h3 : ∀ q ∈ ss, q.1 ≠ 5) : TabS M' := fun k q => by rw [F 5 k h2 (fun z => h3 _ z rfl)]; exact h k q
theorem okB_xor {a b : Int32} (ha : okB a) (hb : okB b) : okB (a ^^^ b) := by
  unfold okB at *
  apply b_ext
  intro i hi
  have h1 := congrArg (fun x => bt x i) ha
  have h2 := congrArg (fun x => bt x i) hb
  simp only [b_and, b_xor] at *
  cases h5 : bt 255 i
  · rw [h5] at h1 h2
    simp at h1 h2
    simp [h1, h2]
  · simp
/-- the bytes of a frame: the payload and its check -/
def bb (p : Nat → Int32) (n j : Nat) : Int32 := if j < n then p j else nby (crcN p n) (j - n)
def Vf (g : Nat → Int32) (N w : Nat) : Nat := if w = 0 then 256 else if w = N + 1 then 257 else (g (w - 1) ^^^ sc (w - 1)).toNatClampNeg
theorem Vf_0 (g : Nat → Int32) (N : Nat) : Vf g N 0 = 256 := rfl
theorem Vf_l (g : Nat → Int32) (N : Nat) : Vf g N (N + 1) = 257 := by
  unfold Vf
  rw [if_neg (by omega), if_pos rfl]
theorem Vf_m {g : Nat → Int32} {N j : Nat} (hj : j < N) (hN : N ≤ 16) (hg : okB (g j)) : nI (Vf g N (j + 1)) = g j ^^^ sc j ∧ Vf g N (j + 1) < 256 := by
  obtain ⟨k, hk, he⟩ := okB_of (okB_xor hg (sc_tab j (by omega)).2)
  unfold Vf
  rw [if_neg (by omega), if_neg (by omega), show j + 1 - 1 = j by omega, he, nI_clamp (by omega)]
  exact ⟨rfl, hk⟩
theorem Vf_lt {g : Nat → Int32} {N w : Nat} (hw : w ≤ N + 1) (hN : N ≤ 16) (hg : ∀ j, j < N → okB (g j)) : Vf g N w < 264 := by
  rcases Nat.eq_zero_or_pos w with h | h
  · subst h; rw [Vf_0]; omega
  · obtain ⟨j, rfl⟩ : ∃ j, w = j + 1 := ⟨w - 1, by omega⟩
    by_cases hj : j < N
    · have := (Vf_m hj hN (hg j hj)).2
      omega
    · have : j = N := by omega
      subst this
      rw [Vf_l]
      omega
set_option maxHeartbeats 4000000 in
set_option maxRecDepth 100000 in
theorem x_scr_i {M : Mem} (T : TabS M) {b : Int32} {j : Nat} (hj : j < 16) : Gv mX4_scrambled [.ref 4, .int b, .int (nI j)] M (some (.int (b ^^^ sc j))) M := by
  have hcl : (nI j).toNatClampNeg = j := nI_clamp (by omega)
  refine con_of (lv := [some (.ref 4), some (.int b), some (.int (nI j))]) (by decide) rfl (Nat.le_of_ble_eq_true rfl) (by simp [lvle]) ?_
  refine r_iload_n dX4_scrambled_0 rfl rfl ?_
  refine r_if_lt 24 dX4_scrambled_1 (by decide) (fun c_1 => absurd c_1 (nI_pos (by omega))) (fun c_1 => ?_)
  refine r_iload_n dX4_scrambled_4 rfl rfl ?_
  refine r_aload_n dX4_scrambled_5 rfl rfl ?_
  refine r_getR (N := 13) dX4_scrambled_6 fwX4_9 (by first | rfl | assumption) (Nat.le_of_ble_eq_true rfl) rfl (by first | rfl | assumption) ?_
  refine r_alen dX4_scrambled_9 (by first | rfl | assumption) (by first | exact Or.inl rfl | exact Or.inr rfl) ?_
  refine r_icmp_ge 24 dX4_scrambled_10 (by decide) (fun c_10 => absurd c_10 (nI_ge hj (by decide))) (fun c_10 => ?_)
  refine r_iload_n dX4_scrambled_13 rfl rfl ?_
  refine r_aload_n dX4_scrambled_14 rfl rfl ?_
  refine r_getR (N := 13) dX4_scrambled_15 fwX4_9 (by first | rfl | assumption) (Nat.le_of_ble_eq_true rfl) rfl (by first | rfl | assumption) ?_
  refine r_iload_n dX4_scrambled_18 rfl rfl ?_
  refine r_iaload dX4_scrambled_19 (by first | rfl | assumption) (by exact vp_in_nI hj (by decide)) ?_
  refine r_ixor dX4_scrambled_20 ?_
  refine r_goto 25 dX4_scrambled_21 (by decide) ?_
  refine r_ireturn dX4_scrambled_25 rfl (Nat.zero_le _) (Nat.zero_le _) ?_
  rw [hcl, T j hj]
  exact ⟨rfl, rfl⟩
set_option maxHeartbeats 4000000 in
set_option maxRecDepth 100000 in
theorem x_scr_o {M : Mem} {b x : Int32} (h : x < 0 ∨ nI 16 ≤ x) : Gv mX4_scrambled [.ref 4, .int b, .int x] M (some (.int b)) M := by
  refine con_of (lv := [some (.ref 4), some (.int b), some (.int x)]) (by decide) rfl (Nat.le_of_ble_eq_true rfl) (by simp [lvle]) ?_
  refine r_iload_n dX4_scrambled_0 rfl rfl ?_
  refine r_if_lt 24 dX4_scrambled_1 (by decide) (fun c_1 => ?_) (fun c_1 => ?_)
  · refine r_iload_n dX4_scrambled_24 rfl rfl ?_
    refine r_ireturn dX4_scrambled_25 rfl (Nat.zero_le _) (Nat.zero_le _) ?_
    exact ⟨rfl, rfl⟩
  · refine r_iload_n dX4_scrambled_4 rfl rfl ?_
    refine r_aload_n dX4_scrambled_5 rfl rfl ?_
    refine r_getR (N := 13) dX4_scrambled_6 fwX4_9 (by first | rfl | assumption) (Nat.le_of_ble_eq_true rfl) rfl (by first | rfl | assumption) ?_
    refine r_alen dX4_scrambled_9 (by first | rfl | assumption) (by first | exact Or.inl rfl | exact Or.inr rfl) ?_
    refine r_icmp_ge 24 dX4_scrambled_10 (by decide) (fun c_10 => ?_) (fun c_10 => absurd h (fun q => q.elim c_1 c_10))
    refine r_iload_n dX4_scrambled_24 rfl rfl ?_
    refine r_ireturn dX4_scrambled_25 rfl (Nat.zero_le _) (Nat.zero_le _) ?_
    exact ⟨rfl, rfl⟩
set_option maxHeartbeats 4000000 in
set_option maxRecDepth 100000 in
theorem x_low_tail {V : Nat → Nat} {w : Nat} {M M' : Mem} (T : TabC M) (hk : V w < 264) (g : Gv mX4_putBits [.ref 4, .int (wwF V w)] M none M') {la : Int32} {Q : Option Value → Hp → Prop} (hq : WP mX4_layOnWire 19 [some (.ref 4), some (.int la), some (.int (eI (exF V (w + 1)))), some (.int (nI (w + 1))), none] [] 0 0 (shp, rfs, M') Q) : WP mX4_layOnWire 65 [some (.ref 4), some (.int la), some (.int (eI (exF V w))), some (.int (nI w)), some (.int (nI (V w)))] [] 0 0 (shp, rfs, M) Q := by
  have hw := x_wordOf T (x := nI (V w)) (e := exF V w)
  rw [encS_i hk] at hw
  by_cases h : 252 ≤ V w
  · have hx : exF V (w + 1) = !exF V w := by
      show Bool.xor _ _ = _
      rw [decide_eq_true h]
      cases exF V w <;> rfl
    rw [hx] at hq
    have h3 : ¬ nI (V w) < 252 := nI_nlt (a := V w) (b := 252) h (by omega)
    generalize he : exF V w = e at hq hw ⊢
    cases e with
    | true =>
      refine r_aload_n dX4_layOnWire_65 rfl rfl ?_
      refine r_aload_n dX4_layOnWire_66 rfl rfl ?_
      refine r_getR (N := 13) dX4_layOnWire_67 fwX4_37 (by first | rfl | assumption) (Nat.le_of_ble_eq_true rfl) rfl (by first | rfl | assumption) ?_
      refine r_iload dX4_layOnWire_70 rfl ?_
      refine r_iload_n dX4_layOnWire_72 rfl rfl ?_
      refine gV2 (Y := mX1_wordOf) (ci := 1) (N := 2) dX4_layOnWire_73 mlX4_98 vkX1_wordOf (by first | rfl | assumption) ⟨by decide, rfl⟩ rfl hw ?_
      refine gW1 (Y := mX4_putBits) (ci := 4) (N := 13) dX4_layOnWire_76 mlX4_104 vkX4_putBits (by first | rfl | assumption) ⟨by decide, rfl⟩ rfl (by rw [← he]; exact g) ?_
      refine r_iload_n dX4_layOnWire_79 rfl rfl ?_
      refine r_iload dX4_layOnWire_80 rfl ?_
      refine r_sipush 252 dX4_layOnWire_82 (by decide) ?_
      refine r_icmp_lt 92 dX4_layOnWire_85 (by decide) (fun c_85 => absurd c_85 h3) (fun c_85 => ?_)
      refine r_iconst 1 dX4_layOnWire_88 (by decide) ?_
      refine r_goto 93 dX4_layOnWire_89 (by decide) ?_
      refine r_icmp_eq 100 dX4_layOnWire_93 (by decide) (fun c_93 => ?_) (fun c_93 => absurd rfl c_93)
      refine r_iconst 0 dX4_layOnWire_100 (by decide) ?_
      refine r_istore_n2 dX4_layOnWire_101 rfl (Nat.le_of_ble_eq_true rfl) ?_
      refine r_iinc_3 (_ + 1) dX4_layOnWire_102 rfl (Nat.le_of_ble_eq_true rfl) rfl ?_
      refine r_goto 19 dX4_layOnWire_105 (by decide) ?_
      rw [nI_1]
      exact r_weak (by simp [lvle] <;> (repeat' apply And.intro) <;> first | rfl | decide) hq
    | false =>
      refine r_aload_n dX4_layOnWire_65 rfl rfl ?_
      refine r_aload_n dX4_layOnWire_66 rfl rfl ?_
      refine r_getR (N := 13) dX4_layOnWire_67 fwX4_37 (by first | rfl | assumption) (Nat.le_of_ble_eq_true rfl) rfl (by first | rfl | assumption) ?_
      refine r_iload dX4_layOnWire_70 rfl ?_
      refine r_iload_n dX4_layOnWire_72 rfl rfl ?_
      refine gV2 (Y := mX1_wordOf) (ci := 1) (N := 2) dX4_layOnWire_73 mlX4_98 vkX1_wordOf (by first | rfl | assumption) ⟨by decide, rfl⟩ rfl hw ?_
      refine gW1 (Y := mX4_putBits) (ci := 4) (N := 13) dX4_layOnWire_76 mlX4_104 vkX4_putBits (by first | rfl | assumption) ⟨by decide, rfl⟩ rfl (by rw [← he]; exact g) ?_
      refine r_iload_n dX4_layOnWire_79 rfl rfl ?_
      refine r_iload dX4_layOnWire_80 rfl ?_
      refine r_sipush 252 dX4_layOnWire_82 (by decide) ?_
      refine r_icmp_lt 92 dX4_layOnWire_85 (by decide) (fun c_85 => absurd c_85 h3) (fun c_85 => ?_)
      refine r_iconst 1 dX4_layOnWire_88 (by decide) ?_
      refine r_goto 93 dX4_layOnWire_89 (by decide) ?_
      refine r_icmp_eq 100 dX4_layOnWire_93 (by decide) (fun c_93 => absurd c_93 (by decide)) (fun c_93 => ?_)
      refine r_iconst 1 dX4_layOnWire_96 (by decide) ?_
      refine r_goto 101 dX4_layOnWire_97 (by decide) ?_
      refine r_istore_n2 dX4_layOnWire_101 rfl (Nat.le_of_ble_eq_true rfl) ?_
      refine r_iinc_3 (_ + 1) dX4_layOnWire_102 rfl (Nat.le_of_ble_eq_true rfl) rfl ?_
      refine r_goto 19 dX4_layOnWire_105 (by decide) ?_
      rw [nI_1]
      exact r_weak (by simp [lvle] <;> (repeat' apply And.intro) <;> first | rfl | decide) hq
  · have hx : exF V (w + 1) = exF V w := by
      show Bool.xor _ _ = _
      rw [decide_eq_false h]
      cases exF V w <;> rfl
    rw [hx] at hq
    have h3 : nI (V w) < 252 := nI_lt (a := V w) (b := 252) (by omega) (by decide)
    generalize he : exF V w = e at hq hw ⊢
    cases e with
    | true =>
      refine r_aload_n dX4_layOnWire_65 rfl rfl ?_
      refine r_aload_n dX4_layOnWire_66 rfl rfl ?_
      refine r_getR (N := 13) dX4_layOnWire_67 fwX4_37 (by first | rfl | assumption) (Nat.le_of_ble_eq_true rfl) rfl (by first | rfl | assumption) ?_
      refine r_iload dX4_layOnWire_70 rfl ?_
      refine r_iload_n dX4_layOnWire_72 rfl rfl ?_
      refine gV2 (Y := mX1_wordOf) (ci := 1) (N := 2) dX4_layOnWire_73 mlX4_98 vkX1_wordOf (by first | rfl | assumption) ⟨by decide, rfl⟩ rfl hw ?_
      refine gW1 (Y := mX4_putBits) (ci := 4) (N := 13) dX4_layOnWire_76 mlX4_104 vkX4_putBits (by first | rfl | assumption) ⟨by decide, rfl⟩ rfl (by rw [← he]; exact g) ?_
      refine r_iload_n dX4_layOnWire_79 rfl rfl ?_
      refine r_iload dX4_layOnWire_80 rfl ?_
      refine r_sipush 252 dX4_layOnWire_82 (by decide) ?_
      refine r_icmp_lt 92 dX4_layOnWire_85 (by decide) (fun c_85 => ?_) (fun c_85 => absurd h3 c_85)
      refine r_iconst 0 dX4_layOnWire_92 (by decide) ?_
      refine r_icmp_eq 100 dX4_layOnWire_93 (by decide) (fun c_93 => absurd c_93 (by decide)) (fun c_93 => ?_)
      refine r_iconst 1 dX4_layOnWire_96 (by decide) ?_
      refine r_goto 101 dX4_layOnWire_97 (by decide) ?_
      refine r_istore_n2 dX4_layOnWire_101 rfl (Nat.le_of_ble_eq_true rfl) ?_
      refine r_iinc_3 (_ + 1) dX4_layOnWire_102 rfl (Nat.le_of_ble_eq_true rfl) rfl ?_
      refine r_goto 19 dX4_layOnWire_105 (by decide) ?_
      rw [nI_1]
      exact r_weak (by simp [lvle] <;> (repeat' apply And.intro) <;> first | rfl | decide) hq
    | false =>
      refine r_aload_n dX4_layOnWire_65 rfl rfl ?_
      refine r_aload_n dX4_layOnWire_66 rfl rfl ?_
      refine r_getR (N := 13) dX4_layOnWire_67 fwX4_37 (by first | rfl | assumption) (Nat.le_of_ble_eq_true rfl) rfl (by first | rfl | assumption) ?_
      refine r_iload dX4_layOnWire_70 rfl ?_
      refine r_iload_n dX4_layOnWire_72 rfl rfl ?_
      refine gV2 (Y := mX1_wordOf) (ci := 1) (N := 2) dX4_layOnWire_73 mlX4_98 vkX1_wordOf (by first | rfl | assumption) ⟨by decide, rfl⟩ rfl hw ?_
      refine gW1 (Y := mX4_putBits) (ci := 4) (N := 13) dX4_layOnWire_76 mlX4_104 vkX4_putBits (by first | rfl | assumption) ⟨by decide, rfl⟩ rfl (by rw [← he]; exact g) ?_
      refine r_iload_n dX4_layOnWire_79 rfl rfl ?_
      refine r_iload dX4_layOnWire_80 rfl ?_
      refine r_sipush 252 dX4_layOnWire_82 (by decide) ?_
      refine r_icmp_lt 92 dX4_layOnWire_85 (by decide) (fun c_85 => ?_) (fun c_85 => absurd h3 c_85)
      refine r_iconst 0 dX4_layOnWire_92 (by decide) ?_
      refine r_icmp_eq 100 dX4_layOnWire_93 (by decide) (fun c_93 => ?_) (fun c_93 => absurd rfl c_93)
      refine r_iconst 0 dX4_layOnWire_100 (by decide) ?_
      refine r_istore_n2 dX4_layOnWire_101 rfl (Nat.le_of_ble_eq_true rfl) ?_
      refine r_iinc_3 (_ + 1) dX4_layOnWire_102 rfl (Nat.le_of_ble_eq_true rfl) rfl ?_
      refine r_goto 19 dX4_layOnWire_105 (by decide) ?_
      rw [nI_1]
      exact r_weak (by simp [lvle] <;> (repeat' apply And.intro) <;> first | rfl | decide) hq
theorem nI_m1 {w : Nat} : nI (w + 1) - 1 = nI w := by
  have := pk_sub (a := w + 1) (b := 1) (by omega)
  rw [show w + 1 - 1 = w by omega] at this
  exact this
set_option maxHeartbeats 4000000 in
set_option maxRecDepth 100000 in
theorem x_low_lp {g : Nat → Int32} {N : Nat} {M0 : Mem} (T : TabC M0) (TS : TabS M0) (HB0 : HB M0 6 7 N g) (hg : ∀ j, j < N → okB (g j)) : ∀ (d w : Nat) (M : Mem), w + d = N + 2 → WC M (10 * w) (Vf g N) → FrS [10] [(4, 5)] M0 M → ∃ M', WP mX4_layOnWire 19 [some (.ref 4), some (.int (nI (N + 1))), some (.int (eI (exF (Vf g N) w))), some (.int (nI w)), none] [] 0 0 (shp, rfs, M) (fun r1 h1 => r1 = none ∧ h1 = (shp, rfs, M')) ∧ WC M' (10 * (N + 2)) (Vf g N) ∧ FrS [10] [(4, 5)] M0 M' := by
  have hN := HB0.2.1
  intro d
  induction d with
  | zero =>
    intro w M hw H F
    have hw : w = N + 2 := by omega
    subst hw
    refine ⟨M, ?_, H, F⟩
    refine r_iload_n dX4_layOnWire_19 rfl rfl ?_
    refine r_iload_n dX4_layOnWire_20 rfl rfl ?_
    refine r_icmp_gt 108 dX4_layOnWire_21 (by decide) (fun c_21 => ?_) (fun c_21 => absurd (nI_lt (by omega) (by omega)) c_21)
    refine r_return dX4_layOnWire_108 rfl (Nat.zero_le _) (Nat.zero_le _) ?_
    exact ⟨rfl, rfl⟩
  | succ d ih =>
    intro w M hw H F
    have T1 := T.frS F (by decide) (by decide)
    have TS1 := TS.frS F (by decide) (by decide)
    have hlen : M 6 1 = nI N := by rw [F 6 1 (by decide) (by decide)]; exact HB0.1
    have hV := Vf_lt (g := g) (N := N) (w := w) (by omega) hN hg
    obtain ⟨M1, g1, H1, F1⟩ := x_putBits (V := Vf g N) (m := w) (M := M) (by omega) H
    obtain ⟨M', w', H', F'⟩ := ih (w + 1) M1 (by omega) H1 (F.tr F1)
    refine ⟨M', ?_, H', F'⟩
    have ht := x_low_tail T1 hV g1 w'
    have c21 : ¬ nI (N + 1) < nI w := nI_nlt (by omega) (by omega)
    rcases Nat.eq_zero_or_pos w with h0 | h0
    · subst h0
      have hat := b_at isBy6 (x := -1) hlen hN
      rw [if_pos (by decide)] at hat
      refine r_iload_n dX4_layOnWire_19 rfl rfl ?_
      refine r_iload_n dX4_layOnWire_20 rfl rfl ?_
      refine r_icmp_gt 108 dX4_layOnWire_21 (by decide) (fun c_21 => absurd c_21 c21) (fun c_21 => ?_)
      refine r_aload_n dX4_layOnWire_24 rfl rfl ?_
      refine r_aload_n dX4_layOnWire_25 rfl rfl ?_
      refine r_getR (N := 13) dX4_layOnWire_26 fwX4_18 (by first | rfl | assumption) (Nat.le_of_ble_eq_true rfl) rfl (by first | rfl | assumption) ?_
      refine r_iload_n dX4_layOnWire_29 rfl rfl ?_
      refine r_iconst 1 dX4_layOnWire_30 (by decide) ?_
      refine r_isub dX4_layOnWire_31 ?_
      refine gV1 (Y := mX0_at) (ci := 0) (N := 2) dX4_layOnWire_32 mlX4_91 vkX0_at (by first | rfl | assumption) ⟨by decide, rfl⟩ rfl hat ?_
      refine r_iload_n dX4_layOnWire_35 rfl rfl ?_
      refine r_iconst 1 dX4_layOnWire_36 (by decide) ?_
      refine r_isub dX4_layOnWire_37 ?_
      refine gV2 (Y := mX4_scrambled) (ci := 4) (N := 13) dX4_layOnWire_38 mlX4_94 vkX4_scrambled (by first | rfl | assumption) ⟨by decide, rfl⟩ rfl (x_scr_o (Or.inl (by decide))) ?_
      refine r_istore_4 dX4_layOnWire_41 rfl (Nat.le_of_ble_eq_true rfl) ?_
      refine r_iload_n dX4_layOnWire_43 rfl rfl ?_
      refine r_if_ne 55 dX4_layOnWire_44 (by decide) (fun c_44 => absurd rfl c_44) (fun c_44 => ?_)
      refine r_sipush 256 dX4_layOnWire_47 (by decide) ?_
      refine r_istore_4 dX4_layOnWire_50 rfl (Nat.le_of_ble_eq_true rfl) ?_
      refine r_goto 65 dX4_layOnWire_52 (by decide) ?_
      exact ht
    · obtain ⟨j, rfl⟩ : ∃ j, w = j + 1 := ⟨w - 1, by omega⟩
      have hat := b_at isBy6 (x := nI j) hlen hN
      rw [if_neg (nI_pos (by omega)), hlen, nI_clamp (by omega)] at hat
      have hne0 : ¬ nI (j + 1) = 0 := nI_ne0 (by omega) (by omega)
      by_cases hj : j < N
      · have hv := (Vf_m hj hN (hg j hj)).1
        rw [if_neg (nI_ge hj (by omega)), F 7 j (by decide) (by simp), HB0.2.2 j hj] at hat
        rw [hv] at ht
        refine r_iload_n dX4_layOnWire_19 rfl rfl ?_
        refine r_iload_n dX4_layOnWire_20 rfl rfl ?_
        refine r_icmp_gt 108 dX4_layOnWire_21 (by decide) (fun c_21 => absurd c_21 c21) (fun c_21 => ?_)
        refine r_aload_n dX4_layOnWire_24 rfl rfl ?_
        refine r_aload_n dX4_layOnWire_25 rfl rfl ?_
        refine r_getR (N := 13) dX4_layOnWire_26 fwX4_18 (by first | rfl | assumption) (Nat.le_of_ble_eq_true rfl) rfl (by first | rfl | assumption) ?_
        refine r_iload_n dX4_layOnWire_29 rfl rfl ?_
        refine r_iconst 1 dX4_layOnWire_30 (by decide) ?_
        refine r_isub dX4_layOnWire_31 ?_
        rw [nI_m1]
        refine gV1 (Y := mX0_at) (ci := 0) (N := 2) dX4_layOnWire_32 mlX4_91 vkX0_at (by first | rfl | assumption) ⟨by decide, rfl⟩ rfl hat ?_
        refine r_iload_n dX4_layOnWire_35 rfl rfl ?_
        refine r_iconst 1 dX4_layOnWire_36 (by decide) ?_
        refine r_isub dX4_layOnWire_37 ?_
        rw [nI_m1]
        refine gV2 (Y := mX4_scrambled) (ci := 4) (N := 13) dX4_layOnWire_38 mlX4_94 vkX4_scrambled (by first | rfl | assumption) ⟨by decide, rfl⟩ rfl (x_scr_i TS1 (by omega)) ?_
        refine r_istore_4 dX4_layOnWire_41 rfl (Nat.le_of_ble_eq_true rfl) ?_
        refine r_iload_n dX4_layOnWire_43 rfl rfl ?_
        refine r_if_ne 55 dX4_layOnWire_44 (by decide) (fun c_44 => ?_) (fun c_44 => absurd c_44 hne0)
        refine r_iload_n dX4_layOnWire_55 rfl rfl ?_
        refine r_iload_n dX4_layOnWire_56 rfl rfl ?_
        refine r_icmp_ne 65 dX4_layOnWire_57 (by decide) (fun c_57 => ?_) (fun c_57 => absurd ((nI_eq (by omega) (by omega)).mp c_57) (by omega))
        exact ht
      · have hj : j = N := by omega
        subst hj
        rw [if_pos (nI_le (Nat.le_refl _) (by omega))] at hat
        rw [Vf_l] at ht
        by_cases h16 : j < 16
        · refine r_iload_n dX4_layOnWire_19 rfl rfl ?_
          refine r_iload_n dX4_layOnWire_20 rfl rfl ?_
          refine r_icmp_gt 108 dX4_layOnWire_21 (by decide) (fun c_21 => absurd c_21 c21) (fun c_21 => ?_)
          refine r_aload_n dX4_layOnWire_24 rfl rfl ?_
          refine r_aload_n dX4_layOnWire_25 rfl rfl ?_
          refine r_getR (N := 13) dX4_layOnWire_26 fwX4_18 (by first | rfl | assumption) (Nat.le_of_ble_eq_true rfl) rfl (by first | rfl | assumption) ?_
          refine r_iload_n dX4_layOnWire_29 rfl rfl ?_
          refine r_iconst 1 dX4_layOnWire_30 (by decide) ?_
          refine r_isub dX4_layOnWire_31 ?_
          rw [nI_m1]
          refine gV1 (Y := mX0_at) (ci := 0) (N := 2) dX4_layOnWire_32 mlX4_91 vkX0_at (by first | rfl | assumption) ⟨by decide, rfl⟩ rfl hat ?_
          refine r_iload_n dX4_layOnWire_35 rfl rfl ?_
          refine r_iconst 1 dX4_layOnWire_36 (by decide) ?_
          refine r_isub dX4_layOnWire_37 ?_
          rw [nI_m1]
          refine gV2 (Y := mX4_scrambled) (ci := 4) (N := 13) dX4_layOnWire_38 mlX4_94 vkX4_scrambled (by first | rfl | assumption) ⟨by decide, rfl⟩ rfl (x_scr_i TS1 (by omega)) ?_
          refine r_istore_4 dX4_layOnWire_41 rfl (Nat.le_of_ble_eq_true rfl) ?_
          refine r_iload_n dX4_layOnWire_43 rfl rfl ?_
          refine r_if_ne 55 dX4_layOnWire_44 (by decide) (fun c_44 => ?_) (fun c_44 => absurd c_44 hne0)
          refine r_iload_n dX4_layOnWire_55 rfl rfl ?_
          refine r_iload_n dX4_layOnWire_56 rfl rfl ?_
          refine r_icmp_ne 65 dX4_layOnWire_57 (by decide) (fun c_57 => absurd rfl c_57) (fun c_57 => ?_)
          refine r_sipush 257 dX4_layOnWire_60 (by decide) ?_
          refine r_istore_4 dX4_layOnWire_63 rfl (Nat.le_of_ble_eq_true rfl) ?_
          exact ht
        · refine r_iload_n dX4_layOnWire_19 rfl rfl ?_
          refine r_iload_n dX4_layOnWire_20 rfl rfl ?_
          refine r_icmp_gt 108 dX4_layOnWire_21 (by decide) (fun c_21 => absurd c_21 c21) (fun c_21 => ?_)
          refine r_aload_n dX4_layOnWire_24 rfl rfl ?_
          refine r_aload_n dX4_layOnWire_25 rfl rfl ?_
          refine r_getR (N := 13) dX4_layOnWire_26 fwX4_18 (by first | rfl | assumption) (Nat.le_of_ble_eq_true rfl) rfl (by first | rfl | assumption) ?_
          refine r_iload_n dX4_layOnWire_29 rfl rfl ?_
          refine r_iconst 1 dX4_layOnWire_30 (by decide) ?_
          refine r_isub dX4_layOnWire_31 ?_
          rw [nI_m1]
          refine gV1 (Y := mX0_at) (ci := 0) (N := 2) dX4_layOnWire_32 mlX4_91 vkX0_at (by first | rfl | assumption) ⟨by decide, rfl⟩ rfl hat ?_
          refine r_iload_n dX4_layOnWire_35 rfl rfl ?_
          refine r_iconst 1 dX4_layOnWire_36 (by decide) ?_
          refine r_isub dX4_layOnWire_37 ?_
          rw [nI_m1]
          refine gV2 (Y := mX4_scrambled) (ci := 4) (N := 13) dX4_layOnWire_38 mlX4_94 vkX4_scrambled (by first | rfl | assumption) ⟨by decide, rfl⟩ rfl (x_scr_o (Or.inr (nI_le (by omega) (by omega)))) ?_
          refine r_istore_4 dX4_layOnWire_41 rfl (Nat.le_of_ble_eq_true rfl) ?_
          refine r_iload_n dX4_layOnWire_43 rfl rfl ?_
          refine r_if_ne 55 dX4_layOnWire_44 (by decide) (fun c_44 => ?_) (fun c_44 => absurd c_44 hne0)
          refine r_iload_n dX4_layOnWire_55 rfl rfl ?_
          refine r_iload_n dX4_layOnWire_56 rfl rfl ?_
          refine r_icmp_ne 65 dX4_layOnWire_57 (by decide) (fun c_57 => absurd rfl c_57) (fun c_57 => ?_)
          refine r_sipush 257 dX4_layOnWire_60 (by decide) ?_
          refine r_istore_4 dX4_layOnWire_63 rfl (Nat.le_of_ble_eq_true rfl) ?_
          exact ht
set_option maxHeartbeats 4000000 in
set_option maxRecDepth 100000 in
theorem x_layOnWire {g : Nat → Int32} {N : Nat} {M : Mem} (T : TabC M) (TS : TabS M) (HB0 : HB M 6 7 N g) (hg : ∀ j, j < N → okB (g j)) : ∃ M', Gv mX4_layOnWire [.ref 4] M none M' ∧ WC M' (10 * (N + 2)) (Vf g N) ∧ FrS [10] [(4, 5)] M M' := by
  have F0 : FrS [10] [(4, 5)] M (upd2 M 4 5 0) := FrS.rf.ups (by decide)
  obtain ⟨M', w, H, F⟩ := x_low_lp (T.frS F0 (by decide) (by decide)) (TS.frS F0 (by decide) (by decide)) (M0 := upd2 M 4 5 0) (N := N) (g := g) ⟨by rw [u_nn (by decide)]; exact HB0.1, HB0.2.1, fun j q => by rw [u_nn (by decide)]; exact HB0.2.2 j q⟩ hg (N + 2) 0 (upd2 M 4 5 0) (by omega) ⟨u_ss, fun j hj => absurd hj (by omega)⟩ FrS.rf
  refine ⟨M', ?_, H, F0.tr F⟩
  have hs := b_size (M := M) isBy6
  rw [HB0.1] at hs
  refine con_of (lv := [some (.ref 4), none, none, none, none]) (by decide) rfl (Nat.le_of_ble_eq_true rfl) (by simp [lvle]) ?_
  refine r_aload_n dX4_layOnWire_0 rfl rfl ?_
  refine r_getR (N := 13) dX4_layOnWire_1 fwX4_18 (by first | rfl | assumption) (Nat.le_of_ble_eq_true rfl) rfl (by first | rfl | assumption) ?_
  refine gV0 (Y := mX0_size) (ci := 0) (N := 2) dX4_layOnWire_4 mlX4_68 vkX0_size (by first | rfl | assumption) ⟨by decide, rfl⟩ rfl hs ?_
  refine r_iconst 1 dX4_layOnWire_7 (by decide) ?_
  refine r_iadd dX4_layOnWire_8 ?_
  refine r_istore_n1 dX4_layOnWire_9 rfl (Nat.le_of_ble_eq_true rfl) ?_
  refine r_iconst 0 dX4_layOnWire_10 (by decide) ?_
  refine r_istore_n2 dX4_layOnWire_11 rfl (Nat.le_of_ble_eq_true rfl) ?_
  refine r_aload_n dX4_layOnWire_12 rfl rfl ?_
  refine r_iconst 0 dX4_layOnWire_13 (by decide) ?_
  refine r_putI (N := 13) dX4_layOnWire_14 fwX4_43 (by first | rfl | assumption) (Nat.le_of_ble_eq_true rfl) rfl (Or.inl rfl) rfl rfl ?_
  refine r_iconst 0 dX4_layOnWire_17 (by decide) ?_
  refine r_istore_n3 dX4_layOnWire_18 rfl (Nat.le_of_ble_eq_true rfl) ?_
  rw [nI_1]
  exact w
