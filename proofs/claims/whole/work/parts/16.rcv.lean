/-- ten bits as a number -/
def wrd (b : Nat → Nat) (s : Nat) : Nat → Nat
  | 0 => 0
  | d + 1 => 2 * wrd b s d + b (s + d)
theorem wrd_lt {b : Nat → Nat} {s : Nat} : ∀ d, (∀ j, s ≤ j → j < s + d → b j ≤ 1) → wrd b s d < 2 ^ d
  | 0, _ => by simp [wrd]
  | d + 1, h => by
    have h1 := wrd_lt (b := b) (s := s) d (fun j q1 q2 => h j q1 (by omega))
    have h2 := h (s + d) (by omega) (by omega)
    simp only [wrd, Nat.pow_succ]
    omega
theorem wrd_congr {b b' : Nat → Nat} {s : Nat} : ∀ d, (∀ j, s ≤ j → j < s + d → b j = b' j) → wrd b s d = wrd b' s d
  | 0, _ => rfl
  | d + 1, h => by
    simp only [wrd]
    rw [wrd_congr d (fun j q1 q2 => h j q1 (by omega)), h (s + d) (by omega) (by omega)]
set_option maxRecDepth 100000 in
theorem shl_or : ∀ x, x < 512 → ∀ b, b < 2 → (nI x <<< ((1 : Int32) &&& 31)) ||| nI b = nI (2 * x + b) := by decide +kernel
/-- the bits of a row -/
def bN (f : Nat → Int32) (j : Nat) : Nat := (f j).toNatClampNeg
def is01 (f : Nat → Int32) (n : Nat) : Prop := ∀ j, j < n → f j = 0 ∨ f j = 1
theorem bN_ok {f : Nat → Int32} {n j : Nat} (h : is01 f n) (hj : j < n) : f j = nI (bN f j) ∧ bN f j ≤ 1 := by
  unfold bN
  rcases h j hj with q | q <;> rw [q] <;> decide
def xW (f : Nat → Int32) (w : Nat) : Nat := wrd (bN f) (10 * w) 10
theorem xW_lt {f : Nat → Int32} {n w : Nat} (h : is01 f n) (hw : 10 * w + 10 ≤ n) : xW f w < 1024 := wrd_lt 10 (fun j _ q => (bN_ok h (by omega)).2)
theorem xW_congr {f g : Nat → Int32} {n w : Nat} (h : ∀ j, j < n → f j = g j) (hw : 10 * w + 10 ≤ n) : xW f w = xW g w := wrd_congr 10 (fun j _ q => by unfold bN; rw [h j (by omega)])
set_option maxHeartbeats 4000000 in
set_option maxRecDepth 100000 in
theorem x_wordAt_lp {M : Mem} {w nb : Nat} (h01 : is01 (M 10) nb) (hw : 10 * w + 10 ≤ nb) (hn : nb ≤ 180) : ∀ (d k : Nat), k + d = 10 → WP mX4_wordAt 28 [some (.ref 4), none, some (.int (nI (10 * w))), some (.int (nI (wrd (bN (M 10)) (10 * w) k))), some (.int (nI (10 * w + k)))] [] 0 0 (shp, rfs, M) (fun r1 h1 => r1 = some (.int (nI (xW (M 10) w))) ∧ h1 = (shp, rfs, M)) := by
  have h10 : nI (10 * w) + 10 = nI (10 * w + 10) := nI_add (10 * w) 10
  intro d
  induction d with
  | zero =>
    intro k hk
    have hk : k = 10 := by omega
    subst hk
    refine r_iload dX4_wordAt_28 rfl ?_
    refine r_iload_n dX4_wordAt_30 rfl rfl ?_
    refine r_bipush 10 dX4_wordAt_31 (by decide) ?_
    refine r_iadd dX4_wordAt_33 ?_
    rw [h10]
    refine r_icmp_ge 55 dX4_wordAt_34 (by decide) (fun c_34 => ?_) (fun c_34 => absurd (nI_le (Nat.le_refl _) (by omega)) c_34)
    refine r_iload_n dX4_wordAt_55 rfl rfl ?_
    refine r_ireturn dX4_wordAt_56 rfl (Nat.zero_le _) (Nat.zero_le _) ?_
    exact ⟨rfl, rfl⟩
  | succ d ih =>
    intro k hk
    have hcl : (nI (10 * w + k)).toNatClampNeg = 10 * w + k := nI_clamp (by omega)
    obtain ⟨e1, e2⟩ := bN_ok h01 (j := 10 * w + k) (by omega)
    have e3 := wrd_lt (b := bN (M 10)) (s := 10 * w) k (fun j _ q => (bN_ok h01 (by omega)).2)
    have e4 : 2 ^ k ≤ 2 ^ 9 := Nat.pow_le_pow_right (by omega) (by omega)
    have e5 := shl_or (wrd (bN (M 10)) (10 * w) k) (by omega) (bN (M 10) (10 * w + k)) (by omega)
    refine r_iload dX4_wordAt_28 rfl ?_
    refine r_iload_n dX4_wordAt_30 rfl rfl ?_
    refine r_bipush 10 dX4_wordAt_31 (by decide) ?_
    refine r_iadd dX4_wordAt_33 ?_
    rw [h10]
    refine r_icmp_ge 55 dX4_wordAt_34 (by decide) (fun c_34 => absurd c_34 (nI_ge (by omega) (by omega))) (fun c_34 => ?_)
    refine r_iload_n dX4_wordAt_37 rfl rfl ?_
    refine r_iconst 1 dX4_wordAt_38 (by decide) ?_
    refine r_ishl dX4_wordAt_39 ?_
    refine r_aload_n dX4_wordAt_40 rfl rfl ?_
    refine r_getR (N := 13) dX4_wordAt_41 fwX4_25 (by first | rfl | assumption) (Nat.le_of_ble_eq_true rfl) rfl (by first | rfl | assumption) ?_
    refine r_iload dX4_wordAt_44 rfl ?_
    refine r_iaload dX4_wordAt_46 (by first | rfl | assumption) (by exact vp_in_nI (by omega) (by decide)) ?_
    rw [hcl, e1]
    refine r_ior dX4_wordAt_47 ?_
    rw [e5]
    refine r_istore_n3 dX4_wordAt_48 rfl (Nat.le_of_ble_eq_true rfl) ?_
    refine r_iinc_4 (_ + 1) dX4_wordAt_49 rfl (Nat.le_of_ble_eq_true rfl) rfl ?_
    refine r_goto 28 dX4_wordAt_52 (by decide) ?_
    rw [nI_1]
    exact ih (k + 1) (by omega)
set_option maxHeartbeats 4000000 in
set_option maxRecDepth 100000 in
theorem x_wordAt {M : Mem} {w nb : Nat} (h01 : is01 (M 10) nb) (hw : 10 * w + 10 ≤ nb) (hn : nb ≤ 180) : Gv mX4_wordAt [.ref 4, .int (nI w)] M (some (.int (nI (xW (M 10) w)))) M := by
  have h := x_wordAt_lp h01 hw hn 10 0 rfl
  have hm : nI w * 10 = nI (10 * w) := by rw [Nat.mul_comm]; exact pk_mul w 10
  have h10 : nI (10 * w) + 10 = nI (10 * w + 10) := nI_add (10 * w) 10
  refine con_of (lv := [some (.ref 4), some (.int (nI w)), none, none, none]) (by decide) rfl (Nat.le_of_ble_eq_true rfl) (by simp [lvle]) ?_
  refine r_iload_n dX4_wordAt_0 rfl rfl ?_
  refine r_bipush 10 dX4_wordAt_1 (by decide) ?_
  refine r_imul dX4_wordAt_3 ?_
  rw [hm]
  refine r_istore_n2 dX4_wordAt_4 rfl (Nat.le_of_ble_eq_true rfl) ?_
  refine r_iload_n dX4_wordAt_5 rfl rfl ?_
  refine r_if_lt 21 dX4_wordAt_6 (by decide) (fun c_6 => absurd c_6 (nI_pos (by omega))) (fun c_6 => ?_)
  refine r_iload_n dX4_wordAt_9 rfl rfl ?_
  refine r_bipush 10 dX4_wordAt_10 (by decide) ?_
  refine r_iadd dX4_wordAt_12 ?_
  refine r_aload_n dX4_wordAt_13 rfl rfl ?_
  refine r_getR (N := 13) dX4_wordAt_14 fwX4_25 (by first | rfl | assumption) (Nat.le_of_ble_eq_true rfl) rfl (by first | rfl | assumption) ?_
  refine r_alen dX4_wordAt_17 (by first | rfl | assumption) (by first | exact Or.inl rfl | exact Or.inr rfl) ?_
  rw [h10]
  refine r_icmp_le 23 dX4_wordAt_18 (by decide) (fun c_18 => ?_) (fun c_18 => absurd (nI_le (by omega) (by decide)) c_18)
  refine r_iconst 0 dX4_wordAt_23 (by decide) ?_
  refine r_istore_n3 dX4_wordAt_24 rfl (Nat.le_of_ble_eq_true rfl) ?_
  refine r_iload_n dX4_wordAt_25 rfl rfl ?_
  refine r_istore_4 dX4_wordAt_26 rfl (Nat.le_of_ble_eq_true rfl) ?_
  exact r_weak (by simp [lvle] <;> (repeat' apply And.intro) <;> first | rfl | decide) h
def num4 (a b c d : Int32) : Int32 := ((((((((0 : Int32) <<< ((8 : Int32) &&& 31)) ||| a) <<< ((8 : Int32) &&& 31)) ||| b) <<< ((8 : Int32) &&& 31)) ||| c) <<< ((8 : Int32) &&& 31)) ||| d
set_option maxHeartbeats 4000000 in
set_option maxRecDepth 100000 in
theorem b_numberAt {o r : Nat} {M : Mem} (hB : isBy o r) {n s : Nat} (hn : M o 1 = nI n) (hn2 : n ≤ 16) (hs : s + 4 ≤ n) : Gv mX0_numberAt [.ref o, .int (nI s)] M (some (.int (num4 (M r s) (M r (s + 1)) (M r (s + 1 + 1)) (M r (s + 1 + 1 + 1))))) M := by
  obtain ⟨hB1, hB2, hB3, hB4⟩ := id hB
  have h4 : nI s + 4 = nI (s + 4) := nI_add s 4
  have c0 : (nI s).toNatClampNeg = s := nI_clamp (by omega)
  have c1 : (nI (s + 1)).toNatClampNeg = s + 1 := nI_clamp (by omega)
  have c2 : (nI (s + 1 + 1)).toNatClampNeg = s + 1 + 1 := nI_clamp (by omega)
  have c3 : (nI (s + 1 + 1 + 1)).toNatClampNeg = s + 1 + 1 + 1 := nI_clamp (by omega)
  have hm : nI n - 4 = nI (n - 4) := pk_sub (a := n) (b := 4) (by omega)
  refine con_of (lv := [some (.ref o), some (.int (nI s)), none, none]) (by decide) rfl (Nat.le_of_ble_eq_true rfl) (by simp [lvle]) ?_
  refine r_iload_n dX0_numberAt_0 rfl rfl ?_
  refine r_if_lt 14 dX0_numberAt_1 (by decide) (fun c_1 => absurd c_1 (nI_pos (by omega))) (fun c_1 => ?_)
  refine r_iload_n dX0_numberAt_4 rfl rfl ?_
  refine r_aload_n dX0_numberAt_5 rfl rfl ?_
  refine r_getI (N := 2) dX0_numberAt_6 fwX0_15 (by first | rfl | assumption) (Nat.le_of_ble_eq_true rfl) rfl ?_
  refine r_iconst 4 dX0_numberAt_9 (by decide) ?_
  refine r_isub dX0_numberAt_10 ?_
  rw [hn, hm]
  refine r_icmp_le 16 dX0_numberAt_11 (by decide) (fun c_11 => ?_) (fun c_11 => absurd (nI_le (by omega) (by omega)) c_11)
  refine r_iconst 0 dX0_numberAt_16 (by decide) ?_
  refine r_istore_n2 dX0_numberAt_17 rfl (Nat.le_of_ble_eq_true rfl) ?_
  refine r_iload_n dX0_numberAt_18 rfl rfl ?_
  refine r_istore_n3 dX0_numberAt_19 rfl (Nat.le_of_ble_eq_true rfl) ?_
  skip
  refine r_iload_n dX0_numberAt_20 rfl rfl ?_
  refine r_iload_n dX0_numberAt_21 rfl rfl ?_
  refine r_iconst 4 dX0_numberAt_22 (by decide) ?_
  refine r_iadd dX0_numberAt_23 ?_
  rw [h4]
  refine r_icmp_ge 45 dX0_numberAt_24 (by decide) (fun c_24 => absurd c_24 (nI_ge (by omega) (by omega))) (fun c_24 => ?_)
  refine r_iload_n dX0_numberAt_27 rfl rfl ?_
  refine r_bipush 8 dX0_numberAt_28 (by decide) ?_
  refine r_ishl dX0_numberAt_30 ?_
  refine r_aload_n dX0_numberAt_31 rfl rfl ?_
  refine r_getR (N := 2) dX0_numberAt_32 fwX0_9 (by first | rfl | assumption) (Nat.le_of_ble_eq_true rfl) rfl (by first | rfl | assumption) ?_
  refine r_iload_n dX0_numberAt_35 rfl rfl ?_
  refine r_iaload dX0_numberAt_36 (by first | rfl | assumption) (by exact vp_in_nI (by omega) (by decide)) ?_
  rw [c0]
  refine r_ior dX0_numberAt_37 ?_
  refine r_istore_n2 dX0_numberAt_38 rfl (Nat.le_of_ble_eq_true rfl) ?_
  refine r_iinc_3 (_ + 1) dX0_numberAt_39 rfl (Nat.le_of_ble_eq_true rfl) rfl ?_
  refine r_goto 20 dX0_numberAt_42 (by decide) ?_
  rw [nI_1]
  refine r_iload_n dX0_numberAt_20 rfl rfl ?_
  refine r_iload_n dX0_numberAt_21 rfl rfl ?_
  refine r_iconst 4 dX0_numberAt_22 (by decide) ?_
  refine r_iadd dX0_numberAt_23 ?_
  rw [h4]
  refine r_icmp_ge 45 dX0_numberAt_24 (by decide) (fun c_24 => absurd c_24 (nI_ge (by omega) (by omega))) (fun c_24 => ?_)
  refine r_iload_n dX0_numberAt_27 rfl rfl ?_
  refine r_bipush 8 dX0_numberAt_28 (by decide) ?_
  refine r_ishl dX0_numberAt_30 ?_
  refine r_aload_n dX0_numberAt_31 rfl rfl ?_
  refine r_getR (N := 2) dX0_numberAt_32 fwX0_9 (by first | rfl | assumption) (Nat.le_of_ble_eq_true rfl) rfl (by first | rfl | assumption) ?_
  refine r_iload_n dX0_numberAt_35 rfl rfl ?_
  refine r_iaload dX0_numberAt_36 (by first | rfl | assumption) (by exact vp_in_nI (by omega) (by decide)) ?_
  rw [c1]
  refine r_ior dX0_numberAt_37 ?_
  refine r_istore_n2 dX0_numberAt_38 rfl (Nat.le_of_ble_eq_true rfl) ?_
  refine r_iinc_3 (_ + 1) dX0_numberAt_39 rfl (Nat.le_of_ble_eq_true rfl) rfl ?_
  refine r_goto 20 dX0_numberAt_42 (by decide) ?_
  rw [nI_1]
  refine r_iload_n dX0_numberAt_20 rfl rfl ?_
  refine r_iload_n dX0_numberAt_21 rfl rfl ?_
  refine r_iconst 4 dX0_numberAt_22 (by decide) ?_
  refine r_iadd dX0_numberAt_23 ?_
  rw [h4]
  refine r_icmp_ge 45 dX0_numberAt_24 (by decide) (fun c_24 => absurd c_24 (nI_ge (by omega) (by omega))) (fun c_24 => ?_)
  refine r_iload_n dX0_numberAt_27 rfl rfl ?_
  refine r_bipush 8 dX0_numberAt_28 (by decide) ?_
  refine r_ishl dX0_numberAt_30 ?_
  refine r_aload_n dX0_numberAt_31 rfl rfl ?_
  refine r_getR (N := 2) dX0_numberAt_32 fwX0_9 (by first | rfl | assumption) (Nat.le_of_ble_eq_true rfl) rfl (by first | rfl | assumption) ?_
  refine r_iload_n dX0_numberAt_35 rfl rfl ?_
  refine r_iaload dX0_numberAt_36 (by first | rfl | assumption) (by exact vp_in_nI (by omega) (by decide)) ?_
  rw [c2]
  refine r_ior dX0_numberAt_37 ?_
  refine r_istore_n2 dX0_numberAt_38 rfl (Nat.le_of_ble_eq_true rfl) ?_
  refine r_iinc_3 (_ + 1) dX0_numberAt_39 rfl (Nat.le_of_ble_eq_true rfl) rfl ?_
  refine r_goto 20 dX0_numberAt_42 (by decide) ?_
  rw [nI_1]
  refine r_iload_n dX0_numberAt_20 rfl rfl ?_
  refine r_iload_n dX0_numberAt_21 rfl rfl ?_
  refine r_iconst 4 dX0_numberAt_22 (by decide) ?_
  refine r_iadd dX0_numberAt_23 ?_
  rw [h4]
  refine r_icmp_ge 45 dX0_numberAt_24 (by decide) (fun c_24 => absurd c_24 (nI_ge (by omega) (by omega))) (fun c_24 => ?_)
  refine r_iload_n dX0_numberAt_27 rfl rfl ?_
  refine r_bipush 8 dX0_numberAt_28 (by decide) ?_
  refine r_ishl dX0_numberAt_30 ?_
  refine r_aload_n dX0_numberAt_31 rfl rfl ?_
  refine r_getR (N := 2) dX0_numberAt_32 fwX0_9 (by first | rfl | assumption) (Nat.le_of_ble_eq_true rfl) rfl (by first | rfl | assumption) ?_
  refine r_iload_n dX0_numberAt_35 rfl rfl ?_
  refine r_iaload dX0_numberAt_36 (by first | rfl | assumption) (by exact vp_in_nI (by omega) (by decide)) ?_
  rw [c3]
  refine r_ior dX0_numberAt_37 ?_
  refine r_istore_n2 dX0_numberAt_38 rfl (Nat.le_of_ble_eq_true rfl) ?_
  refine r_iinc_3 (_ + 1) dX0_numberAt_39 rfl (Nat.le_of_ble_eq_true rfl) rfl ?_
  refine r_goto 20 dX0_numberAt_42 (by decide) ?_
  rw [nI_1]
  refine r_iload_n dX0_numberAt_20 rfl rfl ?_
  refine r_iload_n dX0_numberAt_21 rfl rfl ?_
  refine r_iconst 4 dX0_numberAt_22 (by decide) ?_
  refine r_iadd dX0_numberAt_23 ?_
  rw [h4]
  refine r_icmp_ge 45 dX0_numberAt_24 (by decide) (fun c_24 => ?_) (fun c_24 => absurd (nI_le (by omega) (by omega)) c_24)
  refine r_iload_n dX0_numberAt_45 rfl rfl ?_
  refine r_ireturn dX0_numberAt_46 rfl (Nat.zero_le _) (Nat.zero_le _) ?_
  exact ⟨rfl, rfl⟩
theorem okB_hi {x : Int32} (h : okB x) {i : Nat} (hi : 8 ≤ i) : bt x i = false := by
  have := congrArg (fun y => bt y i) h
  simp only [b_and, b_255, decide_eq_false (show ¬ i < 8 by omega), Bool.and_false] at this
  exact this.symm
theorem bt_nby {x : Int32} {q i : Nat} (hq : q < 4) : bt (nby x q) i = (decide (i < 8) && bt x (24 - 8 * q + i)) := by
  unfold nby us
  rw [b_and, b_255, b_ushr _ (by omega), Bool.and_comm]
theorem bt_num4 {a b c d : Int32} (ha : okB a) (hb : okB b) (hc : okB c) (hd : okB d) {i : Nat} (hi : i < 32) : bt (num4 a b c d) i = if i < 8 then bt d i else if i < 16 then bt c (i - 8) else if i < 24 then bt b (i - 16) else bt a (i - 24) := by
  unfold num4
  have z : ∀ (x y : Int32) (k : Nat), k < 32 → bt ((x <<< ((8 : Int32) &&& 31)) ||| y) k = ((decide (8 ≤ k) && bt x (k - 8)) || bt y k) := fun x y k hk => by rw [b_or, b_shl8 x hk]
  rw [z _ _ i hi]
  by_cases h1 : i < 8
  · rw [if_pos h1, decide_eq_false (by omega)]
    simp
  · rw [if_neg h1, decide_eq_true (by omega), okB_hi hd (by omega), Bool.or_false, Bool.true_and, z _ _ _ (by omega)]
    by_cases h2 : i < 16
    · rw [if_pos h2, decide_eq_false (by omega)]
      simp
    · rw [if_neg h2, decide_eq_true (by omega), okB_hi hc (by omega), Bool.or_false, Bool.true_and, z _ _ _ (by omega)]
      by_cases h3 : i < 24
      · rw [if_pos h3, decide_eq_false (by omega), show i - 8 - 8 = i - 16 by omega]
        simp
      · rw [if_neg h3, decide_eq_true (by omega), okB_hi hb (by omega), Bool.or_false, Bool.true_and, z _ _ _ (by omega), show i - 8 - 8 - 8 = i - 24 by omega]
        rw [show (0 : Int32) = 0 from rfl, b_0]
        simp
theorem num4_eq {a b c d x : Int32} (ha : okB a) (hb : okB b) (hc : okB c) (hd : okB d) : x = num4 a b c d ↔ a = nby x 0 ∧ b = nby x 1 ∧ c = nby x 2 ∧ d = nby x 3 := by
  constructor
  · intro h
    have hbit : ∀ i, i < 32 → bt x i = if i < 8 then bt d i else if i < 16 then bt c (i - 8) else if i < 24 then bt b (i - 16) else bt a (i - 24) := fun i hi => by rw [h]; exact bt_num4 ha hb hc hd hi
    refine ⟨?_, ?_, ?_, ?_⟩ <;> (apply b_ext; intro i hi; rw [bt_nby (by omega)]; by_cases h8 : i < 8)
    · rw [decide_eq_true h8, Bool.true_and, hbit _ (by omega), if_neg (by omega), if_neg (by omega), if_neg (by omega)]
      congr 1
      omega
    · rw [decide_eq_false h8, okB_hi ha (by omega)]
      rfl
    · rw [decide_eq_true h8, Bool.true_and, hbit _ (by omega), if_neg (by omega), if_neg (by omega), if_pos (by omega)]
      congr 1
      omega
    · rw [decide_eq_false h8, okB_hi hb (by omega)]
      rfl
    · rw [decide_eq_true h8, Bool.true_and, hbit _ (by omega), if_neg (by omega), if_pos (by omega)]
      congr 1
      omega
    · rw [decide_eq_false h8, okB_hi hc (by omega)]
      rfl
    · rw [decide_eq_true h8, Bool.true_and, hbit _ (by omega), if_pos (by omega)]
      congr 1
      omega
    · rw [decide_eq_false h8, okB_hi hd (by omega)]
      rfl
  · rintro ⟨h1, h2, h3, h4⟩
    apply b_ext
    intro i hi
    rw [bt_num4 ha hb hc hd hi, h1, h2, h3, h4, bt_nby (by omega), bt_nby (by omega), bt_nby (by omega), bt_nby (by omega)]
    by_cases q1 : i < 8
    · rw [if_pos q1, decide_eq_true q1, Bool.true_and]
      congr 1
      omega
    · by_cases q2 : i < 16
      · rw [if_neg q1, if_pos q2, decide_eq_true (by omega), Bool.true_and]
        congr 1
        omega
      · by_cases q3 : i < 24
        · rw [if_neg q1, if_neg q2, if_pos q3, decide_eq_true (by omega), Bool.true_and]
          congr 1
          omega
        · rw [if_neg q1, if_neg q2, if_neg q3, decide_eq_true (by omega), Bool.true_and]
          congr 1
          omega
