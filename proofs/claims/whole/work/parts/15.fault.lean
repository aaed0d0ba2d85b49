def setRow (M : Mem) (a : Nat) (f : Nat → Int32) : Mem := fun b => if b = a then f else M b
theorem sr_s (M : Mem) (a : Nat) (f : Nat → Int32) : setRow M a f a = f := by simp [setRow]
theorem sr_n {M : Mem} {a b : Nat} {f : Nat → Int32} (h : b ≠ a) : setRow M a f b = M b := by simp [setRow, h]
theorem sr_u (M : Mem) (a k : Nat) (f : Nat → Int32) (x : Int32) : upd2 (setRow M a f) a k x = setRow M a (upd f k x) := by
  funext b
  by_cases h : b = a
  · subst h; rw [upd2_s, sr_s, sr_s]
  · rw [upd2_n h, sr_n h, sr_n h]
theorem sr_id (M : Mem) (a : Nat) : setRow M a (M a) = M := by
  funext b
  by_cases h : b = a
  · subst h; rw [sr_s]
  · rw [sr_n h]
def fat (FB : Nat → Int32) (nb k : Nat) : Nat := (FB k - FB k / nI nb * nI nb).toNatClampNeg
def flt (FF FB : Nat → Int32) (fr : Int32) (nb : Nat) : Nat → (Nat → Int32) → Nat → Int32
  | 0, f => f
  | k + 1, f => if FF k = fr then upd (flt FF FB fr nb k f) (fat FB nb k) (1 - flt FF FB fr nb k f (fat FB nb k)) else flt FF FB fr nb k f
theorem fat_ok {FB : Nat → Int32} {nb k : Nat} (h0 : 0 < nb) (hn : nb ≤ 180) (h : ∃ b, b ≤ 1000000 ∧ FB k = nI b) : FB k - FB k / nI nb * nI nb = nI (fat FB nb k) ∧ fat FB nb k < nb := by
  obtain ⟨b, hb, he⟩ := h
  have h1 := pk_rem (a := b) (d := nb) (by omega) h0 (by omega)
  have h2 : b % nb < nb := Nat.mod_lt _ h0
  unfold fat
  rw [he, h1, nI_clamp (by omega)]
  exact ⟨rfl, h2⟩
theorem flt_congr {FF FF' FB FB' : Nat → Int32} {fr : Int32} {nb : Nat} {f f' : Nat → Int32} (h0 : 0 < nb) (hn : nb ≤ 180) (hf : ∀ j, j < nb → f j = f' j) : ∀ k, (∀ j, j < k → FF j = FF' j ∧ FB j = FB' j ∧ ∃ b, b ≤ 1000000 ∧ FB j = nI b) → ∀ j, j < nb → flt FF FB fr nb k f j = flt FF' FB' fr nb k f' j
  | 0, _, j, hj => hf j hj
  | k + 1, h, j, hj => by
    have ih := flt_congr (FF := FF) (FF' := FF') (FB := FB) (FB' := FB') (fr := fr) h0 hn hf k (fun j q => h j (by omega))
    obtain ⟨h1, h2, h3⟩ := h k (by omega)
    have h4 : fat FB nb k = fat FB' nb k := by unfold fat; rw [h2]
    have h5 := (fat_ok h0 hn h3).2
    simp only [flt]
    rw [← h1]
    by_cases hq : FF k = fr
    · rw [if_pos hq, if_pos hq, ← h4, ih _ h5]
      by_cases hz : j = fat FB nb k
      · subst hz; rw [upd_s, upd_s]
      · rw [upd_n hz, upd_n hz]; exact ih j hj
    · rw [if_neg hq, if_neg hq]; exact ih j hj
set_option maxHeartbeats 4000000 in
set_option maxRecDepth 100000 in
theorem x_turn_lp {M : Mem} {nb nf : Nat} (h0 : 0 < nb) (hn : nb ≤ 180) (hb : M 4 5 = nI nb) (hf : M 4 8 = nI nf) (hf2 : nf ≤ 30) (hp : ∀ j, j < nf → ∃ b, b ≤ 1000000 ∧ M 12 j = nI b) : ∀ (d k : Nat), k + d = nf → WP mX4_turnFaultyBits 2 [some (.ref 4), some (.int (nI k)), none] [] 0 0 (shp, rfs, setRow M 10 (flt (M 11) (M 12) (M 4 10) nb k (M 10))) (fun r1 h1 => r1 = none ∧ h1 = (shp, rfs, setRow M 10 (flt (M 11) (M 12) (M 4 10) nb nf (M 10)))) := by
  intro d
  induction d with
  | zero =>
    intro k hk
    have hk : k = nf := by omega
    subst hk
    refine r_iload_n dX4_turnFaultyBits_2 rfl rfl ?_
    refine r_aload_n dX4_turnFaultyBits_3 rfl rfl ?_
    refine r_getI (N := 13) dX4_turnFaultyBits_4 fwX4_54 (by first | rfl | assumption) (Nat.le_of_ble_eq_true rfl) rfl ?_
    refine r_icmp_ge 62 dX4_turnFaultyBits_7 (by decide) (fun c_7 => ?_) (fun c_7 => absurd (by rw [sr_n (by decide), hf]; exact nI_le (Nat.le_refl _) (by omega)) c_7)
    refine r_return dX4_turnFaultyBits_62 rfl (Nat.zero_le _) (Nat.zero_le _) ?_
    exact ⟨rfl, rfl⟩
  | succ d ih =>
    intro k hk
    have hcl : (nI k).toNatClampNeg = k := nI_clamp (by omega)
    obtain ⟨e1, e2⟩ := fat_ok h0 hn (hp k (by omega))
    have e3 : (nI (fat (M 12) nb k)).toNatClampNeg = fat (M 12) nb k := nI_clamp (by omega)
    have i1 := ih (k + 1) (by omega)
    simp only [flt] at i1
    refine r_iload_n dX4_turnFaultyBits_2 rfl rfl ?_
    refine r_aload_n dX4_turnFaultyBits_3 rfl rfl ?_
    refine r_getI (N := 13) dX4_turnFaultyBits_4 fwX4_54 (by first | rfl | assumption) (Nat.le_of_ble_eq_true rfl) rfl ?_
    refine r_icmp_ge 62 dX4_turnFaultyBits_7 (by decide) (fun c_7 => absurd c_7 (by rw [sr_n (by decide), hf]; exact nI_ge (by omega) (by omega))) (fun c_7 => ?_)
    refine r_aload_n dX4_turnFaultyBits_10 rfl rfl ?_
    refine r_getR (N := 13) dX4_turnFaultyBits_11 fwX4_28 (by first | rfl | assumption) (Nat.le_of_ble_eq_true rfl) rfl (by first | rfl | assumption) ?_
    refine r_iload_n dX4_turnFaultyBits_14 rfl rfl ?_
    refine r_iaload dX4_turnFaultyBits_15 (by first | rfl | assumption) (by exact vp_in_nI (by omega) (by decide)) ?_
    refine r_aload_n dX4_turnFaultyBits_16 rfl rfl ?_
    refine r_getI (N := 13) dX4_turnFaultyBits_17 fwX4_47 (by first | rfl | assumption) (Nat.le_of_ble_eq_true rfl) rfl ?_
    refine r_icmp_ne 56 dX4_turnFaultyBits_20 (by decide) (fun c_20 => ?_) (fun c_20 => ?_)
    · refine r_iinc_1 (_ + 1) dX4_turnFaultyBits_56 rfl (Nat.le_of_ble_eq_true rfl) rfl ?_
      refine r_goto 2 dX4_turnFaultyBits_59 (by decide) ?_
      rw [nI_1]
      rw [hcl, sr_n (by decide), sr_n (by decide)] at c_20
      first | (rw [if_neg c_20] at i1; exact i1) | (rw [if_pos c_20] at i1; rw [e3, sr_s, sr_u]; exact r_weak (by simp [lvle] <;> (repeat' apply And.intro) <;> first | rfl | decide) i1)
    · refine r_aload_n dX4_turnFaultyBits_23 rfl rfl ?_
      refine r_getI (N := 13) dX4_turnFaultyBits_24 fwX4_43 (by first | rfl | assumption) (Nat.le_of_ble_eq_true rfl) rfl ?_
      refine r_if_le 56 dX4_turnFaultyBits_27 (by decide) (fun c_27 => absurd c_27 (by rw [sr_n (by decide), hb]; exact nI_nle h0 (by omega))) (fun c_27 => ?_)
      refine r_aload_n dX4_turnFaultyBits_30 rfl rfl ?_
      refine r_getR (N := 13) dX4_turnFaultyBits_31 fwX4_31 (by first | rfl | assumption) (Nat.le_of_ble_eq_true rfl) rfl (by first | rfl | assumption) ?_
      refine r_iload_n dX4_turnFaultyBits_34 rfl rfl ?_
      refine r_iaload dX4_turnFaultyBits_35 (by first | rfl | assumption) (by exact vp_in_nI (by omega) (by decide)) ?_
      refine r_aload_n dX4_turnFaultyBits_36 rfl rfl ?_
      refine r_getI (N := 13) dX4_turnFaultyBits_37 fwX4_43 (by first | rfl | assumption) (Nat.le_of_ble_eq_true rfl) rfl ?_
      refine r_irem dX4_turnFaultyBits_40 (by rw [sr_n (by decide), hb]; exact nI_ne0 h0 (by omega)) ?_
      rw [sr_n (a := 10) (b := 12) (by decide), sr_n (a := 10) (b := 4) (by decide), hb, hcl, e1]
      refine r_istore_n2 dX4_turnFaultyBits_41 rfl (Nat.le_of_ble_eq_true rfl) ?_
      refine r_aload_n dX4_turnFaultyBits_42 rfl rfl ?_
      refine r_getR (N := 13) dX4_turnFaultyBits_43 fwX4_25 (by first | rfl | assumption) (Nat.le_of_ble_eq_true rfl) rfl (by first | rfl | assumption) ?_
      refine r_iload_n dX4_turnFaultyBits_46 rfl rfl ?_
      refine r_iconst 1 dX4_turnFaultyBits_47 (by decide) ?_
      refine r_aload_n dX4_turnFaultyBits_48 rfl rfl ?_
      refine r_getR (N := 13) dX4_turnFaultyBits_49 fwX4_25 (by first | rfl | assumption) (Nat.le_of_ble_eq_true rfl) rfl (by first | rfl | assumption) ?_
      refine r_iload_n dX4_turnFaultyBits_52 rfl rfl ?_
      refine r_iaload dX4_turnFaultyBits_53 (by first | rfl | assumption) (by exact vp_in_nI (by omega) (by decide)) ?_
      refine r_isub dX4_turnFaultyBits_54 ?_
      refine r_iastore dX4_turnFaultyBits_55 (by first | rfl | assumption) (by exact vp_in_nI (by omega) (by decide)) ?_
      refine r_iinc_1 (_ + 1) dX4_turnFaultyBits_56 rfl (Nat.le_of_ble_eq_true rfl) rfl ?_
      refine r_goto 2 dX4_turnFaultyBits_59 (by decide) ?_
      rw [nI_1]
      rw [hcl, sr_n (by decide), sr_n (by decide)] at c_20
      first | (rw [if_neg c_20] at i1; exact i1) | (rw [if_pos c_20] at i1; rw [e3, sr_s, sr_u]; exact r_weak (by simp [lvle] <;> (repeat' apply And.intro) <;> first | rfl | decide) i1)
set_option maxHeartbeats 4000000 in
set_option maxRecDepth 100000 in
theorem x_turn {M : Mem} {nb nf : Nat} (h0 : 0 < nb) (hn : nb ≤ 180) (hb : M 4 5 = nI nb) (hf : M 4 8 = nI nf) (hf2 : nf ≤ 30) (hp : ∀ j, j < nf → ∃ b, b ≤ 1000000 ∧ M 12 j = nI b) : Gv mX4_turnFaultyBits [.ref 4] M none (setRow M 10 (flt (M 11) (M 12) (M 4 10) nb nf (M 10))) := by
  have h := x_turn_lp h0 hn hb hf hf2 hp nf 0 (by omega)
  rw [show flt (M 11) (M 12) (M 4 10) nb 0 (M 10) = M 10 from rfl, sr_id] at h
  refine con_of (lv := [some (.ref 4), none, none]) (by decide) rfl (Nat.le_of_ble_eq_true rfl) (by simp [lvle]) ?_
  refine r_iconst 0 dX4_turnFaultyBits_0 (by decide) ?_
  refine r_istore_n1 dX4_turnFaultyBits_1 rfl (Nat.le_of_ble_eq_true rfl) ?_
  exact h
set_option maxHeartbeats 4000000 in
set_option maxRecDepth 100000 in
theorem m_turn_lp {M : Mem} {nb nf : Nat} {c : Option Value} (h0 : 0 < nb) (hn : nb ≤ 180) (hb : M 40 12 = nI nb) (hf : M 40 5 = nI nf) (hf2 : nf ≤ 30) (hp : ∀ j, j < nf → ∃ b, b ≤ 1000000 ∧ M 46 j = nI b) : ∀ (d k : Nat), k + d = nf → WP mX6_layWire 108 [some (.ref 40), none, some (.int (nI k)), none] [] 0 0 (shp, rfs, setRow M 48 (flt (M 45) (M 46) (M 40 8) nb k (M 48))) (fun r1 h1 => r1 = none ∧ h1 = (shp, rfs, setRow M 48 (flt (M 45) (M 46) (M 40 8) nb nf (M 48)))) := by
  intro d
  induction d with
  | zero =>
    intro k hk
    have hk : k = nf := by omega
    subst hk
    refine r_iload_n dX6_layWire_108 rfl rfl ?_
    refine r_aload_n dX6_layWire_109 rfl rfl ?_
    refine r_getI (N := 35) dX6_layWire_110 fwX6_132 (by first | rfl | assumption) (Nat.le_of_ble_eq_true rfl) rfl ?_
    refine r_icmp_ge 161 dX6_layWire_113 (by decide) (fun c_113 => ?_) (fun c_113 => absurd (by rw [sr_n (by decide), hf]; exact nI_le (Nat.le_refl _) (by omega)) c_113)
    refine r_return dX6_layWire_161 rfl (Nat.zero_le _) (Nat.zero_le _) ?_
    exact ⟨rfl, rfl⟩
  | succ d ih =>
    intro k hk
    have hcl : (nI k).toNatClampNeg = k := nI_clamp (by omega)
    obtain ⟨e1, e2⟩ := fat_ok h0 hn (hp k (by omega))
    have e3 : (nI (fat (M 46) nb k)).toNatClampNeg = fat (M 46) nb k := nI_clamp (by omega)
    have i1 := ih (k + 1) (by omega)
    simp only [flt] at i1
    refine r_iload_n dX6_layWire_108 rfl rfl ?_
    refine r_aload_n dX6_layWire_109 rfl rfl ?_
    refine r_getI (N := 35) dX6_layWire_110 fwX6_132 (by first | rfl | assumption) (Nat.le_of_ble_eq_true rfl) rfl ?_
    refine r_icmp_ge 161 dX6_layWire_113 (by decide) (fun c_113 => absurd c_113 (by rw [sr_n (by decide), hf]; exact nI_ge (by omega) (by omega))) (fun c_113 => ?_)
    refine r_aload_n dX6_layWire_116 rfl rfl ?_
    refine r_getR (N := 35) dX6_layWire_117 fwX6_22 (by first | rfl | assumption) (Nat.le_of_ble_eq_true rfl) rfl (by first | rfl | assumption) ?_
    refine r_iload_n dX6_layWire_120 rfl rfl ?_
    refine r_iaload dX6_layWire_121 (by first | rfl | assumption) (by exact vp_in_nI (by omega) (by decide)) ?_
    refine r_aload_n dX6_layWire_122 rfl rfl ?_
    refine r_getI (N := 35) dX6_layWire_123 fwX6_135 (by first | rfl | assumption) (Nat.le_of_ble_eq_true rfl) rfl ?_
    refine r_icmp_ne 155 dX6_layWire_126 (by decide) (fun c_126 => ?_) (fun c_126 => ?_)
    · refine r_iinc_2 (_ + 1) dX6_layWire_155 rfl (Nat.le_of_ble_eq_true rfl) rfl ?_
      refine r_goto 108 dX6_layWire_158 (by decide) ?_
      rw [nI_1]
      rw [hcl, sr_n (by decide), sr_n (by decide)] at c_126
      first | (rw [if_neg c_126] at i1; exact i1) | (rw [if_pos c_126] at i1; rw [e3, sr_s, sr_u]; exact r_weak (by simp [lvle] <;> (repeat' apply And.intro) <;> first | rfl | decide) i1)
    · refine r_aload_n dX6_layWire_129 rfl rfl ?_
      refine r_getR (N := 35) dX6_layWire_130 fwX6_25 (by first | rfl | assumption) (Nat.le_of_ble_eq_true rfl) rfl (by first | rfl | assumption) ?_
      refine r_iload_n dX6_layWire_133 rfl rfl ?_
      refine r_iaload dX6_layWire_134 (by first | rfl | assumption) (by exact vp_in_nI (by omega) (by decide)) ?_
      refine r_aload_n dX6_layWire_135 rfl rfl ?_
      refine r_getI (N := 35) dX6_layWire_136 fwX6_118 (by first | rfl | assumption) (Nat.le_of_ble_eq_true rfl) rfl ?_
      refine r_irem dX6_layWire_139 (by rw [sr_n (by decide), hb]; exact nI_ne0 h0 (by omega)) ?_
      rw [sr_n (a := 48) (b := 46) (by decide), sr_n (a := 48) (b := 40) (by decide), hb, hcl, e1]
      refine r_istore_n3 dX6_layWire_140 rfl (Nat.le_of_ble_eq_true rfl) ?_
      refine r_aload_n dX6_layWire_141 rfl rfl ?_
      refine r_getR (N := 35) dX6_layWire_142 fwX6_31 (by first | rfl | assumption) (Nat.le_of_ble_eq_true rfl) rfl (by first | rfl | assumption) ?_
      refine r_iload_n dX6_layWire_145 rfl rfl ?_
      refine r_iconst 1 dX6_layWire_146 (by decide) ?_
      refine r_aload_n dX6_layWire_147 rfl rfl ?_
      refine r_getR (N := 35) dX6_layWire_148 fwX6_31 (by first | rfl | assumption) (Nat.le_of_ble_eq_true rfl) rfl (by first | rfl | assumption) ?_
      refine r_iload_n dX6_layWire_151 rfl rfl ?_
      refine r_iaload dX6_layWire_152 (by first | rfl | assumption) (by exact vp_in_nI (by omega) (by decide)) ?_
      refine r_isub dX6_layWire_153 ?_
      refine r_iastore dX6_layWire_154 (by first | rfl | assumption) (by exact vp_in_nI (by omega) (by decide)) ?_
      refine r_iinc_2 (_ + 1) dX6_layWire_155 rfl (Nat.le_of_ble_eq_true rfl) rfl ?_
      refine r_goto 108 dX6_layWire_158 (by decide) ?_
      rw [nI_1]
      rw [hcl, sr_n (by decide), sr_n (by decide)] at c_126
      first | (rw [if_neg c_126] at i1; exact i1) | (rw [if_pos c_126] at i1; rw [e3, sr_s, sr_u]; exact r_weak (by simp [lvle] <;> (repeat' apply And.intro) <;> first | rfl | decide) i1)
theorem bb_hi {p : Nat → Int32} {n q : Nat} : bb p n (n + q) = nby (crcN p n) q := by
  unfold bb
  rw [if_neg (by omega), show n + q - n = q by omega]
theorem bb_lo {p : Nat → Int32} {n j : Nat} (h : j < n) : bb p n j = p j := if_pos h
theorem nby_ok (x : Int32) (q : Nat) : okB (nby x q) := okB_and _
theorem bb_ok {p : Nat → Int32} {n : Nat} (h : ∀ j, j < n → okB (p j)) (j : Nat) : okB (bb p n j) := by
  unfold bb
  split
  · exact h j (by assumption)
  · exact nby_ok _ _
set_option maxHeartbeats 4000000 in
set_option maxRecDepth 100000 in
theorem m_lay_lp {p : Nat → Int32} {n : Nat} {M0 : Mem} (T : TabM M0) (hn : n ≤ 12) (hs : M0 40 14 = nI n) (hp : ∀ j, j < n → M0 49 j = p j) (hok : ∀ j, j < n → okB (p j)) : ∀ (d k : Nat) (M : Mem), k + d = n + 4 → WM M (10 * (k + 1)) (Vf (bb p n) (n + 4)) → M 40 34 = eI (exF (Vf (bb p n) (n + 4)) (k + 1)) → M 40 33 = rS k → FrS [48] [(40, 12), (40, 34), (40, 33)] M0 M → ∃ M', (∀ Q, WP mX6_layWire 99 [some (.ref 40), none, none, none] [] 0 0 (shp, rfs, M') Q → WP mX6_layWire 38 [some (.ref 40), some (.int (crcN p n)), some (.int (nI k)), none] [] 0 0 (shp, rfs, M) Q) ∧ WM M' (10 * (n + 5)) (Vf (bb p n) (n + 4)) ∧ M' 40 34 = eI (exF (Vf (bb p n) (n + 4)) (n + 5)) ∧ FrS [48] [(40, 12), (40, 34), (40, 33)] M0 M' := by
  intro d
  induction d with
  | zero =>
    intro k M hk H He Hr F
    have hk : k = n + 4 := by omega
    subst hk
    refine ⟨M, fun Q hq => ?_, H, He, F⟩
    have hs1 : M 40 14 + 4 = nI (n + 4) := by rw [F 40 14 (by decide) (by decide), hs]; exact nI_add n 4
    refine r_iload_n dX6_layWire_38 rfl rfl ?_
    refine r_aload_n dX6_layWire_39 rfl rfl ?_
    refine r_getI (N := 35) dX6_layWire_40 fwX6_125 (by first | rfl | assumption) (Nat.le_of_ble_eq_true rfl) rfl ?_
    refine r_iconst 4 dX6_layWire_43 (by decide) ?_
    refine r_iadd dX6_layWire_44 ?_
    rw [hs1]
    refine r_icmp_ge 99 dX6_layWire_45 (by decide) (fun c_45 => ?_) (fun c_45 => absurd (nI_le (Nat.le_refl _) (by omega)) c_45)
    exact r_weak (by simp [lvle] <;> (repeat' apply And.intro) <;> first | rfl | decide) hq
  | succ d ih =>
    intro k M hk H He Hr F
    have hcl : (nI k).toNatClampNeg = k := nI_clamp (by omega)
    have hs0 : M 40 14 = nI n := by rw [F 40 14 (by decide) (by decide), hs]
    have hs1 : nI n + 4 = nI (n + 4) := nI_add n 4
    have hV := Vf_m (g := bb p n) (N := n + 4) (j := k) (by omega) (by omega) (bb_ok hok k)
    have g1 := m_nextScramble (i := k) (by omega) Hr
    have F1 : FrS [48] [(40, 12), (40, 34), (40, 33)] M0 (upd2 M 40 33 (rS (k + 1))) := F.ups (by decide)
    obtain ⟨M2, g2, H2, He2, F2⟩ := m_wireWord (V := Vf (bb p n) (n + 4)) (m := k + 1) (M := upd2 M 40 33 (rS (k + 1))) (T.frS F1 (by decide) (by decide)) (by omega) ⟨by rw [u_sn (by decide)]; exact H.1, fun j q => by rw [u_nn (by decide)]; exact H.2 j q⟩ (by rw [u_sn (by decide)]; exact He) (by omega)
    rw [hV.1] at g2
    obtain ⟨M', w, H', He', F'⟩ := ih (k + 1) M2 (by omega) H2 He2 (by rw [F2 40 33 (by decide) (by decide), u_ss]) (F1.tr (F2.mono (by decide) (by decide)))
    refine ⟨M', fun Q hq => ?_, H', He', F'⟩
    by_cases hkn : k < n
    · rw [bb_lo hkn] at g2
      have hpk : M 49 k = p k := by rw [F 49 k (by decide) (by simp), hp k hkn]
      refine r_iload_n dX6_layWire_38 rfl rfl ?_
      refine r_aload_n dX6_layWire_39 rfl rfl ?_
      refine r_getI (N := 35) dX6_layWire_40 fwX6_125 (by first | rfl | assumption) (Nat.le_of_ble_eq_true rfl) rfl ?_
      refine r_iconst 4 dX6_layWire_43 (by decide) ?_
      refine r_iadd dX6_layWire_44 ?_
      rw [hs0, hs1]
      refine r_icmp_ge 99 dX6_layWire_45 (by decide) (fun c_45 => absurd c_45 (nI_ge (by omega) (by omega))) (fun c_45 => ?_)
      refine r_iload_n dX6_layWire_48 rfl rfl ?_
      refine r_aload_n dX6_layWire_49 rfl rfl ?_
      refine r_getI (N := 35) dX6_layWire_50 fwX6_125 (by first | rfl | assumption) (Nat.le_of_ble_eq_true rfl) rfl ?_
      rw [hs0]
      refine r_icmp_ge 65 dX6_layWire_53 (by decide) (fun c_53 => absurd c_53 (nI_ge (by omega) (by omega))) (fun c_53 => ?_)
      refine r_aload_n dX6_layWire_56 rfl rfl ?_
      refine r_getR (N := 35) dX6_layWire_57 fwX6_34 (by first | rfl | assumption) (Nat.le_of_ble_eq_true rfl) rfl (by first | rfl | assumption) ?_
      refine r_iload_n dX6_layWire_60 rfl rfl ?_
      refine r_iaload dX6_layWire_61 (by first | rfl | assumption) (by exact vp_in_nI (by omega) (by decide)) ?_
      refine r_goto 82 dX6_layWire_62 (by decide) ?_
      rw [hcl, hpk]
      refine r_istore_n3 dX6_layWire_82 rfl (Nat.le_of_ble_eq_true rfl) ?_
      refine r_aload_n dX6_layWire_83 rfl rfl ?_
      refine r_iload_n dX6_layWire_84 rfl rfl ?_
      refine r_aload_n dX6_layWire_85 rfl rfl ?_
      refine gV0 (Y := mX6_nextScramble) (ci := 6) (N := 35) dX6_layWire_86 mlX6_128 vkX6_nextScramble (by first | rfl | assumption) ⟨by decide, rfl⟩ rfl g1 ?_
      refine r_ixor dX6_layWire_89 ?_
      refine gW1 (Y := mX6_wireWord) (ci := 6) (N := 35) dX6_layWire_90 mlX6_121 vkX6_wireWord (by first | rfl | assumption) ⟨by decide, rfl⟩ rfl g2 ?_
      refine r_iinc_2 (_ + 1) dX6_layWire_93 rfl (Nat.le_of_ble_eq_true rfl) rfl ?_
      refine r_goto 38 dX6_layWire_96 (by decide) ?_
      rw [nI_1]
      exact r_weak (by simp [lvle] <;> (repeat' apply And.intro) <;> first | rfl | decide) (w Q hq)
    · obtain ⟨q, rfl⟩ : ∃ q, k = n + q := ⟨k - n, by omega⟩
      rw [bb_hi] at g2
      have hsh : 8 * (nI n + 3 - nI (n + q)) = nI (24 - 8 * q) := by
        rw [show nI n + 3 = nI (n + 3) from nI_add n 3, pk_sub (by omega)]
        rw [show (8 : Int32) * nI (n + 3 - (n + q)) = nI (8 * (n + 3 - (n + q))) from pk_mul 8 _]
        congr 1
        omega
      refine r_iload_n dX6_layWire_38 rfl rfl ?_
      refine r_aload_n dX6_layWire_39 rfl rfl ?_
      refine r_getI (N := 35) dX6_layWire_40 fwX6_125 (by first | rfl | assumption) (Nat.le_of_ble_eq_true rfl) rfl ?_
      refine r_iconst 4 dX6_layWire_43 (by decide) ?_
      refine r_iadd dX6_layWire_44 ?_
      rw [hs0, hs1]
      refine r_icmp_ge 99 dX6_layWire_45 (by decide) (fun c_45 => absurd c_45 (nI_ge (by omega) (by omega))) (fun c_45 => ?_)
      refine r_iload_n dX6_layWire_48 rfl rfl ?_
      refine r_aload_n dX6_layWire_49 rfl rfl ?_
      refine r_getI (N := 35) dX6_layWire_50 fwX6_125 (by first | rfl | assumption) (Nat.le_of_ble_eq_true rfl) rfl ?_
      rw [hs0]
      refine r_icmp_ge 65 dX6_layWire_53 (by decide) (fun c_53 => ?_) (fun c_53 => absurd (nI_le (by omega) (by omega)) c_53)
      refine r_iload_n dX6_layWire_65 rfl rfl ?_
      refine r_bipush 8 dX6_layWire_66 (by decide) ?_
      refine r_aload_n dX6_layWire_68 rfl rfl ?_
      refine r_getI (N := 35) dX6_layWire_69 fwX6_125 (by first | rfl | assumption) (Nat.le_of_ble_eq_true rfl) rfl ?_
      refine r_iconst 3 dX6_layWire_72 (by decide) ?_
      refine r_iadd dX6_layWire_73 ?_
      refine r_iload_n dX6_layWire_74 rfl rfl ?_
      refine r_isub dX6_layWire_75 ?_
      refine r_imul dX6_layWire_76 ?_
      rw [hs0, hsh]
      refine r_iushr dX6_layWire_77 ?_
      refine r_sipush 255 dX6_layWire_78 (by decide) ?_
      refine r_iand dX6_layWire_81 ?_
      refine r_istore_n3 dX6_layWire_82 rfl (Nat.le_of_ble_eq_true rfl) ?_
      refine r_aload_n dX6_layWire_83 rfl rfl ?_
      refine r_iload_n dX6_layWire_84 rfl rfl ?_
      refine r_aload_n dX6_layWire_85 rfl rfl ?_
      refine gV0 (Y := mX6_nextScramble) (ci := 6) (N := 35) dX6_layWire_86 mlX6_128 vkX6_nextScramble (by first | rfl | assumption) ⟨by decide, rfl⟩ rfl g1 ?_
      refine r_ixor dX6_layWire_89 ?_
      refine gW1 (Y := mX6_wireWord) (ci := 6) (N := 35) dX6_layWire_90 mlX6_121 vkX6_wireWord (by first | rfl | assumption) ⟨by decide, rfl⟩ rfl g2 ?_
      refine r_iinc_2 (_ + 1) dX6_layWire_93 rfl (Nat.le_of_ble_eq_true rfl) rfl ?_
      refine r_goto 38 dX6_layWire_96 (by decide) ?_
      rw [nI_1]
      exact r_weak (by simp [lvle] <;> (repeat' apply And.intro) <;> first | rfl | decide) (w Q hq)
set_option maxHeartbeats 4000000 in
set_option maxRecDepth 100000 in
theorem m_layWire {p : Nat → Int32} {n nf : Nat} {M : Mem} (T : TabM M) (hn : n ≤ 12) (hs : M 40 14 = nI n) (hp : ∀ j, j < n → M 49 j = p j) (hok : ∀ j, j < n → okB (p j)) (hf : M 40 5 = nI nf) (hf2 : nf ≤ 30) (hfp : ∀ j, j < nf → ∃ b, b ≤ 1000000 ∧ M 46 j = nI b) : ∃ M', Gv mX6_layWire [.ref 40] M none M' ∧ M' 40 12 = nI (10 * (n + 6)) ∧ (∀ j, j < 10 * (n + 6) → M' 48 j = flt (M 45) (M 46) (M 40 8) (10 * (n + 6)) nf (btF (Vf (bb p n) (n + 4))) j) ∧ FrS [48] [(40, 12), (40, 34), (40, 33)] M M' := by
  have F0 : FrS [48] [(40, 12), (40, 34), (40, 33)] M (upd2 (upd2 (upd2 M 40 12 0) 40 34 0) 40 33 65535) := ((FrS.rf.ups (by decide)).ups (by decide)).ups (by decide)
  obtain ⟨M1, g1, H1, He1, F1⟩ := m_wireWord (V := Vf (bb p n) (n + 4)) (m := 0) (M := upd2 (upd2 (upd2 M 40 12 0) 40 34 0) 40 33 65535) (T.frS F0 (by decide) (by decide)) (by omega) ⟨by rw [u_sn (by decide), u_sn (by decide), u_ss]; rfl, fun j q => absurd q (by omega)⟩ (by rw [u_sn (by decide), u_ss]; rfl) (by rw [Vf_0]; omega)
  rw [Vf_0] at g1
  have F01 : FrS [48] [(40, 12), (40, 34), (40, 33)] M M1 := F0.tr (F1.mono (by decide) (by decide))
  have hr1 : M1 40 33 = rS 0 := by rw [F1 40 33 (by decide) (by decide), u_ss]; rfl
  obtain ⟨M2, w2, H2, He2, F2⟩ := m_lay_lp (M0 := M1) (p := p) (n := n) (T.frS F01 (by decide) (by decide)) hn (by rw [F01 40 14 (by decide) (by decide), hs]) (fun j q => by rw [F01 49 j (by decide) (by simp), hp j q]) hok (n + 4) 0 M1 (by omega) H1 He1 hr1 FrS.rf
  have F02 := F01.tr F2
  obtain ⟨M3, g3, H3, He3, F3⟩ := m_wireWord (V := Vf (bb p n) (n + 4)) (m := n + 5) (M := M2) (T.frS F02 (by decide) (by decide)) (by omega) H2 He2 (by rw [Vf_l]; omega)
  rw [Vf_l] at g3
  have F03 := F02.tr (F3.mono (cs' := [48]) (ss' := [(40, 12), (40, 34), (40, 33)]) (by decide) (by decide))
  have r45 : M3 45 = M 45 := F03.row (by decide) (by simp)
  have r46 : M3 46 = M 46 := F03.row (by decide) (by simp)
  have r8 : M3 40 8 = M 40 8 := F03 40 8 (by decide) (by decide)
  have ht := m_turn_lp (M := M3) (c := none) (nb := 10 * (n + 6)) (nf := nf) (by omega) (by omega) H3.1 (by rw [F03 40 5 (by decide) (by decide), hf]) hf2 (fun j q => by rw [r46]; exact hfp j q) nf 0 (by omega)
  rw [show flt (M3 45) (M3 46) (M3 40 8) (10 * (n + 6)) 0 (M3 48) = M3 48 from rfl, sr_id] at ht
  refine ⟨setRow M3 48 (flt (M3 45) (M3 46) (M3 40 8) (10 * (n + 6)) nf (M3 48)), ?_, ?_, ?_, ?_⟩
  rotate_left
  · rw [sr_n (by decide)]; exact H3.1
  · intro j hj
    rw [sr_s, r45, r46, r8]
    exact flt_congr (by omega) (by omega) (fun j q => H3.2 j q) nf (fun j q => ⟨rfl, rfl, hfp j q⟩) j hj
  · intro a k ha hk
    rw [sr_n (fun q => ha (by rw [q]; exact List.mem_cons_self))]
    exact F03 a k ha hk
  have hck := m_checkOf (M := M1) (r := 49) (fr := 0) (n := n) (N := 12) rfl (by omega) (by decide)
  rw [show (fun q => M1 49 (0 + q)) = M1 49 by funext q; rw [Nat.zero_add], crcN_congr (f := M1 49) (g := p) n (fun j q => by rw [F01 49 j (by decide) (by simp), hp j q])] at hck
  have hs1 : M1 40 14 = nI n := by rw [F01 40 14 (by decide) (by decide), hs]
  refine con_of (lv := [some (.ref 40), none, none, none]) (by decide) rfl (Nat.le_of_ble_eq_true rfl) (by simp [lvle]) ?_
  refine r_aload_n dX6_layWire_0 rfl rfl ?_
  refine r_iconst 0 dX6_layWire_1 (by decide) ?_
  refine r_putI (N := 35) dX6_layWire_2 fwX6_118 (by first | rfl | assumption) (Nat.le_of_ble_eq_true rfl) rfl (Or.inl rfl) rfl rfl ?_
  refine r_aload_n dX6_layWire_5 rfl rfl ?_
  refine r_iconst 0 dX6_layWire_6 (by decide) ?_
  refine r_putI (N := 35) dX6_layWire_7 fwX6_114 (by first | rfl | assumption) (Nat.le_of_ble_eq_true rfl) rfl (Or.inl rfl) (by decide) (by decide) ?_
  refine r_aload_n dX6_layWire_10 rfl rfl ?_
  refine r_ldc 65535 dX6_layWire_11 cnX6_112 ?_
  refine r_putI (N := 35) dX6_layWire_13 fwX6_109 (by first | rfl | assumption) (Nat.le_of_ble_eq_true rfl) rfl (Or.inl rfl) rfl rfl ?_
  refine r_aload_n dX6_layWire_16 rfl rfl ?_
  refine r_sipush 256 dX6_layWire_17 (by decide) ?_
  refine gW1 (Y := mX6_wireWord) (ci := 6) (N := 35) dX6_layWire_20 mlX6_121 vkX6_wireWord (by first | rfl | assumption) ⟨by decide, rfl⟩ rfl g1 ?_
  refine r_aload_n dX6_layWire_23 rfl rfl ?_
  refine r_getR (N := 35) dX6_layWire_24 fwX6_34 (by first | rfl | assumption) (Nat.le_of_ble_eq_true rfl) rfl (by first | rfl | assumption) ?_
  refine r_iconst 0 dX6_layWire_27 (by decide) ?_
  refine r_aload_n dX6_layWire_28 rfl rfl ?_
  refine r_getI (N := 35) dX6_layWire_29 fwX6_125 (by first | rfl | assumption) (Nat.le_of_ble_eq_true rfl) rfl ?_
  rw [hs1]
  refine gS3 (Y := mX6_checkOf) dX6_layWire_32 mlX6_105 ckX6_checkOf skX6_checkOf rfl hck ?_
  refine r_istore_n1 dX6_layWire_35 rfl (Nat.le_of_ble_eq_true rfl) ?_
  refine r_iconst 0 dX6_layWire_36 (by decide) ?_
  refine r_istore_n2 dX6_layWire_37 rfl (Nat.le_of_ble_eq_true rfl) ?_
  refine r_weak (by simp [lvle] <;> (repeat' apply And.intro) <;> first | rfl | decide) (w2 _ ?_)
  refine r_aload_n dX6_layWire_99 rfl rfl ?_
  refine r_sipush 257 dX6_layWire_100 (by decide) ?_
  refine gW1 (Y := mX6_wireWord) (ci := 6) (N := 35) dX6_layWire_103 mlX6_121 vkX6_wireWord (by first | rfl | assumption) ⟨by decide, rfl⟩ rfl g3 ?_
  refine r_iconst 0 dX6_layWire_106 (by decide) ?_
  refine r_istore_n2 dX6_layWire_107 rfl (Nat.le_of_ble_eq_true rfl) ?_
  exact r_weak (by simp [lvle] <;> (repeat' apply And.intro) <;> first | rfl | decide) ht
