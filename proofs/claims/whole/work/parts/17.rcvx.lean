def misp (v : Int32) (w l : Nat) : Bool := if w = 0 then decide (¬ v = 256) else if w = l then decide (¬ v = 257) else decide (256 ≤ v)
def pw (x : Nat) (e : Bool) (w l : Nat) : Int32 := if cvf x e < 0 then -cvf x e else if misp (cvf x e) w l = true then 3 else 0
def eR (X : Nat → Nat) : Nat → Bool
  | 0 => false
  | w + 1 => Bool.xor (eR X w) (decide (252 ≤ cvf (X w) (eR X w)))
def rb (X : Nat → Nat) (j : Nat) : Int32 := cvf (X (j + 1)) (eR X (j + 1)) ^^^ sc j
def rcL (X : Nat → Nat) (l : Nat) (z : Int32) : Nat → Nat → Int32
  | 0, _ => z
  | d + 1, w => if pw (X w) (eR X w) w l = 0 then rcL X l z d (w + 1) else pw (X w) (eR X w) w l
def rcZ (X : Nat → Nat) (l : Nat) : Int32 := if crcN (rb X) (l - 5) = num4 (rb X (l - 5)) (rb X (l - 5 + 1)) (rb X (l - 5 + 1 + 1)) (rb X (l - 5 + 1 + 1 + 1)) then 0 else 4
/-- the finding of a wire of l + 1 words -/
def rcv (X : Nat → Nat) (l : Nat) : Int32 := rcL X l (rcZ X l) (l + 1) 0
theorem eR_congr {X Y : Nat → Nat} : ∀ w, (∀ j, j < w → X j = Y j) → eR X w = eR Y w
  | 0, _ => rfl
  | w + 1, h => by simp only [eR]; rw [eR_congr w (fun j q => h j (by omega)), h w (by omega)]
theorem rb_congr {X Y : Nat → Nat} {j : Nat} (h : ∀ i, i < j + 2 → X i = Y i) : rb X j = rb Y j := by
  unfold rb
  rw [eR_congr (j + 1) (fun i q => h i (by omega)), h (j + 1) (by omega)]
theorem rcL_congr {X Y : Nat → Nat} {l : Nat} {z : Int32} : ∀ d w, (∀ j, j < w + d → X j = Y j) → rcL X l z d w = rcL Y l z d w
  | 0, _, _ => rfl
  | d + 1, w, h => by
    simp only [rcL]
    rw [rcL_congr d (w + 1) (fun j q => h j (by omega)), eR_congr w (fun j q => h j (by omega)), h w (by omega)]
theorem rcv_congr {X Y : Nat → Nat} {l : Nat} (hl : 5 ≤ l) (h : ∀ j, j < l + 1 → X j = Y j) : rcv X l = rcv Y l := by
  unfold rcv
  rw [rcL_congr (l + 1) 0 (fun j q => h j (by omega))]
  have hr : ∀ j, j + 2 ≤ l + 1 → rb X j = rb Y j := fun j hj => rb_congr (fun i q => h i (by omega))
  unfold rcZ
  rw [crcN_congr (l - 5) (fun j q => hr j (by omega)), hr (l - 5) (by omega), hr (l - 5 + 1) (by omega), hr (l - 5 + 1 + 1) (by omega), hr (l - 5 + 1 + 1 + 1) (by omega)]
theorem cvf_neg {x : Nat} (hx : x < 1024) {e : Bool} (h : cvf x e < 0) : cvf x e = -1 ∨ cvf x e = -2 := by
  rcases c_kinds hx e with ⟨i, hi, -, h2, -⟩ | ⟨-, -, -, h2, -⟩ | ⟨k, hk, -, -, h2, -⟩ | ⟨k, hk, -, -, -, h2, -⟩
  · rw [h2] at h; exact absurd h (nI_pos (by omega))
  · exact Or.inl h2
  · rw [h2] at h; exact absurd h (nI_pos (by omega))
  · exact Or.inr h2
theorem cvf_nn {x : Nat} (hx : x < 1024) {e : Bool} (h : ¬ cvf x e < 0) : ∃ k, k < 264 ∧ cvf x e = nI k := by
  rcases c_kinds hx e with ⟨i, hi, -, h2, -⟩ | ⟨-, -, -, h2, -⟩ | ⟨k, hk, -, -, h2, -⟩ | ⟨k, hk, -, -, -, h2, -⟩
  · exact ⟨i, by omega, h2⟩
  · rw [h2] at h; exact absurd (by decide) h
  · exact ⟨252 + k, by omega, h2⟩
  · rw [h2] at h; exact absurd (by decide) h
theorem pw_n {x : Nat} (hx : x < 1024) {e : Bool} {w l : Nat} (h : cvf x e < 0) : pw x e w l = -cvf x e ∧ ¬ pw x e w l = 0 := by
  have h1 : pw x e w l = -cvf x e := if_pos h
  refine ⟨h1, ?_⟩
  rw [h1]
  rcases cvf_neg hx h with q | q <;> rw [q] <;> decide
theorem pw_3 {x : Nat} {e : Bool} {w l : Nat} (h : ¬ cvf x e < 0) (hm : misp (cvf x e) w l = true) : pw x e w l = 3 := by
  unfold pw
  rw [if_neg h, if_pos hm]
theorem pw_0 {x : Nat} {e : Bool} {w l : Nat} (h : ¬ cvf x e < 0) (hm : misp (cvf x e) w l = false) : pw x e w l = 0 := by
  unfold pw
  rw [if_neg h, if_neg (by rw [hm]; decide)]
set_option maxHeartbeats 4000000 in
set_option maxRecDepth 100000 in
theorem x_isMisplaced {M : Mem} {v : Int32} {w l : Nat} (hw : w < 2 ^ 31) (hl : l < 2 ^ 31) : Gv mX4_isMisplaced [.ref 4, .int v, .int (nI w), .int (nI l)] M (some (.int (eI (misp v w l)))) M := by
  refine con_of (lv := [some (.ref 4), some (.int v), some (.int (nI w)), some (.int (nI l))]) (by decide) rfl (Nat.le_of_ble_eq_true rfl) (by simp [lvle]) ?_
  by_cases h0 : w = 0
  · subst h0
    refine r_iload_n dX4_isMisplaced_0 rfl rfl ?_
    refine r_if_ne 17 dX4_isMisplaced_1 (by decide) (fun c_1 => absurd nI_0 c_1) (fun c_1 => ?_)
    refine r_iload_n dX4_isMisplaced_4 rfl rfl ?_
    refine r_sipush 256 dX4_isMisplaced_5 (by decide) ?_
    refine r_icmp_eq 15 dX4_isMisplaced_8 (by decide) (fun c_8 => ?_) (fun c_8 => ?_)
    · refine r_iconst 0 dX4_isMisplaced_15 (by decide) ?_
      refine r_zreturn dX4_isMisplaced_16 rfl (by decide) (Nat.zero_le _) (Nat.zero_le _) ?_
      refine ⟨?_, rfl⟩
      unfold misp
      rw [if_pos rfl]
      first | rw [decide_eq_true c_8] | rw [decide_eq_false (fun q => q c_8)]
      rfl
    · refine r_iconst 1 dX4_isMisplaced_11 (by decide) ?_
      refine r_goto 16 dX4_isMisplaced_12 (by decide) ?_
      refine r_zreturn dX4_isMisplaced_16 rfl (by decide) (Nat.zero_le _) (Nat.zero_le _) ?_
      refine ⟨?_, rfl⟩
      unfold misp
      rw [if_pos rfl]
      first | rw [decide_eq_true c_8] | rw [decide_eq_false (fun q => q c_8)]
      rfl
  · have hn0 : ¬ nI w = 0 := nI_ne0 (by omega) hw
    by_cases hwl : w = l
    · subst hwl
      refine r_iload_n dX4_isMisplaced_0 rfl rfl ?_
      refine r_if_ne 17 dX4_isMisplaced_1 (by decide) (fun c_1 => ?_) (fun c_1 => absurd c_1 hn0)
      refine r_iload_n dX4_isMisplaced_17 rfl rfl ?_
      refine r_iload_n dX4_isMisplaced_18 rfl rfl ?_
      refine r_icmp_ne 37 dX4_isMisplaced_19 (by decide) (fun c_19 => absurd rfl c_19) (fun c_19 => ?_)
      refine r_iload_n dX4_isMisplaced_22 rfl rfl ?_
      refine r_sipush 257 dX4_isMisplaced_23 (by decide) ?_
      refine r_icmp_eq 33 dX4_isMisplaced_26 (by decide) (fun c_26 => ?_) (fun c_26 => ?_)
      · refine r_iconst 0 dX4_isMisplaced_33 (by decide) ?_
        refine r_goto 49 dX4_isMisplaced_34 (by decide) ?_
        refine r_zreturn dX4_isMisplaced_49 rfl (by decide) (Nat.zero_le _) (Nat.zero_le _) ?_
        refine ⟨?_, rfl⟩
        unfold misp
        rw [if_neg h0, if_pos rfl]
        first | rw [decide_eq_true c_26] | rw [decide_eq_false (fun q => q c_26)]
        rfl
      · refine r_iconst 1 dX4_isMisplaced_29 (by decide) ?_
        refine r_goto 49 dX4_isMisplaced_30 (by decide) ?_
        refine r_zreturn dX4_isMisplaced_49 rfl (by decide) (Nat.zero_le _) (Nat.zero_le _) ?_
        refine ⟨?_, rfl⟩
        unfold misp
        rw [if_neg h0, if_pos rfl]
        first | rw [decide_eq_true c_26] | rw [decide_eq_false (fun q => q c_26)]
        rfl
    · refine r_iload_n dX4_isMisplaced_0 rfl rfl ?_
      refine r_if_ne 17 dX4_isMisplaced_1 (by decide) (fun c_1 => ?_) (fun c_1 => absurd c_1 hn0)
      refine r_iload_n dX4_isMisplaced_17 rfl rfl ?_
      refine r_iload_n dX4_isMisplaced_18 rfl rfl ?_
      refine r_icmp_ne 37 dX4_isMisplaced_19 (by decide) (fun c_19 => ?_) (fun c_19 => absurd ((nI_eq hw hl).mp c_19) hwl)
      refine r_iload_n dX4_isMisplaced_37 rfl rfl ?_
      refine r_sipush 256 dX4_isMisplaced_38 (by decide) ?_
      refine r_icmp_lt 48 dX4_isMisplaced_41 (by decide) (fun c_41 => ?_) (fun c_41 => ?_)
      · refine r_iconst 0 dX4_isMisplaced_48 (by decide) ?_
        refine r_zreturn dX4_isMisplaced_49 rfl (by decide) (Nat.zero_le _) (Nat.zero_le _) ?_
        refine ⟨?_, rfl⟩
        unfold misp
        rw [if_neg h0, if_neg hwl]
        first | rw [decide_eq_false (lt_nle c_41)] | rw [decide_eq_true (nlt_le c_41)]
        rfl
      · refine r_iconst 1 dX4_isMisplaced_44 (by decide) ?_
        refine r_goto 49 dX4_isMisplaced_45 (by decide) ?_
        refine r_zreturn dX4_isMisplaced_49 rfl (by decide) (Nat.zero_le _) (Nat.zero_le _) ?_
        refine ⟨?_, rfl⟩
        unfold misp
        rw [if_neg h0, if_neg hwl]
        first | rw [decide_eq_false (lt_nle c_41)] | rw [decide_eq_true (nlt_le c_41)]
        rfl
set_option maxHeartbeats 4000000 in
set_option maxRecDepth 100000 in
theorem x_rc_ex {M : Mem} {e : Bool} {la wi v : Int32} {Q : Option Value → Hp → Prop} (hq : WP mX4_receive 86 [some (.ref 4), some (.int la), some (.int (eI (Bool.xor e (decide (252 ≤ v))))), some (.int wi), some (.int v)] [] 0 0 (shp, rfs, M) Q) : WP mX4_receive 63 [some (.ref 4), some (.int la), some (.int (eI e)), some (.int wi), some (.int v)] [] 0 0 (shp, rfs, M) Q := by
  by_cases h : 252 ≤ v
  · rw [decide_eq_true h] at hq
    cases e with
    | true =>
      refine r_iload_n dX4_receive_63 rfl rfl ?_
      refine r_iload dX4_receive_64 rfl ?_
      refine r_sipush 252 dX4_receive_66 (by decide) ?_
      refine r_icmp_lt 76 dX4_receive_69 (by decide) (fun c_69 => absurd c_69 (le_nlt h)) (fun c_69 => ?_)
      refine r_iconst 1 dX4_receive_72 (by decide) ?_
      refine r_goto 77 dX4_receive_73 (by decide) ?_
      refine r_icmp_eq 84 dX4_receive_77 (by decide) (fun c_77 => ?_) (fun c_77 => absurd rfl c_77)
      refine r_iconst 0 dX4_receive_84 (by decide) ?_
      refine r_istore_n2 dX4_receive_85 rfl (Nat.le_of_ble_eq_true rfl) ?_
      exact hq
    | false =>
      refine r_iload_n dX4_receive_63 rfl rfl ?_
      refine r_iload dX4_receive_64 rfl ?_
      refine r_sipush 252 dX4_receive_66 (by decide) ?_
      refine r_icmp_lt 76 dX4_receive_69 (by decide) (fun c_69 => absurd c_69 (le_nlt h)) (fun c_69 => ?_)
      refine r_iconst 1 dX4_receive_72 (by decide) ?_
      refine r_goto 77 dX4_receive_73 (by decide) ?_
      refine r_icmp_eq 84 dX4_receive_77 (by decide) (fun c_77 => absurd c_77 (by decide)) (fun c_77 => ?_)
      refine r_iconst 1 dX4_receive_80 (by decide) ?_
      refine r_goto 85 dX4_receive_81 (by decide) ?_
      refine r_istore_n2 dX4_receive_85 rfl (Nat.le_of_ble_eq_true rfl) ?_
      exact hq
  · rw [decide_eq_false h] at hq
    cases e with
    | true =>
      refine r_iload_n dX4_receive_63 rfl rfl ?_
      refine r_iload dX4_receive_64 rfl ?_
      refine r_sipush 252 dX4_receive_66 (by decide) ?_
      refine r_icmp_lt 76 dX4_receive_69 (by decide) (fun c_69 => ?_) (fun c_69 => absurd (nle_lt h) c_69)
      refine r_iconst 0 dX4_receive_76 (by decide) ?_
      refine r_icmp_eq 84 dX4_receive_77 (by decide) (fun c_77 => absurd c_77 (by decide)) (fun c_77 => ?_)
      refine r_iconst 1 dX4_receive_80 (by decide) ?_
      refine r_goto 85 dX4_receive_81 (by decide) ?_
      refine r_istore_n2 dX4_receive_85 rfl (Nat.le_of_ble_eq_true rfl) ?_
      exact hq
    | false =>
      refine r_iload_n dX4_receive_63 rfl rfl ?_
      refine r_iload dX4_receive_64 rfl ?_
      refine r_sipush 252 dX4_receive_66 (by decide) ?_
      refine r_icmp_lt 76 dX4_receive_69 (by decide) (fun c_69 => ?_) (fun c_69 => absurd (nle_lt h) c_69)
      refine r_iconst 0 dX4_receive_76 (by decide) ?_
      refine r_icmp_eq 84 dX4_receive_77 (by decide) (fun c_77 => ?_) (fun c_77 => absurd rfl c_77)
      refine r_iconst 0 dX4_receive_84 (by decide) ?_
      refine r_istore_n2 dX4_receive_85 rfl (Nat.le_of_ble_eq_true rfl) ?_
      exact hq
theorem okB_v {k : Nat} (h : ¬ 256 ≤ nI k) (hk : k < 264) : okB (nI k) := okB_nI (by
  rcases Nat.lt_or_ge k 256 with q | q
  · exact q
  · exact absurd (nI_le (a := 256) (b := k) q (by omega)) h)
set_option maxHeartbeats 4000000 in
set_option maxRecDepth 100000 in
theorem x_rc_lp {M0 : Mem} {l : Nat} (T : TabC M0) (TS : TabS M0) (hl : 6 ≤ l) (hl2 : l ≤ 17) (h01 : is01 (M0 10) (10 * (l + 1))) : ∀ (d w : Nat) (M : Mem), w + d = l + 1 → HB M 8 9 (min (w - 1) (l - 1)) (rb (xW (M0 10))) → (∀ j, j < min (w - 1) (l - 1) → okB (rb (xW (M0 10)) j)) → FrS [8, 9] [] M0 M → ∃ M', WP mX4_receive 21 [some (.ref 4), some (.int (nI l)), some (.int (eI (eR (xW (M0 10)) w))), some (.int (nI w)), none] [] 0 0 (shp, rfs, M) (fun r1 h1 => r1 = some (.int (rcL (xW (M0 10)) l (rcZ (xW (M0 10)) l) d w)) ∧ h1 = (shp, rfs, M')) ∧ FrS [8, 9] [] M0 M' := by
  intro d
  induction d with
  | zero =>
    intro w M hw H hok F
    have hw : w = l + 1 := by omega
    subst hw
    have hmin : min (l + 1 - 1) (l - 1) = l - 1 := by omega
    rw [hmin] at H hok
    refine ⟨M, ?_, F⟩
    have hs := b_size (M := M) isBy8
    rw [H.1] at hs
    have h4 : nI (l - 1) - 4 = nI (l - 5) := by
      rw [show (nI (l - 1) - 4 : Int32) = nI (l - 1 - 4) from pk_sub (a := l - 1) (b := 4) (by omega)]
      congr 1
    have hc := b_checksum isBy8 (M := M) (n := l - 1) (mn := l - 5) H.1 H.2.1 (by omega)
    rw [crcN_congr (f := M 9) (g := rb (xW (M0 10))) (l - 5) (fun j q => H.2.2 j (by omega))] at hc
    have hn := b_numberAt isBy8 (M := M) (n := l - 1) (s := l - 5) H.1 H.2.1 (by omega)
    rw [H.2.2 _ (by omega), H.2.2 _ (by omega), H.2.2 _ (by omega), H.2.2 _ (by omega)] at hn
    refine r_iload_n dX4_receive_21 rfl rfl ?_
    refine r_iload_n dX4_receive_22 rfl rfl ?_
    refine r_icmp_gt 117 dX4_receive_23 (by decide) (fun c_23 => ?_) (fun c_23 => absurd (nI_lt (by omega) (by omega)) c_23)
    refine r_aload_n dX4_receive_117 rfl rfl ?_
    refine r_getR (N := 13) dX4_receive_118 fwX4_22 (by first | rfl | assumption) (Nat.le_of_ble_eq_true rfl) rfl (by first | rfl | assumption) ?_
    refine gV0 (Y := mX0_size) (ci := 0) (N := 2) dX4_receive_121 mlX4_68 vkX0_size (by first | rfl | assumption) ⟨by decide, rfl⟩ rfl hs ?_
    refine r_iconst 4 dX4_receive_124 (by decide) ?_
    refine r_isub dX4_receive_125 ?_
    rw [h4]
    refine r_istore_n3 dX4_receive_126 rfl (Nat.le_of_ble_eq_true rfl) ?_
    refine r_aload_n dX4_receive_127 rfl rfl ?_
    refine r_getR (N := 13) dX4_receive_128 fwX4_22 (by first | rfl | assumption) (Nat.le_of_ble_eq_true rfl) rfl (by first | rfl | assumption) ?_
    refine r_iload_n dX4_receive_131 rfl rfl ?_
    refine gV1 (Y := mX0_checksum) (ci := 0) (N := 2) dX4_receive_132 mlX4_72 vkX0_checksum (by first | rfl | assumption) ⟨by decide, rfl⟩ rfl hc ?_
    refine r_aload_n dX4_receive_135 rfl rfl ?_
    refine r_getR (N := 13) dX4_receive_136 fwX4_22 (by first | rfl | assumption) (Nat.le_of_ble_eq_true rfl) rfl (by first | rfl | assumption) ?_
    refine r_iload_n dX4_receive_139 rfl rfl ?_
    refine gV1 (Y := mX0_numberAt) (ci := 0) (N := 2) dX4_receive_140 mlX4_123 vkX0_numberAt (by first | rfl | assumption) ⟨by decide, rfl⟩ rfl hn ?_
    refine r_icmp_ne 150 dX4_receive_143 (by decide) (fun c_143 => ?_) (fun c_143 => ?_)
    · refine r_iconst 4 dX4_receive_150 (by decide) ?_
      refine r_ireturn dX4_receive_151 rfl (Nat.zero_le _) (Nat.zero_le _) ?_
      refine ⟨?_, rfl⟩
      simp only [rcL, rcZ]
      first | rw [if_pos c_143] | rw [if_neg c_143]
    · refine r_iconst 0 dX4_receive_146 (by decide) ?_
      refine r_goto 151 dX4_receive_147 (by decide) ?_
      refine r_ireturn dX4_receive_151 rfl (Nat.zero_le _) (Nat.zero_le _) ?_
      refine ⟨?_, rfl⟩
      simp only [rcL, rcZ]
      first | rw [if_pos c_143] | rw [if_neg c_143]
  | succ d ih =>
    intro w M hw H hok F
    have T1 := T.frS F (by decide) (by decide)
    have TS1 := TS.frS F (by decide) (by decide)
    have r10 : M 10 = M0 10 := F.row (by decide) (by simp)
    have hx : xW (M0 10) w < 1024 := xW_lt h01 (by omega)
    have g1 := x_wordAt (M := M) (w := w) (nb := 10 * (l + 1)) (by rw [r10]; exact h01) (by omega) (by omega)
    rw [r10] at g1
    have g2 := x_valueOf T1 hx (e := eR (xW (M0 10)) w)
    have g3 := x_isMisplaced (M := M) (v := cvf (xW (M0 10) w) (eR (xW (M0 10)) w)) (w := w) (l := l) (by omega) (by omega)
    have c23 : ¬ nI l < nI w := nI_nlt (by omega) (by omega)
    simp only [rcL]
    by_cases hneg : cvf (xW (M0 10) w) (eR (xW (M0 10)) w) < 0
    · obtain ⟨p1, p2⟩ := pw_n hx (w := w) (l := l) hneg
      rw [if_neg p2, p1]
      refine ⟨M, ?_, F⟩
      refine r_iload_n dX4_receive_21 rfl rfl ?_
      refine r_iload_n dX4_receive_22 rfl rfl ?_
      refine r_icmp_gt 117 dX4_receive_23 (by decide) (fun c_23 => absurd c_23 c23) (fun c_23 => ?_)
      refine r_aload_n dX4_receive_26 rfl rfl ?_
      refine r_getR (N := 13) dX4_receive_27 fwX4_37 (by first | rfl | assumption) (Nat.le_of_ble_eq_true rfl) rfl (by first | rfl | assumption) ?_
      refine r_aload_n dX4_receive_30 rfl rfl ?_
      refine r_iload_n dX4_receive_31 rfl rfl ?_
      refine gV1 (Y := mX4_wordAt) (ci := 4) (N := 13) dX4_receive_32 mlX4_110 vkX4_wordAt (by first | rfl | assumption) ⟨by decide, rfl⟩ rfl g1 ?_
      refine r_iload_n dX4_receive_35 rfl rfl ?_
      refine gV2 (Y := mX1_valueOf) (ci := 1) (N := 2) dX4_receive_36 mlX4_113 vkX1_valueOf (by first | rfl | assumption) ⟨by decide, rfl⟩ rfl g2 ?_
      refine r_istore_4 dX4_receive_39 rfl (Nat.le_of_ble_eq_true rfl) ?_
      refine r_iload dX4_receive_41 rfl ?_
      refine r_if_ge 50 dX4_receive_43 (by decide) (fun c_43 => absurd c_43 (lt_nle hneg)) (fun c_43 => ?_)
      refine r_iload dX4_receive_46 rfl ?_
      refine r_ineg dX4_receive_48 ?_
      refine r_ireturn dX4_receive_49 rfl (Nat.zero_le _) (Nat.zero_le _) ?_
      exact ⟨rfl, rfl⟩
    · cases hm : misp (cvf (xW (M0 10) w) (eR (xW (M0 10)) w)) w l with
      | true =>
        have p1 := pw_3 hneg hm
        rw [if_neg (by rw [p1]; decide), p1]
        rw [hm] at g3
        refine ⟨M, ?_, F⟩
        refine r_iload_n dX4_receive_21 rfl rfl ?_
        refine r_iload_n dX4_receive_22 rfl rfl ?_
        refine r_icmp_gt 117 dX4_receive_23 (by decide) (fun c_23 => absurd c_23 c23) (fun c_23 => ?_)
        refine r_aload_n dX4_receive_26 rfl rfl ?_
        refine r_getR (N := 13) dX4_receive_27 fwX4_37 (by first | rfl | assumption) (Nat.le_of_ble_eq_true rfl) rfl (by first | rfl | assumption) ?_
        refine r_aload_n dX4_receive_30 rfl rfl ?_
        refine r_iload_n dX4_receive_31 rfl rfl ?_
        refine gV1 (Y := mX4_wordAt) (ci := 4) (N := 13) dX4_receive_32 mlX4_110 vkX4_wordAt (by first | rfl | assumption) ⟨by decide, rfl⟩ rfl g1 ?_
        refine r_iload_n dX4_receive_35 rfl rfl ?_
        refine gV2 (Y := mX1_valueOf) (ci := 1) (N := 2) dX4_receive_36 mlX4_113 vkX1_valueOf (by first | rfl | assumption) ⟨by decide, rfl⟩ rfl g2 ?_
        refine r_istore_4 dX4_receive_39 rfl (Nat.le_of_ble_eq_true rfl) ?_
        refine r_iload dX4_receive_41 rfl ?_
        refine r_if_ge 50 dX4_receive_43 (by decide) (fun c_43 => ?_) (fun c_43 => absurd (nlt_le hneg) c_43)
        refine r_aload_n dX4_receive_50 rfl rfl ?_
        refine r_iload dX4_receive_51 rfl ?_
        refine r_iload_n dX4_receive_53 rfl rfl ?_
        refine r_iload_n dX4_receive_54 rfl rfl ?_
        refine gV3 (Y := mX4_isMisplaced) (ci := 4) (N := 13) dX4_receive_55 mlX4_116 vkX4_isMisplaced (by first | rfl | assumption) ⟨by decide, rfl⟩ rfl g3 ?_
        refine r_if_eq 63 dX4_receive_58 (by decide) (fun c_58 => absurd c_58 (by decide)) (fun c_58 => ?_)
        refine r_iconst 3 dX4_receive_61 (by decide) ?_
        refine r_ireturn dX4_receive_62 rfl (Nat.zero_le _) (Nat.zero_le _) ?_
        exact ⟨rfl, rfl⟩
      | false =>
        rw [if_pos (pw_0 hneg hm)]
        rw [hm] at g3
        rcases Nat.eq_zero_or_pos w with h0 | h0
        · subst h0
          obtain ⟨M', w', F'⟩ := ih 1 M (by omega) H hok F
          refine ⟨M', ?_, F'⟩
          refine r_iload_n dX4_receive_21 rfl rfl ?_
          refine r_iload_n dX4_receive_22 rfl rfl ?_
          refine r_icmp_gt 117 dX4_receive_23 (by decide) (fun c_23 => absurd c_23 c23) (fun c_23 => ?_)
          refine r_aload_n dX4_receive_26 rfl rfl ?_
          refine r_getR (N := 13) dX4_receive_27 fwX4_37 (by first | rfl | assumption) (Nat.le_of_ble_eq_true rfl) rfl (by first | rfl | assumption) ?_
          refine r_aload_n dX4_receive_30 rfl rfl ?_
          refine r_iload_n dX4_receive_31 rfl rfl ?_
          refine gV1 (Y := mX4_wordAt) (ci := 4) (N := 13) dX4_receive_32 mlX4_110 vkX4_wordAt (by first | rfl | assumption) ⟨by decide, rfl⟩ rfl g1 ?_
          refine r_iload_n dX4_receive_35 rfl rfl ?_
          refine gV2 (Y := mX1_valueOf) (ci := 1) (N := 2) dX4_receive_36 mlX4_113 vkX1_valueOf (by first | rfl | assumption) ⟨by decide, rfl⟩ rfl g2 ?_
          refine r_istore_4 dX4_receive_39 rfl (Nat.le_of_ble_eq_true rfl) ?_
          refine r_iload dX4_receive_41 rfl ?_
          refine r_if_ge 50 dX4_receive_43 (by decide) (fun c_43 => ?_) (fun c_43 => absurd (nlt_le hneg) c_43)
          refine r_aload_n dX4_receive_50 rfl rfl ?_
          refine r_iload dX4_receive_51 rfl ?_
          refine r_iload_n dX4_receive_53 rfl rfl ?_
          refine r_iload_n dX4_receive_54 rfl rfl ?_
          refine gV3 (Y := mX4_isMisplaced) (ci := 4) (N := 13) dX4_receive_55 mlX4_116 vkX4_isMisplaced (by first | rfl | assumption) ⟨by decide, rfl⟩ rfl g3 ?_
          refine r_if_eq 63 dX4_receive_58 (by decide) (fun c_58 => ?_) (fun c_58 => absurd rfl c_58)
          refine x_rc_ex ?_
          refine r_iload_n dX4_receive_86 rfl rfl ?_
          refine r_if_le 111 dX4_receive_87 (by decide) (fun c_87 => ?_) (fun c_87 => absurd (by decide) c_87)
          refine r_iinc_3 (_ + 1) dX4_receive_111 rfl (Nat.le_of_ble_eq_true rfl) rfl ?_
          refine r_goto 21 dX4_receive_114 (by decide) ?_
          rw [nI_1]
          exact r_weak (by simp [lvle] <;> (repeat' apply And.intro) <;> first | rfl | decide) w'
        · obtain ⟨j, rfl⟩ : ∃ j, w = j + 1 := ⟨w - 1, by omega⟩
          by_cases hjl : j + 1 < l
          · obtain ⟨k, hk, he⟩ := cvf_nn hx hneg
            have hv : okB (cvf (xW (M0 10) (j + 1)) (eR (xW (M0 10)) (j + 1))) := by
              unfold misp at hm
              rw [if_neg (by omega), if_neg (by omega), decide_eq_false_iff_not] at hm
              rw [he] at hm ⊢
              exact okB_v hm hk
            have hrb : okB (rb (xW (M0 10)) j) := okB_xor hv (sc_tab j (by omega)).2
            have m1 : min (j + 1 - 1) (l - 1) = j := by omega
            have m2 : min (j + 1 + 1 - 1) (l - 1) = j + 1 := by omega
            rw [m1] at H hok
            have g4 := x_scr_i TS1 (b := cvf (xW (M0 10) (j + 1)) (eR (xW (M0 10)) (j + 1))) (j := j) (by omega)
            obtain ⟨M1, g5, H1, F1⟩ := b_addX (x := rb (xW (M0 10)) j) isBy8 H (by omega) hrb.symm
            obtain ⟨M', w', F'⟩ := ih (j + 1 + 1) M1 (by omega) (by rw [m2]; exact H1) (by rw [m2]; intro i hi; exact (Nat.lt_or_ge i j).elim (hok i) (fun q => by rw [show i = j by omega]; exact hrb)) (F.tr F1.S)
            refine ⟨M', ?_, F'⟩
            refine r_iload_n dX4_receive_21 rfl rfl ?_
            refine r_iload_n dX4_receive_22 rfl rfl ?_
            refine r_icmp_gt 117 dX4_receive_23 (by decide) (fun c_23 => absurd c_23 c23) (fun c_23 => ?_)
            refine r_aload_n dX4_receive_26 rfl rfl ?_
            refine r_getR (N := 13) dX4_receive_27 fwX4_37 (by first | rfl | assumption) (Nat.le_of_ble_eq_true rfl) rfl (by first | rfl | assumption) ?_
            refine r_aload_n dX4_receive_30 rfl rfl ?_
            refine r_iload_n dX4_receive_31 rfl rfl ?_
            refine gV1 (Y := mX4_wordAt) (ci := 4) (N := 13) dX4_receive_32 mlX4_110 vkX4_wordAt (by first | rfl | assumption) ⟨by decide, rfl⟩ rfl g1 ?_
            refine r_iload_n dX4_receive_35 rfl rfl ?_
            refine gV2 (Y := mX1_valueOf) (ci := 1) (N := 2) dX4_receive_36 mlX4_113 vkX1_valueOf (by first | rfl | assumption) ⟨by decide, rfl⟩ rfl g2 ?_
            refine r_istore_4 dX4_receive_39 rfl (Nat.le_of_ble_eq_true rfl) ?_
            refine r_iload dX4_receive_41 rfl ?_
            refine r_if_ge 50 dX4_receive_43 (by decide) (fun c_43 => ?_) (fun c_43 => absurd (nlt_le hneg) c_43)
            refine r_aload_n dX4_receive_50 rfl rfl ?_
            refine r_iload dX4_receive_51 rfl ?_
            refine r_iload_n dX4_receive_53 rfl rfl ?_
            refine r_iload_n dX4_receive_54 rfl rfl ?_
            refine gV3 (Y := mX4_isMisplaced) (ci := 4) (N := 13) dX4_receive_55 mlX4_116 vkX4_isMisplaced (by first | rfl | assumption) ⟨by decide, rfl⟩ rfl g3 ?_
            refine r_if_eq 63 dX4_receive_58 (by decide) (fun c_58 => ?_) (fun c_58 => absurd rfl c_58)
            refine x_rc_ex ?_
            refine r_iload_n dX4_receive_86 rfl rfl ?_
            refine r_if_le 111 dX4_receive_87 (by decide) (fun c_87 => absurd c_87 (nI_nle (by omega) (by omega))) (fun c_87 => ?_)
            refine r_iload_n dX4_receive_90 rfl rfl ?_
            refine r_iload_n dX4_receive_91 rfl rfl ?_
            refine r_icmp_ge 111 dX4_receive_92 (by decide) (fun c_92 => absurd c_92 (nI_ge (by omega) (by omega))) (fun c_92 => ?_)
            refine r_aload_n dX4_receive_95 rfl rfl ?_
            refine r_getR (N := 13) dX4_receive_96 fwX4_22 (by first | rfl | assumption) (Nat.le_of_ble_eq_true rfl) rfl (by first | rfl | assumption) ?_
            refine r_aload_n dX4_receive_99 rfl rfl ?_
            refine r_iload dX4_receive_100 rfl ?_
            refine r_iload_n dX4_receive_102 rfl rfl ?_
            refine r_iconst 1 dX4_receive_103 (by decide) ?_
            refine r_isub dX4_receive_104 ?_
            rw [nI_m1]
            refine gV2 (Y := mX4_scrambled) (ci := 4) (N := 13) dX4_receive_105 mlX4_94 vkX4_scrambled (by first | rfl | assumption) ⟨by decide, rfl⟩ rfl g4 ?_
            refine gW1 (Y := mX0_add) (ci := 0) (N := 2) dX4_receive_108 mlX4_120 vkX0_add (by first | rfl | assumption) ⟨by decide, rfl⟩ rfl g5 ?_
            refine r_iinc_3 (_ + 1) dX4_receive_111 rfl (Nat.le_of_ble_eq_true rfl) rfl ?_
            refine r_goto 21 dX4_receive_114 (by decide) ?_
            rw [nI_1]
            exact r_weak (by simp [lvle] <;> (repeat' apply And.intro) <;> first | rfl | decide) w'
          · have hjl : j + 1 = l := by omega
            have m1 : min (j + 1 - 1) (l - 1) = min (j + 1 + 1 - 1) (l - 1) := by omega
            rw [m1] at H hok
            obtain ⟨M', w', F'⟩ := ih (j + 1 + 1) M (by omega) H hok F
            refine ⟨M', ?_, F'⟩
            refine r_iload_n dX4_receive_21 rfl rfl ?_
            refine r_iload_n dX4_receive_22 rfl rfl ?_
            refine r_icmp_gt 117 dX4_receive_23 (by decide) (fun c_23 => absurd c_23 c23) (fun c_23 => ?_)
            refine r_aload_n dX4_receive_26 rfl rfl ?_
            refine r_getR (N := 13) dX4_receive_27 fwX4_37 (by first | rfl | assumption) (Nat.le_of_ble_eq_true rfl) rfl (by first | rfl | assumption) ?_
            refine r_aload_n dX4_receive_30 rfl rfl ?_
            refine r_iload_n dX4_receive_31 rfl rfl ?_
            refine gV1 (Y := mX4_wordAt) (ci := 4) (N := 13) dX4_receive_32 mlX4_110 vkX4_wordAt (by first | rfl | assumption) ⟨by decide, rfl⟩ rfl g1 ?_
            refine r_iload_n dX4_receive_35 rfl rfl ?_
            refine gV2 (Y := mX1_valueOf) (ci := 1) (N := 2) dX4_receive_36 mlX4_113 vkX1_valueOf (by first | rfl | assumption) ⟨by decide, rfl⟩ rfl g2 ?_
            refine r_istore_4 dX4_receive_39 rfl (Nat.le_of_ble_eq_true rfl) ?_
            refine r_iload dX4_receive_41 rfl ?_
            refine r_if_ge 50 dX4_receive_43 (by decide) (fun c_43 => ?_) (fun c_43 => absurd (nlt_le hneg) c_43)
            refine r_aload_n dX4_receive_50 rfl rfl ?_
            refine r_iload dX4_receive_51 rfl ?_
            refine r_iload_n dX4_receive_53 rfl rfl ?_
            refine r_iload_n dX4_receive_54 rfl rfl ?_
            refine gV3 (Y := mX4_isMisplaced) (ci := 4) (N := 13) dX4_receive_55 mlX4_116 vkX4_isMisplaced (by first | rfl | assumption) ⟨by decide, rfl⟩ rfl g3 ?_
            refine r_if_eq 63 dX4_receive_58 (by decide) (fun c_58 => ?_) (fun c_58 => absurd rfl c_58)
            refine x_rc_ex ?_
            refine r_iload_n dX4_receive_86 rfl rfl ?_
            refine r_if_le 111 dX4_receive_87 (by decide) (fun c_87 => absurd c_87 (nI_nle (by omega) (by omega))) (fun c_87 => ?_)
            refine r_iload_n dX4_receive_90 rfl rfl ?_
            refine r_iload_n dX4_receive_91 rfl rfl ?_
            refine r_icmp_ge 111 dX4_receive_92 (by decide) (fun c_92 => ?_) (fun c_92 => absurd (nI_le (by omega) (by omega)) c_92)
            refine r_iinc_3 (_ + 1) dX4_receive_111 rfl (Nat.le_of_ble_eq_true rfl) rfl ?_
            refine r_goto 21 dX4_receive_114 (by decide) ?_
            rw [nI_1]
            exact r_weak (by simp [lvle] <;> (repeat' apply And.intro) <;> first | rfl | decide) w'
set_option maxHeartbeats 4000000 in
set_option maxRecDepth 100000 in
theorem x_receive {M : Mem} {l : Nat} (T : TabC M) (TS : TabS M) (hl : 6 ≤ l) (hl2 : l ≤ 17) (hb : M 4 5 = nI (10 * (l + 1))) (h01 : is01 (M 10) (10 * (l + 1))) : ∃ M', Gv mX4_receive [.ref 4] M (some (.int (rcv (xW (M 10)) l))) M' ∧ FrS [8, 9] [] M M' := by
  obtain ⟨M1, g1, H1, F1⟩ := b_clearX (M := M) isBy8 (rb (xW (M 10)))
  have F1 := F1.S
  have r10 : M1 10 = M 10 := F1.row (by decide) (by simp)
  obtain ⟨M', w, F'⟩ := x_rc_lp (M0 := M1) (T.frS F1 (by decide) (by decide)) (TS.frS F1 (by decide) (by decide)) hl hl2 (by rw [r10]; exact h01) (l + 1) 0 M1 (by omega) (by rw [r10]; exact H1) (fun j q => absurd q (by omega)) FrS.rf
  rw [r10] at w
  refine ⟨M', ?_, F1.tr F'⟩
  have hd : nI (10 * (l + 1)) / 10 = nI (l + 1) := by
    rw [show (nI (10 * (l + 1)) / 10 : Int32) = nI (10 * (l + 1) / 10) from pk_div (a := 10 * (l + 1)) (d := 10) (by omega) (by decide) (by decide)]
    congr 1
    omega
  refine con_of (lv := [some (.ref 4), none, none, none, none]) (by decide) rfl (Nat.le_of_ble_eq_true rfl) (by simp [lvle]) ?_
  refine r_aload_n dX4_receive_0 rfl rfl ?_
  refine r_getI (N := 13) dX4_receive_1 fwX4_43 (by first | rfl | assumption) (Nat.le_of_ble_eq_true rfl) rfl ?_
  refine r_bipush 10 dX4_receive_4 (by decide) ?_
  refine r_idiv dX4_receive_6 (by decide) ?_
  rw [hb, hd]
  refine r_iconst 1 dX4_receive_7 (by decide) ?_
  refine r_isub dX4_receive_8 ?_
  rw [nI_m1]
  refine r_istore_n1 dX4_receive_9 rfl (Nat.le_of_ble_eq_true rfl) ?_
  refine r_iconst 0 dX4_receive_10 (by decide) ?_
  refine r_istore_n2 dX4_receive_11 rfl (Nat.le_of_ble_eq_true rfl) ?_
  refine r_aload_n dX4_receive_12 rfl rfl ?_
  refine r_getR (N := 13) dX4_receive_13 fwX4_22 (by first | rfl | assumption) (Nat.le_of_ble_eq_true rfl) rfl (by first | rfl | assumption) ?_
  refine gW0 (Y := mX0_clear) (ci := 0) (N := 2) dX4_receive_16 mlX4_107 vkX0_clear (by first | rfl | assumption) ⟨by decide, rfl⟩ rfl g1 ?_
  refine r_iconst 0 dX4_receive_19 (by decide) ?_
  refine r_istore_n3 dX4_receive_20 rfl (Nat.le_of_ble_eq_true rfl) ?_
  exact w
