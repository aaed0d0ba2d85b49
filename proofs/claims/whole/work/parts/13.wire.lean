def scL : List Nat := [177, 110, 75, 67, 22, 205, 100, 248, 54, 194, 16, 165, 42, 203, 74, 44]
def rsL : List Nat := [65535, 21665, 26510, 27387, 8051, 45686, 23069, 39716, 11128, 47958, 6882, 58128, 15093, 46986, 26235, 16362, 26860]
def sc (i : Nat) : Int32 := nI (scL.getD i 0)
def rS (i : Nat) : Int32 := nI (rsL.getD i 0)
/-- all but some cells, and some slots of others, stay -/
def FrS (cs : List Nat) (ss : List (Nat × Nat)) (M M' : Mem) : Prop := ∀ a k, a ∉ cs → (a, k) ∉ ss → M' a k = M a k
theorem Fr.S {ex : List Nat} {M M' : Mem} (h : Fr ex M M') : FrS ex [] M M' := fun a k q _ => by rw [h a q]
theorem FrS.rf {cs : List Nat} {ss : List (Nat × Nat)} {M : Mem} : FrS cs ss M M := fun _ _ _ _ => rfl
theorem FrS.mono {cs cs' : List Nat} {ss ss' : List (Nat × Nat)} {M M' : Mem} (h : FrS cs ss M M') (h1 : ∀ a ∈ cs, a ∈ cs') (h2 : ∀ q ∈ ss, q ∈ ss' ∨ q.1 ∈ cs') : FrS cs' ss' M M' := fun a k ha hk => h a k (fun q => ha (h1 a q)) (fun q => (h2 _ q).elim hk ha)
theorem FrS.tr {cs : List Nat} {ss : List (Nat × Nat)} {M M' M'' : Mem} (h1 : FrS cs ss M M') (h2 : FrS cs ss M' M'') : FrS cs ss M M'' := fun a k ha hk => (h2 a k ha hk).trans (h1 a k ha hk)
theorem FrS.upc {cs : List Nat} {ss : List (Nat × Nat)} {M M' : Mem} {a k : Nat} {x : Int32} (h : FrS cs ss M M') (ha : a ∈ cs) : FrS cs ss M (upd2 M' a k x) := fun b j hb hj => by
  have hne : b ≠ a := fun q => hb (by rw [q]; exact ha)
  rw [u_nn hne]
  exact h b j hb hj
theorem FrS.ups {cs : List Nat} {ss : List (Nat × Nat)} {M M' : Mem} {a k : Nat} {x : Int32} (h : FrS cs ss M M') (ha : (a, k) ∈ ss) : FrS cs ss M (upd2 M' a k x) := fun b j hb hj => by
  by_cases hba : b = a
  · subst hba
    have hne : j ≠ k := fun q => hj (by rw [q]; exact ha)
    rw [u_sn hne]
    exact h b j hb hj
  · rw [u_nn hba]
    exact h b j hb hj
theorem FrS.row {cs : List Nat} {ss : List (Nat × Nat)} {M M' : Mem} (h : FrS cs ss M M') {a : Nat} (ha : a ∉ cs) (hs : ∀ k, (a, k) ∉ ss) : M' a = M a := funext fun k => h a k ha (hs k)
theorem TabC.frS {M M' : Mem} {cs : List Nat} {ss : List (Nat × Nat)} (h : TabC M) (F : FrS cs ss M M') (h2 : 2 ∉ cs ∧ 3 ∉ cs) (h3 : ∀ q ∈ ss, q.1 ≠ 2 ∧ q.1 ≠ 3) : TabC M' := ⟨fun k q => by rw [F 2 k h2.1 (fun z => (h3 _ z).1 rfl)]; exact h.1 k q, fun k q => by rw [F 3 k h2.2 (fun z => (h3 _ z).2 rfl)]; exact h.2 k q⟩
theorem TabM.frS {M M' : Mem} {cs : List Nat} {ss : List (Nat × Nat)} (h : TabM M) (F : FrS cs ss M M') (h2 : 41 ∉ cs ∧ 42 ∉ cs ∧ 43 ∉ cs) (h3 : ∀ q ∈ ss, q.1 ≠ 41 ∧ q.1 ≠ 42 ∧ q.1 ≠ 43) : TabM M' := ⟨fun k q => by rw [F 41 k h2.1 (fun z => (h3 _ z).1 rfl)]; exact h.1 k q, fun k q => by rw [F 42 k h2.2.1 (fun z => (h3 _ z).2.1 rfl)]; exact h.2.1 k q, fun k q => by rw [F 43 k h2.2.2 (fun z => (h3 _ z).2.2 rfl)]; exact h.2.2 k q⟩
theorem upd2_upd2 (M : Mem) (a k : Nat) (x y : Int32) : upd2 (upd2 M a k x) a k y = upd2 M a k y := by
  funext b j
  by_cases hb : b = a
  · subst hb
    by_cases hj : j = k
    · subst hj; rw [u_ss, u_ss]
    · rw [u_sn hj, u_sn hj, u_sn hj]
  · rw [u_nn hb, u_nn hb, u_nn hb]
theorem upd2_id (M : Mem) (a k : Nat) : upd2 M a k (M a k) = M := by
  funext b j
  by_cases hb : b = a
  · subst hb
    by_cases hj : j = k
    · subst hj; rw [u_ss]
    · rw [u_sn hj]
  · rw [u_nn hb]
-- the scramble
def ssS (p : Int32 × Int32) : Int32 × Int32 := (2 * p.1 + (p.2 >>> ((15 : Int32) &&& 31)), if p.2 >>> ((15 : Int32) &&& 31) = 1 then ((p.2 <<< ((1 : Int32) &&& 31)) &&& 65535) ^^^ 40977 else (p.2 <<< ((1 : Int32) &&& 31)) &&& 65535)
def ssI : Nat → Int32 × Int32 → Int32 × Int32
  | 0, p => p
  | d + 1, p => ssI d (ssS p)
set_option maxRecDepth 100000 in
theorem sc_tab : ∀ i, i < 16 → ssI 8 (0, rS i) = (sc i, rS (i + 1)) ∧ okB (sc i) := by
  have h : ∀ i, i < 16 → ssI 8 (0, rS i) = (sc i, rS (i + 1)) ∧ sc i &&& 255 = sc i := by decide +kernel
  exact h
theorem rS_0 : rS 0 = 65535 := rfl
set_option maxHeartbeats 4000000 in
set_option maxRecDepth 100000 in
theorem m_ns_lp {M : Mem} : ∀ (d j : Nat) (b : Int32) (M : Mem), j + d = 8 → WP mX6_nextScramble 4 [some (.ref 40), some (.int b), some (.int (nI j)), none] [] 0 0 (shp, rfs, M) (fun r1 h1 => r1 = some (.int (ssI d (b, M 40 33)).1) ∧ h1 = (shp, rfs, upd2 M 40 33 (ssI d (b, M 40 33)).2)) := by
  intro d
  induction d with
  | zero =>
    intro j b M hj
    have hj : j = 8 := by omega
    subst hj
    refine r_iload_n dX6_nextScramble_4 rfl rfl ?_
    refine r_bipush 8 dX6_nextScramble_5 (by decide) ?_
    refine r_icmp_ge 66 dX6_nextScramble_7 (by decide) (fun c_7 => ?_) (fun c_7 => absurd (by decide) c_7)
    refine r_iload_n dX6_nextScramble_66 rfl rfl ?_
    refine r_ireturn dX6_nextScramble_67 rfl (Nat.zero_le _) (Nat.zero_le _) ?_
    exact ⟨rfl, by rw [show (ssI 0 (b, M 40 33)).2 = M 40 33 from rfl, upd2_id]⟩
  | succ d ih =>
    intro j b M hj
    refine r_iload_n dX6_nextScramble_4 rfl rfl ?_
    refine r_bipush 8 dX6_nextScramble_5 (by decide) ?_
    refine r_icmp_ge 66 dX6_nextScramble_7 (by decide) (fun c_7 => absurd c_7 (nI_ge (a := j) (b := 8) (by omega) (by decide))) (fun c_7 => ?_)
    refine r_aload_n dX6_nextScramble_10 rfl rfl ?_
    refine r_getI (N := 35) dX6_nextScramble_11 fwX6_109 (by first | rfl | assumption) (Nat.le_of_ble_eq_true rfl) rfl ?_
    refine r_bipush 15 dX6_nextScramble_14 (by decide) ?_
    refine r_ishr dX6_nextScramble_16 ?_
    refine r_istore_n3 dX6_nextScramble_17 rfl (Nat.le_of_ble_eq_true rfl) ?_
    refine r_iconst 2 dX6_nextScramble_18 (by decide) ?_
    refine r_iload_n dX6_nextScramble_19 rfl rfl ?_
    refine r_imul dX6_nextScramble_20 ?_
    refine r_iload_n dX6_nextScramble_21 rfl rfl ?_
    refine r_iadd dX6_nextScramble_22 ?_
    refine r_istore_n1 dX6_nextScramble_23 rfl (Nat.le_of_ble_eq_true rfl) ?_
    refine r_aload_n dX6_nextScramble_24 rfl rfl ?_
    refine r_aload_n dX6_nextScramble_25 rfl rfl ?_
    refine r_getI (N := 35) dX6_nextScramble_26 fwX6_109 (by first | rfl | assumption) (Nat.le_of_ble_eq_true rfl) rfl ?_
    refine r_iconst 1 dX6_nextScramble_29 (by decide) ?_
    refine r_ishl dX6_nextScramble_30 ?_
    refine r_ldc 65535 dX6_nextScramble_31 cnX6_112 ?_
    refine r_iand dX6_nextScramble_33 ?_
    refine r_putI (N := 35) dX6_nextScramble_34 fwX6_109 (by first | rfl | assumption) (Nat.le_of_ble_eq_true rfl) rfl (Or.inl rfl) rfl rfl ?_
    refine r_aload_n dX6_nextScramble_37 rfl rfl ?_
    refine r_iload_n dX6_nextScramble_38 rfl rfl ?_
    refine r_iconst 1 dX6_nextScramble_39 (by decide) ?_
    refine r_icmp_ne 53 dX6_nextScramble_40 (by decide) (fun c_40 => ?_) (fun c_40 => ?_)
    · refine r_aload_n dX6_nextScramble_53 rfl rfl ?_
      refine r_getI (N := 35) dX6_nextScramble_54 fwX6_109 (by first | rfl | assumption) (Nat.le_of_ble_eq_true rfl) rfl ?_
      refine r_putI (N := 35) dX6_nextScramble_57 fwX6_109 (by first | rfl | assumption) (Nat.le_of_ble_eq_true rfl) rfl (Or.inl rfl) rfl rfl ?_
      refine r_iinc_2 (_ + 1) dX6_nextScramble_60 rfl (Nat.le_of_ble_eq_true rfl) rfl ?_
      refine r_goto 4 dX6_nextScramble_63 (by decide) ?_
      rw [nI_1, u_ss, upd2_upd2]
      simp only [ssI, ssS]
      first | rw [if_neg c_40] | rw [if_pos c_40]
      have h9 := fun x y => ih (j + 1) x (upd2 M 40 33 y) (by omega)
      simp only [u_ss, upd2_upd2] at h9
      refine r_weak (lv' := [some (.ref 40), some (.int _), some (.int (nI (j + 1))), none]) ?_ (h9 _ _)
      simp [lvle]
    · refine r_aload_n dX6_nextScramble_43 rfl rfl ?_
      refine r_getI (N := 35) dX6_nextScramble_44 fwX6_109 (by first | rfl | assumption) (Nat.le_of_ble_eq_true rfl) rfl ?_
      refine r_ldc 40977 dX6_nextScramble_47 cnX6_113 ?_
      refine r_ixor dX6_nextScramble_49 ?_
      refine r_goto 57 dX6_nextScramble_50 (by decide) ?_
      refine r_putI (N := 35) dX6_nextScramble_57 fwX6_109 (by first | rfl | assumption) (Nat.le_of_ble_eq_true rfl) rfl (Or.inl rfl) rfl rfl ?_
      refine r_iinc_2 (_ + 1) dX6_nextScramble_60 rfl (Nat.le_of_ble_eq_true rfl) rfl ?_
      refine r_goto 4 dX6_nextScramble_63 (by decide) ?_
      rw [nI_1, u_ss, upd2_upd2]
      simp only [ssI, ssS]
      first | rw [if_neg c_40] | rw [if_pos c_40]
      have h9 := fun x y => ih (j + 1) x (upd2 M 40 33 y) (by omega)
      simp only [u_ss, upd2_upd2] at h9
      refine r_weak (lv' := [some (.ref 40), some (.int _), some (.int (nI (j + 1))), none]) ?_ (h9 _ _)
      simp [lvle]
set_option maxHeartbeats 4000000 in
set_option maxRecDepth 100000 in
theorem m_nextScramble {M : Mem} {i : Nat} (hi : i < 16) (hr : M 40 33 = rS i) : Gv mX6_nextScramble [.ref 40] M (some (.int (sc i))) (upd2 M 40 33 (rS (i + 1))) := by
  have h := m_ns_lp (M := M) 8 0 0 M rfl
  rw [hr, (sc_tab i hi).1] at h
  refine con_of (lv := [some (.ref 40), none, none, none]) (by decide) rfl (Nat.le_of_ble_eq_true rfl) (by simp [lvle]) ?_
  refine r_iconst 0 dX6_nextScramble_0 (by decide) ?_
  refine r_istore_n1 dX6_nextScramble_1 rfl (Nat.le_of_ble_eq_true rfl) ?_
  refine r_iconst 0 dX6_nextScramble_2 (by decide) ?_
  refine r_istore_n2 dX6_nextScramble_3 rfl (Nat.le_of_ble_eq_true rfl) ?_
  exact h
-- the wire
def exF (V : Nat → Nat) : Nat → Bool
  | 0 => false
  | w + 1 => Bool.xor (exF V w) (decide (252 ≤ V w))
def wwF (V : Nat → Nat) (w : Nat) : Int32 := wd (V w) (exF V w)
def btF (V : Nat → Nat) (j : Nat) : Int32 := us (wwF V (j / 10)) (nI (9 - j % 10)) &&& 1
def WC (M : Mem) (u : Nat) (V : Nat → Nat) : Prop := M 4 5 = nI u ∧ ∀ j, j < u → M 10 j = btF V j
def WM (M : Mem) (u : Nat) (V : Nat → Nat) : Prop := M 40 12 = nI u ∧ ∀ j, j < u → M 48 j = btF V j
set_option maxHeartbeats 4000000 in
set_option maxRecDepth 100000 in
theorem x_putBits_lp {V : Nat → Nat} {m : Nat} {M0 : Mem} (hm : 10 * m + 10 ≤ 180) : ∀ (d : Nat) (M : Mem), d ≤ 10 → WC M (10 * m + (10 - d)) V → FrS [10] [(4, 5)] M0 M → ∃ M', WP mX4_putBits 3 [some (.ref 4), some (.int (wwF V m)), some (.int (nI d + (-1)))] [] 0 0 (shp, rfs, M) (fun r1 h1 => r1 = none ∧ h1 = (shp, rfs, M')) ∧ WC M' (10 * m + 10) V ∧ FrS [10] [(4, 5)] M0 M' := by
  intro d
  induction d with
  | zero =>
    intro M _ H F
    refine ⟨M, ?_, H, F⟩
    refine r_iload_n dX4_putBits_3 rfl rfl ?_
    refine r_if_lt 49 dX4_putBits_4 (by decide) (fun c_4 => ?_) (fun c_4 => absurd m1_lt c_4)
    refine r_return dX4_putBits_49 rfl (Nat.zero_le _) (Nat.zero_le _) ?_
    exact ⟨rfl, rfl⟩
  | succ d ih =>
    intro M hd H F
    rw [m1_nI]
    have hlen := H.1
    have hcl : (M 4 5).toNatClampNeg = 10 * m + (10 - (d + 1)) := by rw [hlen]; exact nI_clamp (by omega)
    have H2 : WC (upd2 (upd2 M 10 (10 * m + (10 - (d + 1))) (us (wwF V m) (nI d) &&& 1)) 4 5 (nI (10 * m + (10 - (d + 1))) + 1)) (10 * m + (10 - d)) V := by
      refine ⟨?_, fun j hj => ?_⟩
      · rw [u_ss, nI_1]
        congr 1
        omega
      · rw [u_nn (by decide)]
        by_cases h : j = 10 * m + (10 - (d + 1))
        · subst h
          rw [u_ss]
          unfold btF
          rw [show (10 * m + (10 - (d + 1))) / 10 = m by omega, show 9 - (10 * m + (10 - (d + 1))) % 10 = d by omega]
        · rw [u_sn h]
          exact H.2 j (by omega)
    obtain ⟨M', w, H', F'⟩ := ih _ (by omega) H2 ((F.upc (by decide)).ups (by decide))
    refine ⟨M', ?_, H', F'⟩
    refine r_iload_n dX4_putBits_3 rfl rfl ?_
    refine r_if_lt 49 dX4_putBits_4 (by decide) (fun c_4 => absurd c_4 (nI_nneg (by omega))) (fun c_4 => ?_)
    refine r_aload_n dX4_putBits_7 rfl rfl ?_
    refine r_getI (N := 13) dX4_putBits_8 fwX4_43 (by first | rfl | assumption) (Nat.le_of_ble_eq_true rfl) rfl ?_
    refine r_aload_n dX4_putBits_11 rfl rfl ?_
    refine r_getR (N := 13) dX4_putBits_12 fwX4_25 (by first | rfl | assumption) (Nat.le_of_ble_eq_true rfl) rfl (by first | rfl | assumption) ?_
    refine r_alen dX4_putBits_15 (by first | rfl | assumption) (by first | exact Or.inl rfl | exact Or.inr rfl) ?_
    refine r_icmp_ge 43 dX4_putBits_16 (by decide) (fun c_16 => absurd c_16 (by rw [hlen]; exact nI_ge (by omega) (by decide))) (fun c_16 => ?_)
    refine r_aload_n dX4_putBits_19 rfl rfl ?_
    refine r_getR (N := 13) dX4_putBits_20 fwX4_25 (by first | rfl | assumption) (Nat.le_of_ble_eq_true rfl) rfl (by first | rfl | assumption) ?_
    refine r_aload_n dX4_putBits_23 rfl rfl ?_
    refine r_getI (N := 13) dX4_putBits_24 fwX4_43 (by first | rfl | assumption) (Nat.le_of_ble_eq_true rfl) rfl ?_
    refine r_iload_n dX4_putBits_27 rfl rfl ?_
    refine r_iload_n dX4_putBits_28 rfl rfl ?_
    refine r_iushr dX4_putBits_29 ?_
    refine r_iconst 1 dX4_putBits_30 (by decide) ?_
    refine r_iand dX4_putBits_31 ?_
    refine r_iastore dX4_putBits_32 (by first | rfl | assumption) (by rw [hlen]; exact vp_in_nI (by omega) (by decide)) ?_
    refine r_aload_n dX4_putBits_33 rfl rfl ?_
    first | refine r_dupR dX4_putBits_34 ?_ | refine r_dupI dX4_putBits_34 ?_
    refine r_getI (N := 13) dX4_putBits_35 fwX4_43 (by first | rfl | assumption) (Nat.le_of_ble_eq_true rfl) rfl ?_
    refine r_iconst 1 dX4_putBits_38 (by decide) ?_
    refine r_iadd dX4_putBits_39 ?_
    refine r_putI (N := 13) dX4_putBits_40 fwX4_43 (by first | rfl | assumption) (Nat.le_of_ble_eq_true rfl) rfl (Or.inl rfl) rfl rfl ?_
    refine r_iinc_2 (_ + (-1)) dX4_putBits_43 rfl (Nat.le_of_ble_eq_true rfl) rfl ?_
    refine r_goto 3 dX4_putBits_46 (by decide) ?_
    rw [hcl, u_nn (by decide), hlen]
    exact w
set_option maxHeartbeats 4000000 in
set_option maxRecDepth 100000 in
theorem x_putBits {V : Nat → Nat} {m : Nat} {M : Mem} (hm : 10 * m + 10 ≤ 180) (H : WC M (10 * m) V) : ∃ M', Gv mX4_putBits [.ref 4, .int (wwF V m)] M none M' ∧ WC M' (10 * (m + 1)) V ∧ FrS [10] [(4, 5)] M M' := by
  obtain ⟨M', w, H', F'⟩ := x_putBits_lp hm 10 M (Nat.le_refl _) H FrS.rf
  refine ⟨M', ?_, H', F'⟩
  refine con_of (lv := [some (.ref 4), some (.int (wwF V m)), none]) (by decide) rfl (Nat.le_of_ble_eq_true rfl) (by simp [lvle]) ?_
  refine r_bipush 9 dX4_putBits_0 (by decide) ?_
  refine r_istore_n2 dX4_putBits_2 rfl (Nat.le_of_ble_eq_true rfl) ?_
  exact w
set_option maxHeartbeats 4000000 in
set_option maxRecDepth 100000 in
theorem m_wireWord_lp {V : Nat → Nat} {m : Nat} {M0 : Mem} {x : Int32} (hm : 10 * m + 10 ≤ 180) : ∀ (d : Nat) (M : Mem), d ≤ 10 → WM M (10 * m + (10 - d)) V → FrS [48] [(40, 12)] M0 M → ∃ M', WP mX6_wireWord 36 [some (.ref 40), some (.int x), some (.int (wwF V m)), some (.int (nI d + (-1)))] [] 0 0 (shp, rfs, M) (fun r1 h1 => r1 = none ∧ h1 = (shp, rfs, M')) ∧ WM M' (10 * m + 10) V ∧ FrS [48] [(40, 12)] M0 M' := by
  intro d
  induction d with
  | zero =>
    intro M _ H F
    refine ⟨M, ?_, H, F⟩
    refine r_iload_n dX6_wireWord_36 rfl rfl ?_
    refine r_if_lt 70 dX6_wireWord_37 (by decide) (fun c_37 => ?_) (fun c_37 => absurd m1_lt c_37)
    refine r_return dX6_wireWord_70 rfl (Nat.zero_le _) (Nat.zero_le _) ?_
    exact ⟨rfl, rfl⟩
  | succ d ih =>
    intro M hd H F
    rw [m1_nI]
    have hlen := H.1
    have hcl : (M 40 12).toNatClampNeg = 10 * m + (10 - (d + 1)) := by rw [hlen]; exact nI_clamp (by omega)
    have H2 : WM (upd2 (upd2 M 48 (10 * m + (10 - (d + 1))) (us (wwF V m) (nI d) &&& 1)) 40 12 (nI (10 * m + (10 - (d + 1))) + 1)) (10 * m + (10 - d)) V := by
      refine ⟨?_, fun j hj => ?_⟩
      · rw [u_ss, nI_1]
        congr 1
        omega
      · rw [u_nn (by decide)]
        by_cases h : j = 10 * m + (10 - (d + 1))
        · subst h
          rw [u_ss]
          unfold btF
          rw [show (10 * m + (10 - (d + 1))) / 10 = m by omega, show 9 - (10 * m + (10 - (d + 1))) % 10 = d by omega]
        · rw [u_sn h]
          exact H.2 j (by omega)
    obtain ⟨M', w, H', F'⟩ := ih _ (by omega) H2 ((F.upc (by decide)).ups (by decide))
    refine ⟨M', ?_, H', F'⟩
    refine r_iload_n dX6_wireWord_36 rfl rfl ?_
    refine r_if_lt 70 dX6_wireWord_37 (by decide) (fun c_37 => absurd c_37 (nI_nneg (by omega))) (fun c_37 => ?_)
    refine r_aload_n dX6_wireWord_40 rfl rfl ?_
    refine r_getR (N := 35) dX6_wireWord_41 fwX6_31 (by first | rfl | assumption) (Nat.le_of_ble_eq_true rfl) rfl (by first | rfl | assumption) ?_
    refine r_aload_n dX6_wireWord_44 rfl rfl ?_
    refine r_getI (N := 35) dX6_wireWord_45 fwX6_118 (by first | rfl | assumption) (Nat.le_of_ble_eq_true rfl) rfl ?_
    refine r_iload_n dX6_wireWord_48 rfl rfl ?_
    refine r_iload_n dX6_wireWord_49 rfl rfl ?_
    refine r_ishr dX6_wireWord_50 ?_
    refine r_iconst 1 dX6_wireWord_51 (by decide) ?_
    refine r_iand dX6_wireWord_52 ?_
    refine r_iastore dX6_wireWord_53 (by first | rfl | assumption) (by rw [hlen]; exact vp_in_nI (by omega) (by decide)) ?_
    refine r_aload_n dX6_wireWord_54 rfl rfl ?_
    first | refine r_dupR dX6_wireWord_55 ?_ | refine r_dupI dX6_wireWord_55 ?_
    refine r_getI (N := 35) dX6_wireWord_56 fwX6_118 (by first | rfl | assumption) (Nat.le_of_ble_eq_true rfl) rfl ?_
    refine r_iconst 1 dX6_wireWord_59 (by decide) ?_
    refine r_iadd dX6_wireWord_60 ?_
    refine r_putI (N := 35) dX6_wireWord_61 fwX6_118 (by first | rfl | assumption) (Nat.le_of_ble_eq_true rfl) rfl (Or.inl rfl) rfl rfl ?_
    refine r_iinc_3 (_ + (-1)) dX6_wireWord_64 rfl (Nat.le_of_ble_eq_true rfl) rfl ?_
    refine r_goto 36 dX6_wireWord_67 (by decide) ?_
    rw [hcl, u_nn (by decide), hlen, sh_and1 _ (by omega)]
    exact w
theorem eI_inj {a b : Bool} : eI a = eI b ↔ a = b := by cases a <;> cases b <;> decide
set_option maxHeartbeats 4000000 in
set_option maxRecDepth 100000 in
theorem m_wireWord {V : Nat → Nat} {m : Nat} {M : Mem} (T : TabM M) (hm : 10 * m + 10 ≤ 180) (H : WM M (10 * m) V) (he : M 40 34 = eI (exF V m)) (hv : V m < 264) : ∃ M', Gv mX6_wireWord [.ref 40, .int (nI (V m))] M none M' ∧ WM M' (10 * (m + 1)) V ∧ M' 40 34 = eI (exF V (m + 1)) ∧ FrS [48] [(40, 12), (40, 34)] M M' := by
  have hw := m_wordOf T hv (e := exF V m)
  rw [← he] at hw
  have H2 : WM (upd2 M 40 34 (eI (exF V (m + 1)))) (10 * m) V := ⟨by rw [u_sn (by decide)]; exact H.1, fun j hj => by rw [u_nn (by decide)]; exact H.2 j hj⟩
  obtain ⟨M', w, H', F'⟩ := m_wireWord_lp (x := nI (V m)) hm 10 _ (Nat.le_refl _) H2 FrS.rf
  have F2 : FrS [48] [(40, 12), (40, 34)] M M' := ((FrS.rf.ups (M := M) (k := 34) (a := 40) (x := eI (exF V (m + 1))) (ss := [(40, 12), (40, 34)]) (cs := [48]) (by decide))).tr (F'.mono (by decide) (by decide))
  refine ⟨M', ?_, H', by rw [F' 40 34 (by decide) (by decide), u_ss], F2⟩
  refine con_of (lv := [some (.ref 40), some (.int (nI (V m))), none, none]) (by decide) rfl (Nat.le_of_ble_eq_true rfl) (by simp [lvle]) ?_
  by_cases h : 252 ≤ V m
  · have hx : exF V (m + 1) = !exF V m := by
      show Bool.xor _ _ = _
      rw [decide_eq_true h]
      cases exF V m <;> rfl
    rw [hx] at w
    refine r_aload_n dX6_wireWord_0 rfl rfl ?_
    refine r_iload_n dX6_wireWord_1 rfl rfl ?_
    refine r_aload_n dX6_wireWord_2 rfl rfl ?_
    refine r_getI (N := 35) dX6_wireWord_3 fwX6_114 (by first | rfl | assumption) (Nat.le_of_ble_eq_true rfl) rfl ?_
    refine gV2 (Y := mX6_wordOf) (ci := 6) (N := 35) dX6_wireWord_6 mlX6_85 vkX6_wordOf (by first | rfl | assumption) ⟨by decide, rfl⟩ rfl hw ?_
    refine r_istore_n2 dX6_wireWord_9 rfl (Nat.le_of_ble_eq_true rfl) ?_
    refine r_iload_n dX6_wireWord_10 rfl rfl ?_
    refine gS1 (Y := mX6_isEven) dX6_wireWord_11 mlX6_77 ckX6_isEven skX6_isEven rfl (m_isEven_f (nI_le (a := 252) (b := V m) h (by omega))) ?_
    refine r_if_ne 33 dX6_wireWord_14 (by decide) (fun c_14 => absurd rfl c_14) (fun c_14 => ?_)
    refine r_aload_n dX6_wireWord_17 rfl rfl ?_
    refine r_aload_n dX6_wireWord_18 rfl rfl ?_
    refine r_getI (N := 35) dX6_wireWord_19 fwX6_114 (by first | rfl | assumption) (Nat.le_of_ble_eq_true rfl) rfl ?_
    refine r_if_ne 29 dX6_wireWord_22 (by decide) (fun c_22 => ?_) (fun c_22 => ?_)
    · refine r_iconst 0 dX6_wireWord_29 (by decide) ?_
      refine r_putI (N := 35) dX6_wireWord_30 fwX6_114 (by first | rfl | assumption) (Nat.le_of_ble_eq_true rfl) rfl (Or.inl rfl) (by decide) (by decide) ?_
      refine r_bipush 9 dX6_wireWord_33 (by decide) ?_
      refine r_istore_n3 dX6_wireWord_35 rfl (Nat.le_of_ble_eq_true rfl) ?_
      rw [he] at c_22
      first | (have h5 : exF V m = true := (by cases hq : exF V m with | true => rfl | false => exact absurd (by rw [hq]; rfl) c_22); rw [h5] at w; exact w) | (have h5 : exF V m = false := (by cases hq : exF V m with | false => rfl | true => rw [hq] at c_22; exact absurd c_22 (by decide)); rw [h5] at w; exact w)
    · refine r_iconst 1 dX6_wireWord_25 (by decide) ?_
      refine r_goto 30 dX6_wireWord_26 (by decide) ?_
      refine r_putI (N := 35) dX6_wireWord_30 fwX6_114 (by first | rfl | assumption) (Nat.le_of_ble_eq_true rfl) rfl (Or.inl rfl) (by decide) (by decide) ?_
      refine r_bipush 9 dX6_wireWord_33 (by decide) ?_
      refine r_istore_n3 dX6_wireWord_35 rfl (Nat.le_of_ble_eq_true rfl) ?_
      rw [he] at c_22
      first | (have h5 : exF V m = true := (by cases hq : exF V m with | true => rfl | false => exact absurd (by rw [hq]; rfl) c_22); rw [h5] at w; exact w) | (have h5 : exF V m = false := (by cases hq : exF V m with | false => rfl | true => rw [hq] at c_22; exact absurd c_22 (by decide)); rw [h5] at w; exact w)
  · have hx : exF V (m + 1) = exF V m := by
      show Bool.xor _ _ = _
      rw [decide_eq_false h]
      cases exF V m <;> rfl
    rw [hx, ← he, upd2_id] at w
    refine r_aload_n dX6_wireWord_0 rfl rfl ?_
    refine r_iload_n dX6_wireWord_1 rfl rfl ?_
    refine r_aload_n dX6_wireWord_2 rfl rfl ?_
    refine r_getI (N := 35) dX6_wireWord_3 fwX6_114 (by first | rfl | assumption) (Nat.le_of_ble_eq_true rfl) rfl ?_
    refine gV2 (Y := mX6_wordOf) (ci := 6) (N := 35) dX6_wireWord_6 mlX6_85 vkX6_wordOf (by first | rfl | assumption) ⟨by decide, rfl⟩ rfl hw ?_
    refine r_istore_n2 dX6_wireWord_9 rfl (Nat.le_of_ble_eq_true rfl) ?_
    refine r_iload_n dX6_wireWord_10 rfl rfl ?_
    refine gS1 (Y := mX6_isEven) dX6_wireWord_11 mlX6_77 ckX6_isEven skX6_isEven rfl (m_isEven_t (nI_ge (a := V m) (b := 252) (by omega) (by decide))) ?_
    refine r_if_ne 33 dX6_wireWord_14 (by decide) (fun c_14 => ?_) (fun c_14 => absurd c_14 (by decide))
    refine r_bipush 9 dX6_wireWord_33 (by decide) ?_
    refine r_istore_n3 dX6_wireWord_35 rfl (Nat.le_of_ble_eq_true rfl) ?_
    exact w
