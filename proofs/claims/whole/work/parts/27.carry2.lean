theorem if_t {α : Type} {b : Bool} {x y : α} (h : b = true) : (if b = true then x else y) = x := if_pos h
theorem if_f {α : Type} {b : Bool} {x y : α} (h : b = false) : (if b = true then x else y) = y := if_neg (by rw [h]; decide)
theorem lpC_f {P : PL} {kd tg fi e k : Nat} {v q : LSt} {d : DSt} {f : Nat → Int32} {x : Int32} (hx : (if kd = 0 then rds d (fi + k) else f k) = x) (h : dl P (pNum tg x) 6 4 v = (q, false)) : lpC P kd tg fi (e + 1) k v d f = (q, d, f, false) := by
  simp only [lpC]
  rw [hx, h, if_neg (show ¬ (q, false).2 = true from Bool.false_ne_true)]
theorem lpC_t {P : PL} {kd tg fi e k : Nat} {v q : LSt} {d d' : DSt} {f f' : Nat → Int32} {x : Int32} (hx : (if kd = 0 then rds d (fi + k) else f k) = x) (h : dl P (pNum tg x) 6 4 v = (q, true)) (hd : (if kd = 0 then d else if kd = 1 then wrt d (fi + k) (f k) else thr d (fi + k) (f k)) = d') (hf : (if kd = 0 then upd f k (rds d (fi + k)) else f) = f') : lpC P kd tg fi (e + 1) k v d f = lpC P kd tg fi e (k + 1) q d' f' := by
  simp only [lpC]
  rw [hx, h, if_pos rfl, hd, hf]
theorem cmd2_f (P : PL) (kd tg : Nat) (v : LSt) (d : DSt) (f : Nat → Int32) : cmd2 P kd tg (v, d, f, false) = (v, d, f, 1) := rfl
set_option maxHeartbeats 600000 in
set_option maxRecDepth 100000 in
theorem x_co_send {M : Mem} {v : LSt} {d : DSt} {P : PL} {t kd fi mn : Nat} {x mI iI : Int32} (ht : t < 8) (h : CS M v d P) (okp : okP P) (hc : CF M t kd fi mn) (hfr : v.1 + 4 < 2 ^ 31) : ∃ M', (∀ Q, WP mX5_carryOut 117 [some (.ref 0), some (.ref (24 + 2 * t)), some (.int 0), some (.int mI), some (.int iI), some (.int x)] [.int (eI (dl P (pNum t x) 6 4 v).2)] 0 0 (shp, rfs, M') Q → WP mX5_carryOut 93 [some (.ref 0), some (.ref (24 + 2 * t)), some (.int 0), some (.int mI), some (.int iI), some (.int x)] [] 0 0 (shp, rfs, M) Q) ∧ CS M' (dl P (pNum t x) 6 4 v).1 d P ∧ FrS (fxC t) fxS M M' ∧ ∀ j, M' (25 + 2 * t) j = M (25 + 2 * t) j := by
  obtain ⟨hc1, hc2, hc3⟩ := isCm_t t ht
  obtain ⟨M2, g2, H2, F2⟩ := x_setNumber (M := M) (tg := t) (x := x) (by omega)
  obtain ⟨M3, g3, h3, F3⟩ := x_send (h.fr20 F2.S) okp H2 (pNum_ok (by omega)) hfr
  refine ⟨M3, fun Q hq => ?_, h3, (F2.S.mono (by unfold fxC; simp) (by simp)).tr (F3.mono (by unfold fxC; simp) (by unfold fxS; simp)), fun j => by rw [F3 _ j (by simp <;> omega) (by simp <;> omega), F2.S _ j (by simp <;> omega) (by simp)]⟩
  refine r_aload_n dX5_carryOut_93 rfl rfl ?_
  refine r_getR (N := 10) dX5_carryOut_94 fwX5_39 (by first | exact hc1 | exact hc2 | exact hc3 | rfl | exact hB1 | exact hB2 | exact hB3) (Nat.le_of_ble_eq_true rfl) rfl (by first | exact hc1 | exact hc2 | exact hc3 | rfl | exact hB1 | exact hB2 | exact hB3) ?_
  refine r_aload_n dX5_carryOut_97 rfl rfl ?_
  refine r_getI (N := 8) dX5_carryOut_98 fwX5_127 (by first | exact hc1 | exact hc2 | exact hc3 | rfl | exact hB1 | exact hB2 | exact hB3) (Nat.le_of_ble_eq_true rfl) rfl ?_
  rw [hc.1]
  refine r_iload dX5_carryOut_101 rfl ?_
  refine gW2 (Y := mX0_setNumber) (ci := 0) (N := 2) dX5_carryOut_103 mlX5_212 vkX0_setNumber (by first | exact hc1 | exact hc2 | exact hc3 | rfl | exact hB1 | exact hB2 | exact hB3) ⟨by decide, rfl⟩ rfl g2 ?_
  refine r_aload_n dX5_carryOut_106 rfl rfl ?_
  refine r_getR (N := 10) dX5_carryOut_107 fwX5_21 (by first | exact hc1 | exact hc2 | exact hc3 | rfl | exact hB1 | exact hB2 | exact hB3) (Nat.le_of_ble_eq_true rfl) rfl (by first | exact hc1 | exact hc2 | exact hc3 | rfl | exact hB1 | exact hB2 | exact hB3) ?_
  refine r_aload_n dX5_carryOut_110 rfl rfl ?_
  refine r_getR (N := 10) dX5_carryOut_111 fwX5_39 (by first | exact hc1 | exact hc2 | exact hc3 | rfl | exact hB1 | exact hB2 | exact hB3) (Nat.le_of_ble_eq_true rfl) rfl (by first | exact hc1 | exact hc2 | exact hc3 | rfl | exact hB1 | exact hB2 | exact hB3) ?_
  refine gV1 (Y := mX4_deliver) (ci := 4) (N := 13) dX5_carryOut_114 mlX5_202 vkX4_deliver (by first | exact hc1 | exact hc2 | exact hc3 | rfl | exact hB1 | exact hB2 | exact hB3) ⟨by decide, rfl⟩ rfl g3 ?_
  exact hq
set_option maxHeartbeats 600000 in
set_option maxRecDepth 100000 in
theorem x_co_lp {M0 : Mem} {P : PL} {t kd fi mn : Nat} (ht : t < 8) (hkd : kd ≤ 3) (hmn : mn ≤ 4) (hk3 : kd = 3 → mn = 0) (hlast : lastN kd fi mn ≤ 31) (okp : okP P) (hc0 : CF M0 t kd fi mn) : ∀ (e k : Nat) (M : Mem) (v : LSt) (d : DSt) (f : Nat → Int32), k + e = mn → CS M v d P → okD d → (kd ≠ 0 → kd ≠ 3 → ∀ j, j < 4 → M (25 + 2 * t) j = f j) → (kd = 0 → ∀ j, j < k → M (25 + 2 * t) j = f j) → v.1 + 4 * e + 4 < 2 ^ 31 → FrS (fxC t) fxS M0 M → ∃ M', WP mX5_carryOut 55 [some (.ref 0), some (.ref (24 + 2 * t)), some (.int 0), some (.int (nI mn)), some (.int (nI k)), none] [] 0 0 (shp, rfs, M) (fun r1 h1 => r1 = some (.int (nI (cmd2 P kd t (lpC P kd t fi e k v d f)).2.2.2)) ∧ h1 = (shp, rfs, M')) ∧ CS M' (cmd2 P kd t (lpC P kd t fi e k v d f)).1 (cmd2 P kd t (lpC P kd t fi e k v d f)).2.1 P ∧ okD (cmd2 P kd t (lpC P kd t fi e k v d f)).2.1 ∧ (kd = 0 → (cmd2 P kd t (lpC P kd t fi e k v d f)).2.2.2 = 0 → ∀ j, j < mn → M' (25 + 2 * t) j = (cmd2 P kd t (lpC P kd t fi e k v d f)).2.2.1 j) ∧ FrS (fxC t) fxS M0 M' := by
  obtain ⟨hc1, hc2, hc3⟩ := isCm_t t ht
  intro e
  induction e with
  | zero =>
    intro k M v d f hk h ok hf1 hf2 hfr F
    have hk : k = mn := by omega
    obtain ⟨M', w, h', F', hn⟩ := x_co_end (a := none) (b := none) ht hkd h okp ok (hc0.frS F nx_c nx_s) (by omega)
    have hr : cmd2 P kd t (lpC P kd t fi 0 k v d f) = ((dl P (pAns t 0) 3 4 v).1, (if kd = 3 then layD d else d), f, if (dl P (pAns t 0) 3 4 v).2 = true then 0 else 1) := by
      unfold cmd2 lpC
      rw [if_pos rfl]
    rw [hr]
    dsimp only
    refine ⟨M', ?_, h', ?_, fun z _ j hj => by rw [hn]; exact hf2 z j (by omega), F.tr F'⟩
    · refine r_iload dX5_carryOut_55 rfl ?_
      refine r_iload_n dX5_carryOut_57 rfl rfl ?_
      refine r_icmp_ge 137 dX5_carryOut_58 (by decide) (fun c_58 => ?_) (fun c_58 => absurd (nI_le (by omega) (by omega)) c_58)
      exact r_weak (by simp [lvle] <;> (repeat' apply And.intro) <;> first | rfl | decide) w
    · split
      · exact lay_ok
      · exact ok
  | succ e ih =>
    intro k M v d f hk h ok hf1 hf2 hfr F
    have hc := hc0.frS F nx_c nx_s
    have hcl : (nI k).toNatClampNeg = k := nI_clamp (by omega)
    have hkd3 : kd ≠ 3 := fun q => by have := hk3 q; omega
    have hs : fi + k < 32 := by
      unfold lastN at hlast
      rw [if_neg hkd3] at hlast
      omega
    have fin : ∀ (x : Int32), (if kd = 0 then rds d (fi + k) else f k) = x → (∀ Q, WP mX5_carryOut 93 [some (.ref 0), some (.ref (24 + 2 * t)), some (.int 0), some (.int (nI mn)), some (.int (nI k)), some (.int x)] [] 0 0 (shp, rfs, M) Q → WP mX5_carryOut 55 [some (.ref 0), some (.ref (24 + 2 * t)), some (.int 0), some (.int (nI mn)), some (.int (nI k)), none] [] 0 0 (shp, rfs, M) Q) := by
      intro x hx Q hq
      by_cases h0 : kd = 0
      · rw [if_pos h0] at hx
        have g := x_asRead h.2.2.2.1 ok hs
        rw [hx] at g
        refine r_iload dX5_carryOut_55 rfl ?_
        refine r_iload_n dX5_carryOut_57 rfl rfl ?_
        refine r_icmp_ge 137 dX5_carryOut_58 (by decide) (fun c_58 => absurd c_58 (nI_ge (by omega) (by omega))) (fun c_58 => ?_)
        refine r_aload_n dX5_carryOut_61 rfl rfl ?_
        refine r_getI (N := 8) dX5_carryOut_62 fwX5_136 (by first | exact hc1 | exact hc2 | exact hc3 | rfl | exact hB1 | exact hB2 | exact hB3) (Nat.le_of_ble_eq_true rfl) rfl ?_
        rw [hc.2.1, h0]
        refine r_if_ne 85 dX5_carryOut_65 (by decide) (fun c_65 => absurd rfl c_65) (fun c_65 => ?_)
        refine r_aload_n dX5_carryOut_68 rfl rfl ?_
        refine r_getR (N := 10) dX5_carryOut_69 fwX5_28 (by first | exact hc1 | exact hc2 | exact hc3 | rfl | exact hB1 | exact hB2 | exact hB3) (Nat.le_of_ble_eq_true rfl) rfl (by first | exact hc1 | exact hc2 | exact hc3 | rfl | exact hB1 | exact hB2 | exact hB3) ?_
        refine r_aload_n dX5_carryOut_72 rfl rfl ?_
        refine r_getI (N := 8) dX5_carryOut_73 fwX5_195 (by first | exact hc1 | exact hc2 | exact hc3 | rfl | exact hB1 | exact hB2 | exact hB3) (Nat.le_of_ble_eq_true rfl) rfl ?_
        refine r_iload dX5_carryOut_76 rfl ?_
        refine r_iadd dX5_carryOut_78 ?_
        rw [hc.2.2.1, nI_add]
        refine gV1 (Y := mX3_numberAsRead) (ci := 3) (N := 4) dX5_carryOut_79 mlX5_149 vkX3_numberAsRead (by first | exact hc1 | exact hc2 | exact hc3 | rfl | exact hB1 | exact hB2 | exact hB3) ⟨by decide, rfl⟩ rfl g ?_
        refine r_goto 91 dX5_carryOut_82 (by decide) ?_
        refine r_istore_5 dX5_carryOut_91 rfl (Nat.le_of_ble_eq_true rfl) ?_
        exact hq
      · rw [if_neg h0] at hx
        have g := x_numAt (M := M) (isCm_t t ht) (j := k) (by omega)
        rw [hf1 h0 hkd3 k (by omega), hx] at g
        refine r_iload dX5_carryOut_55 rfl ?_
        refine r_iload_n dX5_carryOut_57 rfl rfl ?_
        refine r_icmp_ge 137 dX5_carryOut_58 (by decide) (fun c_58 => absurd c_58 (nI_ge (by omega) (by omega))) (fun c_58 => ?_)
        refine r_aload_n dX5_carryOut_61 rfl rfl ?_
        refine r_getI (N := 8) dX5_carryOut_62 fwX5_136 (by first | exact hc1 | exact hc2 | exact hc3 | rfl | exact hB1 | exact hB2 | exact hB3) (Nat.le_of_ble_eq_true rfl) rfl ?_
        rw [hc.2.1]
        refine r_if_ne 85 dX5_carryOut_65 (by decide) (fun c_65 => ?_) (fun c_65 => absurd c_65 (nI_ne0 (by omega) (by omega)))
        refine r_aload_n dX5_carryOut_85 rfl rfl ?_
        refine r_iload dX5_carryOut_86 rfl ?_
        refine gV1 (Y := mX2_numberAt) (ci := 2) (N := 8) dX5_carryOut_88 mlX5_209 vkX2_numberAt (by first | exact hc1 | exact hc2 | exact hc3 | rfl | exact hB1 | exact hB2 | exact hB3) ⟨by decide, rfl⟩ rfl g ?_
        refine r_istore_5 dX5_carryOut_91 rfl (Nat.le_of_ble_eq_true rfl) ?_
        exact hq
    generalize hx : (if kd = 0 then rds d (fi + k) else f k) = x at fin
    have fin := fin x rfl
    obtain ⟨M1, w1, h1, F1, n1⟩ := x_co_send (mI := nI mn) (iI := nI k) (x := x) ht h okp hc (by omega)
    have hfr1 := dl_fr P (pNum t x) 6 4 v
    have hcM1 := hc.frS F1 nx_c nx_s
    generalize hq : dl P (pNum t x) 6 4 v = qq at w1 h1 hfr1
    obtain ⟨q1, qb⟩ := qq
    dsimp only at w1 h1 hfr1
    cases qb with
    | false =>
      have hr : cmd2 P kd t (lpC P kd t fi (e + 1) k v d f) = (q1, d, f, 1) := by
        rw [lpC_f hx hq, cmd2_f]
      rw [hr]
      dsimp only
      refine ⟨M1, fin _ (w1 _ ?_), h1, ok, fun _ z => absurd z (by decide), F.tr F1⟩
      clear hq hr fin w1
      refine r_if_ne 122 dX5_carryOut_117 (by decide) (fun c_117 => absurd rfl c_117) (fun c_117 => ?_)
      refine r_iconst 1 dX5_carryOut_120 (by decide) ?_
      refine r_ireturn dX5_carryOut_121 rfl (Nat.zero_le _) (Nat.zero_le _) ?_
      exact ⟨rfl, rfl⟩
    | true =>
      by_cases h0 : kd = 0
      · have hr := lpC_t (e := e) hx hq (show _ = d from if_pos h0) (show _ = upd f k x from by rw [if_pos h0]; rw [if_pos h0] at hx; rw [hx])
        rw [hr]
        have gk := x_keep0 (M := M1) (x := x) (k := k) (fi := fi) (mn := mn) ht (by omega) (by rw [← h0]; exact hcM1)
        obtain ⟨M', w, i1, i2, i3, i4⟩ := ih (k + 1) (upd2 M1 (25 + 2 * t) k x) q1 d (upd f k x) (by omega) (h1.frn (t := t) (FrS.rf.upc (by simp))) ok (fun z => absurd h0 z) (fun _ j hj => by
          by_cases hj2 : j = k
          · rw [hj2, u_ss, upd_s]
          · rw [u_sn hj2, upd_n hj2, n1]; exact hf2 h0 j (by omega)) (by omega) ((F.tr F1).upc (by unfold fxC; simp))
        refine ⟨M', fin _ (w1 _ ?_), i1, i2, i3, i4⟩
        clear hq hr fin w1 i1 i2 i3 h1
        refine r_if_ne 122 dX5_carryOut_117 (by decide) (fun c_117 => ?_) (fun c_117 => absurd c_117 (by decide))
        refine r_aload_n dX5_carryOut_122 rfl rfl ?_
        refine r_aload_n dX5_carryOut_123 rfl rfl ?_
        refine r_iload dX5_carryOut_124 rfl ?_
        refine r_iload dX5_carryOut_126 rfl ?_
        refine gW3 (Y := mX5_keepNumber) (ci := 5) (N := 10) dX5_carryOut_128 mlX5_216 vkX5_keepNumber (by first | exact hc1 | exact hc2 | exact hc3 | rfl | exact hB1 | exact hB2 | exact hB3) ⟨by decide, rfl⟩ rfl gk ?_
        refine r_iinc_4 (_ + 1) dX5_carryOut_131 rfl (Nat.le_of_ble_eq_true rfl) rfl ?_
        refine r_goto 55 dX5_carryOut_134 (by decide) ?_
        rw [nI_1]
        exact r_weak (by simp [lvle] <;> (repeat' apply And.intro) <;> first | rfl | decide) w
      · have hfk : f k = x := by rw [if_neg h0] at hx; exact hx
        have key : ∃ M2 d2, (if kd = 0 then d else if kd = 1 then wrt d (fi + k) (f k) else thr d (fi + k) (f k)) = d2 ∧ okD d2 ∧ Gv mX5_keepNumber [.ref 0, .ref (24 + 2 * t), .int (nI k), .int x] M1 none M2 ∧ DC M2 d2 ∧ FrS [15, 16, 17] [(14, 3)] M1 M2 := by
          by_cases h5 : kd = 1
          · obtain ⟨M2, g2, H2, F2⟩ := x_keep1 (M := M1) (x := x) (k := k) (fi := fi) (mn := mn) ht (by omega) hs (by rw [← h5]; exact hcM1) h1.2.2.2.1 ok
            exact ⟨M2, _, by rw [if_neg h0, if_pos h5, hfk], wrt_ok ok hs, g2, H2, F2⟩
          · obtain ⟨M2, g2, H2, F2⟩ := x_keep2 (M := M1) (x := x) (k := k) (kd := kd) (fi := fi) (mn := mn) ht (by omega) (by omega) hs hcM1 h1.2.2.2.1 ok
            exact ⟨M2, _, by rw [if_neg h0, if_neg h5, hfk], thr_ok ok, g2, H2, F2⟩
        obtain ⟨M2, d2, hd2, ok2, gk, H2, F2⟩ := key
        have hr := lpC_t (e := e) hx hq hd2 (show _ = f from if_neg h0)
        rw [hr]
        obtain ⟨M', w, i1, i2, i3, i4⟩ := ih (k + 1) M2 q1 d2 f (by omega) (h1.fr14 H2 F2) ok2 (fun _ _ j hj => by rw [F2 _ j (by simp <;> omega) (by simp <;> omega), n1]; exact hf1 h0 hkd3 j hj) (fun z => absurd z h0) (by omega) ((F.tr F1).tr (F2.mono (by unfold fxC; simp) (by unfold fxS; simp)))
        refine ⟨M', fin _ (w1 _ ?_), i1, i2, i3, i4⟩
        clear hq hr fin w1 i1 i2 i3 h1 hd2
        refine r_if_ne 122 dX5_carryOut_117 (by decide) (fun c_117 => ?_) (fun c_117 => absurd c_117 (by decide))
        refine r_aload_n dX5_carryOut_122 rfl rfl ?_
        refine r_aload_n dX5_carryOut_123 rfl rfl ?_
        refine r_iload dX5_carryOut_124 rfl ?_
        refine r_iload dX5_carryOut_126 rfl ?_
        refine gW3 (Y := mX5_keepNumber) (ci := 5) (N := 10) dX5_carryOut_128 mlX5_216 vkX5_keepNumber (by first | exact hc1 | exact hc2 | exact hc3 | rfl | exact hB1 | exact hB2 | exact hB3) ⟨by decide, rfl⟩ rfl gk ?_
        refine r_iinc_4 (_ + 1) dX5_carryOut_131 rfl (Nat.le_of_ble_eq_true rfl) rfl ?_
        refine r_goto 55 dX5_carryOut_134 (by decide) ?_
        rw [nI_1]
        exact r_weak (by simp [lvle] <;> (repeat' apply And.intro) <;> first | rfl | decide) w
set_option maxHeartbeats 600000 in
set_option maxRecDepth 100000 in
theorem x_carryOut {M : Mem} {P : PL} {v : LSt} {d : DSt} {f : Nat → Int32} {t kd fi mn : Nat} (ht : t < 8) (hkd : kd ≤ 3) (hfi : fi ≤ 63) (hmn : mn ≤ 4) (hk3 : kd = 3 → mn = 0) (hm1 : kd ≠ 3 → 1 ≤ mn) (okp : okP P) (hc : CF M t kd fi mn) (h : CS M v d P) (ok : okD d) (hf1 : kd ≠ 0 → kd ≠ 3 → ∀ j, j < 4 → M (25 + 2 * t) j = f j) (hfr : v.1 + 30 < 2 ^ 31) : ∃ M', Gv mX5_carryOut [.ref 0, .ref (24 + 2 * t)] M (some (.int (nI (cmd P kd t fi mn v d f).2.2.2))) M' ∧ CS M' (cmd P kd t fi mn v d f).1 (cmd P kd t fi mn v d f).2.1 P ∧ okD (cmd P kd t fi mn v d f).2.1 ∧ (kd = 0 → (cmd P kd t fi mn v d f).2.2.2 = 0 → ∀ j, j < mn → M' (25 + 2 * t) j = (cmd P kd t fi mn v d f).2.2.1 j) ∧ FrS (fxC t) fxS M M' := by
  obtain ⟨hc1, hc2, hc3⟩ := isCm_t t ht
  obtain ⟨M1, g1, H1, F1⟩ := x_setOrder (M := M) (isCm_t t ht) (by simp <;> omega) hc.1 hc.2.1 hc.2.2.1 hc.2.2.2 (by omega) (by omega) (by omega) (by omega)
  obtain ⟨M2, g2, h2, F2⟩ := x_send (h.fr20 F1.S) okp H1 (pOrd_ok (by omega) (by omega) (by omega) (by omega)) (by omega)
  have hfr1 := dl_fr P (pOrd kd t fi mn) 5 4 v
  have F12 : FrS (fxC t) fxS M M2 := (F1.S.mono (by unfold fxC; simp) (by simp)).tr (F2.mono (by unfold fxC; simp) (by unfold fxS; simp))
  have n2 : ∀ j, M2 (25 + 2 * t) j = M (25 + 2 * t) j := fun j => by rw [F2 _ j (by simp <;> omega) (by simp <;> omega), F1.S _ j (by simp <;> omega) (by simp)]
  have hcM := hc.frS F12 nx_c nx_s
  unfold cmd
  generalize hq : dl P (pOrd kd t fi mn) 5 4 v = qq at g2 h2 hfr1 ⊢
  obtain ⟨q1, qb⟩ := qq
  dsimp only at g2 h2 hfr1 ⊢
  clear hq
  have hlast : Gv mX2_lastSector [.ref (24 + 2 * t)] M2 (some (.int (nI (lastN kd fi mn)))) M2 := by
    have g := x_lastS (M := M2) (isCm_t t ht)
    rw [hcM.2.1, hcM.2.2.1, hcM.2.2.2] at g
    unfold lastN
    by_cases h3 : kd = 3
    · rw [if_pos (by rw [h3]; rfl)] at g
      rw [if_pos h3]
      exact g
    · rw [if_neg (show ¬ nI kd = 3 from fun z => h3 ((nI_eq (a := kd) (b := 3) (by omega) (by decide)).mp z)), nI_add] at g
      rw [if_neg h3]
      have := hm1 h3
      rw [show nI (fi + mn) - 1 = nI (fi + mn - 1) from pk_sub (a := fi + mn) (b := 1) (by omega)] at g
      exact g
  cases qb with
  | false =>
    rw [if_neg (show ¬ false = true from Bool.false_ne_true)]
    dsimp only
    refine ⟨M2, ?_, h2, ok, fun _ z => absurd z (by decide), F12⟩
    refine con_of (lv := [some (.ref 0), some (.ref (24 + 2 * t)), none, none, none, none]) (by decide) rfl (Nat.le_of_ble_eq_true rfl) (by simp [lvle]) ?_
    refine r_aload_n dX5_carryOut_0 rfl rfl ?_
    refine r_getR (N := 10) dX5_carryOut_1 fwX5_39 (by first | exact hc1 | exact hc2 | exact hc3 | rfl | exact hB1 | exact hB2 | exact hB3) (Nat.le_of_ble_eq_true rfl) rfl (by first | exact hc1 | exact hc2 | exact hc3 | rfl | exact hB1 | exact hB2 | exact hB3) ?_
    refine r_aload_n dX5_carryOut_4 rfl rfl ?_
    refine gW1 (Y := mX0_setOrder) (ci := 0) (N := 2) dX5_carryOut_5 mlX5_198 vkX0_setOrder (by first | exact hc1 | exact hc2 | exact hc3 | rfl | exact hB1 | exact hB2 | exact hB3) ⟨by decide, rfl⟩ rfl g1 ?_
    refine r_aload_n dX5_carryOut_8 rfl rfl ?_
    refine r_getR (N := 10) dX5_carryOut_9 fwX5_21 (by first | exact hc1 | exact hc2 | exact hc3 | rfl | exact hB1 | exact hB2 | exact hB3) (Nat.le_of_ble_eq_true rfl) rfl (by first | exact hc1 | exact hc2 | exact hc3 | rfl | exact hB1 | exact hB2 | exact hB3) ?_
    refine r_aload_n dX5_carryOut_12 rfl rfl ?_
    refine r_getR (N := 10) dX5_carryOut_13 fwX5_39 (by first | exact hc1 | exact hc2 | exact hc3 | rfl | exact hB1 | exact hB2 | exact hB3) (Nat.le_of_ble_eq_true rfl) rfl (by first | exact hc1 | exact hc2 | exact hc3 | rfl | exact hB1 | exact hB2 | exact hB3) ?_
    refine gV1 (Y := mX4_deliver) (ci := 4) (N := 13) dX5_carryOut_16 mlX5_202 vkX4_deliver (by first | exact hc1 | exact hc2 | exact hc3 | rfl | exact hB1 | exact hB2 | exact hB3) ⟨by decide, rfl⟩ rfl g2 ?_
    refine r_if_ne 24 dX5_carryOut_19 (by decide) (fun c_19 => absurd rfl c_19) (fun c_19 => ?_)
    refine r_iconst 1 dX5_carryOut_22 (by decide) ?_
    refine r_ireturn dX5_carryOut_23 rfl (Nat.zero_le _) (Nat.zero_le _) ?_
    exact ⟨rfl, rfl⟩
  | true =>
    rw [if_pos rfl]
    by_cases hl : 31 < lastN kd fi mn
    · rw [if_pos hl]
      obtain ⟨M3, g3, H3, F3⟩ := x_setAnswer (M := M2) (tg := t) (oc := 2) (by decide) (by omega)
      obtain ⟨M4, g4, h4, F4⟩ := x_send (h2.fr20 F3.S) okp H3 (pAns_ok (by decide) (by omega)) (by omega)
      generalize hq : dl P (pAns t 2) 3 4 q1 = qq at g4 h4 ⊢
      obtain ⟨q2, qb⟩ := qq
      dsimp only at g4 h4 ⊢
      clear hq
      refine ⟨M4, ?_, h4, ok, fun _ z => absurd z (by split <;> decide), (F12.tr (F3.S.mono (by unfold fxC; simp) (by simp))).tr (F4.mono (by unfold fxC; simp) (by unfold fxS; simp))⟩
      have hl2 : (32 : Int32) ≤ nI (lastN kd fi mn) := nI_le (a := 32) (b := lastN kd fi mn) (by omega) (by unfold lastN; split <;> omega)
      have e0 : M2 (24 + 2 * t) 0 = nI t := hcM.1
      refine con_of (lv := [some (.ref 0), some (.ref (24 + 2 * t)), none, none, none, none]) (by decide) rfl (Nat.le_of_ble_eq_true rfl) (by simp [lvle]) ?_
      have h3k : ¬ nI kd = 3 := fun z => by
        have := (nI_eq (a := kd) (b := 3) (by omega) (by decide)).mp z
        unfold lastN at hl
        rw [if_pos this] at hl
        omega
      cases qb with
      | true =>
        refine r_aload_n dX5_carryOut_0 rfl rfl ?_
        refine r_getR (N := 10) dX5_carryOut_1 fwX5_39 (by first | exact hc1 | exact hc2 | exact hc3 | rfl | exact hB1 | exact hB2 | exact hB3) (Nat.le_of_ble_eq_true rfl) rfl (by first | exact hc1 | exact hc2 | exact hc3 | rfl | exact hB1 | exact hB2 | exact hB3) ?_
        refine r_aload_n dX5_carryOut_4 rfl rfl ?_
        refine gW1 (Y := mX0_setOrder) (ci := 0) (N := 2) dX5_carryOut_5 mlX5_198 vkX0_setOrder (by first | exact hc1 | exact hc2 | exact hc3 | rfl | exact hB1 | exact hB2 | exact hB3) ⟨by decide, rfl⟩ rfl g1 ?_
        refine r_aload_n dX5_carryOut_8 rfl rfl ?_
        refine r_getR (N := 10) dX5_carryOut_9 fwX5_21 (by first | exact hc1 | exact hc2 | exact hc3 | rfl | exact hB1 | exact hB2 | exact hB3) (Nat.le_of_ble_eq_true rfl) rfl (by first | exact hc1 | exact hc2 | exact hc3 | rfl | exact hB1 | exact hB2 | exact hB3) ?_
        refine r_aload_n dX5_carryOut_12 rfl rfl ?_
        refine r_getR (N := 10) dX5_carryOut_13 fwX5_39 (by first | exact hc1 | exact hc2 | exact hc3 | rfl | exact hB1 | exact hB2 | exact hB3) (Nat.le_of_ble_eq_true rfl) rfl (by first | exact hc1 | exact hc2 | exact hc3 | rfl | exact hB1 | exact hB2 | exact hB3) ?_
        refine gV1 (Y := mX4_deliver) (ci := 4) (N := 13) dX5_carryOut_16 mlX5_202 vkX4_deliver (by first | exact hc1 | exact hc2 | exact hc3 | rfl | exact hB1 | exact hB2 | exact hB3) ⟨by decide, rfl⟩ rfl g2 ?_
        refine r_if_ne 24 dX5_carryOut_19 (by decide) (fun c_19 => ?_) (fun c_19 => absurd c_19 (by decide))
        refine r_aload_n dX5_carryOut_24 rfl rfl ?_
        refine gV0 (Y := mX2_lastSector) (ci := 2) (N := 8) dX5_carryOut_25 mlX5_114 vkX2_lastSector (by first | exact hc1 | exact hc2 | exact hc3 | rfl | exact hB1 | exact hB2 | exact hB3) ⟨by decide, rfl⟩ rfl hlast ?_
        refine r_bipush 32 dX5_carryOut_28 (by decide) ?_
        refine r_icmp_ge 37 dX5_carryOut_30 (by decide) (fun c_30 => ?_) (fun c_30 => absurd hl2 c_30)
        refine r_iconst 2 dX5_carryOut_37 (by decide) ?_
        refine r_istore_n2 dX5_carryOut_38 rfl (Nat.le_of_ble_eq_true rfl) ?_
        refine r_iload_n dX5_carryOut_39 rfl rfl ?_
        refine r_if_ne 50 dX5_carryOut_40 (by decide) (fun c_40 => ?_) (fun c_40 => absurd c_40 (by decide))
        refine r_iconst 0 dX5_carryOut_50 (by decide) ?_
        refine r_istore_n3 dX5_carryOut_51 rfl (Nat.le_of_ble_eq_true rfl) ?_
        refine r_iconst 0 dX5_carryOut_52 (by decide) ?_
        refine r_istore_4 dX5_carryOut_53 rfl (Nat.le_of_ble_eq_true rfl) ?_
        refine r_iload dX5_carryOut_55 rfl ?_
        refine r_iload_n dX5_carryOut_57 rfl rfl ?_
        refine r_icmp_ge 137 dX5_carryOut_58 (by decide) (fun c_58 => ?_) (fun c_58 => absurd (by decide) c_58)
        refine r_aload_n dX5_carryOut_137 rfl rfl ?_
        refine r_getI (N := 8) dX5_carryOut_138 fwX5_136 (by first | exact hc1 | exact hc2 | exact hc3 | rfl | exact hB1 | exact hB2 | exact hB3) (Nat.le_of_ble_eq_true rfl) rfl ?_
        refine r_iconst 3 dX5_carryOut_141 (by decide) ?_
        rw [hcM.2.1]
        refine r_icmp_ne 152 dX5_carryOut_142 (by decide) (fun c_142 => ?_) (fun c_142 => absurd c_142 h3k)
        refine r_aload_n dX5_carryOut_152 rfl rfl ?_
        refine r_getR (N := 10) dX5_carryOut_153 fwX5_39 (by first | exact hc1 | exact hc2 | exact hc3 | rfl | exact hB1 | exact hB2 | exact hB3) (Nat.le_of_ble_eq_true rfl) rfl (by first | exact hc1 | exact hc2 | exact hc3 | rfl | exact hB1 | exact hB2 | exact hB3) ?_
        refine r_aload_n dX5_carryOut_156 rfl rfl ?_
        refine r_getI (N := 8) dX5_carryOut_157 fwX5_127 (by first | exact hc1 | exact hc2 | exact hc3 | rfl | exact hB1 | exact hB2 | exact hB3) (Nat.le_of_ble_eq_true rfl) rfl ?_
        rw [e0]
        refine r_iload_n dX5_carryOut_160 rfl rfl ?_
        refine gW2 (Y := mX0_setAnswer) (ci := 0) (N := 2) dX5_carryOut_161 mlX5_223 vkX0_setAnswer (by first | exact hc1 | exact hc2 | exact hc3 | rfl | exact hB1 | exact hB2 | exact hB3) ⟨by decide, rfl⟩ rfl g3 ?_
        refine r_aload_n dX5_carryOut_164 rfl rfl ?_
        refine r_getR (N := 10) dX5_carryOut_165 fwX5_21 (by first | exact hc1 | exact hc2 | exact hc3 | rfl | exact hB1 | exact hB2 | exact hB3) (Nat.le_of_ble_eq_true rfl) rfl (by first | exact hc1 | exact hc2 | exact hc3 | rfl | exact hB1 | exact hB2 | exact hB3) ?_
        refine r_aload_n dX5_carryOut_168 rfl rfl ?_
        refine r_getR (N := 10) dX5_carryOut_169 fwX5_39 (by first | exact hc1 | exact hc2 | exact hc3 | rfl | exact hB1 | exact hB2 | exact hB3) (Nat.le_of_ble_eq_true rfl) rfl (by first | exact hc1 | exact hc2 | exact hc3 | rfl | exact hB1 | exact hB2 | exact hB3) ?_
        refine gV1 (Y := mX4_deliver) (ci := 4) (N := 13) dX5_carryOut_172 mlX5_202 vkX4_deliver (by first | exact hc1 | exact hc2 | exact hc3 | rfl | exact hB1 | exact hB2 | exact hB3) ⟨by decide, rfl⟩ rfl g4 ?_
        refine r_if_eq 182 dX5_carryOut_175 (by decide) (fun c_175 => absurd c_175 (by decide)) (fun c_175 => ?_)
        refine r_iload_n dX5_carryOut_178 rfl rfl ?_
        refine r_goto 183 dX5_carryOut_179 (by decide) ?_
        refine r_ireturn dX5_carryOut_183 rfl (Nat.zero_le _) (Nat.zero_le _) ?_
        exact ⟨rfl, rfl⟩
      | false =>
        refine r_aload_n dX5_carryOut_0 rfl rfl ?_
        refine r_getR (N := 10) dX5_carryOut_1 fwX5_39 (by first | exact hc1 | exact hc2 | exact hc3 | rfl | exact hB1 | exact hB2 | exact hB3) (Nat.le_of_ble_eq_true rfl) rfl (by first | exact hc1 | exact hc2 | exact hc3 | rfl | exact hB1 | exact hB2 | exact hB3) ?_
        refine r_aload_n dX5_carryOut_4 rfl rfl ?_
        refine gW1 (Y := mX0_setOrder) (ci := 0) (N := 2) dX5_carryOut_5 mlX5_198 vkX0_setOrder (by first | exact hc1 | exact hc2 | exact hc3 | rfl | exact hB1 | exact hB2 | exact hB3) ⟨by decide, rfl⟩ rfl g1 ?_
        refine r_aload_n dX5_carryOut_8 rfl rfl ?_
        refine r_getR (N := 10) dX5_carryOut_9 fwX5_21 (by first | exact hc1 | exact hc2 | exact hc3 | rfl | exact hB1 | exact hB2 | exact hB3) (Nat.le_of_ble_eq_true rfl) rfl (by first | exact hc1 | exact hc2 | exact hc3 | rfl | exact hB1 | exact hB2 | exact hB3) ?_
        refine r_aload_n dX5_carryOut_12 rfl rfl ?_
        refine r_getR (N := 10) dX5_carryOut_13 fwX5_39 (by first | exact hc1 | exact hc2 | exact hc3 | rfl | exact hB1 | exact hB2 | exact hB3) (Nat.le_of_ble_eq_true rfl) rfl (by first | exact hc1 | exact hc2 | exact hc3 | rfl | exact hB1 | exact hB2 | exact hB3) ?_
        refine gV1 (Y := mX4_deliver) (ci := 4) (N := 13) dX5_carryOut_16 mlX5_202 vkX4_deliver (by first | exact hc1 | exact hc2 | exact hc3 | rfl | exact hB1 | exact hB2 | exact hB3) ⟨by decide, rfl⟩ rfl g2 ?_
        refine r_if_ne 24 dX5_carryOut_19 (by decide) (fun c_19 => ?_) (fun c_19 => absurd c_19 (by decide))
        refine r_aload_n dX5_carryOut_24 rfl rfl ?_
        refine gV0 (Y := mX2_lastSector) (ci := 2) (N := 8) dX5_carryOut_25 mlX5_114 vkX2_lastSector (by first | exact hc1 | exact hc2 | exact hc3 | rfl | exact hB1 | exact hB2 | exact hB3) ⟨by decide, rfl⟩ rfl hlast ?_
        refine r_bipush 32 dX5_carryOut_28 (by decide) ?_
        refine r_icmp_ge 37 dX5_carryOut_30 (by decide) (fun c_30 => ?_) (fun c_30 => absurd hl2 c_30)
        refine r_iconst 2 dX5_carryOut_37 (by decide) ?_
        refine r_istore_n2 dX5_carryOut_38 rfl (Nat.le_of_ble_eq_true rfl) ?_
        refine r_iload_n dX5_carryOut_39 rfl rfl ?_
        refine r_if_ne 50 dX5_carryOut_40 (by decide) (fun c_40 => ?_) (fun c_40 => absurd c_40 (by decide))
        refine r_iconst 0 dX5_carryOut_50 (by decide) ?_
        refine r_istore_n3 dX5_carryOut_51 rfl (Nat.le_of_ble_eq_true rfl) ?_
        refine r_iconst 0 dX5_carryOut_52 (by decide) ?_
        refine r_istore_4 dX5_carryOut_53 rfl (Nat.le_of_ble_eq_true rfl) ?_
        refine r_iload dX5_carryOut_55 rfl ?_
        refine r_iload_n dX5_carryOut_57 rfl rfl ?_
        refine r_icmp_ge 137 dX5_carryOut_58 (by decide) (fun c_58 => ?_) (fun c_58 => absurd (by decide) c_58)
        refine r_aload_n dX5_carryOut_137 rfl rfl ?_
        refine r_getI (N := 8) dX5_carryOut_138 fwX5_136 (by first | exact hc1 | exact hc2 | exact hc3 | rfl | exact hB1 | exact hB2 | exact hB3) (Nat.le_of_ble_eq_true rfl) rfl ?_
        refine r_iconst 3 dX5_carryOut_141 (by decide) ?_
        rw [hcM.2.1]
        refine r_icmp_ne 152 dX5_carryOut_142 (by decide) (fun c_142 => ?_) (fun c_142 => absurd c_142 h3k)
        refine r_aload_n dX5_carryOut_152 rfl rfl ?_
        refine r_getR (N := 10) dX5_carryOut_153 fwX5_39 (by first | exact hc1 | exact hc2 | exact hc3 | rfl | exact hB1 | exact hB2 | exact hB3) (Nat.le_of_ble_eq_true rfl) rfl (by first | exact hc1 | exact hc2 | exact hc3 | rfl | exact hB1 | exact hB2 | exact hB3) ?_
        refine r_aload_n dX5_carryOut_156 rfl rfl ?_
        refine r_getI (N := 8) dX5_carryOut_157 fwX5_127 (by first | exact hc1 | exact hc2 | exact hc3 | rfl | exact hB1 | exact hB2 | exact hB3) (Nat.le_of_ble_eq_true rfl) rfl ?_
        rw [e0]
        refine r_iload_n dX5_carryOut_160 rfl rfl ?_
        refine gW2 (Y := mX0_setAnswer) (ci := 0) (N := 2) dX5_carryOut_161 mlX5_223 vkX0_setAnswer (by first | exact hc1 | exact hc2 | exact hc3 | rfl | exact hB1 | exact hB2 | exact hB3) ⟨by decide, rfl⟩ rfl g3 ?_
        refine r_aload_n dX5_carryOut_164 rfl rfl ?_
        refine r_getR (N := 10) dX5_carryOut_165 fwX5_21 (by first | exact hc1 | exact hc2 | exact hc3 | rfl | exact hB1 | exact hB2 | exact hB3) (Nat.le_of_ble_eq_true rfl) rfl (by first | exact hc1 | exact hc2 | exact hc3 | rfl | exact hB1 | exact hB2 | exact hB3) ?_
        refine r_aload_n dX5_carryOut_168 rfl rfl ?_
        refine r_getR (N := 10) dX5_carryOut_169 fwX5_39 (by first | exact hc1 | exact hc2 | exact hc3 | rfl | exact hB1 | exact hB2 | exact hB3) (Nat.le_of_ble_eq_true rfl) rfl (by first | exact hc1 | exact hc2 | exact hc3 | rfl | exact hB1 | exact hB2 | exact hB3) ?_
        refine gV1 (Y := mX4_deliver) (ci := 4) (N := 13) dX5_carryOut_172 mlX5_202 vkX4_deliver (by first | exact hc1 | exact hc2 | exact hc3 | rfl | exact hB1 | exact hB2 | exact hB3) ⟨by decide, rfl⟩ rfl g4 ?_
        refine r_if_eq 182 dX5_carryOut_175 (by decide) (fun c_175 => ?_) (fun c_175 => absurd rfl c_175)
        refine r_iconst 1 dX5_carryOut_182 (by decide) ?_
        refine r_ireturn dX5_carryOut_183 rfl (Nat.zero_le _) (Nat.zero_le _) ?_
        exact ⟨rfl, rfl⟩
    · rw [if_neg hl]
      have hl2 : ¬ (32 : Int32) ≤ nI (lastN kd fi mn) := nI_ge (a := lastN kd fi mn) (b := 32) (by omega) (by decide)
      obtain ⟨M', w, i1, i2, i3, i4⟩ := x_co_lp (M0 := M2) (P := P) ht hkd hmn hk3 (by omega) okp hcM mn 0 M2 q1 d f (by omega) h2 ok (fun z z3 j hj => by rw [n2]; exact hf1 z z3 j hj) (fun _ j hj => absurd hj (by omega)) (by omega) FrS.rf
      refine ⟨M', ?_, i1, i2, i3, F12.tr i4⟩
      refine con_of (lv := [some (.ref 0), some (.ref (24 + 2 * t)), none, none, none, none]) (by decide) rfl (Nat.le_of_ble_eq_true rfl) (by simp [lvle]) ?_
      clear i1 i2 i3
      refine r_aload_n dX5_carryOut_0 rfl rfl ?_
      refine r_getR (N := 10) dX5_carryOut_1 fwX5_39 (by first | exact hc1 | exact hc2 | exact hc3 | rfl | exact hB1 | exact hB2 | exact hB3) (Nat.le_of_ble_eq_true rfl) rfl (by first | exact hc1 | exact hc2 | exact hc3 | rfl | exact hB1 | exact hB2 | exact hB3) ?_
      refine r_aload_n dX5_carryOut_4 rfl rfl ?_
      refine gW1 (Y := mX0_setOrder) (ci := 0) (N := 2) dX5_carryOut_5 mlX5_198 vkX0_setOrder (by first | exact hc1 | exact hc2 | exact hc3 | rfl | exact hB1 | exact hB2 | exact hB3) ⟨by decide, rfl⟩ rfl g1 ?_
      refine r_aload_n dX5_carryOut_8 rfl rfl ?_
      refine r_getR (N := 10) dX5_carryOut_9 fwX5_21 (by first | exact hc1 | exact hc2 | exact hc3 | rfl | exact hB1 | exact hB2 | exact hB3) (Nat.le_of_ble_eq_true rfl) rfl (by first | exact hc1 | exact hc2 | exact hc3 | rfl | exact hB1 | exact hB2 | exact hB3) ?_
      refine r_aload_n dX5_carryOut_12 rfl rfl ?_
      refine r_getR (N := 10) dX5_carryOut_13 fwX5_39 (by first | exact hc1 | exact hc2 | exact hc3 | rfl | exact hB1 | exact hB2 | exact hB3) (Nat.le_of_ble_eq_true rfl) rfl (by first | exact hc1 | exact hc2 | exact hc3 | rfl | exact hB1 | exact hB2 | exact hB3) ?_
      refine gV1 (Y := mX4_deliver) (ci := 4) (N := 13) dX5_carryOut_16 mlX5_202 vkX4_deliver (by first | exact hc1 | exact hc2 | exact hc3 | rfl | exact hB1 | exact hB2 | exact hB3) ⟨by decide, rfl⟩ rfl g2 ?_
      refine r_if_ne 24 dX5_carryOut_19 (by decide) (fun c_19 => ?_) (fun c_19 => absurd c_19 (by decide))
      refine r_aload_n dX5_carryOut_24 rfl rfl ?_
      refine gV0 (Y := mX2_lastSector) (ci := 2) (N := 8) dX5_carryOut_25 mlX5_114 vkX2_lastSector (by first | exact hc1 | exact hc2 | exact hc3 | rfl | exact hB1 | exact hB2 | exact hB3) ⟨by decide, rfl⟩ rfl hlast ?_
      refine r_bipush 32 dX5_carryOut_28 (by decide) ?_
      refine r_icmp_ge 37 dX5_carryOut_30 (by decide) (fun c_30 => absurd c_30 hl2) (fun c_30 => ?_)
      refine r_iconst 0 dX5_carryOut_33 (by decide) ?_
      refine r_goto 38 dX5_carryOut_34 (by decide) ?_
      refine r_istore_n2 dX5_carryOut_38 rfl (Nat.le_of_ble_eq_true rfl) ?_
      refine r_iload_n dX5_carryOut_39 rfl rfl ?_
      refine r_if_ne 50 dX5_carryOut_40 (by decide) (fun c_40 => absurd rfl c_40) (fun c_40 => ?_)
      refine r_aload_n dX5_carryOut_43 rfl rfl ?_
      refine r_getI (N := 8) dX5_carryOut_44 fwX5_206 (by first | exact hc1 | exact hc2 | exact hc3 | rfl | exact hB1 | exact hB2 | exact hB3) (Nat.le_of_ble_eq_true rfl) rfl ?_
      rw [hcM.2.2.2]
      refine r_goto 51 dX5_carryOut_47 (by decide) ?_
      refine r_istore_n3 dX5_carryOut_51 rfl (Nat.le_of_ble_eq_true rfl) ?_
      refine r_iconst 0 dX5_carryOut_52 (by decide) ?_
      refine r_istore_4 dX5_carryOut_53 rfl (Nat.le_of_ble_eq_true rfl) ?_
      exact r_weak (by simp [lvle] <;> (repeat' apply And.intro) <;> first | rfl | decide) w
