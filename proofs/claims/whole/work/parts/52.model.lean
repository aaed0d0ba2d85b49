/-- the model's tables behind the words below w -/
def IM (M : Mem) (w e u : Nat) : Prop := (∀ k, k < e → M 41 k = lw k) ∧ (∀ q, q < w → M 42 q = en q) ∧ ∀ k, k < u → M 43 k = lw (252 + k)
theorem scM_5 {d w e u : Nat} (h : scM (d + 1) w e u = true) (h5 : popc w = 5) : e < 252 ∧ lwL.getD e 0 = w ∧ enL.getD w 0 = e + 1 ∧ scM d (w + 1) (e + 1) u = true := by
  unfold scM at h
  rw [if_pos h5] at h
  simp only [Bool.and_eq_true, Nat.blt_eq] at h
  obtain ⟨⟨⟨a1, a2⟩, a3⟩, a5⟩ := h
  exact ⟨a1, beq_e a2, beq_e a3, a5⟩
theorem scM_n {d w e u : Nat} (h : scM (d + 1) w e u = true) (h5 : popc w ≠ 5) : enL.getD w 0 = 0 ∧ ((popc w = 6 ∧ u < 12) → lwL.getD (252 + u) 0 = w ∧ scM d (w + 1) e (u + 1) = true) ∧ (¬ (popc w = 6 ∧ u < 12) → scM d (w + 1) e u = true) := by
  unfold scM at h
  rw [if_neg h5] at h
  simp only [Bool.and_eq_true] at h
  obtain ⟨a1, a2⟩ := h
  refine ⟨beq_e a1, fun z => ?_, fun z => ?_⟩
  · rw [if_pos z] at a2
    simp only [Bool.and_eq_true] at a2
    exact ⟨beq_e a2.1, a2.2⟩
  · rw [if_neg z] at a2
    exact a2
theorem IM.five {M : Mem} {w e u : Nat} (h : IM M w e u) (hl : lwL.getD e 0 = w) (hv : enL.getD w 0 = e + 1) : IM (upd2 (upd2 (upd2 M 42 w (-1)) 41 e (nI w)) 42 w (nI e)) (w + 1) (e + 1) u := by
  refine ⟨fun k hk => ?_, fun q hq => ?_, fun k hk => ?_⟩
  · rw [u_nn (show (41 : Nat) ≠ 42 by decide)]
    by_cases z : k = e
    · subst z; rw [u_ss]; unfold lw; rw [hl]
    · rw [u_sn z, u_nn (show (41 : Nat) ≠ 42 by decide)]; exact h.1 k (by omega)
  · by_cases z : q = w
    · subst z; rw [u_ss]; unfold en; rw [hv, cd_s]
    · rw [u_sn z, u_nn (show (42 : Nat) ≠ 41 by decide), u_sn z]; exact h.2.1 q (by omega)
  · rw [u_nn (show (43 : Nat) ≠ 42 by decide), u_nn (show (43 : Nat) ≠ 41 by decide), u_nn (show (43 : Nat) ≠ 42 by decide)]; exact h.2.2 k hk
theorem IM.non {M : Mem} {w e u : Nat} (h : IM M w e u) (hv : enL.getD w 0 = 0) : IM (upd2 M 42 w (-1)) (w + 1) e u := by
  refine ⟨fun k hk => ?_, fun q hq => ?_, fun k hk => ?_⟩
  · rw [u_nn (show (41 : Nat) ≠ 42 by decide)]; exact h.1 k hk
  · by_cases z : q = w
    · subst z; rw [u_ss]; unfold en; rw [hv]; rfl
    · rw [u_sn z]; exact h.2.1 q (by omega)
  · rw [u_nn (show (43 : Nat) ≠ 42 by decide)]; exact h.2.2 k hk
theorem IM.six {M : Mem} {w e u : Nat} (h : IM M w e u) (hl : lwL.getD (252 + u) 0 = w) (hv : enL.getD w 0 = 0) : IM (upd2 (upd2 M 42 w (-1)) 43 u (nI w)) (w + 1) e (u + 1) := by
  have h2 := h.non hv
  refine ⟨fun k hk => ?_, fun q hq => ?_, fun k hk => ?_⟩
  · rw [u_nn (show (41 : Nat) ≠ 43 by decide)]; exact h2.1 k hk
  · rw [u_nn (show (42 : Nat) ≠ 43 by decide)]; exact h2.2.1 q hq
  · by_cases z : k = u
    · subst z; rw [u_ss]; unfold lw; rw [hl]
    · rw [u_sn z]; exact h2.2.2 k (by omega)
abbrev L6 (l : List (Nat × Nat × Nat)) : List (Nat × Nat × Nat) := (40, 32, 61) :: (40, 27, 60) :: (40, 26, 59) :: (40, 25, 58) :: (40, 24, 57) :: (40, 23, 56) :: (40, 22, 55) :: (40, 21, 54) :: (40, 20, 53) :: (40, 19, 52) :: (40, 17, 51) :: (40, 16, 50) :: (40, 15, 49) :: (40, 13, 48) :: (40, 11, 47) :: (40, 7, 46) :: (40, 6, 45) :: (40, 4, 44) :: (40, 2, 43) :: (40, 1, 42) :: (40, 0, 41) :: l
def Q6 (l : List (Nat × Nat × Nat)) (M0 : Mem) : Option Value → Hp → Prop := fun r h => r = none ∧ ∃ M', h = (shp.take 62, RLf (L6 l), M') ∧ TabM M' ∧ FrS [41, 42, 43] [] M0 M' ∧ OkH h
set_option maxHeartbeats 600000 in
set_option maxRecDepth 100000 in
theorem x6_lp {l : List (Nat × Nat × Nat)} {M0 : Mem} (ok0 : OkH (shp.take 62, RLf (L6 l), M0)) : ∀ (d w e u : Nat) (M : Mem), w + d = 1024 → e ≤ 252 → u ≤ 12 → scM d w e u = true → IM M w e u → FrS [41, 42, 43] [] M0 M → WP mX6_init 180 [some (.ref 40), some (.int (nI e)), some (.int (nI u)), some (.int (nI w)), none] [] 21 1714 (shp.take 62, RLf (L6 l), M) (Q6 l M0)
  | 0, w, e, u, M, hd, he, hu, hs, hI, hF => by
    have hw : w = 1024 := by omega
    subst hw
    unfold scM at hs
    simp only [Bool.and_eq_true] at hs
    have h1 := beq_e hs.1
    have h2 := beq_e hs.2
    subst h1 h2
    refine r_iload_n dX6_init_180 rfl rfl ?_
    refine r_sipush 1024 dX6_init_181 (by decide) ?_
    refine r_icmp_ge 252 dX6_init_184 (by decide) (fun c_184 => ?_) (fun c_184 => absurd (by decide) c_184)
    refine r_return dX6_init_252 rfl (Nat.le_of_ble_eq_true rfl) (Nat.le_of_ble_eq_true rfl) ?_
    exact ⟨rfl, M, rfl, hI, hF, ok0.frm hF (by decide)⟩
  | d + 1, w, e, u, M, hd, he, hu, hs, hI, hF => by
    have hw : w < 1024 := by omega
    have hcw : (nI w).toNatClampNeg = w := nI_clamp (by omega)
    have hce : (nI e).toNatClampNeg = e := nI_clamp (by omega)
    have hcu : (nI u).toNatClampNeg = u := nI_clamp (by omega)
    have hlt : ¬ (1024 : Int32) ≤ nI w := nI_ge (a := w) (b := 1024) (by omega) (by decide)
    by_cases h5 : popc w = 5
    · obtain ⟨a1, a2, a3, a5⟩ := scM_5 hs h5
      have ih := x6_lp ok0 d (w + 1) (e + 1) u _ (by omega) (by omega) hu a5 (hI.five a2 a3) (by
        intro a k ha _
        simp at ha
        rw [u_nn (by omega), u_nn (by omega), u_nn (by omega)]
        exact hF a k (by simp; omega) (by simp))
      refine r_iload_n dX6_init_180 rfl rfl ?_
      refine r_sipush 1024 dX6_init_181 (by decide) ?_
      refine r_icmp_ge 252 dX6_init_184 (by decide) (fun c_184 => absurd c_184 hlt) (fun c_184 => ?_)
      refine r_iload_n dX6_init_187 rfl rfl ?_
      refine t_callS (Y := mX6_ones) dX6_init_188 mlX6_73 ckX6_ones skX6_ones rfl ⟨rfl, rfl⟩ t_ones ?_
      rw [on_tab w hw, h5]
      refine r_istore_4 dX6_init_191 rfl (Nat.le_of_ble_eq_true rfl) ?_
      refine r_aload_n dX6_init_193 rfl rfl ?_
      refine r_getR (N := 35) dX6_init_194 fwX6_13 (by first | rfl | assumption) (Nat.le_of_ble_eq_true rfl) rfl (by first | rfl | assumption) ?_
      refine r_iload_n dX6_init_197 rfl rfl ?_
      refine r_iconst (-1) dX6_init_198 (by decide) ?_
      refine r_iastore dX6_init_199 (by first | rfl | assumption) (by exact vp_in_nI (by omega) (by decide)) ?_
      rw [hcw]
      refine r_iload dX6_init_200 rfl ?_
      refine r_iconst 5 dX6_init_202 (by decide) ?_
      refine r_icmp_ne 223 dX6_init_203 (by decide) (fun c_203 => absurd rfl c_203) (fun c_203 => ?_)
      refine r_aload_n dX6_init_206 rfl rfl ?_
      refine r_getR (N := 35) dX6_init_207 fwX6_7 (by first | rfl | assumption) (Nat.le_of_ble_eq_true rfl) rfl (by first | rfl | assumption) ?_
      refine r_iload_n dX6_init_210 rfl rfl ?_
      refine r_iload_n dX6_init_211 rfl rfl ?_
      refine r_iastore dX6_init_212 (by first | rfl | assumption) (by exact vp_in_nI (by omega) (by decide)) ?_
      rw [hce]
      refine r_aload_n dX6_init_213 rfl rfl ?_
      refine r_getR (N := 35) dX6_init_214 fwX6_13 (by first | rfl | assumption) (Nat.le_of_ble_eq_true rfl) rfl (by first | rfl | assumption) ?_
      refine r_iload_n dX6_init_217 rfl rfl ?_
      refine r_iload_n dX6_init_218 rfl rfl ?_
      refine r_iastore dX6_init_219 (by first | rfl | assumption) (by exact vp_in_nI (by omega) (by decide)) ?_
      rw [hcw]
      refine r_iinc_1 (_ + 1) dX6_init_220 rfl (Nat.le_of_ble_eq_true rfl) rfl ?_
      refine r_iload dX6_init_223 rfl ?_
      refine r_bipush 6 dX6_init_225 (by decide) ?_
      refine r_icmp_ne 246 dX6_init_227 (by decide) (fun c_227 => ?_) (fun c_227 => absurd c_227 (by decide))
      refine r_iinc_3 (_ + 1) dX6_init_246 rfl (Nat.le_of_ble_eq_true rfl) rfl ?_
      refine r_goto 180 dX6_init_249 (by decide) ?_
      rw [nI_1, nI_1]
      exact r_weak (by simp [lvle] <;> (repeat' apply And.intro) <;> first | rfl | decide) ih
    · have ne5 : ¬ nI (popc w) = 5 := popc_n5 w hw h5
      obtain ⟨b1, b2, b3⟩ := scM_n hs h5
      by_cases h6 : popc w = 6
      · by_cases hu3 : u < 12
        · obtain ⟨a2, a5⟩ := b2 ⟨h6, hu3⟩
          have hlt2 : ¬ (12 : Int32) ≤ nI u := nI_ge (a := u) (b := 12) (by omega) (by decide)
          have ih := x6_lp ok0 d (w + 1) e (u + 1) _ (by omega) he (by omega) a5 (hI.six a2 b1) (by
            intro a k ha _
            simp at ha
            rw [u_nn (by omega), u_nn (by omega)]
            exact hF a k (by simp; omega) (by simp))
          refine r_iload_n dX6_init_180 rfl rfl ?_
          refine r_sipush 1024 dX6_init_181 (by decide) ?_
          refine r_icmp_ge 252 dX6_init_184 (by decide) (fun c_184 => absurd c_184 hlt) (fun c_184 => ?_)
          refine r_iload_n dX6_init_187 rfl rfl ?_
          refine t_callS (Y := mX6_ones) dX6_init_188 mlX6_73 ckX6_ones skX6_ones rfl ⟨rfl, rfl⟩ t_ones ?_
          rw [on_tab w hw, h6]
          refine r_istore_4 dX6_init_191 rfl (Nat.le_of_ble_eq_true rfl) ?_
          refine r_aload_n dX6_init_193 rfl rfl ?_
          refine r_getR (N := 35) dX6_init_194 fwX6_13 (by first | rfl | assumption) (Nat.le_of_ble_eq_true rfl) rfl (by first | rfl | assumption) ?_
          refine r_iload_n dX6_init_197 rfl rfl ?_
          refine r_iconst (-1) dX6_init_198 (by decide) ?_
          refine r_iastore dX6_init_199 (by first | rfl | assumption) (by exact vp_in_nI (by omega) (by decide)) ?_
          rw [hcw]
          refine r_iload dX6_init_200 rfl ?_
          refine r_iconst 5 dX6_init_202 (by decide) ?_
          refine r_icmp_ne 223 dX6_init_203 (by decide) (fun c_203 => ?_) (fun c_203 => absurd c_203 (by decide))
          refine r_iload dX6_init_223 rfl ?_
          refine r_bipush 6 dX6_init_225 (by decide) ?_
          refine r_icmp_ne 246 dX6_init_227 (by decide) (fun c_227 => absurd rfl c_227) (fun c_227 => ?_)
          refine r_iload_n dX6_init_230 rfl rfl ?_
          refine r_bipush 12 dX6_init_231 (by decide) ?_
          refine r_icmp_ge 246 dX6_init_233 (by decide) (fun c_233 => absurd c_233 hlt2) (fun c_233 => ?_)
          refine r_aload_n dX6_init_236 rfl rfl ?_
          refine r_getR (N := 35) dX6_init_237 fwX6_16 (by first | rfl | assumption) (Nat.le_of_ble_eq_true rfl) rfl (by first | rfl | assumption) ?_
          refine r_iload_n dX6_init_240 rfl rfl ?_
          refine r_iload_n dX6_init_241 rfl rfl ?_
          refine r_iastore dX6_init_242 (by first | rfl | assumption) (by exact vp_in_nI (by omega) (by decide)) ?_
          rw [hcu]
          refine r_iinc_2 (_ + 1) dX6_init_243 rfl (Nat.le_of_ble_eq_true rfl) rfl ?_
          refine r_iinc_3 (_ + 1) dX6_init_246 rfl (Nat.le_of_ble_eq_true rfl) rfl ?_
          refine r_goto 180 dX6_init_249 (by decide) ?_
          rw [nI_1, nI_1]
          exact r_weak (by simp [lvle] <;> (repeat' apply And.intro) <;> first | rfl | decide) ih
        · have a5 := b3 (fun q => hu3 q.2)
          have hge : (12 : Int32) ≤ nI u := nI_le (a := 12) (b := u) (by omega) (by omega)
          have ih := x6_lp ok0 d (w + 1) e u _ (by omega) he hu a5 (hI.non b1) (by
            intro a k ha _
            simp at ha
            rw [u_nn (by omega)]
            exact hF a k (by simp; omega) (by simp))
          refine r_iload_n dX6_init_180 rfl rfl ?_
          refine r_sipush 1024 dX6_init_181 (by decide) ?_
          refine r_icmp_ge 252 dX6_init_184 (by decide) (fun c_184 => absurd c_184 hlt) (fun c_184 => ?_)
          refine r_iload_n dX6_init_187 rfl rfl ?_
          refine t_callS (Y := mX6_ones) dX6_init_188 mlX6_73 ckX6_ones skX6_ones rfl ⟨rfl, rfl⟩ t_ones ?_
          rw [on_tab w hw, h6]
          refine r_istore_4 dX6_init_191 rfl (Nat.le_of_ble_eq_true rfl) ?_
          refine r_aload_n dX6_init_193 rfl rfl ?_
          refine r_getR (N := 35) dX6_init_194 fwX6_13 (by first | rfl | assumption) (Nat.le_of_ble_eq_true rfl) rfl (by first | rfl | assumption) ?_
          refine r_iload_n dX6_init_197 rfl rfl ?_
          refine r_iconst (-1) dX6_init_198 (by decide) ?_
          refine r_iastore dX6_init_199 (by first | rfl | assumption) (by exact vp_in_nI (by omega) (by decide)) ?_
          rw [hcw]
          refine r_iload dX6_init_200 rfl ?_
          refine r_iconst 5 dX6_init_202 (by decide) ?_
          refine r_icmp_ne 223 dX6_init_203 (by decide) (fun c_203 => ?_) (fun c_203 => absurd c_203 (by decide))
          refine r_iload dX6_init_223 rfl ?_
          refine r_bipush 6 dX6_init_225 (by decide) ?_
          refine r_icmp_ne 246 dX6_init_227 (by decide) (fun c_227 => absurd rfl c_227) (fun c_227 => ?_)
          refine r_iload_n dX6_init_230 rfl rfl ?_
          refine r_bipush 12 dX6_init_231 (by decide) ?_
          refine r_icmp_ge 246 dX6_init_233 (by decide) (fun c_233 => ?_) (fun c_233 => absurd hge c_233)
          refine r_iinc_3 (_ + 1) dX6_init_246 rfl (Nat.le_of_ble_eq_true rfl) rfl ?_
          refine r_goto 180 dX6_init_249 (by decide) ?_
          rw [nI_1]
          exact r_weak (by simp [lvle] <;> (repeat' apply And.intro) <;> first | rfl | decide) ih
      · have ne6 : ¬ nI (popc w) = 6 := popc_n6 w hw h6
        have a5 := b3 (fun q => h6 q.1)
        have ih := x6_lp ok0 d (w + 1) e u _ (by omega) he hu a5 (hI.non b1) (by
          intro a k ha _
          simp at ha
          rw [u_nn (by omega)]
          exact hF a k (by simp; omega) (by simp))
        refine r_iload_n dX6_init_180 rfl rfl ?_
        refine r_sipush 1024 dX6_init_181 (by decide) ?_
        refine r_icmp_ge 252 dX6_init_184 (by decide) (fun c_184 => absurd c_184 hlt) (fun c_184 => ?_)
        refine r_iload_n dX6_init_187 rfl rfl ?_
        refine t_callS (Y := mX6_ones) dX6_init_188 mlX6_73 ckX6_ones skX6_ones rfl ⟨rfl, rfl⟩ t_ones ?_
        rw [on_tab w hw]
        refine r_istore_4 dX6_init_191 rfl (Nat.le_of_ble_eq_true rfl) ?_
        refine r_aload_n dX6_init_193 rfl rfl ?_
        refine r_getR (N := 35) dX6_init_194 fwX6_13 (by first | rfl | assumption) (Nat.le_of_ble_eq_true rfl) rfl (by first | rfl | assumption) ?_
        refine r_iload_n dX6_init_197 rfl rfl ?_
        refine r_iconst (-1) dX6_init_198 (by decide) ?_
        refine r_iastore dX6_init_199 (by first | rfl | assumption) (by exact vp_in_nI (by omega) (by decide)) ?_
        rw [hcw]
        refine r_iload dX6_init_200 rfl ?_
        refine r_iconst 5 dX6_init_202 (by decide) ?_
        refine r_icmp_ne 223 dX6_init_203 (by decide) (fun c_203 => ?_) (fun c_203 => absurd c_203 ne5)
        refine r_iload dX6_init_223 rfl ?_
        refine r_bipush 6 dX6_init_225 (by decide) ?_
        refine r_icmp_ne 246 dX6_init_227 (by decide) (fun c_227 => ?_) (fun c_227 => absurd c_227 ne6)
        refine r_iinc_3 (_ + 1) dX6_init_246 rfl (Nat.le_of_ble_eq_true rfl) rfl ?_
        refine r_goto 180 dX6_init_249 (by decide) ?_
        rw [nI_1]
        exact r_weak (by simp [lvle] <;> (repeat' apply And.intro) <;> first | rfl | decide) ih
set_option maxHeartbeats 600000 in
set_option maxRecDepth 100000 in
theorem x6_init {l : List (Nat × Nat × Nat)} {M : Mem} (ok : OkH (shp.take 41, RLf l, M)) : Con mX6_init [.ref 40] (shp.take 41, RLf l, M) (Q6 l M) := by
  refine con_of (lv := [some (.ref 40), none, none, none, none]) (by decide) rfl (Nat.le_of_ble_eq_true rfl) (by simp [lvle]) ?_
  refine r_aload_n dX6_init_0 rfl rfl ?_
  refine t_obj dX6_init_1 mlX6_1 (Nat.le_of_ble_eq_true rfl) (Nat.le_of_ble_eq_true rfl) ?_
  refine r_aload_n dX6_init_4 rfl rfl ?_
  refine r_sipush 252 dX6_init_5 (by decide) ?_
  refine t_newa (j := 41) (N := 252) dX6_init_8 (by first | rfl | assumption) (by decide) rfl (Nat.le_of_ble_eq_true rfl) (Nat.le_of_ble_eq_true rfl) (Nat.le_of_ble_eq_true rfl) ok (by first | rfl | (simp [rokl, rok] <;> omega)) (by first | rfl | (simp [rokl, rok] <;> omega)) (fun ok => ?_)
  refine t_putR (j := 42) (N := 35) dX6_init_10 fwX6_7 (by first | rfl | assumption) (Nat.le_of_ble_eq_true rfl) rfl ⟨rfl, rfl, rfl⟩ flX6_7 (fun _ => rfl) (fun _ => rfl) ok (by first | exact Nat.le_of_ble_eq_true rfl | omega) (by first | exact Nat.le_of_ble_eq_true rfl | omega) (fun ok => ?_)
  refine r_aload_n dX6_init_13 rfl rfl ?_
  refine r_sipush 1024 dX6_init_14 (by decide) ?_
  refine t_newa (j := 42) (N := 1024) dX6_init_17 (by first | rfl | assumption) (by decide) rfl (Nat.le_of_ble_eq_true rfl) (Nat.le_of_ble_eq_true rfl) (Nat.le_of_ble_eq_true rfl) ok (by first | rfl | (simp [rokl, rok] <;> omega)) (by first | rfl | (simp [rokl, rok] <;> omega)) (fun ok => ?_)
  refine t_putR (j := 43) (N := 35) dX6_init_19 fwX6_13 (by first | rfl | assumption) (Nat.le_of_ble_eq_true rfl) rfl ⟨rfl, rfl, rfl⟩ flX6_13 (fun _ => rfl) (fun _ => rfl) ok (by first | exact Nat.le_of_ble_eq_true rfl | omega) (by first | exact Nat.le_of_ble_eq_true rfl | omega) (fun ok => ?_)
  refine r_aload_n dX6_init_22 rfl rfl ?_
  refine r_bipush 12 dX6_init_23 (by decide) ?_
  refine t_newa (j := 43) (N := 12) dX6_init_25 (by first | rfl | assumption) (by decide) rfl (Nat.le_of_ble_eq_true rfl) (Nat.le_of_ble_eq_true rfl) (Nat.le_of_ble_eq_true rfl) ok (by first | rfl | (simp [rokl, rok] <;> omega)) (by first | rfl | (simp [rokl, rok] <;> omega)) (fun ok => ?_)
  refine t_putR (j := 44) (N := 35) dX6_init_27 fwX6_16 (by first | rfl | assumption) (Nat.le_of_ble_eq_true rfl) rfl ⟨rfl, rfl, rfl⟩ flX6_16 (fun _ => rfl) (fun _ => rfl) ok (by first | exact Nat.le_of_ble_eq_true rfl | omega) (by first | exact Nat.le_of_ble_eq_true rfl | omega) (fun ok => ?_)
  refine r_aload_n dX6_init_30 rfl rfl ?_
  refine r_bipush 12 dX6_init_31 (by decide) ?_
  refine t_newa (j := 44) (N := 12) dX6_init_33 (by first | rfl | assumption) (by decide) rfl (Nat.le_of_ble_eq_true rfl) (Nat.le_of_ble_eq_true rfl) (Nat.le_of_ble_eq_true rfl) ok (by first | rfl | (simp [rokl, rok] <;> omega)) (by first | rfl | (simp [rokl, rok] <;> omega)) (fun ok => ?_)
  refine t_putR (j := 45) (N := 35) dX6_init_35 fwX6_19 (by first | rfl | assumption) (Nat.le_of_ble_eq_true rfl) rfl ⟨rfl, rfl, rfl⟩ flX6_19 (fun _ => rfl) (fun _ => rfl) ok (by first | exact Nat.le_of_ble_eq_true rfl | omega) (by first | exact Nat.le_of_ble_eq_true rfl | omega) (fun ok => ?_)
  refine r_aload_n dX6_init_38 rfl rfl ?_
  refine r_bipush 30 dX6_init_39 (by decide) ?_
  refine t_newa (j := 45) (N := 30) dX6_init_41 (by first | rfl | assumption) (by decide) rfl (Nat.le_of_ble_eq_true rfl) (Nat.le_of_ble_eq_true rfl) (Nat.le_of_ble_eq_true rfl) ok (by first | rfl | (simp [rokl, rok] <;> omega)) (by first | rfl | (simp [rokl, rok] <;> omega)) (fun ok => ?_)
  refine t_putR (j := 46) (N := 35) dX6_init_43 fwX6_22 (by first | rfl | assumption) (Nat.le_of_ble_eq_true rfl) rfl ⟨rfl, rfl, rfl⟩ flX6_22 (fun _ => rfl) (fun _ => rfl) ok (by first | exact Nat.le_of_ble_eq_true rfl | omega) (by first | exact Nat.le_of_ble_eq_true rfl | omega) (fun ok => ?_)
  refine r_aload_n dX6_init_46 rfl rfl ?_
  refine r_bipush 30 dX6_init_47 (by decide) ?_
  refine t_newa (j := 46) (N := 30) dX6_init_49 (by first | rfl | assumption) (by decide) rfl (Nat.le_of_ble_eq_true rfl) (Nat.le_of_ble_eq_true rfl) (Nat.le_of_ble_eq_true rfl) ok (by first | rfl | (simp [rokl, rok] <;> omega)) (by first | rfl | (simp [rokl, rok] <;> omega)) (fun ok => ?_)
  refine t_putR (j := 47) (N := 35) dX6_init_51 fwX6_25 (by first | rfl | assumption) (Nat.le_of_ble_eq_true rfl) rfl ⟨rfl, rfl, rfl⟩ flX6_25 (fun _ => rfl) (fun _ => rfl) ok (by first | exact Nat.le_of_ble_eq_true rfl | omega) (by first | exact Nat.le_of_ble_eq_true rfl | omega) (fun ok => ?_)
  refine r_aload_n dX6_init_54 rfl rfl ?_
  refine r_bipush 16 dX6_init_55 (by decide) ?_
  refine t_newa (j := 47) (N := 16) dX6_init_57 (by first | rfl | assumption) (by decide) rfl (Nat.le_of_ble_eq_true rfl) (Nat.le_of_ble_eq_true rfl) (Nat.le_of_ble_eq_true rfl) ok (by first | rfl | (simp [rokl, rok] <;> omega)) (by first | rfl | (simp [rokl, rok] <;> omega)) (fun ok => ?_)
  refine t_putR (j := 48) (N := 35) dX6_init_59 fwX6_28 (by first | rfl | assumption) (Nat.le_of_ble_eq_true rfl) rfl ⟨rfl, rfl, rfl⟩ flX6_28 (fun _ => rfl) (fun _ => rfl) ok (by first | exact Nat.le_of_ble_eq_true rfl | omega) (by first | exact Nat.le_of_ble_eq_true rfl | omega) (fun ok => ?_)
  refine r_aload_n dX6_init_62 rfl rfl ?_
  refine r_sipush 180 dX6_init_63 (by decide) ?_
  refine t_newa (j := 48) (N := 180) dX6_init_66 (by first | rfl | assumption) (by decide) rfl (Nat.le_of_ble_eq_true rfl) (Nat.le_of_ble_eq_true rfl) (Nat.le_of_ble_eq_true rfl) ok (by first | rfl | (simp [rokl, rok] <;> omega)) (by first | rfl | (simp [rokl, rok] <;> omega)) (fun ok => ?_)
  refine t_putR (j := 49) (N := 35) dX6_init_68 fwX6_31 (by first | rfl | assumption) (Nat.le_of_ble_eq_true rfl) rfl ⟨rfl, rfl, rfl⟩ flX6_31 (fun _ => rfl) (fun _ => rfl) ok (by first | exact Nat.le_of_ble_eq_true rfl | omega) (by first | exact Nat.le_of_ble_eq_true rfl | omega) (fun ok => ?_)
  refine r_aload_n dX6_init_71 rfl rfl ?_
  refine r_bipush 12 dX6_init_72 (by decide) ?_
  refine t_newa (j := 49) (N := 12) dX6_init_74 (by first | rfl | assumption) (by decide) rfl (Nat.le_of_ble_eq_true rfl) (Nat.le_of_ble_eq_true rfl) (Nat.le_of_ble_eq_true rfl) ok (by first | rfl | (simp [rokl, rok] <;> omega)) (by first | rfl | (simp [rokl, rok] <;> omega)) (fun ok => ?_)
  refine t_putR (j := 50) (N := 35) dX6_init_76 fwX6_34 (by first | rfl | assumption) (Nat.le_of_ble_eq_true rfl) rfl ⟨rfl, rfl, rfl⟩ flX6_34 (fun _ => rfl) (fun _ => rfl) ok (by first | exact Nat.le_of_ble_eq_true rfl | omega) (by first | exact Nat.le_of_ble_eq_true rfl | omega) (fun ok => ?_)
  refine r_aload_n dX6_init_79 rfl rfl ?_
  refine r_bipush 18 dX6_init_80 (by decide) ?_
  refine t_newa (j := 50) (N := 18) dX6_init_82 (by first | rfl | assumption) (by decide) rfl (Nat.le_of_ble_eq_true rfl) (Nat.le_of_ble_eq_true rfl) (Nat.le_of_ble_eq_true rfl) ok (by first | rfl | (simp [rokl, rok] <;> omega)) (by first | rfl | (simp [rokl, rok] <;> omega)) (fun ok => ?_)
  refine t_putR (j := 51) (N := 35) dX6_init_84 fwX6_37 (by first | rfl | assumption) (Nat.le_of_ble_eq_true rfl) rfl ⟨rfl, rfl, rfl⟩ flX6_37 (fun _ => rfl) (fun _ => rfl) ok (by first | exact Nat.le_of_ble_eq_true rfl | omega) (by first | exact Nat.le_of_ble_eq_true rfl | omega) (fun ok => ?_)
  refine r_aload_n dX6_init_87 rfl rfl ?_
  refine r_bipush 32 dX6_init_88 (by decide) ?_
  refine t_newa (j := 51) (N := 32) dX6_init_90 (by first | rfl | assumption) (by decide) rfl (Nat.le_of_ble_eq_true rfl) (Nat.le_of_ble_eq_true rfl) (Nat.le_of_ble_eq_true rfl) ok (by first | rfl | (simp [rokl, rok] <;> omega)) (by first | rfl | (simp [rokl, rok] <;> omega)) (fun ok => ?_)
  refine t_putR (j := 52) (N := 35) dX6_init_92 fwX6_40 (by first | rfl | assumption) (Nat.le_of_ble_eq_true rfl) rfl ⟨rfl, rfl, rfl⟩ flX6_40 (fun _ => rfl) (fun _ => rfl) ok (by first | exact Nat.le_of_ble_eq_true rfl | omega) (by first | exact Nat.le_of_ble_eq_true rfl | omega) (fun ok => ?_)
  refine r_aload_n dX6_init_95 rfl rfl ?_
  refine r_bipush 6 dX6_init_96 (by decide) ?_
  refine t_newa (j := 52) (N := 6) dX6_init_98 (by first | rfl | assumption) (by decide) rfl (Nat.le_of_ble_eq_true rfl) (Nat.le_of_ble_eq_true rfl) (Nat.le_of_ble_eq_true rfl) ok (by first | rfl | (simp [rokl, rok] <;> omega)) (by first | rfl | (simp [rokl, rok] <;> omega)) (fun ok => ?_)
  refine t_putR (j := 53) (N := 35) dX6_init_100 fwX6_43 (by first | rfl | assumption) (Nat.le_of_ble_eq_true rfl) rfl ⟨rfl, rfl, rfl⟩ flX6_43 (fun _ => rfl) (fun _ => rfl) ok (by first | exact Nat.le_of_ble_eq_true rfl | omega) (by first | exact Nat.le_of_ble_eq_true rfl | omega) (fun ok => ?_)
  refine r_aload_n dX6_init_103 rfl rfl ?_
  refine r_bipush 6 dX6_init_104 (by decide) ?_
  refine t_newa (j := 53) (N := 6) dX6_init_106 (by first | rfl | assumption) (by decide) rfl (Nat.le_of_ble_eq_true rfl) (Nat.le_of_ble_eq_true rfl) (Nat.le_of_ble_eq_true rfl) ok (by first | rfl | (simp [rokl, rok] <;> omega)) (by first | rfl | (simp [rokl, rok] <;> omega)) (fun ok => ?_)
  refine t_putR (j := 54) (N := 35) dX6_init_108 fwX6_46 (by first | rfl | assumption) (Nat.le_of_ble_eq_true rfl) rfl ⟨rfl, rfl, rfl⟩ flX6_46 (fun _ => rfl) (fun _ => rfl) ok (by first | exact Nat.le_of_ble_eq_true rfl | omega) (by first | exact Nat.le_of_ble_eq_true rfl | omega) (fun ok => ?_)
  refine r_aload_n dX6_init_111 rfl rfl ?_
  refine r_bipush 8 dX6_init_112 (by decide) ?_
  refine t_newa (j := 54) (N := 8) dX6_init_114 (by first | rfl | assumption) (by decide) rfl (Nat.le_of_ble_eq_true rfl) (Nat.le_of_ble_eq_true rfl) (Nat.le_of_ble_eq_true rfl) ok (by first | rfl | (simp [rokl, rok] <;> omega)) (by first | rfl | (simp [rokl, rok] <;> omega)) (fun ok => ?_)
  refine t_putR (j := 55) (N := 35) dX6_init_116 fwX6_49 (by first | rfl | assumption) (Nat.le_of_ble_eq_true rfl) rfl ⟨rfl, rfl, rfl⟩ flX6_49 (fun _ => rfl) (fun _ => rfl) ok (by first | exact Nat.le_of_ble_eq_true rfl | omega) (by first | exact Nat.le_of_ble_eq_true rfl | omega) (fun ok => ?_)
  refine r_aload_n dX6_init_119 rfl rfl ?_
  refine r_bipush 8 dX6_init_120 (by decide) ?_
  refine t_newa (j := 55) (N := 8) dX6_init_122 (by first | rfl | assumption) (by decide) rfl (Nat.le_of_ble_eq_true rfl) (Nat.le_of_ble_eq_true rfl) (Nat.le_of_ble_eq_true rfl) ok (by first | rfl | (simp [rokl, rok] <;> omega)) (by first | rfl | (simp [rokl, rok] <;> omega)) (fun ok => ?_)
  refine t_putR (j := 56) (N := 35) dX6_init_124 fwX6_52 (by first | rfl | assumption) (Nat.le_of_ble_eq_true rfl) rfl ⟨rfl, rfl, rfl⟩ flX6_52 (fun _ => rfl) (fun _ => rfl) ok (by first | exact Nat.le_of_ble_eq_true rfl | omega) (by first | exact Nat.le_of_ble_eq_true rfl | omega) (fun ok => ?_)
  refine r_aload_n dX6_init_127 rfl rfl ?_
  refine r_bipush 8 dX6_init_128 (by decide) ?_
  refine t_newa (j := 56) (N := 8) dX6_init_130 (by first | rfl | assumption) (by decide) rfl (Nat.le_of_ble_eq_true rfl) (Nat.le_of_ble_eq_true rfl) (Nat.le_of_ble_eq_true rfl) ok (by first | rfl | (simp [rokl, rok] <;> omega)) (by first | rfl | (simp [rokl, rok] <;> omega)) (fun ok => ?_)
  refine t_putR (j := 57) (N := 35) dX6_init_132 fwX6_55 (by first | rfl | assumption) (Nat.le_of_ble_eq_true rfl) rfl ⟨rfl, rfl, rfl⟩ flX6_55 (fun _ => rfl) (fun _ => rfl) ok (by first | exact Nat.le_of_ble_eq_true rfl | omega) (by first | exact Nat.le_of_ble_eq_true rfl | omega) (fun ok => ?_)
  refine r_aload_n dX6_init_135 rfl rfl ?_
  refine r_bipush 8 dX6_init_136 (by decide) ?_
  refine t_newa (j := 57) (N := 8) dX6_init_138 (by first | rfl | assumption) (by decide) rfl (Nat.le_of_ble_eq_true rfl) (Nat.le_of_ble_eq_true rfl) (Nat.le_of_ble_eq_true rfl) ok (by first | rfl | (simp [rokl, rok] <;> omega)) (by first | rfl | (simp [rokl, rok] <;> omega)) (fun ok => ?_)
  refine t_putR (j := 58) (N := 35) dX6_init_140 fwX6_58 (by first | rfl | assumption) (Nat.le_of_ble_eq_true rfl) rfl ⟨rfl, rfl, rfl⟩ flX6_58 (fun _ => rfl) (fun _ => rfl) ok (by first | exact Nat.le_of_ble_eq_true rfl | omega) (by first | exact Nat.le_of_ble_eq_true rfl | omega) (fun ok => ?_)
  refine r_aload_n dX6_init_143 rfl rfl ?_
  refine r_bipush 32 dX6_init_144 (by decide) ?_
  refine t_newa (j := 58) (N := 32) dX6_init_146 (by first | rfl | assumption) (by decide) rfl (Nat.le_of_ble_eq_true rfl) (Nat.le_of_ble_eq_true rfl) (Nat.le_of_ble_eq_true rfl) ok (by first | rfl | (simp [rokl, rok] <;> omega)) (by first | rfl | (simp [rokl, rok] <;> omega)) (fun ok => ?_)
  refine t_putR (j := 59) (N := 35) dX6_init_148 fwX6_61 (by first | rfl | assumption) (Nat.le_of_ble_eq_true rfl) rfl ⟨rfl, rfl, rfl⟩ flX6_61 (fun _ => rfl) (fun _ => rfl) ok (by first | exact Nat.le_of_ble_eq_true rfl | omega) (by first | exact Nat.le_of_ble_eq_true rfl | omega) (fun ok => ?_)
  refine r_aload_n dX6_init_151 rfl rfl ?_
  refine r_bipush 8 dX6_init_152 (by decide) ?_
  refine t_newa (j := 59) (N := 8) dX6_init_154 (by first | rfl | assumption) (by decide) rfl (Nat.le_of_ble_eq_true rfl) (Nat.le_of_ble_eq_true rfl) (Nat.le_of_ble_eq_true rfl) ok (by first | rfl | (simp [rokl, rok] <;> omega)) (by first | rfl | (simp [rokl, rok] <;> omega)) (fun ok => ?_)
  refine t_putR (j := 60) (N := 35) dX6_init_156 fwX6_64 (by first | rfl | assumption) (Nat.le_of_ble_eq_true rfl) rfl ⟨rfl, rfl, rfl⟩ flX6_64 (fun _ => rfl) (fun _ => rfl) ok (by first | exact Nat.le_of_ble_eq_true rfl | omega) (by first | exact Nat.le_of_ble_eq_true rfl | omega) (fun ok => ?_)
  refine r_aload_n dX6_init_159 rfl rfl ?_
  refine r_bipush 8 dX6_init_160 (by decide) ?_
  refine t_newa (j := 60) (N := 8) dX6_init_162 (by first | rfl | assumption) (by decide) rfl (Nat.le_of_ble_eq_true rfl) (Nat.le_of_ble_eq_true rfl) (Nat.le_of_ble_eq_true rfl) ok (by first | rfl | (simp [rokl, rok] <;> omega)) (by first | rfl | (simp [rokl, rok] <;> omega)) (fun ok => ?_)
  refine t_putR (j := 61) (N := 35) dX6_init_164 fwX6_67 (by first | rfl | assumption) (Nat.le_of_ble_eq_true rfl) rfl ⟨rfl, rfl, rfl⟩ flX6_67 (fun _ => rfl) (fun _ => rfl) ok (by first | exact Nat.le_of_ble_eq_true rfl | omega) (by first | exact Nat.le_of_ble_eq_true rfl | omega) (fun ok => ?_)
  refine r_aload_n dX6_init_167 rfl rfl ?_
  refine r_iconst 4 dX6_init_168 (by decide) ?_
  refine t_newa (j := 61) (N := 4) dX6_init_169 (by first | rfl | assumption) (by decide) rfl (Nat.le_of_ble_eq_true rfl) (Nat.le_of_ble_eq_true rfl) (Nat.le_of_ble_eq_true rfl) ok (by first | rfl | (simp [rokl, rok] <;> omega)) (by first | rfl | (simp [rokl, rok] <;> omega)) (fun ok => ?_)
  refine t_putR (j := 62) (N := 35) dX6_init_171 fwX6_70 (by first | rfl | assumption) (Nat.le_of_ble_eq_true rfl) rfl ⟨rfl, rfl, rfl⟩ flX6_70 (fun _ => rfl) (fun _ => rfl) ok (by first | exact Nat.le_of_ble_eq_true rfl | omega) (by first | exact Nat.le_of_ble_eq_true rfl | omega) (fun ok => ?_)
  refine r_iconst 0 dX6_init_174 (by decide) ?_
  refine r_istore_n1 dX6_init_175 rfl (Nat.le_of_ble_eq_true rfl) ?_
  refine r_iconst 0 dX6_init_176 (by decide) ?_
  refine r_istore_n2 dX6_init_177 rfl (Nat.le_of_ble_eq_true rfl) ?_
  refine r_iconst 0 dX6_init_178 (by decide) ?_
  refine r_istore_n3 dX6_init_179 rfl (Nat.le_of_ble_eq_true rfl) ?_
  exact r_weak (by simp [lvle] <;> (repeat' apply And.intro) <;> first | rfl | decide) (x6_lp ok 1024 0 0 0 M rfl (by decide) (by decide) scM_ok ⟨fun k hk => absurd hk (by omega), fun k hk => absurd hk (by omega), fun k hk => absurd hk (by omega)⟩ (fun a k _ _ => rfl))
