def fyC : List Nat := [47, 48, 49, 50, 51, 52, 53, 58]
def fyS : List (Nat × Nat) := [(40, 12), (40, 34), (40, 33), (40, 8), (40, 9), (40, 10), (40, 14), (40, 18)]
theorem VM.frS {M M' : Mem} {v : LSt} {cs : List Nat} {ss : List (Nat × Nat)} (h : VM M v) (F : FrS cs ss M M') (h1 : 40 ∉ cs ∧ 47 ∉ cs ∧ 48 ∉ cs) (h2 : (40, 8) ∉ ss ∧ (40, 9) ∉ ss ∧ (40, 10) ∉ ss ∧ (40, 12) ∉ ss) (h3 : ∀ q ∈ ss, q.1 ≠ 47 ∧ q.1 ≠ 48) : VM M' v :=
  ⟨by rw [F 40 8 h1.1 h2.1]; exact h.1, fun j q => by rw [F 47 j h1.2.1 (fun z => (h3 _ z).1 rfl)]; exact h.2.1 j q, by rw [F 40 9 h1.1 h2.2.1]; exact h.2.2.1, by rw [F 40 10 h1.1 h2.2.2.1]; exact h.2.2.2.1, by rw [F 40 12 h1.1 h2.2.2.2]; exact h.2.2.2.2.1, fun j q => by rw [F 48 j h1.2.2 (fun z => (h3 _ z).2 rfl)]; exact h.2.2.2.2.2 j q⟩
theorem DM.frS {M M' : Mem} {d : DSt} {cs : List Nat} {ss : List (Nat × Nat)} (h : DM M d) (F : FrS cs ss M M') (h1 : 40 ∉ cs ∧ 51 ∉ cs ∧ 52 ∉ cs ∧ 53 ∉ cs) (h2 : (40, 18) ∉ ss) (h3 : ∀ q ∈ ss, q.1 ≠ 51 ∧ q.1 ≠ 52 ∧ q.1 ≠ 53) : DM M' d := by
  have b : ∀ k, M' 51 k = M 51 k := fun k => F 51 k h1.2.1 (fun z => (h3 _ z).1 rfl)
  have c : ∀ k, M' 52 k = M 52 k := fun k => F 52 k h1.2.2.1 (fun z => (h3 _ z).2.1 rfl)
  have e : ∀ k, M' 53 k = M 53 k := fun k => F 53 k h1.2.2.2 (fun z => (h3 _ z).2.2 rfl)
  exact ⟨fun j q => by rw [b]; exact h.1 j q, by rw [F 40 18 h1.1 h2]; exact h.2.1, fun j q => by rw [c, e]; exact h.2.2 j q⟩
def CFm (M : Mem) (t kd fi mn : Nat) : Prop := M 55 t = nI kd ∧ M 56 t = nI fi ∧ M 57 t = nI mn
theorem CFm.frS {M M' : Mem} {t kd fi mn : Nat} {cs : List Nat} {ss : List (Nat × Nat)} (h : CFm M t kd fi mn) (F : FrS cs ss M M') (h1 : 55 ∉ cs ∧ 56 ∉ cs ∧ 57 ∉ cs) (h2 : ∀ q ∈ ss, q.1 ≠ 55 ∧ q.1 ≠ 56 ∧ q.1 ≠ 57) : CFm M' t kd fi mn :=
  ⟨by rw [F 55 t h1.1 (fun z => (h2 _ z).1 rfl)]; exact h.1, by rw [F 56 t h1.2.1 (fun z => (h2 _ z).2.1 rfl)]; exact h.2.1, by rw [F 57 t h1.2.2 (fun z => (h2 _ z).2.2 rfl)]; exact h.2.2⟩
def MS (M : Mem) (v : LSt) (d : DSt) (P : PL) : Prop := TabM M ∧ VM M v ∧ DM M d ∧ PM M P
theorem MS.fr49 {M M' : Mem} {v : LSt} {d : DSt} {P : PL} (h : MS M v d P) (F : FrS [49, 58] [(40, 14)] M M') : MS M' v d P := ⟨h.1.frS F (by decide) (by decide), h.2.1.frS F (by decide) (by decide) (by decide), h.2.2.1.frS F (by decide) (by decide) (by decide), h.2.2.2.frS F (by decide) (by decide) (by decide)⟩
theorem MS.fr4 {M M' : Mem} {v v' : LSt} {d : DSt} {P : PL} (h : MS M v d P) (hv : VM M' v') (F : FrS [47, 48, 50] [(40, 12), (40, 34), (40, 33), (40, 8), (40, 9), (40, 10)] M M') : MS M' v' d P := ⟨h.1.frS F (by decide) (by decide), hv, h.2.2.1.frS F (by decide) (by decide) (by decide), h.2.2.2.frS F (by decide) (by decide) (by decide)⟩
theorem MS.fr14 {M M' : Mem} {v : LSt} {d d' : DSt} {P : PL} (h : MS M v d P) (hd : DM M' d') (F : FrS [51, 52, 53] [(40, 18)] M M') : MS M' v d' P := ⟨h.1.frS F (by decide) (by decide), h.2.1.frS F (by decide) (by decide) (by decide), hd, h.2.2.2.frS F (by decide) (by decide) (by decide)⟩
theorem m_sendX {M : Mem} {v : LSt} {d : DSt} {P : PL} {p : Nat → Int32} {n : Nat} (h : MS M v d P) (okp : okP P) (H : HP M n p) (hp : okF p n) (hfr : v.1 + 4 < 2 ^ 31) : ∃ M', Gv mX6_send [.ref 40] M (some (.int (eI (dl P p n 4 v).2))) M' ∧ MS M' (dl P p n 4 v).1 d P ∧ FrS [47, 48, 50] [(40, 12), (40, 34), (40, 33), (40, 8), (40, 9), (40, 10)] M M' := by
  obtain ⟨M', g, hv, F⟩ := m_send hp okp h.1 H h.2.1 h.2.2.2 hfr
  exact ⟨M', g, h.fr4 hv F, F⟩
set_option maxHeartbeats 600000 in
set_option maxRecDepth 100000 in
theorem m_fl {t : Nat} (ht : t < 8) : ∀ (u : Nat) (M : Mem) (d : DSt), d.2.1 = u → DM M d → okD d → M 55 t = 3 → ∃ M', (∀ Q, WP mX6_done 265 [some (.ref 40), some (.int (nI t)), none, none] [] 0 0 (shp, rfs, M') Q → WP mX6_done 240 [some (.ref 40), some (.int (nI t)), none, none] [] 0 0 (shp, rfs, M) Q) ∧ DM M' (layD d) ∧ FrS [51, 52, 53] [(40, 18)] M M' := by
  have hcl : (nI t).toNatClampNeg = t := nI_clamp (by omega)
  intro u
  induction u with
  | zero =>
    intro M d hu h ok h3
    refine ⟨M, fun Q hq => ?_, ⟨fun j hj => by rw [h.1 j hj]; unfold layD; rw [hu]; rfl, by rw [h.2.1, hu]; rfl, fun j hj => absurd hj (by show ¬ j < 0; omega)⟩, FrS.rf⟩
    refine r_aload_n dX6_done_240 rfl rfl ?_
    refine r_getR (N := 35) dX6_done_241 fwX6_52 (by first | rfl | assumption) (Nat.le_of_ble_eq_true rfl) rfl (by first | rfl | assumption) ?_
    refine r_iload_n dX6_done_244 rfl rfl ?_
    refine r_iaload dX6_done_245 (by first | rfl | assumption) (by exact vp_in_nI ht (by decide)) ?_
    refine r_iconst 3 dX6_done_246 (by decide) ?_
    rw [hcl, h3]
    refine r_icmp_ne 265 dX6_done_247 (by decide) (fun c_247 => absurd rfl c_247) (fun c_247 => ?_)
    refine r_aload_n dX6_done_250 rfl rfl ?_
    refine r_getI (N := 35) dX6_done_251 fwX6_171 (by first | rfl | assumption) (Nat.le_of_ble_eq_true rfl) rfl ?_
    rw [h.2.1, hu]
    refine r_if_le 265 dX6_done_254 (by decide) (fun c_254 => ?_) (fun c_254 => absurd (by decide) c_254)
    exact hq
  | succ u ih =>
    intro M d hu h ok h3
    have u6 := ok.1
    obtain ⟨M1, g1, H1, F1⟩ := m_lay h ok (by omega)
    obtain ⟨M', w, H', F'⟩ := ih M1 _ (by show d.2.1 - 1 = u; omega) H1 (rem_ok (d := (upd d.1 (d.2.2.1 0) (d.2.2.2 0), d.2.1, d.2.2.1, d.2.2.2)) ok) (by rw [F1 55 t (by decide) (by simp)]; exact h3)
    refine ⟨M', fun Q hq => ?_, ⟨fun j hj => ?_, H'.2.1, fun j hj => absurd hj (by show ¬ j < 0; omega)⟩, F1.tr F'⟩
    · have w' := w Q hq
      refine r_aload_n dX6_done_240 rfl rfl ?_
      refine r_getR (N := 35) dX6_done_241 fwX6_52 (by first | rfl | assumption) (Nat.le_of_ble_eq_true rfl) rfl (by first | rfl | assumption) ?_
      refine r_iload_n dX6_done_244 rfl rfl ?_
      refine r_iaload dX6_done_245 (by first | rfl | assumption) (by exact vp_in_nI ht (by decide)) ?_
      refine r_iconst 3 dX6_done_246 (by decide) ?_
      rw [hcl, h3]
      refine r_icmp_ne 265 dX6_done_247 (by decide) (fun c_247 => absurd rfl c_247) (fun c_247 => ?_)
      refine r_aload_n dX6_done_250 rfl rfl ?_
      refine r_getI (N := 35) dX6_done_251 fwX6_171 (by first | rfl | assumption) (Nat.le_of_ble_eq_true rfl) rfl ?_
      rw [h.2.1, hu]
      refine r_if_le 265 dX6_done_254 (by decide) (fun c_254 => absurd c_254 (nI_nle (by omega) (by omega))) (fun c_254 => ?_)
      refine r_aload_n dX6_done_257 rfl rfl ?_
      refine r_iconst 0 dX6_done_258 (by decide) ?_
      refine gW1 (Y := mX6_lay) (ci := 6) (N := 35) dX6_done_259 mlX6_180 vkX6_lay (by first | rfl | assumption) ⟨by decide, rfl⟩ rfl g1 ?_
      refine r_goto 240 dX6_done_262 (by decide) ?_
      exact w'
    · rw [H'.1 j hj]
      show lyd (upd d.1 _ _) (sh d.2.2.1 0) (sh d.2.2.2 0) (d.2.1 - 1) j = lyd d.1 d.2.2.1 d.2.2.2 d.2.1 j
      rw [lyd_sh, show d.2.1 - 1 + 1 = d.2.1 by omega]
set_option maxHeartbeats 600000 in
set_option maxRecDepth 100000 in
theorem m_done_end {M : Mem} {v : LSt} {d : DSt} {P : PL} {t kd fi mn : Nat} (ht : t < 8) (hkd : kd ≤ 3) (h : MS M v d P) (okp : okP P) (ok : okD d) (hc : CFm M t kd fi mn) (hfr : v.1 + 4 < 2 ^ 31) : ∃ M', WP mX6_done 240 [some (.ref 40), some (.int (nI t)), none, none] [] 0 0 (shp, rfs, M) (fun r1 h1 => r1 = some (.int (nI (if (dl P (pAns t 0) 3 4 v).2 = true then 0 else 1))) ∧ h1 = (shp, rfs, M')) ∧ MS M' (dl P (pAns t 0) 3 4 v).1 (if kd = 3 then layD d else d) P ∧ FrS fyC fyS M M' ∧ ∀ j, M' 58 j = M 58 j := by
  have hcl : (nI t).toNatClampNeg = t := nI_clamp (by omega)
  have key : ∃ M1, MS M1 v (if kd = 3 then layD d else d) P ∧ FrS [51, 52, 53] [(40, 18)] M M1 ∧ ∀ Q, WP mX6_done 265 [some (.ref 40), some (.int (nI t)), none, none] [] 0 0 (shp, rfs, M1) Q → WP mX6_done 240 [some (.ref 40), some (.int (nI t)), none, none] [] 0 0 (shp, rfs, M) Q := by
    by_cases h3 : kd = 3
    · subst h3
      obtain ⟨M1, w1, H1, F1⟩ := m_fl ht d.2.1 M d rfl h.2.2.1 ok hc.1
      exact ⟨M1, by rw [if_pos rfl]; exact h.fr14 H1 F1, F1, w1⟩
    · refine ⟨M, by rw [if_neg h3]; exact h, FrS.rf, fun Q hq => ?_⟩
      refine r_aload_n dX6_done_240 rfl rfl ?_
      refine r_getR (N := 35) dX6_done_241 fwX6_52 (by first | rfl | assumption) (Nat.le_of_ble_eq_true rfl) rfl (by first | rfl | assumption) ?_
      refine r_iload_n dX6_done_244 rfl rfl ?_
      refine r_iaload dX6_done_245 (by first | rfl | assumption) (by exact vp_in_nI ht (by decide)) ?_
      refine r_iconst 3 dX6_done_246 (by decide) ?_
      rw [hcl, hc.1]
      refine r_icmp_ne 265 dX6_done_247 (by decide) (fun c_247 => ?_) (fun c_247 => absurd ((nI_eq (a := kd) (b := 3) (by omega) (by decide)).mp c_247) h3)
      exact hq
  obtain ⟨M1, h1, F1, w1⟩ := key
  obtain ⟨M2, g2, H2, F2⟩ := m_three (M := M1) (tg := t) (oc := 0)
  obtain ⟨M3, g3, h3, F3⟩ := m_sendX (h1.fr49 (F2.mono (by decide) (by decide))) okp H2 (pAns_ok (by decide) (by omega)) hfr
  refine ⟨M3, w1 _ ?_, h3, ((F1.mono (by decide) (by decide)).tr (F2.mono (by decide) (by decide))).tr (F3.mono (by decide) (by decide)), fun j => by rw [F3 58 j (by decide) (by simp), F2 58 j (by decide) (by simp), F1 58 j (by decide) (by simp)]⟩
  generalize dl P (pAns t 0) 3 4 v = qq at g3 ⊢
  obtain ⟨q1, qb⟩ := qq
  dsimp only at g3 ⊢
  cases qb with
  | true =>
    refine r_aload_n dX6_done_265 rfl rfl ?_
    refine r_sipush 161 dX6_done_266 (by decide) ?_
    refine r_iload_n dX6_done_269 rfl rfl ?_
    refine r_iconst 0 dX6_done_270 (by decide) ?_
    refine gW3 (Y := mX6_three) (ci := 6) (N := 35) dX6_done_271 mlX6_190 vkX6_three (by first | rfl | assumption) ⟨by decide, rfl⟩ rfl g2 ?_
    refine r_aload_n dX6_done_274 rfl rfl ?_
    refine gV0 (Y := mX6_send) (ci := 6) (N := 35) dX6_done_275 mlX6_183 vkX6_send (by first | rfl | assumption) ⟨by decide, rfl⟩ rfl g3 ?_
    refine r_if_eq 285 dX6_done_278 (by decide) (fun c_278 => absurd c_278 (by decide)) (fun c_278 => ?_)
    refine r_iconst 0 dX6_done_281 (by decide) ?_
    refine r_goto 286 dX6_done_282 (by decide) ?_
    refine r_ireturn dX6_done_286 rfl (Nat.zero_le _) (Nat.zero_le _) ?_
    exact ⟨rfl, rfl⟩
  | false =>
    refine r_aload_n dX6_done_265 rfl rfl ?_
    refine r_sipush 161 dX6_done_266 (by decide) ?_
    refine r_iload_n dX6_done_269 rfl rfl ?_
    refine r_iconst 0 dX6_done_270 (by decide) ?_
    refine gW3 (Y := mX6_three) (ci := 6) (N := 35) dX6_done_271 mlX6_190 vkX6_three (by first | rfl | assumption) ⟨by decide, rfl⟩ rfl g2 ?_
    refine r_aload_n dX6_done_274 rfl rfl ?_
    refine gV0 (Y := mX6_send) (ci := 6) (N := 35) dX6_done_275 mlX6_183 vkX6_send (by first | rfl | assumption) ⟨by decide, rfl⟩ rfl g3 ?_
    refine r_if_eq 285 dX6_done_278 (by decide) (fun c_278 => ?_) (fun c_278 => absurd rfl c_278)
    refine r_iconst 1 dX6_done_285 (by decide) ?_
    refine r_ireturn dX6_done_286 rfl (Nat.zero_le _) (Nat.zero_le _) ?_
    exact ⟨rfl, rfl⟩
set_option maxHeartbeats 600000 in
set_option maxRecDepth 100000 in
theorem m_done_lp {M0 : Mem} {P : PL} {t kd fi mn : Nat} (ht : t < 8) (hkd : kd ≤ 3) (hmn : mn ≤ 4) (hk3 : kd = 3 → mn = 0) (hlast : lastN kd fi mn ≤ 31) (okp : okP P) (hc0 : CFm M0 t kd fi mn) : ∀ (e k : Nat) (M : Mem) (v : LSt) (d : DSt) (f : Nat → Int32), k + e = mn → MS M v d P → okD d → (kd ≠ 0 → kd ≠ 3 → ∀ j, j < 4 → M 58 (4 * t + j) = f j) → (kd = 0 → ∀ j, j < k → M 58 (4 * t + j) = f j) → v.1 + 4 * e + 4 < 2 ^ 31 → FrS fyC fyS M0 M → (∀ j, ¬ (4 * t ≤ j ∧ j < 4 * t + 4) → M 58 j = M0 58 j) → ∃ M', WP mX6_done 115 [some (.ref 40), some (.int (nI t)), some (.int (nI k)), none] [] 0 0 (shp, rfs, M) (fun r1 h1 => r1 = some (.int (nI (cmd2 P kd t (lpC P kd t fi e k v d f)).2.2.2)) ∧ h1 = (shp, rfs, M')) ∧ MS M' (cmd2 P kd t (lpC P kd t fi e k v d f)).1 (cmd2 P kd t (lpC P kd t fi e k v d f)).2.1 P ∧ (kd = 0 → (cmd2 P kd t (lpC P kd t fi e k v d f)).2.2.2 = 0 → ∀ j, j < mn → M' 58 (4 * t + j) = (cmd2 P kd t (lpC P kd t fi e k v d f)).2.2.1 j) ∧ FrS fyC fyS M0 M' ∧ (∀ j, ¬ (4 * t ≤ j ∧ j < 4 * t + 4) → M' 58 j = M0 58 j) := by
  have hcl : (nI t).toNatClampNeg = t := nI_clamp (by omega)
  intro e
  induction e with
  | zero =>
    intro k M v d f hk h ok hf1 hf2 hfr F hn0
    have hk : k = mn := by omega
    have hc := hc0.frS F (by decide) (by decide)
    obtain ⟨M', w, h', F', hn⟩ := m_done_end ht hkd h okp ok hc (by omega)
    have hr : cmd2 P kd t (lpC P kd t fi 0 k v d f) = ((dl P (pAns t 0) 3 4 v).1, (if kd = 3 then layD d else d), f, if (dl P (pAns t 0) 3 4 v).2 = true then 0 else 1) := by
      unfold cmd2 lpC
      rw [if_pos rfl]
    rw [hr]
    dsimp only
    refine ⟨M', ?_, h', fun z _ j hj => by rw [hn]; exact hf2 z j (by omega), F.tr F', fun j hj => by rw [hn]; exact hn0 j hj⟩
    refine r_iload_n dX6_done_115 rfl rfl ?_
    refine r_aload_n dX6_done_116 rfl rfl ?_
    refine r_getR (N := 35) dX6_done_117 fwX6_58 (by first | exact hc1 | exact hc2 | exact hc3 | rfl | exact hB1 | exact hB2 | exact hB3) (Nat.le_of_ble_eq_true rfl) rfl (by first | exact hc1 | exact hc2 | exact hc3 | rfl | exact hB1 | exact hB2 | exact hB3) ?_
    refine r_iload_n dX6_done_120 rfl rfl ?_
    refine r_iaload dX6_done_121 (by first | exact hc1 | exact hc2 | exact hc3 | rfl | exact hB1 | exact hB2 | exact hB3) (by exact vp_in_nI ht (by decide)) ?_
    rw [hcl, hc.2.2]
    refine r_icmp_ge 240 dX6_done_122 (by decide) (fun c_122 => ?_) (fun c_122 => absurd (nI_le (by omega) (by omega)) c_122)
    exact r_weak (by simp [lvle] <;> (repeat' apply And.intro) <;> first | rfl | decide) w
  | succ e ih =>
    intro k M v d f hk h ok hf1 hf2 hfr F hn0
    have hc := hc0.frS F (by decide) (by decide)
    have hkd3 : kd ≠ 3 := fun q => by have := hk3 q; omega
    have hs : fi + k < 32 := by
      unfold lastN at hlast
      rw [if_neg hkd3] at hlast
      omega
    have hix : 4 * nI t + nI k = nI (4 * t + k) := by rw [show (4 : Int32) * nI t = nI (4 * t) from pk_mul 4 t, nI_add]
    have hcx : (nI (4 * t + k)).toNatClampNeg = 4 * t + k := nI_clamp (by omega)
    have hvi : vp_in (nI (4 * t + k)) 32 := vp_in_nI (by omega) (by decide)
    -- the number stands in its place
    have fin : ∃ M1, FrS [58] [] M M1 ∧ M1 58 (4 * t + k) = (if kd = 0 then rds d (fi + k) else f k) ∧ (∀ j, j ≠ 4 * t + k → M1 58 j = M 58 j) ∧ (∀ Q, WP mX6_done 158 [some (.ref 40), some (.int (nI t)), some (.int (nI k)), some (.int (nI (fi + k)))] [] 0 0 (shp, rfs, M1) Q → WP mX6_done 115 [some (.ref 40), some (.int (nI t)), some (.int (nI k)), none] [] 0 0 (shp, rfs, M) Q) := by
      by_cases h0 : kd = 0
      · have g := m_reads h.2.2.1 ok hs
        refine ⟨upd2 M 58 (4 * t + k) (rds d (fi + k)), FrS.rf.upc (by decide), by rw [u_ss, if_pos h0], fun j hj => u_sn hj, fun Q hq => ?_⟩
        refine r_iload_n dX6_done_115 rfl rfl ?_
        refine r_aload_n dX6_done_116 rfl rfl ?_
        refine r_getR (N := 35) dX6_done_117 fwX6_58 (by first | exact hc1 | exact hc2 | exact hc3 | rfl | exact hB1 | exact hB2 | exact hB3) (Nat.le_of_ble_eq_true rfl) rfl (by first | exact hc1 | exact hc2 | exact hc3 | rfl | exact hB1 | exact hB2 | exact hB3) ?_
        refine r_iload_n dX6_done_120 rfl rfl ?_
        refine r_iaload dX6_done_121 (by first | exact hc1 | exact hc2 | exact hc3 | rfl | exact hB1 | exact hB2 | exact hB3) (by exact vp_in_nI ht (by decide)) ?_
        rw [hcl, hc.2.2]
        refine r_icmp_ge 240 dX6_done_122 (by decide) (fun c_122 => absurd c_122 (nI_ge (by omega) (by omega))) (fun c_122 => ?_)
        refine r_aload_n dX6_done_125 rfl rfl ?_
        refine r_getR (N := 35) dX6_done_126 fwX6_55 (by first | exact hc1 | exact hc2 | exact hc3 | rfl | exact hB1 | exact hB2 | exact hB3) (Nat.le_of_ble_eq_true rfl) rfl (by first | exact hc1 | exact hc2 | exact hc3 | rfl | exact hB1 | exact hB2 | exact hB3) ?_
        refine r_iload_n dX6_done_129 rfl rfl ?_
        refine r_iaload dX6_done_130 (by first | exact hc1 | exact hc2 | exact hc3 | rfl | exact hB1 | exact hB2 | exact hB3) (by exact vp_in_nI ht (by decide)) ?_
        rw [hcl, hc.2.1]
        refine r_iload_n dX6_done_131 rfl rfl ?_
        refine r_iadd dX6_done_132 ?_
        rw [nI_add]
        refine r_istore_n3 dX6_done_133 rfl (Nat.le_of_ble_eq_true rfl) ?_
        refine r_aload_n dX6_done_134 rfl rfl ?_
        refine r_getR (N := 35) dX6_done_135 fwX6_52 (by first | exact hc1 | exact hc2 | exact hc3 | rfl | exact hB1 | exact hB2 | exact hB3) (Nat.le_of_ble_eq_true rfl) rfl (by first | exact hc1 | exact hc2 | exact hc3 | rfl | exact hB1 | exact hB2 | exact hB3) ?_
        refine r_iload_n dX6_done_138 rfl rfl ?_
        refine r_iaload dX6_done_139 (by first | exact hc1 | exact hc2 | exact hc3 | rfl | exact hB1 | exact hB2 | exact hB3) (by exact vp_in_nI ht (by decide)) ?_
        rw [hcl, hc.1, h0]
        refine r_if_ne 158 dX6_done_140 (by decide) (fun c_140 => absurd rfl c_140) (fun c_140 => ?_)
        refine r_aload_n dX6_done_143 rfl rfl ?_
        refine r_getR (N := 35) dX6_done_144 fwX6_61 (by first | exact hc1 | exact hc2 | exact hc3 | rfl | exact hB1 | exact hB2 | exact hB3) (Nat.le_of_ble_eq_true rfl) rfl (by first | exact hc1 | exact hc2 | exact hc3 | rfl | exact hB1 | exact hB2 | exact hB3) ?_
        refine r_iconst 4 dX6_done_147 (by decide) ?_
        refine r_iload_n dX6_done_148 rfl rfl ?_
        refine r_imul dX6_done_149 ?_
        refine r_iload_n dX6_done_150 rfl rfl ?_
        refine r_iadd dX6_done_151 ?_
        refine r_aload_n dX6_done_152 rfl rfl ?_
        refine r_iload_n dX6_done_153 rfl rfl ?_
        refine gV1 (Y := mX6_reads) (ci := 6) (N := 35) dX6_done_154 mlX6_194 vkX6_reads (by first | exact hc1 | exact hc2 | exact hc3 | rfl | exact hB1 | exact hB2 | exact hB3) ⟨by decide, rfl⟩ rfl g ?_
        rw [hix]
        refine r_iastore dX6_done_157 (by first | exact hc1 | exact hc2 | exact hc3 | rfl | exact hB1 | exact hB2 | exact hB3) (by exact hvi) ?_
        rw [hcx]
        exact hq
      · refine ⟨M, FrS.rf, by rw [if_neg h0]; exact hf1 h0 hkd3 k (by omega), fun j _ => rfl, fun Q hq => ?_⟩
        refine r_iload_n dX6_done_115 rfl rfl ?_
        refine r_aload_n dX6_done_116 rfl rfl ?_
        refine r_getR (N := 35) dX6_done_117 fwX6_58 (by first | exact hc1 | exact hc2 | exact hc3 | rfl | exact hB1 | exact hB2 | exact hB3) (Nat.le_of_ble_eq_true rfl) rfl (by first | exact hc1 | exact hc2 | exact hc3 | rfl | exact hB1 | exact hB2 | exact hB3) ?_
        refine r_iload_n dX6_done_120 rfl rfl ?_
        refine r_iaload dX6_done_121 (by first | exact hc1 | exact hc2 | exact hc3 | rfl | exact hB1 | exact hB2 | exact hB3) (by exact vp_in_nI ht (by decide)) ?_
        rw [hcl, hc.2.2]
        refine r_icmp_ge 240 dX6_done_122 (by decide) (fun c_122 => absurd c_122 (nI_ge (by omega) (by omega))) (fun c_122 => ?_)
        refine r_aload_n dX6_done_125 rfl rfl ?_
        refine r_getR (N := 35) dX6_done_126 fwX6_55 (by first | exact hc1 | exact hc2 | exact hc3 | rfl | exact hB1 | exact hB2 | exact hB3) (Nat.le_of_ble_eq_true rfl) rfl (by first | exact hc1 | exact hc2 | exact hc3 | rfl | exact hB1 | exact hB2 | exact hB3) ?_
        refine r_iload_n dX6_done_129 rfl rfl ?_
        refine r_iaload dX6_done_130 (by first | exact hc1 | exact hc2 | exact hc3 | rfl | exact hB1 | exact hB2 | exact hB3) (by exact vp_in_nI ht (by decide)) ?_
        rw [hcl, hc.2.1]
        refine r_iload_n dX6_done_131 rfl rfl ?_
        refine r_iadd dX6_done_132 ?_
        rw [nI_add]
        refine r_istore_n3 dX6_done_133 rfl (Nat.le_of_ble_eq_true rfl) ?_
        refine r_aload_n dX6_done_134 rfl rfl ?_
        refine r_getR (N := 35) dX6_done_135 fwX6_52 (by first | exact hc1 | exact hc2 | exact hc3 | rfl | exact hB1 | exact hB2 | exact hB3) (Nat.le_of_ble_eq_true rfl) rfl (by first | exact hc1 | exact hc2 | exact hc3 | rfl | exact hB1 | exact hB2 | exact hB3) ?_
        refine r_iload_n dX6_done_138 rfl rfl ?_
        refine r_iaload dX6_done_139 (by first | exact hc1 | exact hc2 | exact hc3 | rfl | exact hB1 | exact hB2 | exact hB3) (by exact vp_in_nI ht (by decide)) ?_
        rw [hcl, hc.1]
        refine r_if_ne 158 dX6_done_140 (by decide) (fun c_140 => ?_) (fun c_140 => absurd c_140 (nI_ne0 (by omega) (by omega)))
        exact hq
    obtain ⟨M1, F1, e1, n1, w1⟩ := fin
    generalize hx : (if kd = 0 then rds d (fi + k) else f k) = x at e1
    have h1 := h.fr49 (F1.mono (cs' := [49, 58]) (ss' := [(40, 14)]) (by decide) (by decide))
    obtain ⟨M2, g2, H2, F2⟩ := m_number (M := M1) (tg := t) (x := x)
    obtain ⟨M3, g3, h3, F3⟩ := m_sendX (h1.fr49 (F2.mono (by decide) (by decide))) okp H2 (pNum_ok (by omega)) (by omega)
    have F13 : FrS fyC fyS M M3 := ((F1.mono (by decide) (by decide)).tr (F2.mono (by decide) (by decide))).tr (F3.mono (by decide) (by decide))
    have n3 : ∀ j, M3 58 j = M1 58 j := fun j => by rw [F3 58 j (by decide) (by simp), F2 58 j (by decide) (by simp)]
    have hc3 := hc.frS F13 (by decide) (by decide)
    have e3 : M3 58 (4 * t + k) = x := by rw [n3, e1]
    have hn3 : ∀ j, ¬ (4 * t ≤ j ∧ j < 4 * t + 4) → M3 58 j = M0 58 j := fun j hj => by rw [n3, n1 j (by omega)]; exact hn0 j hj
    have hfr1 := dl_fr P (pNum t x) 6 4 v
    generalize hq : dl P (pNum t x) 6 4 v = qq at g3 h3 hfr1
    obtain ⟨q1, qb⟩ := qq
    dsimp only at g3 h3 hfr1
    cases qb with
    | false =>
      have hr : cmd2 P kd t (lpC P kd t fi (e + 1) k v d f) = (q1, d, f, 1) := by
        rw [lpC_f hx hq, cmd2_f]
      rw [hr]
      dsimp only
      refine ⟨M3, w1 _ ?_, h3, fun _ z => absurd z (by decide), F.tr F13, hn3⟩
      clear hq hr
      refine r_aload_n dX6_done_158 rfl rfl ?_
      refine r_iload_n dX6_done_159 rfl rfl ?_
      refine r_aload_n dX6_done_160 rfl rfl ?_
      refine r_getR (N := 35) dX6_done_161 fwX6_61 (by first | exact hc1 | exact hc2 | exact hc3 | rfl | exact hB1 | exact hB2 | exact hB3) (Nat.le_of_ble_eq_true rfl) rfl (by first | exact hc1 | exact hc2 | exact hc3 | rfl | exact hB1 | exact hB2 | exact hB3) ?_
      refine r_iconst 4 dX6_done_164 (by decide) ?_
      refine r_iload_n dX6_done_165 rfl rfl ?_
      refine r_imul dX6_done_166 ?_
      refine r_iload_n dX6_done_167 rfl rfl ?_
      refine r_iadd dX6_done_168 ?_
      rw [hix]
      refine r_iaload dX6_done_169 (by first | exact hc1 | exact hc2 | exact hc3 | rfl | exact hB1 | exact hB2 | exact hB3) (by exact hvi) ?_
      rw [hcx, e1]
      refine gW2 (Y := mX6_number) (ci := 6) (N := 35) dX6_done_170 mlX6_197 vkX6_number (by first | exact hc1 | exact hc2 | exact hc3 | rfl | exact hB1 | exact hB2 | exact hB3) ⟨by decide, rfl⟩ rfl g2 ?_
      refine r_aload_n dX6_done_173 rfl rfl ?_
      refine gV0 (Y := mX6_send) (ci := 6) (N := 35) dX6_done_174 mlX6_183 vkX6_send (by first | exact hc1 | exact hc2 | exact hc3 | rfl | exact hB1 | exact hB2 | exact hB3) ⟨by decide, rfl⟩ rfl g3 ?_
      refine r_if_ne 182 dX6_done_177 (by decide) (fun c_177 => absurd rfl c_177) (fun c_177 => ?_)
      refine r_iconst 1 dX6_done_180 (by decide) ?_
      refine r_ireturn dX6_done_181 rfl (Nat.zero_le _) (Nat.zero_le _) ?_
      exact ⟨rfl, rfl⟩
    | true =>
      have key : ∃ M4 d4, (if kd = 0 then d else if kd = 1 then wrt d (fi + k) (f k) else thr d (fi + k) (f k)) = d4 ∧ okD d4 ∧ MS M4 q1 d4 P ∧ FrS [51, 52, 53] [(40, 18)] M3 M4 ∧ (∀ Q, WP mX6_done 115 [some (.ref 40), some (.int (nI t)), some (.int (nI (k + 1))), none] [] 0 0 (shp, rfs, M4) Q → WP mX6_done 182 [some (.ref 40), some (.int (nI t)), some (.int (nI k)), some (.int (nI (fi + k)))] [] 0 0 (shp, rfs, M3) Q) := by
        by_cases h0 : kd = 0
        · refine ⟨M3, d, if_pos h0, ok, h3, FrS.rf, fun Q hq => ?_⟩
          have hk0 : M3 55 t = 0 := by rw [hc3.1, h0]; rfl
          refine r_aload_n dX6_done_182 rfl rfl ?_
          refine r_getR (N := 35) dX6_done_183 fwX6_52 (by first | exact hc1 | exact hc2 | exact hc3 | rfl | exact hB1 | exact hB2 | exact hB3) (Nat.le_of_ble_eq_true rfl) rfl (by first | exact hc1 | exact hc2 | exact hc3 | rfl | exact hB1 | exact hB2 | exact hB3) ?_
          refine r_iload_n dX6_done_186 rfl rfl ?_
          refine r_iaload dX6_done_187 (by first | exact hc1 | exact hc2 | exact hc3 | rfl | exact hB1 | exact hB2 | exact hB3) (by exact vp_in_nI ht (by decide)) ?_
          refine r_iconst 2 dX6_done_188 (by decide) ?_
          rw [hcl, hk0]
          refine r_icmp_ne 210 dX6_done_189 (by decide) (fun c_189 => ?_) (fun c_189 => absurd c_189 (by decide))
          refine r_aload_n dX6_done_210 rfl rfl ?_
          refine r_getR (N := 35) dX6_done_211 fwX6_52 (by first | exact hc1 | exact hc2 | exact hc3 | rfl | exact hB1 | exact hB2 | exact hB3) (Nat.le_of_ble_eq_true rfl) rfl (by first | exact hc1 | exact hc2 | exact hc3 | rfl | exact hB1 | exact hB2 | exact hB3) ?_
          refine r_iload_n dX6_done_214 rfl rfl ?_
          refine r_iaload dX6_done_215 (by first | exact hc1 | exact hc2 | exact hc3 | rfl | exact hB1 | exact hB2 | exact hB3) (by exact vp_in_nI ht (by decide)) ?_
          rw [hcl, hk0]
          refine r_if_eq 234 dX6_done_216 (by decide) (fun c_216 => ?_) (fun c_216 => absurd rfl c_216)
          refine r_iinc_2 (_ + 1) dX6_done_234 rfl (Nat.le_of_ble_eq_true rfl) rfl ?_
          refine r_goto 115 dX6_done_237 (by decide) ?_
          rw [nI_1]
          exact r_weak (by simp [lvle] <;> (repeat' apply And.intro) <;> first | rfl | decide) hq
        · have hfk : f k = x := by rw [if_neg h0] at hx; exact hx
          by_cases h5 : kd = 1
          · obtain ⟨M4, g4, H4, F4⟩ := m_written (v := x) h3.2.2.1 ok hs
            refine ⟨M4, _, by rw [if_neg h0, if_pos h5, hfk], wrt_ok ok hs, h3.fr14 H4 F4, F4, fun Q hq => ?_⟩
            have hk1 : M3 55 t = 1 := by rw [hc3.1, h5]; rfl
            refine r_aload_n dX6_done_182 rfl rfl ?_
            refine r_getR (N := 35) dX6_done_183 fwX6_52 (by first | exact hc1 | exact hc2 | exact hc3 | rfl | exact hB1 | exact hB2 | exact hB3) (Nat.le_of_ble_eq_true rfl) rfl (by first | exact hc1 | exact hc2 | exact hc3 | rfl | exact hB1 | exact hB2 | exact hB3) ?_
            refine r_iload_n dX6_done_186 rfl rfl ?_
            refine r_iaload dX6_done_187 (by first | exact hc1 | exact hc2 | exact hc3 | rfl | exact hB1 | exact hB2 | exact hB3) (by exact vp_in_nI ht (by decide)) ?_
            refine r_iconst 2 dX6_done_188 (by decide) ?_
            rw [hcl, hk1]
            refine r_icmp_ne 210 dX6_done_189 (by decide) (fun c_189 => ?_) (fun c_189 => absurd c_189 (by decide))
            refine r_aload_n dX6_done_210 rfl rfl ?_
            refine r_getR (N := 35) dX6_done_211 fwX6_52 (by first | exact hc1 | exact hc2 | exact hc3 | rfl | exact hB1 | exact hB2 | exact hB3) (Nat.le_of_ble_eq_true rfl) rfl (by first | exact hc1 | exact hc2 | exact hc3 | rfl | exact hB1 | exact hB2 | exact hB3) ?_
            refine r_iload_n dX6_done_214 rfl rfl ?_
            refine r_iaload dX6_done_215 (by first | exact hc1 | exact hc2 | exact hc3 | rfl | exact hB1 | exact hB2 | exact hB3) (by exact vp_in_nI ht (by decide)) ?_
            rw [hcl, hk1]
            refine r_if_eq 234 dX6_done_216 (by decide) (fun c_216 => absurd c_216 (by decide)) (fun c_216 => ?_)
            refine r_aload_n dX6_done_219 rfl rfl ?_
            refine r_iload_n dX6_done_220 rfl rfl ?_
            refine r_aload_n dX6_done_221 rfl rfl ?_
            refine r_getR (N := 35) dX6_done_222 fwX6_61 (by first | exact hc1 | exact hc2 | exact hc3 | rfl | exact hB1 | exact hB2 | exact hB3) (Nat.le_of_ble_eq_true rfl) rfl (by first | exact hc1 | exact hc2 | exact hc3 | rfl | exact hB1 | exact hB2 | exact hB3) ?_
            refine r_iconst 4 dX6_done_225 (by decide) ?_
            refine r_iload_n dX6_done_226 rfl rfl ?_
            refine r_imul dX6_done_227 ?_
            refine r_iload_n dX6_done_228 rfl rfl ?_
            refine r_iadd dX6_done_229 ?_
            rw [hix]
            refine r_iaload dX6_done_230 (by first | exact hc1 | exact hc2 | exact hc3 | rfl | exact hB1 | exact hB2 | exact hB3) (by exact hvi) ?_
            rw [hcx, e3]
            refine gW2 (Y := mX6_written) (ci := 6) (N := 35) dX6_done_231 mlX6_204 vkX6_written (by first | exact hc1 | exact hc2 | exact hc3 | rfl | exact hB1 | exact hB2 | exact hB3) ⟨by decide, rfl⟩ rfl g4 ?_
            refine r_iinc_2 (_ + 1) dX6_done_234 rfl (Nat.le_of_ble_eq_true rfl) rfl ?_
            refine r_goto 115 dX6_done_237 (by decide) ?_
            rw [nI_1]
            exact r_weak (by simp [lvle] <;> (repeat' apply And.intro) <;> first | rfl | decide) hq
          · obtain ⟨M4, g4, H4, F4⟩ := m_through (v := x) h3.2.2.1 ok hs
            refine ⟨M4, _, by rw [if_neg h0, if_neg h5, hfk], thr_ok ok, h3.fr14 H4 F4, F4, fun Q hq => ?_⟩
            have hk2 : M3 55 t = 2 := by rw [hc3.1, show kd = 2 by omega]; rfl
            refine r_aload_n dX6_done_182 rfl rfl ?_
            refine r_getR (N := 35) dX6_done_183 fwX6_52 (by first | exact hc1 | exact hc2 | exact hc3 | rfl | exact hB1 | exact hB2 | exact hB3) (Nat.le_of_ble_eq_true rfl) rfl (by first | exact hc1 | exact hc2 | exact hc3 | rfl | exact hB1 | exact hB2 | exact hB3) ?_
            refine r_iload_n dX6_done_186 rfl rfl ?_
            refine r_iaload dX6_done_187 (by first | exact hc1 | exact hc2 | exact hc3 | rfl | exact hB1 | exact hB2 | exact hB3) (by exact vp_in_nI ht (by decide)) ?_
            refine r_iconst 2 dX6_done_188 (by decide) ?_
            rw [hcl, hk2]
            refine r_icmp_ne 210 dX6_done_189 (by decide) (fun c_189 => absurd rfl c_189) (fun c_189 => ?_)
            refine r_aload_n dX6_done_192 rfl rfl ?_
            refine r_iload_n dX6_done_193 rfl rfl ?_
            refine r_aload_n dX6_done_194 rfl rfl ?_
            refine r_getR (N := 35) dX6_done_195 fwX6_61 (by first | exact hc1 | exact hc2 | exact hc3 | rfl | exact hB1 | exact hB2 | exact hB3) (Nat.le_of_ble_eq_true rfl) rfl (by first | exact hc1 | exact hc2 | exact hc3 | rfl | exact hB1 | exact hB2 | exact hB3) ?_
            refine r_iconst 4 dX6_done_198 (by decide) ?_
            refine r_iload_n dX6_done_199 rfl rfl ?_
            refine r_imul dX6_done_200 ?_
            refine r_iload_n dX6_done_201 rfl rfl ?_
            refine r_iadd dX6_done_202 ?_
            rw [hix]
            refine r_iaload dX6_done_203 (by first | exact hc1 | exact hc2 | exact hc3 | rfl | exact hB1 | exact hB2 | exact hB3) (by exact hvi) ?_
            rw [hcx, e3]
            refine gW2 (Y := mX6_through) (ci := 6) (N := 35) dX6_done_204 mlX6_201 vkX6_through (by first | exact hc1 | exact hc2 | exact hc3 | rfl | exact hB1 | exact hB2 | exact hB3) ⟨by decide, rfl⟩ rfl g4 ?_
            refine r_goto 234 dX6_done_207 (by decide) ?_
            refine r_iinc_2 (_ + 1) dX6_done_234 rfl (Nat.le_of_ble_eq_true rfl) rfl ?_
            refine r_goto 115 dX6_done_237 (by decide) ?_
            rw [nI_1]
            exact r_weak (by simp [lvle] <;> (repeat' apply And.intro) <;> first | rfl | decide) hq
      obtain ⟨M4, d4, hd4, ok4, h4, F4, w4⟩ := key
      have n4 : ∀ j, M4 58 j = M1 58 j := fun j => by rw [F4 58 j (by decide) (by simp), n3]
      have hr := lpC_t (e := e) hx hq hd4 rfl
      rw [hr]
      obtain ⟨M', w, i1, i3, i4, i5⟩ := ih (k + 1) M4 q1 d4 (if kd = 0 then upd f k (rds d (fi + k)) else f) (by omega) h4 ok4 (fun z z3 j hj => by
          rw [if_neg z, n4]
          by_cases hjk : j = k
          · rw [hjk, e1, ← hx, if_neg z]
          · rw [n1 _ (by omega)]; exact hf1 z z3 j hj) (fun z j hj => by
          rw [if_pos z, n4]
          by_cases hjk : j = k
          · rw [hjk, e1, ← hx, if_pos z, upd_s]
          · rw [n1 _ (by omega), upd_n hjk]; exact hf2 z j (by omega)) (by omega) ((F.tr F13).tr (F4.mono (by decide) (by decide))) (fun j hj => by rw [F4 58 j (by decide) (by simp)]; exact hn3 j hj)
      refine ⟨M', w1 _ ?_, i1, i3, i4, i5⟩
      clear hq hr i1 i3 hd4 hx
      refine r_aload_n dX6_done_158 rfl rfl ?_
      refine r_iload_n dX6_done_159 rfl rfl ?_
      refine r_aload_n dX6_done_160 rfl rfl ?_
      refine r_getR (N := 35) dX6_done_161 fwX6_61 (by first | exact hc1 | exact hc2 | exact hc3 | rfl | exact hB1 | exact hB2 | exact hB3) (Nat.le_of_ble_eq_true rfl) rfl (by first | exact hc1 | exact hc2 | exact hc3 | rfl | exact hB1 | exact hB2 | exact hB3) ?_
      refine r_iconst 4 dX6_done_164 (by decide) ?_
      refine r_iload_n dX6_done_165 rfl rfl ?_
      refine r_imul dX6_done_166 ?_
      refine r_iload_n dX6_done_167 rfl rfl ?_
      refine r_iadd dX6_done_168 ?_
      rw [hix]
      refine r_iaload dX6_done_169 (by first | exact hc1 | exact hc2 | exact hc3 | rfl | exact hB1 | exact hB2 | exact hB3) (by exact hvi) ?_
      rw [hcx, e1]
      refine gW2 (Y := mX6_number) (ci := 6) (N := 35) dX6_done_170 mlX6_197 vkX6_number (by first | exact hc1 | exact hc2 | exact hc3 | rfl | exact hB1 | exact hB2 | exact hB3) ⟨by decide, rfl⟩ rfl g2 ?_
      refine r_aload_n dX6_done_173 rfl rfl ?_
      refine gV0 (Y := mX6_send) (ci := 6) (N := 35) dX6_done_174 mlX6_183 vkX6_send (by first | exact hc1 | exact hc2 | exact hc3 | rfl | exact hB1 | exact hB2 | exact hB3) ⟨by decide, rfl⟩ rfl g3 ?_
      refine r_if_ne 182 dX6_done_177 (by decide) (fun c_177 => ?_) (fun c_177 => absurd c_177 (by decide))
      exact w4 _ w
