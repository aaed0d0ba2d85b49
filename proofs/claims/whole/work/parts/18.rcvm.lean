set_option maxHeartbeats 4000000 in
set_option maxRecDepth 100000 in
theorem m_fw_lp {M : Mem} {k nb : Nat} {wo : Int32} (h01 : is01 (M 48) nb) (hw : 10 * k + 10 ≤ nb) (hn : nb ≤ 180) {Q : Option Value → Hp → Prop} (hq : WP mX6_findWord 35 [some (.ref 40), some (.int (nI k)), some (.int wo), some (.int (nI (xW (M 48) k))), none, none] [] 0 0 (shp, rfs, M) Q) : ∀ (d i : Nat), i + d = 10 → WP mX6_findWord 5 [some (.ref 40), some (.int (nI k)), some (.int wo), some (.int (nI (wrd (bN (M 48)) (10 * k) i))), some (.int (nI i)), none] [] 0 0 (shp, rfs, M) Q := by
  intro d
  induction d with
  | zero =>
    intro i hi
    have hi : i = 10 := by omega
    subst hi
    refine r_iload dX6_findWord_5 rfl ?_
    refine r_bipush 10 dX6_findWord_7 (by decide) ?_
    refine r_icmp_ge 35 dX6_findWord_9 (by decide) (fun c_9 => ?_) (fun c_9 => absurd (by decide) c_9)
    exact r_weak (by simp [lvle] <;> (repeat' apply And.intro) <;> first | rfl | decide) hq
  | succ d ih =>
    intro i hi
    have hcl : (nI (10 * k + i)).toNatClampNeg = 10 * k + i := nI_clamp (by omega)
    obtain ⟨e1, e2⟩ := bN_ok h01 (j := 10 * k + i) (by omega)
    have hix : 10 * nI k + nI i = nI (10 * k + i) := by rw [show (10 : Int32) * nI k = nI (10 * k) from pk_mul 10 k, nI_add]
    have hac : 2 * nI (wrd (bN (M 48)) (10 * k) i) + nI (bN (M 48) (10 * k + i)) = nI (wrd (bN (M 48)) (10 * k) (i + 1)) := by rw [show (2 : Int32) * nI (wrd (bN (M 48)) (10 * k) i) = nI (2 * wrd (bN (M 48)) (10 * k) i) from pk_mul 2 _, nI_add]; rfl
    refine r_iload dX6_findWord_5 rfl ?_
    refine r_bipush 10 dX6_findWord_7 (by decide) ?_
    refine r_icmp_ge 35 dX6_findWord_9 (by decide) (fun c_9 => absurd c_9 (nI_ge (a := i) (b := 10) (by omega) (by decide))) (fun c_9 => ?_)
    refine r_iconst 2 dX6_findWord_12 (by decide) ?_
    refine r_iload_n dX6_findWord_13 rfl rfl ?_
    refine r_imul dX6_findWord_14 ?_
    refine r_aload_n dX6_findWord_15 rfl rfl ?_
    refine r_getR (N := 35) dX6_findWord_16 fwX6_31 (by first | rfl | assumption) (Nat.le_of_ble_eq_true rfl) rfl (by first | rfl | assumption) ?_
    refine r_bipush 10 dX6_findWord_19 (by decide) ?_
    refine r_iload_n dX6_findWord_21 rfl rfl ?_
    refine r_imul dX6_findWord_22 ?_
    refine r_iload dX6_findWord_23 rfl ?_
    refine r_iadd dX6_findWord_25 ?_
    rw [hix]
    refine r_iaload dX6_findWord_26 (by first | rfl | assumption) (by exact vp_in_nI (by omega) (by decide)) ?_
    rw [hcl, e1]
    refine r_iadd dX6_findWord_27 ?_
    rw [hac]
    refine r_istore_n3 dX6_findWord_28 rfl (Nat.le_of_ble_eq_true rfl) ?_
    refine r_iinc_4 (_ + 1) dX6_findWord_29 rfl (Nat.le_of_ble_eq_true rfl) rfl ?_
    refine r_goto 5 dX6_findWord_32 (by decide) ?_
    rw [nI_1]
    exact ih (i + 1) (by omega)
set_option maxHeartbeats 4000000 in
set_option maxRecDepth 100000 in
theorem m_fw_tail {M : Mem} {k l : Nat} {x : Int32} (hk : k ≤ l) (hl : l ≤ 17) {b v : Option Value} : WP mX6_findWord 135 [some (.ref 40), some (.int (nI k)), some (.int (nI (l + 1))), some (.int x), none, none] [] 0 0 (shp, rfs, M) (fun r1 h1 => r1 = some (.int (if misp (M 50 k) k l = true then 3 else 0)) ∧ h1 = (shp, rfs, M)) := by
  have hcl : (nI k).toNatClampNeg = k := nI_clamp (by omega)
  by_cases h0 : k = 0
  · subst h0
    refine r_iload_n dX6_findWord_135 rfl rfl ?_
    refine r_if_ne 159 dX6_findWord_136 (by decide) (fun c_136 => absurd nI_0 c_136) (fun c_136 => ?_)
    refine r_aload_n dX6_findWord_139 rfl rfl ?_
    refine r_getR (N := 35) dX6_findWord_140 fwX6_37 (by first | rfl | assumption) (Nat.le_of_ble_eq_true rfl) rfl (by first | rfl | assumption) ?_
    refine r_iload_n dX6_findWord_143 rfl rfl ?_
    refine r_iaload dX6_findWord_144 (by first | rfl | assumption) (by exact vp_in_nI (by omega) (by decide)) ?_
    refine r_sipush 256 dX6_findWord_145 (by decide) ?_
    rw [hcl]
    refine r_icmp_ne 155 dX6_findWord_148 (by decide) (fun c_148 => ?_) (fun c_148 => ?_)
    · refine r_iconst 0 dX6_findWord_155 (by decide) ?_
      refine r_goto 203 dX6_findWord_156 (by decide) ?_
      refine r_istore_5 dX6_findWord_203 rfl (Nat.le_of_ble_eq_true rfl) ?_
      refine r_iload dX6_findWord_205 rfl ?_
      refine r_if_eq 214 dX6_findWord_207 (by decide) (fun c_207 => ?_) (fun c_207 => ?_)
      · refine r_iconst 3 dX6_findWord_214 (by decide) ?_
        refine r_ireturn dX6_findWord_215 rfl (Nat.zero_le _) (Nat.zero_le _) ?_
        refine ⟨?_, rfl⟩
        unfold misp
        rw [if_pos rfl]
        first | (rw [decide_eq_true c_148, if_pos rfl]; exact absurd rfl c_207) | (rw [decide_eq_true c_148, if_pos rfl]) | (rw [decide_eq_false (fun q => q c_148)]; rfl) | exact absurd c_207 (by decide)
      · refine r_iconst 0 dX6_findWord_210 (by decide) ?_
        refine r_goto 215 dX6_findWord_211 (by decide) ?_
        refine r_ireturn dX6_findWord_215 rfl (Nat.zero_le _) (Nat.zero_le _) ?_
        refine ⟨?_, rfl⟩
        unfold misp
        rw [if_pos rfl]
        first | (rw [decide_eq_true c_148, if_pos rfl]; exact absurd rfl c_207) | (rw [decide_eq_true c_148, if_pos rfl]) | (rw [decide_eq_false (fun q => q c_148)]; rfl) | exact absurd c_207 (by decide)
    · refine r_iconst 1 dX6_findWord_151 (by decide) ?_
      refine r_goto 203 dX6_findWord_152 (by decide) ?_
      refine r_istore_5 dX6_findWord_203 rfl (Nat.le_of_ble_eq_true rfl) ?_
      refine r_iload dX6_findWord_205 rfl ?_
      refine r_if_eq 214 dX6_findWord_207 (by decide) (fun c_207 => ?_) (fun c_207 => ?_)
      · refine r_iconst 3 dX6_findWord_214 (by decide) ?_
        refine r_ireturn dX6_findWord_215 rfl (Nat.zero_le _) (Nat.zero_le _) ?_
        refine ⟨?_, rfl⟩
        unfold misp
        rw [if_pos rfl]
        first | (rw [decide_eq_true c_148, if_pos rfl]; exact absurd rfl c_207) | (rw [decide_eq_true c_148, if_pos rfl]) | (rw [decide_eq_false (fun q => q c_148)]; rfl) | exact absurd c_207 (by decide)
      · refine r_iconst 0 dX6_findWord_210 (by decide) ?_
        refine r_goto 215 dX6_findWord_211 (by decide) ?_
        refine r_ireturn dX6_findWord_215 rfl (Nat.zero_le _) (Nat.zero_le _) ?_
        refine ⟨?_, rfl⟩
        unfold misp
        rw [if_pos rfl]
        first | (rw [decide_eq_true c_148, if_pos rfl]; exact absurd rfl c_207) | (rw [decide_eq_true c_148, if_pos rfl]) | (rw [decide_eq_false (fun q => q c_148)]; rfl) | exact absurd c_207 (by decide)
  · have hn0 : ¬ nI k = 0 := nI_ne0 (by omega) (by omega)
    by_cases hkl : k = l
    · subst hkl
      refine r_iload_n dX6_findWord_135 rfl rfl ?_
      refine r_if_ne 159 dX6_findWord_136 (by decide) (fun c_136 => ?_) (fun c_136 => absurd c_136 hn0)
      refine r_iload_n dX6_findWord_159 rfl rfl ?_
      refine r_iload_n dX6_findWord_160 rfl rfl ?_
      refine r_iconst 1 dX6_findWord_161 (by decide) ?_
      refine r_isub dX6_findWord_162 ?_
      rw [nI_m1]
      refine r_icmp_ne 186 dX6_findWord_163 (by decide) (fun c_163 => absurd rfl c_163) (fun c_163 => ?_)
      refine r_aload_n dX6_findWord_166 rfl rfl ?_
      refine r_getR (N := 35) dX6_findWord_167 fwX6_37 (by first | rfl | assumption) (Nat.le_of_ble_eq_true rfl) rfl (by first | rfl | assumption) ?_
      refine r_iload_n dX6_findWord_170 rfl rfl ?_
      refine r_iaload dX6_findWord_171 (by first | rfl | assumption) (by exact vp_in_nI (by omega) (by decide)) ?_
      refine r_sipush 257 dX6_findWord_172 (by decide) ?_
      rw [hcl]
      refine r_icmp_ne 182 dX6_findWord_175 (by decide) (fun c_175 => ?_) (fun c_175 => ?_)
      · refine r_iconst 0 dX6_findWord_182 (by decide) ?_
        refine r_goto 203 dX6_findWord_183 (by decide) ?_
        refine r_istore_5 dX6_findWord_203 rfl (Nat.le_of_ble_eq_true rfl) ?_
        refine r_iload dX6_findWord_205 rfl ?_
        refine r_if_eq 214 dX6_findWord_207 (by decide) (fun c_207 => ?_) (fun c_207 => ?_)
        · refine r_iconst 3 dX6_findWord_214 (by decide) ?_
          refine r_ireturn dX6_findWord_215 rfl (Nat.zero_le _) (Nat.zero_le _) ?_
          refine ⟨?_, rfl⟩
          unfold misp
          rw [if_neg h0, if_pos rfl]
          first | (rw [decide_eq_true c_175, if_pos rfl]; exact absurd rfl c_207) | (rw [decide_eq_true c_175, if_pos rfl]) | (rw [decide_eq_false (fun q => q c_175)]; rfl) | exact absurd c_207 (by decide)
        · refine r_iconst 0 dX6_findWord_210 (by decide) ?_
          refine r_goto 215 dX6_findWord_211 (by decide) ?_
          refine r_ireturn dX6_findWord_215 rfl (Nat.zero_le _) (Nat.zero_le _) ?_
          refine ⟨?_, rfl⟩
          unfold misp
          rw [if_neg h0, if_pos rfl]
          first | (rw [decide_eq_true c_175, if_pos rfl]; exact absurd rfl c_207) | (rw [decide_eq_true c_175, if_pos rfl]) | (rw [decide_eq_false (fun q => q c_175)]; rfl) | exact absurd c_207 (by decide)
      · refine r_iconst 1 dX6_findWord_178 (by decide) ?_
        refine r_goto 203 dX6_findWord_179 (by decide) ?_
        refine r_istore_5 dX6_findWord_203 rfl (Nat.le_of_ble_eq_true rfl) ?_
        refine r_iload dX6_findWord_205 rfl ?_
        refine r_if_eq 214 dX6_findWord_207 (by decide) (fun c_207 => ?_) (fun c_207 => ?_)
        · refine r_iconst 3 dX6_findWord_214 (by decide) ?_
          refine r_ireturn dX6_findWord_215 rfl (Nat.zero_le _) (Nat.zero_le _) ?_
          refine ⟨?_, rfl⟩
          unfold misp
          rw [if_neg h0, if_pos rfl]
          first | (rw [decide_eq_true c_175, if_pos rfl]; exact absurd rfl c_207) | (rw [decide_eq_true c_175, if_pos rfl]) | (rw [decide_eq_false (fun q => q c_175)]; rfl) | exact absurd c_207 (by decide)
        · refine r_iconst 0 dX6_findWord_210 (by decide) ?_
          refine r_goto 215 dX6_findWord_211 (by decide) ?_
          refine r_ireturn dX6_findWord_215 rfl (Nat.zero_le _) (Nat.zero_le _) ?_
          refine ⟨?_, rfl⟩
          unfold misp
          rw [if_neg h0, if_pos rfl]
          first | (rw [decide_eq_true c_175, if_pos rfl]; exact absurd rfl c_207) | (rw [decide_eq_true c_175, if_pos rfl]) | (rw [decide_eq_false (fun q => q c_175)]; rfl) | exact absurd c_207 (by decide)
    · refine r_iload_n dX6_findWord_135 rfl rfl ?_
      refine r_if_ne 159 dX6_findWord_136 (by decide) (fun c_136 => ?_) (fun c_136 => absurd c_136 hn0)
      refine r_iload_n dX6_findWord_159 rfl rfl ?_
      refine r_iload_n dX6_findWord_160 rfl rfl ?_
      refine r_iconst 1 dX6_findWord_161 (by decide) ?_
      refine r_isub dX6_findWord_162 ?_
      rw [nI_m1]
      refine r_icmp_ne 186 dX6_findWord_163 (by decide) (fun c_163 => ?_) (fun c_163 => absurd ((nI_eq (by omega) (by omega)).mp c_163) hkl)
      refine r_aload_n dX6_findWord_186 rfl rfl ?_
      refine r_getR (N := 35) dX6_findWord_187 fwX6_37 (by first | rfl | assumption) (Nat.le_of_ble_eq_true rfl) rfl (by first | rfl | assumption) ?_
      refine r_iload_n dX6_findWord_190 rfl rfl ?_
      refine r_iaload dX6_findWord_191 (by first | rfl | assumption) (by exact vp_in_nI (by omega) (by decide)) ?_
      refine r_sipush 256 dX6_findWord_192 (by decide) ?_
      rw [hcl]
      refine r_icmp_ge 202 dX6_findWord_195 (by decide) (fun c_195 => ?_) (fun c_195 => ?_)
      · refine r_iconst 0 dX6_findWord_202 (by decide) ?_
        refine r_istore_5 dX6_findWord_203 rfl (Nat.le_of_ble_eq_true rfl) ?_
        refine r_iload dX6_findWord_205 rfl ?_
        refine r_if_eq 214 dX6_findWord_207 (by decide) (fun c_207 => ?_) (fun c_207 => ?_)
        · refine r_iconst 3 dX6_findWord_214 (by decide) ?_
          refine r_ireturn dX6_findWord_215 rfl (Nat.zero_le _) (Nat.zero_le _) ?_
          refine ⟨?_, rfl⟩
          unfold misp
          rw [if_neg h0, if_neg hkl]
          first | (rw [decide_eq_true c_195, if_pos rfl]; exact absurd rfl c_207) | (rw [decide_eq_true c_195, if_pos rfl]) | (rw [decide_eq_false c_195]; rfl) | exact absurd c_207 (by decide)
        · refine r_iconst 0 dX6_findWord_210 (by decide) ?_
          refine r_goto 215 dX6_findWord_211 (by decide) ?_
          refine r_ireturn dX6_findWord_215 rfl (Nat.zero_le _) (Nat.zero_le _) ?_
          refine ⟨?_, rfl⟩
          unfold misp
          rw [if_neg h0, if_neg hkl]
          first | (rw [decide_eq_true c_195, if_pos rfl]; exact absurd rfl c_207) | (rw [decide_eq_true c_195, if_pos rfl]) | (rw [decide_eq_false c_195]; rfl) | exact absurd c_207 (by decide)
      · refine r_iconst 1 dX6_findWord_198 (by decide) ?_
        refine r_goto 203 dX6_findWord_199 (by decide) ?_
        refine r_istore_5 dX6_findWord_203 rfl (Nat.le_of_ble_eq_true rfl) ?_
        refine r_iload dX6_findWord_205 rfl ?_
        refine r_if_eq 214 dX6_findWord_207 (by decide) (fun c_207 => ?_) (fun c_207 => ?_)
        · refine r_iconst 3 dX6_findWord_214 (by decide) ?_
          refine r_ireturn dX6_findWord_215 rfl (Nat.zero_le _) (Nat.zero_le _) ?_
          refine ⟨?_, rfl⟩
          unfold misp
          rw [if_neg h0, if_neg hkl]
          first | (rw [decide_eq_true c_195, if_pos rfl]; exact absurd rfl c_207) | (rw [decide_eq_true c_195, if_pos rfl]) | (rw [decide_eq_false c_195]; rfl) | exact absurd c_207 (by decide)
        · refine r_iconst 0 dX6_findWord_210 (by decide) ?_
          refine r_goto 215 dX6_findWord_211 (by decide) ?_
          refine r_ireturn dX6_findWord_215 rfl (Nat.zero_le _) (Nat.zero_le _) ?_
          refine ⟨?_, rfl⟩
          unfold misp
          rw [if_neg h0, if_neg hkl]
          first | (rw [decide_eq_true c_195, if_pos rfl]; exact absurd rfl c_207) | (rw [decide_eq_true c_195, if_pos rfl]) | (rw [decide_eq_false c_195]; rfl) | exact absurd c_207 (by decide)
