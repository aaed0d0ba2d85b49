/-- the disk: its numbers, how many the cache has, their sectors, their numbers -/
abbrev DSt : Type := (Nat → Int32) × Nat × (Nat → Nat) × (Nat → Int32)
def DC (M : Mem) (d : DSt) : Prop := (∀ j, j < 32 → M 15 j = d.1 j) ∧ M 14 3 = nI d.2.1 ∧ ∀ j, j < d.2.1 → M 16 j = nI (d.2.2.1 j) ∧ M 17 j = d.2.2.2 j
def DM (M : Mem) (d : DSt) : Prop := (∀ j, j < 32 → M 51 j = d.1 j) ∧ M 40 18 = nI d.2.1 ∧ ∀ j, j < d.2.1 → M 52 j = nI (d.2.2.1 j) ∧ M 53 j = d.2.2.2 j
def okD (d : DSt) : Prop := d.2.1 ≤ 6 ∧ ∀ j, j < d.2.1 → d.2.2.1 j < 32
def fo (cs : Nat → Nat) (s : Nat) : Nat → Nat → Option Nat
  | 0, _ => none
  | d + 1, k => if cs k = s then some k else fo cs s d (k + 1)
def oI : Option Nat → Int32
  | none => -1
  | some i => nI i
theorem fo_some {cs : Nat → Nat} {s : Nat} : ∀ (d k i : Nat), fo cs s d k = some i → k ≤ i ∧ i < k + d ∧ cs i = s
  | 0, k, i, h => by cases h
  | d + 1, k, i, h => by
    simp only [fo] at h
    split at h
    · cases h; exact ⟨by omega, by omega, by assumption⟩
    · have := fo_some d (k + 1) i h
      exact ⟨by omega, by omega, this.2.2⟩
def sh {α : Type} (f : Nat → α) (i : Nat) : Nat → α := fun j => if j < i then f j else f (j + 1)
def rem (d : DSt) (i : Nat) : DSt := (d.1, d.2.1 - 1, sh d.2.2.1 i, sh d.2.2.2 i)
def plc (d : DSt) (s : Nat) : Option Nat := fo d.2.2.1 s d.2.1 0
def rds (d : DSt) (s : Nat) : Int32 := match plc d s with
  | none => d.1 s
  | some i => d.2.2.2 i
def wr1 (d : DSt) : DSt := if d.2.1 = 6 then rem (upd d.1 (d.2.2.1 0) (d.2.2.2 0), d.2.1, d.2.2.1, d.2.2.2) 0 else d
def wrt (d : DSt) (s : Nat) (v : Int32) : DSt := match plc d s with
  | some i => (d.1, d.2.1, d.2.2.1, upd d.2.2.2 i v)
  | none => ((wr1 d).1, (wr1 d).2.1 + 1, va_up (wr1 d).2.2.1 (wr1 d).2.1 s, upd (wr1 d).2.2.2 (wr1 d).2.1 v)
def thr (d : DSt) (s : Nat) (v : Int32) : DSt := match plc d s with
  | some i => (upd d.1 s v, (rem d i).2)
  | none => (upd d.1 s v, d.2)
def lyd (dk : Nat → Int32) (cs : Nat → Nat) (cn : Nat → Int32) : Nat → Nat → Int32
  | 0 => dk
  | k + 1 => upd (lyd dk cs cn k) (cs k) (cn k)
def layD (d : DSt) : DSt := (lyd d.1 d.2.2.1 d.2.2.2 d.2.1, 0, d.2.2.1, d.2.2.2)
theorem plc_some {d : DSt} {s i : Nat} (h : plc d s = some i) : i < d.2.1 ∧ d.2.2.1 i = s := by
  have := fo_some _ _ _ h
  exact ⟨by omega, this.2.2⟩
theorem rem_ok {d : DSt} {i : Nat} (h : okD d) : okD (rem d i) := by
  refine ⟨?_, fun j hj => ?_⟩
  · show d.2.1 - 1 ≤ 6
    have := h.1
    omega
  · have hj : j < d.2.1 - 1 := hj
    show sh d.2.2.1 i j < 32
    unfold sh
    split
    · exact h.2 j (by omega)
    · exact h.2 (j + 1) (by omega)
theorem wr1_ok {d : DSt} (h : okD d) : okD (wr1 d) ∧ (wr1 d).2.1 ≤ 5 := by
  unfold wr1
  split
  · have h1 : okD (upd d.1 (d.2.2.1 0) (d.2.2.2 0), d.2.1, d.2.2.1, d.2.2.2) := h
    refine ⟨rem_ok h1, ?_⟩
    show d.2.1 - 1 ≤ 5
    have := h.1
    omega
  · exact ⟨h, by have := h.1; omega⟩
theorem wrt_ok {d : DSt} {s : Nat} {v : Int32} (h : okD d) (hs : s < 32) : okD (wrt d s v) := by
  unfold wrt
  split
  · exact h
  · obtain ⟨h1, h2⟩ := wr1_ok h
    refine ⟨?_, fun j hj => ?_⟩
    · show (wr1 d).2.1 + 1 ≤ 6
      omega
    · have hj : j < (wr1 d).2.1 + 1 := hj
      show va_up _ _ _ j < 32
      unfold va_up
      split
      · exact hs
      · exact h1.2 j (by omega)
theorem thr_ok {d : DSt} {s : Nat} {v : Int32} (h : okD d) : okD (thr d s v) := by
  unfold thr
  split
  · exact rem_ok (d := d) h
  · exact h
theorem lay_ok {d : DSt} : okD (layD d) := ⟨by show 0 ≤ 6; omega, fun j hj => absurd hj (by show ¬ j < 0; omega)⟩
set_option maxHeartbeats 4000000 in
set_option maxRecDepth 100000 in
theorem x_plc_lp {M : Mem} {d : DSt} {s : Nat} (h : DC M d) (ok : okD d) (hs : s < 2 ^ 31) : ∀ (e k : Nat), k + e = d.2.1 → WP mX3_placeInCache 2 [some (.ref 14), some (.int (nI s)), some (.int (nI k))] [] 0 0 (shp, rfs, M) (fun r1 h1 => r1 = some (.int (oI (fo d.2.2.1 s e k))) ∧ h1 = (shp, rfs, M)) := by
  have u6 := ok.1
  intro e
  induction e with
  | zero =>
    intro k hk
    have hk : k = d.2.1 := by omega
    refine r_iload_n dX3_placeInCache_2 rfl rfl ?_
    refine r_aload_n dX3_placeInCache_3 rfl rfl ?_
    refine r_getI (N := 4) dX3_placeInCache_4 fwX3_28 (by first | rfl | assumption) (Nat.le_of_ble_eq_true rfl) rfl ?_
    refine r_icmp_ge 28 dX3_placeInCache_7 (by decide) (fun c_7 => ?_) (fun c_7 => absurd (by rw [h.2.1]; exact nI_le (by omega) (by omega)) c_7)
    refine r_iconst (-1) dX3_placeInCache_28 (by decide) ?_
    refine r_ireturn dX3_placeInCache_29 rfl (Nat.zero_le _) (Nat.zero_le _) ?_
    exact ⟨rfl, rfl⟩
  | succ e ih =>
    intro k hk
    have hcl : (nI k).toNatClampNeg = k := nI_clamp (by omega)
    have hc := ok.2 k (by omega)
    simp only [fo]
    refine r_iload_n dX3_placeInCache_2 rfl rfl ?_
    refine r_aload_n dX3_placeInCache_3 rfl rfl ?_
    refine r_getI (N := 4) dX3_placeInCache_4 fwX3_28 (by first | rfl | assumption) (Nat.le_of_ble_eq_true rfl) rfl ?_
    refine r_icmp_ge 28 dX3_placeInCache_7 (by decide) (fun c_7 => absurd c_7 (by rw [h.2.1]; exact nI_ge (by omega) (by omega))) (fun c_7 => ?_)
    refine r_aload_n dX3_placeInCache_10 rfl rfl ?_
    refine r_getR (N := 4) dX3_placeInCache_11 fwX3_15 (by first | rfl | assumption) (Nat.le_of_ble_eq_true rfl) rfl (by first | rfl | assumption) ?_
    refine r_iload_n dX3_placeInCache_14 rfl rfl ?_
    refine r_iaload dX3_placeInCache_15 (by first | rfl | assumption) (by exact vp_in_nI (by omega) (by decide)) ?_
    refine r_iload_n dX3_placeInCache_16 rfl rfl ?_
    rw [hcl, (h.2.2 k (by omega)).1]
    refine r_icmp_ne 22 dX3_placeInCache_17 (by decide) (fun c_17 => ?_) (fun c_17 => ?_)
    · refine r_iinc_2 (_ + 1) dX3_placeInCache_22 rfl (Nat.le_of_ble_eq_true rfl) rfl ?_
      refine r_goto 2 dX3_placeInCache_25 (by decide) ?_
      rw [nI_1, if_neg (fun q => c_17 (by rw [q]))]
      exact ih (k + 1) (by omega)
    · refine r_iload_n dX3_placeInCache_20 rfl rfl ?_
      refine r_ireturn dX3_placeInCache_21 rfl (Nat.zero_le _) (Nat.zero_le _) ?_
      rw [if_pos ((nI_eq (by omega) hs).mp c_17)]
      exact ⟨rfl, rfl⟩
set_option maxHeartbeats 4000000 in
set_option maxRecDepth 100000 in
theorem x_plc {M : Mem} {d : DSt} {s : Nat} (h : DC M d) (ok : okD d) (hs : s < 2 ^ 31) : Gv mX3_placeInCache [.ref 14, .int (nI s)] M (some (.int (oI (plc d s)))) M := by
  have hl := x_plc_lp h ok hs d.2.1 0 (by omega)
  refine con_of (lv := [some (.ref 14), some (.int (nI s)), none]) (by decide) rfl (Nat.le_of_ble_eq_true rfl) (by simp [lvle]) ?_
  refine r_iconst 0 dX3_placeInCache_0 (by decide) ?_
  refine r_istore_n2 dX3_placeInCache_1 rfl (Nat.le_of_ble_eq_true rfl) ?_
  exact hl
set_option maxHeartbeats 4000000 in
set_option maxRecDepth 100000 in
theorem m_plc_lp {M : Mem} {d : DSt} {s : Nat} (h : DM M d) (ok : okD d) (hs : s < 2 ^ 31) : ∀ (e k : Nat), k + e = d.2.1 → WP mX6_placeOf 2 [some (.ref 40), some (.int (nI s)), some (.int (nI k))] [] 0 0 (shp, rfs, M) (fun r1 h1 => r1 = some (.int (oI (fo d.2.2.1 s e k))) ∧ h1 = (shp, rfs, M)) := by
  have u6 := ok.1
  intro e
  induction e with
  | zero =>
    intro k hk
    have hk : k = d.2.1 := by omega
    refine r_iload_n dX6_placeOf_2 rfl rfl ?_
    refine r_aload_n dX6_placeOf_3 rfl rfl ?_
    refine r_getI (N := 35) dX6_placeOf_4 fwX6_171 (by first | rfl | assumption) (Nat.le_of_ble_eq_true rfl) rfl ?_
    refine r_icmp_ge 28 dX6_placeOf_7 (by decide) (fun c_7 => ?_) (fun c_7 => absurd (by rw [h.2.1]; exact nI_le (by omega) (by omega)) c_7)
    refine r_iconst (-1) dX6_placeOf_28 (by decide) ?_
    refine r_ireturn dX6_placeOf_29 rfl (Nat.zero_le _) (Nat.zero_le _) ?_
    exact ⟨rfl, rfl⟩
  | succ e ih =>
    intro k hk
    have hcl : (nI k).toNatClampNeg = k := nI_clamp (by omega)
    have hc := ok.2 k (by omega)
    simp only [fo]
    refine r_iload_n dX6_placeOf_2 rfl rfl ?_
    refine r_aload_n dX6_placeOf_3 rfl rfl ?_
    refine r_getI (N := 35) dX6_placeOf_4 fwX6_171 (by first | rfl | assumption) (Nat.le_of_ble_eq_true rfl) rfl ?_
    refine r_icmp_ge 28 dX6_placeOf_7 (by decide) (fun c_7 => absurd c_7 (by rw [h.2.1]; exact nI_ge (by omega) (by omega))) (fun c_7 => ?_)
    refine r_aload_n dX6_placeOf_10 rfl rfl ?_
    refine r_getR (N := 35) dX6_placeOf_11 fwX6_43 (by first | rfl | assumption) (Nat.le_of_ble_eq_true rfl) rfl (by first | rfl | assumption) ?_
    refine r_iload_n dX6_placeOf_14 rfl rfl ?_
    refine r_iaload dX6_placeOf_15 (by first | rfl | assumption) (by exact vp_in_nI (by omega) (by decide)) ?_
    refine r_iload_n dX6_placeOf_16 rfl rfl ?_
    rw [hcl, (h.2.2 k (by omega)).1]
    refine r_icmp_ne 22 dX6_placeOf_17 (by decide) (fun c_17 => ?_) (fun c_17 => ?_)
    · refine r_iinc_2 (_ + 1) dX6_placeOf_22 rfl (Nat.le_of_ble_eq_true rfl) rfl ?_
      refine r_goto 2 dX6_placeOf_25 (by decide) ?_
      rw [nI_1, if_neg (fun q => c_17 (by rw [q]))]
      exact ih (k + 1) (by omega)
    · refine r_iload_n dX6_placeOf_20 rfl rfl ?_
      refine r_ireturn dX6_placeOf_21 rfl (Nat.zero_le _) (Nat.zero_le _) ?_
      rw [if_pos ((nI_eq (by omega) hs).mp c_17)]
      exact ⟨rfl, rfl⟩
set_option maxHeartbeats 4000000 in
set_option maxRecDepth 100000 in
theorem m_plc {M : Mem} {d : DSt} {s : Nat} (h : DM M d) (ok : okD d) (hs : s < 2 ^ 31) : Gv mX6_placeOf [.ref 40, .int (nI s)] M (some (.int (oI (plc d s)))) M := by
  have hl := m_plc_lp h ok hs d.2.1 0 (by omega)
  refine con_of (lv := [some (.ref 40), some (.int (nI s)), none]) (by decide) rfl (Nat.le_of_ble_eq_true rfl) (by simp [lvle]) ?_
  refine r_iconst 0 dX6_placeOf_0 (by decide) ?_
  refine r_istore_n2 dX6_placeOf_1 rfl (Nat.le_of_ble_eq_true rfl) ?_
  exact hl
set_option maxHeartbeats 4000000 in
set_option maxRecDepth 100000 in
theorem x_onDisk {M : Mem} {s : Nat} (hs : s < 32) : Gv mX3_numberOnDisk [.ref 14, .int (nI s)] M (some (.int (M 15 s))) M := by
  have hcl : (nI s).toNatClampNeg = s := nI_clamp (by omega)
  refine con_of (lv := [some (.ref 14), some (.int (nI s))]) (by decide) rfl (Nat.le_of_ble_eq_true rfl) (by simp [lvle]) ?_
  refine r_iload_n dX3_numberOnDisk_0 rfl rfl ?_
  refine r_if_lt 22 dX3_numberOnDisk_1 (by decide) (fun c_1 => absurd c_1 (nI_pos (by omega))) (fun c_1 => ?_)
  refine r_iload_n dX3_numberOnDisk_4 rfl rfl ?_
  refine r_aload_n dX3_numberOnDisk_5 rfl rfl ?_
  refine r_getR (N := 4) dX3_numberOnDisk_6 fwX3_9 (by first | rfl | assumption) (Nat.le_of_ble_eq_true rfl) rfl (by first | rfl | assumption) ?_
  refine r_alen dX3_numberOnDisk_9 (by first | rfl | assumption) (by first | exact Or.inl rfl | exact Or.inr rfl) ?_
  refine r_icmp_ge 22 dX3_numberOnDisk_10 (by decide) (fun c_10 => absurd c_10 (nI_ge hs (by decide))) (fun c_10 => ?_)
  refine r_aload_n dX3_numberOnDisk_13 rfl rfl ?_
  refine r_getR (N := 4) dX3_numberOnDisk_14 fwX3_9 (by first | rfl | assumption) (Nat.le_of_ble_eq_true rfl) rfl (by first | rfl | assumption) ?_
  refine r_iload_n dX3_numberOnDisk_17 rfl rfl ?_
  refine r_iaload dX3_numberOnDisk_18 (by first | rfl | assumption) (by exact vp_in_nI hs (by decide)) ?_
  refine r_goto 23 dX3_numberOnDisk_19 (by decide) ?_
  refine r_ireturn dX3_numberOnDisk_23 rfl (Nat.zero_le _) (Nat.zero_le _) ?_
  rw [hcl]
  exact ⟨rfl, rfl⟩
set_option maxHeartbeats 4000000 in
set_option maxRecDepth 100000 in
theorem x_onDisk_o {M : Mem} {x : Int32} (h : x < 0 ∨ nI 32 ≤ x) : Gv mX3_numberOnDisk [.ref 14, .int x] M (some (.int 0)) M := by
  refine con_of (lv := [some (.ref 14), some (.int x)]) (by decide) rfl (Nat.le_of_ble_eq_true rfl) (by simp [lvle]) ?_
  refine r_iload_n dX3_numberOnDisk_0 rfl rfl ?_
  refine r_if_lt 22 dX3_numberOnDisk_1 (by decide) (fun c_1 => ?_) (fun c_1 => ?_)
  · refine r_iconst 0 dX3_numberOnDisk_22 (by decide) ?_
    refine r_ireturn dX3_numberOnDisk_23 rfl (Nat.zero_le _) (Nat.zero_le _) ?_
    exact ⟨rfl, rfl⟩
  · refine r_iload_n dX3_numberOnDisk_4 rfl rfl ?_
    refine r_aload_n dX3_numberOnDisk_5 rfl rfl ?_
    refine r_getR (N := 4) dX3_numberOnDisk_6 fwX3_9 (by first | rfl | assumption) (Nat.le_of_ble_eq_true rfl) rfl (by first | rfl | assumption) ?_
    refine r_alen dX3_numberOnDisk_9 (by first | rfl | assumption) (by first | exact Or.inl rfl | exact Or.inr rfl) ?_
    refine r_icmp_ge 22 dX3_numberOnDisk_10 (by decide) (fun c_10 => ?_) (fun c_10 => absurd h (fun q => q.elim c_1 c_10))
    refine r_iconst 0 dX3_numberOnDisk_22 (by decide) ?_
    refine r_ireturn dX3_numberOnDisk_23 rfl (Nat.zero_le _) (Nat.zero_le _) ?_
    exact ⟨rfl, rfl⟩
set_option maxHeartbeats 4000000 in
set_option maxRecDepth 100000 in
theorem x_put {M : Mem} {s : Nat} {v : Int32} (hs : s < 32) : Gv mX3_putOnDisk [.ref 14, .int (nI s), .int v] M none (upd2 M 15 s v) := by
  have hcl : (nI s).toNatClampNeg = s := nI_clamp (by omega)
  refine con_of (lv := [some (.ref 14), some (.int (nI s)), some (.int v)]) (by decide) rfl (Nat.le_of_ble_eq_true rfl) (by simp [lvle]) ?_
  refine r_iload_n dX3_putOnDisk_0 rfl rfl ?_
  refine r_if_lt 20 dX3_putOnDisk_1 (by decide) (fun c_1 => absurd c_1 (nI_pos (by omega))) (fun c_1 => ?_)
  refine r_iload_n dX3_putOnDisk_4 rfl rfl ?_
  refine r_aload_n dX3_putOnDisk_5 rfl rfl ?_
  refine r_getR (N := 4) dX3_putOnDisk_6 fwX3_9 (by first | rfl | assumption) (Nat.le_of_ble_eq_true rfl) rfl (by first | rfl | assumption) ?_
  refine r_alen dX3_putOnDisk_9 (by first | rfl | assumption) (by first | exact Or.inl rfl | exact Or.inr rfl) ?_
  refine r_icmp_ge 20 dX3_putOnDisk_10 (by decide) (fun c_10 => absurd c_10 (nI_ge hs (by decide))) (fun c_10 => ?_)
  refine r_aload_n dX3_putOnDisk_13 rfl rfl ?_
  refine r_getR (N := 4) dX3_putOnDisk_14 fwX3_9 (by first | rfl | assumption) (Nat.le_of_ble_eq_true rfl) rfl (by first | rfl | assumption) ?_
  refine r_iload_n dX3_putOnDisk_17 rfl rfl ?_
  refine r_iload_n dX3_putOnDisk_18 rfl rfl ?_
  refine r_iastore dX3_putOnDisk_19 (by first | rfl | assumption) (by exact vp_in_nI hs (by decide)) ?_
  refine r_return dX3_putOnDisk_20 rfl (Nat.zero_le _) (Nat.zero_le _) ?_
  rw [hcl]
  exact ⟨rfl, rfl⟩
set_option maxHeartbeats 4000000 in
set_option maxRecDepth 100000 in
theorem x_asRead {M : Mem} {d : DSt} {s : Nat} (h : DC M d) (ok : okD d) (hs : s < 32) : Gv mX3_numberAsRead [.ref 14, .int (nI s)] M (some (.int (rds d s))) M := by
  have g := x_plc h ok (s := s) (by omega)
  have g2 := x_onDisk (M := M) hs
  rw [h.1 s hs] at g2
  refine con_of (lv := [some (.ref 14), some (.int (nI s)), none]) (by decide) rfl (Nat.le_of_ble_eq_true rfl) (by simp [lvle]) ?_
  unfold rds
  cases hp : plc d s with
  | none =>
    rw [hp] at g
    refine r_aload_n dX3_numberAsRead_0 rfl rfl ?_
    refine r_iload_n dX3_numberAsRead_1 rfl rfl ?_
    refine gV1 (Y := mX3_placeInCache) (ci := 3) (N := 4) dX3_numberAsRead_2 mlX3_21 vkX3_placeInCache (by first | rfl | assumption) ⟨by decide, rfl⟩ rfl g ?_
    refine r_istore_n2 dX3_numberAsRead_5 rfl (Nat.le_of_ble_eq_true rfl) ?_
    refine r_iload_n dX3_numberAsRead_6 rfl rfl ?_
    refine r_if_lt 19 dX3_numberAsRead_7 (by decide) (fun c_7 => ?_) (fun c_7 => absurd (by decide) c_7)
    refine r_aload_n dX3_numberAsRead_19 rfl rfl ?_
    refine r_iload_n dX3_numberAsRead_20 rfl rfl ?_
    refine gV1 (Y := mX3_numberOnDisk) (ci := 3) (N := 4) dX3_numberAsRead_21 mlX3_25 vkX3_numberOnDisk (by first | rfl | assumption) ⟨by decide, rfl⟩ rfl g2 ?_
    refine r_ireturn dX3_numberAsRead_24 rfl (Nat.zero_le _) (Nat.zero_le _) ?_
    exact ⟨rfl, rfl⟩
  | some i =>
    rw [hp] at g
    have hi := (plc_some hp).1
    have u6 := ok.1
    have hcl : (nI i).toNatClampNeg = i := nI_clamp (by omega)
    refine r_aload_n dX3_numberAsRead_0 rfl rfl ?_
    refine r_iload_n dX3_numberAsRead_1 rfl rfl ?_
    refine gV1 (Y := mX3_placeInCache) (ci := 3) (N := 4) dX3_numberAsRead_2 mlX3_21 vkX3_placeInCache (by first | rfl | assumption) ⟨by decide, rfl⟩ rfl g ?_
    refine r_istore_n2 dX3_numberAsRead_5 rfl (Nat.le_of_ble_eq_true rfl) ?_
    refine r_iload_n dX3_numberAsRead_6 rfl rfl ?_
    refine r_if_lt 19 dX3_numberAsRead_7 (by decide) (fun c_7 => absurd c_7 (nI_pos (by omega))) (fun c_7 => ?_)
    refine r_aload_n dX3_numberAsRead_10 rfl rfl ?_
    refine r_getR (N := 4) dX3_numberAsRead_11 fwX3_18 (by first | rfl | assumption) (Nat.le_of_ble_eq_true rfl) rfl (by first | rfl | assumption) ?_
    refine r_iload_n dX3_numberAsRead_14 rfl rfl ?_
    refine r_iaload dX3_numberAsRead_15 (by first | rfl | assumption) (by exact vp_in_nI (by omega) (by decide)) ?_
    refine r_goto 24 dX3_numberAsRead_16 (by decide) ?_
    refine r_ireturn dX3_numberAsRead_24 rfl (Nat.zero_le _) (Nat.zero_le _) ?_
    rw [show (oI (some i)).toNatClampNeg = i from hcl, (h.2.2 i hi).2]
    exact ⟨rfl, rfl⟩
set_option maxHeartbeats 4000000 in
set_option maxRecDepth 100000 in
theorem m_reads {M : Mem} {d : DSt} {s : Nat} (h : DM M d) (ok : okD d) (hs : s < 32) : Gv mX6_reads [.ref 40, .int (nI s)] M (some (.int (rds d s))) M := by
  have g := m_plc h ok (s := s) (by omega)
  have hcs : (nI s).toNatClampNeg = s := nI_clamp (by omega)
  refine con_of (lv := [some (.ref 40), some (.int (nI s)), none]) (by decide) rfl (Nat.le_of_ble_eq_true rfl) (by simp [lvle]) ?_
  unfold rds
  cases hp : plc d s with
  | none =>
    rw [hp] at g
    refine r_aload_n dX6_reads_0 rfl rfl ?_
    refine r_iload_n dX6_reads_1 rfl rfl ?_
    refine gV1 (Y := mX6_placeOf) (ci := 6) (N := 35) dX6_reads_2 mlX6_177 vkX6_placeOf (by first | rfl | assumption) ⟨by decide, rfl⟩ rfl g ?_
    refine r_istore_n2 dX6_reads_5 rfl (Nat.le_of_ble_eq_true rfl) ?_
    refine r_iload_n dX6_reads_6 rfl rfl ?_
    refine r_iconst (-1) dX6_reads_7 (by decide) ?_
    refine r_icmp_ne 20 dX6_reads_8 (by decide) (fun c_8 => absurd rfl c_8) (fun c_8 => ?_)
    refine r_aload_n dX6_reads_11 rfl rfl ?_
    refine r_getR (N := 35) dX6_reads_12 fwX6_40 (by first | rfl | assumption) (Nat.le_of_ble_eq_true rfl) rfl (by first | rfl | assumption) ?_
    refine r_iload_n dX6_reads_15 rfl rfl ?_
    refine r_iaload dX6_reads_16 (by first | rfl | assumption) (by exact vp_in_nI hs (by decide)) ?_
    refine r_goto 26 dX6_reads_17 (by decide) ?_
    refine r_ireturn dX6_reads_26 rfl (Nat.zero_le _) (Nat.zero_le _) ?_
    rw [hcs, h.1 s hs]
    exact ⟨rfl, rfl⟩
  | some i =>
    rw [hp] at g
    have hi := (plc_some hp).1
    have u6 := ok.1
    have hcl : (nI i).toNatClampNeg = i := nI_clamp (by omega)
    refine r_aload_n dX6_reads_0 rfl rfl ?_
    refine r_iload_n dX6_reads_1 rfl rfl ?_
    refine gV1 (Y := mX6_placeOf) (ci := 6) (N := 35) dX6_reads_2 mlX6_177 vkX6_placeOf (by first | rfl | assumption) ⟨by decide, rfl⟩ rfl g ?_
    refine r_istore_n2 dX6_reads_5 rfl (Nat.le_of_ble_eq_true rfl) ?_
    refine r_iload_n dX6_reads_6 rfl rfl ?_
    refine r_iconst (-1) dX6_reads_7 (by decide) ?_
    refine r_icmp_ne 20 dX6_reads_8 (by decide) (fun c_8 => ?_) (fun c_8 => absurd c_8 (nI_ne_m1 (by omega)))
    refine r_aload_n dX6_reads_20 rfl rfl ?_
    refine r_getR (N := 35) dX6_reads_21 fwX6_46 (by first | rfl | assumption) (Nat.le_of_ble_eq_true rfl) rfl (by first | rfl | assumption) ?_
    refine r_iload_n dX6_reads_24 rfl rfl ?_
    refine r_iaload dX6_reads_25 (by first | rfl | assumption) (by exact vp_in_nI (by omega) (by decide)) ?_
    refine r_ireturn dX6_reads_26 rfl (Nat.zero_le _) (Nat.zero_le _) ?_
    rw [show (oI (some i)).toNatClampNeg = i from hcl, (h.2.2 i hi).2]
    exact ⟨rfl, rfl⟩
def shj {α : Type} (f : Nat → α) (i j : Nat) : Nat → α := fun q => if q < j then sh f i q else f q
theorem shj_up {f : Nat → Nat} {i j q : Nat} (hij : i ≤ j) (hq : q ≠ j) : shj f i (j + 1) q = shj f i j q := by
  unfold shj
  by_cases h : q < j
  · rw [if_pos h, if_pos (by omega)]
  · rw [if_neg h, if_neg (by omega)]
theorem shj_at {α : Type} {f : Nat → α} {i j : Nat} (hij : i ≤ j) : shj f i (j + 1) j = f (j + 1) := by
  unfold shj sh
  rw [if_pos (by omega), if_neg (by omega)]
theorem shj_up' {f : Nat → Int32} {i j q : Nat} (hij : i ≤ j) (hq : q ≠ j) : shj f i (j + 1) q = shj f i j q := by
  unfold shj
  by_cases h : q < j
  · rw [if_pos h, if_pos (by omega)]
  · rw [if_neg h, if_neg (by omega)]
theorem shj_i {α : Type} {f : Nat → α} {i q : Nat} : shj f i i q = f q := by
  unfold shj sh
  split <;> simp_all
theorem shj_l {α : Type} {f : Nat → α} {i j q : Nat} (h : q < j) : shj f i j q = sh f i q := if_pos h
theorem shj_h {α : Type} {f : Nat → α} {i j q : Nat} (h : ¬ q < j) : shj f i j q = f q := if_neg h
set_option maxHeartbeats 4000000 in
set_option maxRecDepth 100000 in
theorem x_rem_lp {M0 : Mem} {u i : Nat} {cs : Nat → Nat} {cn : Nat → Int32} (hu : u + 1 ≤ 6) (hi : i ≤ u) : ∀ (e j : Nat) (M : Mem), j + e = u → i ≤ j → M 14 3 = nI (u + 1) → (∀ q, q < u + 1 → M 16 q = nI (shj cs i j q) ∧ M 17 q = shj cn i j q) → FrS [16, 17] [(14, 3)] M0 M → ∃ M', WP mX3_removeFromCache 2 [some (.ref 14), none, some (.int (nI j))] [] 0 0 (shp, rfs, M) (fun r1 h1 => r1 = none ∧ h1 = (shp, rfs, M')) ∧ M' 14 3 = nI u ∧ (∀ q, q < u → M' 16 q = nI (sh cs i q) ∧ M' 17 q = sh cn i q) ∧ FrS [16, 17] [(14, 3)] M0 M' := by
  intro e
  induction e with
  | zero =>
    intro j M hj hij h3 h F
    have hj : j = u := by omega
    subst hj
    refine ⟨upd2 M 14 3 (nI j), ?_, u_ss, fun q hq => ?_, F.ups (by decide)⟩
    · refine r_iload_n dX3_removeFromCache_2 rfl rfl ?_
      refine r_aload_n dX3_removeFromCache_3 rfl rfl ?_
      refine r_getI (N := 4) dX3_removeFromCache_4 fwX3_28 (by first | rfl | assumption) (Nat.le_of_ble_eq_true rfl) rfl ?_
      refine r_iconst 1 dX3_removeFromCache_7 (by decide) ?_
      refine r_isub dX3_removeFromCache_8 ?_
      rw [h3, nI_m1]
      refine r_icmp_ge 46 dX3_removeFromCache_9 (by decide) (fun c_9 => ?_) (fun c_9 => absurd (nI_le (Nat.le_refl _) (by omega)) c_9)
      refine r_aload_n dX3_removeFromCache_46 rfl rfl ?_
      first | refine r_dupR dX3_removeFromCache_47 ?_ | refine r_dupI dX3_removeFromCache_47 ?_
      refine r_getI (N := 4) dX3_removeFromCache_48 fwX3_28 (by first | rfl | assumption) (Nat.le_of_ble_eq_true rfl) rfl ?_
      refine r_iconst 1 dX3_removeFromCache_51 (by decide) ?_
      refine r_isub dX3_removeFromCache_52 ?_
      refine r_putI (N := 4) dX3_removeFromCache_53 fwX3_28 (by first | rfl | assumption) (Nat.le_of_ble_eq_true rfl) rfl (Or.inl rfl) rfl rfl ?_
      refine r_return dX3_removeFromCache_56 rfl (Nat.zero_le _) (Nat.zero_le _) ?_
      rw [h3, nI_m1]
      exact ⟨rfl, rfl⟩
    · rw [u_nn (by decide), u_nn (by decide)]
      have := h q (by omega)
      rw [shj_l hq, shj_l hq] at this
      exact this
  | succ e ih =>
    intro j M hj hij h3 h F
    have c0 : (nI j).toNatClampNeg = j := nI_clamp (by omega)
    have c1 : (nI (j + 1)).toNatClampNeg = j + 1 := nI_clamp (by omega)
    have e1 : M 16 (j + 1) = nI (cs (j + 1)) := by rw [(h (j + 1) (by omega)).1, shj_h (by omega)]
    have e2 : M 17 (j + 1) = cn (j + 1) := by rw [(h (j + 1) (by omega)).2, shj_h (by omega)]
    obtain ⟨M', w, H', H2, F'⟩ := ih (j + 1) (upd2 (upd2 M 16 j (M 16 (j + 1))) 17 j (M 17 (j + 1))) (by omega) (by omega) (by rw [u_nn (by decide), u_nn (by decide)]; exact h3) (fun q hq => by
      rw [u_nn (show (16 : Nat) ≠ 17 by decide)]
      by_cases hqj : q = j
      · subst hqj
        rw [u_ss, u_ss, shj_at hij, shj_at hij, e1, e2]
        exact ⟨rfl, rfl⟩
      · rw [u_sn hqj, u_sn hqj, u_nn (by decide), shj_up hij hqj, shj_up' hij hqj]
        exact h q hq) ((F.upc (by decide)).upc (by decide))
    refine ⟨M', ?_, H', H2, F'⟩
    refine r_iload_n dX3_removeFromCache_2 rfl rfl ?_
    refine r_aload_n dX3_removeFromCache_3 rfl rfl ?_
    refine r_getI (N := 4) dX3_removeFromCache_4 fwX3_28 (by first | rfl | assumption) (Nat.le_of_ble_eq_true rfl) rfl ?_
    refine r_iconst 1 dX3_removeFromCache_7 (by decide) ?_
    refine r_isub dX3_removeFromCache_8 ?_
    rw [h3, nI_m1]
    refine r_icmp_ge 46 dX3_removeFromCache_9 (by decide) (fun c_9 => absurd c_9 (nI_ge (by omega) (by omega))) (fun c_9 => ?_)
    refine r_aload_n dX3_removeFromCache_12 rfl rfl ?_
    refine r_getR (N := 4) dX3_removeFromCache_13 fwX3_15 (by first | rfl | assumption) (Nat.le_of_ble_eq_true rfl) rfl (by first | rfl | assumption) ?_
    refine r_iload_n dX3_removeFromCache_16 rfl rfl ?_
    refine r_aload_n dX3_removeFromCache_17 rfl rfl ?_
    refine r_getR (N := 4) dX3_removeFromCache_18 fwX3_15 (by first | rfl | assumption) (Nat.le_of_ble_eq_true rfl) rfl (by first | rfl | assumption) ?_
    refine r_iload_n dX3_removeFromCache_21 rfl rfl ?_
    refine r_iconst 1 dX3_removeFromCache_22 (by decide) ?_
    refine r_iadd dX3_removeFromCache_23 ?_
    rw [nI_1]
    refine r_iaload dX3_removeFromCache_24 (by first | rfl | assumption) (by exact vp_in_nI (by omega) (by decide)) ?_
    rw [c1]
    refine r_iastore dX3_removeFromCache_25 (by first | rfl | assumption) (by exact vp_in_nI (by omega) (by decide)) ?_
    rw [c0]
    refine r_aload_n dX3_removeFromCache_26 rfl rfl ?_
    refine r_getR (N := 4) dX3_removeFromCache_27 fwX3_18 (by first | rfl | assumption) (Nat.le_of_ble_eq_true rfl) rfl (by first | rfl | assumption) ?_
    refine r_iload_n dX3_removeFromCache_30 rfl rfl ?_
    refine r_aload_n dX3_removeFromCache_31 rfl rfl ?_
    refine r_getR (N := 4) dX3_removeFromCache_32 fwX3_18 (by first | rfl | assumption) (Nat.le_of_ble_eq_true rfl) rfl (by first | rfl | assumption) ?_
    refine r_iload_n dX3_removeFromCache_35 rfl rfl ?_
    refine r_iconst 1 dX3_removeFromCache_36 (by decide) ?_
    refine r_iadd dX3_removeFromCache_37 ?_
    rw [nI_1]
    refine r_iaload dX3_removeFromCache_38 (by first | rfl | assumption) (by exact vp_in_nI (by omega) (by decide)) ?_
    rw [c1, u_nn (show (17 : Nat) ≠ 16 by decide)]
    refine r_iastore dX3_removeFromCache_39 (by first | rfl | assumption) (by exact vp_in_nI (by omega) (by decide)) ?_
    rw [c0]
    refine r_iinc_2 (_ + 1) dX3_removeFromCache_40 rfl (Nat.le_of_ble_eq_true rfl) rfl ?_
    refine r_goto 2 dX3_removeFromCache_43 (by decide) ?_
    rw [nI_1]
    exact w
set_option maxHeartbeats 4000000 in
set_option maxRecDepth 100000 in
theorem x_rem {M : Mem} {d : DSt} {i : Nat} (h : DC M d) (ok : okD d) (hi : i < d.2.1) : ∃ M', Gv mX3_removeFromCache [.ref 14, .int (nI i)] M none M' ∧ DC M' (rem d i) ∧ FrS [16, 17] [(14, 3)] M M' := by
  obtain ⟨u, hu⟩ : ∃ u, d.2.1 = u + 1 := ⟨d.2.1 - 1, by omega⟩
  have u6 := ok.1
  obtain ⟨M', w, H1, H2, F'⟩ := x_rem_lp (M0 := M) (u := u) (i := i) (cs := d.2.2.1) (cn := d.2.2.2) (by omega) (by omega) (u - i) i M (by omega) (Nat.le_refl _) (by rw [h.2.1, hu]) (fun q hq => by rw [shj_i, shj_i]; exact h.2.2 q (by omega)) FrS.rf
  refine ⟨M', ?_, ⟨fun j hj => ?_, ?_, fun j hj => ?_⟩, F'⟩
  · refine con_of (lv := [some (.ref 14), some (.int (nI i)), none]) (by decide) rfl (Nat.le_of_ble_eq_true rfl) (by simp [lvle]) ?_
    refine r_iload_n dX3_removeFromCache_0 rfl rfl ?_
    refine r_istore_n2 dX3_removeFromCache_1 rfl (Nat.le_of_ble_eq_true rfl) ?_
    exact r_weak (by simp [lvle] <;> (repeat' apply And.intro) <;> first | rfl | decide) w
  · rw [F' 15 j (by decide) (by simp)]; exact h.1 j hj
  · rw [H1]; show _ = nI (d.2.1 - 1); rw [hu]; rfl
  · have hj : j < d.2.1 - 1 := hj
    exact H2 j (by omega)
