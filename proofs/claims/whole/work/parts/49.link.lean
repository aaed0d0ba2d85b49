def KA : Int32 := 65535
def KB : Int32 := 40977
def scI : Nat → Int32 → Int32 → Int32 × Int32
  | 0, a, r => (a, r)
  | d + 1, a, r => scI d ((a <<< ((1 : Int32) &&& 31)) ||| us r 15) (if us r 15 = 1 then ((r <<< ((1 : Int32) &&& 31)) &&& KA) ^^^ KB else (r <<< ((1 : Int32) &&& 31)) &&& KA)
def scR : Nat → Int32
  | 0 => KA
  | i + 1 => (scI 8 0 (scR i)).2
set_option maxRecDepth 100000 in
theorem scR_tab : ∀ i, i < 16 → (scI 8 0 (scR i)).1 = sc i := by decide +kernel
abbrev L4 (l : List (Nat × Nat × Nat)) : List (Nat × Nat × Nat) := (4, 0, 1) :: (4, 9, 13) :: (4, 7, 12) :: (4, 6, 11) :: (4, 4, 10) :: (4, 3, 8) :: (8, 0, 9) :: (4, 2, 6) :: (6, 0, 7) :: (4, 1, 5) :: l
set_option maxHeartbeats 600000 in
set_option maxRecDepth 100000 in
theorem x4_in {l : List (Nat × Nat × Nat)} {i : Nat} (hi : i < 16) {Q : Option Value → Hp → Prop} : ∀ (d j : Nat) (r : Int32) (M : Mem), j + d = 8 → (∀ M', M' 5 i = (scI d (M 5 i) r).1 → (∀ a k, ¬ (a = 5 ∧ k = i) → M' a k = M a k) → WP mX4_init 140 [some (.ref 4), some (.ref 1), some (.int (scI d (M 5 i) r).2), some (.int (nI i)), none, none] [] 9 308 (shp.take 14, RLf (L4 l), M') Q) → WP mX4_init 86 [some (.ref 4), some (.ref 1), some (.int r), some (.int (nI i)), some (.int (nI j)), none] [] 9 308 (shp.take 14, RLf (L4 l), M) Q
  | 0, j, r, M, hd, hq => by
    have hj : j = 8 := by omega
    subst hj
    refine r_iload dX4_init_86 rfl ?_
    refine r_bipush 8 dX4_init_88 (by decide) ?_
    refine r_icmp_ge 140 dX4_init_90 (by decide) (fun c_90 => ?_) (fun c_90 => absurd (by decide) c_90)
    exact r_weak (by simp [lvle] <;> (repeat' apply And.intro) <;> first | rfl | decide) (hq M rfl (fun _ _ _ => rfl))
  | d + 1, j, r, M, hd, hq => by
    have hlt : ¬ (8 : Int32) ≤ nI j := nI_ge (a := j) (b := 8) (by omega) (by decide)
    have hci : (nI i).toNatClampNeg = i := nI_clamp (by omega)
    by_cases h1 : us r 15 = 1
    · have ih := x4_in (l := l) hi (Q := Q) d (j + 1) (((r <<< ((1 : Int32) &&& 31)) &&& KA) ^^^ KB) (upd2 M 5 i ((M 5 i <<< ((1 : Int32) &&& 31)) ||| us r 15)) (by omega) (fun M' e1 e2 => by
        rw [u_ss] at e1 ⊢
        have := hq M' (by rw [e1]; simp only [scI]; rw [if_pos h1]) (fun a k z => by rw [e2 a k z]; by_cases z1 : a = 5; · { subst z1; rw [u_sn (fun q => z ⟨rfl, q⟩)] }; · { rw [u_nn z1] })
        simp only [scI] at this
        rw [if_pos h1] at this
        exact this)
      refine r_iload dX4_init_86 rfl ?_
      refine r_bipush 8 dX4_init_88 (by decide) ?_
      refine r_icmp_ge 140 dX4_init_90 (by decide) (fun c_90 => absurd c_90 hlt) (fun c_90 => ?_)
      refine r_iload_n dX4_init_93 rfl rfl ?_
      refine r_bipush 15 dX4_init_94 (by decide) ?_
      refine r_iushr dX4_init_96 ?_
      refine r_istore_5 dX4_init_97 rfl (Nat.le_of_ble_eq_true rfl) ?_
      refine r_aload_n dX4_init_99 rfl rfl ?_
      refine r_getR (N := 13) dX4_init_100 fwX4_9 (by first | rfl | assumption) (Nat.le_of_ble_eq_true rfl) rfl (by first | rfl | assumption) ?_
      refine r_iload_n dX4_init_103 rfl rfl ?_
      refine r_aload_n dX4_init_104 rfl rfl ?_
      refine r_getR (N := 13) dX4_init_105 fwX4_9 (by first | rfl | assumption) (Nat.le_of_ble_eq_true rfl) rfl (by first | rfl | assumption) ?_
      refine r_iload_n dX4_init_108 rfl rfl ?_
      try rw [hci]
      refine r_iaload dX4_init_109 (by first | rfl | assumption) (by exact vp_in_nI (by omega) (by decide)) ?_
      rw [hci]
      refine r_iconst 1 dX4_init_110 (by decide) ?_
      refine r_ishl dX4_init_111 ?_
      refine r_iload dX4_init_112 rfl ?_
      refine r_ior dX4_init_114 ?_
      refine r_iastore dX4_init_115 (by first | rfl | assumption) (by exact vp_in_nI (by omega) (by decide)) ?_
      rw [hci]
      refine r_iload_n dX4_init_116 rfl rfl ?_
      refine r_iconst 1 dX4_init_117 (by decide) ?_
      refine r_ishl dX4_init_118 ?_
      refine r_ldc 65535 dX4_init_119 cnX4_41 ?_
      refine r_iand dX4_init_121 ?_
      refine r_istore_n2 dX4_init_122 rfl (Nat.le_of_ble_eq_true rfl) ?_
      refine r_iload dX4_init_123 rfl ?_
      refine r_iconst 1 dX4_init_125 (by decide) ?_
      refine r_icmp_ne 134 dX4_init_126 (by decide) (fun c_126 => absurd h1 c_126) (fun c_126 => ?_)
      refine r_iload_n dX4_init_129 rfl rfl ?_
      refine r_ldc 40977 dX4_init_130 cnX4_42 ?_
      refine r_ixor dX4_init_132 ?_
      refine r_istore_n2 dX4_init_133 rfl (Nat.le_of_ble_eq_true rfl) ?_
      refine r_iinc_4 (_ + 1) dX4_init_134 rfl (Nat.le_of_ble_eq_true rfl) rfl ?_
      refine r_goto 86 dX4_init_137 (by decide) ?_
      rw [nI_1]
      exact r_weak (by simp [lvle] <;> (repeat' apply And.intro) <;> first | rfl | decide) ih
    · have ih := x4_in (l := l) hi (Q := Q) d (j + 1) ((r <<< ((1 : Int32) &&& 31)) &&& KA) (upd2 M 5 i ((M 5 i <<< ((1 : Int32) &&& 31)) ||| us r 15)) (by omega) (fun M' e1 e2 => by
        rw [u_ss] at e1 ⊢
        have := hq M' (by rw [e1]; simp only [scI]; rw [if_neg h1]) (fun a k z => by rw [e2 a k z]; by_cases z1 : a = 5; · { subst z1; rw [u_sn (fun q => z ⟨rfl, q⟩)] }; · { rw [u_nn z1] })
        simp only [scI] at this
        rw [if_neg h1] at this
        exact this)
      refine r_iload dX4_init_86 rfl ?_
      refine r_bipush 8 dX4_init_88 (by decide) ?_
      refine r_icmp_ge 140 dX4_init_90 (by decide) (fun c_90 => absurd c_90 hlt) (fun c_90 => ?_)
      refine r_iload_n dX4_init_93 rfl rfl ?_
      refine r_bipush 15 dX4_init_94 (by decide) ?_
      refine r_iushr dX4_init_96 ?_
      refine r_istore_5 dX4_init_97 rfl (Nat.le_of_ble_eq_true rfl) ?_
      refine r_aload_n dX4_init_99 rfl rfl ?_
      refine r_getR (N := 13) dX4_init_100 fwX4_9 (by first | rfl | assumption) (Nat.le_of_ble_eq_true rfl) rfl (by first | rfl | assumption) ?_
      refine r_iload_n dX4_init_103 rfl rfl ?_
      refine r_aload_n dX4_init_104 rfl rfl ?_
      refine r_getR (N := 13) dX4_init_105 fwX4_9 (by first | rfl | assumption) (Nat.le_of_ble_eq_true rfl) rfl (by first | rfl | assumption) ?_
      refine r_iload_n dX4_init_108 rfl rfl ?_
      try rw [hci]
      refine r_iaload dX4_init_109 (by first | rfl | assumption) (by exact vp_in_nI (by omega) (by decide)) ?_
      rw [hci]
      refine r_iconst 1 dX4_init_110 (by decide) ?_
      refine r_ishl dX4_init_111 ?_
      refine r_iload dX4_init_112 rfl ?_
      refine r_ior dX4_init_114 ?_
      refine r_iastore dX4_init_115 (by first | rfl | assumption) (by exact vp_in_nI (by omega) (by decide)) ?_
      rw [hci]
      refine r_iload_n dX4_init_116 rfl rfl ?_
      refine r_iconst 1 dX4_init_117 (by decide) ?_
      refine r_ishl dX4_init_118 ?_
      refine r_ldc 65535 dX4_init_119 cnX4_41 ?_
      refine r_iand dX4_init_121 ?_
      refine r_istore_n2 dX4_init_122 rfl (Nat.le_of_ble_eq_true rfl) ?_
      refine r_iload dX4_init_123 rfl ?_
      refine r_iconst 1 dX4_init_125 (by decide) ?_
      refine r_icmp_ne 134 dX4_init_126 (by decide) (fun c_126 => ?_) (fun c_126 => absurd c_126 h1)
      refine r_iinc_4 (_ + 1) dX4_init_134 rfl (Nat.le_of_ble_eq_true rfl) rfl ?_
      refine r_goto 86 dX4_init_137 (by decide) ?_
      rw [nI_1]
      exact r_weak (by simp [lvle] <;> (repeat' apply And.intro) <;> first | rfl | decide) ih
def Q4 (l : List (Nat × Nat × Nat)) (M0 : Mem) : Option Value → Hp → Prop := fun r h => r = none ∧ ∃ M', h = (shp.take 14, RLf (L4 l), M') ∧ TabS M' ∧ FrS [5] [] M0 M' ∧ OkH h
set_option maxHeartbeats 600000 in
set_option maxRecDepth 100000 in
theorem x4_lp {l : List (Nat × Nat × Nat)} {M0 : Mem} (ok0 : OkH (shp.take 14, RLf (L4 l), M0)) (h0 : ∀ k, M0 5 k = 0) : ∀ (d i : Nat) (M : Mem), i + d = 16 → (∀ q, q < i → M 5 q = sc q) → (∀ q, i ≤ q → M 5 q = 0) → FrS [5] [] M0 M → WP mX4_init 77 [some (.ref 4), some (.ref 1), some (.int (scR i)), some (.int (nI i)), none, none] [] 9 308 (shp.take 14, RLf (L4 l), M) (Q4 l M0)
  | 0, i, M, hd, h1, h2, hF => by
    have hi : i = 16 := by omega
    subst hi
    refine r_iload_n dX4_init_77 rfl rfl ?_
    refine r_bipush 16 dX4_init_78 (by decide) ?_
    refine r_icmp_ge 146 dX4_init_80 (by decide) (fun c_80 => ?_) (fun c_80 => absurd (by decide) c_80)
    refine r_return dX4_init_146 rfl (Nat.le_of_ble_eq_true rfl) (Nat.le_of_ble_eq_true rfl) ?_
    exact ⟨rfl, M, rfl, h1, hF, ok0.frm hF (by decide)⟩
  | d + 1, i, M, hd, h1, h2, hF => by
    have hlt : ¬ (16 : Int32) ≤ nI i := nI_ge (a := i) (b := 16) (by omega) (by decide)
    have hin := x4_in (l := l) (i := i) (by omega) (Q := Q4 l M0) 8 0 (scR i) M rfl (by
      intro M' e1 e2
      rw [h2 i (Nat.le_refl _)] at e1 ⊢
      rw [scR_tab i (by omega)] at e1
      have ih := x4_lp ok0 h0 d (i + 1) M' (by omega) (fun q hq => by
        by_cases z : q = i
        · subst z; exact e1
        · rw [e2 5 q (fun w => z w.2)]; exact h1 q (by omega)) (fun q hq => by
          rw [e2 5 q (fun w => by omega)]; exact h2 q (by omega)) (by
          intro a k ha _
          simp at ha
          rw [e2 a k (fun w => ha w.1)]
          exact hF a k (by simp; exact ha) (by simp))
      refine r_iinc_3 (_ + 1) dX4_init_140 rfl (Nat.le_of_ble_eq_true rfl) rfl ?_
      refine r_goto 77 dX4_init_143 (by decide) ?_
      rw [nI_1]
      exact r_weak (by simp [lvle] <;> (repeat' apply And.intro) <;> first | rfl | decide) ih
      )
    refine r_iload_n dX4_init_77 rfl rfl ?_
    refine r_bipush 16 dX4_init_78 (by decide) ?_
    refine r_icmp_ge 146 dX4_init_80 (by decide) (fun c_80 => absurd c_80 hlt) (fun c_80 => ?_)
    refine r_iconst 0 dX4_init_83 (by decide) ?_
    refine r_istore_4 dX4_init_84 rfl (Nat.le_of_ble_eq_true rfl) ?_
    exact hin
set_option maxHeartbeats 600000 in
set_option maxRecDepth 100000 in
theorem x4_init {l : List (Nat × Nat × Nat)} {M : Mem} (ok : OkH (shp.take 5, RLf l, M)) : Con mX4_init [.ref 4, .ref 1] (shp.take 5, RLf l, M) (Q4 l M) := by
  have h0 : ∀ k, M 5 k = 0 := fun k => ok.2.2 5 k (Nat.le_of_ble_eq_true rfl)
  refine con_of (lv := [some (.ref 4), some (.ref 1), none, none, none, none]) (by decide) rfl (Nat.le_of_ble_eq_true rfl) (by simp [lvle]) ?_
  refine r_aload_n dX4_init_0 rfl rfl ?_
  refine t_obj dX4_init_1 mlX4_3 (Nat.le_of_ble_eq_true rfl) (Nat.le_of_ble_eq_true rfl) ?_
  refine r_aload_n dX4_init_4 rfl rfl ?_
  refine r_bipush 16 dX4_init_5 (by decide) ?_
  refine t_newa (j := 5) (N := 16) dX4_init_7 (by first | rfl | assumption) (by decide) rfl (Nat.le_of_ble_eq_true rfl) (Nat.le_of_ble_eq_true rfl) (Nat.le_of_ble_eq_true rfl) ok (by first | rfl | (simp [rokl, rok] <;> omega)) (by first | rfl | (simp [rokl, rok] <;> omega)) (fun ok => ?_)
  refine t_putR (j := 6) (N := 13) dX4_init_9 fwX4_9 (by first | rfl | assumption) (Nat.le_of_ble_eq_true rfl) rfl ⟨rfl, rfl, rfl⟩ flX4_9 (fun _ => rfl) (fun _ => rfl) ok (by first | exact Nat.le_of_ble_eq_true rfl | omega) (by first | exact Nat.le_of_ble_eq_true rfl | omega) (fun ok => ?_)
  refine r_aload_n dX4_init_12 rfl rfl ?_
  refine t_newc (j := 6) (ci := 0) (N := 2) dX4_init_13 (by decide) rfl clX4_15 inw0 iniw0 dfv0 (by first | rfl | assumption) (Nat.le_of_ble_eq_true rfl) (Nat.le_of_ble_eq_true rfl) ok (by first | rfl | (simp [rokl, rok] <;> omega)) (by first | rfl | (simp [rokl, rok] <;> omega)) (fun ok => ?_)
  first | refine r_dupR dX4_init_16 ?_ | refine r_dupI dX4_init_16 ?_
  refine t_call0 (Y := mX0_init) (j := 7) dX4_init_17 mlX4_17 ckX0_init ikX0_init ⟨rfl, rfl⟩ rfl (Nat.le_of_ble_eq_true rfl) (by first | rfl | (simp [rokl, rok] <;> omega)) (by first | rfl | (simp [rokl, rok] <;> omega)) (x0_init rfl rfl ok) (fun h' q => ?_)
  obtain ⟨rfl, ok⟩ := q
  refine t_putR (j := 8) (N := 13) dX4_init_20 fwX4_18 (by first | rfl | assumption) (Nat.le_of_ble_eq_true rfl) rfl ⟨rfl, rfl, rfl⟩ flX4_18 (fun _ => rfl) (fun _ => rfl) ok (by first | exact Nat.le_of_ble_eq_true rfl | omega) (by first | exact Nat.le_of_ble_eq_true rfl | omega) (fun ok => ?_)
  refine r_aload_n dX4_init_23 rfl rfl ?_
  refine t_newc (j := 8) (ci := 0) (N := 2) dX4_init_24 (by decide) rfl clX4_15 inw0 iniw0 dfv0 (by first | rfl | assumption) (Nat.le_of_ble_eq_true rfl) (Nat.le_of_ble_eq_true rfl) ok (by first | rfl | (simp [rokl, rok] <;> omega)) (by first | rfl | (simp [rokl, rok] <;> omega)) (fun ok => ?_)
  first | refine r_dupR dX4_init_27 ?_ | refine r_dupI dX4_init_27 ?_
  refine t_call0 (Y := mX0_init) (j := 9) dX4_init_28 mlX4_17 ckX0_init ikX0_init ⟨rfl, rfl⟩ rfl (Nat.le_of_ble_eq_true rfl) (by first | rfl | (simp [rokl, rok] <;> omega)) (by first | rfl | (simp [rokl, rok] <;> omega)) (x0_init rfl rfl ok) (fun h' q => ?_)
  obtain ⟨rfl, ok⟩ := q
  refine t_putR (j := 10) (N := 13) dX4_init_31 fwX4_22 (by first | rfl | assumption) (Nat.le_of_ble_eq_true rfl) rfl ⟨rfl, rfl, rfl⟩ flX4_22 (fun _ => rfl) (fun _ => rfl) ok (by first | exact Nat.le_of_ble_eq_true rfl | omega) (by first | exact Nat.le_of_ble_eq_true rfl | omega) (fun ok => ?_)
  refine r_aload_n dX4_init_34 rfl rfl ?_
  refine r_sipush 180 dX4_init_35 (by decide) ?_
  refine t_newa (j := 10) (N := 180) dX4_init_38 (by first | rfl | assumption) (by decide) rfl (Nat.le_of_ble_eq_true rfl) (Nat.le_of_ble_eq_true rfl) (Nat.le_of_ble_eq_true rfl) ok (by first | rfl | (simp [rokl, rok] <;> omega)) (by first | rfl | (simp [rokl, rok] <;> omega)) (fun ok => ?_)
  refine t_putR (j := 11) (N := 13) dX4_init_40 fwX4_25 (by first | rfl | assumption) (Nat.le_of_ble_eq_true rfl) rfl ⟨rfl, rfl, rfl⟩ flX4_25 (fun _ => rfl) (fun _ => rfl) ok (by first | exact Nat.le_of_ble_eq_true rfl | omega) (by first | exact Nat.le_of_ble_eq_true rfl | omega) (fun ok => ?_)
  refine r_aload_n dX4_init_43 rfl rfl ?_
  refine r_bipush 30 dX4_init_44 (by decide) ?_
  refine t_newa (j := 11) (N := 30) dX4_init_46 (by first | rfl | assumption) (by decide) rfl (Nat.le_of_ble_eq_true rfl) (Nat.le_of_ble_eq_true rfl) (Nat.le_of_ble_eq_true rfl) ok (by first | rfl | (simp [rokl, rok] <;> omega)) (by first | rfl | (simp [rokl, rok] <;> omega)) (fun ok => ?_)
  refine t_putR (j := 12) (N := 13) dX4_init_48 fwX4_28 (by first | rfl | assumption) (Nat.le_of_ble_eq_true rfl) rfl ⟨rfl, rfl, rfl⟩ flX4_28 (fun _ => rfl) (fun _ => rfl) ok (by first | exact Nat.le_of_ble_eq_true rfl | omega) (by first | exact Nat.le_of_ble_eq_true rfl | omega) (fun ok => ?_)
  refine r_aload_n dX4_init_51 rfl rfl ?_
  refine r_bipush 30 dX4_init_52 (by decide) ?_
  refine t_newa (j := 12) (N := 30) dX4_init_54 (by first | rfl | assumption) (by decide) rfl (Nat.le_of_ble_eq_true rfl) (Nat.le_of_ble_eq_true rfl) (Nat.le_of_ble_eq_true rfl) ok (by first | rfl | (simp [rokl, rok] <;> omega)) (by first | rfl | (simp [rokl, rok] <;> omega)) (fun ok => ?_)
  refine t_putR (j := 13) (N := 13) dX4_init_56 fwX4_31 (by first | rfl | assumption) (Nat.le_of_ble_eq_true rfl) rfl ⟨rfl, rfl, rfl⟩ flX4_31 (fun _ => rfl) (fun _ => rfl) ok (by first | exact Nat.le_of_ble_eq_true rfl | omega) (by first | exact Nat.le_of_ble_eq_true rfl | omega) (fun ok => ?_)
  refine r_aload_n dX4_init_59 rfl rfl ?_
  refine r_bipush 16 dX4_init_60 (by decide) ?_
  refine t_newa (j := 13) (N := 16) dX4_init_62 (by first | rfl | assumption) (by decide) rfl (Nat.le_of_ble_eq_true rfl) (Nat.le_of_ble_eq_true rfl) (Nat.le_of_ble_eq_true rfl) ok (by first | rfl | (simp [rokl, rok] <;> omega)) (by first | rfl | (simp [rokl, rok] <;> omega)) (fun ok => ?_)
  refine t_putR (j := 14) (N := 13) dX4_init_64 fwX4_34 (by first | rfl | assumption) (Nat.le_of_ble_eq_true rfl) rfl ⟨rfl, rfl, rfl⟩ flX4_34 (fun _ => rfl) (fun _ => rfl) ok (by first | exact Nat.le_of_ble_eq_true rfl | omega) (by first | exact Nat.le_of_ble_eq_true rfl | omega) (fun ok => ?_)
  refine r_aload_n dX4_init_67 rfl rfl ?_
  refine r_aload_n dX4_init_68 rfl rfl ?_
  refine t_putR (j := 14) (N := 13) dX4_init_69 fwX4_37 (by first | rfl | assumption) (Nat.le_of_ble_eq_true rfl) rfl ⟨rfl, rfl, rfl⟩ flX4_37 (fun _ => rfl) (fun _ => rfl) ok (by first | exact Nat.le_of_ble_eq_true rfl | omega) (by first | exact Nat.le_of_ble_eq_true rfl | omega) (fun ok => ?_)
  refine r_ldc 65535 dX4_init_72 cnX4_41 ?_
  refine r_istore_n2 dX4_init_74 rfl (Nat.le_of_ble_eq_true rfl) ?_
  refine r_iconst 0 dX4_init_75 (by decide) ?_
  refine r_istore_n3 dX4_init_76 rfl (Nat.le_of_ble_eq_true rfl) ?_
  exact x4_lp ok h0 16 0 M rfl (fun q hq => absurd hq (by omega)) (fun q _ => h0 q) (fun a k _ _ => rfl)
