def bt (x : Int32) (i : Nat) : Bool := x.toBitVec.getLsbD i
theorem b_ext {x y : Int32} (h : ∀ i, i < 32 → bt x i = bt y i) : x = y := Int32.toBitVec_inj.mp (BitVec.eq_of_getLsbD_eq (fun i hi => h i hi))
theorem b_or (x y : Int32) (i : Nat) : bt (x ||| y) i = (bt x i || bt y i) := by unfold bt; rw [Int32.toBitVec_or, BitVec.getLsbD_or]
theorem b_and (x y : Int32) (i : Nat) : bt (x &&& y) i = (bt x i && bt y i) := by unfold bt; rw [Int32.toBitVec_and, BitVec.getLsbD_and]
theorem b_xor (x y : Int32) (i : Nat) : bt (x ^^^ y) i = (bt x i ^^ bt y i) := by unfold bt; rw [Int32.toBitVec_xor, BitVec.getLsbD_xor]
theorem b_big {x : Int32} {i : Nat} (h : 32 ≤ i) : bt x i = false := BitVec.getLsbD_of_ge _ _ h
theorem b_255 (i : Nat) : bt 255 i = decide (i < 8) := by
  rcases Nat.lt_or_ge i 32 with h | h
  · exact (by decide +kernel : ∀ i, i < 32 → bt 255 i = decide (i < 8)) i h
  · rw [b_big h, decide_eq_false (by omega)]
theorem b_65535 (i : Nat) : bt 65535 i = decide (i < 16) := by
  rcases Nat.lt_or_ge i 32 with h | h
  · exact (by decide +kernel : ∀ i, i < 32 → bt 65535 i = decide (i < 16)) i h
  · rw [b_big h, decide_eq_false (by omega)]
theorem b_m1 : ∀ i, i < 32 → bt (-1) i = true := by decide +kernel
theorem b_0 (i : Nat) : bt 0 i = false := BitVec.getLsbD_zero
theorem s_l : ∀ n, n < 32 → ((nI n &&& 31).toBitVec.smod 32).toNat = n := by decide +kernel
theorem s_u : ∀ n, n < 32 → (((nI n).toUInt32 &&& Int32.toUInt32 31).toBitVec % 32).toNat = n := by decide +kernel
theorem b_shl (n : Nat) (hn : n < 32) (x : Int32) {i : Nat} (hi : i < 32) : bt (x <<< (nI n &&& 31)) i = (decide (n ≤ i) && bt x (i - n)) := by
  unfold bt
  rw [Int32.toBitVec_shiftLeft]
  show (x.toBitVec <<< ((nI n &&& 31).toBitVec.smod 32).toNat).getLsbD i = _
  rw [s_l n hn, BitVec.getLsbD_shiftLeft]
  rcases Nat.lt_or_ge i n with h | h
  · simp [h, Nat.not_le.mpr h]
  · simp [hi, h, Nat.not_lt.mpr h]
theorem b_ushr (n : Nat) (hn : n < 32) (x : Int32) (i : Nat) : bt ((x.toUInt32 >>> ((nI n).toUInt32 &&& Int32.toUInt32 31)).toInt32) i = bt x (n + i) := by
  show (x.toUInt32 >>> ((nI n).toUInt32 &&& Int32.toUInt32 31)).toBitVec.getLsbD i = x.toUInt32.toBitVec.getLsbD (n + i)
  rw [UInt32.toBitVec_shiftRight]
  show (x.toUInt32.toBitVec >>> (((nI n).toUInt32 &&& Int32.toUInt32 31).toBitVec % 32).toNat).getLsbD i = _
  rw [s_u n hn, BitVec.getLsbD_ushiftRight]
theorem b_sshr (n : Nat) (hn : n < 32) (x : Int32) {i : Nat} (hi : i < 32) : bt (x >>> (nI n &&& 31)) i = if n + i < 32 then bt x (n + i) else bt x 31 := by
  unfold bt
  rw [Int32.toBitVec_shiftRight]
  show (x.toBitVec.sshiftRight ((nI n &&& 31).toBitVec.smod 32).toNat).getLsbD i = _
  rw [s_l n hn, BitVec.getLsbD_sshiftRight, BitVec.msb_eq_getLsbD_last]
  simp [hi]
theorem b_shl8 (x : Int32) {i : Nat} (hi : i < 32) : bt (x <<< ((8 : Int32) &&& 31)) i = (decide (8 ≤ i) && bt x (i - 8)) := b_shl 8 (by omega) x hi
theorem b_shl16 (x : Int32) {i : Nat} (hi : i < 32) : bt (x <<< ((16 : Int32) &&& 31)) i = (decide (16 ≤ i) && bt x (i - 16)) := b_shl 16 (by omega) x hi
theorem b_shl24 (x : Int32) {i : Nat} (hi : i < 32) : bt (x <<< ((24 : Int32) &&& 31)) i = (decide (24 ≤ i) && bt x (i - 24)) := b_shl 24 (by omega) x hi
theorem b_sshr8 (x : Int32) {i : Nat} (hi : i < 32) : bt (x >>> ((8 : Int32) &&& 31)) i = if 8 + i < 32 then bt x (8 + i) else bt x 31 := b_sshr 8 (by omega) x hi
/-! ===== nI under and, xor, >>>, one bit, 65535 ===== -/
theorem nx_and (a b : Nat) : nI a &&& nI b = nI (a &&& b) := by
  apply Int32.toBitVec_inj.1
  show BitVec.ofNat 32 a &&& BitVec.ofNat 32 b = BitVec.ofNat 32 (a &&& b)
  apply BitVec.eq_of_getLsbD_eq
  intro i hi
  simp [hi]
theorem nx_xor (a b : Nat) : nI a ^^^ nI b = nI (a ^^^ b) := by
  apply Int32.toBitVec_inj.1
  show BitVec.ofNat 32 a ^^^ BitVec.ofNat 32 b = BitVec.ofNat 32 (a ^^^ b)
  apply BitVec.eq_of_getLsbD_eq
  intro i hi
  simp [hi]

theorem vp_lt {x : Int32} {n : Nat} : vp_in x n → x.toNatClampNeg < n := fun h => Nat.not_le.mp fun q => h (Or.inr q)
theorem i_lt (a b : Int32) : a < b ↔ a.toInt < b.toInt := Int32.lt_iff_toInt_lt
theorem i_le (a b : Int32) : a ≤ b ↔ a.toInt ≤ b.toInt := Int32.le_iff_toInt_le
theorem i_eq (a b : Int32) : a = b ↔ a.toInt = b.toInt := ⟨fun h => h ▸ rfl, fun h => Int32.toInt_inj.mp h⟩
theorem i_0 : (0 : Int32).toInt = 0 := rfl
/-- an index between 0 and a length -/
theorem ix_of {x y : Int32} {n N : Nat} (h0 : ¬ x < 0) (h1 : ¬ y ≤ x) (hy : y = nI n) (hn : n ≤ N) (hN : N < 2 ^ 31) : ∃ j, j < n ∧ x = nI j ∧ vp_in x N := by
  subst hy
  rw [i_lt, i_0] at h0
  rw [i_le, nI_toInt (by omega)] at h1
  obtain ⟨j, hj, rfl⟩ := nI_of (x := x) (by rw [i_lt, i_0]; exact h0)
  rw [nI_toInt hj] at h1
  exact ⟨j, by omega, rfl, vp_in_nI (by omega) hN⟩
def us (x y : Int32) : Int32 := (x.toUInt32 >>> (y.toUInt32 &&& Int32.toUInt32 31)).toInt32
theorem nI_lit1 : (1 : Int32) = nI 1 := rfl
theorem bt_1 (i : Nat) : bt 1 i = decide (i = 0) := by
  rcases Nat.lt_or_ge i 32 with h | h
  · exact (by decide +kernel : ∀ i, i < 32 → bt 1 i = decide (i = 0)) i h
  · rw [b_big h, decide_eq_false (by omega)]
/-- the low bit behind either shift -/
theorem sh_and1 (b : Int32) {i : Nat} (hi : i < 32) : (b >>> (nI i &&& 31)) &&& 1 = us b (nI i) &&& 1 := by
  apply b_ext
  intro q hq
  rw [b_and, b_and, bt_1, b_sshr i hi b hq]
  unfold us
  rw [b_ushr i hi]
  by_cases h : q = 0
  · subst h
    simp [hi]
  · simp [h]
def crcStep (c t : Int32) : Int32 := if us c 31 ^^^ t = 1 then (c <<< ((1 : Int32) &&& 31)) ^^^ 79764919 else c <<< ((1 : Int32) &&& 31)
def crcBits (b : Int32) : Nat → Int32 → Int32
  | 0, c => c
  | m + 1, c => crcBits b m (crcStep c (us b (nI m) &&& 1))
def crcByte (c b : Int32) : Int32 := crcBits b 8 c
def crcN (f : Nat → Int32) : Nat → Int32
  | 0 => 1378996274
  | n + 1 => crcByte (crcN f n) (f n)
theorem crcN_congr {f g : Nat → Int32} : ∀ n, (∀ j, j < n → f j = g j) → crcN f n = crcN g n
  | 0, _ => rfl
  | n + 1, h => by simp only [crcN]; rw [crcN_congr n (fun j q => h j (by omega)), h n (by omega)]
theorem m1_lt : nI 0 + (-1) < 0 := by decide
theorem m1_nI (m : Nat) : nI (m + 1) + (-1) = nI m := pk_m1 m
theorem nI_nneg {m : Nat} (h : m < 2 ^ 31) : ¬ nI m < 0 := nI_pos h
def okB (x : Int32) : Prop := x &&& 255 = x
theorem okB_and (x : Int32) : okB (x &&& 255) := by
  apply b_ext
  intro i _
  simp [b_and]
theorem okB_nI {k : Nat} (h : k < 256) : okB (nI k) := by
  show nI k &&& nI 255 = nI k
  have := pk_andN (n := k) (by omega) (m := 255) 8 (by decide)
  rw [show (255 : Int32) = nI 255 from rfl] at this
  rw [this, Nat.mod_eq_of_lt (by omega)]
theorem okB_of {x : Int32} (h : okB x) : ∃ k, k < 256 ∧ x = nI k := by
  obtain ⟨j, hj, he⟩ := pk_andE x (m := 255) 8 (by decide)
  exact ⟨j, by omega, by rw [← he, h]⟩
/-- all but some cells stay -/
def Fr (ex : List Nat) (M M' : Mem) : Prop := ∀ a, a ∉ ex → M' a = M a
theorem Fr.rf {ex : List Nat} {M : Mem} : Fr ex M M := fun _ _ => rfl
theorem Fr.tr {ex ex' ex'' : List Nat} {M M' M'' : Mem} (h1 : Fr ex M M') (h2 : Fr ex' M' M'') (i1 : ∀ a ∈ ex, a ∈ ex'') (i2 : ∀ a ∈ ex', a ∈ ex'') : Fr ex'' M M'' := fun a ha => (h2 a (fun q => ha (i2 a q))).trans (h1 a (fun q => ha (i1 a q)))
theorem Fr.up {ex : List Nat} {M M' : Mem} {a k : Nat} {x : Int32} (h : Fr ex M M') (ha : a ∈ ex) : Fr ex M (upd2 M' a k x) := fun b hb => by
  have hne : b ≠ a := fun q => hb (by rw [q]; exact ha)
  rw [upd2_n hne]
  exact h b hb
theorem upd_s {f : Nat → Int32} {k : Nat} {x : Int32} : upd f k x k = x := by simp [upd]
theorem upd_n {f : Nat → Int32} {k j : Nat} {x : Int32} (h : j ≠ k) : upd f k x j = f j := by simp [upd, h]
theorem u_ss {M : Mem} {a k : Nat} {x : Int32} : upd2 M a k x a k = x := by rw [upd2_s, upd_s]
theorem u_sn {M : Mem} {a k j : Nat} {x : Int32} (h : j ≠ k) : upd2 M a k x a j = M a j := by rw [upd2_s, upd_n h]
theorem u_nn {M : Mem} {a b k j : Nat} {x : Int32} (h : b ≠ a) : upd2 M a k x b j = M b j := by rw [upd2_n h]
/-- a Bytes object o with its row r holds n bytes f -/
def HB (M : Mem) (o r n : Nat) (f : Nat → Int32) : Prop := M o 1 = nI n ∧ n ≤ 16 ∧ ∀ j, j < n → M r j = f j
/-- cells of a Bytes object -/
def isBy (o r : Nat) : Prop := shp[o]? = some (0, 2) ∧ rfs o 0 = some r ∧ shp[r]? = some (7, 16) ∧ o ≠ r
theorem isBy6 : isBy 6 7 := ⟨rfl, rfl, rfl, by decide⟩
theorem isBy8 : isBy 8 9 := ⟨rfl, rfl, rfl, by decide⟩
theorem isBy18 : isBy 18 19 := ⟨rfl, rfl, rfl, by decide⟩
theorem isBy20 : isBy 20 21 := ⟨rfl, rfl, rfl, by decide⟩

