/-! A judgement over the kit's W whose world is ONE list of cells by number: WP X pc lv st k n h Q. -/
abbrev Mem : Type := Nat → Nat → Int32
/-- the heap by cell numbers: (kind, size) of each cell; its references; its ints. Kinds 0..6: objects of vwCl; 7: int[]; 8: Command[] -/
abbrev Hp : Type := List (Nat × Nat) × (Nat → Nat → Option Nat) × Mem
/-- a method: name, bytes, locals, return type, (frames, locals' words), (cells, slots) -/
abbrev MX : Type := MethodName × ByteArray × Nat × Option FieldType × (Nat × Nat) × (Nat × Nat)
def mxR (X : MX) : Room := { frames := X.2.2.2.2.1.1, cells := X.2.2.2.2.2.1, slots := X.2.2.2.2.2.2, locals := X.2.2.2.2.1.2 }
def gG : List Cond := lw_tbl.filter goodWord
def mxW (X : MX) : List Cond := Cond.code X.1 X.2.1 X.2.2.1 X.2.2.2.1 :: gG
def tyA : Nat → Nat → FieldType := fun ci => match ci with
  | 0 => tyX0
  | 1 => tyX1
  | 2 => tyX2
  | 3 => tyX3
  | 4 => tyX4
  | 5 => tyX5
  | 6 => tyX6
  | _ => fun _ => .int
def frefT : FieldType → Bool
  | .int => false
  | .boolean => false
  | _ => true
def fref (ci k : Nat) : Bool := frefT (tyA ci k)
def fv (ad : Nat → Nat) (h : Hp) (a ci k : Nat) : Value := if fref ci k = true then va_rf ((h.2.1 a k).map ad) else .int (h.2.2 a k)
def cel (cI cC : ClassId) (ad : Nat → Nat) (h : Hp) (a : Nat) : va_E := match h.1[a]? with
  | none => .inr (0, [])
  | some q => if q.1 = 7 then .inl (cI, q.2, .inl (h.2.2 a)) else if q.1 = 8 then .inl (cC, q.2, .inr (.inr (.inr (.inr (fun j => (h.2.1 a j).map ad))))) else .inr (q.1, (List.range q.2).map (fv ad h a q.1))
def wld (cI cC : ClassId) (ad : Nat → Nat) (h : Hp) : va_W := (List.range h.1.length).map (fun a => (ad a, cel cI cC ad h a))
def cv (ad : Nat → Nat) (v : Value) : Value := match v with
  | .ref a => .ref (ad a)
  | w => w
def upd2 (M : Mem) (a k : Nat) (x : Int32) : Mem := fun b => if b = a then upd (M a) k x else M b
def updR (Rf : Nat → Nat → Option Nat) (a k : Nat) (x : Option Nat) : Nat → Nat → Option Nat := fun b => if b = a then va_up (Rf a) k x else Rf b
def lh (ls : Array Slot) (nL : Nat) (ad : Nat → Nat) (lv : List (Option Value)) : Prop := ls.size = nL ∧ lv_wf ls ∧ ∀ (i : Nat) (v : Value), lv[i]? = some (some v) → ls[i]? = some (.val (cv ad v))
def tyz (cI cC : ClassId) : List (ClassId × FieldType) := [(cI, .int), (cC, .object "StoragePath$Command")]
/-- the words that a step of the tables keeps, but that aren't 'good' -/
def NW (U : State) : Prop := (∀ a i b n d g, Cond.fieldLinkNest a i b n d g ∈ lw_tbl → va_Nw (.fieldLinkNest a i b n d g) U) ∧ (∀ a i y g, Cond.methodLinkNest a i y g ∈ lw_tbl → va_Nw (.methodLinkNest a i y g) U) ∧ ∀ C, Cond.arrayOver (.object C) ∈ lw_tbl → va_AO C U
theorem NW.warm {s U : State} (hW : s.WarmedH U.vm) (h : NW s) : NW U := ⟨fun a i b n d g q => va_Nw.warmF hW (h.1 a i b n d g q), fun a i y g q => va_Nw.warmM hW (h.2.1 a i y g q), fun C q => va_AO.moved hW.alike (h.2.2 C q)⟩
theorem NW.same {s U : State} (e : s.vm = U.vm) (h : NW s) : NW U := ⟨fun a i b n d g q => va_Nw.same rfl e (h.1 a i b n d g q), fun a i y g q => va_Nw.same rfl e (h.2.1 a i y g q), fun C q => va_AO.moved (by rw [e]; exact Vm.Alike.refl _) (h.2.2 C q)⟩
/-- what holds all through a method -/
def Cx (X : MX) (p : Program) (s : State) (m : MethodId) (args : Array Value) (meth : Method) (c : Code) (D : va_G) (cI cC : ClassId) (A : Nat → Prop) : Prop :=
  p.tables.exec = Jvm.exec ∧ c.code = X.2.1 ∧ meth.sig.returnType = X.2.2.2.1 ∧ c.maxLocals = X.2.2.1 ∧ s.vm.findClass X.1.cls = some m.cls ∧ (∀ w ∈ gG, w.before args s = true) ∧ meth.locks = false ∧ meth.name = X.1.name ∧ NW s ∧ va_K D vwCl (tyz cI cC) s ∧ ∀ q : Nat, s.heap.size ≤ q → A q
/-- the heap as it stands -/
def Hx (X : MX) (s : State) (D : va_G) (cI cC : ClassId) (A : Nat → Prop) (ad0 : Nat → Nat) (n0 : Nat) (ad : Nat → Nat) (h : Hp) (H : Heap) (locs : List Loc) : Prop :=
  (∀ a, a < n0 → ad a = ad0 a) ∧ n0 ≤ h.1.length ∧ (X.2.2.2.2.2.1 = 0 → ad = ad0) ∧ va_P D vwCl (wld cI cC ad h) H ∧ va_D A (wld cI cC ad h) ∧ va_S A s.heap H locs
/-- how a method ends -/
def Qw (X : MX) (D : va_G) (cI cC : ClassId) (A : Nat → Prop) (ad0 : Nat → Nat) (n0 : Nat) (Q : Option Value → Hp → Prop) : Array Value → State → Outcome → State → Prop := fun _ st oc t =>
  (∃ (r : Option Value) (h : Hp) (ad : Nat → Nat), oc = .returned (r.map (cv ad)) ∧ Q r h ∧ (∀ a, a < n0 → ad a = ad0 a) ∧ n0 ≤ h.1.length ∧ (X.2.2.2.2.2.1 = 0 → ad = ad0) ∧ va_P D vwCl (wld cI cC ad h) t.heap ∧ va_D A (wld cI cC ad h)) ∧ va_F A st t
def WP (X : MX) (pc : Nat) (lv : List (Option Value)) (st : List Value) (k n : Nat) (h : Hp) (Q : Option Value → Hp → Prop) : Prop :=
  ∀ (l : Launch) (p : Program) (e : Env) (s : State) (m : MethodId) (args : Array Value) (below : List Frame) (meth : Method) (c : Code) (D : va_G) (cI cC : ClassId) (A : Nat → Prop) (ad0 : Nat → Nat) (n0 : Nat) (ad : Nat → Nat) (H : Heap) (locs : List Loc) (ls : Array Slot),
    Cx X p s m args meth c D cI cC A → Hx X s D cI cC A ad0 n0 ad h H locs → lh ls X.2.2.1 ad lv →
    W p l e (mxR X) s m args below meth c H locs k n (MQ below (Qw X D cI cC A ad0 n0 Q) args s X.2.2.2.2.2.1 X.2.2.2.2.2.2 A) (F0 m pc ls (st.map (cv ad)))
/-- a method's contract -/
def Con (X : MX) (avs : List Value) (h : Hp) (Q : Option Value → Hp → Prop) : Prop :=
  ∀ (l : Launch) (D : va_G) (cI cC : ClassId) (ad : Nat → Nat) (sz : Nat), Met l X.1 (mxW X) (mxR X) (va_Pc (avs.map (cv ad)) (fun U => U.heap.size = sz ∧ va_P D vwCl (wld cI cC ad h) U.heap ∧ va_K D vwCl (tyz cI cC) U ∧ va_D (fun _ => True) (wld cI cC ad h) ∧ NW U))
    (Qw X D cI cC (va_A (wld cI cC ad h) sz) ad h.1.length Q) X.2.2.2.2.2.1 X.2.2.2.2.2.2 (va_A (wld cI cC ad h) sz)
theorem wld_at {cI cC : ClassId} {ad : Nat → Nat} {h : Hp} {a : Nat} (ha : a < h.1.length) : (wld cI cC ad h)[a]? = some (ad a, cel cI cC ad h a) := by
  simp [wld, ha]
theorem lt_of_get {α : Type} {l : List α} {a : Nat} {q : α} (h : l[a]? = some q) : a < l.length := (List.getElem?_eq_some_iff.mp h).1
theorem wld_len {cI cC : ClassId} {ad : Nat → Nat} {h : Hp} : (wld cI cC ad h).length = h.1.length := by simp [wld]
theorem wld_set {cI cC : ClassId} {ad : Nat → Nat} {h h' : Hp} {a : Nat} {E : va_E} (hl : h'.1.length = h.1.length) (ho : ∀ b, b ≠ a → cel cI cC ad h' b = cel cI cC ad h b) (he : cel cI cC ad h' a = E) : (wld cI cC ad h).set a (ad a, E) = wld cI cC ad h' := by
  apply List.ext_getElem?
  intro i
  by_cases hi : i < h.1.length
  · rw [wld_at (h := h') (by omega), List.getElem?_set]
    by_cases hia : a = i
    · subst hia
      simp [wld_len, hi, he]
    · rw [if_neg hia, wld_at hi, ho i (fun q => hia q.symm)]
  · rw [List.getElem?_eq_none (by rw [List.length_set, wld_len]; omega), List.getElem?_eq_none (by rw [wld_len]; omega)]
theorem cel_o {cI cC : ClassId} {ad : Nat → Nat} {h : Hp} {a ci N : Nat} (hs : h.1[a]? = some (ci, N)) (hc : ci < 7) : cel cI cC ad h a = .inr (ci, (List.range N).map (fv ad h a ci)) := by
  unfold cel
  rw [hs]
  dsimp only
  rw [if_neg (by omega), if_neg (by omega)]
theorem cel_7 {cI cC : ClassId} {ad : Nat → Nat} {h : Hp} {a N : Nat} (hs : h.1[a]? = some (7, N)) : cel cI cC ad h a = .inl (cI, N, .inl (h.2.2 a)) := by
  unfold cel
  rw [hs]
  dsimp only
  rw [if_pos rfl]
theorem cel_8 {cI cC : ClassId} {ad : Nat → Nat} {h : Hp} {a N : Nat} (hs : h.1[a]? = some (8, N)) : cel cI cC ad h a = .inl (cC, N, .inr (.inr (.inr (.inr (fun j => (h.2.1 a j).map ad))))) := by
  unfold cel
  rw [hs]
  dsimp only
  rw [if_neg (by omega), if_pos rfl]
theorem cel_ne {cI cC : ClassId} {ad : Nat → Nat} {S : List (Nat × Nat)} {Rf Rf' : Nat → Nat → Option Nat} {M M' : Mem} {b : Nat} (h1 : Rf' b = Rf b) (h2 : M' b = M b) : cel cI cC ad (S, Rf', M') b = cel cI cC ad (S, Rf, M) b := by
  unfold cel
  dsimp only
  cases S[b]? with
  | none => rfl
  | some q =>
    dsimp only
    rw [h2, h1]
    have : fv ad (S, Rf', M') b q.1 = fv ad (S, Rf, M) b q.1 := by
      funext k
      simp only [fv, h1, h2]
    rw [this]
theorem upd2_s (M : Mem) (a k : Nat) (x : Int32) : upd2 M a k x a = upd (M a) k x := by simp [upd2]
theorem upd2_n {M : Mem} {a k b : Nat} {x : Int32} (h : b ≠ a) : upd2 M a k x b = M b := by simp [upd2, h]
theorem updR_s (M : Nat → Nat → Option Nat) (a k : Nat) (x : Option Nat) : updR M a k x a = va_up (M a) k x := by simp [updR]
theorem updR_n {M : Nat → Nat → Option Nat} {a k b : Nat} {x : Option Nat} (h : b ≠ a) : updR M a k x b = M b := by simp [updR, h]
