/-- references name cells that are there; behind the cells nothing is written -/
def OkH (h : Hp) : Prop := (∀ a k b, h.2.1 a k = some b → b < h.1.length) ∧ (∀ a k, h.1.length ≤ a → h.2.1 a k = none) ∧ ∀ a j, h.1.length ≤ a → h.2.2 a j = 0
theorem OkH.putR {S : List (Nat × Nat)} {Rf : Nat → Nat → Option Nat} {M : Mem} (h : OkH (S, Rf, M)) {a k b : Nat} (ha : a < S.length) (hb : b < S.length) : OkH (S, updR Rf a k (some b), M) := by
  refine ⟨fun a' k' b' e => ?_, fun a' k' e => ?_, h.2.2⟩
  · by_cases z : a' = a
    · subst z
      dsimp only at e
      rw [updR_s] at e
      simp only [va_up] at e
      split at e
      · cases e; exact hb
      · exact h.1 _ _ _ e
    · dsimp only at e
      rw [updR_n z] at e
      exact h.1 _ _ _ e
  · have : a' ≠ a := by
      have e : S.length ≤ a' := e
      omega
    dsimp only
    rw [updR_n this]
    exact h.2.1 _ _ e
theorem OkH.putI {S : List (Nat × Nat)} {Rf : Nat → Nat → Option Nat} {M : Mem} (h : OkH (S, Rf, M)) {a k : Nat} {x : Int32} (ha : a < S.length) : OkH (S, Rf, upd2 M a k x) := by
  refine ⟨h.1, h.2.1, fun a' k' e => ?_⟩
  have : a' ≠ a := by
    have e : S.length ≤ a' := e
    omega
  dsimp only
  rw [upd2_n this]
  exact h.2.2 _ _ e
theorem OkH.frm {S : List (Nat × Nat)} {Rf : Nat → Nat → Option Nat} {M M' : Mem} {cs : List Nat} (h : OkH (S, Rf, M)) (F : FrS cs [] M M') (hc : ∀ a ∈ cs, a < S.length) : OkH (S, Rf, M') := by
  refine ⟨h.1, h.2.1, fun a' k' e => ?_⟩
  have e : S.length ≤ a' := e
  have : a' ∉ cs := fun q => absurd (hc _ q) (by omega)
  dsimp only
  rw [F a' k' this (by simp)]
  exact h.2.2 _ _ e
theorem OkH.push {S : List (Nat × Nat)} {Rf : Nat → Nat → Option Nat} {M : Mem} (h : OkH (S, Rf, M)) (x : Nat × Nat) : OkH (S ++ [x], Rf, M) := by
  have e : (S ++ [x]).length = S.length + 1 := by simp
  refine ⟨fun a k b q => ?_, fun a k q => ?_, fun a j q => ?_⟩
  · have := h.1 a k b q
    show b < (S ++ [x]).length
    have : b < S.length := this
    omega
  · have q : (S ++ [x]).length ≤ a := q
    exact h.2.1 a k (show S.length ≤ a by omega)
  · have q : (S ++ [x]).length ≤ a := q
    exact h.2.2 a j (show S.length ≤ a by omega)
theorem cel_ad {cI cC : ClassId} {ad ad' : Nat → Nat} {S S' : List (Nat × Nat)} {Rf : Nat → Nat → Option Nat} {M : Mem} {a n : Nat} (hR : ∀ k b, Rf a k = some b → b < n) (had : ∀ b, b < n → ad' b = ad b) (hS : S'[a]? = S[a]?) : cel cI cC ad' (S', Rf, M) a = cel cI cC ad (S, Rf, M) a := by
  have e : ∀ k, (Rf a k).map ad' = (Rf a k).map ad := by
    intro k
    cases q : Rf a k with
    | none => rfl
    | some b => simp only [Option.map]; rw [had b (hR k b q)]
  unfold cel
  dsimp only
  rw [hS]
  cases S[a]? with
  | none => rfl
  | some q =>
    dsimp only
    have : fv ad' (S', Rf, M) a q.1 = fv ad (S, Rf, M) a q.1 := by
      funext k
      simp only [fv, e]
    rw [this]
    simp only [e]
theorem wld_push {cI cC : ClassId} {ad : Nat → Nat} {S : List (Nat × Nat)} {Rf : Nat → Nat → Option Nat} {M : Mem} {x : Nat × Nat} {q : Nat} {E : va_E} (h : OkH (S, Rf, M)) (hE : cel cI cC (va_up ad S.length q) (S ++ [x], Rf, M) S.length = E) : wld cI cC (va_up ad S.length q) (S ++ [x], Rf, M) = wld cI cC ad (S, Rf, M) ++ [(q, E)] := by
  apply List.ext_getElem?
  intro i
  by_cases hi : i < S.length
  · rw [List.getElem?_append_left (by rw [wld_len]; exact hi), wld_at (by simp; omega), wld_at (h := (S, Rf, M)) hi, cel_ad (n := S.length) (ad := ad) (ad' := va_up ad S.length q) (S := S) (fun k b e => h.1 i k b e) (fun b hb => by simp [va_up, Nat.ne_of_lt hb]) (by rw [List.getElem?_append_left hi])]
    simp [va_up, Nat.ne_of_lt hi]
  · rw [List.getElem?_append_right (by rw [wld_len]; exact Nat.le_of_not_lt hi), wld_len]
    by_cases he : i = S.length
    · subst he
      rw [wld_at (by simp), hE]
      simp [va_up]
    · rw [List.getElem?_eq_none (by rw [wld_len]; simp; omega), List.getElem?_eq_none (by simp; omega)]
theorem cel_new7 {cI cC : ClassId} {ad : Nat → Nat} {S : List (Nat × Nat)} {Rf : Nat → Nat → Option Nat} {M : Mem} {N : Nat} (h : OkH (S, Rf, M)) : cel cI cC ad (S ++ [(7, N)], Rf, M) S.length = .inl (cI, N, .inl (fun _ => 0)) := by
  rw [cel_7 (N := N) (by simp)]
  have : M S.length = fun _ => 0 := funext fun j => h.2.2 _ j (Nat.le_refl _)
  dsimp only
  rw [this]
theorem cel_new8 {cI cC : ClassId} {ad : Nat → Nat} {S : List (Nat × Nat)} {Rf : Nat → Nat → Option Nat} {M : Mem} {N : Nat} (h : OkH (S, Rf, M)) : cel cI cC ad (S ++ [(8, N)], Rf, M) S.length = .inl (cC, N, .inr (.inr (.inr (.inr (fun _ => none))))) := by
  rw [cel_8 (N := N) (by simp)]
  have : ∀ j, Rf S.length j = none := fun j => h.2.1 _ j (Nat.le_refl _)
  simp only [this, Option.map]
theorem lh_ad {ls : Array Slot} {nL n : Nat} {ad ad' : Nat → Nat} {lv : List (Option Value)} (h : lh ls nL ad lv) (had : ∀ b, b < n → ad' b = ad b) (hv : rokl n lv = true) : lh ls nL ad' lv := ⟨h.1, h.2.1, fun i v q => by rw [cv_rok had (rokl_ok hv v (List.mem_of_getElem? q))]; exact h.2.2 i v q⟩
theorem va_up_lt {ad : Nat → Nat} {n q : Nat} : ∀ b, b < n → va_up ad n q b = ad b := fun b hb => by simp [va_up, Nat.ne_of_lt hb]
theorem hx_push {X : MX} {s : State} {D : va_G} {cI cC : ClassId} {A : Nat → Prop} {ad0 : Nat → Nat} {n0 : Nat} {ad : Nat → Nat} {S : List (Nat × Nat)} {Rf : Nat → Nat → Option Nat} {M : Mem} {H H1 : Heap} {locs : List Loc} {x : Nat × Nat} {q : Nat} (G : Hx X s D cI cC A ad0 n0 ad (S, Rf, M) H locs) (hc : X.2.2.2.2.2.1 ≠ 0) (hP : va_P D vwCl (wld cI cC (va_up ad S.length q) (S ++ [x], Rf, M)) H1) (hD : va_D A (wld cI cC (va_up ad S.length q) (S ++ [x], Rf, M))) (hS : va_S A s.heap H1 locs) : Hx X s D cI cC A ad0 n0 (va_up ad S.length q) (S ++ [x], Rf, M) H1 locs := by
  obtain ⟨g1, g2, g3, -, -, -⟩ := G
  have g2 : n0 ≤ S.length := g2
  refine ⟨fun a ha => ?_, ?_, fun z => absurd z hc, hP, hD, hS⟩
  · rw [va_up_lt a (by omega)]
    exact g1 a ha
  · show n0 ≤ (S ++ [x]).length
    simp
    omega
section ALLOC
variable {X : MX} {pc : Nat} {lv : List (Option Value)} {st : List Value} {k n : Nat} {S : List (Nat × Nat)} {Rf : Nat → Nat → Option Nat} {M : Mem} {Q : Option Value → Hp → Prop}
set_option maxRecDepth 100000 in
theorem arr_int : Cond.arrayClass (newarray.typeOf .int) ∈ gG := gG_of (by decide +kernel) rfl
theorem r_newa {N : Nat} {i : Int32} (hd : decode X.2.1 pc = .ok (.newarray .int, 2)) (hi : ¬ i < 0) (hN : i.toNatClampNeg = N) (hb4 : N * 4 ≤ 536870912) (hc : k + 1 ≤ X.2.2.2.2.2.1) (hsl : n + N ≤ X.2.2.2.2.2.2) (ok : OkH (S, Rf, M)) (hst : st.all (rok S.length) = true) (hlv : rokl S.length lv = true) (kk : OkH (S ++ [(7, N)], Rf, M) → WP X (pc + 2) lv (.ref S.length :: st) (k + 1) (n + N) (S ++ [(7, N)], Rf, M) Q) : WP X pc lv (.int i :: st) k n (S, Rf, M) Q := by
  intro l p e s m args below meth c D cI cC A ad0 n0 ad H locs ls C G L
  obtain ⟨hx, hb, hr, hml, hown, hts, hlocks, hnm0, hNW, hK, hA⟩ := id C
  obtain ⟨g1, g2, g3, hP, hD, hS⟩ := id G
  refine va_newa hx hb (hts _ arr_int) (ty := .int) rfl hK hP hD hS hA (n := i) (N' := N) (a0 := (N, .inl (fun _ => 0))) (fun _ => rfl) hi hN hb4 hc hsl hd (fun q cA H1 hK1 hP1 hD1 hS1 => ?_)
  have e1 := (hK1.2 2 (cA, .int) rfl).2
  have e2 := (hK.2 0 (cI, .int) rfl).2
  have : cA = cI := by
    have e1 : s.vm.findClass _ = some cA := e1
    have e2 : s.vm.findClass _ = some cI := e2
    rw [e2] at e1
    cases e1
    rfl
  subst this
  have ew := wld_push (cI := cA) (cC := cC) (ad := ad) (q := q) (x := (7, N)) ok (cel_new7 ok)
  rw [← ew] at hP1 hD1
  have := kk (ok.push _) l p e s m args below meth c D cA cC A ad0 n0 (va_up ad S.length q) H1 locs ls C (hx_push G (by omega) hP1 hD1 hS1) (lh_ad L va_up_lt hlv)
  rw [List.map_cons, map_rok va_up_lt hst] at this
  simpa [cv, va_up] using this
theorem r_newq {N idx : Nat} {i : Int32} (hd : decode X.2.1 pc = .ok (.anewarray idx, 3)) (hl : Cond.classLink X.1.cls idx "StoragePath$Command" ∈ gG) (hi : ¬ i < 0) (hN : i.toNatClampNeg = N) (hb4 : N * 4 ≤ 536870912) (hc : k + 1 ≤ X.2.2.2.2.2.1) (hsl : n + N ≤ X.2.2.2.2.2.2) (ao : Cond.arrayOver (.object "StoragePath$Command") ∈ lw_tbl) (ok : OkH (S, Rf, M)) (hst : st.all (rok S.length) = true) (hlv : rokl S.length lv = true) (kk : OkH (S ++ [(8, N)], Rf, M) → WP X (pc + 3) lv (.ref S.length :: st) (k + 1) (n + N) (S ++ [(8, N)], Rf, M) Q) : WP X pc lv (.int i :: st) k n (S, Rf, M) Q := by
  intro l p e s m args below meth c D cI cC A ad0 n0 ad H locs ls C G L
  obtain ⟨hx, hb, hr, hml, hown, hts, hlocks, hnm0, hNW, hK, hA⟩ := id C
  obtain ⟨g1, g2, g3, hP, hD, hS⟩ := id G
  refine va_newq hx hb hown (hts _ hl) (hNW.2.2 _ ao) hK hP hD hS hA (n := i) (N' := N) hi hN hb4 hc hsl hd (fun q cA H1 hK1 hP1 hD1 hS1 => ?_)
  obtain ⟨-, -, -, -, -, e1⟩ := (hK1.2 2 (cA, .object "StoragePath$Command") rfl).2
  obtain ⟨-, -, -, -, -, e2⟩ := (hK.2 1 (cC, .object "StoragePath$Command") rfl).2
  have : cA = cC := by
    rw [e2] at e1
    cases e1
    rfl
  subst this
  have ew := wld_push (cI := cI) (cC := cA) (ad := ad) (q := q) (x := (8, N)) ok (cel_new8 ok)
  rw [← ew] at hP1 hD1
  have := kk (ok.push _) l p e s m args below meth c D cI cA A ad0 n0 (va_up ad S.length q) H1 locs ls C (hx_push G (by omega) hP1 hD1 hS1) (lh_ad L va_up_lt hlv)
  rw [List.map_cons, map_rok va_up_lt hst] at this
  simpa [cv, va_up] using this
theorem cel_newo {cI cC : ClassId} {ad : Nat → Nat} {ci N : Nat} (h : OkH (S, Rf, M)) (hci : ci < 7) : cel cI cC ad (S ++ [(ci, N)], Rf, M) S.length = .inr (ci, (List.range N).map (fun j => if fref ci j = true then Value.null else .int 0)) := by
  rw [cel_o (N := N) (ci := ci) (by simp) hci]
  congr 2
  apply List.map_congr_left
  intro j _
  unfold fv
  dsimp only
  rw [show Rf S.length j = none from h.2.1 _ j (Nat.le_refl _), show M S.length j = 0 from h.2.2 _ j (Nat.le_refl _)]
  rfl
theorem r_newc {ci N idx : Nat} (hd : decode X.2.1 pc = .ok (.new idx, 3)) (hci : ci < 7) (hNn : (clC ci).2.2 = N) (hl : Cond.classLink X.1.cls idx (clC ci).1 ∈ gG) (hin : Cond.instantiable (clC ci).1 (clC ci).2.2 ∈ gG) (hini : Cond.initialized (clC ci).1 ∈ gG) (hdef : ∀ j, j < N → defaultValue (tyA ci j) = if fref ci j = true then Value.null else .int 0) (hc : k + 1 ≤ X.2.2.2.2.2.1) (hsl : n + N ≤ X.2.2.2.2.2.2) (ok : OkH (S, Rf, M)) (hst : st.all (rok S.length) = true) (hlv : rokl S.length lv = true) (kk : OkH (S ++ [(ci, N)], Rf, M) → WP X (pc + 3) lv (.ref S.length :: st) (k + 1) (n + N) (S ++ [(ci, N)], Rf, M) Q) : WP X pc lv st k n (S, Rf, M) Q := by
  intro l p e s m args below meth c D cI cC A ad0 n0 ad H locs ls C G L
  obtain ⟨hx, hb, hr, hml, hown, hts, hlocks, hnm0, hNW, hK, hA⟩ := id C
  obtain ⟨g1, g2, g3, hP, hD, hS⟩ := id G
  obtain ⟨hcl, hinw, hty, hnm⟩ := cfs ci hci
  subst hNn
  refine va_new (ci := ci) (fs := (List.range (clC ci).2.2).map (fun j => if fref ci j = true then Value.null else .int 0)) hx hb hts hinw (tyA ci) hty hown (hts _ hl) (hts _ hin) (hts _ hini) hK hP hD hS hA hcl (fun j hj => ?_) hc hsl hd (fun q H1 hP1 hD1 hS1 => ?_)
  · rw [hdef j hj]
    simp [vp_V, List.getD, hj]
  · have ew := wld_push (cI := cI) (cC := cC) (ad := ad) (q := q) (x := (ci, (clC ci).2.2)) ok (cel_newo ok hci)
    rw [← ew] at hP1 hD1
    have := kk (ok.push _) l p e s m args below meth c D cI cC A ad0 n0 (va_up ad S.length q) H1 locs ls C (hx_push G (by omega) hP1 hD1 hS1) (lh_ad L va_up_lt hlv)
    rw [List.map_cons, map_rok va_up_lt hst] at this
    simpa [cv, va_up] using this
theorem r_putRk {a ci N kf idx b : Nat} (hd : decode X.2.1 pc = .ok (.putfield idx, 3)) (hw : FW X.1.cls idx ci kf) (hs : S[a]? = some (ci, N)) (hk : kf < N) (hf : fref ci kf = true) (hfin : ((clC ci).2.1 kf).2.2.2 = true ∧ X.1.name = "<init>" ∧ ((clC ci).2.1 kf).1 = X.1.cls) (hl : Cond.fieldLink X.1.cls idx ((clC ci).2.1 kf).1 ((clC ci).2.1 kf).2.1 ((clC ci).2.1 kf).2.2.1 ∈ gG) (hn : ∀ q, narrow (tyA ci kf) (.ref q) = .ref q) (hfit : ∀ q, fits (tyA ci kf) (.ref q) = true) (ok : OkH (S, Rf, M)) (hb : b < S.length) (kk : OkH (S, updR Rf a kf (some b), M) → WP X (pc + 3) lv st k n (S, updR Rf a kf (some b), M) Q) : WP X pc lv (.ref b :: .ref a :: st) k n (S, Rf, M) Q := r_putR hd hw hs hk hf hfin hl hn hfit (kk (ok.putR (lt_of_get hs) hb))
theorem r_aastore {a N b ci Nb : Nat} {i : Int32} (hd : decode X.2.1 pc = .ok (.aastore, 1)) (hs : S[a]? = some (8, N)) (hin : vp_in i N) (hsb : S[b]? = some (2, Nb)) (ok : OkH (S, Rf, M)) (kk : OkH (S, updR Rf a i.toNatClampNeg (some b), M) → WP X (pc + 1) lv st k n (S, updR Rf a i.toNatClampNeg (some b), M) Q) : WP X pc lv (.ref b :: .int i :: .ref a :: st) k n (S, Rf, M) Q := by
  intro l p e s m args below meth c D cI cC A ad0 n0 ad H locs ls C G L
  obtain ⟨hx, hb, hr, hml, hown, hts, hlocks, hnm0, hNW, hK, hA⟩ := id C
  obtain ⟨g1, g2, g3, hP, hD, hS⟩ := id G
  have he := wld_at (cI := cI) (cC := cC) (ad := ad) (h := (S, Rf, M)) (lt_of_get hs)
  rw [cel_8 hs] at he
  have hv := wld_at (cI := cI) (cC := cC) (ad := ad) (h := (S, Rf, M)) (lt_of_get hsb)
  rw [cel_o hsb (by decide)] at hv
  have hset : (wld cI cC ad (S, Rf, M)).set a (ad a, .inl (cC, N, .inr (.inr (.inr (.inr (va_up (fun j => (Rf a j).map ad) i.toNatClampNeg (some (ad b)))))))) = wld cI cC ad (S, updR Rf a i.toNatClampNeg (some b), M) :=
    wld_set rfl (fun b hb => cel_ne (updR_n hb) rfl) (by
      rw [cel_8 (h := (S, updR Rf a i.toNatClampNeg (some b), M)) hs]
      dsimp only
      rw [updR_s]
      have : (fun j => (va_up (Rf a) i.toNatClampNeg (some b) j).map ad) = va_up (fun j => (Rf a j).map ad) i.toNatClampNeg (some (ad b)) := by
        funext j
        simp only [va_up]
        split <;> rfl
      rw [this])
  exact va_astq hx hb hK hP hD hS a 1 b 2 he (r := ((clC 2).1, (clC 2).2.1, (clC 2).2.2)) rfl hv (cfs 2 (by decide)).1 hin hd (fun H1 locs1 hP1 hD1 hS1 => by
    rw [hset] at hP1 hD1
    exact kk (ok.putR (lt_of_get hs) (lt_of_get hsb)) l p e s m args below meth c D cI cC A ad0 n0 ad H1 locs1 ls C ⟨g1, g2, g3, hP1, hD1, hS1⟩ L)
end ALLOC
