theorem good_gG {ws : List Cond} (h : ∀ w ∈ ws, w ∈ gG) : GoodIn gG ws := fun w hw => ⟨h w hw, good_of_word (List.mem_filter.mp (h w hw)).2⟩
theorem gG_of {w : Cond} (h1 : w ∈ lw_tbl) (h2 : goodWord w = true) : w ∈ gG := List.mem_filter.mpr ⟨h1, h2⟩
theorem gG_all {ws : List Cond} (h : ws.all (fun w => decide (w ∈ lw_tbl) && goodWord w) = true) : ∀ w ∈ ws, w ∈ gG := by
  intro w hw
  have h1 := List.all_eq_true.mp h w hw
  rw [Bool.and_eq_true, decide_eq_true_eq] at h1
  exact gG_of h1.1 h1.2
def cOK (Y : MX) (na : Nat) : Prop := Cond.code Y.1 Y.2.1 Y.2.2.1 Y.2.2.2.1 ∈ gG ∧ Cond.initialized Y.1.cls ∈ gG ∧ (Y.1.cls ≠ "java/lang/invoke/MethodHandle" ∧ Y.1.cls ≠ "java/lang/invoke/VarHandle" ∧ (parseMethodDescriptor Y.1.desc).map (fun d => d.parameters.length) = some na)
def vOK (Y : MX) (na : Nat) : Prop := cOK Y na ∧ Cond.instanceMethod Y.1 ∈ gG ∧ Cond.selects Y.1.cls Y.1 Y.1 ∈ gG
theorem mxW_in {Y : MX} {na : Nat} (h : cOK Y na) : ∀ w ∈ mxW Y, w ∈ gG := fun w hw => (List.mem_cons.mp hw).elim (fun q => q ▸ h.1) id
/-- a reference that names a cell -/
def rok (N : Nat) : Value → Bool
  | .ref a => decide (a < N)
  | _ => true
theorem cv_rok {ad ad' : Nat → Nat} {N : Nat} (h : ∀ a, a < N → ad' a = ad a) {v : Value} (hv : rok N v = true) : cv ad' v = cv ad v := by
  cases v with
  | ref a => simp only [rok, decide_eq_true_eq] at hv; simp only [cv, h a hv]
  | _ => rfl
theorem map_rok {ad ad' : Nat → Nat} {N : Nat} (h : ∀ a, a < N → ad' a = ad a) {st : List Value} (hv : st.all (rok N) = true) : st.map (cv ad') = st.map (cv ad) := List.map_congr_left (fun v q => cv_rok h (List.all_eq_true.mp hv v q))
def rokl (N : Nat) : List (Option Value) → Bool
  | [] => true
  | none :: t => rokl N t
  | some v :: t => rok N v && rokl N t
theorem rokl_ok {N : Nat} : ∀ {lv : List (Option Value)}, rokl N lv = true → ∀ v, some v ∈ lv → rok N v = true
  | [], _, v, h => by cases h
  | none :: t, q, v, h => by
    rcases List.mem_cons.mp h with z | z
    · cases z
    · exact rokl_ok (lv := t) q v z
  | some w :: t, q, v, h => by
    simp only [rokl, Bool.and_eq_true] at q
    rcases List.mem_cons.mp h with z | z
    · cases z
      exact q.1
    · exact rokl_ok (lv := t) q.2 v z
section CALLS
variable {p : Program} {l : Launch} {e : Env} {R : Room} {s : State} {m : MethodId} {args : Array Value} {below : List Frame} {meth : Method} {c : Code} {H : Heap} {locs : List Loc} {cells slots : Nat} {Qf : State → Prop}
theorem call_go {pc : Nat} {ls : Array Slot} {rest st0 : List Value} {A0 : Nat → Prop} {H0 : Heap} {mc ms : Nat} {free : Addr → Prop} {Qa : State → Outcome → State → Prop} (hr : va_Run p l e R s m args below meth c H locs cells slots mc ms (F0 m pc ls st0) rest Qa free) (hS : va_S A0 H0 H locs) (hf : ∀ q, free q → A0 q) (hF : ∀ st o t, Qa st o t → va_F free st t)
    (kk : ∀ (v : Option Value) (st t : State) (H1 : Heap) (locs1 : List Loc), st.heap = H → t.heap = H1 → s.vm.Alike t.vm → Qa st (.returned v) t → va_S A0 H0 H1 locs1 → W p l e R s m args below meth c H1 locs1 (cells + mc) (slots + ms) Qf (F0 m (pc + 3) ls (v.toList ++ rest))) : W p l e R s m args below meth c H locs cells slots Qf (F0 m pc ls st0) := by
  intro T hT X
  obtain ⟨v, st₀, t, T', L, h0, X', hL, e1, e2, hq, st⟩ := hr T hT X
  obtain ⟨hz, hk⟩ := hF _ _ _ hq
  rw [h0] at hz hk
  obtain ⟨t2, a1, b1⟩ := kk v st₀ t T'.heap (locs ++ L) h0 e1.symm (by rw [← e2]; exact X'.warmed.alike) hq
    ⟨Nat.le_trans hS.1 (by rw [e1]; exact hz), fun q h1 h2 => by rw [e1, hk q (Nat.lt_of_lt_of_le h1 hS.1) (fun z => h2 (hf q z))]; exact hS.2.1 q h1 h2, fun q hq => by
      rcases List.mem_append.mp hq with h | h
      · exact hS.2.2 q h
      · exact hf _ (hL q h)⟩ T' rfl X'
  exact ⟨t2, st t2 a1, b1⟩
theorem con_blind {av : List Value} {D : va_G} {cI cC : ClassId} {ad : Nat → Nat} {h : Hp} {sz : Nat} : FrameBlind (va_Pc av (fun U => U.heap.size = sz ∧ va_P D vwCl (wld cI cC ad h) U.heap ∧ va_K D vwCl (tyz cI cC) U ∧ va_D (fun _ => True) (wld cI cC ad h) ∧ NW U)) := by
  intro a U g mk q
  obtain ⟨q0, q1, qP, qK, qD, qN⟩ := q
  exact ⟨q0, q1, qP, va_K.moved (u := U) (U := U.calling g mk a) (Vm.Alike.refl U.vm) qK, qD, NW.same (s := U) (U := U.calling g mk a) rfl qN⟩
end CALLS
section CALLR
variable {X Y : MX} {pc : Nat} {lv : List (Option Value)} {st : List Value} {k n : Nat} {S : List (Nat × Nat)} {Rf : Nat → Nat → Option Nat} {M : Mem} {Q Q1 : Option Value → Hp → Prop}
/-- the frames, the locals' words, the cells and the slots that a call takes -/
def cRoom (X Y : MX) (k n : Nat) (st : List Value) : Prop := ((mxR Y).frames + 1 ≤ (mxR X).frames ∧ 8 + (Y.2.2.1 + 11) + (mxR Y).locals ≤ (mxR X).locals) ∧ (k + Y.2.2.2.2.2.1 ≤ X.2.2.2.2.2.1 ∧ n + Y.2.2.2.2.2.2 ≤ X.2.2.2.2.2.2) ∧ (st.map fun v => v.category).sum ≤ 8
theorem r_after {avs : List Value} (hroom : cRoom X Y k n st) (hval : Y.2.2.2.2.2.1 = 0 ∨ (st.all (rok S.length) = true ∧ rokl S.length lv = true)) (kk : ∀ r h', Q1 r h' → WP X (pc + 3) lv (r.toList ++ st) (k + Y.2.2.2.2.2.1) (n + Y.2.2.2.2.2.2) h' Q)
    (l : Launch) (p : Program) (e : Env) (s : State) (m : MethodId) (args : Array Value) (below : List Frame) (meth : Method) (c : Code) (D : va_G) (cI cC : ClassId) (A : Nat → Prop) (ad0 : Nat → Nat) (n0 : Nat) (ad : Nat → Nat) (H : Heap) (locs : List Loc) (ls : Array Slot)
    (C : Cx X p s m args meth c D cI cC A) (G : Hx X s D cI cC A ad0 n0 ad (S, Rf, M) H locs) (L : lh ls X.2.2.1 ad lv) {st0 : List Value}
    (hr : va_Run p l e (mxR X) s m args below meth c H locs k n Y.2.2.2.2.2.1 Y.2.2.2.2.2.2 (F0 m pc ls st0) (st.map (cv ad)) (Qw Y D cI cC (va_A (wld cI cC ad (S, Rf, M)) H.size) ad S.length Q1 avs.toArray) (va_A (wld cI cC ad (S, Rf, M)) H.size)) :
    W p l e (mxR X) s m args below meth c H locs k n (MQ below (Qw X D cI cC A ad0 n0 Q) args s X.2.2.2.2.2.1 X.2.2.2.2.2.2 A) (F0 m pc ls st0) := by
  obtain ⟨hx, hb, hr0, hml, hown, hts, hlocks, hnm0, hNW, hK, hA⟩ := id C
  obtain ⟨g1, g2, g3, hP, hD, hS⟩ := id G
  have hfree : ∀ q, va_A (wld cI cC ad (S, Rf, M)) H.size q → A q := by
    intro q hq
    rcases hq with ⟨j, e', hj⟩ | hq
    · exact hD.2 j _ hj
    · exact hA q (Nat.le_trans hS.1 hq)
  refine call_go hr hS hfree (fun st' o t hq => hq.2) (fun v st' t H1 locs1 hst' ht hvm hq hS1 => ?_)
  obtain ⟨⟨r, h', ad1, ho, hQ1, a1, a2, a3, hP1, hD1⟩, hF⟩ := hq
  cases ho
  rw [ht] at hP1
  have hD2 : va_D A (wld cI cC ad1 h') := hD1.weaken (fun _ q _ z => hfree q.1 z)
  have hst : st.map (cv ad1) = st.map (cv ad) := by
    rcases hval with z | z
    · rw [a3 z]
    · exact map_rok a1 z.1
  have hL : lh ls X.2.2.1 ad1 lv := by
    rcases hval with z | z
    · rw [a3 z]; exact L
    · exact ⟨L.1, L.2.1, fun i v hv => by rw [cv_rok a1 (rokl_ok z.2 v (List.mem_of_getElem? hv))]; exact L.2.2 i v hv⟩
  have hG : Hx X s D cI cC A ad0 n0 ad1 h' H1 locs1 := by
    refine ⟨fun a ha => ?_, Nat.le_trans g2 a2, fun hz => ?_, hP1, hD2, hS1⟩
    · rw [a1 a (Nat.lt_of_lt_of_le ha g2)]
      exact g1 a ha
    · have hy : Y.2.2.2.2.2.1 = 0 := by have := hroom.2.1.1; omega
      rw [a3 hy]
      exact g3 hz
  have := kk r h' hQ1 l p e s m args below meth c D cI cC A ad0 n0 ad1 H1 locs1 ls C hG hL
  rw [List.map_append, hst] at this
  cases r with
  | none => exact this
  | some v => exact this
theorem pre_go {avs : List Value} {s : State} {D : va_G} {cI cC : ClassId} {A : Nat → Prop} {ad : Nat → Nat} {h : Hp} {H : Heap} (hK : va_K D vwCl (tyz cI cC) s) (hN : NW s) (hP : va_P D vwCl (wld cI cC ad h) H) (hD : va_D A (wld cI cC ad h)) : ∀ U : State, U.heap = H → s.WarmedH U.vm → (va_Pc (avs.map (cv ad)) (fun U => U.heap.size = H.size ∧ va_P D vwCl (wld cI cC ad h) U.heap ∧ va_K D vwCl (tyz cI cC) U ∧ va_D (fun _ => True) (wld cI cC ad h) ∧ NW U)) (avs.map (cv ad)).toArray U :=
  fun U hU hW => ⟨rfl, by rw [hU], by rw [hU]; exact hP, va_K.moved hW.alike hK, hD.weaken (fun _ _ _ _ => trivial), hN.warm hW⟩
theorem r_callV {a ci N na idx : Nat} {as : List Value} (hd : decode X.2.1 pc = .ok (.invokevirtual idx, 3)) (hl : Cond.methodLink X.1.cls idx Y.1 ∈ gG) (hw : vOK Y na) (hs : S[a]? = some (ci, N)) (hci : ci < 7 ∧ (clC ci).1 = Y.1.cls) (hna : as.length = na) (hroom : cRoom X Y k n st) (hval : Y.2.2.2.2.2.1 = 0 ∨ (st.all (rok S.length) = true ∧ rokl S.length lv = true)) (hc : Con Y (.ref a :: as) (S, Rf, M) Q1) (kk : ∀ r h', Q1 r h' → WP X (pc + 3) lv (r.toList ++ st) (k + Y.2.2.2.2.2.1) (n + Y.2.2.2.2.2.2) h' Q) : WP X pc lv (as.reverse ++ .ref a :: st) k n (S, Rf, M) Q := by
  intro l p e s m args below meth c D cI cC A ad0 n0 ad H locs ls C G L
  obtain ⟨hx, hb, hr0, hml, hown, hts, hlocks, hnm0, hNW, hK, hA⟩ := id C
  obtain ⟨g1, g2, g3, hP, hD, hS⟩ := id G
  have he := wld_at (cI := cI) (cC := cC) (ad := ad) (h := (S, Rf, M)) (lt_of_get hs)
  rw [cel_o hs hci.1] at he
  have hrecv := va_recv hK hP (cfs ci hci.1).1 he
  rw [hci.2] at hrecv
  have hcw := callB_of (R := mxR X) (rm := mxR Y) (mc := Y.2.2.2.2.2.1) (ms := Y.2.2.2.2.2.2) (ws := mxW Y) na hts (good_gG (mxW_in hw.1)) rfl rfl rfl (hts _ hw.1.2.1) (hts _ hl) hw.1.2.2 hroom.1
  refine r_after (avs := (.ref a :: as).map (cv ad)) hroom hval kk l p e s m args below meth c D cI cC A ad0 n0 ad H locs ls C G L ?_
  refine va_runV (As := as.map (cv ad)) (b := ad a) (C := Y.1.cls) ⟨hx, hb, hml, hown, hts⟩ (hc l D cI cC ad H.size) ⟨hcw, hts _ hw.2.1, hts _ hw.2.2⟩ ⟨con_blind, hrecv, pre_go (avs := .ref a :: as) hK hNW hP hD⟩ rfl (by simpa using hna) L.1 ?_ (lv_room ?_) hd hroom.2.1
  · show List.map (cv ad) _ = _
    rw [List.map_append, List.map_reverse]
    rfl
  · rw [List.map_map]
    have : ((fun v : Value => v.category) ∘ cv ad) = fun v => v.category := by funext v; exact cv_cat
    rw [this]
    exact hroom.2.2
theorem r_callS {na idx : Nat} {as : List Value} (hd : decode X.2.1 pc = .ok (.invokestatic idx, 3)) (hl : Cond.methodLink X.1.cls idx Y.1 ∈ gG) (hw : cOK Y na) (hst : Cond.static Y.1 ∈ gG) (hna : as.length = na) (hroom : cRoom X Y k n st) (hval : Y.2.2.2.2.2.1 = 0 ∨ (st.all (rok S.length) = true ∧ rokl S.length lv = true)) (hc : Con Y as (S, Rf, M) Q1) (kk : ∀ r h', Q1 r h' → WP X (pc + 3) lv (r.toList ++ st) (k + Y.2.2.2.2.2.1) (n + Y.2.2.2.2.2.2) h' Q) : WP X pc lv (as.reverse ++ st) k n (S, Rf, M) Q := by
  intro l p e s m args below meth c D cI cC A ad0 n0 ad H locs ls C G L
  obtain ⟨hx, hb, hr0, hml, hown, hts, hlocks, hnm0, hNW, hK, hA⟩ := id C
  obtain ⟨g1, g2, g3, hP, hD, hS⟩ := id G
  have hcw := callB_of (R := mxR X) (rm := mxR Y) (mc := Y.2.2.2.2.2.1) (ms := Y.2.2.2.2.2.2) (ws := mxW Y) na hts (good_gG (mxW_in hw)) rfl rfl rfl (hts _ hw.2.1) (hts _ hl) hw.2.2 hroom.1
  refine r_after (avs := as.map (cv ad)) hroom hval kk l p e s m args below meth c D cI cC A ad0 n0 ad H locs ls C G L ?_
  refine va_runS (As := as.map (cv ad)) ⟨hx, hb, hml, hown, hts⟩ (hc l D cI cC ad H.size) ⟨hcw, hts _ hst⟩ ⟨con_blind, pre_go (avs := as) hK hNW hP hD⟩ rfl (by simpa using hna) L.1 ?_ (lv_room ?_) hd hroom.2.1
  · show List.map (cv ad) _ = _
    rw [List.map_append, List.map_reverse]
  · rw [List.map_map]
    have : ((fun v : Value => v.category) ∘ cv ad) = fun v => v.category := by funext v; exact cv_cat
    rw [this]
    exact hroom.2.2
theorem r_callI {a na idx : Nat} {as : List Value} (hd : decode X.2.1 pc = .ok (.invokespecial idx, 3)) (hl : Cond.methodLink X.1.cls idx Y.1 ∈ gG ∨ ∃ host, Cond.methodLinkNest X.1.cls idx Y.1 host ∈ lw_tbl) (hw : cOK Y na) (hin : Cond.instanceMethod Y.1 ∈ gG) (hy : Y.1.name = "<init>" ∧ Y.2.2.2.1 = none) (hna : as.length = na) (hroom : cRoom X Y k n st) (hval : Y.2.2.2.2.2.1 = 0 ∨ (st.all (rok S.length) = true ∧ rokl S.length lv = true)) (hc : Con Y (.ref a :: as) (S, Rf, M) Q1) (kk : ∀ r h', Q1 r h' → WP X (pc + 3) lv (r.toList ++ st) (k + Y.2.2.2.2.2.1) (n + Y.2.2.2.2.2.2) h' Q) : WP X pc lv (as.reverse ++ .ref a :: st) k n (S, Rf, M) Q := by
  intro l p e s m args below meth c D cI cC A ad0 n0 ad H locs ls C G L
  obtain ⟨hx, hb, hr0, hml, hown, hts, hlocks, hnm0, hNW, hK, hA⟩ := id C
  obtain ⟨g1, g2, g3, hP, hD, hS⟩ := id G
  refine r_after (avs := (.ref a :: as).map (cv ad)) hroom hval kk l p e s m args below meth c D cI cC A ad0 n0 ad H locs ls C G L ?_
  have hstk : (F0 m pc ls ((as.reverse ++ .ref a :: st).map (cv ad))).stack = (as.map (cv ad)).reverse ++ .ref (ad a) :: st.map (cv ad) := by
    show List.map (cv ad) _ = _
    rw [List.map_append, List.map_reverse]
    rfl
  have hcat : ((st.map (cv ad)).map fun v => v.category).sum ≤ 8 := by
    rw [List.map_map]
    have : ((fun v : Value => v.category) ∘ cv ad) = fun v => v.category := by funext v; exact cv_cat
    rw [this]
    exact hroom.2.2
  rcases hl with hl | ⟨host, hl⟩
  · have hcw := callB_of (R := mxR X) (rm := mxR Y) (mc := Y.2.2.2.2.2.1) (ms := Y.2.2.2.2.2.2) (ws := mxW Y) na hts (good_gG (mxW_in hw)) rfl rfl rfl (hts _ hw.2.1) (hts _ hl) hw.2.2 hroom.1
    rw [hy.2] at hcw
    exact va_runI (As := as.map (cv ad)) (b := ad a) ⟨hx, hb, hml, hown, hts⟩ (hc l D cI cC ad H.size) ⟨hcw, hy.1, hts _ hin⟩ ⟨con_blind, pre_go (avs := .ref a :: as) hK hNW hP hD⟩ rfl (by simpa using hna) L.1 hstk (lv_room hcat) hd hroom.2.1
  · have hcw := va_cnB (R := mxR X) (rm := mxR Y) (mc := Y.2.2.2.2.2.1) (ms := Y.2.2.2.2.2.2) (ws := mxW Y) na hts (good_gG (mxW_in hw)) rfl rfl rfl (hNW.2.1 _ _ _ _ hl) (hts _ hw.2.1) hw.2.2 hroom.1
    rw [hy.2] at hcw
    exact va_runIN (As := as.map (cv ad)) (b := ad a) ⟨hx, hb, hml, hown, hts⟩ (hc l D cI cC ad H.size) ⟨hcw, hy.1, hts _ hin⟩ ⟨con_blind, pre_go (avs := .ref a :: as) hK hNW hP hD⟩ rfl (by simpa using hna) L.1 hstk (lv_room hcat) hd hroom.2.1
theorem r_objInit {a idx : Nat} {h : Hp} (hd : decode X.2.1 pc = .ok (.invokespecial idx, 3)) (hl : Cond.methodLink X.1.cls idx objectInit ∈ gG) (hi : Cond.instanceMethod objectInit ∈ gG) (hcd : Cond.code objectInit ⟨#[0xb1]⟩ 1 none ∈ gG) (hf : 1 ≤ (mxR X).frames) (hlo : (st.map fun v => v.category).sum + 12 ≤ (mxR X).locals) (kk : WP X (pc + 3) lv st k n h Q) : WP X pc lv (.ref a :: st) k n h Q := by
  intro l p e s m args below meth c D cI cC A ad0 n0 ad H locs ls C G L
  obtain ⟨hx, hb, hr0, hml, hown, hts, hlocks, hnm0, hNW, hK, hA⟩ := id C
  refine W.objInit hx hb hown (hts _ hl) (hts _ hi) (hts _ hcd) rfl (L.1.trans hml.symm) rfl hd hf ?_ (kk l p e s m args below meth c D cI cC A ad0 n0 ad H locs ls C G L)
  show 2 * 0 + ((st.map (cv ad)).map fun v => v.category).sum + 12 ≤ _
  rw [List.map_map]
  have : ((fun v : Value => v.category) ∘ cv ad) = fun v => v.category := by funext v; exact cv_cat
  rw [this]
  omega
end CALLR
theorem lv_args_1 {vs : List Value} (hc : ∀ v ∈ vs, v.category = 1) : ∀ (j i : Nat) (v : Value), vs[i]? = some v → (j + i, v) ∈ lv_args j vs := by
  induction vs with
  | nil => intro j i v h; simp at h
  | cons a t ih =>
    intro j i v h
    have ha : a.category = 1 := hc a List.mem_cons_self
    cases i with
    | zero =>
      simp at h
      subst h
      exact List.mem_cons_self
    | succ i =>
      simp at h
      refine List.mem_cons_of_mem _ ?_
      rw [if_neg (by omega)]
      have := ih (fun v q => hc v (List.mem_cons_of_mem _ q)) (j + 1) i v h
      rwa [show j + 1 + i = j + (i + 1) by omega] at this
theorem lg_sl_1 {vs : List Value} (hc : ∀ v ∈ vs, v.category = 1) : (lg_sl vs).length = vs.length := by
  induction vs with
  | nil => rfl
  | cons a t ih =>
    have ha : a.category = 1 := hc a List.mem_cons_self
    have := ih (fun v q => hc v (List.mem_cons_of_mem _ q))
    simp only [lg_sl] at this ⊢
    rw [List.flatMap_cons, if_neg (by omega), List.length_append, this]
    simp
    omega
/-- a contract out of a walk from the entry -/
theorem con_of {X : MX} {avs : List Value} {lv : List (Option Value)} {h : Hp} {Q : Option Value → Hp → Prop} (hp : plainName X.1.cls = true) (hc : okc (avs.map some) = true) (hlen : avs.length ≤ X.2.2.1) (hlv : lvle lv (avs.map some)) (hw : WP X 0 lv [] 0 0 h Q) : Con X avs h Q := by
  intro l D cI cC ad sz
  refine Met.ofW (cc := X.2.1) (maxL := X.2.2.1) (ret := X.2.2.2.1) hp rfl ?_
  intro p e s m args below meth c s₁ B hml hv
  obtain ⟨rfl, hsz, hP, hK, hD0, hN⟩ := hv
  subst hsz
  have hts := atoms_spec (ws := mxW X) B.pre
  have hcat : ∀ v ∈ avs.map (cv ad), v.category = 1 := by
    intro v hv
    obtain ⟨w, hw1, rfl⟩ := List.mem_map.mp hv
    rw [cv_cat]
    exact okc_ok hc w (List.mem_map.mpr ⟨w, hw1, rfl⟩)
  have hl := lv_entry (avs.map (cv ad)) (n := X.2.2.1) (by rw [lg_sl_1 hcat, List.length_map]; exact hlen)
  rw [lg_entry_eq]
  refine hw l p e s m _ below meth c D cI cC _ ad h.1.length ad s.heap [] _ ⟨B.exec, B.bytes, B.returns, hml, findClass_of_methodNamed B.named, fun w q => hts w (List.mem_cons_of_mem _ q), B.notSynchronized, (name_of_methodNamed B.named B.method).1, hN, hK, fun q z => Or.inr z⟩ ⟨fun _ _ => rfl, Nat.le_refl _, fun _ => rfl, hP, hD0.self, va_S.rf⟩ ⟨hl.1, hl.2.1, fun i v hv => ?_⟩
  have h1 := lvle_ok hlv i v hv
  rw [List.getElem?_map] at h1
  have h2 : (avs.map (cv ad))[i]? = some (cv ad v) := by
    rw [List.getElem?_map]
    cases hx : avs[i]? with
    | none => rw [hx] at h1; cases h1
    | some w => rw [hx] at h1; cases h1; rfl
  have h3 := lv_args_1 hcat 0 i _ h2
  rw [Nat.zero_add] at h3
  exact hl.2.2 _ h3
