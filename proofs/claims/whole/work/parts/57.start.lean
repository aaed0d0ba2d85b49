theorem lw_callI0 {p : Program} {l : Launch} {e : Env} {s : State} {m : MethodId} {below : List Frame} {meth : Method} {c : Code} {b L : Nat} {xs : Nat → Int32} {D : va_G} {cI cC : ClassId} {ad : Nat → Nat} {H : Heap} {locs : List Loc} {ls : Array Slot} {pc k n : Nat} {st : List Value} {Y : MX} {a j idx : Nat} {lr : List (Nat × Nat × Nat)} {M : Mem} {P : Hp → Prop} (G : LG p s m meth c b L xs D cI cC) (hd : decode code pc = .ok (.invokespecial idx, 3)) (hl : Cond.methodLink R_law idx Y.1 ∈ gG) (hw : cOK Y 0) (hin : Cond.instanceMethod Y.1 ∈ gG) (hy : Y.1.name = "<init>" ∧ Y.2.2.2.1 = none) (hroom : roomL Y k n st = true) (hj : j ≤ 62) (hls : ls.size = 4) (hc : Con Y [.ref a] (shp.take j, RLf lr, M) (fun r h => r = none ∧ P h)) (hH : Hl s D cI cC ad (shp.take j, RLf lr, M) H locs)
    (kk : ∀ ad1 h' H1 locs1, (∀ q, q < j → ad1 q = ad q) → P h' → Hl s D cI cC ad1 h' H1 locs1 → W p l e room_1 s m #[Value.ref b] below meth c H1 locs1 (k + Y.2.2.2.2.2.1) (n + Y.2.2.2.2.2.2) (lw_Z below #[Value.ref b] s) (F0 m (pc + 3) ls st)) : W p l e room_1 s m #[Value.ref b] below meth c H locs k n (lw_Z below #[Value.ref b] s) (F0 m pc ls (.ref (ad a) :: st)) := by
  obtain ⟨⟨hx, hb, hr, hml, hown, hts0, hX, hbl, hlocks, hgv⟩, hN, hK⟩ := G
  have hts : ∀ w ∈ gG, w.before #[Value.ref b] s = true := fun w hw => hts0 w (List.mem_filter.mp hw).1
  obtain ⟨hP, hD, hS⟩ := hH
  obtain ⟨r1, r2, r3⟩ := roomL_ok hroom
  have hcw := callB_of (R := room_1) (rm := mxR Y) (mc := Y.2.2.2.2.2.1) (ms := Y.2.2.2.2.2.2) (ws := mxW Y) 0 hts (good_gG (mxW_in hw)) rfl rfl rfl (hts _ hw.2.1) (hts _ hl) hw.2.2 r1
  rw [hy.2] at hcw
  have hfree : ∀ q, va_A (wld cI cC ad (shp.take j, RLf lr, M)) H.size q → AH s q := by
    intro q hq
    rcases hq with ⟨i, e', hi⟩ | hq
    · exact hD.2 i _ hi
    · exact Nat.le_trans hS.1 hq
  refine call_go (va_runI (As := []) (b := ad a) ⟨hx, hb, hml, hown, hts⟩ (hc l D cI cC ad H.size) ⟨hcw, hy.1, hts _ hin⟩ ⟨con_blind, pre_go (avs := [.ref a]) hK hN hP hD⟩ rfl rfl hls rfl (lv_room r3) hd r2) hS hfree (fun st' o t hq => hq.2) (fun v st' t H1 locs1 hst' ht hvm hq hS1 => ?_)
  obtain ⟨⟨r', h', ad1, ho, hQ1, a1, a2, a3, hP1, hD1⟩, hF⟩ := hq
  obtain ⟨rfl, hQ1⟩ := hQ1
  cases ho
  rw [ht] at hP1
  exact kk ad1 h' H1 locs1 (fun q hq => a1 q (by rw [tk_len hj]; exact hq)) hQ1 ⟨hP1, hD1.weaken (fun _ q _ z => hfree q.1 z), hS1⟩
theorem lw_new {p : Program} {l : Launch} {e : Env} {s : State} {m : MethodId} {below : List Frame} {meth : Method} {c : Code} {b L : Nat} {xs : Nat → Int32} {D : va_G} {cI cC : ClassId} {ad : Nat → Nat} {H : Heap} {locs : List Loc} {ls : Array Slot} {pc k n : Nat} {st : List Value} {ci N idx j : Nat} {lr : List (Nat × Nat × Nat)} {M : Mem} (G : LG p s m meth c b L xs D cI cC) (hd : decode code pc = .ok (.new idx, 3)) (hci : ci < 7) (hNn : (clC ci).2.2 = N) (hl : Cond.classLink R_law idx (clC ci).1 ∈ gG) (hin : Cond.instantiable (clC ci).1 (clC ci).2.2 ∈ gG) (hini : Cond.initialized (clC ci).1 ∈ gG) (hdef : ∀ j, j < (clC ci).2.2 → defaultValue (tyA ci j) = if fref ci j = true then Value.null else .int 0) (hs : shp[j]? = some (ci, N)) (hc : k + 1 ≤ room_1.cells) (hsl : n + N ≤ room_1.slots) (ok : OkH (shp.take j, RLf lr, M)) (hH : Hl s D cI cC ad (shp.take j, RLf lr, M) H locs)
    (kk : ∀ q H1, OkH (shp.take (j + 1), RLf lr, M) → Hl s D cI cC (va_up ad j q) (shp.take (j + 1), RLf lr, M) H1 locs → W p l e room_1 s m #[Value.ref b] below meth c H1 locs (k + 1) (n + N) (lw_Z below #[Value.ref b] s) (F0 m (pc + 3) ls (.ref q :: st))) : W p l e room_1 s m #[Value.ref b] below meth c H locs k n (lw_Z below #[Value.ref b] s) (F0 m pc ls st) := by
  obtain ⟨⟨hx, hb, hr, hml, hown, hts0, hX, hbl, hlocks, hgv⟩, hN, hK⟩ := G
  have hts : ∀ w ∈ gG, w.before #[Value.ref b] s = true := fun w hw => hts0 w (List.mem_filter.mp hw).1
  obtain ⟨hP, hD, hS⟩ := hH
  obtain ⟨hcl, hinw, hty, hnm⟩ := cfs ci hci
  subst hNn
  have e1 : (shp.take j).length = j := tk_len (by have := tk_lt hs; omega)
  refine va_new (ci := ci) (fs := (List.range (clC ci).2.2).map (fun j => if fref ci j = true then Value.null else .int 0)) hx hb hts hinw (tyA ci) hty hown (hts _ hl) (hts _ hin) (hts _ hini) hK hP hD hS (fun _ h => h) hcl (fun j hj => ?_) hc hsl hd (fun q H1 hP1 hD1 hS1 => ?_)
  · rw [hdef j hj]
    simp [vp_V, List.getD, hj]
  · have ew := wld_push (cI := cI) (cC := cC) (ad := ad) (q := q) (x := (ci, (clC ci).2.2)) ok (cel_newo ok hci)
    rw [← ew] at hP1 hD1
    have ok1 := ok.push (ci, (clC ci).2.2)
    rw [tk_add hs] at ok1 hP1 hD1
    rw [e1] at hP1 hD1
    exact kk q H1 ok1 ⟨hP1, hD1, hS1⟩
theorem kn_s {s : State} {b : Nat} (hts : ∀ w ∈ gG, w.before #[Value.ref b] s = true) : ∀ ci, ∃ q : ClassId × (Nat → Nat), ci < 7 → u_Kn s (clC ci).1 (clC ci).2.1 (clC ci).2.2 q.1 q.2 := by
  intro ci
  have go : ∀ {ci : Nat}, ci < 7 → Cond.instantiable (clC ci).1 (clC ci).2.2 ∈ gG → ∃ q : ClassId × (Nat → Nat), ci < 7 → u_Kn s (clC ci).1 (clC ci).2.1 (clC ci).2.2 q.1 q.2 := fun {ci} h hi => by
    obtain ⟨cc, iS, hk⟩ := u_known (n := (clC ci).2.2) hts (cfs ci h).2.1 (hts _ hi)
    exact ⟨(cc, iS), fun _ => hk⟩
  match ci with
  | 0 => exact go (by decide) inw0
  | 1 => exact go (by decide) inw1
  | 2 => exact go (by decide) inw2
  | 3 => exact go (by decide) inw3
  | 4 => exact go (by decide) inw4
  | 5 => exact go (by decide) inw5
  | 6 => exact go (by decide) inw6
  | n + 7 => exact ⟨(0, fun _ => 0), fun h => absurd h (by omega)⟩
theorem lg_of {p : Program} {s : State} {m : MethodId} {meth : Method} {c : Code} {b L : Nat} {xs : Nat → Int32} (C0 : lw_At p s m meth c b L xs) : ∃ D cI cC, LG p s m meth c b L xs D cI cC := by
  obtain ⟨hx, hb, hr, hml, hown, hts0, hX, hbl, hlocks, hgv⟩ := id C0
  have hts : ∀ w ∈ gG, w.before #[Value.ref b] s = true := fun w hw => hts0 w (List.mem_filter.mp hw).1
  have hN : NW s := ⟨fun a i b n d g q => va_Nw.of rfl (hts0 _ q), fun a i y g q => va_Nw.of rfl (hts0 _ q), fun C q => va_AO.of (hts0 _ q)⟩
  obtain ⟨cI, kI, compI, i1, i2, i3⟩ := Cond.arrayClass_spec (hts _ arr_int)
  obtain ⟨comp, cC, kC, o1, o2, o3, o4, o5⟩ := Cond.arrayOver_spec (hts0 _ aoC)
  have hk := kn_s hts
  refine ⟨(fun ci => (Classical.choose (hk ci)).1, fun ci => (Classical.choose (hk ci)).2), cI, cC, C0, hN, fun ci q hq => ?_, fun k q hq => ?_⟩
  · have hl : ci < 7 := lt_of_get hq
    have h1 := Classical.choose_spec (hk ci) hl
    rw [(cfs ci hl).1] at hq
    cases hq
    exact h1
  · match k, hq with
    | 0, hq =>
      cases hq
      exact ⟨fun n z => ⟨fun k h => (by cases h), kI, i2, compI, i3⟩, i1⟩
    | 1, hq =>
      cases hq
      exact ⟨fun n z => ⟨fun k h => (by cases h), kC, o3, comp, o4⟩, kC, comp, o3, o4, o1, o5⟩
    | n + 2, hq => simp [tyz] at hq
theorem okH0 : OkH (shp.take 0, RLf [], fun _ _ => 0) := ⟨(fun a k b h => by cases h), fun _ _ _ => rfl, fun _ _ _ => rfl⟩
set_option maxHeartbeats 4000000 in
set_option maxRecDepth 100000 in
/-- from the entry, for every script of at most 4608 ints, the law comes to its end with true -/
theorem whole_start {p : Program} {e : Env} {s : State} {m : MethodId} {below : List Frame} {meth : Method} {c : Code} (l : Launch) {b L : Nat} {xs : Nat → Int32} (hL : L ≤ 4608) (C0 : lw_At p s m meth c b L xs) : W p l e room_1 s m #[Value.ref b] below meth c s.heap [] 0 0 (lw_Z below #[Value.ref b] s) (entryFrame m ([Value.ref b] : List Value).toArray 4) := by
  obtain ⟨D, cI, cC, G⟩ := lg_of C0
  obtain ⟨hx, hb, hr, hml, hown, hts0, hX, hbl, hlocks, hgv⟩ := id C0
  have hl := lv_entry ([.ref b]) (n := 4) (Nat.le_of_ble_eq_true rfl)
  rw [lg_entry_eq]
  generalize (lg_sl ([.ref b]) ++ List.replicate (4 - (lg_sl ([.ref b])).length) Slot.unset).toArray = ls at hl ⊢
  have hl : lv_has ls 4 [(0, .ref b)] := hl
  have hH0 : Hl s D cI cC (fun _ => 0) (shp.take 0, RLf [], fun _ _ => 0) s.heap [] := ⟨fun k q h => by simp [wld] at h, ⟨fun i j p q h => by simp [wld] at h, fun k q h => by simp [wld] at h⟩, va_S.rf⟩
  refine lw_new (j := 0) (ci := 5) (N := 10) G dL_law_0 (by decide) rfl clL_7 inw5 iniw5 dfv5 rfl (by decide) (by decide) okH0 hH0 (fun q H1 ok1 hH1 => ?_)
  refine lv_dup hx hb dL_law_3 rfl ?_
  have hq : (.ref q : Value) = .ref (va_up (fun _ => 0) 0 q 0) := by simp [va_up]
  have hc5 := lw_callI0 (l := l) (e := e) (below := below) (pc := 4) (k := 0 + 1) (n := 0 + 10) (ls := ls) (st := [.ref q]) (Y := mX5_init) (a := 0) (j := 1) G dL_law_4 mlL_9 ckX5_init ikX5_init ⟨rfl, rfl⟩ rfl (by decide) hl.1 (x5_init ok1) hH1
  rw [← hq] at hc5
  refine hc5 (fun ad1 h' H2 locs2 ha1 hQ hH2 => ?_)
  obtain ⟨M1, rfl, J, ok2⟩ := hQ
  have hq0 : ad1 0 = q := by rw [ha1 0 (by decide)]; simp [va_up]
  refine lv_astore_n (lv' := [(1, .ref q), (0, .ref b)]) hx hb dL_law_7 rfl hl (by decide) rfl (fun ls hl => ?_)
  refine lw_new (j := 40) (ci := 6) (N := 35) G dL_law_8 (by decide) rfl clL_10 inw6 iniw6 dfv6 rfl (by decide) (by decide) ok2 hH2 (fun q2 H3 ok3 hH3 => ?_)
  refine lv_dup hx hb dL_law_11 rfl ?_
  have hq2 : (.ref q2 : Value) = .ref (va_up ad1 40 q2 40) := by simp [va_up]
  have hc6 := lw_callI0 (l := l) (e := e) (below := below) (pc := 12) (k := 0 + 1 + 39 + 1) (n := 0 + 10 + 1803 + 35) (ls := ls) (st := [.ref q2]) (Y := mX6_init) (a := 40) (j := 41) G dL_law_12 mlL_12 ckX6_init ikX6_init ⟨rfl, rfl⟩ rfl (by decide) hl.1 (x6_init ok3) hH3
  rw [← hq2] at hc6
  refine hc6 (fun ad3 h' H4 locs4 ha3 hQ hH4 => ?_)
  obtain ⟨M2, rfl, T, F, ok4⟩ := hQ
  have hqa : ad3 0 = q := by rw [ha3 0 (by decide)]; simp [va_up, hq0]
  have hqb : ad3 40 = q2 := by rw [ha3 40 (by decide)]; simp [va_up]
  rw [tk62, L6_eq] at hH4
  have hI : Inv 0 M2 := ⟨_, _, _, _, _, _, _, _, start_inv J T F ok2⟩
  refine lv_astore_n (lv' := [(2, .ref q2), (1, .ref q), (0, .ref b)]) hx hb dL_law_15 rfl hl (by decide) rfl (fun ls hl => ?_)
  refine lv_iconst (v := 0) hx hb dL_law_16 (by decide) ?_
  refine lv_istore_n (lv' := [(3, .int 0), (2, .ref q2), (1, .ref q), (0, .ref b)]) hx hb dL_law_17 rfl hl (by decide) rfl (fun ls hl => ?_)
  refine law_loop (ad := ad3) hL G 600 0 M2 H4 locs4 ls (by omega) (by omega) hI hH4 ?_
  rw [hqa, hqb]
  exact lv_sub hl [3, 2, 1, 0] rfl
