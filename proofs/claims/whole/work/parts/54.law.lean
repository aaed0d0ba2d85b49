/-! THE CLAIM OUT OF ONE WALK OF THE LAW'S BODY. Your part is whole_start (and what it stands on); all else here is the same for every law, but numbers. -/
def R_law : String := "StoragePathLaw"
def lw_P (b : Addr) (xs : List Int32) (args : Array Value) (s : State) : Prop := args = #[.ref b] ∧ s.IntsAt b xs ∧ xs.length ≤ 4608 ∧ (Jvm.Cond.and given_1 narrow_1).before args s = true
def lw_Q (_ : Array Value) (s : State) (o : Outcome) (t : State) : Prop := o = .returned (some (.int 1)) ∧ Framed s o t [] 600000 7302250
def lw_Z (below : List Frame) (a : Array Value) (s : State) : State → Prop := fun t => ∃ o, t.status = .running ∧ Ended t below o ∧ lw_Q a s o t
/-- the law's own end, with 1 on the stack, nothing written that was there before, its room as the claim has it -/
theorem lw_ret {p : Program} {l : Launch} {e : Env} {s : State} {m : MethodId} {below : List Frame} {meth : Method} {c : Code} {b : Nat} (hx : p.tables.exec = Jvm.exec) (hb : c.code = code) (hr : meth.sig.returnType = ret) (hlocks : meth.locks = false) {pc : Nat} {H : Heap} {ls : Array Slot} (hdg : decode code pc = .ok (.ireturn, 1)) : W p l e room_1 s m #[Value.ref b] below meth c H [] 600000 7302250 (lw_Z below #[Value.ref b] s) (F0 m pc ls [.int 1]) := by
  intro T hT X
  obtain ⟨fs, hret, hrun, hended, hW, hframe⟩ := X.leave (v := some (.int 1)) (hlocks := hlocks) (fun h => by rw [hr] at h; cases h)
  have hmeth' : T.vm.method? m = some meth := X.method'
  refine ⟨T.setFrames fs, ?_, .returned (some (.int 1)), hrun, hended, rfl, ⟨_, rfl⟩, hW, hframe⟩
  jvm_step X.here [X.here.top, hx, hb, hdg, hmeth', hr, ret, narrow_b1]
  (try refine ⟨rfl, ?_⟩); (try refine ⟨rfl, ?_⟩)
  first | (intro acts; rw [hret _ acts rfl rfl rfl]) | rw [hret _ _ rfl rfl rfl]
  exact Steps.refl _
/-- what holds at the law's entry: the machine, the code, the tables' words (any of lw_tbl by 'hts w (by decide +kernel)'), the script of L ints xs at the cell b, what the Statement gives of the start (any of its parts by flat_of_before) -/
def lw_At (p : Program) (s : State) (m : MethodId) (meth : Method) (c : Code) (b L : Nat) (xs : Nat → Int32) : Prop :=
  p.tables.exec = Jvm.exec ∧ c.code = code ∧ meth.sig.returnType = ret ∧ c.maxLocals = 4 ∧ s.vm.findClass R_law = some m.cls ∧ (∀ w ∈ lw_tbl, w.before #[Value.ref b] s = true) ∧ va_X b L xs s s.heap ∧ b < s.heap.size ∧ meth.locks = false ∧ (Jvm.Cond.and given_1 narrow_1).before #[Value.ref b] s = true
set_option maxRecDepth 100000 in
theorem mlL_9 : Cond.methodLink R_law 9 yX5_init ∈ gG := gG_of (by decide +kernel) rfl
set_option maxRecDepth 100000 in
theorem mlL_12 : Cond.methodLink R_law 12 yX6_init ∈ gG := gG_of (by decide +kernel) rfl
set_option maxRecDepth 100000 in
theorem mlL_13 : Cond.methodLink R_law 13 yX5_encode ∈ gG := gG_of (by decide +kernel) rfl
set_option maxRecDepth 100000 in
theorem mlL_17 : Cond.methodLink R_law 17 yX6_encode ∈ gG := gG_of (by decide +kernel) rfl
set_option maxRecDepth 100000 in
theorem mlL_18 : Cond.methodLink R_law 18 yX5_decode ∈ gG := gG_of (by decide +kernel) rfl
set_option maxRecDepth 100000 in
theorem mlL_21 : Cond.methodLink R_law 21 yX6_decode ∈ gG := gG_of (by decide +kernel) rfl
set_option maxRecDepth 100000 in
theorem mlL_22 : Cond.methodLink R_law 22 yX5_draft ∈ gG := gG_of (by decide +kernel) rfl
set_option maxRecDepth 100000 in
theorem mlL_26 : Cond.methodLink R_law 26 yX6_draft ∈ gG := gG_of (by decide +kernel) rfl
set_option maxRecDepth 100000 in
theorem mlL_27 : Cond.methodLink R_law 27 yX5_check ∈ gG := gG_of (by decide +kernel) rfl
set_option maxRecDepth 100000 in
theorem mlL_31 : Cond.methodLink R_law 31 yX6_check ∈ gG := gG_of (by decide +kernel) rfl
set_option maxRecDepth 100000 in
theorem mlL_32 : Cond.methodLink R_law 32 yX5_test ∈ gG := gG_of (by decide +kernel) rfl
set_option maxRecDepth 100000 in
theorem mlL_35 : Cond.methodLink R_law 35 yX6_test ∈ gG := gG_of (by decide +kernel) rfl
set_option maxRecDepth 100000 in
theorem mlL_36 : Cond.methodLink R_law 36 yX5_wire ∈ gG := gG_of (by decide +kernel) rfl
set_option maxRecDepth 100000 in
theorem mlL_39 : Cond.methodLink R_law 39 yX6_wire ∈ gG := gG_of (by decide +kernel) rfl
set_option maxRecDepth 100000 in
theorem mlL_40 : Cond.methodLink R_law 40 yX5_finding ∈ gG := gG_of (by decide +kernel) rfl
set_option maxRecDepth 100000 in
theorem mlL_43 : Cond.methodLink R_law 43 yX6_finding ∈ gG := gG_of (by decide +kernel) rfl
set_option maxRecDepth 100000 in
theorem mlL_44 : Cond.methodLink R_law 44 yX5_plan ∈ gG := gG_of (by decide +kernel) rfl
set_option maxRecDepth 100000 in
theorem mlL_48 : Cond.methodLink R_law 48 yX6_plan ∈ gG := gG_of (by decide +kernel) rfl
set_option maxRecDepth 100000 in
theorem mlL_49 : Cond.methodLink R_law 49 yX5_calm ∈ gG := gG_of (by decide +kernel) rfl
set_option maxRecDepth 100000 in
theorem mlL_52 : Cond.methodLink R_law 52 yX6_calm ∈ gG := gG_of (by decide +kernel) rfl
set_option maxRecDepth 100000 in
theorem mlL_53 : Cond.methodLink R_law 53 yX5_read ∈ gG := gG_of (by decide +kernel) rfl
set_option maxRecDepth 100000 in
theorem mlL_57 : Cond.methodLink R_law 57 yX6_read ∈ gG := gG_of (by decide +kernel) rfl
set_option maxRecDepth 100000 in
theorem mlL_58 : Cond.methodLink R_law 58 yX5_write ∈ gG := gG_of (by decide +kernel) rfl
set_option maxRecDepth 100000 in
theorem mlL_62 : Cond.methodLink R_law 62 yX6_write ∈ gG := gG_of (by decide +kernel) rfl
set_option maxRecDepth 100000 in
theorem mlL_63 : Cond.methodLink R_law 63 yX5_flush ∈ gG := gG_of (by decide +kernel) rfl
set_option maxRecDepth 100000 in
theorem mlL_66 : Cond.methodLink R_law 66 yX6_flush ∈ gG := gG_of (by decide +kernel) rfl
set_option maxRecDepth 100000 in
theorem mlL_67 : Cond.methodLink R_law 67 yX5_step ∈ gG := gG_of (by decide +kernel) rfl
set_option maxRecDepth 100000 in
theorem mlL_70 : Cond.methodLink R_law 70 yX6_step ∈ gG := gG_of (by decide +kernel) rfl
set_option maxRecDepth 100000 in
theorem mlL_71 : Cond.methodLink R_law 71 yX5_drain ∈ gG := gG_of (by decide +kernel) rfl
set_option maxRecDepth 100000 in
theorem mlL_74 : Cond.methodLink R_law 74 yX6_drain ∈ gG := gG_of (by decide +kernel) rfl
set_option maxRecDepth 100000 in
theorem mlL_75 : Cond.methodLink R_law 75 yX5_result ∈ gG := gG_of (by decide +kernel) rfl
set_option maxRecDepth 100000 in
theorem mlL_78 : Cond.methodLink R_law 78 yX6_result ∈ gG := gG_of (by decide +kernel) rfl
set_option maxRecDepth 100000 in
theorem mlL_79 : Cond.methodLink R_law 79 yX5_got ∈ gG := gG_of (by decide +kernel) rfl
set_option maxRecDepth 100000 in
theorem mlL_82 : Cond.methodLink R_law 82 yX6_got ∈ gG := gG_of (by decide +kernel) rfl
set_option maxRecDepth 100000 in
theorem mlL_83 : Cond.methodLink R_law 83 yX5_way ∈ gG := gG_of (by decide +kernel) rfl
set_option maxRecDepth 100000 in
theorem mlL_86 : Cond.methodLink R_law 86 yX6_way ∈ gG := gG_of (by decide +kernel) rfl
set_option maxRecDepth 100000 in
theorem mlL_87 : Cond.methodLink R_law 87 yX5_cut ∈ gG := gG_of (by decide +kernel) rfl
set_option maxRecDepth 100000 in
theorem mlL_90 : Cond.methodLink R_law 90 yX6_cut ∈ gG := gG_of (by decide +kernel) rfl
set_option maxRecDepth 100000 in
theorem mlL_91 : Cond.methodLink R_law 91 yX5_sector ∈ gG := gG_of (by decide +kernel) rfl
set_option maxRecDepth 100000 in
theorem mlL_94 : Cond.methodLink R_law 94 yX6_sector ∈ gG := gG_of (by decide +kernel) rfl
set_option maxRecDepth 100000 in
theorem mlL_95 : Cond.methodLink R_law 95 yX5_cached ∈ gG := gG_of (by decide +kernel) rfl
set_option maxRecDepth 100000 in
theorem mlL_98 : Cond.methodLink R_law 98 yX6_cached ∈ gG := gG_of (by decide +kernel) rfl
set_option maxRecDepth 100000 in
theorem mlL_99 : Cond.methodLink R_law 99 yX5_state ∈ gG := gG_of (by decide +kernel) rfl
set_option maxRecDepth 100000 in
theorem mlL_102 : Cond.methodLink R_law 102 yX6_state ∈ gG := gG_of (by decide +kernel) rfl
set_option maxRecDepth 100000 in
theorem mlL_103 : Cond.methodLink R_law 103 yX5_count ∈ gG := gG_of (by decide +kernel) rfl
set_option maxRecDepth 100000 in
theorem mlL_106 : Cond.methodLink R_law 106 yX6_count ∈ gG := gG_of (by decide +kernel) rfl
set_option maxRecDepth 100000 in
theorem clL_7 : Cond.classLink R_law 7 (clC 5).1 ∈ gG := gG_of (by decide +kernel) rfl
set_option maxRecDepth 100000 in
theorem clL_10 : Cond.classLink R_law 10 (clC 6).1 ∈ gG := gG_of (by decide +kernel) rfl
abbrev AH (s : State) : Nat → Prop := fun q => s.heap.size ≤ q
/-- the heap holds the picture h -/
def Hl (s : State) (D : va_G) (cI cC : ClassId) (ad : Nat → Nat) (h : Hp) (H : Heap) (locs : List Loc) : Prop := va_P D vwCl (wld cI cC ad h) H ∧ va_D (AH s) (wld cI cC ad h) ∧ va_S (AH s) s.heap H locs
/-- what holds all through the law -/
def LG (p : Program) (s : State) (m : MethodId) (meth : Method) (c : Code) (b L : Nat) (xs : Nat → Int32) (D : va_G) (cI cC : ClassId) : Prop := lw_At p s m meth c b L xs ∧ NW s ∧ va_K D vwCl (tyz cI cC) s
def roomL (Y : MX) (k n : Nat) (st : List Value) : Bool := Nat.ble (Y.2.2.2.2.1.1 + 1) 11 && Nat.ble (8 + (Y.2.2.1 + 11) + Y.2.2.2.2.1.2) 414 && Nat.ble (k + Y.2.2.2.2.2.1) 600000 && Nat.ble (n + Y.2.2.2.2.2.2) 7302250 && Nat.ble (st.map fun v => v.category).sum 8
theorem roomL_ok {Y : MX} {k n : Nat} {st : List Value} (h : roomL Y k n st = true) : ((mxR Y).frames + 1 ≤ room_1.frames ∧ 8 + (Y.2.2.1 + 11) + (mxR Y).locals ≤ room_1.locals) ∧ (k + Y.2.2.2.2.2.1 ≤ room_1.cells ∧ n + Y.2.2.2.2.2.2 ≤ room_1.slots) ∧ (st.map fun v => v.category).sum ≤ 8 := by
  simp only [roomL, Bool.and_eq_true, Nat.ble_eq] at h
  obtain ⟨⟨⟨⟨h1, h2⟩, h3⟩, h4⟩, h5⟩ := h
  exact ⟨⟨h1, h2⟩, ⟨h3, h4⟩, h5⟩
section LAW
variable {p : Program} {l : Launch} {e : Env} {s : State} {m : MethodId} {below : List Frame} {meth : Method} {c : Code} {b L : Nat} {xs : Nat → Int32} {D : va_G} {cI cC : ClassId} {ad : Nat → Nat} {H : Heap} {locs : List Loc} {ls : Array Slot} {pc k n i : Nat} {st : List Value}
theorem lw_callV {Y : MX} {a ci N na idx : Nat} {as : List Value} {M M' : Mem} {r : Int32} (G : LG p s m meth c b L xs D cI cC) (hd : decode code pc = .ok (.invokevirtual idx, 3)) (hl : Cond.methodLink R_law idx Y.1 ∈ gG) (hw : vOK Y na) (hs : shp[a]? = some (ci, N)) (hci : ci < 7 ∧ (clC ci).1 = Y.1.cls) (hna : as.length = na) (hroom : roomL Y k n st = true) (hz : Y.2.2.2.2.2.1 = 0 ∧ Y.2.2.2.2.2.2 = 0) (hls : ls.size = 4) (hg : Gv Y (.ref a :: as) M (some (.int r)) M') (hH : Hl s D cI cC ad (shp, rfs, M) H locs)
    (kk : ∀ H1 locs1, Hl s D cI cC ad (shp, rfs, M') H1 locs1 → W p l e room_1 s m #[Value.ref b] below meth c H1 locs1 k n (lw_Z below #[Value.ref b] s) (F0 m (pc + 3) ls (.int r :: st))) : W p l e room_1 s m #[Value.ref b] below meth c H locs k n (lw_Z below #[Value.ref b] s) (F0 m pc ls ((as.map (cv ad)).reverse ++ .ref (ad a) :: st)) := by
  obtain ⟨⟨hx, hb, hr, hml, hown, hts0, hX, hbl, hlocks, hgv⟩, hN, hK⟩ := G
  have hts : ∀ w ∈ gG, w.before #[Value.ref b] s = true := fun w hw => hts0 w (List.mem_filter.mp hw).1
  obtain ⟨hP, hD, hS⟩ := hH
  obtain ⟨r1, r2, r3⟩ := roomL_ok hroom
  have he := wld_at (cI := cI) (cC := cC) (ad := ad) (h := (shp, rfs, M)) (lt_of_get hs)
  rw [cel_o hs hci.1] at he
  have hrecv := va_recv hK hP (cfs ci hci.1).1 he
  rw [hci.2] at hrecv
  have hcw := callB_of (R := room_1) (rm := mxR Y) (mc := Y.2.2.2.2.2.1) (ms := Y.2.2.2.2.2.2) (ws := mxW Y) na hts (good_gG (mxW_in hw.1)) rfl rfl rfl (hts _ hw.1.2.1) (hts _ hl) hw.1.2.2 r1
  have hfree : ∀ q, va_A (wld cI cC ad (shp, rfs, M)) H.size q → AH s q := by
    intro q hq
    rcases hq with ⟨j, e', hj⟩ | hq
    · exact hD.2 j _ hj
    · exact Nat.le_trans hS.1 hq
  refine call_go (va_runV (As := as.map (cv ad)) (b := ad a) (C := Y.1.cls) ⟨hx, hb, hml, hown, hts⟩ (hg l D cI cC ad H.size) ⟨hcw, hts _ hw.2.1, hts _ hw.2.2⟩ ⟨con_blind, hrecv, pre_go (avs := .ref a :: as) hK hN hP hD⟩ rfl (by simpa using hna) hls rfl (lv_room r3) hd r2) hS hfree (fun st' o t hq => hq.2) (fun v st' t H1 locs1 hst' ht hvm hq hS1 => ?_)
  obtain ⟨⟨r', h', ad1, ho, hQ1, a1, a2, a3, hP1, hD1⟩, hF⟩ := hq
  obtain ⟨rfl, rfl⟩ := hQ1
  cases ho
  have e3 := a3 hz.1
  subst e3
  rw [ht] at hP1
  rw [hz.1, hz.2]
  exact kk H1 locs1 ⟨hP1, hD1.weaken (fun _ q _ z => hfree q.1 z), hS1⟩
theorem lw_rd {j : Int} {jn ln : Nat} {ins : Instr} {xj : Int32} (G : LG p s m meth c b L xs D cI cC) (hL : L ≤ 4608) (hl : lv_has ls 4 [(0, .ref b), (1, .ref (ad 0)), (2, .ref (ad 40)), (3, .int (nI i))]) (hS : va_S (AH s) s.heap H locs) (hi : i + jn < L)
    (hc : ∀ st', W p l e room_1 s m #[Value.ref b] below meth c H locs k n (lw_Z below #[Value.ref b] s) (F0 m (pc + 2 + ln) ls (.int (nI jn) :: st')) → W p l e room_1 s m #[Value.ref b] below meth c H locs k n (lw_Z below #[Value.ref b] s) (F0 m (pc + 2) ls st'))
    (hd1 : decode code pc = .ok (.aload_n 0, 1)) (hd2 : decode code (pc + 1) = .ok (.iload_n 3, 1)) (hd4 : decode code (pc + 2 + ln) = .ok (.iadd, 1)) (hd5 : decode code (pc + 2 + ln + 1) = .ok (.iaload, 1))
    (kk : W p l e room_1 s m #[Value.ref b] below meth c H locs k n (lw_Z below #[Value.ref b] s) (F0 m (pc + 2 + ln + 2) ls (.int (xs (i + jn)) :: st))) : W p l e room_1 s m #[Value.ref b] below meth c H locs k n (lw_Z below #[Value.ref b] s) (F0 m pc ls st) := by
  obtain ⟨⟨hx, hb, hr, hml, hown, hts0, hX, hbl, hlocks, hgv⟩, hN, hK⟩ := G
  refine lv_aload_n hx hb hd1 rfl (lv_at hl 0 rfl) ?_
  refine lv_iload_n hx hb hd2 rfl (lv_at hl 3 rfl) ?_
  refine hc _ ?_
  refine lv_iadd hx hb hd4 ?_
  rw [nI_add]
  refine va_sld hx hb hX hbl (Nat.not_le.mpr hbl) hS (vp_in_nI hi (by omega)) hd5 ?_
  rw [nI_clamp (by omega)]
  exact kk
theorem lw_rd1 {j : Int} {jn : Nat} (G : LG p s m meth c b L xs D cI cC) (hL : L ≤ 4608) (hl : lv_has ls 4 [(0, .ref b), (1, .ref (ad 0)), (2, .ref (ad 40)), (3, .int (nI i))]) (hS : va_S (AH s) s.heap H locs) (hi : i + jn < L) (hj : Int32.ofInt j = nI jn)
    (hd1 : decode code pc = .ok (.aload_n 0, 1)) (hd2 : decode code (pc + 1) = .ok (.iload_n 3, 1)) (hd3 : decode code (pc + 2) = .ok (.iconst j, 1)) (hd4 : decode code (pc + 3) = .ok (.iadd, 1)) (hd5 : decode code (pc + 4) = .ok (.iaload, 1))
    (kk : W p l e room_1 s m #[Value.ref b] below meth c H locs k n (lw_Z below #[Value.ref b] s) (F0 m (pc + 5) ls (.int (xs (i + jn)) :: st))) : W p l e room_1 s m #[Value.ref b] below meth c H locs k n (lw_Z below #[Value.ref b] s) (F0 m pc ls st) := lw_rd (j := j) (ins := .nop) (xj := 0) (ln := 1) G hL hl hS hi (fun st' q => lv_iconst G.1.1 G.1.2.1 hd3 hj q) hd1 hd2 hd4 hd5 kk
theorem lw_rd2 {j : Int} {jn : Nat} (G : LG p s m meth c b L xs D cI cC) (hL : L ≤ 4608) (hl : lv_has ls 4 [(0, .ref b), (1, .ref (ad 0)), (2, .ref (ad 40)), (3, .int (nI i))]) (hS : va_S (AH s) s.heap H locs) (hi : i + jn < L) (hj : (Int8.ofInt j).toInt32 = nI jn)
    (hd1 : decode code pc = .ok (.aload_n 0, 1)) (hd2 : decode code (pc + 1) = .ok (.iload_n 3, 1)) (hd3 : decode code (pc + 2) = .ok (.bipush j, 2)) (hd4 : decode code (pc + 4) = .ok (.iadd, 1)) (hd5 : decode code (pc + 5) = .ok (.iaload, 1))
    (kk : W p l e room_1 s m #[Value.ref b] below meth c H locs k n (lw_Z below #[Value.ref b] s) (F0 m (pc + 6) ls (.int (xs (i + jn)) :: st))) : W p l e room_1 s m #[Value.ref b] below meth c H locs k n (lw_Z below #[Value.ref b] s) (F0 m pc ls st) := lw_rd (j := j) (ins := .nop) (xj := 0) (ln := 2) G hL hl hS hi (fun st' q => lv_bipush G.1.1 G.1.2.1 hd3 hj q) hd1 hd2 hd4 hd5 kk
def nzB (x : Int32) : Bool := decide (¬ x = 0)
theorem lw_bool {x : Int32} (tgt : Nat) (G : LG p s m meth c b L xs D cI cC) (hd1 : decode code pc = .ok (.ifCond .eq 7, 3)) (hd2 : decode code (pc + 3) = .ok (.iconst 1, 1)) (hd3 : decode code (pc + 4) = .ok (.goto 4, 3)) (hd4 : decode code (pc + 7) = .ok (.iconst 0, 1)) (ht : pc + 8 = tgt)
    (kk : W p l e room_1 s m #[Value.ref b] below meth c H locs k n (lw_Z below #[Value.ref b] s) (F0 m tgt ls (.int (eI (nzB x)) :: st))) : W p l e room_1 s m #[Value.ref b] below meth c H locs k n (lw_Z below #[Value.ref b] s) (F0 m pc ls (.int x :: st)) := by
  subst ht
  obtain ⟨⟨hx, hb, hr, hml, hown, hts0, hX, hbl, hlocks, hgv⟩, hN, hK⟩ := G
  refine lv_if_eq (tgt := pc + 7) hx hb hd1 (by omega) (fun q => ?_) (fun q => ?_)
  · have : eI (nzB x) = 0 := by unfold nzB; rw [decide_eq_false (by simpa using q)]; rfl
    rw [this] at kk
    exact lv_iconst hx hb hd4 (by decide) kk
  · have : eI (nzB x) = 1 := by unfold nzB; rw [decide_eq_true q]; rfl
    rw [this] at kk
    refine lv_iconst (v := 1) hx hb hd2 (by decide) ?_
    refine lv_goto (tgt := pc + 8) hx hb hd3 (by omega) kk
end LAW
/-- both sides in the same state, behind at most c calls -/
def Inv (c : Nat) (M : Mem) : Prop := ∃ (dn : Nat) (dp : Nat → Int32) (P : PL) (s : SSt) (w is rm : Nat) (rr : Nat → Int32), CI M dn dp P s w is rm rr ∧ MI M dn dp P s w is rm rr ∧ okA c dn dp P s w is rm
theorem Both.go {X Y : MX} {avs : List Value} (h : Both X Y avs) {M : Mem} {c : Nat} (hc : c < 600) (I : Inv c M) : ∃ (r : Int32) (M1 M2 : Mem), Gv X (.ref 0 :: avs) M (some (.int r)) M1 ∧ Gv Y (.ref 40 :: avs) M1 (some (.int r)) M2 ∧ Inv (c + 1) M2 := by
  obtain ⟨dn, dp, P, s, w, is, rm, rr, h1, h2, h3⟩ := I
  obtain ⟨r, M1, M2, dn', dp', P', s', w', is', rm', rr', g1, g2, k1, k2, k3⟩ := h M c dn dp P s w is rm rr hc h1 h2 h3
  exact ⟨r, M1, M2, g1, g2, dn', dp', P', s', w', is', rm', rr', k1, k2, k3⟩
theorem lw_c0 {p : Program} {l : Launch} {e : Env} {s : State} {m : MethodId} {below : List Frame} {meth : Method} {c : Code} {b L : Nat} {xs : Nat → Int32} {D : va_G} {cI cC : ClassId} {ad : Nat → Nat} {H : Heap} {locs : List Loc} {ls : Array Slot} {pc k n : Nat} {st : List Value} {Y : MX} {a ci N idx : Nat} {M M' : Mem} {r : Int32} (G : LG p s m meth c b L xs D cI cC) (hd : decode code pc = .ok (.invokevirtual idx, 3)) (hl : Cond.methodLink R_law idx Y.1 ∈ gG) (hw : vOK Y 0) (hs : shp[a]? = some (ci, N)) (hci : ci < 7 ∧ (clC ci).1 = Y.1.cls) (hroom : roomL Y k n st = true) (hz : Y.2.2.2.2.2.1 = 0 ∧ Y.2.2.2.2.2.2 = 0) (hls : ls.size = 4) (hg : Gv Y [.ref a] M (some (.int r)) M') (hH : Hl s D cI cC ad (shp, rfs, M) H locs)
    (kk : ∀ H1 locs1, Hl s D cI cC ad (shp, rfs, M') H1 locs1 → W p l e room_1 s m #[Value.ref b] below meth c H1 locs1 k n (lw_Z below #[Value.ref b] s) (F0 m (pc + 3) ls (.int r :: st))) : W p l e room_1 s m #[Value.ref b] below meth c H locs k n (lw_Z below #[Value.ref b] s) (F0 m pc ls (.ref (ad a) :: st)) := lw_callV (as := []) G hd hl hw hs hci rfl hroom hz hls hg hH kk
theorem lw_c1 {p : Program} {l : Launch} {e : Env} {s : State} {m : MethodId} {below : List Frame} {meth : Method} {c : Code} {b L : Nat} {xs : Nat → Int32} {D : va_G} {cI cC : ClassId} {ad : Nat → Nat} {H : Heap} {locs : List Loc} {ls : Array Slot} {pc k n : Nat} {st : List Value} {Y : MX} {a ci N idx : Nat} {v1 : Int32} {M M' : Mem} {r : Int32} (G : LG p s m meth c b L xs D cI cC) (hd : decode code pc = .ok (.invokevirtual idx, 3)) (hl : Cond.methodLink R_law idx Y.1 ∈ gG) (hw : vOK Y 1) (hs : shp[a]? = some (ci, N)) (hci : ci < 7 ∧ (clC ci).1 = Y.1.cls) (hroom : roomL Y k n st = true) (hz : Y.2.2.2.2.2.1 = 0 ∧ Y.2.2.2.2.2.2 = 0) (hls : ls.size = 4) (hg : Gv Y [.ref a, .int v1] M (some (.int r)) M') (hH : Hl s D cI cC ad (shp, rfs, M) H locs)
    (kk : ∀ H1 locs1, Hl s D cI cC ad (shp, rfs, M') H1 locs1 → W p l e room_1 s m #[Value.ref b] below meth c H1 locs1 k n (lw_Z below #[Value.ref b] s) (F0 m (pc + 3) ls (.int r :: st))) : W p l e room_1 s m #[Value.ref b] below meth c H locs k n (lw_Z below #[Value.ref b] s) (F0 m pc ls (.int v1 :: .ref (ad a) :: st)) := lw_callV (as := [.int v1]) G hd hl hw hs hci rfl hroom hz hls hg hH kk
theorem lw_c2 {p : Program} {l : Launch} {e : Env} {s : State} {m : MethodId} {below : List Frame} {meth : Method} {c : Code} {b L : Nat} {xs : Nat → Int32} {D : va_G} {cI cC : ClassId} {ad : Nat → Nat} {H : Heap} {locs : List Loc} {ls : Array Slot} {pc k n : Nat} {st : List Value} {Y : MX} {a ci N idx : Nat} {v1 v2 : Int32} {M M' : Mem} {r : Int32} (G : LG p s m meth c b L xs D cI cC) (hd : decode code pc = .ok (.invokevirtual idx, 3)) (hl : Cond.methodLink R_law idx Y.1 ∈ gG) (hw : vOK Y 2) (hs : shp[a]? = some (ci, N)) (hci : ci < 7 ∧ (clC ci).1 = Y.1.cls) (hroom : roomL Y k n st = true) (hz : Y.2.2.2.2.2.1 = 0 ∧ Y.2.2.2.2.2.2 = 0) (hls : ls.size = 4) (hg : Gv Y [.ref a, .int v1, .int v2] M (some (.int r)) M') (hH : Hl s D cI cC ad (shp, rfs, M) H locs)
    (kk : ∀ H1 locs1, Hl s D cI cC ad (shp, rfs, M') H1 locs1 → W p l e room_1 s m #[Value.ref b] below meth c H1 locs1 k n (lw_Z below #[Value.ref b] s) (F0 m (pc + 3) ls (.int r :: st))) : W p l e room_1 s m #[Value.ref b] below meth c H locs k n (lw_Z below #[Value.ref b] s) (F0 m pc ls (.int v2 :: .int v1 :: .ref (ad a) :: st)) := lw_callV (as := [.int v1, .int v2]) G hd hl hw hs hci rfl hroom hz hls hg hH kk
theorem lw_c3 {p : Program} {l : Launch} {e : Env} {s : State} {m : MethodId} {below : List Frame} {meth : Method} {c : Code} {b L : Nat} {xs : Nat → Int32} {D : va_G} {cI cC : ClassId} {ad : Nat → Nat} {H : Heap} {locs : List Loc} {ls : Array Slot} {pc k n : Nat} {st : List Value} {Y : MX} {a ci N idx : Nat} {v1 v2 v3 : Int32} {M M' : Mem} {r : Int32} (G : LG p s m meth c b L xs D cI cC) (hd : decode code pc = .ok (.invokevirtual idx, 3)) (hl : Cond.methodLink R_law idx Y.1 ∈ gG) (hw : vOK Y 3) (hs : shp[a]? = some (ci, N)) (hci : ci < 7 ∧ (clC ci).1 = Y.1.cls) (hroom : roomL Y k n st = true) (hz : Y.2.2.2.2.2.1 = 0 ∧ Y.2.2.2.2.2.2 = 0) (hls : ls.size = 4) (hg : Gv Y [.ref a, .int v1, .int v2, .int v3] M (some (.int r)) M') (hH : Hl s D cI cC ad (shp, rfs, M) H locs)
    (kk : ∀ H1 locs1, Hl s D cI cC ad (shp, rfs, M') H1 locs1 → W p l e room_1 s m #[Value.ref b] below meth c H1 locs1 k n (lw_Z below #[Value.ref b] s) (F0 m (pc + 3) ls (.int r :: st))) : W p l e room_1 s m #[Value.ref b] below meth c H locs k n (lw_Z below #[Value.ref b] s) (F0 m pc ls (.int v3 :: .int v2 :: .int v1 :: .ref (ad a) :: st)) := lw_callV (as := [.int v1, .int v2, .int v3]) G hd hl hw hs hci rfl hroom hz hls hg hH kk
theorem lw_c4 {p : Program} {l : Launch} {e : Env} {s : State} {m : MethodId} {below : List Frame} {meth : Method} {c : Code} {b L : Nat} {xs : Nat → Int32} {D : va_G} {cI cC : ClassId} {ad : Nat → Nat} {H : Heap} {locs : List Loc} {ls : Array Slot} {pc k n : Nat} {st : List Value} {Y : MX} {a ci N idx : Nat} {v1 v2 v3 v4 : Int32} {M M' : Mem} {r : Int32} (G : LG p s m meth c b L xs D cI cC) (hd : decode code pc = .ok (.invokevirtual idx, 3)) (hl : Cond.methodLink R_law idx Y.1 ∈ gG) (hw : vOK Y 4) (hs : shp[a]? = some (ci, N)) (hci : ci < 7 ∧ (clC ci).1 = Y.1.cls) (hroom : roomL Y k n st = true) (hz : Y.2.2.2.2.2.1 = 0 ∧ Y.2.2.2.2.2.2 = 0) (hls : ls.size = 4) (hg : Gv Y [.ref a, .int v1, .int v2, .int v3, .int v4] M (some (.int r)) M') (hH : Hl s D cI cC ad (shp, rfs, M) H locs)
    (kk : ∀ H1 locs1, Hl s D cI cC ad (shp, rfs, M') H1 locs1 → W p l e room_1 s m #[Value.ref b] below meth c H1 locs1 k n (lw_Z below #[Value.ref b] s) (F0 m (pc + 3) ls (.int r :: st))) : W p l e room_1 s m #[Value.ref b] below meth c H locs k n (lw_Z below #[Value.ref b] s) (F0 m pc ls (.int v4 :: .int v3 :: .int v2 :: .int v1 :: .ref (ad a) :: st)) := lw_callV (as := [.int v1, .int v2, .int v3, .int v4]) G hd hl hw hs hci rfl hroom hz hls hg hH kk
theorem lw_c5 {p : Program} {l : Launch} {e : Env} {s : State} {m : MethodId} {below : List Frame} {meth : Method} {c : Code} {b L : Nat} {xs : Nat → Int32} {D : va_G} {cI cC : ClassId} {ad : Nat → Nat} {H : Heap} {locs : List Loc} {ls : Array Slot} {pc k n : Nat} {st : List Value} {Y : MX} {a ci N idx : Nat} {v1 v2 v3 v4 v5 : Int32} {M M' : Mem} {r : Int32} (G : LG p s m meth c b L xs D cI cC) (hd : decode code pc = .ok (.invokevirtual idx, 3)) (hl : Cond.methodLink R_law idx Y.1 ∈ gG) (hw : vOK Y 5) (hs : shp[a]? = some (ci, N)) (hci : ci < 7 ∧ (clC ci).1 = Y.1.cls) (hroom : roomL Y k n st = true) (hz : Y.2.2.2.2.2.1 = 0 ∧ Y.2.2.2.2.2.2 = 0) (hls : ls.size = 4) (hg : Gv Y [.ref a, .int v1, .int v2, .int v3, .int v4, .int v5] M (some (.int r)) M') (hH : Hl s D cI cC ad (shp, rfs, M) H locs)
    (kk : ∀ H1 locs1, Hl s D cI cC ad (shp, rfs, M') H1 locs1 → W p l e room_1 s m #[Value.ref b] below meth c H1 locs1 k n (lw_Z below #[Value.ref b] s) (F0 m (pc + 3) ls (.int r :: st))) : W p l e room_1 s m #[Value.ref b] below meth c H locs k n (lw_Z below #[Value.ref b] s) (F0 m pc ls (.int v5 :: .int v4 :: .int v3 :: .int v2 :: .int v1 :: .ref (ad a) :: st)) := lw_callV (as := [.int v1, .int v2, .int v3, .int v4, .int v5]) G hd hl hw hs hci rfl hroom hz hls hg hH kk
theorem lw_c6 {p : Program} {l : Launch} {e : Env} {s : State} {m : MethodId} {below : List Frame} {meth : Method} {c : Code} {b L : Nat} {xs : Nat → Int32} {D : va_G} {cI cC : ClassId} {ad : Nat → Nat} {H : Heap} {locs : List Loc} {ls : Array Slot} {pc k n : Nat} {st : List Value} {Y : MX} {a ci N idx : Nat} {v1 v2 v3 v4 v5 v6 : Int32} {M M' : Mem} {r : Int32} (G : LG p s m meth c b L xs D cI cC) (hd : decode code pc = .ok (.invokevirtual idx, 3)) (hl : Cond.methodLink R_law idx Y.1 ∈ gG) (hw : vOK Y 6) (hs : shp[a]? = some (ci, N)) (hci : ci < 7 ∧ (clC ci).1 = Y.1.cls) (hroom : roomL Y k n st = true) (hz : Y.2.2.2.2.2.1 = 0 ∧ Y.2.2.2.2.2.2 = 0) (hls : ls.size = 4) (hg : Gv Y [.ref a, .int v1, .int v2, .int v3, .int v4, .int v5, .int v6] M (some (.int r)) M') (hH : Hl s D cI cC ad (shp, rfs, M) H locs)
    (kk : ∀ H1 locs1, Hl s D cI cC ad (shp, rfs, M') H1 locs1 → W p l e room_1 s m #[Value.ref b] below meth c H1 locs1 k n (lw_Z below #[Value.ref b] s) (F0 m (pc + 3) ls (.int r :: st))) : W p l e room_1 s m #[Value.ref b] below meth c H locs k n (lw_Z below #[Value.ref b] s) (F0 m pc ls (.int v6 :: .int v5 :: .int v4 :: .int v3 :: .int v2 :: .int v1 :: .ref (ad a) :: st)) := lw_callV (as := [.int v1, .int v2, .int v3, .int v4, .int v5, .int v6]) G hd hl hw hs hci rfl hroom hz hls hg hH kk
theorem lw_c7 {p : Program} {l : Launch} {e : Env} {s : State} {m : MethodId} {below : List Frame} {meth : Method} {c : Code} {b L : Nat} {xs : Nat → Int32} {D : va_G} {cI cC : ClassId} {ad : Nat → Nat} {H : Heap} {locs : List Loc} {ls : Array Slot} {pc k n : Nat} {st : List Value} {Y : MX} {a ci N idx : Nat} {v1 v2 v3 v4 v5 v6 v7 : Int32} {M M' : Mem} {r : Int32} (G : LG p s m meth c b L xs D cI cC) (hd : decode code pc = .ok (.invokevirtual idx, 3)) (hl : Cond.methodLink R_law idx Y.1 ∈ gG) (hw : vOK Y 7) (hs : shp[a]? = some (ci, N)) (hci : ci < 7 ∧ (clC ci).1 = Y.1.cls) (hroom : roomL Y k n st = true) (hz : Y.2.2.2.2.2.1 = 0 ∧ Y.2.2.2.2.2.2 = 0) (hls : ls.size = 4) (hg : Gv Y [.ref a, .int v1, .int v2, .int v3, .int v4, .int v5, .int v6, .int v7] M (some (.int r)) M') (hH : Hl s D cI cC ad (shp, rfs, M) H locs)
    (kk : ∀ H1 locs1, Hl s D cI cC ad (shp, rfs, M') H1 locs1 → W p l e room_1 s m #[Value.ref b] below meth c H1 locs1 k n (lw_Z below #[Value.ref b] s) (F0 m (pc + 3) ls (.int r :: st))) : W p l e room_1 s m #[Value.ref b] below meth c H locs k n (lw_Z below #[Value.ref b] s) (F0 m pc ls (.int v7 :: .int v6 :: .int v5 :: .int v4 :: .int v3 :: .int v2 :: .int v1 :: .ref (ad a) :: st)) := lw_callV (as := [.int v1, .int v2, .int v3, .int v4, .int v5, .int v6, .int v7]) G hd hl hw hs hci rfl hroom hz hls hg hH kk
theorem lw_c8 {p : Program} {l : Launch} {e : Env} {s : State} {m : MethodId} {below : List Frame} {meth : Method} {c : Code} {b L : Nat} {xs : Nat → Int32} {D : va_G} {cI cC : ClassId} {ad : Nat → Nat} {H : Heap} {locs : List Loc} {ls : Array Slot} {pc k n : Nat} {st : List Value} {Y : MX} {a ci N idx : Nat} {v1 v2 v3 v4 v5 v6 v7 v8 : Int32} {M M' : Mem} {r : Int32} (G : LG p s m meth c b L xs D cI cC) (hd : decode code pc = .ok (.invokevirtual idx, 3)) (hl : Cond.methodLink R_law idx Y.1 ∈ gG) (hw : vOK Y 8) (hs : shp[a]? = some (ci, N)) (hci : ci < 7 ∧ (clC ci).1 = Y.1.cls) (hroom : roomL Y k n st = true) (hz : Y.2.2.2.2.2.1 = 0 ∧ Y.2.2.2.2.2.2 = 0) (hls : ls.size = 4) (hg : Gv Y [.ref a, .int v1, .int v2, .int v3, .int v4, .int v5, .int v6, .int v7, .int v8] M (some (.int r)) M') (hH : Hl s D cI cC ad (shp, rfs, M) H locs)
    (kk : ∀ H1 locs1, Hl s D cI cC ad (shp, rfs, M') H1 locs1 → W p l e room_1 s m #[Value.ref b] below meth c H1 locs1 k n (lw_Z below #[Value.ref b] s) (F0 m (pc + 3) ls (.int r :: st))) : W p l e room_1 s m #[Value.ref b] below meth c H locs k n (lw_Z below #[Value.ref b] s) (F0 m pc ls (.int v8 :: .int v7 :: .int v6 :: .int v5 :: .int v4 :: .int v3 :: .int v2 :: .int v1 :: .ref (ad a) :: st)) := lw_callV (as := [.int v1, .int v2, .int v3, .int v4, .int v5, .int v6, .int v7, .int v8]) G hd hl hw hs hci rfl hroom hz hls hg hH kk
