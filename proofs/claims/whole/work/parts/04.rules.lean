section RULES
variable {X : MX} {pc : Nat} {lv : List (Option Value)} {st : List Value} {k n : Nat} {S : List (Nat × Nat)} {Rf : Nat → Nat → Option Nat} {M : Mem} {Q : Option Value → Hp → Prop}
theorem r_iconst (v : Int32) {j : Int} (hd : decode X.2.1 pc = .ok (.iconst j, 1)) (hv : Int32.ofInt j = v) (kk : WP X (pc + 1) lv (.int v :: st) k n (S, Rf, M) Q) : WP X pc lv st k n (S, Rf, M) Q :=
  fun l p e s m args below meth c D cI cC A ad0 n0 ad H locs ls C G L => lv_iconst C.1 C.2.1 hd hv (kk l p e s m args below meth c D cI cC A ad0 n0 ad H locs ls C G L)
theorem r_bipush (v : Int32) {j : Int} (hd : decode X.2.1 pc = .ok (.bipush j, 2)) (hv : (Int8.ofInt j).toInt32 = v) (kk : WP X (pc + 2) lv (.int v :: st) k n (S, Rf, M) Q) : WP X pc lv st k n (S, Rf, M) Q :=
  fun l p e s m args below meth c D cI cC A ad0 n0 ad H locs ls C G L => lv_bipush C.1 C.2.1 hd hv (kk l p e s m args below meth c D cI cC A ad0 n0 ad H locs ls C G L)
theorem r_sipush (v : Int32) {j : Int} (hd : decode X.2.1 pc = .ok (.sipush j, 3)) (hv : (Int16.ofInt j).toInt32 = v) (kk : WP X (pc + 3) lv (.int v :: st) k n (S, Rf, M) Q) : WP X pc lv st k n (S, Rf, M) Q :=
  fun l p e s m args below meth c D cI cC A ad0 n0 ad H locs ls C G L => lv_sipush C.1 C.2.1 hd hv (kk l p e s m args below meth c D cI cC A ad0 n0 ad H locs ls C G L)
theorem r_ldc (v : Int32) {idx : Nat} (hd : decode X.2.1 pc = .ok (.ldc idx, 2)) (hw : Cond.constant X.1.cls idx v ∈ gG) (kk : WP X (pc + 2) lv (.int v :: st) k n (S, Rf, M) Q) : WP X pc lv st k n (S, Rf, M) Q :=
  fun l p e s m args below meth c D cI cC A ad0 n0 ad H locs ls C G L => lv_ldc C.1 C.2.1 C.2.2.2.2.1 (C.2.2.2.2.2.1 _ hw) hd (kk l p e s m args below meth c D cI cC A ad0 n0 ad H locs ls C G L)
theorem r_ldcw (v : Int32) {idx : Nat} (hd : decode X.2.1 pc = .ok (.ldc_w idx, 3)) (hw : Cond.constant X.1.cls idx v ∈ gG) (kk : WP X (pc + 3) lv (.int v :: st) k n (S, Rf, M) Q) : WP X pc lv st k n (S, Rf, M) Q :=
  fun l p e s m args below meth c D cI cC A ad0 n0 ad H locs ls C G L => lv_ldcw C.1 C.2.1 C.2.2.2.2.1 (C.2.2.2.2.2.1 _ hw) hd (kk l p e s m args below meth c D cI cC A ad0 n0 ad H locs ls C G L)
theorem r_null (hd : decode X.2.1 pc = .ok (.aconst_null, 1)) (kk : WP X (pc + 1) lv (.null :: st) k n (S, Rf, M) Q) : WP X pc lv st k n (S, Rf, M) Q :=
  fun l p e s m args below meth c D cI cC A ad0 n0 ad H locs ls C G L => lv_null C.1 C.2.1 hd (kk l p e s m args below meth c D cI cC A ad0 n0 ad H locs ls C G L)
theorem r_iload_n {i : Nat} {x : Int32} {j : Fin 4} (hd : decode X.2.1 pc = .ok (.iload_n j, 1)) (hi : (j : Nat) = i) (hv : lv[i]? = some (some (.int x))) (kk : WP X (pc + 1) lv (.int x :: st) k n (S, Rf, M) Q) : WP X pc lv st k n (S, Rf, M) Q :=
  fun l p e s m args below meth c D cI cC A ad0 n0 ad H locs ls C G L => lv_iload_n C.1 C.2.1 hd hi (L.2.2 i _ hv) (kk l p e s m args below meth c D cI cC A ad0 n0 ad H locs ls C G L)
theorem r_iload {i : Nat} {x : Int32} (hd : decode X.2.1 pc = .ok (.iload i, 2)) (hv : lv[i]? = some (some (.int x))) (kk : WP X (pc + 2) lv (.int x :: st) k n (S, Rf, M) Q) : WP X pc lv st k n (S, Rf, M) Q :=
  fun l p e s m args below meth c D cI cC A ad0 n0 ad H locs ls C G L => lv_iload C.1 C.2.1 hd (L.2.2 i _ hv) (kk l p e s m args below meth c D cI cC A ad0 n0 ad H locs ls C G L)
theorem r_aload_n {i : Nat} {x : Nat} {j : Fin 4} (hd : decode X.2.1 pc = .ok (.aload_n j, 1)) (hi : (j : Nat) = i) (hv : lv[i]? = some (some (.ref x))) (kk : WP X (pc + 1) lv (.ref x :: st) k n (S, Rf, M) Q) : WP X pc lv st k n (S, Rf, M) Q :=
  fun l p e s m args below meth c D cI cC A ad0 n0 ad H locs ls C G L => lv_aload_n C.1 C.2.1 hd hi (L.2.2 i _ hv) (kk l p e s m args below meth c D cI cC A ad0 n0 ad H locs ls C G L)
theorem r_aload {i : Nat} {x : Nat} (hd : decode X.2.1 pc = .ok (.aload i, 2)) (hv : lv[i]? = some (some (.ref x))) (kk : WP X (pc + 2) lv (.ref x :: st) k n (S, Rf, M) Q) : WP X pc lv st k n (S, Rf, M) Q :=
  fun l p e s m args below meth c D cI cC A ad0 n0 ad H locs ls C G L => lv_aload C.1 C.2.1 hd (L.2.2 i _ hv) (kk l p e s m args below meth c D cI cC A ad0 n0 ad H locs ls C G L)
theorem r_aload_nN {i : Nat} {j : Fin 4} (hd : decode X.2.1 pc = .ok (.aload_n j, 1)) (hi : (j : Nat) = i) (hv : lv[i]? = some (some .null)) (kk : WP X (pc + 1) lv (.null :: st) k n (S, Rf, M) Q) : WP X pc lv st k n (S, Rf, M) Q :=
  fun l p e s m args below meth c D cI cC A ad0 n0 ad H locs ls C G L => lv_aload_nN C.1 C.2.1 hd hi (L.2.2 i _ hv) (kk l p e s m args below meth c D cI cC A ad0 n0 ad H locs ls C G L)
theorem lh_list {ls : Array Slot} {nL : Nat} {ad : Nat → Nat} {lv : List (Option Value)} (h : lh ls nL ad lv) : lv_has ls nL ((List.range lv.length).filterMap (fun i => match lv[i]? with
    | some (some v) => some (i, cv ad v)
    | _ => none)) := by
  refine ⟨h.1, h.2.1, fun q hq => ?_⟩
  obtain ⟨i, -, hi⟩ := List.mem_filterMap.mp hq
  cases hx : lv[i]? with
  | none => rw [hx] at hi; cases hi
  | some w =>
    cases w with
    | none => rw [hx] at hi; cases hi
    | some v =>
      rw [hx] at hi
      cases hi
      exact h.2.2 i v hx
theorem cv_cat {ad : Nat → Nat} {v : Value} : (cv ad v).category = v.category := by cases v <;> rfl
theorem lh_store {ls' : Array Slot} {nL : Nat} {ad : Nat → Nat} {lv : List (Option Value)} {i : Nat} {v : Value} (hc : ∀ w, some w ∈ lv → w.category = 1) (h' : lv_has ls' nL ((i, cv ad v) :: ((List.range lv.length).filterMap (fun i => match lv[i]? with
    | some (some v) => some (i, cv ad v)
    | _ => none)).filter (fun q => !(q.1 == i) && !(q.1 + 1 == i && q.2.category == 2)))) : lh ls' nL ad (lv.set i (some v)) := by
  refine ⟨h'.1, h'.2.1, fun j w hj => ?_⟩
  rw [List.getElem?_set] at hj
  by_cases hij : i = j
  · subst hij
    rw [if_pos rfl] at hj
    split at hj
    · cases hj
      exact h'.2.2 (i, cv ad v) List.mem_cons_self
    · cases hj
  · rw [if_neg hij] at hj
    refine h'.2.2 (j, cv ad w) (List.mem_cons_of_mem _ (List.mem_filter.mpr ⟨List.mem_filterMap.mpr ⟨j, List.mem_range.mpr (lt_of_get hj), by rw [hj]⟩, ?_⟩))
    have h1 : w.category = 1 := hc w (List.mem_of_getElem? hj)
    simp [cv_cat, h1, Ne.symm hij]
def okc : List (Option Value) → Bool
  | [] => true
  | none :: t => okc t
  | some v :: t => (v.category == 1) && okc t
theorem okc_ok {lv : List (Option Value)} (h : okc lv = true) : ∀ w, some w ∈ lv → w.category = 1 := by
  induction lv with
  | nil => intro w hw; cases hw
  | cons a t ih =>
    intro w hw
    cases a with
    | none =>
      rcases List.mem_cons.mp hw with q | q
      · cases q
      · exact ih h w q
    | some v =>
      simp only [okc, Bool.and_eq_true, beq_iff_eq] at h
      rcases List.mem_cons.mp hw with q | q
      · cases q
        exact h.1
      · exact ih h.2 w q
theorem r_istore_n {i : Nat} {x : Int32} {j : Fin 4} (hd : decode X.2.1 pc = .ok (.istore_n j, 1)) (hi : (j : Nat) = i) (hc : okc lv = true) (hn : i < X.2.2.1) (kk : WP X (pc + 1) (lv.set i (some (.int x))) st k n (S, Rf, M) Q) : WP X pc lv (.int x :: st) k n (S, Rf, M) Q :=
  fun l p e s m args below meth c D cI cC A ad0 n0 ad H locs ls C G L => lv_istore_n C.1 C.2.1 hd hi (lh_list L) hn rfl (fun ls' h' => kk l p e s m args below meth c D cI cC A ad0 n0 ad H locs ls' C G (lh_store (v := .int x) (okc_ok hc) h'))
theorem r_istore_n0 {a0 : Option Value} {t : List (Option Value)} {x : Int32}  (hd : decode X.2.1 pc = .ok (.istore_n 0, 1)) (hc : okc (a0 :: t) = true) (hn : 0 < X.2.2.1) (kk : WP X (pc + 1) (some (.int x) :: t) st k n (S, Rf, M) Q) : WP X pc (a0 :: t) (.int x :: st) k n (S, Rf, M) Q := r_istore_n (i := 0) hd rfl hc hn kk
theorem r_istore_n1 {a0 a1 : Option Value} {t : List (Option Value)} {x : Int32}  (hd : decode X.2.1 pc = .ok (.istore_n 1, 1)) (hc : okc (a0 :: a1 :: t) = true) (hn : 1 < X.2.2.1) (kk : WP X (pc + 1) (a0 :: some (.int x) :: t) st k n (S, Rf, M) Q) : WP X pc (a0 :: a1 :: t) (.int x :: st) k n (S, Rf, M) Q := r_istore_n (i := 1) hd rfl hc hn kk
theorem r_istore_n2 {a0 a1 a2 : Option Value} {t : List (Option Value)} {x : Int32}  (hd : decode X.2.1 pc = .ok (.istore_n 2, 1)) (hc : okc (a0 :: a1 :: a2 :: t) = true) (hn : 2 < X.2.2.1) (kk : WP X (pc + 1) (a0 :: a1 :: some (.int x) :: t) st k n (S, Rf, M) Q) : WP X pc (a0 :: a1 :: a2 :: t) (.int x :: st) k n (S, Rf, M) Q := r_istore_n (i := 2) hd rfl hc hn kk
theorem r_istore_n3 {a0 a1 a2 a3 : Option Value} {t : List (Option Value)} {x : Int32}  (hd : decode X.2.1 pc = .ok (.istore_n 3, 1)) (hc : okc (a0 :: a1 :: a2 :: a3 :: t) = true) (hn : 3 < X.2.2.1) (kk : WP X (pc + 1) (a0 :: a1 :: a2 :: some (.int x) :: t) st k n (S, Rf, M) Q) : WP X pc (a0 :: a1 :: a2 :: a3 :: t) (.int x :: st) k n (S, Rf, M) Q := r_istore_n (i := 3) hd rfl hc hn kk
theorem r_istore {i : Nat} {x : Int32} (hd : decode X.2.1 pc = .ok (.istore i, 2)) (hc : okc lv = true) (hn : i < X.2.2.1) (kk : WP X (pc + 2) (lv.set i (some (.int x))) st k n (S, Rf, M) Q) : WP X pc lv (.int x :: st) k n (S, Rf, M) Q :=
  fun l p e s m args below meth c D cI cC A ad0 n0 ad H locs ls C G L => lv_istore C.1 C.2.1 hd (lh_list L) hn rfl (fun ls' h' => kk l p e s m args below meth c D cI cC A ad0 n0 ad H locs ls' C G (lh_store (v := .int x) (okc_ok hc) h'))
theorem r_istore_4 {a0 a1 a2 a3 a4 : Option Value} {t : List (Option Value)} {x : Int32} (hd : decode X.2.1 pc = .ok (.istore 4, 2)) (hc : okc (a0 :: a1 :: a2 :: a3 :: a4 :: t) = true) (hn : 4 < X.2.2.1) (kk : WP X (pc + 2) (a0 :: a1 :: a2 :: a3 :: some (.int x) :: t) st k n (S, Rf, M) Q) : WP X pc (a0 :: a1 :: a2 :: a3 :: a4 :: t) (.int x :: st) k n (S, Rf, M) Q := r_istore (i := 4) hd hc hn kk
theorem r_istore_5 {a0 a1 a2 a3 a4 a5 : Option Value} {t : List (Option Value)} {x : Int32} (hd : decode X.2.1 pc = .ok (.istore 5, 2)) (hc : okc (a0 :: a1 :: a2 :: a3 :: a4 :: a5 :: t) = true) (hn : 5 < X.2.2.1) (kk : WP X (pc + 2) (a0 :: a1 :: a2 :: a3 :: a4 :: some (.int x) :: t) st k n (S, Rf, M) Q) : WP X pc (a0 :: a1 :: a2 :: a3 :: a4 :: a5 :: t) (.int x :: st) k n (S, Rf, M) Q := r_istore (i := 5) hd hc hn kk
theorem r_istore_6 {a0 a1 a2 a3 a4 a5 a6 : Option Value} {t : List (Option Value)} {x : Int32} (hd : decode X.2.1 pc = .ok (.istore 6, 2)) (hc : okc (a0 :: a1 :: a2 :: a3 :: a4 :: a5 :: a6 :: t) = true) (hn : 6 < X.2.2.1) (kk : WP X (pc + 2) (a0 :: a1 :: a2 :: a3 :: a4 :: a5 :: some (.int x) :: t) st k n (S, Rf, M) Q) : WP X pc (a0 :: a1 :: a2 :: a3 :: a4 :: a5 :: a6 :: t) (.int x :: st) k n (S, Rf, M) Q := r_istore (i := 6) hd hc hn kk
theorem r_istore_7 {a0 a1 a2 a3 a4 a5 a6 a7 : Option Value} {t : List (Option Value)} {x : Int32} (hd : decode X.2.1 pc = .ok (.istore 7, 2)) (hc : okc (a0 :: a1 :: a2 :: a3 :: a4 :: a5 :: a6 :: a7 :: t) = true) (hn : 7 < X.2.2.1) (kk : WP X (pc + 2) (a0 :: a1 :: a2 :: a3 :: a4 :: a5 :: a6 :: some (.int x) :: t) st k n (S, Rf, M) Q) : WP X pc (a0 :: a1 :: a2 :: a3 :: a4 :: a5 :: a6 :: a7 :: t) (.int x :: st) k n (S, Rf, M) Q := r_istore (i := 7) hd hc hn kk
theorem r_istore_8 {a0 a1 a2 a3 a4 a5 a6 a7 a8 : Option Value} {t : List (Option Value)} {x : Int32} (hd : decode X.2.1 pc = .ok (.istore 8, 2)) (hc : okc (a0 :: a1 :: a2 :: a3 :: a4 :: a5 :: a6 :: a7 :: a8 :: t) = true) (hn : 8 < X.2.2.1) (kk : WP X (pc + 2) (a0 :: a1 :: a2 :: a3 :: a4 :: a5 :: a6 :: a7 :: some (.int x) :: t) st k n (S, Rf, M) Q) : WP X pc (a0 :: a1 :: a2 :: a3 :: a4 :: a5 :: a6 :: a7 :: a8 :: t) (.int x :: st) k n (S, Rf, M) Q := r_istore (i := 8) hd hc hn kk
theorem r_istore_9 {a0 a1 a2 a3 a4 a5 a6 a7 a8 a9 : Option Value} {t : List (Option Value)} {x : Int32} (hd : decode X.2.1 pc = .ok (.istore 9, 2)) (hc : okc (a0 :: a1 :: a2 :: a3 :: a4 :: a5 :: a6 :: a7 :: a8 :: a9 :: t) = true) (hn : 9 < X.2.2.1) (kk : WP X (pc + 2) (a0 :: a1 :: a2 :: a3 :: a4 :: a5 :: a6 :: a7 :: a8 :: some (.int x) :: t) st k n (S, Rf, M) Q) : WP X pc (a0 :: a1 :: a2 :: a3 :: a4 :: a5 :: a6 :: a7 :: a8 :: a9 :: t) (.int x :: st) k n (S, Rf, M) Q := r_istore (i := 9) hd hc hn kk
theorem r_istore_10 {a0 a1 a2 a3 a4 a5 a6 a7 a8 a9 a10 : Option Value} {t : List (Option Value)} {x : Int32} (hd : decode X.2.1 pc = .ok (.istore 10, 2)) (hc : okc (a0 :: a1 :: a2 :: a3 :: a4 :: a5 :: a6 :: a7 :: a8 :: a9 :: a10 :: t) = true) (hn : 10 < X.2.2.1) (kk : WP X (pc + 2) (a0 :: a1 :: a2 :: a3 :: a4 :: a5 :: a6 :: a7 :: a8 :: a9 :: some (.int x) :: t) st k n (S, Rf, M) Q) : WP X pc (a0 :: a1 :: a2 :: a3 :: a4 :: a5 :: a6 :: a7 :: a8 :: a9 :: a10 :: t) (.int x :: st) k n (S, Rf, M) Q := r_istore (i := 10) hd hc hn kk
theorem r_astore_n {i : Nat} {x : Nat} {j : Fin 4} (hd : decode X.2.1 pc = .ok (.astore_n j, 1)) (hi : (j : Nat) = i) (hc : okc lv = true) (hn : i < X.2.2.1) (kk : WP X (pc + 1) (lv.set i (some (.ref x))) st k n (S, Rf, M) Q) : WP X pc lv (.ref x :: st) k n (S, Rf, M) Q :=
  fun l p e s m args below meth c D cI cC A ad0 n0 ad H locs ls C G L => lv_astore_n C.1 C.2.1 hd hi (lh_list L) hn rfl (fun ls' h' => kk l p e s m args below meth c D cI cC A ad0 n0 ad H locs ls' C G (lh_store (v := .ref x) (okc_ok hc) h'))
theorem r_astore_n0 {a0 : Option Value} {t : List (Option Value)} {x : Nat}  (hd : decode X.2.1 pc = .ok (.astore_n 0, 1)) (hc : okc (a0 :: t) = true) (hn : 0 < X.2.2.1) (kk : WP X (pc + 1) (some (.ref x) :: t) st k n (S, Rf, M) Q) : WP X pc (a0 :: t) (.ref x :: st) k n (S, Rf, M) Q := r_astore_n (i := 0) hd rfl hc hn kk
theorem r_astore_n1 {a0 a1 : Option Value} {t : List (Option Value)} {x : Nat}  (hd : decode X.2.1 pc = .ok (.astore_n 1, 1)) (hc : okc (a0 :: a1 :: t) = true) (hn : 1 < X.2.2.1) (kk : WP X (pc + 1) (a0 :: some (.ref x) :: t) st k n (S, Rf, M) Q) : WP X pc (a0 :: a1 :: t) (.ref x :: st) k n (S, Rf, M) Q := r_astore_n (i := 1) hd rfl hc hn kk
theorem r_astore_n2 {a0 a1 a2 : Option Value} {t : List (Option Value)} {x : Nat}  (hd : decode X.2.1 pc = .ok (.astore_n 2, 1)) (hc : okc (a0 :: a1 :: a2 :: t) = true) (hn : 2 < X.2.2.1) (kk : WP X (pc + 1) (a0 :: a1 :: some (.ref x) :: t) st k n (S, Rf, M) Q) : WP X pc (a0 :: a1 :: a2 :: t) (.ref x :: st) k n (S, Rf, M) Q := r_astore_n (i := 2) hd rfl hc hn kk
theorem r_astore_n3 {a0 a1 a2 a3 : Option Value} {t : List (Option Value)} {x : Nat}  (hd : decode X.2.1 pc = .ok (.astore_n 3, 1)) (hc : okc (a0 :: a1 :: a2 :: a3 :: t) = true) (hn : 3 < X.2.2.1) (kk : WP X (pc + 1) (a0 :: a1 :: a2 :: some (.ref x) :: t) st k n (S, Rf, M) Q) : WP X pc (a0 :: a1 :: a2 :: a3 :: t) (.ref x :: st) k n (S, Rf, M) Q := r_astore_n (i := 3) hd rfl hc hn kk
theorem r_astore {i : Nat} {x : Nat} (hd : decode X.2.1 pc = .ok (.astore i, 2)) (hc : okc lv = true) (hn : i < X.2.2.1) (kk : WP X (pc + 2) (lv.set i (some (.ref x))) st k n (S, Rf, M) Q) : WP X pc lv (.ref x :: st) k n (S, Rf, M) Q :=
  fun l p e s m args below meth c D cI cC A ad0 n0 ad H locs ls C G L => lv_astore C.1 C.2.1 hd (lh_list L) hn rfl (fun ls' h' => kk l p e s m args below meth c D cI cC A ad0 n0 ad H locs ls' C G (lh_store (v := .ref x) (okc_ok hc) h'))
theorem r_astore_4 {a0 a1 a2 a3 a4 : Option Value} {t : List (Option Value)} {x : Nat} (hd : decode X.2.1 pc = .ok (.astore 4, 2)) (hc : okc (a0 :: a1 :: a2 :: a3 :: a4 :: t) = true) (hn : 4 < X.2.2.1) (kk : WP X (pc + 2) (a0 :: a1 :: a2 :: a3 :: some (.ref x) :: t) st k n (S, Rf, M) Q) : WP X pc (a0 :: a1 :: a2 :: a3 :: a4 :: t) (.ref x :: st) k n (S, Rf, M) Q := r_astore (i := 4) hd hc hn kk
theorem r_astore_5 {a0 a1 a2 a3 a4 a5 : Option Value} {t : List (Option Value)} {x : Nat} (hd : decode X.2.1 pc = .ok (.astore 5, 2)) (hc : okc (a0 :: a1 :: a2 :: a3 :: a4 :: a5 :: t) = true) (hn : 5 < X.2.2.1) (kk : WP X (pc + 2) (a0 :: a1 :: a2 :: a3 :: a4 :: some (.ref x) :: t) st k n (S, Rf, M) Q) : WP X pc (a0 :: a1 :: a2 :: a3 :: a4 :: a5 :: t) (.ref x :: st) k n (S, Rf, M) Q := r_astore (i := 5) hd hc hn kk
theorem r_astore_6 {a0 a1 a2 a3 a4 a5 a6 : Option Value} {t : List (Option Value)} {x : Nat} (hd : decode X.2.1 pc = .ok (.astore 6, 2)) (hc : okc (a0 :: a1 :: a2 :: a3 :: a4 :: a5 :: a6 :: t) = true) (hn : 6 < X.2.2.1) (kk : WP X (pc + 2) (a0 :: a1 :: a2 :: a3 :: a4 :: a5 :: some (.ref x) :: t) st k n (S, Rf, M) Q) : WP X pc (a0 :: a1 :: a2 :: a3 :: a4 :: a5 :: a6 :: t) (.ref x :: st) k n (S, Rf, M) Q := r_astore (i := 6) hd hc hn kk
theorem r_astore_7 {a0 a1 a2 a3 a4 a5 a6 a7 : Option Value} {t : List (Option Value)} {x : Nat} (hd : decode X.2.1 pc = .ok (.astore 7, 2)) (hc : okc (a0 :: a1 :: a2 :: a3 :: a4 :: a5 :: a6 :: a7 :: t) = true) (hn : 7 < X.2.2.1) (kk : WP X (pc + 2) (a0 :: a1 :: a2 :: a3 :: a4 :: a5 :: a6 :: some (.ref x) :: t) st k n (S, Rf, M) Q) : WP X pc (a0 :: a1 :: a2 :: a3 :: a4 :: a5 :: a6 :: a7 :: t) (.ref x :: st) k n (S, Rf, M) Q := r_astore (i := 7) hd hc hn kk
theorem r_astore_8 {a0 a1 a2 a3 a4 a5 a6 a7 a8 : Option Value} {t : List (Option Value)} {x : Nat} (hd : decode X.2.1 pc = .ok (.astore 8, 2)) (hc : okc (a0 :: a1 :: a2 :: a3 :: a4 :: a5 :: a6 :: a7 :: a8 :: t) = true) (hn : 8 < X.2.2.1) (kk : WP X (pc + 2) (a0 :: a1 :: a2 :: a3 :: a4 :: a5 :: a6 :: a7 :: some (.ref x) :: t) st k n (S, Rf, M) Q) : WP X pc (a0 :: a1 :: a2 :: a3 :: a4 :: a5 :: a6 :: a7 :: a8 :: t) (.ref x :: st) k n (S, Rf, M) Q := r_astore (i := 8) hd hc hn kk
theorem r_astore_9 {a0 a1 a2 a3 a4 a5 a6 a7 a8 a9 : Option Value} {t : List (Option Value)} {x : Nat} (hd : decode X.2.1 pc = .ok (.astore 9, 2)) (hc : okc (a0 :: a1 :: a2 :: a3 :: a4 :: a5 :: a6 :: a7 :: a8 :: a9 :: t) = true) (hn : 9 < X.2.2.1) (kk : WP X (pc + 2) (a0 :: a1 :: a2 :: a3 :: a4 :: a5 :: a6 :: a7 :: a8 :: some (.ref x) :: t) st k n (S, Rf, M) Q) : WP X pc (a0 :: a1 :: a2 :: a3 :: a4 :: a5 :: a6 :: a7 :: a8 :: a9 :: t) (.ref x :: st) k n (S, Rf, M) Q := r_astore (i := 9) hd hc hn kk
theorem r_astore_10 {a0 a1 a2 a3 a4 a5 a6 a7 a8 a9 a10 : Option Value} {t : List (Option Value)} {x : Nat} (hd : decode X.2.1 pc = .ok (.astore 10, 2)) (hc : okc (a0 :: a1 :: a2 :: a3 :: a4 :: a5 :: a6 :: a7 :: a8 :: a9 :: a10 :: t) = true) (hn : 10 < X.2.2.1) (kk : WP X (pc + 2) (a0 :: a1 :: a2 :: a3 :: a4 :: a5 :: a6 :: a7 :: a8 :: a9 :: some (.ref x) :: t) st k n (S, Rf, M) Q) : WP X pc (a0 :: a1 :: a2 :: a3 :: a4 :: a5 :: a6 :: a7 :: a8 :: a9 :: a10 :: t) (.ref x :: st) k n (S, Rf, M) Q := r_astore (i := 10) hd hc hn kk
theorem r_astore_nN {i : Nat} {j : Fin 4} (hd : decode X.2.1 pc = .ok (.astore_n j, 1)) (hi : (j : Nat) = i) (hc : okc lv = true) (hn : i < X.2.2.1) (kk : WP X (pc + 1) (lv.set i (some (.null))) st k n (S, Rf, M) Q) : WP X pc lv (.null :: st) k n (S, Rf, M) Q :=
  fun l p e s m args below meth c D cI cC A ad0 n0 ad H locs ls C G L => lv_astore_nN C.1 C.2.1 hd hi (lh_list L) hn rfl (fun ls' h' => kk l p e s m args below meth c D cI cC A ad0 n0 ad H locs ls' C G (lh_store (v := .null) (okc_ok hc) h'))
theorem r_astore_nN_0 {a0 : Option Value} {t : List (Option Value)}  (hd : decode X.2.1 pc = .ok (.astore_n 0, 1)) (hc : okc (a0 :: t) = true) (hn : 0 < X.2.2.1) (kk : WP X (pc + 1) (some (.null) :: t) st k n (S, Rf, M) Q) : WP X pc (a0 :: t) (.null :: st) k n (S, Rf, M) Q := r_astore_nN (i := 0) hd rfl hc hn kk
theorem r_astore_nN_1 {a0 a1 : Option Value} {t : List (Option Value)}  (hd : decode X.2.1 pc = .ok (.astore_n 1, 1)) (hc : okc (a0 :: a1 :: t) = true) (hn : 1 < X.2.2.1) (kk : WP X (pc + 1) (a0 :: some (.null) :: t) st k n (S, Rf, M) Q) : WP X pc (a0 :: a1 :: t) (.null :: st) k n (S, Rf, M) Q := r_astore_nN (i := 1) hd rfl hc hn kk
theorem r_astore_nN_2 {a0 a1 a2 : Option Value} {t : List (Option Value)}  (hd : decode X.2.1 pc = .ok (.astore_n 2, 1)) (hc : okc (a0 :: a1 :: a2 :: t) = true) (hn : 2 < X.2.2.1) (kk : WP X (pc + 1) (a0 :: a1 :: some (.null) :: t) st k n (S, Rf, M) Q) : WP X pc (a0 :: a1 :: a2 :: t) (.null :: st) k n (S, Rf, M) Q := r_astore_nN (i := 2) hd rfl hc hn kk
theorem r_astore_nN_3 {a0 a1 a2 a3 : Option Value} {t : List (Option Value)}  (hd : decode X.2.1 pc = .ok (.astore_n 3, 1)) (hc : okc (a0 :: a1 :: a2 :: a3 :: t) = true) (hn : 3 < X.2.2.1) (kk : WP X (pc + 1) (a0 :: a1 :: a2 :: some (.null) :: t) st k n (S, Rf, M) Q) : WP X pc (a0 :: a1 :: a2 :: a3 :: t) (.null :: st) k n (S, Rf, M) Q := r_astore_nN (i := 3) hd rfl hc hn kk
theorem r_iinc {i : Nat} {x : Int32} (v : Int32) {j : Int} (hd : decode X.2.1 pc = .ok (.iinc i j, 3)) (hc : okc lv = true) (hn : i < X.2.2.1) (hx : lv[i]? = some (some (.int x))) (hv : x + Int32.ofInt j = v) (kk : WP X (pc + 3) (lv.set i (some (.int v))) st k n (S, Rf, M) Q) : WP X pc lv st k n (S, Rf, M) Q := by
  intro l p e s m args below meth c D cI cC A ad0 n0 ad H locs ls C G L
  have hl := lh_list L
  have hm : (i, Value.int x) ∈ ((List.range lv.length).filterMap (fun i => match lv[i]? with
    | some (some v) => some (i, cv ad v)
    | _ => none)) := List.mem_filterMap.mpr ⟨i, List.mem_range.mpr (lt_of_get hx), by rw [hx]; rfl⟩
  obtain ⟨kp, hk⟩ := List.getElem?_of_mem hm
  exact lv_iinc C.1 C.2.1 hd hl hk hv hn rfl (fun ls' h' => kk l p e s m args below meth c D cI cC A ad0 n0 ad H locs ls' C G (lh_store (v := .int v) (okc_ok hc) h'))
theorem r_iinc_0 {t : List (Option Value)} {x : Int32} (v : Int32) {j : Int} (hd : decode X.2.1 pc = .ok (.iinc 0 j, 3)) (hc : okc (some (.int x) :: t) = true) (hn : 0 < X.2.2.1) (hv : x + Int32.ofInt j = v) (kk : WP X (pc + 3) (some (.int v) :: t) st k n (S, Rf, M) Q) : WP X pc (some (.int x) :: t) st k n (S, Rf, M) Q := r_iinc (i := 0) v hd hc hn rfl hv kk
theorem r_iinc_1 {a0 : Option Value} {t : List (Option Value)} {x : Int32} (v : Int32) {j : Int} (hd : decode X.2.1 pc = .ok (.iinc 1 j, 3)) (hc : okc (a0 :: some (.int x) :: t) = true) (hn : 1 < X.2.2.1) (hv : x + Int32.ofInt j = v) (kk : WP X (pc + 3) (a0 :: some (.int v) :: t) st k n (S, Rf, M) Q) : WP X pc (a0 :: some (.int x) :: t) st k n (S, Rf, M) Q := r_iinc (i := 1) v hd hc hn rfl hv kk
theorem r_iinc_2 {a0 a1 : Option Value} {t : List (Option Value)} {x : Int32} (v : Int32) {j : Int} (hd : decode X.2.1 pc = .ok (.iinc 2 j, 3)) (hc : okc (a0 :: a1 :: some (.int x) :: t) = true) (hn : 2 < X.2.2.1) (hv : x + Int32.ofInt j = v) (kk : WP X (pc + 3) (a0 :: a1 :: some (.int v) :: t) st k n (S, Rf, M) Q) : WP X pc (a0 :: a1 :: some (.int x) :: t) st k n (S, Rf, M) Q := r_iinc (i := 2) v hd hc hn rfl hv kk
theorem r_iinc_3 {a0 a1 a2 : Option Value} {t : List (Option Value)} {x : Int32} (v : Int32) {j : Int} (hd : decode X.2.1 pc = .ok (.iinc 3 j, 3)) (hc : okc (a0 :: a1 :: a2 :: some (.int x) :: t) = true) (hn : 3 < X.2.2.1) (hv : x + Int32.ofInt j = v) (kk : WP X (pc + 3) (a0 :: a1 :: a2 :: some (.int v) :: t) st k n (S, Rf, M) Q) : WP X pc (a0 :: a1 :: a2 :: some (.int x) :: t) st k n (S, Rf, M) Q := r_iinc (i := 3) v hd hc hn rfl hv kk
theorem r_iinc_4 {a0 a1 a2 a3 : Option Value} {t : List (Option Value)} {x : Int32} (v : Int32) {j : Int} (hd : decode X.2.1 pc = .ok (.iinc 4 j, 3)) (hc : okc (a0 :: a1 :: a2 :: a3 :: some (.int x) :: t) = true) (hn : 4 < X.2.2.1) (hv : x + Int32.ofInt j = v) (kk : WP X (pc + 3) (a0 :: a1 :: a2 :: a3 :: some (.int v) :: t) st k n (S, Rf, M) Q) : WP X pc (a0 :: a1 :: a2 :: a3 :: some (.int x) :: t) st k n (S, Rf, M) Q := r_iinc (i := 4) v hd hc hn rfl hv kk
theorem r_iinc_5 {a0 a1 a2 a3 a4 : Option Value} {t : List (Option Value)} {x : Int32} (v : Int32) {j : Int} (hd : decode X.2.1 pc = .ok (.iinc 5 j, 3)) (hc : okc (a0 :: a1 :: a2 :: a3 :: a4 :: some (.int x) :: t) = true) (hn : 5 < X.2.2.1) (hv : x + Int32.ofInt j = v) (kk : WP X (pc + 3) (a0 :: a1 :: a2 :: a3 :: a4 :: some (.int v) :: t) st k n (S, Rf, M) Q) : WP X pc (a0 :: a1 :: a2 :: a3 :: a4 :: some (.int x) :: t) st k n (S, Rf, M) Q := r_iinc (i := 5) v hd hc hn rfl hv kk
theorem r_iinc_6 {a0 a1 a2 a3 a4 a5 : Option Value} {t : List (Option Value)} {x : Int32} (v : Int32) {j : Int} (hd : decode X.2.1 pc = .ok (.iinc 6 j, 3)) (hc : okc (a0 :: a1 :: a2 :: a3 :: a4 :: a5 :: some (.int x) :: t) = true) (hn : 6 < X.2.2.1) (hv : x + Int32.ofInt j = v) (kk : WP X (pc + 3) (a0 :: a1 :: a2 :: a3 :: a4 :: a5 :: some (.int v) :: t) st k n (S, Rf, M) Q) : WP X pc (a0 :: a1 :: a2 :: a3 :: a4 :: a5 :: some (.int x) :: t) st k n (S, Rf, M) Q := r_iinc (i := 6) v hd hc hn rfl hv kk
theorem r_iinc_7 {a0 a1 a2 a3 a4 a5 a6 : Option Value} {t : List (Option Value)} {x : Int32} (v : Int32) {j : Int} (hd : decode X.2.1 pc = .ok (.iinc 7 j, 3)) (hc : okc (a0 :: a1 :: a2 :: a3 :: a4 :: a5 :: a6 :: some (.int x) :: t) = true) (hn : 7 < X.2.2.1) (hv : x + Int32.ofInt j = v) (kk : WP X (pc + 3) (a0 :: a1 :: a2 :: a3 :: a4 :: a5 :: a6 :: some (.int v) :: t) st k n (S, Rf, M) Q) : WP X pc (a0 :: a1 :: a2 :: a3 :: a4 :: a5 :: a6 :: some (.int x) :: t) st k n (S, Rf, M) Q := r_iinc (i := 7) v hd hc hn rfl hv kk
theorem r_iinc_8 {a0 a1 a2 a3 a4 a5 a6 a7 : Option Value} {t : List (Option Value)} {x : Int32} (v : Int32) {j : Int} (hd : decode X.2.1 pc = .ok (.iinc 8 j, 3)) (hc : okc (a0 :: a1 :: a2 :: a3 :: a4 :: a5 :: a6 :: a7 :: some (.int x) :: t) = true) (hn : 8 < X.2.2.1) (hv : x + Int32.ofInt j = v) (kk : WP X (pc + 3) (a0 :: a1 :: a2 :: a3 :: a4 :: a5 :: a6 :: a7 :: some (.int v) :: t) st k n (S, Rf, M) Q) : WP X pc (a0 :: a1 :: a2 :: a3 :: a4 :: a5 :: a6 :: a7 :: some (.int x) :: t) st k n (S, Rf, M) Q := r_iinc (i := 8) v hd hc hn rfl hv kk
theorem r_iinc_9 {a0 a1 a2 a3 a4 a5 a6 a7 a8 : Option Value} {t : List (Option Value)} {x : Int32} (v : Int32) {j : Int} (hd : decode X.2.1 pc = .ok (.iinc 9 j, 3)) (hc : okc (a0 :: a1 :: a2 :: a3 :: a4 :: a5 :: a6 :: a7 :: a8 :: some (.int x) :: t) = true) (hn : 9 < X.2.2.1) (hv : x + Int32.ofInt j = v) (kk : WP X (pc + 3) (a0 :: a1 :: a2 :: a3 :: a4 :: a5 :: a6 :: a7 :: a8 :: some (.int v) :: t) st k n (S, Rf, M) Q) : WP X pc (a0 :: a1 :: a2 :: a3 :: a4 :: a5 :: a6 :: a7 :: a8 :: some (.int x) :: t) st k n (S, Rf, M) Q := r_iinc (i := 9) v hd hc hn rfl hv kk
theorem r_iinc_10 {a0 a1 a2 a3 a4 a5 a6 a7 a8 a9 : Option Value} {t : List (Option Value)} {x : Int32} (v : Int32) {j : Int} (hd : decode X.2.1 pc = .ok (.iinc 10 j, 3)) (hc : okc (a0 :: a1 :: a2 :: a3 :: a4 :: a5 :: a6 :: a7 :: a8 :: a9 :: some (.int x) :: t) = true) (hn : 10 < X.2.2.1) (hv : x + Int32.ofInt j = v) (kk : WP X (pc + 3) (a0 :: a1 :: a2 :: a3 :: a4 :: a5 :: a6 :: a7 :: a8 :: a9 :: some (.int v) :: t) st k n (S, Rf, M) Q) : WP X pc (a0 :: a1 :: a2 :: a3 :: a4 :: a5 :: a6 :: a7 :: a8 :: a9 :: some (.int x) :: t) st k n (S, Rf, M) Q := r_iinc (i := 10) v hd hc hn rfl hv kk
theorem r_iadd {x y : Int32} (hd : decode X.2.1 pc = .ok (.iadd, 1)) (kk : WP X (pc + 1) lv (.int (x + y) :: st) k n (S, Rf, M) Q) : WP X pc lv (.int y :: .int x :: st) k n (S, Rf, M) Q :=
  fun l p e s m args below meth c D cI cC A ad0 n0 ad H locs ls C G L => lv_iadd C.1 C.2.1 hd (kk l p e s m args below meth c D cI cC A ad0 n0 ad H locs ls C G L)
theorem r_isub {x y : Int32} (hd : decode X.2.1 pc = .ok (.isub, 1)) (kk : WP X (pc + 1) lv (.int (x - y) :: st) k n (S, Rf, M) Q) : WP X pc lv (.int y :: .int x :: st) k n (S, Rf, M) Q :=
  fun l p e s m args below meth c D cI cC A ad0 n0 ad H locs ls C G L => lv_isub C.1 C.2.1 hd (kk l p e s m args below meth c D cI cC A ad0 n0 ad H locs ls C G L)
theorem r_imul {x y : Int32} (hd : decode X.2.1 pc = .ok (.imul, 1)) (kk : WP X (pc + 1) lv (.int (x * y) :: st) k n (S, Rf, M) Q) : WP X pc lv (.int y :: .int x :: st) k n (S, Rf, M) Q :=
  fun l p e s m args below meth c D cI cC A ad0 n0 ad H locs ls C G L => lv_imul C.1 C.2.1 hd (kk l p e s m args below meth c D cI cC A ad0 n0 ad H locs ls C G L)
theorem r_iand {x y : Int32} (hd : decode X.2.1 pc = .ok (.iand, 1)) (kk : WP X (pc + 1) lv (.int (x &&& y) :: st) k n (S, Rf, M) Q) : WP X pc lv (.int y :: .int x :: st) k n (S, Rf, M) Q :=
  fun l p e s m args below meth c D cI cC A ad0 n0 ad H locs ls C G L => lv_iand C.1 C.2.1 hd (kk l p e s m args below meth c D cI cC A ad0 n0 ad H locs ls C G L)
theorem r_ior {x y : Int32} (hd : decode X.2.1 pc = .ok (.ior, 1)) (kk : WP X (pc + 1) lv (.int (x ||| y) :: st) k n (S, Rf, M) Q) : WP X pc lv (.int y :: .int x :: st) k n (S, Rf, M) Q :=
  fun l p e s m args below meth c D cI cC A ad0 n0 ad H locs ls C G L => lv_ior C.1 C.2.1 hd (kk l p e s m args below meth c D cI cC A ad0 n0 ad H locs ls C G L)
theorem r_ixor {x y : Int32} (hd : decode X.2.1 pc = .ok (.ixor, 1)) (kk : WP X (pc + 1) lv (.int (x ^^^ y) :: st) k n (S, Rf, M) Q) : WP X pc lv (.int y :: .int x :: st) k n (S, Rf, M) Q :=
  fun l p e s m args below meth c D cI cC A ad0 n0 ad H locs ls C G L => lv_ixor C.1 C.2.1 hd (kk l p e s m args below meth c D cI cC A ad0 n0 ad H locs ls C G L)
theorem r_ishl {x y : Int32} (hd : decode X.2.1 pc = .ok (.ishl, 1)) (kk : WP X (pc + 1) lv (.int (x <<< (y &&& 31)) :: st) k n (S, Rf, M) Q) : WP X pc lv (.int y :: .int x :: st) k n (S, Rf, M) Q :=
  fun l p e s m args below meth c D cI cC A ad0 n0 ad H locs ls C G L => lv_ishl C.1 C.2.1 hd (kk l p e s m args below meth c D cI cC A ad0 n0 ad H locs ls C G L)
theorem r_ishr {x y : Int32} (hd : decode X.2.1 pc = .ok (.ishr, 1)) (kk : WP X (pc + 1) lv (.int (x >>> (y &&& 31)) :: st) k n (S, Rf, M) Q) : WP X pc lv (.int y :: .int x :: st) k n (S, Rf, M) Q :=
  fun l p e s m args below meth c D cI cC A ad0 n0 ad H locs ls C G L => lv_ishr C.1 C.2.1 hd (kk l p e s m args below meth c D cI cC A ad0 n0 ad H locs ls C G L)
theorem r_iushr {x y : Int32} (hd : decode X.2.1 pc = .ok (.iushr, 1)) (kk : WP X (pc + 1) lv (.int (x.toUInt32 >>> (y.toUInt32 &&& Int32.toUInt32 31)).toInt32 :: st) k n (S, Rf, M) Q) : WP X pc lv (.int y :: .int x :: st) k n (S, Rf, M) Q :=
  fun l p e s m args below meth c D cI cC A ad0 n0 ad H locs ls C G L => lv_iushr C.1 C.2.1 hd rfl (kk l p e s m args below meth c D cI cC A ad0 n0 ad H locs ls C G L)
theorem r_idiv {x y : Int32} (hd : decode X.2.1 pc = .ok (.idiv, 1)) (hne : ¬ y = 0) (kk : WP X (pc + 1) lv (.int (x / y) :: st) k n (S, Rf, M) Q) : WP X pc lv (.int y :: .int x :: st) k n (S, Rf, M) Q :=
  fun l p e s m args below meth c D cI cC A ad0 n0 ad H locs ls C G L => lv_idiv C.1 C.2.1 hd hne (kk l p e s m args below meth c D cI cC A ad0 n0 ad H locs ls C G L)
theorem r_irem {x y : Int32} (hd : decode X.2.1 pc = .ok (.irem, 1)) (hne : ¬ y = 0) (kk : WP X (pc + 1) lv (.int (x - x / y * y) :: st) k n (S, Rf, M) Q) : WP X pc lv (.int y :: .int x :: st) k n (S, Rf, M) Q :=
  fun l p e s m args below meth c D cI cC A ad0 n0 ad H locs ls C G L => lv_irem C.1 C.2.1 hd hne (kk l p e s m args below meth c D cI cC A ad0 n0 ad H locs ls C G L)
theorem r_ineg {x : Int32} (hd : decode X.2.1 pc = .ok (.ineg, 1)) (kk : WP X (pc + 1) lv (.int (-x) :: st) k n (S, Rf, M) Q) : WP X pc lv (.int x :: st) k n (S, Rf, M) Q :=
  fun l p e s m args below meth c D cI cC A ad0 n0 ad H locs ls C G L => lv_ineg C.1 C.2.1 hd (kk l p e s m args below meth c D cI cC A ad0 n0 ad H locs ls C G L)
theorem r_dupI {x : Int32} (hd : decode X.2.1 pc = .ok (.dup, 1)) (kk : WP X (pc + 1) lv ((.int x) :: (.int x) :: st) k n (S, Rf, M) Q) : WP X pc lv ((.int x) :: st) k n (S, Rf, M) Q :=
  fun l p e s m args below meth c D cI cC A ad0 n0 ad H locs ls C G L => lv_dup C.1 C.2.1 hd rfl (kk l p e s m args below meth c D cI cC A ad0 n0 ad H locs ls C G L)
theorem r_dupR {x : Nat} (hd : decode X.2.1 pc = .ok (.dup, 1)) (kk : WP X (pc + 1) lv ((.ref x) :: (.ref x) :: st) k n (S, Rf, M) Q) : WP X pc lv ((.ref x) :: st) k n (S, Rf, M) Q :=
  fun l p e s m args below meth c D cI cC A ad0 n0 ad H locs ls C G L => lv_dup C.1 C.2.1 hd rfl (kk l p e s m args below meth c D cI cC A ad0 n0 ad H locs ls C G L)
theorem r_if_eq {x : Int32} {off : Int} (tgt : Nat) (hd : decode X.2.1 pc = .ok (.ifCond .eq off, 3)) (ht : (pc : Int) + off = (tgt : Int)) (kt : x = 0 → WP X tgt lv st k n (S, Rf, M) Q) (kf : ¬ x = 0 → WP X (pc + 3) lv st k n (S, Rf, M) Q) : WP X pc lv (.int x :: st) k n (S, Rf, M) Q :=
  fun l p e s m args below meth c D cI cC A ad0 n0 ad H locs ls C G L => lv_if_eq C.1 C.2.1 hd ht (fun q => kt q l p e s m args below meth c D cI cC A ad0 n0 ad H locs ls C G L) (fun q => kf q l p e s m args below meth c D cI cC A ad0 n0 ad H locs ls C G L)
theorem r_icmp_eq {x y : Int32} {off : Int} (tgt : Nat) (hd : decode X.2.1 pc = .ok (.if_icmp .eq off, 3)) (ht : (pc : Int) + off = (tgt : Int)) (kt : x = y → WP X tgt lv st k n (S, Rf, M) Q) (kf : ¬ x = y → WP X (pc + 3) lv st k n (S, Rf, M) Q) : WP X pc lv (.int y :: .int x :: st) k n (S, Rf, M) Q :=
  fun l p e s m args below meth c D cI cC A ad0 n0 ad H locs ls C G L => lv_icmp_eq C.1 C.2.1 hd ht (fun q => kt q l p e s m args below meth c D cI cC A ad0 n0 ad H locs ls C G L) (fun q => kf q l p e s m args below meth c D cI cC A ad0 n0 ad H locs ls C G L)
theorem r_if_ne {x : Int32} {off : Int} (tgt : Nat) (hd : decode X.2.1 pc = .ok (.ifCond .ne off, 3)) (ht : (pc : Int) + off = (tgt : Int)) (kt : ¬ x = 0 → WP X tgt lv st k n (S, Rf, M) Q) (kf : x = 0 → WP X (pc + 3) lv st k n (S, Rf, M) Q) : WP X pc lv (.int x :: st) k n (S, Rf, M) Q :=
  fun l p e s m args below meth c D cI cC A ad0 n0 ad H locs ls C G L => lv_if_ne C.1 C.2.1 hd ht (fun q => kt q l p e s m args below meth c D cI cC A ad0 n0 ad H locs ls C G L) (fun q => kf q l p e s m args below meth c D cI cC A ad0 n0 ad H locs ls C G L)
theorem r_icmp_ne {x y : Int32} {off : Int} (tgt : Nat) (hd : decode X.2.1 pc = .ok (.if_icmp .ne off, 3)) (ht : (pc : Int) + off = (tgt : Int)) (kt : ¬ x = y → WP X tgt lv st k n (S, Rf, M) Q) (kf : x = y → WP X (pc + 3) lv st k n (S, Rf, M) Q) : WP X pc lv (.int y :: .int x :: st) k n (S, Rf, M) Q :=
  fun l p e s m args below meth c D cI cC A ad0 n0 ad H locs ls C G L => lv_icmp_ne C.1 C.2.1 hd ht (fun q => kt q l p e s m args below meth c D cI cC A ad0 n0 ad H locs ls C G L) (fun q => kf q l p e s m args below meth c D cI cC A ad0 n0 ad H locs ls C G L)
theorem r_if_lt {x : Int32} {off : Int} (tgt : Nat) (hd : decode X.2.1 pc = .ok (.ifCond .lt off, 3)) (ht : (pc : Int) + off = (tgt : Int)) (kt : x < 0 → WP X tgt lv st k n (S, Rf, M) Q) (kf : ¬ x < 0 → WP X (pc + 3) lv st k n (S, Rf, M) Q) : WP X pc lv (.int x :: st) k n (S, Rf, M) Q :=
  fun l p e s m args below meth c D cI cC A ad0 n0 ad H locs ls C G L => lv_if_lt C.1 C.2.1 hd ht (fun q => kt q l p e s m args below meth c D cI cC A ad0 n0 ad H locs ls C G L) (fun q => kf q l p e s m args below meth c D cI cC A ad0 n0 ad H locs ls C G L)
theorem r_icmp_lt {x y : Int32} {off : Int} (tgt : Nat) (hd : decode X.2.1 pc = .ok (.if_icmp .lt off, 3)) (ht : (pc : Int) + off = (tgt : Int)) (kt : x < y → WP X tgt lv st k n (S, Rf, M) Q) (kf : ¬ x < y → WP X (pc + 3) lv st k n (S, Rf, M) Q) : WP X pc lv (.int y :: .int x :: st) k n (S, Rf, M) Q :=
  fun l p e s m args below meth c D cI cC A ad0 n0 ad H locs ls C G L => lv_icmp_lt C.1 C.2.1 hd ht (fun q => kt q l p e s m args below meth c D cI cC A ad0 n0 ad H locs ls C G L) (fun q => kf q l p e s m args below meth c D cI cC A ad0 n0 ad H locs ls C G L)
theorem r_if_ge {x : Int32} {off : Int} (tgt : Nat) (hd : decode X.2.1 pc = .ok (.ifCond .ge off, 3)) (ht : (pc : Int) + off = (tgt : Int)) (kt : 0 ≤ x → WP X tgt lv st k n (S, Rf, M) Q) (kf : ¬ 0 ≤ x → WP X (pc + 3) lv st k n (S, Rf, M) Q) : WP X pc lv (.int x :: st) k n (S, Rf, M) Q :=
  fun l p e s m args below meth c D cI cC A ad0 n0 ad H locs ls C G L => lv_if_ge C.1 C.2.1 hd ht (fun q => kt q l p e s m args below meth c D cI cC A ad0 n0 ad H locs ls C G L) (fun q => kf q l p e s m args below meth c D cI cC A ad0 n0 ad H locs ls C G L)
theorem r_icmp_ge {x y : Int32} {off : Int} (tgt : Nat) (hd : decode X.2.1 pc = .ok (.if_icmp .ge off, 3)) (ht : (pc : Int) + off = (tgt : Int)) (kt : y ≤ x → WP X tgt lv st k n (S, Rf, M) Q) (kf : ¬ y ≤ x → WP X (pc + 3) lv st k n (S, Rf, M) Q) : WP X pc lv (.int y :: .int x :: st) k n (S, Rf, M) Q :=
  fun l p e s m args below meth c D cI cC A ad0 n0 ad H locs ls C G L => lv_icmp_ge C.1 C.2.1 hd ht (fun q => kt q l p e s m args below meth c D cI cC A ad0 n0 ad H locs ls C G L) (fun q => kf q l p e s m args below meth c D cI cC A ad0 n0 ad H locs ls C G L)
theorem r_if_gt {x : Int32} {off : Int} (tgt : Nat) (hd : decode X.2.1 pc = .ok (.ifCond .gt off, 3)) (ht : (pc : Int) + off = (tgt : Int)) (kt : 0 < x → WP X tgt lv st k n (S, Rf, M) Q) (kf : ¬ 0 < x → WP X (pc + 3) lv st k n (S, Rf, M) Q) : WP X pc lv (.int x :: st) k n (S, Rf, M) Q :=
  fun l p e s m args below meth c D cI cC A ad0 n0 ad H locs ls C G L => lv_if_gt C.1 C.2.1 hd ht (fun q => kt q l p e s m args below meth c D cI cC A ad0 n0 ad H locs ls C G L) (fun q => kf q l p e s m args below meth c D cI cC A ad0 n0 ad H locs ls C G L)
theorem r_icmp_gt {x y : Int32} {off : Int} (tgt : Nat) (hd : decode X.2.1 pc = .ok (.if_icmp .gt off, 3)) (ht : (pc : Int) + off = (tgt : Int)) (kt : y < x → WP X tgt lv st k n (S, Rf, M) Q) (kf : ¬ y < x → WP X (pc + 3) lv st k n (S, Rf, M) Q) : WP X pc lv (.int y :: .int x :: st) k n (S, Rf, M) Q :=
  fun l p e s m args below meth c D cI cC A ad0 n0 ad H locs ls C G L => lv_icmp_gt C.1 C.2.1 hd ht (fun q => kt q l p e s m args below meth c D cI cC A ad0 n0 ad H locs ls C G L) (fun q => kf q l p e s m args below meth c D cI cC A ad0 n0 ad H locs ls C G L)
theorem r_if_le {x : Int32} {off : Int} (tgt : Nat) (hd : decode X.2.1 pc = .ok (.ifCond .le off, 3)) (ht : (pc : Int) + off = (tgt : Int)) (kt : x ≤ 0 → WP X tgt lv st k n (S, Rf, M) Q) (kf : ¬ x ≤ 0 → WP X (pc + 3) lv st k n (S, Rf, M) Q) : WP X pc lv (.int x :: st) k n (S, Rf, M) Q :=
  fun l p e s m args below meth c D cI cC A ad0 n0 ad H locs ls C G L => lv_if_le C.1 C.2.1 hd ht (fun q => kt q l p e s m args below meth c D cI cC A ad0 n0 ad H locs ls C G L) (fun q => kf q l p e s m args below meth c D cI cC A ad0 n0 ad H locs ls C G L)
theorem r_icmp_le {x y : Int32} {off : Int} (tgt : Nat) (hd : decode X.2.1 pc = .ok (.if_icmp .le off, 3)) (ht : (pc : Int) + off = (tgt : Int)) (kt : x ≤ y → WP X tgt lv st k n (S, Rf, M) Q) (kf : ¬ x ≤ y → WP X (pc + 3) lv st k n (S, Rf, M) Q) : WP X pc lv (.int y :: .int x :: st) k n (S, Rf, M) Q :=
  fun l p e s m args below meth c D cI cC A ad0 n0 ad H locs ls C G L => lv_icmp_le C.1 C.2.1 hd ht (fun q => kt q l p e s m args below meth c D cI cC A ad0 n0 ad H locs ls C G L) (fun q => kf q l p e s m args below meth c D cI cC A ad0 n0 ad H locs ls C G L)
theorem r_goto {off : Int} (tgt : Nat) (hd : decode X.2.1 pc = .ok (.goto off, 3)) (ht : (pc : Int) + off = (tgt : Int)) (kk : WP X tgt lv st k n (S, Rf, M) Q) : WP X pc lv st k n (S, Rf, M) Q :=
  fun l p e s m args below meth c D cI cC A ad0 n0 ad H locs ls C G L => lv_goto C.1 C.2.1 hd ht (kk l p e s m args below meth c D cI cC A ad0 n0 ad H locs ls C G L)
theorem r_ifnonnull {x : Nat} {off : Int} (tgt : Nat) (hd : decode X.2.1 pc = .ok (.ifnonnull off, 3)) (ht : (pc : Int) + off = (tgt : Int)) (kk : WP X tgt lv st k n (S, Rf, M) Q) : WP X pc lv (.ref x :: st) k n (S, Rf, M) Q :=
  fun l p e s m args below meth c D cI cC A ad0 n0 ad H locs ls C G L => lv_ifnonnull C.1 C.2.1 hd ht (kk l p e s m args below meth c D cI cC A ad0 n0 ad H locs ls C G L)
theorem r_ifnull {x : Nat} {off : Int} (hd : decode X.2.1 pc = .ok (.ifnull off, 3)) (kk : WP X (pc + 3) lv st k n (S, Rf, M) Q) : WP X pc lv (.ref x :: st) k n (S, Rf, M) Q :=
  fun l p e s m args below meth c D cI cC A ad0 n0 ad H locs ls C G L => lv_ifnull C.1 C.2.1 hd (kk l p e s m args below meth c D cI cC A ad0 n0 ad H locs ls C G L)
theorem r_ifnullN {off : Int} (tgt : Nat) (hd : decode X.2.1 pc = .ok (.ifnull off, 3)) (ht : (pc : Int) + off = (tgt : Int)) (kk : WP X tgt lv st k n (S, Rf, M) Q) : WP X pc lv (.null :: st) k n (S, Rf, M) Q :=
  fun l p e s m args below meth c D cI cC A ad0 n0 ad H locs ls C G L => lv_ifnullN C.1 C.2.1 hd ht (kk l p e s m args below meth c D cI cC A ad0 n0 ad H locs ls C G L)
theorem r_ifnonnullN {off : Int} (hd : decode X.2.1 pc = .ok (.ifnonnull off, 3)) (kk : WP X (pc + 3) lv st k n (S, Rf, M) Q) : WP X pc lv (.null :: st) k n (S, Rf, M) Q :=
  fun l p e s m args below meth c D cI cC A ad0 n0 ad H locs ls C G L => lv_ifnonnullN C.1 C.2.1 hd (kk l p e s m args below meth c D cI cC A ad0 n0 ad H locs ls C G L)
theorem r_lookup {dflt : Int} {ps : Array (Int × Int)} {len : Nat} {x : Int32} {off : Int} (tgt : Nat) (hd : decode X.2.1 pc = .ok (.lookupswitch dflt ps, len)) (hp : (ps.toList.zip (ps.toList.drop 1)).all (fun (a, next) => a.1 < next.1) = true) (ho : Op.lookupswitch.offset ps.toList dflt x.toInt = off) (ht : (pc : Int) + off = (tgt : Int)) (kk : WP X tgt lv st k n (S, Rf, M) Q) : WP X pc lv (.int x :: st) k n (S, Rf, M) Q :=
  fun l p e s m args below meth c D cI cC A ad0 n0 ad H locs ls C G L => lv_lookup C.1 C.2.1 hd hp ho ht (kk l p e s m args below meth c D cI cC A ad0 n0 ad H locs ls C G L)
theorem r_tabOut {dflt lo hi : Int} {offs : Array Int} {len : Nat} {x : Int32} (tgt : Nat) (hd : decode X.2.1 pc = .ok (.tableswitch dflt lo hi offs, len)) (hx : x.toInt < lo ∨ hi < x.toInt) (ht : (pc : Int) + dflt = (tgt : Int)) (kk : WP X tgt lv st k n (S, Rf, M) Q) : WP X pc lv (.int x :: st) k n (S, Rf, M) Q :=
  fun l p e s m args below meth c D cI cC A ad0 n0 ad H locs ls C G L => lv_tableOut C.1 C.2.1 hd hx ht (kk l p e s m args below meth c D cI cC A ad0 n0 ad H locs ls C G L)
theorem r_tabIn {dflt lo hi : Int} {offs : Array Int} {len : Nat} {x : Int32} {off : Int} (tgt : Nat) (hd : decode X.2.1 pc = .ok (.tableswitch dflt lo hi offs, len)) (h1 : ¬ x.toInt < lo) (h2 : ¬ hi < x.toInt) (ho : offs[(x.toInt - lo).toNat]? = some off) (ht : (pc : Int) + off = (tgt : Int)) (kk : WP X tgt lv st k n (S, Rf, M) Q) : WP X pc lv (.int x :: st) k n (S, Rf, M) Q :=
  fun l p e s m args below meth c D cI cC A ad0 n0 ad H locs ls C G L => lv_tableIn C.1 C.2.1 hd h1 h2 ho ht (kk l p e s m args below meth c D cI cC A ad0 n0 ad H locs ls C G L)
def lvle : List (Option Value) → List (Option Value) → Prop
  | [], _ => True
  | none :: t', _ :: t => lvle t' t
  | none :: t', [] => lvle t' []
  | some v :: t', some w :: t => v = w ∧ lvle t' t
  | _, _ => False
theorem lvle_ok : ∀ {l' l : List (Option Value)}, lvle l' l → ∀ (i : Nat) (v : Value), l'[i]? = some (some v) → l[i]? = some (some v)
  | [], _, _, i, v, h => by simp at h
  | none :: t', _ :: t, hl, i, v, h => by
    cases i with
    | zero => simp at h
    | succ i => simpa using lvle_ok (l' := t') (l := t) hl i v (by simpa using h)
  | some x :: t', some y :: t, hl, i, v, h => by
    cases i with
    | zero => simp at h; simp [← h, hl.1]
    | succ i => simpa using lvle_ok (l' := t') (l := t) hl.2 i v (by simpa using h)
  | none :: t', [], hl, i, v, h => by
    cases i with
    | zero => simp at h
    | succ i => simpa using lvle_ok (l' := t') (l := []) hl i v (by simpa using h)
  | some _ :: _, [], hl, _, _, _ => absurd hl id
  | some _ :: _, none :: _, hl, _, _, _ => absurd hl id
theorem r_weak {lv' : List (Option Value)} (hw : lvle lv' lv) (kk : WP X pc lv' st k n (S, Rf, M) Q) : WP X pc lv st k n (S, Rf, M) Q :=
  fun l p e s m args below meth c D cI cC A ad0 n0 ad H locs ls C G L => kk l p e s m args below meth c D cI cC A ad0 n0 ad H locs ls C G ⟨L.1, L.2.1, fun i v q => L.2.2 i v (lvle_ok hw i v q)⟩
end RULES
