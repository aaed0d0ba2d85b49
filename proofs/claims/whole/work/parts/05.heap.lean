def clC (ci : Nat) : vw_C := (vwCl[ci]?).getD ("", fun _ => ("", "", "", false), 0)
set_option maxRecDepth 100000 in
theorem cf0 : ∀ w ∈ u_ws (clC 0).1 (clC 0).2.1 (clC 0).2.2, w ∈ gG := fun w h => List.mem_filter.mpr ⟨(show ∀ w ∈ wsX00, w ∈ lw_tbl by decide +kernel) w h, (show ∀ w ∈ wsX00, goodWord w = true by decide +kernel) w h⟩
set_option maxRecDepth 100000 in
theorem cf1 : ∀ w ∈ u_ws (clC 1).1 (clC 1).2.1 (clC 1).2.2, w ∈ gG := fun w h => List.mem_filter.mpr ⟨(show ∀ w ∈ wsX10, w ∈ lw_tbl by decide +kernel) w h, (show ∀ w ∈ wsX10, goodWord w = true by decide +kernel) w h⟩
set_option maxRecDepth 100000 in
theorem cf2 : ∀ w ∈ u_ws (clC 2).1 (clC 2).2.1 (clC 2).2.2, w ∈ gG := fun w h => List.mem_filter.mpr ⟨(show ∀ w ∈ wsX20, w ∈ lw_tbl by decide +kernel) w h, (show ∀ w ∈ wsX20, goodWord w = true by decide +kernel) w h⟩
set_option maxRecDepth 100000 in
theorem cf3 : ∀ w ∈ u_ws (clC 3).1 (clC 3).2.1 (clC 3).2.2, w ∈ gG := fun w h => List.mem_filter.mpr ⟨(show ∀ w ∈ wsX30, w ∈ lw_tbl by decide +kernel) w h, (show ∀ w ∈ wsX30, goodWord w = true by decide +kernel) w h⟩
set_option maxRecDepth 100000 in
theorem cf4 : ∀ w ∈ u_ws (clC 4).1 (clC 4).2.1 (clC 4).2.2, w ∈ gG := fun w h => List.mem_filter.mpr ⟨(show ∀ w ∈ wsX40, w ∈ lw_tbl by decide +kernel) w h, (show ∀ w ∈ wsX40, goodWord w = true by decide +kernel) w h⟩
set_option maxRecDepth 100000 in
theorem cf5 : ∀ w ∈ u_ws (clC 5).1 (clC 5).2.1 (clC 5).2.2, w ∈ gG := fun w h => List.mem_filter.mpr ⟨(show ∀ w ∈ wsX50, w ∈ lw_tbl by decide +kernel) w h, (show ∀ w ∈ wsX50, goodWord w = true by decide +kernel) w h⟩
set_option maxRecDepth 100000 in
theorem cf6 : ∀ w ∈ u_ws (clC 6).1 (clC 6).2.1 (clC 6).2.2, w ∈ gG := fun w h => List.mem_filter.mpr ⟨(show ∀ w ∈ wsX60, w ∈ lw_tbl by decide +kernel) w h, (show ∀ w ∈ wsX60, goodWord w = true by decide +kernel) w h⟩
theorem cfs : ∀ ci, ci < 7 → vwCl[ci]? = some ((clC ci).1, (clC ci).2.1, (clC ci).2.2) ∧ (∀ w ∈ u_ws (clC ci).1 (clC ci).2.1 (clC ci).2.2, w ∈ gG) ∧ (∀ k, k < (clC ci).2.2 → parseFieldDescriptor ((clC ci).2.1 k).2.2.1 = some (tyA ci k)) ∧ (∀ a, a < (clC ci).2.2 → ∀ b, b < (clC ci).2.2 → a ≠ b → ((clC ci).2.1 a).2.1 ≠ ((clC ci).2.1 b).2.1)
  | 0, _ => ⟨rfl, cf0, tyX0_ok, nmX0⟩
  | 1, _ => ⟨rfl, cf1, tyX1_ok, nmX1⟩
  | 2, _ => ⟨rfl, cf2, tyX2_ok, nmX2⟩
  | 3, _ => ⟨rfl, cf3, tyX3_ok, nmX3⟩
  | 4, _ => ⟨rfl, cf4, tyX4_ok, nmX4⟩
  | 5, _ => ⟨rfl, cf5, tyX5_ok, nmX5⟩
  | 6, _ => ⟨rfl, cf6, tyX6_ok, nmX6⟩
  | n + 7, h => absurd h (by omega)
/-- a field reference: the class and the slot that it means -/
def FW (own : String) (idx ci kf : Nat) : Prop := kf < (clC ci).2.2 ∧ ci < 7 ∧ (Cond.fieldLink own idx ((clC ci).2.1 kf).1 ((clC ci).2.1 kf).2.1 ((clC ci).2.1 kf).2.2.1 ∈ gG ∨ ∃ host, Cond.fieldLinkNest own idx ((clC ci).2.1 kf).1 ((clC ci).2.1 kf).2.1 ((clC ci).2.1 kf).2.2.1 host ∈ lw_tbl)
theorem fv_putI {ad : Nat → Nat} {S : List (Nat × Nat)} {Rf : Nat → Nat → Option Nat} {M : Mem} {a ci N kf : Nat} {x : Int32} (hf : fref ci kf = false) : (List.range N).map (fv ad (S, Rf, upd2 M a kf x) a ci) = ((List.range N).map (fv ad (S, Rf, M) a ci)).set kf (.int x) := by
  apply List.ext_getElem?
  intro i
  rw [List.getElem?_set]
  by_cases hi : i < N
  · by_cases hk : kf = i
    · subst hk
      simp [hi, fv, hf, upd2_s, upd]
    · have : ¬ i = kf := fun q => hk q.symm
      simp [hi, fv, upd2_s, upd, hk, this]
  · have hz : (List.range N).length ≤ i := by simpa using hi
    by_cases hk : kf = i
    · subst hk
      simp [hi]
    · simp [hi, hk]
theorem fv_putR {ad : Nat → Nat} {S : List (Nat × Nat)} {Rf : Nat → Nat → Option Nat} {M : Mem} {a ci N kf : Nat} {b : Nat} (hf : fref ci kf = true) : (List.range N).map (fv ad (S, updR Rf a kf (some b), M) a ci) = ((List.range N).map (fv ad (S, Rf, M) a ci)).set kf (.ref (ad b)) := by
  apply List.ext_getElem?
  intro i
  rw [List.getElem?_set]
  by_cases hi : i < N
  · by_cases hk : kf = i
    · subst hk
      simp [hi, fv, hf, updR_s, va_up, va_rf]
    · have : ¬ i = kf := fun q => hk q.symm
      simp [hi, fv, updR_s, va_up, hk, this]
  · by_cases hk : kf = i
    · subst hk
      simp [hi]
    · simp [hi, hk]
section HEAP
variable {X : MX} {pc : Nat} {lv : List (Option Value)} {st : List Value} {k n : Nat} {S : List (Nat × Nat)} {Rf : Nat → Nat → Option Nat} {M : Mem} {Q : Option Value → Hp → Prop}
theorem r_getI {a ci N kf idx : Nat} (hd : decode X.2.1 pc = .ok (.getfield idx, 3)) (hw : FW X.1.cls idx ci kf) (hs : S[a]? = some (ci, N)) (hk : kf < N) (hf : fref ci kf = false) (kk : WP X (pc + 3) lv (.int (M a kf) :: st) k n (S, Rf, M) Q) : WP X pc lv (.ref a :: st) k n (S, Rf, M) Q := by
  intro l p e s m args below meth c D cI cC A ad0 n0 ad H locs ls C G L
  obtain ⟨hx, hb, hr, hml, hown, hts, hlocks, hnm0, hNW, hK, hA⟩ := id C
  obtain ⟨g1, g2, g3, hP, hD, hS⟩ := id G
  obtain ⟨hc, hin, hty, hnm⟩ := cfs ci hw.2.1
  have he := wld_at (cI := cI) (cC := cC) (ad := ad) (h := (S, Rf, M)) (lt_of_get hs)
  rw [cel_o hs hw.2.1] at he
  have hv : ((List.range N).map (fv ad (S, Rf, M) a ci))[kf]? = some (.int (M a kf)) := by simp [hk, fv, hf]
  rcases hw.2.2 with hl | ⟨host, hl⟩
  · exact va_get hx hb hts hin hown hK hP a he hc kf hw.1 (hts _ hl) (fun _ q => q) hv hd (kk l p e s m args below meth c D cI cC A ad0 n0 ad H locs ls C G L)
  · exact va_getN hx hb hts hin hown hK hP a he hc kf hw.1 (va_Nw.use rfl (hNW.1 _ _ _ _ _ _ hl)) (fun _ q => q) hv hd (kk l p e s m args below meth c D cI cC A ad0 n0 ad H locs ls C G L)
theorem r_getR {a ci N kf idx b : Nat} (hd : decode X.2.1 pc = .ok (.getfield idx, 3)) (hw : FW X.1.cls idx ci kf) (hs : S[a]? = some (ci, N)) (hk : kf < N) (hf : fref ci kf = true) (hb0 : Rf a kf = some b) (kk : WP X (pc + 3) lv (.ref b :: st) k n (S, Rf, M) Q) : WP X pc lv (.ref a :: st) k n (S, Rf, M) Q := by
  intro l p e s m args below meth c D cI cC A ad0 n0 ad H locs ls C G L
  obtain ⟨hx, hb, hr, hml, hown, hts, hlocks, hnm0, hNW, hK, hA⟩ := id C
  obtain ⟨g1, g2, g3, hP, hD, hS⟩ := id G
  obtain ⟨hc, hin, hty, hnm⟩ := cfs ci hw.2.1
  have he := wld_at (cI := cI) (cC := cC) (ad := ad) (h := (S, Rf, M)) (lt_of_get hs)
  rw [cel_o hs hw.2.1] at he
  have hv : ((List.range N).map (fv ad (S, Rf, M) a ci))[kf]? = some (.ref (ad b)) := by simp [hk, fv, hf, hb0, va_rf]
  rcases hw.2.2 with hl | ⟨host, hl⟩
  · exact va_get hx hb hts hin hown hK hP a he hc kf hw.1 (hts _ hl) (fun _ q => q) hv hd (kk l p e s m args below meth c D cI cC A ad0 n0 ad H locs ls C G L)
  · exact va_getN hx hb hts hin hown hK hP a he hc kf hw.1 (va_Nw.use rfl (hNW.1 _ _ _ _ _ _ hl)) (fun _ q => q) hv hd (kk l p e s m args below meth c D cI cC A ad0 n0 ad H locs ls C G L)
theorem r_putI {a ci N kf idx : Nat} {x : Int32} (hd : decode X.2.1 pc = .ok (.putfield idx, 3)) (hw : FW X.1.cls idx ci kf) (hs : S[a]? = some (ci, N)) (hk : kf < N) (hf : fref ci kf = false) (hfin : ((clC ci).2.1 kf).2.2.2 = false ∨ (((clC ci).2.1 kf).2.2.2 = true ∧ X.1.name = "<init>" ∧ ((clC ci).2.1 kf).1 = X.1.cls ∧ Cond.fieldLink X.1.cls idx ((clC ci).2.1 kf).1 ((clC ci).2.1 kf).2.1 ((clC ci).2.1 kf).2.2.1 ∈ gG)) (hn : narrow (tyA ci kf) (.int x) = .int x) (hfit : fits (tyA ci kf) (.int x) = true) (kk : WP X (pc + 3) lv st k n (S, Rf, upd2 M a kf x) Q) : WP X pc lv (.int x :: .ref a :: st) k n (S, Rf, M) Q := by
  intro l p e s m args below meth c D cI cC A ad0 n0 ad H locs ls C G L
  obtain ⟨hx, hb, hr, hml, hown, hts, hlocks, hnm0, hNW, hK, hA⟩ := id C
  obtain ⟨g1, g2, g3, hP, hD, hS⟩ := id G
  obtain ⟨hc, hin, hty, hnm⟩ := cfs ci hw.2.1
  have he := wld_at (cI := cI) (cC := cC) (ad := ad) (h := (S, Rf, M)) (lt_of_get hs)
  rw [cel_o hs hw.2.1] at he
  have hset : (wld cI cC ad (S, Rf, M)).set a (ad a, .inr (ci, ((List.range N).map (fv ad (S, Rf, M) a ci)).set kf (.int x))) = wld cI cC ad (S, Rf, upd2 M a kf x) :=
    wld_set rfl (fun b hb => cel_ne rfl (upd2_n hb)) (by rw [cel_o (h := (S, Rf, upd2 M a kf x)) hs hw.2.1, fv_putI hf])
  have hlen : kf < ((List.range N).map (fv ad (S, Rf, M) a ci)).length := by simpa using hk
  have go : ∀ (H1 : Heap) (locs1 : List Loc), va_P D vwCl ((wld cI cC ad (S, Rf, M)).set a (ad a, .inr (ci, ((List.range N).map (fv ad (S, Rf, M) a ci)).set kf (.int x)))) H1 → va_D A ((wld cI cC ad (S, Rf, M)).set a (ad a, .inr (ci, ((List.range N).map (fv ad (S, Rf, M) a ci)).set kf (.int x)))) → va_S A s.heap H1 locs1 → W p l e (mxR X) s m args below meth c H1 locs1 k n (MQ below (Qw X D cI cC A ad0 n0 Q) args s X.2.2.2.2.2.1 X.2.2.2.2.2.2 A) (F0 m (pc + 3) ls (st.map (cv ad))) := by
    intro H1 locs1 hP1 hD1 hS1
    rw [hset] at hP1 hD1
    exact kk l p e s m args below meth c D cI cC A ad0 n0 ad H1 locs1 ls C ⟨g1, g2, g3, hP1, hD1, hS1⟩ L
  rcases hfin with hfin | ⟨hfin, h1, h2, h3⟩
  · rcases hw.2.2 with hl | ⟨host, hl⟩
    · exact va_put hx hb hts hin (tyA ci) hty hnm hown hK hP hD hS a he hc kf hw.1 (hts _ hl) (fun _ q => q) hfin (hty kf hw.1) hn hfit hlen hd go
    · exact va_putN hx hb hts hin (tyA ci) hty hnm hown hK hP hD hS a he hc kf hw.1 (va_Nw.use rfl (hNW.1 _ _ _ _ _ _ hl)) (fun _ q => q) hfin (hty kf hw.1) hn hfit hlen hd go
  · exact va_putF hx hb hts hin (tyA ci) hty hnm hown hK hP hD hS a he hc kf hw.1 (hts _ h3) (fun _ q => q) hfin (hnm0.trans h1) h2 (hty kf hw.1) hn hfit hlen hd go
theorem r_putR {a ci N kf idx b : Nat} (hd : decode X.2.1 pc = .ok (.putfield idx, 3)) (hw : FW X.1.cls idx ci kf) (hs : S[a]? = some (ci, N)) (hk : kf < N) (hf : fref ci kf = true) (hfin : ((clC ci).2.1 kf).2.2.2 = true ∧ X.1.name = "<init>" ∧ ((clC ci).2.1 kf).1 = X.1.cls) (hl : Cond.fieldLink X.1.cls idx ((clC ci).2.1 kf).1 ((clC ci).2.1 kf).2.1 ((clC ci).2.1 kf).2.2.1 ∈ gG) (hn : ∀ q, narrow (tyA ci kf) (.ref q) = .ref q) (hfit : ∀ q, fits (tyA ci kf) (.ref q) = true) (kk : WP X (pc + 3) lv st k n (S, updR Rf a kf (some b), M) Q) : WP X pc lv (.ref b :: .ref a :: st) k n (S, Rf, M) Q := by
  intro l p e s m args below meth c D cI cC A ad0 n0 ad H locs ls C G L
  obtain ⟨hx, hb, hr, hml, hown, hts, hlocks, hnm0, hNW, hK, hA⟩ := id C
  obtain ⟨g1, g2, g3, hP, hD, hS⟩ := id G
  obtain ⟨hc, hin, hty, hnm⟩ := cfs ci hw.2.1
  have he := wld_at (cI := cI) (cC := cC) (ad := ad) (h := (S, Rf, M)) (lt_of_get hs)
  rw [cel_o hs hw.2.1] at he
  have hset : (wld cI cC ad (S, Rf, M)).set a (ad a, .inr (ci, ((List.range N).map (fv ad (S, Rf, M) a ci)).set kf (.ref (ad b)))) = wld cI cC ad (S, updR Rf a kf (some b), M) :=
    wld_set rfl (fun b hb => cel_ne (updR_n hb) rfl) (by rw [cel_o (h := (S, updR Rf a kf (some b), M)) hs hw.2.1, fv_putR hf])
  have hlen : kf < ((List.range N).map (fv ad (S, Rf, M) a ci)).length := by simpa using hk
  exact va_putF (v := .ref (ad b)) hx hb hts hin (tyA ci) hty hnm hown hK hP hD hS a he hc kf hw.1 (hts _ hl) (fun _ q => q) hfin.1 (hnm0.trans hfin.2.1) hfin.2.2 (hty kf hw.1) (hn _) (hfit _) hlen hd (fun H1 locs1 hP1 hD1 hS1 => by
    rw [hset] at hP1 hD1
    exact kk l p e s m args below meth c D cI cC A ad0 n0 ad H1 locs1 ls C ⟨g1, g2, g3, hP1, hD1, hS1⟩ L)
theorem r_iaload {a N : Nat} {i : Int32} (hd : decode X.2.1 pc = .ok (.iaload, 1)) (hs : S[a]? = some (7, N)) (hin : vp_in i N) (kk : WP X (pc + 1) lv (.int (M a i.toNatClampNeg) :: st) k n (S, Rf, M) Q) : WP X pc lv (.int i :: .ref a :: st) k n (S, Rf, M) Q := by
  intro l p e s m args below meth c D cI cC A ad0 n0 ad H locs ls C G L
  obtain ⟨hx, hb, hr, hml, hown, hts, hlocks, hnm0, hNW, hK, hA⟩ := id C
  obtain ⟨g1, g2, g3, hP, hD, hS⟩ := id G
  have he := wld_at (cI := cI) (cC := cC) (ad := ad) (h := (S, Rf, M)) (lt_of_get hs)
  rw [cel_7 hs] at he
  exact va_iald hx hb hK hP a 0 he rfl hin hd (kk l p e s m args below meth c D cI cC A ad0 n0 ad H locs ls C G L)
theorem r_iastore {a N : Nat} {i x : Int32} (hd : decode X.2.1 pc = .ok (.iastore, 1)) (hs : S[a]? = some (7, N)) (hin : vp_in i N) (kk : WP X (pc + 1) lv st k n (S, Rf, upd2 M a i.toNatClampNeg x) Q) : WP X pc lv (.int x :: .int i :: .ref a :: st) k n (S, Rf, M) Q := by
  intro l p e s m args below meth c D cI cC A ad0 n0 ad H locs ls C G L
  obtain ⟨hx, hb, hr, hml, hown, hts, hlocks, hnm0, hNW, hK, hA⟩ := id C
  obtain ⟨g1, g2, g3, hP, hD, hS⟩ := id G
  have he := wld_at (cI := cI) (cC := cC) (ad := ad) (h := (S, Rf, M)) (lt_of_get hs)
  rw [cel_7 hs] at he
  have hset : (wld cI cC ad (S, Rf, M)).set a (ad a, .inl (cI, N, .inl (upd (M a) i.toNatClampNeg x))) = wld cI cC ad (S, Rf, upd2 M a i.toNatClampNeg x) :=
    wld_set rfl (fun b hb => cel_ne rfl (upd2_n hb)) (by rw [cel_7 (h := (S, Rf, upd2 M a i.toNatClampNeg x)) hs]; dsimp only; rw [upd2_s])
  exact va_iast hx hb hK hP hD hS a 0 he rfl hin hd (fun H1 locs1 hP1 hD1 hS1 => by
    rw [hset] at hP1 hD1
    exact kk l p e s m args below meth c D cI cC A ad0 n0 ad H1 locs1 ls C ⟨g1, g2, g3, hP1, hD1, hS1⟩ L)
theorem r_aaload {a N b : Nat} {i : Int32} (hd : decode X.2.1 pc = .ok (.aaload, 1)) (hs : S[a]? = some (8, N)) (hin : vp_in i N) (hb0 : Rf a i.toNatClampNeg = some b) (kk : WP X (pc + 1) lv (.ref b :: st) k n (S, Rf, M) Q) : WP X pc lv (.int i :: .ref a :: st) k n (S, Rf, M) Q := by
  intro l p e s m args below meth c D cI cC A ad0 n0 ad H locs ls C G L
  obtain ⟨hx, hb, hr, hml, hown, hts, hlocks, hnm0, hNW, hK, hA⟩ := id C
  obtain ⟨g1, g2, g3, hP, hD, hS⟩ := id G
  have he := wld_at (cI := cI) (cC := cC) (ad := ad) (h := (S, Rf, M)) (lt_of_get hs)
  rw [cel_8 hs] at he
  refine va_aldq hx hb hK hP a 1 he rfl hin hd ?_
  dsimp only
  rw [hb0]
  exact kk l p e s m args below meth c D cI cC A ad0 n0 ad H locs ls C G L
theorem r_alen {a ty N : Nat} (hd : decode X.2.1 pc = .ok (.arraylength, 1)) (hs : S[a]? = some (ty, N)) (ht : ty = 7 ∨ ty = 8) (kk : WP X (pc + 1) lv (.int (nI N) :: st) k n (S, Rf, M) Q) : WP X pc lv (.ref a :: st) k n (S, Rf, M) Q := by
  intro l p e s m args below meth c D cI cC A ad0 n0 ad H locs ls C G L
  obtain ⟨hx, hb, hr, hml, hown, hts, hlocks, hnm0, hNW, hK, hA⟩ := id C
  obtain ⟨g1, g2, g3, hP, hD, hS⟩ := id G
  have he := wld_at (cI := cI) (cC := cC) (ad := ad) (h := (S, Rf, M)) (lt_of_get hs)
  rcases ht with rfl | rfl
  · rw [cel_7 hs] at he
    exact va_alen hx hb hK hP a 0 he rfl rfl hd (kk l p e s m args below meth c D cI cC A ad0 n0 ad H locs ls C G L)
  · rw [cel_8 hs] at he
    exact va_alen hx hb hK hP a 1 he rfl rfl hd (kk l p e s m args below meth c D cI cC A ad0 n0 ad H locs ls C G L)
theorem r_ireturn {x : Int32} {h : Hp} (hd : decode X.2.1 pc = .ok (.ireturn, 1)) (hret : X.2.2.2.1 = some .int) (hk : k ≤ X.2.2.2.2.2.1) (hn : n ≤ X.2.2.2.2.2.2) (hq : Q (some (.int x)) h) : WP X pc lv [.int x] k n h Q := by
  intro l p e s m args below meth c D cI cC A ad0 n0 ad H locs ls C G L
  obtain ⟨hx, hb, hr, hml, hown, hts, hlocks, hnm0, hNW, hK, hA⟩ := id C
  obtain ⟨g1, g2, g3, hP, hD, hS⟩ := id G
  refine W.widen hk hn ?_
  exact W.iret (v := x) hx hb (hr.trans hret) (fun t ht hW => ⟨⟨some (.int x), h, ad, rfl, hq, g1, g2, g3, by rw [ht]; exact hP, hD⟩, hS.F ht⟩) hS.2.2 hd hlocks
theorem r_zreturn {x : Int32} {h : Hp} (hd : decode X.2.1 pc = .ok (.ireturn, 1)) (hret : X.2.2.2.1 = some .boolean) (hz : narrow .boolean (.int x) = .int x) (hk : k ≤ X.2.2.2.2.2.1) (hn : n ≤ X.2.2.2.2.2.2) (hq : Q (some (.int x)) h) : WP X pc lv [.int x] k n h Q := by
  intro l p e s m args below meth c D cI cC A ad0 n0 ad H locs ls C G L
  obtain ⟨hx, hb, hr, hml, hown, hts, hlocks, hnm0, hNW, hK, hA⟩ := id C
  obtain ⟨g1, g2, g3, hP, hD, hS⟩ := id G
  refine W.widen hk hn ?_
  exact W.zret (v := x) hx hb (hr.trans hret) hz (fun t ht hW => ⟨⟨some (.int x), h, ad, rfl, hq, g1, g2, g3, by rw [ht]; exact hP, hD⟩, hS.F ht⟩) hS.2.2 hd hlocks
theorem r_return {h : Hp} (hd : decode X.2.1 pc = .ok (.return_, 1)) (hret : X.2.2.2.1 = none) (hk : k ≤ X.2.2.2.2.2.1) (hn : n ≤ X.2.2.2.2.2.2) (hq : Q none h) : WP X pc lv [] k n h Q := by
  intro l p e s m args below meth c D cI cC A ad0 n0 ad H locs ls C G L
  obtain ⟨hx, hb, hr, hml, hown, hts, hlocks, hnm0, hNW, hK, hA⟩ := id C
  obtain ⟨g1, g2, g3, hP, hD, hS⟩ := id G
  refine W.widen hk hn ?_
  exact W.vret hx hb (hr.trans hret) (fun t ht hW => ⟨⟨none, h, ad, rfl, hq, g1, g2, g3, by rw [ht]; exact hP, hD⟩, hS.F ht⟩) hS.2.2 hd hlocks
theorem r_areturn {v : Value} {h : Hp} {rt : FieldType} (hd : decode X.2.1 pc = .ok (.areturn, 1)) (hret : X.2.2.2.1 = some rt) (hrt : (∃ n, rt = .object n) ∨ ∃ t, rt = .array t) (hv : v = .null ∨ ∃ a, v = .ref a) (hk : k ≤ X.2.2.2.2.2.1) (hn : n ≤ X.2.2.2.2.2.2) (hq : Q (some v) h) : WP X pc lv [v] k n h Q := by
  intro l p e s m args below meth c D cI cC A ad0 n0 ad H locs ls C G L
  obtain ⟨hx, hb, hr, hml, hown, hts, hlocks, hnm0, hNW, hK, hA⟩ := id C
  obtain ⟨g1, g2, g3, hP, hD, hS⟩ := id G
  refine W.widen hk hn ?_
  refine W.aret (v := cv ad v) hx hb (hr.trans hret) hrt ?_ (fun t ht hW => ⟨⟨some v, h, ad, rfl, hq, g1, g2, g3, by rw [ht]; exact hP, hD⟩, hS.F ht⟩) hS.2.2 hd hlocks
  rcases hv with rfl | ⟨a, rfl⟩
  · exact Or.inl rfl
  · exact Or.inr ⟨ad a, rfl⟩
end HEAP
