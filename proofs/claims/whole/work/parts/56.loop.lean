theorem Inv.up {c : Nat} {M : Mem} (h : Inv c M) : Inv (c + 1) M := by
  obtain ⟨dn, dp, P, s, w, is, rm, rr, h1, h2, h3⟩ := h
  exact ⟨dn, dp, P, s, w, is, rm, rr, h1, h2, h3.up⟩
theorem len9 : ∀ L, L < 9 → nI L - 9 < 0 := by decide +kernel
/-- no end: nine ints more -/
theorem head9 {L i : Nat} (hL : L ≤ 4608) (hi : i ≤ 9000) (h : ¬ (nI L - 9 < nI i)) : i + 8 < L := by
  by_cases h9 : L < 9
  · have h1 := len9 L h9
    rw [i_lt, i_0] at h1
    rw [i_lt, nI_toInt (n := i) (by omega)] at h
    omega
  · obtain ⟨q, rfl⟩ : ∃ q, L = q + 9 := ⟨L - 9, by omega⟩
    have e1 : nI (q + 9) - 9 = nI q := by
      rw [show nI (q + 9) = nI q + 9 from (nI_add q 9).symm]
      exact Int32.add_sub_cancel _ _
    rw [e1] at h
    rcases Nat.lt_or_ge q i with z | z
    · exact absurd (nI_lt z (by omega)) h
    · omega
set_option maxHeartbeats 4000000 in
set_option maxRecDepth 100000 in
theorem law_loop {p : Program} {l : Launch} {e : Env} {s : State} {m : MethodId} {below : List Frame} {meth : Method} {c : Code} {b L : Nat} {xs : Nat → Int32} {D : va_G} {cI cC : ClassId} {ad : Nat → Nat} (hL : L ≤ 4608) (G : LG p s m meth c b L xs D cI cC) : ∀ (d cnt : Nat) (M : Mem) (H : Heap) (locs : List Loc) (ls : Array Slot), L < 9 * cnt + 9 * d → 9 * cnt ≤ 9000 → Inv cnt M → Hl s D cI cC ad (shp, rfs, M) H locs → lv_has ls 4 [(0, .ref b), (1, .ref (ad 0)), (2, .ref (ad 40)), (3, .int (nI (9 * cnt)))] → W p l e room_1 s m #[Value.ref b] below meth c H locs 62 3562 (lw_Z below #[Value.ref b] s) (F0 m 18 ls []) := by
  obtain ⟨hx, hb, hr, hml, hown, hts0, hX, hbl, hlocks, hgv⟩ := G.1
  have hbA : ¬ AH s b := Nat.not_le.mpr hbl
  have hend : ∀ (H : Heap) (locs : List Loc) (ls : Array Slot), va_S (AH s) s.heap H locs → W p l e room_1 s m #[Value.ref b] below meth c H locs 62 3562 (lw_Z below #[Value.ref b] s) (F0 m 788 ls []) := fun H locs ls hS => by
    refine lv_iconst (v := 1) hx hb dL_law_788 (by decide) ?_
    refine va_forget (fun q hq => hS.2.2 q hq) ?_
    refine W.widen (k := 600000) (n := 7302250) (by decide) (by decide) ?_
    exact lw_ret hx hb hr hlocks dL_law_789
  intro d
  induction d with
  | zero =>
    intro cnt M H locs ls h1 h2 hI hH hl
    refine lv_iload_n hx hb dL_law_18 rfl (lv_at hl 3 rfl) ?_
    refine lv_aload_n hx hb dL_law_19 rfl (lv_at hl 0 rfl) ?_
    refine va_slen hx hb hX hbl hbA hH.2.2 dL_law_20 ?_
    refine lv_bipush (v := 9) hx hb dL_law_21 (by decide) ?_
    refine lv_isub hx hb dL_law_23 ?_
    refine lv_icmp_gt (tgt := 788) hx hb dL_law_24 (by decide) (fun _ => hend H locs ls hH.2.2) (fun q => ?_)
    have := head9 hL h2 q
    omega
  | succ d ih =>
    intro cnt M H locs ls h1 h2 hI hH hl
    refine lv_iload_n hx hb dL_law_18 rfl (lv_at hl 3 rfl) ?_
    refine lv_aload_n hx hb dL_law_19 rfl (lv_at hl 0 rfl) ?_
    refine va_slen hx hb hX hbl hbA hH.2.2 dL_law_20 ?_
    refine lv_bipush (v := 9) hx hb dL_law_21 (by decide) ?_
    refine lv_isub hx hb dL_law_23 ?_
    refine lv_icmp_gt (tgt := 788) hx hb dL_law_24 (by decide) (fun _ => hend H locs ls hH.2.2) (fun q => ?_)
    have hi : 9 * cnt + 8 < L := head9 hL h2 q
    have hc : cnt < 600 := by omega
    have hn : ∀ M' H' locs', Inv (cnt + 1) M' → Hl s D cI cC ad (shp, rfs, M') H' locs' → W p l e room_1 s m #[Value.ref b] below meth c H' locs' 62 3562 (lw_Z below #[Value.ref b] s) (F0 m 782 ls []) := by
      intro M' H' locs' hI' hH'
      refine lv_iinc (v := nI (9 * (cnt + 1))) (lv' := [(3, .int (nI (9 * (cnt + 1)))), (0, .ref b), (1, .ref (ad 0)), (2, .ref (ad 40))]) hx hb dL_law_782 hl (k := 3) rfl ?_ (by decide) rfl (fun ls hl => ?_)
      · exact nI_add (9 * cnt) 9
      · refine lv_goto (tgt := 18) hx hb dL_law_785 (by decide) ?_
        exact ih (cnt + 1) M' H' locs' ls (by omega) (by omega) hI' hH' (lv_sub hl [1, 2, 3, 0] rfl)
    refine lv_aload_n hx hb dL_law_27 rfl (lv_at hl 0 rfl) ?_
    refine lv_iload_n hx hb dL_law_28 rfl (lv_at hl 3 rfl) ?_
    refine va_sld hx hb hX hbl hbA hH.2.2 (vp_in_nI (by omega) (by omega)) dL_law_29 ?_
    refine lv_bipush (v := 31) hx hb dL_law_30 (by decide) ?_
    refine lv_iand hx hb dL_law_32 ?_
    generalize xs (nI (9 * cnt)).toNatClampNeg &&& 31 = x
    by_cases ho : x.toInt < 0 ∨ 21 < x.toInt
    · exact lv_tableOut (tgt := 782) hx hb dL_law_33 ho (by decide) (hn M H locs hI.up hH)
    · obtain ⟨j, hj, rfl⟩ := nI_of (x := x) (by rw [i_lt, i_0]; omega)
      rw [nI_toInt hj] at ho
      have hj2 : j < 22 := by omega
      match j, hj2 with
      | 0, _ => exact lv_tableIn (tgt := 136) (off := 103) hx hb dL_law_33 (by decide) (by decide) rfl (by decide) (lk_encode G hL hl hi hc hI hH hn)
      | 1, _ => exact lv_tableIn (tgt := 185) (off := 152) hx hb dL_law_33 (by decide) (by decide) rfl (by decide) (lk_decode G hL hl hi hc hI hH hn)
      | 2, _ => exact lv_tableIn (tgt := 234) (off := 201) hx hb dL_law_33 (by decide) (by decide) rfl (by decide) (lk_draft G hL hl hi hc hI hH hn)
      | 3, _ => exact lv_tableIn (tgt := 257) (off := 224) hx hb dL_law_33 (by decide) (by decide) rfl (by decide) (lk_check G hL hl hi hc hI hH hn)
      | 4, _ => exact lv_tableIn (tgt := 270) (off := 237) hx hb dL_law_33 (by decide) (by decide) rfl (by decide) (lk_test G hL hl hi hc hI hH hn)
      | 5, _ => exact lv_tableIn (tgt := 283) (off := 250) hx hb dL_law_33 (by decide) (by decide) rfl (by decide) (lk_wire G hL hl hi hc hI hH hn)
      | 6, _ => exact lv_tableIn (tgt := 306) (off := 273) hx hb dL_law_33 (by decide) (by decide) rfl (by decide) (lk_finding G hL hl hi hc hI hH hn)
      | 7, _ => exact lv_tableIn (tgt := 329) (off := 296) hx hb dL_law_33 (by decide) (by decide) rfl (by decide) (lk_plan G hL hl hi hc hI hH hn)
      | 8, _ => exact lv_tableIn (tgt := 362) (off := 329) hx hb dL_law_33 (by decide) (by decide) rfl (by decide) (lk_calm G hL hl hi hc hI hH hn)
      | 9, _ => exact lv_tableIn (tgt := 375) (off := 342) hx hb dL_law_33 (by decide) (by decide) rfl (by decide) (lk_read G hL hl hi hc hI hH hn)
      | 10, _ => exact lv_tableIn (tgt := 418) (off := 385) hx hb dL_law_33 (by decide) (by decide) rfl (by decide) (lk_write G hL hl hi hc hI hH hn)
      | 11, _ => exact lv_tableIn (tgt := 533) (off := 500) hx hb dL_law_33 (by decide) (by decide) rfl (by decide) (lk_flush G hL hl hi hc hI hH hn)
      | 12, _ => exact lv_tableIn (tgt := 556) (off := 523) hx hb dL_law_33 (by decide) (by decide) rfl (by decide) (lk_step G hL hl hi hc hI hH hn)
      | 13, _ => exact lv_tableIn (tgt := 569) (off := 536) hx hb dL_law_33 (by decide) (by decide) rfl (by decide) (lk_drain G hL hl hi hc hI hH hn)
      | 14, _ => exact lv_tableIn (tgt := 582) (off := 549) hx hb dL_law_33 (by decide) (by decide) rfl (by decide) (lk_result G hL hl hi hc hI hH hn)
      | 15, _ => exact lv_tableIn (tgt := 605) (off := 572) hx hb dL_law_33 (by decide) (by decide) rfl (by decide) (lk_got G hL hl hi hc hI hH hn)
      | 16, _ => exact lv_tableIn (tgt := 628) (off := 595) hx hb dL_law_33 (by decide) (by decide) rfl (by decide) (lk_way G hL hl hi hc hI hH hn)
      | 17, _ => exact lv_tableIn (tgt := 651) (off := 618) hx hb dL_law_33 (by decide) (by decide) rfl (by decide) (lk_cut G hL hl hi hc hI hH hn)
      | 18, _ => exact lv_tableIn (tgt := 664) (off := 631) hx hb dL_law_33 (by decide) (by decide) rfl (by decide) (lk_sector G hL hl hi hc hI hH hn)
      | 19, _ => exact lv_tableIn (tgt := 713) (off := 680) hx hb dL_law_33 (by decide) (by decide) rfl (by decide) (lk_cached G hL hl hi hc hI hH hn)
      | 20, _ => exact lv_tableIn (tgt := 736) (off := 703) hx hb dL_law_33 (by decide) (by decide) rfl (by decide) (lk_state G hL hl hi hc hI hH hn)
      | 21, _ => exact lv_tableIn (tgt := 759) (off := 726) hx hb dL_law_33 (by decide) (by decide) rfl (by decide) (lk_count G hL hl hi hc hI hH hn)
      | n + 22, z => exact absurd z (by omega)
