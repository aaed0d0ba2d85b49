set_option maxHeartbeats 600000 in
set_option maxRecDepth 100000 in
theorem lk_encode {p : Program} {l : Launch} {e : Env} {s : State} {m : MethodId} {below : List Frame} {meth : Method} {c : Code} {b L : Nat} {xs : Nat → Int32} {D : va_G} {cI cC : ClassId} {ad : Nat → Nat} {H : Heap} {locs : List Loc} {ls : Array Slot} {i cnt : Nat} {M : Mem} (G : LG p s m meth c b L xs D cI cC) (hL : L ≤ 4608) (hl : lv_has ls 4 [(0, .ref b), (1, .ref (ad 0)), (2, .ref (ad 40)), (3, .int (nI i))]) (hi : i + 8 < L) (hc : cnt < 600) (hI : Inv cnt M) (hH : Hl s D cI cC ad (shp, rfs, M) H locs) (hn : ∀ M' H' locs', Inv (cnt + 1) M' → Hl s D cI cC ad (shp, rfs, M') H' locs' → W p l e room_1 s m #[Value.ref b] below meth c H' locs' 62 3562 (lw_Z below #[Value.ref b] s) (F0 m 782 ls [])) : W p l e room_1 s m #[Value.ref b] below meth c H locs 62 3562 (lw_Z below #[Value.ref b] s) (F0 m 136 ls []) := by
  obtain ⟨r, M1, M2, g1, g2, hI⟩ := Both.go (show Both mX5_encode mX6_encode [.int (xs (i + 1)), .int (eI (nzB (xs (i + 2))))] from B_encode) hc hI
  obtain ⟨hx, hb, hr, hml, hown, hts0, hX, hbl, hlocks, hgv⟩ := G.1
  refine lv_aload_n hx hb dL_law_136 rfl (lv_at hl 1 rfl) ?_
  refine lw_rd1 (jn := 1) G hL hl hH.2.2 (by omega) (by decide) dL_law_137 dL_law_138 dL_law_139 dL_law_140 dL_law_141 ?_
  refine lw_rd1 (jn := 2) G hL hl hH.2.2 (by omega) (by decide) dL_law_142 dL_law_143 dL_law_144 dL_law_145 dL_law_146 ?_
  refine lw_bool 155 G dL_law_147 dL_law_150 dL_law_151 dL_law_154 rfl ?_
  refine lw_c2 (Y := mX5_encode) (a := 0) (ci := 5) (N := 10) G dL_law_155 mlL_13 vkX5_encode rfl ⟨by decide, rfl⟩ rfl ⟨rfl, rfl⟩ hl.1 g1 hH (fun H locs hH => ?_)
  refine lv_aload_n hx hb dL_law_158 rfl (lv_at hl 2 rfl) ?_
  refine lw_rd1 (jn := 1) G hL hl hH.2.2 (by omega) (by decide) dL_law_159 dL_law_160 dL_law_161 dL_law_162 dL_law_163 ?_
  refine lw_rd1 (jn := 2) G hL hl hH.2.2 (by omega) (by decide) dL_law_164 dL_law_165 dL_law_166 dL_law_167 dL_law_168 ?_
  refine lw_bool 177 G dL_law_169 dL_law_172 dL_law_173 dL_law_176 rfl ?_
  refine lw_c2 (Y := mX6_encode) (a := 40) (ci := 6) (N := 35) G dL_law_177 mlL_17 vkX6_encode rfl ⟨by decide, rfl⟩ rfl ⟨rfl, rfl⟩ hl.1 g2 hH (fun H locs hH => ?_)
  refine lv_icmp_eq (tgt := 782) hx hb dL_law_180 (by decide) (fun _ => hn M2 H locs hI hH) (fun q => absurd rfl q)
set_option maxHeartbeats 600000 in
set_option maxRecDepth 100000 in
theorem lk_decode {p : Program} {l : Launch} {e : Env} {s : State} {m : MethodId} {below : List Frame} {meth : Method} {c : Code} {b L : Nat} {xs : Nat → Int32} {D : va_G} {cI cC : ClassId} {ad : Nat → Nat} {H : Heap} {locs : List Loc} {ls : Array Slot} {i cnt : Nat} {M : Mem} (G : LG p s m meth c b L xs D cI cC) (hL : L ≤ 4608) (hl : lv_has ls 4 [(0, .ref b), (1, .ref (ad 0)), (2, .ref (ad 40)), (3, .int (nI i))]) (hi : i + 8 < L) (hc : cnt < 600) (hI : Inv cnt M) (hH : Hl s D cI cC ad (shp, rfs, M) H locs) (hn : ∀ M' H' locs', Inv (cnt + 1) M' → Hl s D cI cC ad (shp, rfs, M') H' locs' → W p l e room_1 s m #[Value.ref b] below meth c H' locs' 62 3562 (lw_Z below #[Value.ref b] s) (F0 m 782 ls [])) : W p l e room_1 s m #[Value.ref b] below meth c H locs 62 3562 (lw_Z below #[Value.ref b] s) (F0 m 185 ls []) := by
  obtain ⟨r, M1, M2, g1, g2, hI⟩ := Both.go (show Both mX5_decode mX6_decode [.int (xs (i + 1)), .int (eI (nzB (xs (i + 2))))] from B_decode) hc hI
  obtain ⟨hx, hb, hr, hml, hown, hts0, hX, hbl, hlocks, hgv⟩ := G.1
  refine lv_aload_n hx hb dL_law_185 rfl (lv_at hl 1 rfl) ?_
  refine lw_rd1 (jn := 1) G hL hl hH.2.2 (by omega) (by decide) dL_law_186 dL_law_187 dL_law_188 dL_law_189 dL_law_190 ?_
  refine lw_rd1 (jn := 2) G hL hl hH.2.2 (by omega) (by decide) dL_law_191 dL_law_192 dL_law_193 dL_law_194 dL_law_195 ?_
  refine lw_bool 204 G dL_law_196 dL_law_199 dL_law_200 dL_law_203 rfl ?_
  refine lw_c2 (Y := mX5_decode) (a := 0) (ci := 5) (N := 10) G dL_law_204 mlL_18 vkX5_decode rfl ⟨by decide, rfl⟩ rfl ⟨rfl, rfl⟩ hl.1 g1 hH (fun H locs hH => ?_)
  refine lv_aload_n hx hb dL_law_207 rfl (lv_at hl 2 rfl) ?_
  refine lw_rd1 (jn := 1) G hL hl hH.2.2 (by omega) (by decide) dL_law_208 dL_law_209 dL_law_210 dL_law_211 dL_law_212 ?_
  refine lw_rd1 (jn := 2) G hL hl hH.2.2 (by omega) (by decide) dL_law_213 dL_law_214 dL_law_215 dL_law_216 dL_law_217 ?_
  refine lw_bool 226 G dL_law_218 dL_law_221 dL_law_222 dL_law_225 rfl ?_
  refine lw_c2 (Y := mX6_decode) (a := 40) (ci := 6) (N := 35) G dL_law_226 mlL_21 vkX6_decode rfl ⟨by decide, rfl⟩ rfl ⟨rfl, rfl⟩ hl.1 g2 hH (fun H locs hH => ?_)
  refine lv_icmp_eq (tgt := 782) hx hb dL_law_229 (by decide) (fun _ => hn M2 H locs hI hH) (fun q => absurd rfl q)
set_option maxHeartbeats 600000 in
set_option maxRecDepth 100000 in
theorem lk_draft {p : Program} {l : Launch} {e : Env} {s : State} {m : MethodId} {below : List Frame} {meth : Method} {c : Code} {b L : Nat} {xs : Nat → Int32} {D : va_G} {cI cC : ClassId} {ad : Nat → Nat} {H : Heap} {locs : List Loc} {ls : Array Slot} {i cnt : Nat} {M : Mem} (G : LG p s m meth c b L xs D cI cC) (hL : L ≤ 4608) (hl : lv_has ls 4 [(0, .ref b), (1, .ref (ad 0)), (2, .ref (ad 40)), (3, .int (nI i))]) (hi : i + 8 < L) (hc : cnt < 600) (hI : Inv cnt M) (hH : Hl s D cI cC ad (shp, rfs, M) H locs) (hn : ∀ M' H' locs', Inv (cnt + 1) M' → Hl s D cI cC ad (shp, rfs, M') H' locs' → W p l e room_1 s m #[Value.ref b] below meth c H' locs' 62 3562 (lw_Z below #[Value.ref b] s) (F0 m 782 ls [])) : W p l e room_1 s m #[Value.ref b] below meth c H locs 62 3562 (lw_Z below #[Value.ref b] s) (F0 m 234 ls []) := by
  obtain ⟨r, M1, M2, g1, g2, hI⟩ := Both.go (show Both mX5_draft mX6_draft [.int (xs (i + 1))] from B_draft) hc hI
  obtain ⟨hx, hb, hr, hml, hown, hts0, hX, hbl, hlocks, hgv⟩ := G.1
  refine lv_aload_n hx hb dL_law_234 rfl (lv_at hl 1 rfl) ?_
  refine lw_rd1 (jn := 1) G hL hl hH.2.2 (by omega) (by decide) dL_law_235 dL_law_236 dL_law_237 dL_law_238 dL_law_239 ?_
  refine lw_c1 (Y := mX5_draft) (a := 0) (ci := 5) (N := 10) G dL_law_240 mlL_22 vkX5_draft rfl ⟨by decide, rfl⟩ rfl ⟨rfl, rfl⟩ hl.1 g1 hH (fun H locs hH => ?_)
  refine lv_aload_n hx hb dL_law_243 rfl (lv_at hl 2 rfl) ?_
  refine lw_rd1 (jn := 1) G hL hl hH.2.2 (by omega) (by decide) dL_law_244 dL_law_245 dL_law_246 dL_law_247 dL_law_248 ?_
  refine lw_c1 (Y := mX6_draft) (a := 40) (ci := 6) (N := 35) G dL_law_249 mlL_26 vkX6_draft rfl ⟨by decide, rfl⟩ rfl ⟨rfl, rfl⟩ hl.1 g2 hH (fun H locs hH => ?_)
  refine lv_icmp_eq (tgt := 782) hx hb dL_law_252 (by decide) (fun _ => hn M2 H locs hI hH) (fun q => absurd rfl q)
set_option maxHeartbeats 600000 in
set_option maxRecDepth 100000 in
theorem lk_check {p : Program} {l : Launch} {e : Env} {s : State} {m : MethodId} {below : List Frame} {meth : Method} {c : Code} {b L : Nat} {xs : Nat → Int32} {D : va_G} {cI cC : ClassId} {ad : Nat → Nat} {H : Heap} {locs : List Loc} {ls : Array Slot} {i cnt : Nat} {M : Mem} (G : LG p s m meth c b L xs D cI cC) (hL : L ≤ 4608) (hl : lv_has ls 4 [(0, .ref b), (1, .ref (ad 0)), (2, .ref (ad 40)), (3, .int (nI i))]) (hi : i + 8 < L) (hc : cnt < 600) (hI : Inv cnt M) (hH : Hl s D cI cC ad (shp, rfs, M) H locs) (hn : ∀ M' H' locs', Inv (cnt + 1) M' → Hl s D cI cC ad (shp, rfs, M') H' locs' → W p l e room_1 s m #[Value.ref b] below meth c H' locs' 62 3562 (lw_Z below #[Value.ref b] s) (F0 m 782 ls [])) : W p l e room_1 s m #[Value.ref b] below meth c H locs 62 3562 (lw_Z below #[Value.ref b] s) (F0 m 257 ls []) := by
  obtain ⟨r, M1, M2, g1, g2, hI⟩ := Both.go (show Both mX5_check mX6_check [] from B_check) hc hI
  obtain ⟨hx, hb, hr, hml, hown, hts0, hX, hbl, hlocks, hgv⟩ := G.1
  refine lv_aload_n hx hb dL_law_257 rfl (lv_at hl 1 rfl) ?_
  refine lw_c0 (Y := mX5_check) (a := 0) (ci := 5) (N := 10) G dL_law_258 mlL_27 vkX5_check rfl ⟨by decide, rfl⟩ rfl ⟨rfl, rfl⟩ hl.1 g1 hH (fun H locs hH => ?_)
  refine lv_aload_n hx hb dL_law_261 rfl (lv_at hl 2 rfl) ?_
  refine lw_c0 (Y := mX6_check) (a := 40) (ci := 6) (N := 35) G dL_law_262 mlL_31 vkX6_check rfl ⟨by decide, rfl⟩ rfl ⟨rfl, rfl⟩ hl.1 g2 hH (fun H locs hH => ?_)
  refine lv_icmp_eq (tgt := 782) hx hb dL_law_265 (by decide) (fun _ => hn M2 H locs hI hH) (fun q => absurd rfl q)
set_option maxHeartbeats 600000 in
set_option maxRecDepth 100000 in
theorem lk_test {p : Program} {l : Launch} {e : Env} {s : State} {m : MethodId} {below : List Frame} {meth : Method} {c : Code} {b L : Nat} {xs : Nat → Int32} {D : va_G} {cI cC : ClassId} {ad : Nat → Nat} {H : Heap} {locs : List Loc} {ls : Array Slot} {i cnt : Nat} {M : Mem} (G : LG p s m meth c b L xs D cI cC) (hL : L ≤ 4608) (hl : lv_has ls 4 [(0, .ref b), (1, .ref (ad 0)), (2, .ref (ad 40)), (3, .int (nI i))]) (hi : i + 8 < L) (hc : cnt < 600) (hI : Inv cnt M) (hH : Hl s D cI cC ad (shp, rfs, M) H locs) (hn : ∀ M' H' locs', Inv (cnt + 1) M' → Hl s D cI cC ad (shp, rfs, M') H' locs' → W p l e room_1 s m #[Value.ref b] below meth c H' locs' 62 3562 (lw_Z below #[Value.ref b] s) (F0 m 782 ls [])) : W p l e room_1 s m #[Value.ref b] below meth c H locs 62 3562 (lw_Z below #[Value.ref b] s) (F0 m 270 ls []) := by
  obtain ⟨r, M1, M2, g1, g2, hI⟩ := Both.go (show Both mX5_test mX6_test [] from B_test) hc hI
  obtain ⟨hx, hb, hr, hml, hown, hts0, hX, hbl, hlocks, hgv⟩ := G.1
  refine lv_aload_n hx hb dL_law_270 rfl (lv_at hl 1 rfl) ?_
  refine lw_c0 (Y := mX5_test) (a := 0) (ci := 5) (N := 10) G dL_law_271 mlL_32 vkX5_test rfl ⟨by decide, rfl⟩ rfl ⟨rfl, rfl⟩ hl.1 g1 hH (fun H locs hH => ?_)
  refine lv_aload_n hx hb dL_law_274 rfl (lv_at hl 2 rfl) ?_
  refine lw_c0 (Y := mX6_test) (a := 40) (ci := 6) (N := 35) G dL_law_275 mlL_35 vkX6_test rfl ⟨by decide, rfl⟩ rfl ⟨rfl, rfl⟩ hl.1 g2 hH (fun H locs hH => ?_)
  refine lv_icmp_eq (tgt := 782) hx hb dL_law_278 (by decide) (fun _ => hn M2 H locs hI hH) (fun q => absurd rfl q)
set_option maxHeartbeats 600000 in
set_option maxRecDepth 100000 in
theorem lk_wire {p : Program} {l : Launch} {e : Env} {s : State} {m : MethodId} {below : List Frame} {meth : Method} {c : Code} {b L : Nat} {xs : Nat → Int32} {D : va_G} {cI cC : ClassId} {ad : Nat → Nat} {H : Heap} {locs : List Loc} {ls : Array Slot} {i cnt : Nat} {M : Mem} (G : LG p s m meth c b L xs D cI cC) (hL : L ≤ 4608) (hl : lv_has ls 4 [(0, .ref b), (1, .ref (ad 0)), (2, .ref (ad 40)), (3, .int (nI i))]) (hi : i + 8 < L) (hc : cnt < 600) (hI : Inv cnt M) (hH : Hl s D cI cC ad (shp, rfs, M) H locs) (hn : ∀ M' H' locs', Inv (cnt + 1) M' → Hl s D cI cC ad (shp, rfs, M') H' locs' → W p l e room_1 s m #[Value.ref b] below meth c H' locs' 62 3562 (lw_Z below #[Value.ref b] s) (F0 m 782 ls [])) : W p l e room_1 s m #[Value.ref b] below meth c H locs 62 3562 (lw_Z below #[Value.ref b] s) (F0 m 283 ls []) := by
  obtain ⟨r, M1, M2, g1, g2, hI⟩ := Both.go (show Both mX5_wire mX6_wire [.int (xs (i + 1))] from B_wire) hc hI
  obtain ⟨hx, hb, hr, hml, hown, hts0, hX, hbl, hlocks, hgv⟩ := G.1
  refine lv_aload_n hx hb dL_law_283 rfl (lv_at hl 1 rfl) ?_
  refine lw_rd1 (jn := 1) G hL hl hH.2.2 (by omega) (by decide) dL_law_284 dL_law_285 dL_law_286 dL_law_287 dL_law_288 ?_
  refine lw_c1 (Y := mX5_wire) (a := 0) (ci := 5) (N := 10) G dL_law_289 mlL_36 vkX5_wire rfl ⟨by decide, rfl⟩ rfl ⟨rfl, rfl⟩ hl.1 g1 hH (fun H locs hH => ?_)
  refine lv_aload_n hx hb dL_law_292 rfl (lv_at hl 2 rfl) ?_
  refine lw_rd1 (jn := 1) G hL hl hH.2.2 (by omega) (by decide) dL_law_293 dL_law_294 dL_law_295 dL_law_296 dL_law_297 ?_
  refine lw_c1 (Y := mX6_wire) (a := 40) (ci := 6) (N := 35) G dL_law_298 mlL_39 vkX6_wire rfl ⟨by decide, rfl⟩ rfl ⟨rfl, rfl⟩ hl.1 g2 hH (fun H locs hH => ?_)
  refine lv_icmp_eq (tgt := 782) hx hb dL_law_301 (by decide) (fun _ => hn M2 H locs hI hH) (fun q => absurd rfl q)
set_option maxHeartbeats 600000 in
set_option maxRecDepth 100000 in
theorem lk_finding {p : Program} {l : Launch} {e : Env} {s : State} {m : MethodId} {below : List Frame} {meth : Method} {c : Code} {b L : Nat} {xs : Nat → Int32} {D : va_G} {cI cC : ClassId} {ad : Nat → Nat} {H : Heap} {locs : List Loc} {ls : Array Slot} {i cnt : Nat} {M : Mem} (G : LG p s m meth c b L xs D cI cC) (hL : L ≤ 4608) (hl : lv_has ls 4 [(0, .ref b), (1, .ref (ad 0)), (2, .ref (ad 40)), (3, .int (nI i))]) (hi : i + 8 < L) (hc : cnt < 600) (hI : Inv cnt M) (hH : Hl s D cI cC ad (shp, rfs, M) H locs) (hn : ∀ M' H' locs', Inv (cnt + 1) M' → Hl s D cI cC ad (shp, rfs, M') H' locs' → W p l e room_1 s m #[Value.ref b] below meth c H' locs' 62 3562 (lw_Z below #[Value.ref b] s) (F0 m 782 ls [])) : W p l e room_1 s m #[Value.ref b] below meth c H locs 62 3562 (lw_Z below #[Value.ref b] s) (F0 m 306 ls []) := by
  obtain ⟨r, M1, M2, g1, g2, hI⟩ := Both.go (show Both mX5_finding mX6_finding [.int (xs (i + 1))] from B_finding) hc hI
  obtain ⟨hx, hb, hr, hml, hown, hts0, hX, hbl, hlocks, hgv⟩ := G.1
  refine lv_aload_n hx hb dL_law_306 rfl (lv_at hl 1 rfl) ?_
  refine lw_rd1 (jn := 1) G hL hl hH.2.2 (by omega) (by decide) dL_law_307 dL_law_308 dL_law_309 dL_law_310 dL_law_311 ?_
  refine lw_c1 (Y := mX5_finding) (a := 0) (ci := 5) (N := 10) G dL_law_312 mlL_40 vkX5_finding rfl ⟨by decide, rfl⟩ rfl ⟨rfl, rfl⟩ hl.1 g1 hH (fun H locs hH => ?_)
  refine lv_aload_n hx hb dL_law_315 rfl (lv_at hl 2 rfl) ?_
  refine lw_rd1 (jn := 1) G hL hl hH.2.2 (by omega) (by decide) dL_law_316 dL_law_317 dL_law_318 dL_law_319 dL_law_320 ?_
  refine lw_c1 (Y := mX6_finding) (a := 40) (ci := 6) (N := 35) G dL_law_321 mlL_43 vkX6_finding rfl ⟨by decide, rfl⟩ rfl ⟨rfl, rfl⟩ hl.1 g2 hH (fun H locs hH => ?_)
  refine lv_icmp_eq (tgt := 782) hx hb dL_law_324 (by decide) (fun _ => hn M2 H locs hI hH) (fun q => absurd rfl q)
set_option maxHeartbeats 600000 in
set_option maxRecDepth 100000 in
theorem lk_plan {p : Program} {l : Launch} {e : Env} {s : State} {m : MethodId} {below : List Frame} {meth : Method} {c : Code} {b L : Nat} {xs : Nat → Int32} {D : va_G} {cI cC : ClassId} {ad : Nat → Nat} {H : Heap} {locs : List Loc} {ls : Array Slot} {i cnt : Nat} {M : Mem} (G : LG p s m meth c b L xs D cI cC) (hL : L ≤ 4608) (hl : lv_has ls 4 [(0, .ref b), (1, .ref (ad 0)), (2, .ref (ad 40)), (3, .int (nI i))]) (hi : i + 8 < L) (hc : cnt < 600) (hI : Inv cnt M) (hH : Hl s D cI cC ad (shp, rfs, M) H locs) (hn : ∀ M' H' locs', Inv (cnt + 1) M' → Hl s D cI cC ad (shp, rfs, M') H' locs' → W p l e room_1 s m #[Value.ref b] below meth c H' locs' 62 3562 (lw_Z below #[Value.ref b] s) (F0 m 782 ls [])) : W p l e room_1 s m #[Value.ref b] below meth c H locs 62 3562 (lw_Z below #[Value.ref b] s) (F0 m 329 ls []) := by
  obtain ⟨r, M1, M2, g1, g2, hI⟩ := Both.go (show Both mX5_plan mX6_plan [.int (xs (i + 1)), .int (xs (i + 2))] from B_plan) hc hI
  obtain ⟨hx, hb, hr, hml, hown, hts0, hX, hbl, hlocks, hgv⟩ := G.1
  refine lv_aload_n hx hb dL_law_329 rfl (lv_at hl 1 rfl) ?_
  refine lw_rd1 (jn := 1) G hL hl hH.2.2 (by omega) (by decide) dL_law_330 dL_law_331 dL_law_332 dL_law_333 dL_law_334 ?_
  refine lw_rd1 (jn := 2) G hL hl hH.2.2 (by omega) (by decide) dL_law_335 dL_law_336 dL_law_337 dL_law_338 dL_law_339 ?_
  refine lw_c2 (Y := mX5_plan) (a := 0) (ci := 5) (N := 10) G dL_law_340 mlL_44 vkX5_plan rfl ⟨by decide, rfl⟩ rfl ⟨rfl, rfl⟩ hl.1 g1 hH (fun H locs hH => ?_)
  refine lv_aload_n hx hb dL_law_343 rfl (lv_at hl 2 rfl) ?_
  refine lw_rd1 (jn := 1) G hL hl hH.2.2 (by omega) (by decide) dL_law_344 dL_law_345 dL_law_346 dL_law_347 dL_law_348 ?_
  refine lw_rd1 (jn := 2) G hL hl hH.2.2 (by omega) (by decide) dL_law_349 dL_law_350 dL_law_351 dL_law_352 dL_law_353 ?_
  refine lw_c2 (Y := mX6_plan) (a := 40) (ci := 6) (N := 35) G dL_law_354 mlL_48 vkX6_plan rfl ⟨by decide, rfl⟩ rfl ⟨rfl, rfl⟩ hl.1 g2 hH (fun H locs hH => ?_)
  refine lv_icmp_eq (tgt := 782) hx hb dL_law_357 (by decide) (fun _ => hn M2 H locs hI hH) (fun q => absurd rfl q)
set_option maxHeartbeats 600000 in
set_option maxRecDepth 100000 in
theorem lk_calm {p : Program} {l : Launch} {e : Env} {s : State} {m : MethodId} {below : List Frame} {meth : Method} {c : Code} {b L : Nat} {xs : Nat → Int32} {D : va_G} {cI cC : ClassId} {ad : Nat → Nat} {H : Heap} {locs : List Loc} {ls : Array Slot} {i cnt : Nat} {M : Mem} (G : LG p s m meth c b L xs D cI cC) (hL : L ≤ 4608) (hl : lv_has ls 4 [(0, .ref b), (1, .ref (ad 0)), (2, .ref (ad 40)), (3, .int (nI i))]) (hi : i + 8 < L) (hc : cnt < 600) (hI : Inv cnt M) (hH : Hl s D cI cC ad (shp, rfs, M) H locs) (hn : ∀ M' H' locs', Inv (cnt + 1) M' → Hl s D cI cC ad (shp, rfs, M') H' locs' → W p l e room_1 s m #[Value.ref b] below meth c H' locs' 62 3562 (lw_Z below #[Value.ref b] s) (F0 m 782 ls [])) : W p l e room_1 s m #[Value.ref b] below meth c H locs 62 3562 (lw_Z below #[Value.ref b] s) (F0 m 362 ls []) := by
  obtain ⟨r, M1, M2, g1, g2, hI⟩ := Both.go (show Both mX5_calm mX6_calm [] from B_calm) hc hI
  obtain ⟨hx, hb, hr, hml, hown, hts0, hX, hbl, hlocks, hgv⟩ := G.1
  refine lv_aload_n hx hb dL_law_362 rfl (lv_at hl 1 rfl) ?_
  refine lw_c0 (Y := mX5_calm) (a := 0) (ci := 5) (N := 10) G dL_law_363 mlL_49 vkX5_calm rfl ⟨by decide, rfl⟩ rfl ⟨rfl, rfl⟩ hl.1 g1 hH (fun H locs hH => ?_)
  refine lv_aload_n hx hb dL_law_366 rfl (lv_at hl 2 rfl) ?_
  refine lw_c0 (Y := mX6_calm) (a := 40) (ci := 6) (N := 35) G dL_law_367 mlL_52 vkX6_calm rfl ⟨by decide, rfl⟩ rfl ⟨rfl, rfl⟩ hl.1 g2 hH (fun H locs hH => ?_)
  refine lv_icmp_eq (tgt := 782) hx hb dL_law_370 (by decide) (fun _ => hn M2 H locs hI hH) (fun q => absurd rfl q)
set_option maxHeartbeats 600000 in
set_option maxRecDepth 100000 in
theorem lk_read {p : Program} {l : Launch} {e : Env} {s : State} {m : MethodId} {below : List Frame} {meth : Method} {c : Code} {b L : Nat} {xs : Nat → Int32} {D : va_G} {cI cC : ClassId} {ad : Nat → Nat} {H : Heap} {locs : List Loc} {ls : Array Slot} {i cnt : Nat} {M : Mem} (G : LG p s m meth c b L xs D cI cC) (hL : L ≤ 4608) (hl : lv_has ls 4 [(0, .ref b), (1, .ref (ad 0)), (2, .ref (ad 40)), (3, .int (nI i))]) (hi : i + 8 < L) (hc : cnt < 600) (hI : Inv cnt M) (hH : Hl s D cI cC ad (shp, rfs, M) H locs) (hn : ∀ M' H' locs', Inv (cnt + 1) M' → Hl s D cI cC ad (shp, rfs, M') H' locs' → W p l e room_1 s m #[Value.ref b] below meth c H' locs' 62 3562 (lw_Z below #[Value.ref b] s) (F0 m 782 ls [])) : W p l e room_1 s m #[Value.ref b] below meth c H locs 62 3562 (lw_Z below #[Value.ref b] s) (F0 m 375 ls []) := by
  obtain ⟨r, M1, M2, g1, g2, hI⟩ := Both.go (show Both mX5_read mX6_read [.int (xs (i + 1)), .int (xs (i + 2)), .int (xs (i + 3))] from B_read) hc hI
  obtain ⟨hx, hb, hr, hml, hown, hts0, hX, hbl, hlocks, hgv⟩ := G.1
  refine lv_aload_n hx hb dL_law_375 rfl (lv_at hl 1 rfl) ?_
  refine lw_rd1 (jn := 1) G hL hl hH.2.2 (by omega) (by decide) dL_law_376 dL_law_377 dL_law_378 dL_law_379 dL_law_380 ?_
  refine lw_rd1 (jn := 2) G hL hl hH.2.2 (by omega) (by decide) dL_law_381 dL_law_382 dL_law_383 dL_law_384 dL_law_385 ?_
  refine lw_rd1 (jn := 3) G hL hl hH.2.2 (by omega) (by decide) dL_law_386 dL_law_387 dL_law_388 dL_law_389 dL_law_390 ?_
  refine lw_c3 (Y := mX5_read) (a := 0) (ci := 5) (N := 10) G dL_law_391 mlL_53 vkX5_read rfl ⟨by decide, rfl⟩ rfl ⟨rfl, rfl⟩ hl.1 g1 hH (fun H locs hH => ?_)
  refine lv_aload_n hx hb dL_law_394 rfl (lv_at hl 2 rfl) ?_
  refine lw_rd1 (jn := 1) G hL hl hH.2.2 (by omega) (by decide) dL_law_395 dL_law_396 dL_law_397 dL_law_398 dL_law_399 ?_
  refine lw_rd1 (jn := 2) G hL hl hH.2.2 (by omega) (by decide) dL_law_400 dL_law_401 dL_law_402 dL_law_403 dL_law_404 ?_
  refine lw_rd1 (jn := 3) G hL hl hH.2.2 (by omega) (by decide) dL_law_405 dL_law_406 dL_law_407 dL_law_408 dL_law_409 ?_
  refine lw_c3 (Y := mX6_read) (a := 40) (ci := 6) (N := 35) G dL_law_410 mlL_57 vkX6_read rfl ⟨by decide, rfl⟩ rfl ⟨rfl, rfl⟩ hl.1 g2 hH (fun H locs hH => ?_)
  refine lv_icmp_eq (tgt := 782) hx hb dL_law_413 (by decide) (fun _ => hn M2 H locs hI hH) (fun q => absurd rfl q)
set_option maxHeartbeats 600000 in
set_option maxRecDepth 100000 in
theorem lk_write {p : Program} {l : Launch} {e : Env} {s : State} {m : MethodId} {below : List Frame} {meth : Method} {c : Code} {b L : Nat} {xs : Nat → Int32} {D : va_G} {cI cC : ClassId} {ad : Nat → Nat} {H : Heap} {locs : List Loc} {ls : Array Slot} {i cnt : Nat} {M : Mem} (G : LG p s m meth c b L xs D cI cC) (hL : L ≤ 4608) (hl : lv_has ls 4 [(0, .ref b), (1, .ref (ad 0)), (2, .ref (ad 40)), (3, .int (nI i))]) (hi : i + 8 < L) (hc : cnt < 600) (hI : Inv cnt M) (hH : Hl s D cI cC ad (shp, rfs, M) H locs) (hn : ∀ M' H' locs', Inv (cnt + 1) M' → Hl s D cI cC ad (shp, rfs, M') H' locs' → W p l e room_1 s m #[Value.ref b] below meth c H' locs' 62 3562 (lw_Z below #[Value.ref b] s) (F0 m 782 ls [])) : W p l e room_1 s m #[Value.ref b] below meth c H locs 62 3562 (lw_Z below #[Value.ref b] s) (F0 m 418 ls []) := by
  obtain ⟨r, M1, M2, g1, g2, hI⟩ := Both.go (show Both mX5_write mX6_write [.int (xs (i + 1)), .int (xs (i + 2)), .int (xs (i + 3)), .int (eI (nzB (xs (i + 4)))), .int (xs (i + 5)), .int (xs (i + 6)), .int (xs (i + 7)), .int (xs (i + 8))] from B_write) hc hI
  obtain ⟨hx, hb, hr, hml, hown, hts0, hX, hbl, hlocks, hgv⟩ := G.1
  refine lv_aload_n hx hb dL_law_418 rfl (lv_at hl 1 rfl) ?_
  refine lw_rd1 (jn := 1) G hL hl hH.2.2 (by omega) (by decide) dL_law_419 dL_law_420 dL_law_421 dL_law_422 dL_law_423 ?_
  refine lw_rd1 (jn := 2) G hL hl hH.2.2 (by omega) (by decide) dL_law_424 dL_law_425 dL_law_426 dL_law_427 dL_law_428 ?_
  refine lw_rd1 (jn := 3) G hL hl hH.2.2 (by omega) (by decide) dL_law_429 dL_law_430 dL_law_431 dL_law_432 dL_law_433 ?_
  refine lw_rd1 (jn := 4) G hL hl hH.2.2 (by omega) (by decide) dL_law_434 dL_law_435 dL_law_436 dL_law_437 dL_law_438 ?_
  refine lw_bool 447 G dL_law_439 dL_law_442 dL_law_443 dL_law_446 rfl ?_
  refine lw_rd1 (jn := 5) G hL hl hH.2.2 (by omega) (by decide) dL_law_447 dL_law_448 dL_law_449 dL_law_450 dL_law_451 ?_
  refine lw_rd2 (jn := 6) G hL hl hH.2.2 (by omega) (by decide) dL_law_452 dL_law_453 dL_law_454 dL_law_456 dL_law_457 ?_
  refine lw_rd2 (jn := 7) G hL hl hH.2.2 (by omega) (by decide) dL_law_458 dL_law_459 dL_law_460 dL_law_462 dL_law_463 ?_
  refine lw_rd2 (jn := 8) G hL hl hH.2.2 (by omega) (by decide) dL_law_464 dL_law_465 dL_law_466 dL_law_468 dL_law_469 ?_
  refine lw_c8 (Y := mX5_write) (a := 0) (ci := 5) (N := 10) G dL_law_470 mlL_58 vkX5_write rfl ⟨by decide, rfl⟩ rfl ⟨rfl, rfl⟩ hl.1 g1 hH (fun H locs hH => ?_)
  refine lv_aload_n hx hb dL_law_473 rfl (lv_at hl 2 rfl) ?_
  refine lw_rd1 (jn := 1) G hL hl hH.2.2 (by omega) (by decide) dL_law_474 dL_law_475 dL_law_476 dL_law_477 dL_law_478 ?_
  refine lw_rd1 (jn := 2) G hL hl hH.2.2 (by omega) (by decide) dL_law_479 dL_law_480 dL_law_481 dL_law_482 dL_law_483 ?_
  refine lw_rd1 (jn := 3) G hL hl hH.2.2 (by omega) (by decide) dL_law_484 dL_law_485 dL_law_486 dL_law_487 dL_law_488 ?_
  refine lw_rd1 (jn := 4) G hL hl hH.2.2 (by omega) (by decide) dL_law_489 dL_law_490 dL_law_491 dL_law_492 dL_law_493 ?_
  refine lw_bool 502 G dL_law_494 dL_law_497 dL_law_498 dL_law_501 rfl ?_
  refine lw_rd1 (jn := 5) G hL hl hH.2.2 (by omega) (by decide) dL_law_502 dL_law_503 dL_law_504 dL_law_505 dL_law_506 ?_
  refine lw_rd2 (jn := 6) G hL hl hH.2.2 (by omega) (by decide) dL_law_507 dL_law_508 dL_law_509 dL_law_511 dL_law_512 ?_
  refine lw_rd2 (jn := 7) G hL hl hH.2.2 (by omega) (by decide) dL_law_513 dL_law_514 dL_law_515 dL_law_517 dL_law_518 ?_
  refine lw_rd2 (jn := 8) G hL hl hH.2.2 (by omega) (by decide) dL_law_519 dL_law_520 dL_law_521 dL_law_523 dL_law_524 ?_
  refine lw_c8 (Y := mX6_write) (a := 40) (ci := 6) (N := 35) G dL_law_525 mlL_62 vkX6_write rfl ⟨by decide, rfl⟩ rfl ⟨rfl, rfl⟩ hl.1 g2 hH (fun H locs hH => ?_)
  refine lv_icmp_eq (tgt := 782) hx hb dL_law_528 (by decide) (fun _ => hn M2 H locs hI hH) (fun q => absurd rfl q)
set_option maxHeartbeats 600000 in
set_option maxRecDepth 100000 in
theorem lk_flush {p : Program} {l : Launch} {e : Env} {s : State} {m : MethodId} {below : List Frame} {meth : Method} {c : Code} {b L : Nat} {xs : Nat → Int32} {D : va_G} {cI cC : ClassId} {ad : Nat → Nat} {H : Heap} {locs : List Loc} {ls : Array Slot} {i cnt : Nat} {M : Mem} (G : LG p s m meth c b L xs D cI cC) (hL : L ≤ 4608) (hl : lv_has ls 4 [(0, .ref b), (1, .ref (ad 0)), (2, .ref (ad 40)), (3, .int (nI i))]) (hi : i + 8 < L) (hc : cnt < 600) (hI : Inv cnt M) (hH : Hl s D cI cC ad (shp, rfs, M) H locs) (hn : ∀ M' H' locs', Inv (cnt + 1) M' → Hl s D cI cC ad (shp, rfs, M') H' locs' → W p l e room_1 s m #[Value.ref b] below meth c H' locs' 62 3562 (lw_Z below #[Value.ref b] s) (F0 m 782 ls [])) : W p l e room_1 s m #[Value.ref b] below meth c H locs 62 3562 (lw_Z below #[Value.ref b] s) (F0 m 533 ls []) := by
  obtain ⟨r, M1, M2, g1, g2, hI⟩ := Both.go (show Both mX5_flush mX6_flush [.int (xs (i + 1))] from B_flush) hc hI
  obtain ⟨hx, hb, hr, hml, hown, hts0, hX, hbl, hlocks, hgv⟩ := G.1
  refine lv_aload_n hx hb dL_law_533 rfl (lv_at hl 1 rfl) ?_
  refine lw_rd1 (jn := 1) G hL hl hH.2.2 (by omega) (by decide) dL_law_534 dL_law_535 dL_law_536 dL_law_537 dL_law_538 ?_
  refine lw_c1 (Y := mX5_flush) (a := 0) (ci := 5) (N := 10) G dL_law_539 mlL_63 vkX5_flush rfl ⟨by decide, rfl⟩ rfl ⟨rfl, rfl⟩ hl.1 g1 hH (fun H locs hH => ?_)
  refine lv_aload_n hx hb dL_law_542 rfl (lv_at hl 2 rfl) ?_
  refine lw_rd1 (jn := 1) G hL hl hH.2.2 (by omega) (by decide) dL_law_543 dL_law_544 dL_law_545 dL_law_546 dL_law_547 ?_
  refine lw_c1 (Y := mX6_flush) (a := 40) (ci := 6) (N := 35) G dL_law_548 mlL_66 vkX6_flush rfl ⟨by decide, rfl⟩ rfl ⟨rfl, rfl⟩ hl.1 g2 hH (fun H locs hH => ?_)
  refine lv_icmp_eq (tgt := 782) hx hb dL_law_551 (by decide) (fun _ => hn M2 H locs hI hH) (fun q => absurd rfl q)
set_option maxHeartbeats 600000 in
set_option maxRecDepth 100000 in
theorem lk_step {p : Program} {l : Launch} {e : Env} {s : State} {m : MethodId} {below : List Frame} {meth : Method} {c : Code} {b L : Nat} {xs : Nat → Int32} {D : va_G} {cI cC : ClassId} {ad : Nat → Nat} {H : Heap} {locs : List Loc} {ls : Array Slot} {i cnt : Nat} {M : Mem} (G : LG p s m meth c b L xs D cI cC) (hL : L ≤ 4608) (hl : lv_has ls 4 [(0, .ref b), (1, .ref (ad 0)), (2, .ref (ad 40)), (3, .int (nI i))]) (hi : i + 8 < L) (hc : cnt < 600) (hI : Inv cnt M) (hH : Hl s D cI cC ad (shp, rfs, M) H locs) (hn : ∀ M' H' locs', Inv (cnt + 1) M' → Hl s D cI cC ad (shp, rfs, M') H' locs' → W p l e room_1 s m #[Value.ref b] below meth c H' locs' 62 3562 (lw_Z below #[Value.ref b] s) (F0 m 782 ls [])) : W p l e room_1 s m #[Value.ref b] below meth c H locs 62 3562 (lw_Z below #[Value.ref b] s) (F0 m 556 ls []) := by
  obtain ⟨r, M1, M2, g1, g2, hI⟩ := Both.go (show Both mX5_step mX6_step [] from B_step) hc hI
  obtain ⟨hx, hb, hr, hml, hown, hts0, hX, hbl, hlocks, hgv⟩ := G.1
  refine lv_aload_n hx hb dL_law_556 rfl (lv_at hl 1 rfl) ?_
  refine lw_c0 (Y := mX5_step) (a := 0) (ci := 5) (N := 10) G dL_law_557 mlL_67 vkX5_step rfl ⟨by decide, rfl⟩ rfl ⟨rfl, rfl⟩ hl.1 g1 hH (fun H locs hH => ?_)
  refine lv_aload_n hx hb dL_law_560 rfl (lv_at hl 2 rfl) ?_
  refine lw_c0 (Y := mX6_step) (a := 40) (ci := 6) (N := 35) G dL_law_561 mlL_70 vkX6_step rfl ⟨by decide, rfl⟩ rfl ⟨rfl, rfl⟩ hl.1 g2 hH (fun H locs hH => ?_)
  refine lv_icmp_eq (tgt := 782) hx hb dL_law_564 (by decide) (fun _ => hn M2 H locs hI hH) (fun q => absurd rfl q)
set_option maxHeartbeats 600000 in
set_option maxRecDepth 100000 in
theorem lk_drain {p : Program} {l : Launch} {e : Env} {s : State} {m : MethodId} {below : List Frame} {meth : Method} {c : Code} {b L : Nat} {xs : Nat → Int32} {D : va_G} {cI cC : ClassId} {ad : Nat → Nat} {H : Heap} {locs : List Loc} {ls : Array Slot} {i cnt : Nat} {M : Mem} (G : LG p s m meth c b L xs D cI cC) (hL : L ≤ 4608) (hl : lv_has ls 4 [(0, .ref b), (1, .ref (ad 0)), (2, .ref (ad 40)), (3, .int (nI i))]) (hi : i + 8 < L) (hc : cnt < 600) (hI : Inv cnt M) (hH : Hl s D cI cC ad (shp, rfs, M) H locs) (hn : ∀ M' H' locs', Inv (cnt + 1) M' → Hl s D cI cC ad (shp, rfs, M') H' locs' → W p l e room_1 s m #[Value.ref b] below meth c H' locs' 62 3562 (lw_Z below #[Value.ref b] s) (F0 m 782 ls [])) : W p l e room_1 s m #[Value.ref b] below meth c H locs 62 3562 (lw_Z below #[Value.ref b] s) (F0 m 569 ls []) := by
  obtain ⟨r, M1, M2, g1, g2, hI⟩ := Both.go (show Both mX5_drain mX6_drain [] from B_drain) hc hI
  obtain ⟨hx, hb, hr, hml, hown, hts0, hX, hbl, hlocks, hgv⟩ := G.1
  refine lv_aload_n hx hb dL_law_569 rfl (lv_at hl 1 rfl) ?_
  refine lw_c0 (Y := mX5_drain) (a := 0) (ci := 5) (N := 10) G dL_law_570 mlL_71 vkX5_drain rfl ⟨by decide, rfl⟩ rfl ⟨rfl, rfl⟩ hl.1 g1 hH (fun H locs hH => ?_)
  refine lv_aload_n hx hb dL_law_573 rfl (lv_at hl 2 rfl) ?_
  refine lw_c0 (Y := mX6_drain) (a := 40) (ci := 6) (N := 35) G dL_law_574 mlL_74 vkX6_drain rfl ⟨by decide, rfl⟩ rfl ⟨rfl, rfl⟩ hl.1 g2 hH (fun H locs hH => ?_)
  refine lv_icmp_eq (tgt := 782) hx hb dL_law_577 (by decide) (fun _ => hn M2 H locs hI hH) (fun q => absurd rfl q)
set_option maxHeartbeats 600000 in
set_option maxRecDepth 100000 in
theorem lk_result {p : Program} {l : Launch} {e : Env} {s : State} {m : MethodId} {below : List Frame} {meth : Method} {c : Code} {b L : Nat} {xs : Nat → Int32} {D : va_G} {cI cC : ClassId} {ad : Nat → Nat} {H : Heap} {locs : List Loc} {ls : Array Slot} {i cnt : Nat} {M : Mem} (G : LG p s m meth c b L xs D cI cC) (hL : L ≤ 4608) (hl : lv_has ls 4 [(0, .ref b), (1, .ref (ad 0)), (2, .ref (ad 40)), (3, .int (nI i))]) (hi : i + 8 < L) (hc : cnt < 600) (hI : Inv cnt M) (hH : Hl s D cI cC ad (shp, rfs, M) H locs) (hn : ∀ M' H' locs', Inv (cnt + 1) M' → Hl s D cI cC ad (shp, rfs, M') H' locs' → W p l e room_1 s m #[Value.ref b] below meth c H' locs' 62 3562 (lw_Z below #[Value.ref b] s) (F0 m 782 ls [])) : W p l e room_1 s m #[Value.ref b] below meth c H locs 62 3562 (lw_Z below #[Value.ref b] s) (F0 m 582 ls []) := by
  obtain ⟨r, M1, M2, g1, g2, hI⟩ := Both.go (show Both mX5_result mX6_result [.int (xs (i + 1))] from B_result) hc hI
  obtain ⟨hx, hb, hr, hml, hown, hts0, hX, hbl, hlocks, hgv⟩ := G.1
  refine lv_aload_n hx hb dL_law_582 rfl (lv_at hl 1 rfl) ?_
  refine lw_rd1 (jn := 1) G hL hl hH.2.2 (by omega) (by decide) dL_law_583 dL_law_584 dL_law_585 dL_law_586 dL_law_587 ?_
  refine lw_c1 (Y := mX5_result) (a := 0) (ci := 5) (N := 10) G dL_law_588 mlL_75 vkX5_result rfl ⟨by decide, rfl⟩ rfl ⟨rfl, rfl⟩ hl.1 g1 hH (fun H locs hH => ?_)
  refine lv_aload_n hx hb dL_law_591 rfl (lv_at hl 2 rfl) ?_
  refine lw_rd1 (jn := 1) G hL hl hH.2.2 (by omega) (by decide) dL_law_592 dL_law_593 dL_law_594 dL_law_595 dL_law_596 ?_
  refine lw_c1 (Y := mX6_result) (a := 40) (ci := 6) (N := 35) G dL_law_597 mlL_78 vkX6_result rfl ⟨by decide, rfl⟩ rfl ⟨rfl, rfl⟩ hl.1 g2 hH (fun H locs hH => ?_)
  refine lv_icmp_eq (tgt := 782) hx hb dL_law_600 (by decide) (fun _ => hn M2 H locs hI hH) (fun q => absurd rfl q)
set_option maxHeartbeats 600000 in
set_option maxRecDepth 100000 in
theorem lk_got {p : Program} {l : Launch} {e : Env} {s : State} {m : MethodId} {below : List Frame} {meth : Method} {c : Code} {b L : Nat} {xs : Nat → Int32} {D : va_G} {cI cC : ClassId} {ad : Nat → Nat} {H : Heap} {locs : List Loc} {ls : Array Slot} {i cnt : Nat} {M : Mem} (G : LG p s m meth c b L xs D cI cC) (hL : L ≤ 4608) (hl : lv_has ls 4 [(0, .ref b), (1, .ref (ad 0)), (2, .ref (ad 40)), (3, .int (nI i))]) (hi : i + 8 < L) (hc : cnt < 600) (hI : Inv cnt M) (hH : Hl s D cI cC ad (shp, rfs, M) H locs) (hn : ∀ M' H' locs', Inv (cnt + 1) M' → Hl s D cI cC ad (shp, rfs, M') H' locs' → W p l e room_1 s m #[Value.ref b] below meth c H' locs' 62 3562 (lw_Z below #[Value.ref b] s) (F0 m 782 ls [])) : W p l e room_1 s m #[Value.ref b] below meth c H locs 62 3562 (lw_Z below #[Value.ref b] s) (F0 m 605 ls []) := by
  obtain ⟨r, M1, M2, g1, g2, hI⟩ := Both.go (show Both mX5_got mX6_got [.int (xs (i + 1))] from B_got) hc hI
  obtain ⟨hx, hb, hr, hml, hown, hts0, hX, hbl, hlocks, hgv⟩ := G.1
  refine lv_aload_n hx hb dL_law_605 rfl (lv_at hl 1 rfl) ?_
  refine lw_rd1 (jn := 1) G hL hl hH.2.2 (by omega) (by decide) dL_law_606 dL_law_607 dL_law_608 dL_law_609 dL_law_610 ?_
  refine lw_c1 (Y := mX5_got) (a := 0) (ci := 5) (N := 10) G dL_law_611 mlL_79 vkX5_got rfl ⟨by decide, rfl⟩ rfl ⟨rfl, rfl⟩ hl.1 g1 hH (fun H locs hH => ?_)
  refine lv_aload_n hx hb dL_law_614 rfl (lv_at hl 2 rfl) ?_
  refine lw_rd1 (jn := 1) G hL hl hH.2.2 (by omega) (by decide) dL_law_615 dL_law_616 dL_law_617 dL_law_618 dL_law_619 ?_
  refine lw_c1 (Y := mX6_got) (a := 40) (ci := 6) (N := 35) G dL_law_620 mlL_82 vkX6_got rfl ⟨by decide, rfl⟩ rfl ⟨rfl, rfl⟩ hl.1 g2 hH (fun H locs hH => ?_)
  refine lv_icmp_eq (tgt := 782) hx hb dL_law_623 (by decide) (fun _ => hn M2 H locs hI hH) (fun q => absurd rfl q)
set_option maxHeartbeats 600000 in
set_option maxRecDepth 100000 in
theorem lk_way {p : Program} {l : Launch} {e : Env} {s : State} {m : MethodId} {below : List Frame} {meth : Method} {c : Code} {b L : Nat} {xs : Nat → Int32} {D : va_G} {cI cC : ClassId} {ad : Nat → Nat} {H : Heap} {locs : List Loc} {ls : Array Slot} {i cnt : Nat} {M : Mem} (G : LG p s m meth c b L xs D cI cC) (hL : L ≤ 4608) (hl : lv_has ls 4 [(0, .ref b), (1, .ref (ad 0)), (2, .ref (ad 40)), (3, .int (nI i))]) (hi : i + 8 < L) (hc : cnt < 600) (hI : Inv cnt M) (hH : Hl s D cI cC ad (shp, rfs, M) H locs) (hn : ∀ M' H' locs', Inv (cnt + 1) M' → Hl s D cI cC ad (shp, rfs, M') H' locs' → W p l e room_1 s m #[Value.ref b] below meth c H' locs' 62 3562 (lw_Z below #[Value.ref b] s) (F0 m 782 ls [])) : W p l e room_1 s m #[Value.ref b] below meth c H locs 62 3562 (lw_Z below #[Value.ref b] s) (F0 m 628 ls []) := by
  obtain ⟨r, M1, M2, g1, g2, hI⟩ := Both.go (show Both mX5_way mX6_way [.int (xs (i + 1))] from B_way) hc hI
  obtain ⟨hx, hb, hr, hml, hown, hts0, hX, hbl, hlocks, hgv⟩ := G.1
  refine lv_aload_n hx hb dL_law_628 rfl (lv_at hl 1 rfl) ?_
  refine lw_rd1 (jn := 1) G hL hl hH.2.2 (by omega) (by decide) dL_law_629 dL_law_630 dL_law_631 dL_law_632 dL_law_633 ?_
  refine lw_c1 (Y := mX5_way) (a := 0) (ci := 5) (N := 10) G dL_law_634 mlL_83 vkX5_way rfl ⟨by decide, rfl⟩ rfl ⟨rfl, rfl⟩ hl.1 g1 hH (fun H locs hH => ?_)
  refine lv_aload_n hx hb dL_law_637 rfl (lv_at hl 2 rfl) ?_
  refine lw_rd1 (jn := 1) G hL hl hH.2.2 (by omega) (by decide) dL_law_638 dL_law_639 dL_law_640 dL_law_641 dL_law_642 ?_
  refine lw_c1 (Y := mX6_way) (a := 40) (ci := 6) (N := 35) G dL_law_643 mlL_86 vkX6_way rfl ⟨by decide, rfl⟩ rfl ⟨rfl, rfl⟩ hl.1 g2 hH (fun H locs hH => ?_)
  refine lv_icmp_eq (tgt := 782) hx hb dL_law_646 (by decide) (fun _ => hn M2 H locs hI hH) (fun q => absurd rfl q)
set_option maxHeartbeats 600000 in
set_option maxRecDepth 100000 in
theorem lk_cut {p : Program} {l : Launch} {e : Env} {s : State} {m : MethodId} {below : List Frame} {meth : Method} {c : Code} {b L : Nat} {xs : Nat → Int32} {D : va_G} {cI cC : ClassId} {ad : Nat → Nat} {H : Heap} {locs : List Loc} {ls : Array Slot} {i cnt : Nat} {M : Mem} (G : LG p s m meth c b L xs D cI cC) (hL : L ≤ 4608) (hl : lv_has ls 4 [(0, .ref b), (1, .ref (ad 0)), (2, .ref (ad 40)), (3, .int (nI i))]) (hi : i + 8 < L) (hc : cnt < 600) (hI : Inv cnt M) (hH : Hl s D cI cC ad (shp, rfs, M) H locs) (hn : ∀ M' H' locs', Inv (cnt + 1) M' → Hl s D cI cC ad (shp, rfs, M') H' locs' → W p l e room_1 s m #[Value.ref b] below meth c H' locs' 62 3562 (lw_Z below #[Value.ref b] s) (F0 m 782 ls [])) : W p l e room_1 s m #[Value.ref b] below meth c H locs 62 3562 (lw_Z below #[Value.ref b] s) (F0 m 651 ls []) := by
  obtain ⟨r, M1, M2, g1, g2, hI⟩ := Both.go (show Both mX5_cut mX6_cut [] from B_cut) hc hI
  obtain ⟨hx, hb, hr, hml, hown, hts0, hX, hbl, hlocks, hgv⟩ := G.1
  refine lv_aload_n hx hb dL_law_651 rfl (lv_at hl 1 rfl) ?_
  refine lw_c0 (Y := mX5_cut) (a := 0) (ci := 5) (N := 10) G dL_law_652 mlL_87 vkX5_cut rfl ⟨by decide, rfl⟩ rfl ⟨rfl, rfl⟩ hl.1 g1 hH (fun H locs hH => ?_)
  refine lv_aload_n hx hb dL_law_655 rfl (lv_at hl 2 rfl) ?_
  refine lw_c0 (Y := mX6_cut) (a := 40) (ci := 6) (N := 35) G dL_law_656 mlL_90 vkX6_cut rfl ⟨by decide, rfl⟩ rfl ⟨rfl, rfl⟩ hl.1 g2 hH (fun H locs hH => ?_)
  refine lv_icmp_eq (tgt := 782) hx hb dL_law_659 (by decide) (fun _ => hn M2 H locs hI hH) (fun q => absurd rfl q)
set_option maxHeartbeats 600000 in
set_option maxRecDepth 100000 in
theorem lk_sector {p : Program} {l : Launch} {e : Env} {s : State} {m : MethodId} {below : List Frame} {meth : Method} {c : Code} {b L : Nat} {xs : Nat → Int32} {D : va_G} {cI cC : ClassId} {ad : Nat → Nat} {H : Heap} {locs : List Loc} {ls : Array Slot} {i cnt : Nat} {M : Mem} (G : LG p s m meth c b L xs D cI cC) (hL : L ≤ 4608) (hl : lv_has ls 4 [(0, .ref b), (1, .ref (ad 0)), (2, .ref (ad 40)), (3, .int (nI i))]) (hi : i + 8 < L) (hc : cnt < 600) (hI : Inv cnt M) (hH : Hl s D cI cC ad (shp, rfs, M) H locs) (hn : ∀ M' H' locs', Inv (cnt + 1) M' → Hl s D cI cC ad (shp, rfs, M') H' locs' → W p l e room_1 s m #[Value.ref b] below meth c H' locs' 62 3562 (lw_Z below #[Value.ref b] s) (F0 m 782 ls [])) : W p l e room_1 s m #[Value.ref b] below meth c H locs 62 3562 (lw_Z below #[Value.ref b] s) (F0 m 664 ls []) := by
  obtain ⟨r, M1, M2, g1, g2, hI⟩ := Both.go (show Both mX5_sector mX6_sector [.int (xs (i + 1)), .int (eI (nzB (xs (i + 2))))] from B_sector) hc hI
  obtain ⟨hx, hb, hr, hml, hown, hts0, hX, hbl, hlocks, hgv⟩ := G.1
  refine lv_aload_n hx hb dL_law_664 rfl (lv_at hl 1 rfl) ?_
  refine lw_rd1 (jn := 1) G hL hl hH.2.2 (by omega) (by decide) dL_law_665 dL_law_666 dL_law_667 dL_law_668 dL_law_669 ?_
  refine lw_rd1 (jn := 2) G hL hl hH.2.2 (by omega) (by decide) dL_law_670 dL_law_671 dL_law_672 dL_law_673 dL_law_674 ?_
  refine lw_bool 683 G dL_law_675 dL_law_678 dL_law_679 dL_law_682 rfl ?_
  refine lw_c2 (Y := mX5_sector) (a := 0) (ci := 5) (N := 10) G dL_law_683 mlL_91 vkX5_sector rfl ⟨by decide, rfl⟩ rfl ⟨rfl, rfl⟩ hl.1 g1 hH (fun H locs hH => ?_)
  refine lv_aload_n hx hb dL_law_686 rfl (lv_at hl 2 rfl) ?_
  refine lw_rd1 (jn := 1) G hL hl hH.2.2 (by omega) (by decide) dL_law_687 dL_law_688 dL_law_689 dL_law_690 dL_law_691 ?_
  refine lw_rd1 (jn := 2) G hL hl hH.2.2 (by omega) (by decide) dL_law_692 dL_law_693 dL_law_694 dL_law_695 dL_law_696 ?_
  refine lw_bool 705 G dL_law_697 dL_law_700 dL_law_701 dL_law_704 rfl ?_
  refine lw_c2 (Y := mX6_sector) (a := 40) (ci := 6) (N := 35) G dL_law_705 mlL_94 vkX6_sector rfl ⟨by decide, rfl⟩ rfl ⟨rfl, rfl⟩ hl.1 g2 hH (fun H locs hH => ?_)
  refine lv_icmp_eq (tgt := 782) hx hb dL_law_708 (by decide) (fun _ => hn M2 H locs hI hH) (fun q => absurd rfl q)
set_option maxHeartbeats 600000 in
set_option maxRecDepth 100000 in
theorem lk_cached {p : Program} {l : Launch} {e : Env} {s : State} {m : MethodId} {below : List Frame} {meth : Method} {c : Code} {b L : Nat} {xs : Nat → Int32} {D : va_G} {cI cC : ClassId} {ad : Nat → Nat} {H : Heap} {locs : List Loc} {ls : Array Slot} {i cnt : Nat} {M : Mem} (G : LG p s m meth c b L xs D cI cC) (hL : L ≤ 4608) (hl : lv_has ls 4 [(0, .ref b), (1, .ref (ad 0)), (2, .ref (ad 40)), (3, .int (nI i))]) (hi : i + 8 < L) (hc : cnt < 600) (hI : Inv cnt M) (hH : Hl s D cI cC ad (shp, rfs, M) H locs) (hn : ∀ M' H' locs', Inv (cnt + 1) M' → Hl s D cI cC ad (shp, rfs, M') H' locs' → W p l e room_1 s m #[Value.ref b] below meth c H' locs' 62 3562 (lw_Z below #[Value.ref b] s) (F0 m 782 ls [])) : W p l e room_1 s m #[Value.ref b] below meth c H locs 62 3562 (lw_Z below #[Value.ref b] s) (F0 m 713 ls []) := by
  obtain ⟨r, M1, M2, g1, g2, hI⟩ := Both.go (show Both mX5_cached mX6_cached [.int (xs (i + 1))] from B_cached) hc hI
  obtain ⟨hx, hb, hr, hml, hown, hts0, hX, hbl, hlocks, hgv⟩ := G.1
  refine lv_aload_n hx hb dL_law_713 rfl (lv_at hl 1 rfl) ?_
  refine lw_rd1 (jn := 1) G hL hl hH.2.2 (by omega) (by decide) dL_law_714 dL_law_715 dL_law_716 dL_law_717 dL_law_718 ?_
  refine lw_c1 (Y := mX5_cached) (a := 0) (ci := 5) (N := 10) G dL_law_719 mlL_95 vkX5_cached rfl ⟨by decide, rfl⟩ rfl ⟨rfl, rfl⟩ hl.1 g1 hH (fun H locs hH => ?_)
  refine lv_aload_n hx hb dL_law_722 rfl (lv_at hl 2 rfl) ?_
  refine lw_rd1 (jn := 1) G hL hl hH.2.2 (by omega) (by decide) dL_law_723 dL_law_724 dL_law_725 dL_law_726 dL_law_727 ?_
  refine lw_c1 (Y := mX6_cached) (a := 40) (ci := 6) (N := 35) G dL_law_728 mlL_98 vkX6_cached rfl ⟨by decide, rfl⟩ rfl ⟨rfl, rfl⟩ hl.1 g2 hH (fun H locs hH => ?_)
  refine lv_icmp_eq (tgt := 782) hx hb dL_law_731 (by decide) (fun _ => hn M2 H locs hI hH) (fun q => absurd rfl q)
set_option maxHeartbeats 600000 in
set_option maxRecDepth 100000 in
theorem lk_state {p : Program} {l : Launch} {e : Env} {s : State} {m : MethodId} {below : List Frame} {meth : Method} {c : Code} {b L : Nat} {xs : Nat → Int32} {D : va_G} {cI cC : ClassId} {ad : Nat → Nat} {H : Heap} {locs : List Loc} {ls : Array Slot} {i cnt : Nat} {M : Mem} (G : LG p s m meth c b L xs D cI cC) (hL : L ≤ 4608) (hl : lv_has ls 4 [(0, .ref b), (1, .ref (ad 0)), (2, .ref (ad 40)), (3, .int (nI i))]) (hi : i + 8 < L) (hc : cnt < 600) (hI : Inv cnt M) (hH : Hl s D cI cC ad (shp, rfs, M) H locs) (hn : ∀ M' H' locs', Inv (cnt + 1) M' → Hl s D cI cC ad (shp, rfs, M') H' locs' → W p l e room_1 s m #[Value.ref b] below meth c H' locs' 62 3562 (lw_Z below #[Value.ref b] s) (F0 m 782 ls [])) : W p l e room_1 s m #[Value.ref b] below meth c H locs 62 3562 (lw_Z below #[Value.ref b] s) (F0 m 736 ls []) := by
  obtain ⟨r, M1, M2, g1, g2, hI⟩ := Both.go (show Both mX5_state mX6_state [.int (xs (i + 1))] from B_state) hc hI
  obtain ⟨hx, hb, hr, hml, hown, hts0, hX, hbl, hlocks, hgv⟩ := G.1
  refine lv_aload_n hx hb dL_law_736 rfl (lv_at hl 1 rfl) ?_
  refine lw_rd1 (jn := 1) G hL hl hH.2.2 (by omega) (by decide) dL_law_737 dL_law_738 dL_law_739 dL_law_740 dL_law_741 ?_
  refine lw_c1 (Y := mX5_state) (a := 0) (ci := 5) (N := 10) G dL_law_742 mlL_99 vkX5_state rfl ⟨by decide, rfl⟩ rfl ⟨rfl, rfl⟩ hl.1 g1 hH (fun H locs hH => ?_)
  refine lv_aload_n hx hb dL_law_745 rfl (lv_at hl 2 rfl) ?_
  refine lw_rd1 (jn := 1) G hL hl hH.2.2 (by omega) (by decide) dL_law_746 dL_law_747 dL_law_748 dL_law_749 dL_law_750 ?_
  refine lw_c1 (Y := mX6_state) (a := 40) (ci := 6) (N := 35) G dL_law_751 mlL_102 vkX6_state rfl ⟨by decide, rfl⟩ rfl ⟨rfl, rfl⟩ hl.1 g2 hH (fun H locs hH => ?_)
  refine lv_icmp_eq (tgt := 782) hx hb dL_law_754 (by decide) (fun _ => hn M2 H locs hI hH) (fun q => absurd rfl q)
set_option maxHeartbeats 600000 in
set_option maxRecDepth 100000 in
theorem lk_count {p : Program} {l : Launch} {e : Env} {s : State} {m : MethodId} {below : List Frame} {meth : Method} {c : Code} {b L : Nat} {xs : Nat → Int32} {D : va_G} {cI cC : ClassId} {ad : Nat → Nat} {H : Heap} {locs : List Loc} {ls : Array Slot} {i cnt : Nat} {M : Mem} (G : LG p s m meth c b L xs D cI cC) (hL : L ≤ 4608) (hl : lv_has ls 4 [(0, .ref b), (1, .ref (ad 0)), (2, .ref (ad 40)), (3, .int (nI i))]) (hi : i + 8 < L) (hc : cnt < 600) (hI : Inv cnt M) (hH : Hl s D cI cC ad (shp, rfs, M) H locs) (hn : ∀ M' H' locs', Inv (cnt + 1) M' → Hl s D cI cC ad (shp, rfs, M') H' locs' → W p l e room_1 s m #[Value.ref b] below meth c H' locs' 62 3562 (lw_Z below #[Value.ref b] s) (F0 m 782 ls [])) : W p l e room_1 s m #[Value.ref b] below meth c H locs 62 3562 (lw_Z below #[Value.ref b] s) (F0 m 759 ls []) := by
  obtain ⟨r, M1, M2, g1, g2, hI⟩ := Both.go (show Both mX5_count mX6_count [.int (xs (i + 1))] from B_count) hc hI
  obtain ⟨hx, hb, hr, hml, hown, hts0, hX, hbl, hlocks, hgv⟩ := G.1
  refine lv_aload_n hx hb dL_law_759 rfl (lv_at hl 1 rfl) ?_
  refine lw_rd1 (jn := 1) G hL hl hH.2.2 (by omega) (by decide) dL_law_760 dL_law_761 dL_law_762 dL_law_763 dL_law_764 ?_
  refine lw_c1 (Y := mX5_count) (a := 0) (ci := 5) (N := 10) G dL_law_765 mlL_103 vkX5_count rfl ⟨by decide, rfl⟩ rfl ⟨rfl, rfl⟩ hl.1 g1 hH (fun H locs hH => ?_)
  refine lv_aload_n hx hb dL_law_768 rfl (lv_at hl 2 rfl) ?_
  refine lw_rd1 (jn := 1) G hL hl hH.2.2 (by omega) (by decide) dL_law_769 dL_law_770 dL_law_771 dL_law_772 dL_law_773 ?_
  refine lw_c1 (Y := mX6_count) (a := 40) (ci := 6) (N := 35) G dL_law_774 mlL_106 vkX6_count rfl ⟨by decide, rfl⟩ rfl ⟨rfl, rfl⟩ hl.1 g2 hH (fun H locs hH => ?_)
  refine lv_icmp_eq (tgt := 782) hx hb dL_law_777 (by decide) (fun _ => hn M2 H locs hI hH) (fun q => absurd rfl q)
