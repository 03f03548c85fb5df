/-! the cases of the law -/
theorem law_mode {p : Program} {l : Launch} {e : Env} {s : State} {m : MethodId} {below : List Frame} {meth : Method} {c : Code} {b L : Nat} {xs : Nat → Int32} (C0 : lw_At p s m meth c b L xs) (hL : L ≤ 2560) {ad : Nat → Nat} {cA : Nat → ClassId} {D : va_G} {qo : Nat} (hF : LWf ad cA D qo s) {G : AG} (hR : Rel G) {H : Heap} {locs : List Loc} (hw : LWw ad cA D qo s G H locs) {cells slots : Nat} (hcs : cells ≤ 601024 ∧ slots ≤ 7293034) {i : Nat} (hi : i + 5 ≤ L) {ls : Array Slot} (hl : lv_has ls 7 [(0, .ref b), (4, .int (nI i)), (1, .ref (ad 53)), (2, .ref (ad 54)), (3, .ref qo)]) {Q : State → Prop}
    (K : ∀ (G' : AG) (H' : Heap) (locs' : List Loc), Rel G' → LWw ad cA D qo s G' H' locs' → W p l e room_1 s m #[Value.ref b] below meth c H' locs' cells slots Q (F0 m 989 ls [])) :
    W p l e room_1 s m #[Value.ref b] below meth c H locs cells slots Q (F0 m 140 ls []) := by
  have hx := C0.1
  have hb := C0.2.1
  obtain ⟨r, GX, GM, h1, h2, h3, h4⟩ := pair_mode hR (lw_xs (xs (i + 1))) (lw_xs (xs (i + 2)))
  obtain ⟨z, rfl⟩ := ret_int h1 (Or.inl rfl)
  refine lv_aload_n hx hb dl_140 rfl (lv_at hl 2 rfl) ?_
  refine lw_rd (k := 1) C0 hL hw.2.2 hl (by omega) dl_141 dl_142 dl_144 dl_145 dl_146 ?_
  refine lw_rd (k := 2) C0 hL hw.2.2 hl (by omega) dl_147 dl_148 dl_150 dl_151 dl_152 ?_
  refine lw_calli (as := [vI (xs (i + 1)).toInt, vI (xs (i + 2)).toInt]) (a := 53) (rest := []) C0 hF hw hcs hl.1 (Nat.le_of_ble_eq_true rfl) tl_153 rfl rfl h1 (Nat.le_of_ble_eq_true rfl) rfl rfl (fun H locs hw => ?_)
  refine lv_aload_n hx hb dl_156 rfl (lv_at hl 3 rfl) ?_
  refine lw_rd (k := 1) C0 hL hw.2.2 hl (by omega) dl_157 dl_158 dl_160 dl_161 dl_162 ?_
  refine lw_rd (k := 2) C0 hL hw.2.2 hl (by omega) dl_163 dl_164 dl_166 dl_167 dl_168 ?_
  refine lw_calli (as := [vI (xs (i + 1)).toInt, vI (xs (i + 2)).toInt]) (a := 54) (rest := [.int (am_i z)]) C0 hF hw hcs hl.1 (Nat.le_of_ble_eq_true rfl) tl_169 rfl rfl h2 (Nat.le_of_ble_eq_true rfl) rfl rfl (fun H locs hw => ?_)
  exact lv_icmp_eq (tgt := 989) hx hb dl_172 (by decide) (fun _ => K GM H locs h3 hw) (fun hne => absurd rfl hne)
theorem law_artist {p : Program} {l : Launch} {e : Env} {s : State} {m : MethodId} {below : List Frame} {meth : Method} {c : Code} {b L : Nat} {xs : Nat → Int32} (C0 : lw_At p s m meth c b L xs) (hL : L ≤ 2560) {ad : Nat → Nat} {cA : Nat → ClassId} {D : va_G} {qo : Nat} (hF : LWf ad cA D qo s) {G : AG} (hR : Rel G) {H : Heap} {locs : List Loc} (hw : LWw ad cA D qo s G H locs) {cells slots : Nat} (hcs : cells ≤ 601024 ∧ slots ≤ 7293034) {i : Nat} (hi : i + 5 ≤ L) {ls : Array Slot} (hl : lv_has ls 7 [(0, .ref b), (4, .int (nI i)), (1, .ref (ad 53)), (2, .ref (ad 54)), (3, .ref qo)]) {Q : State → Prop}
    (K : ∀ (G' : AG) (H' : Heap) (locs' : List Loc), Rel G' → LWw ad cA D qo s G' H' locs' → W p l e room_1 s m #[Value.ref b] below meth c H' locs' cells slots Q (F0 m 989 ls [])) :
    W p l e room_1 s m #[Value.ref b] below meth c H locs cells slots Q (F0 m 177 ls []) := by
  have hx := C0.1
  have hb := C0.2.1
  obtain ⟨r, GX, GM, h1, h2, h3, h4⟩ := pair_artist hR (lw_xs (xs (i + 1)))
  obtain ⟨z, rfl⟩ := ret_int h1 (Or.inl rfl)
  refine lv_aload_n hx hb dl_177 rfl (lv_at hl 2 rfl) ?_
  refine lw_rd (k := 1) C0 hL hw.2.2 hl (by omega) dl_178 dl_179 dl_181 dl_182 dl_183 ?_
  refine lw_calli (as := [vI (xs (i + 1)).toInt]) (a := 53) (rest := []) C0 hF hw hcs hl.1 (Nat.le_of_ble_eq_true rfl) tl_184 rfl rfl h1 (Nat.le_of_ble_eq_true rfl) rfl rfl (fun H locs hw => ?_)
  refine lv_aload_n hx hb dl_187 rfl (lv_at hl 3 rfl) ?_
  refine lw_rd (k := 1) C0 hL hw.2.2 hl (by omega) dl_188 dl_189 dl_191 dl_192 dl_193 ?_
  refine lw_calli (as := [vI (xs (i + 1)).toInt]) (a := 54) (rest := [.int (am_i z)]) C0 hF hw hcs hl.1 (Nat.le_of_ble_eq_true rfl) tl_194 rfl rfl h2 (Nat.le_of_ble_eq_true rfl) rfl rfl (fun H locs hw => ?_)
  exact lv_icmp_eq (tgt := 989) hx hb dl_197 (by decide) (fun _ => K GM H locs h3 hw) (fun hne => absurd rfl hne)
theorem law_like {p : Program} {l : Launch} {e : Env} {s : State} {m : MethodId} {below : List Frame} {meth : Method} {c : Code} {b L : Nat} {xs : Nat → Int32} (C0 : lw_At p s m meth c b L xs) (hL : L ≤ 2560) {ad : Nat → Nat} {cA : Nat → ClassId} {D : va_G} {qo : Nat} (hF : LWf ad cA D qo s) {G : AG} (hR : Rel G) {H : Heap} {locs : List Loc} (hw : LWw ad cA D qo s G H locs) {cells slots : Nat} (hcs : cells ≤ 601024 ∧ slots ≤ 7293034) {i : Nat} (hi : i + 5 ≤ L) {ls : Array Slot} (hl : lv_has ls 7 [(0, .ref b), (4, .int (nI i)), (1, .ref (ad 53)), (2, .ref (ad 54)), (3, .ref qo)]) {Q : State → Prop}
    (K : ∀ (G' : AG) (H' : Heap) (locs' : List Loc), Rel G' → LWw ad cA D qo s G' H' locs' → W p l e room_1 s m #[Value.ref b] below meth c H' locs' cells slots Q (F0 m 989 ls [])) :
    W p l e room_1 s m #[Value.ref b] below meth c H locs cells slots Q (F0 m 202 ls []) := by
  have hx := C0.1
  have hb := C0.2.1
  obtain ⟨r, GX, GM, h1, h2, h3, h4⟩ := pair_like hR (lw_xs (xs (i + 1))) (lw_xs (xs (i + 2))) (lw_xs (xs (i + 3)))
  obtain ⟨z, rfl⟩ := ret_int h1 (Or.inr rfl)
  refine lv_aload_n hx hb dl_202 rfl (lv_at hl 2 rfl) ?_
  refine lw_rd (k := 1) C0 hL hw.2.2 hl (by omega) dl_203 dl_204 dl_206 dl_207 dl_208 ?_
  refine lw_rd (k := 2) C0 hL hw.2.2 hl (by omega) dl_209 dl_210 dl_212 dl_213 dl_214 ?_
  refine lw_rd (k := 3) C0 hL hw.2.2 hl (by omega) dl_215 dl_216 dl_218 dl_219 dl_220 ?_
  refine lw_calli (as := [vI (xs (i + 1)).toInt, vI (xs (i + 2)).toInt, vI (xs (i + 3)).toInt]) (a := 53) (rest := []) C0 hF hw hcs hl.1 (Nat.le_of_ble_eq_true rfl) tl_221 rfl rfl h1 (Nat.le_of_ble_eq_true rfl) rfl rfl (fun H locs hw => ?_)
  refine lv_aload_n hx hb dl_224 rfl (lv_at hl 3 rfl) ?_
  refine lw_rd (k := 1) C0 hL hw.2.2 hl (by omega) dl_225 dl_226 dl_228 dl_229 dl_230 ?_
  refine lw_rd (k := 2) C0 hL hw.2.2 hl (by omega) dl_231 dl_232 dl_234 dl_235 dl_236 ?_
  refine lw_rd (k := 3) C0 hL hw.2.2 hl (by omega) dl_237 dl_238 dl_240 dl_241 dl_242 ?_
  refine lw_calli (as := [vI (xs (i + 1)).toInt, vI (xs (i + 2)).toInt, vI (xs (i + 3)).toInt]) (a := 54) (rest := [.int (am_i z)]) C0 hF hw hcs hl.1 (Nat.le_of_ble_eq_true rfl) tl_243 rfl rfl h2 (Nat.le_of_ble_eq_true rfl) rfl rfl (fun H locs hw => ?_)
  exact lv_icmp_eq (tgt := 989) hx hb dl_246 (by decide) (fun _ => K GM H locs h3 hw) (fun hne => absurd rfl hne)
theorem law_rival {p : Program} {l : Launch} {e : Env} {s : State} {m : MethodId} {below : List Frame} {meth : Method} {c : Code} {b L : Nat} {xs : Nat → Int32} (C0 : lw_At p s m meth c b L xs) (hL : L ≤ 2560) {ad : Nat → Nat} {cA : Nat → ClassId} {D : va_G} {qo : Nat} (hF : LWf ad cA D qo s) {G : AG} (hR : Rel G) {H : Heap} {locs : List Loc} (hw : LWw ad cA D qo s G H locs) {cells slots : Nat} (hcs : cells ≤ 601024 ∧ slots ≤ 7293034) {i : Nat} (hi : i + 5 ≤ L) {ls : Array Slot} (hl : lv_has ls 7 [(0, .ref b), (4, .int (nI i)), (1, .ref (ad 53)), (2, .ref (ad 54)), (3, .ref qo)]) {Q : State → Prop}
    (K : ∀ (G' : AG) (H' : Heap) (locs' : List Loc), Rel G' → LWw ad cA D qo s G' H' locs' → W p l e room_1 s m #[Value.ref b] below meth c H' locs' cells slots Q (F0 m 989 ls [])) :
    W p l e room_1 s m #[Value.ref b] below meth c H locs cells slots Q (F0 m 251 ls []) := by
  have hx := C0.1
  have hb := C0.2.1
  obtain ⟨r, GX, GM, h1, h2, h3, h4⟩ := pair_rival hR (lw_xs (xs (i + 1))) (lw_xs (xs (i + 2))) (bl_01 (xs (i + 3)))
  obtain ⟨z, rfl⟩ := ret_int h1 (Or.inr rfl)
  refine lv_aload_n hx hb dl_251 rfl (lv_at hl 2 rfl) ?_
  refine lw_rd (k := 1) C0 hL hw.2.2 hl (by omega) dl_252 dl_253 dl_255 dl_256 dl_257 ?_
  refine lw_rd (k := 2) C0 hL hw.2.2 hl (by omega) dl_258 dl_259 dl_261 dl_262 dl_263 ?_
  refine lw_bl (k := 3) C0 hL hw.2.2 hl (by omega) dl_264 dl_265 dl_267 dl_268 dl_269 dl_270 dl_273 dl_274 dl_277 ?_
  refine lw_calli (as := [vI (xs (i + 1)).toInt, vI (xs (i + 2)).toInt, vI (bl (xs (i + 3)))]) (a := 53) (rest := []) C0 hF hw hcs hl.1 (Nat.le_of_ble_eq_true rfl) tl_278 rfl rfl h1 (Nat.le_of_ble_eq_true rfl) rfl rfl (fun H locs hw => ?_)
  refine lv_aload_n hx hb dl_281 rfl (lv_at hl 3 rfl) ?_
  refine lw_rd (k := 1) C0 hL hw.2.2 hl (by omega) dl_282 dl_283 dl_285 dl_286 dl_287 ?_
  refine lw_rd (k := 2) C0 hL hw.2.2 hl (by omega) dl_288 dl_289 dl_291 dl_292 dl_293 ?_
  refine lw_bl (k := 3) C0 hL hw.2.2 hl (by omega) dl_294 dl_295 dl_297 dl_298 dl_299 dl_300 dl_303 dl_304 dl_307 ?_
  refine lw_calli (as := [vI (xs (i + 1)).toInt, vI (xs (i + 2)).toInt, vI (bl (xs (i + 3)))]) (a := 54) (rest := [.int (am_i z)]) C0 hF hw hcs hl.1 (Nat.le_of_ble_eq_true rfl) tl_308 rfl rfl h2 (Nat.le_of_ble_eq_true rfl) rfl rfl (fun H locs hw => ?_)
  exact lv_icmp_eq (tgt := 989) hx hb dl_311 (by decide) (fun _ => K GM H locs h3 hw) (fun hne => absurd rfl hne)
theorem law_ill {p : Program} {l : Launch} {e : Env} {s : State} {m : MethodId} {below : List Frame} {meth : Method} {c : Code} {b L : Nat} {xs : Nat → Int32} (C0 : lw_At p s m meth c b L xs) (hL : L ≤ 2560) {ad : Nat → Nat} {cA : Nat → ClassId} {D : va_G} {qo : Nat} (hF : LWf ad cA D qo s) {G : AG} (hR : Rel G) {H : Heap} {locs : List Loc} (hw : LWw ad cA D qo s G H locs) {cells slots : Nat} (hcs : cells ≤ 601024 ∧ slots ≤ 7293034) {i : Nat} (hi : i + 5 ≤ L) {ls : Array Slot} (hl : lv_has ls 7 [(0, .ref b), (4, .int (nI i)), (1, .ref (ad 53)), (2, .ref (ad 54)), (3, .ref qo)]) {Q : State → Prop}
    (K : ∀ (G' : AG) (H' : Heap) (locs' : List Loc), Rel G' → LWw ad cA D qo s G' H' locs' → W p l e room_1 s m #[Value.ref b] below meth c H' locs' cells slots Q (F0 m 989 ls [])) :
    W p l e room_1 s m #[Value.ref b] below meth c H locs cells slots Q (F0 m 316 ls []) := by
  have hx := C0.1
  have hb := C0.2.1
  obtain ⟨r, GX, GM, h1, h2, h3, h4⟩ := pair_ill hR (lw_xs (xs (i + 1))) (bl_01 (xs (i + 2)))
  obtain ⟨z, rfl⟩ := ret_int h1 (Or.inr rfl)
  refine lv_aload_n hx hb dl_316 rfl (lv_at hl 2 rfl) ?_
  refine lw_rd (k := 1) C0 hL hw.2.2 hl (by omega) dl_317 dl_318 dl_320 dl_321 dl_322 ?_
  refine lw_bl (k := 2) C0 hL hw.2.2 hl (by omega) dl_323 dl_324 dl_326 dl_327 dl_328 dl_329 dl_332 dl_333 dl_336 ?_
  refine lw_calli (as := [vI (xs (i + 1)).toInt, vI (bl (xs (i + 2)))]) (a := 53) (rest := []) C0 hF hw hcs hl.1 (Nat.le_of_ble_eq_true rfl) tl_337 rfl rfl h1 (Nat.le_of_ble_eq_true rfl) rfl rfl (fun H locs hw => ?_)
  refine lv_aload_n hx hb dl_340 rfl (lv_at hl 3 rfl) ?_
  refine lw_rd (k := 1) C0 hL hw.2.2 hl (by omega) dl_341 dl_342 dl_344 dl_345 dl_346 ?_
  refine lw_bl (k := 2) C0 hL hw.2.2 hl (by omega) dl_347 dl_348 dl_350 dl_351 dl_352 dl_353 dl_356 dl_357 dl_360 ?_
  refine lw_calli (as := [vI (xs (i + 1)).toInt, vI (bl (xs (i + 2)))]) (a := 54) (rest := [.int (am_i z)]) C0 hF hw hcs hl.1 (Nat.le_of_ble_eq_true rfl) tl_361 rfl rfl h2 (Nat.le_of_ble_eq_true rfl) rfl rfl (fun H locs hw => ?_)
  exact lv_icmp_eq (tgt := 989) hx hb dl_364 (by decide) (fun _ => K GM H locs h3 hw) (fun hne => absurd rfl hne)
theorem law_set {p : Program} {l : Launch} {e : Env} {s : State} {m : MethodId} {below : List Frame} {meth : Method} {c : Code} {b L : Nat} {xs : Nat → Int32} (C0 : lw_At p s m meth c b L xs) (hL : L ≤ 2560) {ad : Nat → Nat} {cA : Nat → ClassId} {D : va_G} {qo : Nat} (hF : LWf ad cA D qo s) {G : AG} (hR : Rel G) {H : Heap} {locs : List Loc} (hw : LWw ad cA D qo s G H locs) {cells slots : Nat} (hcs : cells ≤ 601024 ∧ slots ≤ 7293034) {i : Nat} (hi : i + 5 ≤ L) {ls : Array Slot} (hl : lv_has ls 7 [(0, .ref b), (4, .int (nI i)), (1, .ref (ad 53)), (2, .ref (ad 54)), (3, .ref qo)]) {Q : State → Prop}
    (K : ∀ (G' : AG) (H' : Heap) (locs' : List Loc), Rel G' → LWw ad cA D qo s G' H' locs' → W p l e room_1 s m #[Value.ref b] below meth c H' locs' cells slots Q (F0 m 989 ls [])) :
    W p l e room_1 s m #[Value.ref b] below meth c H locs cells slots Q (F0 m 369 ls []) := by
  have hx := C0.1
  have hb := C0.2.1
  obtain ⟨r, GX, GM, h1, h2, h3, h4⟩ := pair_set hR (lw_xs (xs (i + 1))) (lw_xs (xs (i + 2)))
  obtain ⟨z, rfl⟩ := ret_int h1 (Or.inl rfl)
  refine lv_aload_n hx hb dl_369 rfl (lv_at hl 2 rfl) ?_
  refine lw_rd (k := 1) C0 hL hw.2.2 hl (by omega) dl_370 dl_371 dl_373 dl_374 dl_375 ?_
  refine lw_rd (k := 2) C0 hL hw.2.2 hl (by omega) dl_376 dl_377 dl_379 dl_380 dl_381 ?_
  refine lw_calli (as := [vI (xs (i + 1)).toInt, vI (xs (i + 2)).toInt]) (a := 53) (rest := []) C0 hF hw hcs hl.1 (Nat.le_of_ble_eq_true rfl) tl_382 rfl rfl h1 (Nat.le_of_ble_eq_true rfl) rfl rfl (fun H locs hw => ?_)
  refine lv_aload_n hx hb dl_385 rfl (lv_at hl 3 rfl) ?_
  refine lw_rd (k := 1) C0 hL hw.2.2 hl (by omega) dl_386 dl_387 dl_389 dl_390 dl_391 ?_
  refine lw_rd (k := 2) C0 hL hw.2.2 hl (by omega) dl_392 dl_393 dl_395 dl_396 dl_397 ?_
  refine lw_calli (as := [vI (xs (i + 1)).toInt, vI (xs (i + 2)).toInt]) (a := 54) (rest := [.int (am_i z)]) C0 hF hw hcs hl.1 (Nat.le_of_ble_eq_true rfl) tl_398 rfl rfl h2 (Nat.le_of_ble_eq_true rfl) rfl rfl (fun H locs hw => ?_)
  exact lv_icmp_eq (tgt := 989) hx hb dl_401 (by decide) (fun _ => K GM H locs h3 hw) (fun hne => absurd rfl hne)
theorem law_season {p : Program} {l : Launch} {e : Env} {s : State} {m : MethodId} {below : List Frame} {meth : Method} {c : Code} {b L : Nat} {xs : Nat → Int32} (C0 : lw_At p s m meth c b L xs) (hL : L ≤ 2560) {ad : Nat → Nat} {cA : Nat → ClassId} {D : va_G} {qo : Nat} (hF : LWf ad cA D qo s) {G : AG} (hR : Rel G) {H : Heap} {locs : List Loc} (hw : LWw ad cA D qo s G H locs) {cells slots : Nat} (hcs : cells ≤ 601024 ∧ slots ≤ 7293034) {i : Nat} (hi : i + 5 ≤ L) {ls : Array Slot} (hl : lv_has ls 7 [(0, .ref b), (4, .int (nI i)), (1, .ref (ad 53)), (2, .ref (ad 54)), (3, .ref qo)]) {Q : State → Prop}
    (K : ∀ (G' : AG) (H' : Heap) (locs' : List Loc), Rel G' → LWw ad cA D qo s G' H' locs' → W p l e room_1 s m #[Value.ref b] below meth c H' locs' cells slots Q (F0 m 989 ls [])) :
    W p l e room_1 s m #[Value.ref b] below meth c H locs cells slots Q (F0 m 406 ls []) := by
  have hx := C0.1
  have hb := C0.2.1
  obtain ⟨r, GX, GM, h1, h2, h3, h4⟩ := pair_season hR (lw_xs (xs (i + 1))) (lw_xs (xs (i + 2)))
  obtain ⟨z, rfl⟩ := ret_int h1 (Or.inr rfl)
  refine lv_aload_n hx hb dl_406 rfl (lv_at hl 2 rfl) ?_
  refine lw_rd (k := 1) C0 hL hw.2.2 hl (by omega) dl_407 dl_408 dl_410 dl_411 dl_412 ?_
  refine lw_rd (k := 2) C0 hL hw.2.2 hl (by omega) dl_413 dl_414 dl_416 dl_417 dl_418 ?_
  refine lw_calli (as := [vI (xs (i + 1)).toInt, vI (xs (i + 2)).toInt]) (a := 53) (rest := []) C0 hF hw hcs hl.1 (Nat.le_of_ble_eq_true rfl) tl_419 rfl rfl h1 (Nat.le_of_ble_eq_true rfl) rfl rfl (fun H locs hw => ?_)
  refine lv_aload_n hx hb dl_422 rfl (lv_at hl 3 rfl) ?_
  refine lw_rd (k := 1) C0 hL hw.2.2 hl (by omega) dl_423 dl_424 dl_426 dl_427 dl_428 ?_
  refine lw_rd (k := 2) C0 hL hw.2.2 hl (by omega) dl_429 dl_430 dl_432 dl_433 dl_434 ?_
  refine lw_calli (as := [vI (xs (i + 1)).toInt, vI (xs (i + 2)).toInt]) (a := 54) (rest := [.int (am_i z)]) C0 hF hw hcs hl.1 (Nat.le_of_ble_eq_true rfl) tl_435 rfl rfl h2 (Nat.le_of_ble_eq_true rfl) rfl rfl (fun H locs hw => ?_)
  exact lv_icmp_eq (tgt := 989) hx hb dl_438 (by decide) (fun _ => K GM H locs h3 hw) (fun hne => absurd rfl hne)
theorem law_near {p : Program} {l : Launch} {e : Env} {s : State} {m : MethodId} {below : List Frame} {meth : Method} {c : Code} {b L : Nat} {xs : Nat → Int32} (C0 : lw_At p s m meth c b L xs) (hL : L ≤ 2560) {ad : Nat → Nat} {cA : Nat → ClassId} {D : va_G} {qo : Nat} (hF : LWf ad cA D qo s) {G : AG} (hR : Rel G) {H : Heap} {locs : List Loc} (hw : LWw ad cA D qo s G H locs) {cells slots : Nat} (hcs : cells ≤ 601024 ∧ slots ≤ 7293034) {i : Nat} (hi : i + 5 ≤ L) {ls : Array Slot} (hl : lv_has ls 7 [(0, .ref b), (4, .int (nI i)), (1, .ref (ad 53)), (2, .ref (ad 54)), (3, .ref qo)]) {Q : State → Prop}
    (K : ∀ (G' : AG) (H' : Heap) (locs' : List Loc), Rel G' → LWw ad cA D qo s G' H' locs' → W p l e room_1 s m #[Value.ref b] below meth c H' locs' cells slots Q (F0 m 989 ls [])) :
    W p l e room_1 s m #[Value.ref b] below meth c H locs cells slots Q (F0 m 443 ls []) := by
  have hx := C0.1
  have hb := C0.2.1
  obtain ⟨r, GX, GM, h1, h2, h3, h4⟩ := pair_near hR (lw_xs (xs (i + 1))) (lw_xs (xs (i + 2)))
  obtain ⟨z, rfl⟩ := ret_int h1 (Or.inl rfl)
  refine lv_aload_n hx hb dl_443 rfl (lv_at hl 2 rfl) ?_
  refine lw_rd (k := 1) C0 hL hw.2.2 hl (by omega) dl_444 dl_445 dl_447 dl_448 dl_449 ?_
  refine lw_rd (k := 2) C0 hL hw.2.2 hl (by omega) dl_450 dl_451 dl_453 dl_454 dl_455 ?_
  refine lw_calli (as := [vI (xs (i + 1)).toInt, vI (xs (i + 2)).toInt]) (a := 53) (rest := []) C0 hF hw hcs hl.1 (Nat.le_of_ble_eq_true rfl) tl_456 rfl rfl h1 (Nat.le_of_ble_eq_true rfl) rfl rfl (fun H locs hw => ?_)
  refine lv_aload_n hx hb dl_459 rfl (lv_at hl 3 rfl) ?_
  refine lw_rd (k := 1) C0 hL hw.2.2 hl (by omega) dl_460 dl_461 dl_463 dl_464 dl_465 ?_
  refine lw_rd (k := 2) C0 hL hw.2.2 hl (by omega) dl_466 dl_467 dl_469 dl_470 dl_471 ?_
  refine lw_calli (as := [vI (xs (i + 1)).toInt, vI (xs (i + 2)).toInt]) (a := 54) (rest := [.int (am_i z)]) C0 hF hw hcs hl.1 (Nat.le_of_ble_eq_true rfl) tl_472 rfl rfl h2 (Nat.le_of_ble_eq_true rfl) rfl rfl (fun H locs hw => ?_)
  exact lv_icmp_eq (tgt := 989) hx hb dl_475 (by decide) (fun _ => K GM H locs h3 hw) (fun hne => absurd rfl hne)
theorem law_count {p : Program} {l : Launch} {e : Env} {s : State} {m : MethodId} {below : List Frame} {meth : Method} {c : Code} {b L : Nat} {xs : Nat → Int32} (C0 : lw_At p s m meth c b L xs) (hL : L ≤ 2560) {ad : Nat → Nat} {cA : Nat → ClassId} {D : va_G} {qo : Nat} (hF : LWf ad cA D qo s) {G : AG} (hR : Rel G) {H : Heap} {locs : List Loc} (hw : LWw ad cA D qo s G H locs) {cells slots : Nat} (hcs : cells ≤ 601024 ∧ slots ≤ 7293034) {i : Nat} (hi : i + 5 ≤ L) {ls : Array Slot} (hl : lv_has ls 7 [(0, .ref b), (4, .int (nI i)), (1, .ref (ad 53)), (2, .ref (ad 54)), (3, .ref qo)]) {Q : State → Prop}
    (K : ∀ (G' : AG) (H' : Heap) (locs' : List Loc), Rel G' → LWw ad cA D qo s G' H' locs' → W p l e room_1 s m #[Value.ref b] below meth c H' locs' cells slots Q (F0 m 989 ls [])) :
    W p l e room_1 s m #[Value.ref b] below meth c H locs cells slots Q (F0 m 480 ls []) := by
  have hx := C0.1
  have hb := C0.2.1
  obtain ⟨r, GX, GM, h1, h2, h3, h4⟩ := pair_count hR (lw_xs (xs (i + 1)))
  obtain ⟨z, rfl⟩ := ret_int h1 (Or.inl rfl)
  refine lv_aload_n hx hb dl_480 rfl (lv_at hl 2 rfl) ?_
  refine lw_rd (k := 1) C0 hL hw.2.2 hl (by omega) dl_481 dl_482 dl_484 dl_485 dl_486 ?_
  refine lw_calli (as := [vI (xs (i + 1)).toInt]) (a := 53) (rest := []) C0 hF hw hcs hl.1 (Nat.le_of_ble_eq_true rfl) tl_487 rfl rfl h1 (Nat.le_of_ble_eq_true rfl) rfl rfl (fun H locs hw => ?_)
  refine lv_aload_n hx hb dl_490 rfl (lv_at hl 3 rfl) ?_
  refine lw_rd (k := 1) C0 hL hw.2.2 hl (by omega) dl_491 dl_492 dl_494 dl_495 dl_496 ?_
  refine lw_calli (as := [vI (xs (i + 1)).toInt]) (a := 54) (rest := [.int (am_i z)]) C0 hF hw hcs hl.1 (Nat.le_of_ble_eq_true rfl) tl_497 rfl rfl h2 (Nat.le_of_ble_eq_true rfl) rfl rfl (fun H locs hw => ?_)
  exact lv_icmp_eq (tgt := 989) hx hb dl_500 (by decide) (fun _ => K GM H locs h3 hw) (fun hne => absurd rfl hne)
theorem law_put {p : Program} {l : Launch} {e : Env} {s : State} {m : MethodId} {below : List Frame} {meth : Method} {c : Code} {b L : Nat} {xs : Nat → Int32} (C0 : lw_At p s m meth c b L xs) (hL : L ≤ 2560) {ad : Nat → Nat} {cA : Nat → ClassId} {D : va_G} {qo : Nat} (hF : LWf ad cA D qo s) {G : AG} (hR : Rel G) {H : Heap} {locs : List Loc} (hw : LWw ad cA D qo s G H locs) {cells slots : Nat} (hcs : cells ≤ 601024 ∧ slots ≤ 7293034) {i : Nat} (hi : i + 5 ≤ L) {ls : Array Slot} (hl : lv_has ls 7 [(0, .ref b), (4, .int (nI i)), (1, .ref (ad 53)), (2, .ref (ad 54)), (3, .ref qo)]) {Q : State → Prop}
    (K : ∀ (G' : AG) (H' : Heap) (locs' : List Loc), Rel G' → LWw ad cA D qo s G' H' locs' → W p l e room_1 s m #[Value.ref b] below meth c H' locs' cells slots Q (F0 m 989 ls [])) :
    W p l e room_1 s m #[Value.ref b] below meth c H locs cells slots Q (F0 m 505 ls []) := by
  have hx := C0.1
  have hb := C0.2.1
  obtain ⟨r, GX, GM, h1, h2, h3, h4⟩ := pair_put hR (lw_xs (xs (i + 1))) (lw_xs (xs (i + 2))) (lw_xs (xs (i + 3)))
  obtain ⟨z, rfl⟩ := ret_int h1 (Or.inr rfl)
  refine lv_aload_n hx hb dl_505 rfl (lv_at hl 2 rfl) ?_
  refine lw_rd (k := 1) C0 hL hw.2.2 hl (by omega) dl_506 dl_507 dl_509 dl_510 dl_511 ?_
  refine lw_rd (k := 2) C0 hL hw.2.2 hl (by omega) dl_512 dl_513 dl_515 dl_516 dl_517 ?_
  refine lw_rd (k := 3) C0 hL hw.2.2 hl (by omega) dl_518 dl_519 dl_521 dl_522 dl_523 ?_
  refine lw_calli (as := [vI (xs (i + 1)).toInt, vI (xs (i + 2)).toInt, vI (xs (i + 3)).toInt]) (a := 53) (rest := []) C0 hF hw hcs hl.1 (Nat.le_of_ble_eq_true rfl) tl_524 rfl rfl h1 (Nat.le_of_ble_eq_true rfl) rfl rfl (fun H locs hw => ?_)
  refine lv_aload_n hx hb dl_527 rfl (lv_at hl 3 rfl) ?_
  refine lw_rd (k := 1) C0 hL hw.2.2 hl (by omega) dl_528 dl_529 dl_531 dl_532 dl_533 ?_
  refine lw_rd (k := 2) C0 hL hw.2.2 hl (by omega) dl_534 dl_535 dl_537 dl_538 dl_539 ?_
  refine lw_rd (k := 3) C0 hL hw.2.2 hl (by omega) dl_540 dl_541 dl_543 dl_544 dl_545 ?_
  refine lw_calli (as := [vI (xs (i + 1)).toInt, vI (xs (i + 2)).toInt, vI (xs (i + 3)).toInt]) (a := 54) (rest := [.int (am_i z)]) C0 hF hw hcs hl.1 (Nat.le_of_ble_eq_true rfl) tl_546 rfl rfl h2 (Nat.le_of_ble_eq_true rfl) rfl rfl (fun H locs hw => ?_)
  exact lv_icmp_eq (tgt := 989) hx hb dl_549 (by decide) (fun _ => K GM H locs h3 hw) (fun hne => absurd rfl hne)
theorem law_wrong {p : Program} {l : Launch} {e : Env} {s : State} {m : MethodId} {below : List Frame} {meth : Method} {c : Code} {b L : Nat} {xs : Nat → Int32} (C0 : lw_At p s m meth c b L xs) (hL : L ≤ 2560) {ad : Nat → Nat} {cA : Nat → ClassId} {D : va_G} {qo : Nat} (hF : LWf ad cA D qo s) {G : AG} (hR : Rel G) {H : Heap} {locs : List Loc} (hw : LWw ad cA D qo s G H locs) {cells slots : Nat} (hcs : cells ≤ 601024 ∧ slots ≤ 7293034) {i : Nat} (hi : i + 5 ≤ L) {ls : Array Slot} (hl : lv_has ls 7 [(0, .ref b), (4, .int (nI i)), (1, .ref (ad 53)), (2, .ref (ad 54)), (3, .ref qo)]) {Q : State → Prop}
    (K : ∀ (G' : AG) (H' : Heap) (locs' : List Loc), Rel G' → LWw ad cA D qo s G' H' locs' → W p l e room_1 s m #[Value.ref b] below meth c H' locs' cells slots Q (F0 m 989 ls [])) :
    W p l e room_1 s m #[Value.ref b] below meth c H locs cells slots Q (F0 m 622 ls []) := by
  have hx := C0.1
  have hb := C0.2.1
  obtain ⟨r, GX, GM, h1, h2, h3, h4⟩ := pair_wrong hR 
  obtain ⟨z, rfl⟩ := ret_int h1 (Or.inl rfl)
  refine lv_aload_n hx hb dl_622 rfl (lv_at hl 2 rfl) ?_
  refine lw_calli (as := []) (a := 53) (rest := []) C0 hF hw hcs hl.1 (Nat.le_of_ble_eq_true rfl) tl_623 rfl rfl h1 (Nat.le_of_ble_eq_true rfl) rfl rfl (fun H locs hw => ?_)
  refine lv_aload_n hx hb dl_626 rfl (lv_at hl 3 rfl) ?_
  refine lw_calli (as := []) (a := 54) (rest := [.int (am_i z)]) C0 hF hw hcs hl.1 (Nat.le_of_ble_eq_true rfl) tl_627 rfl rfl h2 (Nat.le_of_ble_eq_true rfl) rfl rfl (fun H locs hw => ?_)
  exact lv_icmp_eq (tgt := 989) hx hb dl_630 (by decide) (fun _ => K GM H locs h3 hw) (fun hne => absurd rfl hne)
