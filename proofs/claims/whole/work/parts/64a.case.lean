theorem la_pick (px : Int32) : ∃ j : Nat, j < 4 ∧ (¬ f_X7_isSlot px = 0 → px.toNatClampNeg = j) := by
  by_cases h : f_X7_isSlot px = 0
  · exact ⟨0, by decide, fun q => absurd h q⟩
  · exact ⟨px.toNatClampNeg, (ix_slot h).2, fun _ => rfl⟩
set_option maxHeartbeats 400000000 in
set_option maxRecDepth 100000 in
theorem lc_put {p : Program} {l : Launch} {e : Env} {s : State} {m : MethodId} {below : List Frame} {meth : Method} {c : Code} {b L : Nat} {sc : Nat → Int32} {D : va_G} {cy : Nat → ClassId} {ta tc : Nat} {ua ub : Nat → Nat} (hL : L ≤ 4096) (C0 : lw_At p s m meth c b L sc) (hK : va_K D vwCl (yk_ty cy) s) (hG : yk_G (fun q : Nat => s.heap.size ≤ q) s s.heap) {i : Nat} (hi : i + 8 ≤ L) {H : Heap} {locs : List Loc} {ls : Array Slot} (hI : LI D cy ta tc ua ub s H locs) (hl : lv_has ls 4 [(0, .ref b), (1, .ref ta), (2, .ref tc), (3, .int (nI i))]) (kk : ∀ (H : Heap) (locs : List Loc), LI D cy ta tc ua ub s H locs → W p l e room_1 s m #[Value.ref b] below meth c H locs 99 2219 (lw_Z below #[Value.ref b] s) (F0 m 1436 ls [])) : W p l e room_1 s m #[Value.ref b] below meth c H locs 99 2219 (lw_Z below #[Value.ref b] s) (F0 m 200 ls []) := by
  obtain ⟨hx, hb, hr, hml, hown, hts, hX, hbl, hlocks, hgv⟩ := C0
  have hb : c.code = cL_law := hb
  have hown : s.vm.findClass RL = some m.cls := hown
  have hA : ∀ q : Nat, s.heap.size ≤ q → (fun q : Nat => s.heap.size ≤ q) q := fun _ h => h
  have hbA : ¬ (fun q : Nat => s.heap.size ≤ q) b := Nat.not_le.mpr hbl
  obtain ⟨fi, fu, fv, du, dv, xs, ys, n, co, la, sk, su, sv, hh, bi, mz, ax, bx, cx, ay, by_, cy_, aw, bw, cw, ch, tb, rw, nw, un, sl, mk, hs, sb, ss, sh, uu, fj, fr, aa, bb, dd, ro, rt, db, sg, an, mn, c8, t8, cr, hfe, h, hp, hS1, hH, hP, hD, hS⟩ := hI
  subst hfe
  refine lv_aload_n hx hb dL_law_200 rfl (lv_at hl 1 rfl) ?_
  refine la_arg (k := 1) hx hb hX hbl hbA hS hl hL hi (by decide) (by decide) dL_law_201 dL_law_202 dL_law_203 dL_law_204 dL_law_205 ?_
  refine la_bool hx hb dL_law_206 dL_law_209 dL_law_210 dL_law_213 ?_
  refine la_arg (k := 2) hx hb hX hbl hbA hS hl hL hi (by decide) (by decide) dL_law_214 dL_law_215 dL_law_216 dL_law_217 dL_law_218 ?_
  refine la_arg (k := 3) hx hb hX hbl hbA hS hl hL hi (by decide) (by decide) dL_law_219 dL_law_220 dL_law_221 dL_law_222 dL_law_223 ?_
  have hE := e_put (du := du) (dv := dv) h hp fi (bz (sc (i + 1))) (sc (i + 2)) (sc (i + 3))
  refine la_ci (ci := 7) (q0 := 0) (qq := (RX7, TX7, 13)) (rest := []) ⟨hx, hb, hml, hown, hts⟩ hP hD hS hA hK hG (k7_put l D cy ta tc ua ub _ _ _ _ _ _ _ _ _ _ _ _ _ _ _ _ _ _ _ _ _ _ _ _ _ _ _ _ _ _ _ _ _ _ _ _ _ _ _ _ _ _ _ _ _ _ _ _ _ _ _ (bz (sc (i + 1))) (sc (i + 2)) (sc (i + 3)) h.2.2.1 hp.2.1 hp.2.2.1) (cwV 3 hts gw_X7_put rfl rfl rfl (by decide +kernel) ⟨Nat.le_of_ble_eq_true rfl, Nat.le_of_ble_eq_true rfl⟩) rfl rfl ((wl_fst cy ta tc ua ub _ _ _ _ _ _ _ _ _ _ _ _ _ _ _ _ _ _ _ _ _ _ _ _ _ _ _ _ _ _ _ _ _ _ _ _ _ _ _ _ _ _ _ _ _ _ _ _ _ _ _).trans (wl_fst cy ta tc ua ub _ _ _ _ _ _ _ _ _ _ _ _ _ _ _ _ _ _ _ _ _ _ _ _ _ _ _ _ _ _ _ _ _ _ _ _ _ _ _ _ _ _ _ _ _ _ _ _ _ _ _).symm) rfl hl.1 rfl (by decide) dL_law_224 ⟨Nat.le_of_ble_eq_true rfl, Nat.le_of_ble_eq_true rfl⟩ (fun H locs hP hD hS => ?_)
  refine lv_aload_n hx hb dL_law_227 rfl (lv_at hl 2 rfl) ?_
  refine la_arg (k := 1) hx hb hX hbl hbA hS hl hL hi (by decide) (by decide) dL_law_228 dL_law_229 dL_law_230 dL_law_231 dL_law_232 ?_
  refine la_bool hx hb dL_law_233 dL_law_236 dL_law_237 dL_law_240 ?_
  refine la_arg (k := 2) hx hb hX hbl hbA hS hl hL hi (by decide) (by decide) dL_law_241 dL_law_242 dL_law_243 dL_law_244 dL_law_245 ?_
  refine la_arg (k := 3) hx hb hX hbl hbA hS hl hL hi (by decide) (by decide) dL_law_246 dL_law_247 dL_law_248 dL_law_249 dL_law_250 ?_
  refine la_ci (ci := 8) (q0 := 83) (qq := (RX8, TX8, 23)) (rest := [.int _]) ⟨hx, hb, hml, hown, hts⟩ hP hD hS hA hK hG (k8_put l D cy ta tc ua ub _ _ _ _ _ _ _ _ _ _ _ _ _ _ _ _ _ _ _ _ _ _ _ _ _ _ _ _ _ _ _ _ _ _ _ _ _ _ _ _ _ _ _ _ _ _ _ _ _ _ _ (bz (sc (i + 1))) (sc (i + 2)) (sc (i + 3)) (by rw [hp.1]; exact hp.2.1)) (cwV 3 hts gw_X8_put rfl rfl rfl (by decide +kernel) ⟨Nat.le_of_ble_eq_true rfl, Nat.le_of_ble_eq_true rfl⟩) rfl rfl ((wl_fst cy ta tc ua ub _ _ _ _ _ _ _ _ _ _ _ _ _ _ _ _ _ _ _ _ _ _ _ _ _ _ _ _ _ _ _ _ _ _ _ _ _ _ _ _ _ _ _ _ _ _ _ _ _ _ _).trans (wl_fst cy ta tc ua ub _ _ _ _ _ _ _ _ _ _ _ _ _ _ _ _ _ _ _ _ _ _ _ _ _ _ _ _ _ _ _ _ _ _ _ _ _ _ _ _ _ _ _ _ _ _ _ _ _ _ _).symm) rfl hl.1 rfl (Nat.le_of_ble_eq_true rfl) dL_law_251 ⟨Nat.le_of_ble_eq_true rfl, Nat.le_of_ble_eq_true rfl⟩ (fun H locs hP hD hS => ?_)
  refine lv_icmp_eq (tgt := 1436) hx hb dL_law_254 (by decide) (fun _ => ?_) (fun hc => absurd (hE.1) hc)
  exact kk H locs ⟨_, _, _, _, _, _, _, _, _, _, _, _, _, _, _, _, _, _, _, _, _, _, _, _, _, _, _, _, _, _, _, _, _, _, _, _, _, _, _, _, _, _, _, _, _, _, _, _, _, _, _, hE.2.1, hE.2.2.1, hE.2.2.2, hS1, hH, hP, hD, hS⟩
set_option maxHeartbeats 400000000 in
set_option maxRecDepth 100000 in
theorem lc_number {p : Program} {l : Launch} {e : Env} {s : State} {m : MethodId} {below : List Frame} {meth : Method} {c : Code} {b L : Nat} {sc : Nat → Int32} {D : va_G} {cy : Nat → ClassId} {ta tc : Nat} {ua ub : Nat → Nat} (hL : L ≤ 4096) (C0 : lw_At p s m meth c b L sc) (hK : va_K D vwCl (yk_ty cy) s) (hG : yk_G (fun q : Nat => s.heap.size ≤ q) s s.heap) {i : Nat} (hi : i + 8 ≤ L) {H : Heap} {locs : List Loc} {ls : Array Slot} (hI : LI D cy ta tc ua ub s H locs) (hl : lv_has ls 4 [(0, .ref b), (1, .ref ta), (2, .ref tc), (3, .int (nI i))]) (kk : ∀ (H : Heap) (locs : List Loc), LI D cy ta tc ua ub s H locs → W p l e room_1 s m #[Value.ref b] below meth c H locs 99 2219 (lw_Z below #[Value.ref b] s) (F0 m 1436 ls [])) : W p l e room_1 s m #[Value.ref b] below meth c H locs 99 2219 (lw_Z below #[Value.ref b] s) (F0 m 259 ls []) := by
  obtain ⟨hx, hb, hr, hml, hown, hts, hX, hbl, hlocks, hgv⟩ := C0
  have hb : c.code = cL_law := hb
  have hown : s.vm.findClass RL = some m.cls := hown
  have hA : ∀ q : Nat, s.heap.size ≤ q → (fun q : Nat => s.heap.size ≤ q) q := fun _ h => h
  have hbA : ¬ (fun q : Nat => s.heap.size ≤ q) b := Nat.not_le.mpr hbl
  obtain ⟨fi, fu, fv, du, dv, xs, ys, n, co, la, sk, su, sv, hh, bi, mz, ax, bx, cx, ay, by_, cy_, aw, bw, cw, ch, tb, rw, nw, un, sl, mk, hs, sb, ss, sh, uu, fj, fr, aa, bb, dd, ro, rt, db, sg, an, mn, c8, t8, cr, hfe, h, hp, hS1, hH, hP, hD, hS⟩ := hI
  subst hfe
  refine lv_aload_n hx hb dL_law_259 rfl (lv_at hl 1 rfl) ?_
  refine la_arg (k := 1) hx hb hX hbl hbA hS hl hL hi (by decide) (by decide) dL_law_260 dL_law_261 dL_law_262 dL_law_263 dL_law_264 ?_
  refine la_bool hx hb dL_law_265 dL_law_268 dL_law_269 dL_law_272 ?_
  refine la_arg (k := 2) hx hb hX hbl hbA hS hl hL hi (by decide) (by decide) dL_law_273 dL_law_274 dL_law_275 dL_law_276 dL_law_277 ?_
  have hE := e_numb h fi (bz (sc (i + 1))) (sc (i + 2))
  refine la_ci (ci := 7) (q0 := 0) (qq := (RX7, TX7, 13)) (rest := []) ⟨hx, hb, hml, hown, hts⟩ hP hD hS hA hK hG (k7_number l D cy ta tc ua ub _ _ _ _ _ _ _ _ _ _ _ _ _ _ _ _ _ _ _ _ _ _ _ _ _ _ _ _ _ _ _ _ _ _ _ _ _ _ _ _ _ _ _ _ _ _ _ _ _ _ _ (bz (sc (i + 1))) (sc (i + 2))) (cwV 2 hts gw_X7_number rfl rfl rfl (by decide +kernel) ⟨Nat.le_of_ble_eq_true rfl, Nat.le_of_ble_eq_true rfl⟩) rfl rfl ((wl_fst cy ta tc ua ub _ _ _ _ _ _ _ _ _ _ _ _ _ _ _ _ _ _ _ _ _ _ _ _ _ _ _ _ _ _ _ _ _ _ _ _ _ _ _ _ _ _ _ _ _ _ _ _ _ _ _).trans (wl_fst cy ta tc ua ub _ _ _ _ _ _ _ _ _ _ _ _ _ _ _ _ _ _ _ _ _ _ _ _ _ _ _ _ _ _ _ _ _ _ _ _ _ _ _ _ _ _ _ _ _ _ _ _ _ _ _).symm) rfl hl.1 rfl (by decide) dL_law_278 ⟨Nat.le_of_ble_eq_true rfl, Nat.le_of_ble_eq_true rfl⟩ (fun H locs hP hD hS => ?_)
  refine lv_aload_n hx hb dL_law_281 rfl (lv_at hl 2 rfl) ?_
  refine la_arg (k := 1) hx hb hX hbl hbA hS hl hL hi (by decide) (by decide) dL_law_282 dL_law_283 dL_law_284 dL_law_285 dL_law_286 ?_
  refine la_bool hx hb dL_law_287 dL_law_290 dL_law_291 dL_law_294 ?_
  refine la_arg (k := 2) hx hb hX hbl hbA hS hl hL hi (by decide) (by decide) dL_law_295 dL_law_296 dL_law_297 dL_law_298 dL_law_299 ?_
  refine la_ci (ci := 8) (q0 := 83) (qq := (RX8, TX8, 23)) (rest := [.int _]) ⟨hx, hb, hml, hown, hts⟩ hP hD hS hA hK hG (k8_number l D cy ta tc ua ub _ _ _ _ _ _ _ _ _ _ _ _ _ _ _ _ _ _ _ _ _ _ _ _ _ _ _ _ _ _ _ _ _ _ _ _ _ _ _ _ _ _ _ _ _ _ _ _ _ _ _ (bz (sc (i + 1))) (sc (i + 2))) (cwV 2 hts gw_X8_number rfl rfl rfl (by decide +kernel) ⟨Nat.le_of_ble_eq_true rfl, Nat.le_of_ble_eq_true rfl⟩) rfl rfl ((wl_fst cy ta tc ua ub _ _ _ _ _ _ _ _ _ _ _ _ _ _ _ _ _ _ _ _ _ _ _ _ _ _ _ _ _ _ _ _ _ _ _ _ _ _ _ _ _ _ _ _ _ _ _ _ _ _ _).trans (wl_fst cy ta tc ua ub _ _ _ _ _ _ _ _ _ _ _ _ _ _ _ _ _ _ _ _ _ _ _ _ _ _ _ _ _ _ _ _ _ _ _ _ _ _ _ _ _ _ _ _ _ _ _ _ _ _ _).symm) rfl hl.1 rfl (Nat.le_of_ble_eq_true rfl) dL_law_300 ⟨Nat.le_of_ble_eq_true rfl, Nat.le_of_ble_eq_true rfl⟩ (fun H locs hP hD hS => ?_)
  refine lv_icmp_eq (tgt := 1436) hx hb dL_law_303 (by decide) (fun _ => ?_) (fun hc => absurd (congrArg Prod.fst hE) hc)
  exact kk H locs ⟨_, _, _, _, _, _, _, _, _, _, _, _, _, _, _, _, _, _, _, _, _, _, _, _, _, _, _, _, _, _, _, _, _, _, _, _, _, _, _, _, _, _, _, _, _, _, _, _, _, _, _, congrArg Prod.snd hE, h, hp, hS1, hH, hP, hD, hS⟩
set_option maxHeartbeats 400000000 in
set_option maxRecDepth 100000 in
theorem lc_speed {p : Program} {l : Launch} {e : Env} {s : State} {m : MethodId} {below : List Frame} {meth : Method} {c : Code} {b L : Nat} {sc : Nat → Int32} {D : va_G} {cy : Nat → ClassId} {ta tc : Nat} {ua ub : Nat → Nat} (hL : L ≤ 4096) (C0 : lw_At p s m meth c b L sc) (hK : va_K D vwCl (yk_ty cy) s) (hG : yk_G (fun q : Nat => s.heap.size ≤ q) s s.heap) {i : Nat} (hi : i + 8 ≤ L) {H : Heap} {locs : List Loc} {ls : Array Slot} (hI : LI D cy ta tc ua ub s H locs) (hl : lv_has ls 4 [(0, .ref b), (1, .ref ta), (2, .ref tc), (3, .int (nI i))]) (kk : ∀ (H : Heap) (locs : List Loc), LI D cy ta tc ua ub s H locs → W p l e room_1 s m #[Value.ref b] below meth c H locs 99 2219 (lw_Z below #[Value.ref b] s) (F0 m 1436 ls [])) : W p l e room_1 s m #[Value.ref b] below meth c H locs 99 2219 (lw_Z below #[Value.ref b] s) (F0 m 308 ls []) := by
  obtain ⟨hx, hb, hr, hml, hown, hts, hX, hbl, hlocks, hgv⟩ := C0
  have hb : c.code = cL_law := hb
  have hown : s.vm.findClass RL = some m.cls := hown
  have hA : ∀ q : Nat, s.heap.size ≤ q → (fun q : Nat => s.heap.size ≤ q) q := fun _ h => h
  have hbA : ¬ (fun q : Nat => s.heap.size ≤ q) b := Nat.not_le.mpr hbl
  obtain ⟨fi, fu, fv, du, dv, xs, ys, n, co, la, sk, su, sv, hh, bi, mz, ax, bx, cx, ay, by_, cy_, aw, bw, cw, ch, tb, rw, nw, un, sl, mk, hs, sb, ss, sh, uu, fj, fr, aa, bb, dd, ro, rt, db, sg, an, mn, c8, t8, cr, hfe, h, hp, hS1, hH, hP, hD, hS⟩ := hI
  subst hfe
  refine lv_aload_n hx hb dL_law_308 rfl (lv_at hl 1 rfl) ?_
  refine la_arg (k := 1) hx hb hX hbl hbA hS hl hL hi (by decide) (by decide) dL_law_309 dL_law_310 dL_law_311 dL_law_312 dL_law_313 ?_
  refine la_arg (k := 2) hx hb hX hbl hbA hS hl hL hi (by decide) (by decide) dL_law_314 dL_law_315 dL_law_316 dL_law_317 dL_law_318 ?_
  refine la_arg (k := 3) hx hb hX hbl hbA hS hl hL hi (by decide) (by decide) dL_law_319 dL_law_320 dL_law_321 dL_law_322 dL_law_323 ?_
  refine la_bool hx hb dL_law_324 dL_law_327 dL_law_328 dL_law_331 ?_
  have hE := e_speed h fi (sc (i + 1)) (sc (i + 2)) (bz (sc (i + 3)))
  refine la_ci (ci := 7) (q0 := 0) (qq := (RX7, TX7, 13)) (rest := []) ⟨hx, hb, hml, hown, hts⟩ hP hD hS hA hK hG (k7_speed l D cy ta tc ua ub _ _ _ _ _ _ _ _ _ _ _ _ _ _ _ _ _ _ _ _ _ _ _ _ _ _ _ _ _ _ _ _ _ _ _ _ _ _ _ _ _ _ _ _ _ _ _ _ _ _ _ (sc (i + 1)) (sc (i + 2)) (bz (sc (i + 3)))) (cwV 3 hts gw_X7_speed rfl rfl rfl (by decide +kernel) ⟨Nat.le_of_ble_eq_true rfl, Nat.le_of_ble_eq_true rfl⟩) rfl rfl ((wl_fst cy ta tc ua ub _ _ _ _ _ _ _ _ _ _ _ _ _ _ _ _ _ _ _ _ _ _ _ _ _ _ _ _ _ _ _ _ _ _ _ _ _ _ _ _ _ _ _ _ _ _ _ _ _ _ _).trans (wl_fst cy ta tc ua ub _ _ _ _ _ _ _ _ _ _ _ _ _ _ _ _ _ _ _ _ _ _ _ _ _ _ _ _ _ _ _ _ _ _ _ _ _ _ _ _ _ _ _ _ _ _ _ _ _ _ _).symm) rfl hl.1 rfl (by decide) dL_law_332 ⟨Nat.le_of_ble_eq_true rfl, Nat.le_of_ble_eq_true rfl⟩ (fun H locs hP hD hS => ?_)
  refine lv_aload_n hx hb dL_law_335 rfl (lv_at hl 2 rfl) ?_
  refine la_arg (k := 1) hx hb hX hbl hbA hS hl hL hi (by decide) (by decide) dL_law_336 dL_law_337 dL_law_338 dL_law_339 dL_law_340 ?_
  refine la_arg (k := 2) hx hb hX hbl hbA hS hl hL hi (by decide) (by decide) dL_law_341 dL_law_342 dL_law_343 dL_law_344 dL_law_345 ?_
  refine la_arg (k := 3) hx hb hX hbl hbA hS hl hL hi (by decide) (by decide) dL_law_346 dL_law_347 dL_law_348 dL_law_349 dL_law_350 ?_
  refine la_bool hx hb dL_law_351 dL_law_354 dL_law_355 dL_law_358 ?_
  refine la_ci (ci := 8) (q0 := 83) (qq := (RX8, TX8, 23)) (rest := [.int _]) ⟨hx, hb, hml, hown, hts⟩ hP hD hS hA hK hG (k8_speed l D cy ta tc ua ub _ _ _ _ _ _ _ _ _ _ _ _ _ _ _ _ _ _ _ _ _ _ _ _ _ _ _ _ _ _ _ _ _ _ _ _ _ _ _ _ _ _ _ _ _ _ _ _ _ _ _ (sc (i + 1)) (sc (i + 2)) (bz (sc (i + 3)))) (cwV 3 hts gw_X8_speed rfl rfl rfl (by decide +kernel) ⟨Nat.le_of_ble_eq_true rfl, Nat.le_of_ble_eq_true rfl⟩) rfl rfl ((wl_fst cy ta tc ua ub _ _ _ _ _ _ _ _ _ _ _ _ _ _ _ _ _ _ _ _ _ _ _ _ _ _ _ _ _ _ _ _ _ _ _ _ _ _ _ _ _ _ _ _ _ _ _ _ _ _ _).trans (wl_fst cy ta tc ua ub _ _ _ _ _ _ _ _ _ _ _ _ _ _ _ _ _ _ _ _ _ _ _ _ _ _ _ _ _ _ _ _ _ _ _ _ _ _ _ _ _ _ _ _ _ _ _ _ _ _ _).symm) rfl hl.1 rfl (Nat.le_of_ble_eq_true rfl) dL_law_359 ⟨Nat.le_of_ble_eq_true rfl, Nat.le_of_ble_eq_true rfl⟩ (fun H locs hP hD hS => ?_)
  refine lv_icmp_eq (tgt := 1436) hx hb dL_law_362 (by decide) (fun _ => ?_) (fun hc => absurd (congrArg Prod.fst hE) hc)
  exact kk H locs ⟨_, _, _, _, _, _, _, _, _, _, _, _, _, _, _, _, _, _, _, _, _, _, _, _, _, _, _, _, _, _, _, _, _, _, _, _, _, _, _, _, _, _, _, _, _, _, _, _, _, _, _, congrArg Prod.snd hE, h, hp, hS1, hH, hP, hD, hS⟩
set_option maxHeartbeats 400000000 in
set_option maxRecDepth 100000 in
theorem lc_slope {p : Program} {l : Launch} {e : Env} {s : State} {m : MethodId} {below : List Frame} {meth : Method} {c : Code} {b L : Nat} {sc : Nat → Int32} {D : va_G} {cy : Nat → ClassId} {ta tc : Nat} {ua ub : Nat → Nat} (hL : L ≤ 4096) (C0 : lw_At p s m meth c b L sc) (hK : va_K D vwCl (yk_ty cy) s) (hG : yk_G (fun q : Nat => s.heap.size ≤ q) s s.heap) {i : Nat} (hi : i + 8 ≤ L) {H : Heap} {locs : List Loc} {ls : Array Slot} (hI : LI D cy ta tc ua ub s H locs) (hl : lv_has ls 4 [(0, .ref b), (1, .ref ta), (2, .ref tc), (3, .int (nI i))]) (kk : ∀ (H : Heap) (locs : List Loc), LI D cy ta tc ua ub s H locs → W p l e room_1 s m #[Value.ref b] below meth c H locs 99 2219 (lw_Z below #[Value.ref b] s) (F0 m 1436 ls [])) : W p l e room_1 s m #[Value.ref b] below meth c H locs 99 2219 (lw_Z below #[Value.ref b] s) (F0 m 367 ls []) := by
  obtain ⟨hx, hb, hr, hml, hown, hts, hX, hbl, hlocks, hgv⟩ := C0
  have hb : c.code = cL_law := hb
  have hown : s.vm.findClass RL = some m.cls := hown
  have hA : ∀ q : Nat, s.heap.size ≤ q → (fun q : Nat => s.heap.size ≤ q) q := fun _ h => h
  have hbA : ¬ (fun q : Nat => s.heap.size ≤ q) b := Nat.not_le.mpr hbl
  obtain ⟨fi, fu, fv, du, dv, xs, ys, n, co, la, sk, su, sv, hh, bi, mz, ax, bx, cx, ay, by_, cy_, aw, bw, cw, ch, tb, rw, nw, un, sl, mk, hs, sb, ss, sh, uu, fj, fr, aa, bb, dd, ro, rt, db, sg, an, mn, c8, t8, cr, hfe, h, hp, hS1, hH, hP, hD, hS⟩ := hI
  subst hfe
  refine lv_aload_n hx hb dL_law_367 rfl (lv_at hl 1 rfl) ?_
  refine la_arg (k := 1) hx hb hX hbl hbA hS hl hL hi (by decide) (by decide) dL_law_368 dL_law_369 dL_law_370 dL_law_371 dL_law_372 ?_
  refine la_arg (k := 2) hx hb hX hbl hbA hS hl hL hi (by decide) (by decide) dL_law_373 dL_law_374 dL_law_375 dL_law_376 dL_law_377 ?_
  refine la_arg (k := 3) hx hb hX hbl hbA hS hl hL hi (by decide) (by decide) dL_law_378 dL_law_379 dL_law_380 dL_law_381 dL_law_382 ?_
  have hE := e_slope h fi (sc (i + 1)) (sc (i + 2)) (sc (i + 3))
  refine la_ci (ci := 7) (q0 := 0) (qq := (RX7, TX7, 13)) (rest := []) ⟨hx, hb, hml, hown, hts⟩ hP hD hS hA hK hG (k7_slope l D cy ta tc ua ub _ _ _ _ _ _ _ _ _ _ _ _ _ _ _ _ _ _ _ _ _ _ _ _ _ _ _ _ _ _ _ _ _ _ _ _ _ _ _ _ _ _ _ _ _ _ _ _ _ _ _ (sc (i + 1)) (sc (i + 2)) (sc (i + 3))) (cwV 3 hts gw_X7_slope rfl rfl rfl (by decide +kernel) ⟨Nat.le_of_ble_eq_true rfl, Nat.le_of_ble_eq_true rfl⟩) rfl rfl ((wl_fst cy ta tc ua ub _ _ _ _ _ _ _ _ _ _ _ _ _ _ _ _ _ _ _ _ _ _ _ _ _ _ _ _ _ _ _ _ _ _ _ _ _ _ _ _ _ _ _ _ _ _ _ _ _ _ _).trans (wl_fst cy ta tc ua ub _ _ _ _ _ _ _ _ _ _ _ _ _ _ _ _ _ _ _ _ _ _ _ _ _ _ _ _ _ _ _ _ _ _ _ _ _ _ _ _ _ _ _ _ _ _ _ _ _ _ _).symm) rfl hl.1 rfl (by decide) dL_law_383 ⟨Nat.le_of_ble_eq_true rfl, Nat.le_of_ble_eq_true rfl⟩ (fun H locs hP hD hS => ?_)
  refine lv_aload_n hx hb dL_law_386 rfl (lv_at hl 2 rfl) ?_
  refine la_arg (k := 1) hx hb hX hbl hbA hS hl hL hi (by decide) (by decide) dL_law_387 dL_law_388 dL_law_389 dL_law_390 dL_law_391 ?_
  refine la_arg (k := 2) hx hb hX hbl hbA hS hl hL hi (by decide) (by decide) dL_law_392 dL_law_393 dL_law_394 dL_law_395 dL_law_396 ?_
  refine la_arg (k := 3) hx hb hX hbl hbA hS hl hL hi (by decide) (by decide) dL_law_397 dL_law_398 dL_law_399 dL_law_400 dL_law_401 ?_
  refine la_ci (ci := 8) (q0 := 83) (qq := (RX8, TX8, 23)) (rest := [.int _]) ⟨hx, hb, hml, hown, hts⟩ hP hD hS hA hK hG (k8_slope l D cy ta tc ua ub _ _ _ _ _ _ _ _ _ _ _ _ _ _ _ _ _ _ _ _ _ _ _ _ _ _ _ _ _ _ _ _ _ _ _ _ _ _ _ _ _ _ _ _ _ _ _ _ _ _ _ (sc (i + 1)) (sc (i + 2)) (sc (i + 3))) (cwV 3 hts gw_X8_slope rfl rfl rfl (by decide +kernel) ⟨Nat.le_of_ble_eq_true rfl, Nat.le_of_ble_eq_true rfl⟩) rfl rfl ((wl_fst cy ta tc ua ub _ _ _ _ _ _ _ _ _ _ _ _ _ _ _ _ _ _ _ _ _ _ _ _ _ _ _ _ _ _ _ _ _ _ _ _ _ _ _ _ _ _ _ _ _ _ _ _ _ _ _).trans (wl_fst cy ta tc ua ub _ _ _ _ _ _ _ _ _ _ _ _ _ _ _ _ _ _ _ _ _ _ _ _ _ _ _ _ _ _ _ _ _ _ _ _ _ _ _ _ _ _ _ _ _ _ _ _ _ _ _).symm) rfl hl.1 rfl (Nat.le_of_ble_eq_true rfl) dL_law_402 ⟨Nat.le_of_ble_eq_true rfl, Nat.le_of_ble_eq_true rfl⟩ (fun H locs hP hD hS => ?_)
  refine lv_icmp_eq (tgt := 1436) hx hb dL_law_405 (by decide) (fun _ => ?_) (fun hc => absurd (congrArg Prod.fst hE) hc)
  exact kk H locs ⟨_, _, _, _, _, _, _, _, _, _, _, _, _, _, _, _, _, _, _, _, _, _, _, _, _, _, _, _, _, _, _, _, _, _, _, _, _, _, _, _, _, _, _, _, _, _, _, _, _, _, _, congrArg Prod.snd hE, h, hp, hS1, hH, hP, hD, hS⟩
set_option maxHeartbeats 400000000 in
set_option maxRecDepth 100000 in
theorem lc_back {p : Program} {l : Launch} {e : Env} {s : State} {m : MethodId} {below : List Frame} {meth : Method} {c : Code} {b L : Nat} {sc : Nat → Int32} {D : va_G} {cy : Nat → ClassId} {ta tc : Nat} {ua ub : Nat → Nat} (hL : L ≤ 4096) (C0 : lw_At p s m meth c b L sc) (hK : va_K D vwCl (yk_ty cy) s) (hG : yk_G (fun q : Nat => s.heap.size ≤ q) s s.heap) {i : Nat} (hi : i + 8 ≤ L) {H : Heap} {locs : List Loc} {ls : Array Slot} (hI : LI D cy ta tc ua ub s H locs) (hl : lv_has ls 4 [(0, .ref b), (1, .ref ta), (2, .ref tc), (3, .int (nI i))]) (kk : ∀ (H : Heap) (locs : List Loc), LI D cy ta tc ua ub s H locs → W p l e room_1 s m #[Value.ref b] below meth c H locs 99 2219 (lw_Z below #[Value.ref b] s) (F0 m 1436 ls [])) : W p l e room_1 s m #[Value.ref b] below meth c H locs 99 2219 (lw_Z below #[Value.ref b] s) (F0 m 410 ls []) := by
  obtain ⟨hx, hb, hr, hml, hown, hts, hX, hbl, hlocks, hgv⟩ := C0
  have hb : c.code = cL_law := hb
  have hown : s.vm.findClass RL = some m.cls := hown
  have hA : ∀ q : Nat, s.heap.size ≤ q → (fun q : Nat => s.heap.size ≤ q) q := fun _ h => h
  have hbA : ¬ (fun q : Nat => s.heap.size ≤ q) b := Nat.not_le.mpr hbl
  obtain ⟨fi, fu, fv, du, dv, xs, ys, n, co, la, sk, su, sv, hh, bi, mz, ax, bx, cx, ay, by_, cy_, aw, bw, cw, ch, tb, rw, nw, un, sl, mk, hs, sb, ss, sh, uu, fj, fr, aa, bb, dd, ro, rt, db, sg, an, mn, c8, t8, cr, hfe, h, hp, hS1, hH, hP, hD, hS⟩ := hI
  subst hfe
  refine lv_aload_n hx hb dL_law_410 rfl (lv_at hl 1 rfl) ?_
  have hE := e_back (du := du) (dv := dv) h hp
  refine la_ci (ci := 7) (q0 := 0) (qq := (RX7, TX7, 13)) (rest := []) ⟨hx, hb, hml, hown, hts⟩ hP hD hS hA hK hG (k7_back l D cy ta tc ua ub _ _ _ _ _ _ _ _ _ _ _ _ _ _ _ _ _ _ _ _ _ _ _ _ _ _ _ _ _ _ _ _ _ _ _ _ _ _ _ _ _ _ _ _ _ _ _ _ _ _ _ h.2.2.1 hp.2.1 hp.2.2.1) (cwV 0 hts gw_X7_back rfl rfl rfl (by decide +kernel) ⟨Nat.le_of_ble_eq_true rfl, Nat.le_of_ble_eq_true rfl⟩) rfl rfl ((wl_fst cy ta tc ua ub _ _ _ _ _ _ _ _ _ _ _ _ _ _ _ _ _ _ _ _ _ _ _ _ _ _ _ _ _ _ _ _ _ _ _ _ _ _ _ _ _ _ _ _ _ _ _ _ _ _ _).trans (wl_fst cy ta tc ua ub _ _ _ _ _ _ _ _ _ _ _ _ _ _ _ _ _ _ _ _ _ _ _ _ _ _ _ _ _ _ _ _ _ _ _ _ _ _ _ _ _ _ _ _ _ _ _ _ _ _ _).symm) rfl hl.1 rfl (by decide) dL_law_411 ⟨Nat.le_of_ble_eq_true rfl, Nat.le_of_ble_eq_true rfl⟩ (fun H locs hP hD hS => ?_)
  refine lv_aload_n hx hb dL_law_414 rfl (lv_at hl 2 rfl) ?_
  refine la_ci (ci := 8) (q0 := 83) (qq := (RX8, TX8, 23)) (rest := [.int _]) ⟨hx, hb, hml, hown, hts⟩ hP hD hS hA hK hG (k8_back l D cy ta tc ua ub _ _ _ _ _ _ _ _ _ _ _ _ _ _ _ _ _ _ _ _ _ _ _ _ _ _ _ _ _ _ _ _ _ _ _ _ _ _ _ _ _ _ _ _ _ _ _ _ _ _ _ (by rw [hp.1]; exact hp.2.1)) (cwV 0 hts gw_X8_back rfl rfl rfl (by decide +kernel) ⟨Nat.le_of_ble_eq_true rfl, Nat.le_of_ble_eq_true rfl⟩) rfl rfl ((wl_fst cy ta tc ua ub _ _ _ _ _ _ _ _ _ _ _ _ _ _ _ _ _ _ _ _ _ _ _ _ _ _ _ _ _ _ _ _ _ _ _ _ _ _ _ _ _ _ _ _ _ _ _ _ _ _ _).trans (wl_fst cy ta tc ua ub _ _ _ _ _ _ _ _ _ _ _ _ _ _ _ _ _ _ _ _ _ _ _ _ _ _ _ _ _ _ _ _ _ _ _ _ _ _ _ _ _ _ _ _ _ _ _ _ _ _ _).symm) rfl hl.1 rfl (Nat.le_of_ble_eq_true rfl) dL_law_415 ⟨Nat.le_of_ble_eq_true rfl, Nat.le_of_ble_eq_true rfl⟩ (fun H locs hP hD hS => ?_)
  refine lv_icmp_eq (tgt := 1436) hx hb dL_law_418 (by decide) (fun _ => ?_) (fun hc => absurd (hE.1) hc)
  exact kk H locs ⟨_, _, _, _, _, _, _, _, _, _, _, _, _, _, _, _, _, _, _, _, _, _, _, _, _, _, _, _, _, _, _, _, _, _, _, _, _, _, _, _, _, _, _, _, _, _, _, _, _, _, _, rfl, hE.2.1, hE.2.2, hS1, hH, hP, hD, hS⟩
set_option maxHeartbeats 400000000 in
set_option maxRecDepth 100000 in
theorem lc_quarter {p : Program} {l : Launch} {e : Env} {s : State} {m : MethodId} {below : List Frame} {meth : Method} {c : Code} {b L : Nat} {sc : Nat → Int32} {D : va_G} {cy : Nat → ClassId} {ta tc : Nat} {ua ub : Nat → Nat} (hL : L ≤ 4096) (C0 : lw_At p s m meth c b L sc) (hK : va_K D vwCl (yk_ty cy) s) (hG : yk_G (fun q : Nat => s.heap.size ≤ q) s s.heap) {i : Nat} (hi : i + 8 ≤ L) {H : Heap} {locs : List Loc} {ls : Array Slot} (hI : LI D cy ta tc ua ub s H locs) (hl : lv_has ls 4 [(0, .ref b), (1, .ref ta), (2, .ref tc), (3, .int (nI i))]) (kk : ∀ (H : Heap) (locs : List Loc), LI D cy ta tc ua ub s H locs → W p l e room_1 s m #[Value.ref b] below meth c H locs 99 2219 (lw_Z below #[Value.ref b] s) (F0 m 1436 ls [])) : W p l e room_1 s m #[Value.ref b] below meth c H locs 99 2219 (lw_Z below #[Value.ref b] s) (F0 m 423 ls []) := by
  obtain ⟨hx, hb, hr, hml, hown, hts, hX, hbl, hlocks, hgv⟩ := C0
  have hb : c.code = cL_law := hb
  have hown : s.vm.findClass RL = some m.cls := hown
  have hA : ∀ q : Nat, s.heap.size ≤ q → (fun q : Nat => s.heap.size ≤ q) q := fun _ h => h
  have hbA : ¬ (fun q : Nat => s.heap.size ≤ q) b := Nat.not_le.mpr hbl
  obtain ⟨fi, fu, fv, du, dv, xs, ys, n, co, la, sk, su, sv, hh, bi, mz, ax, bx, cx, ay, by_, cy_, aw, bw, cw, ch, tb, rw, nw, un, sl, mk, hs, sb, ss, sh, uu, fj, fr, aa, bb, dd, ro, rt, db, sg, an, mn, c8, t8, cr, hfe, h, hp, hS1, hH, hP, hD, hS⟩ := hI
  subst hfe
  refine lv_aload_n hx hb dL_law_423 rfl (lv_at hl 1 rfl) ?_
  have hE := e_quarter (du := du) (dv := dv) h hp fr
  refine la_ci (ci := 7) (q0 := 0) (qq := (RX7, TX7, 13)) (rest := []) ⟨hx, hb, hml, hown, hts⟩ hP hD hS hA hK hG (k7_quarter l D cy ta tc ua ub _ _ _ _ _ _ _ _ _ _ _ _ _ _ _ _ _ _ _ _ _ _ _ _ _ _ _ _ _ _ _ _ _ _ _ _ _ _ _ _ _ _ _ _ _ _ _ _ _ _ _ h.2.2.1 hp.2.1 hp.2.2.1) (cwV 0 hts gw_X7_quarter rfl rfl rfl (by decide +kernel) ⟨Nat.le_of_ble_eq_true rfl, Nat.le_of_ble_eq_true rfl⟩) rfl rfl ((wl_fst cy ta tc ua ub _ _ _ _ _ _ _ _ _ _ _ _ _ _ _ _ _ _ _ _ _ _ _ _ _ _ _ _ _ _ _ _ _ _ _ _ _ _ _ _ _ _ _ _ _ _ _ _ _ _ _).trans (wl_fst cy ta tc ua ub _ _ _ _ _ _ _ _ _ _ _ _ _ _ _ _ _ _ _ _ _ _ _ _ _ _ _ _ _ _ _ _ _ _ _ _ _ _ _ _ _ _ _ _ _ _ _ _ _ _ _).symm) rfl hl.1 rfl (by decide) dL_law_424 ⟨Nat.le_of_ble_eq_true rfl, Nat.le_of_ble_eq_true rfl⟩ (fun H locs hP hD hS => ?_)
  refine lv_aload_n hx hb dL_law_427 rfl (lv_at hl 2 rfl) ?_
  refine la_ci (ci := 8) (q0 := 83) (qq := (RX8, TX8, 23)) (rest := [.int _]) ⟨hx, hb, hml, hown, hts⟩ hP hD hS hA hK hG (k8_quarter l D cy ta tc ua ub _ _ _ _ _ _ _ _ _ _ _ _ _ _ _ _ _ _ _ _ _ _ _ _ _ _ _ _ _ _ _ _ _ _ _ _ _ _ _ _ _ _ _ _ _ _ _ _ _ _ _ (by rw [hp.1]; exact hp.2.1)) (cwV 0 hts gw_X8_quarter rfl rfl rfl (by decide +kernel) ⟨Nat.le_of_ble_eq_true rfl, Nat.le_of_ble_eq_true rfl⟩) rfl rfl ((wl_fst cy ta tc ua ub _ _ _ _ _ _ _ _ _ _ _ _ _ _ _ _ _ _ _ _ _ _ _ _ _ _ _ _ _ _ _ _ _ _ _ _ _ _ _ _ _ _ _ _ _ _ _ _ _ _ _).trans (wl_fst cy ta tc ua ub _ _ _ _ _ _ _ _ _ _ _ _ _ _ _ _ _ _ _ _ _ _ _ _ _ _ _ _ _ _ _ _ _ _ _ _ _ _ _ _ _ _ _ _ _ _ _ _ _ _ _).symm) rfl hl.1 rfl (Nat.le_of_ble_eq_true rfl) dL_law_428 ⟨Nat.le_of_ble_eq_true rfl, Nat.le_of_ble_eq_true rfl⟩ (fun H locs hP hD hS => ?_)
  refine lv_icmp_eq (tgt := 1436) hx hb dL_law_431 (by decide) (fun _ => ?_) (fun hc => absurd (hE.1) hc)
  exact kk H locs ⟨_, _, _, _, _, _, _, _, _, _, _, _, _, _, _, _, _, _, _, _, _, _, _, _, _, _, _, _, _, _, _, _, _, _, _, _, _, _, _, _, _, _, _, _, _, _, _, _, _, _, _, rfl, hE.2.1, hE.2.2, hS1, hH, hP, hD, hS⟩
