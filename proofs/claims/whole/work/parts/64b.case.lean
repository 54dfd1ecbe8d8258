set_option maxHeartbeats 400000000 in
set_option maxRecDepth 100000 in
theorem lc_mirror {p : Program} {l : Launch} {e : Env} {s : State} {m : MethodId} {below : List Frame} {meth : Method} {c : Code} {b L : Nat} {sc : Nat → Int32} {D : va_G} {cy : Nat → ClassId} {ta tc : Nat} {ua ub : Nat → Nat} (hL : L ≤ 4096) (C0 : lw_At p s m meth c b L sc) (hK : va_K D vwCl (yk_ty cy) s) (hG : yk_G (fun q : Nat => s.heap.size ≤ q) s s.heap) {i : Nat} (hi : i + 8 ≤ L) {H : Heap} {locs : List Loc} {ls : Array Slot} (hI : LI D cy ta tc ua ub s H locs) (hl : lv_has ls 4 [(0, .ref b), (1, .ref ta), (2, .ref tc), (3, .int (nI i))]) (kk : ∀ (H : Heap) (locs : List Loc), LI D cy ta tc ua ub s H locs → W p l e room_1 s m #[Value.ref b] below meth c H locs 99 2219 (lw_Z below #[Value.ref b] s) (F0 m 1436 ls [])) : W p l e room_1 s m #[Value.ref b] below meth c H locs 99 2219 (lw_Z below #[Value.ref b] s) (F0 m 436 ls []) := by
  obtain ⟨hx, hb, hr, hml, hown, hts, hX, hbl, hlocks, hgv⟩ := C0
  have hb : c.code = cL_law := hb
  have hown : s.vm.findClass RL = some m.cls := hown
  have hA : ∀ q : Nat, s.heap.size ≤ q → (fun q : Nat => s.heap.size ≤ q) q := fun _ h => h
  have hbA : ¬ (fun q : Nat => s.heap.size ≤ q) b := Nat.not_le.mpr hbl
  obtain ⟨fi, fu, fv, du, dv, xs, ys, n, co, la, sk, su, sv, hh, bi, mz, ax, bx, cx, ay, by_, cy_, aw, bw, cw, ch, tb, rw, nw, un, sl, mk, hs, sb, ss, sh, uu, fj, fr, aa, bb, dd, ro, rt, db, sg, an, mn, c8, t8, cr, hfe, h, hp, hS1, hH, hP, hD, hS⟩ := hI
  subst hfe
  refine lv_aload_n hx hb dL_law_436 rfl (lv_at hl 1 rfl) ?_
  have hE := e_mirror (du := du) (dv := dv) h hp
  refine la_ci (ci := 7) (q0 := 0) (qq := (RX7, TX7, 13)) (rest := []) ⟨hx, hb, hml, hown, hts⟩ hP hD hS hA hK hG (k7_mirror l D cy ta tc ua ub _ _ _ _ _ _ _ _ _ _ _ _ _ _ _ _ _ _ _ _ _ _ _ _ _ _ _ _ _ _ _ _ _ _ _ _ _ _ _ _ _ _ _ _ _ _ _ _ _ _ _ h.2.2.1 hp.2.1 hp.2.2.1) (cwV 0 hts gw_X7_mirror rfl rfl rfl (by decide +kernel) ⟨Nat.le_of_ble_eq_true rfl, Nat.le_of_ble_eq_true rfl⟩) rfl rfl ((wl_fst cy ta tc ua ub _ _ _ _ _ _ _ _ _ _ _ _ _ _ _ _ _ _ _ _ _ _ _ _ _ _ _ _ _ _ _ _ _ _ _ _ _ _ _ _ _ _ _ _ _ _ _ _ _ _ _).trans (wl_fst cy ta tc ua ub _ _ _ _ _ _ _ _ _ _ _ _ _ _ _ _ _ _ _ _ _ _ _ _ _ _ _ _ _ _ _ _ _ _ _ _ _ _ _ _ _ _ _ _ _ _ _ _ _ _ _).symm) rfl hl.1 rfl (by decide) dL_law_437 ⟨Nat.le_of_ble_eq_true rfl, Nat.le_of_ble_eq_true rfl⟩ (fun H locs hP hD hS => ?_)
  refine lv_aload_n hx hb dL_law_440 rfl (lv_at hl 2 rfl) ?_
  refine la_ci (ci := 8) (q0 := 83) (qq := (RX8, TX8, 23)) (rest := [.int _]) ⟨hx, hb, hml, hown, hts⟩ hP hD hS hA hK hG (k8_mirror l D cy ta tc ua ub _ _ _ _ _ _ _ _ _ _ _ _ _ _ _ _ _ _ _ _ _ _ _ _ _ _ _ _ _ _ _ _ _ _ _ _ _ _ _ _ _ _ _ _ _ _ _ _ _ _ _ (by rw [hp.1]; exact hp.2.1)) (cwV 0 hts gw_X8_mirror rfl rfl rfl (by decide +kernel) ⟨Nat.le_of_ble_eq_true rfl, Nat.le_of_ble_eq_true rfl⟩) rfl rfl ((wl_fst cy ta tc ua ub _ _ _ _ _ _ _ _ _ _ _ _ _ _ _ _ _ _ _ _ _ _ _ _ _ _ _ _ _ _ _ _ _ _ _ _ _ _ _ _ _ _ _ _ _ _ _ _ _ _ _).trans (wl_fst cy ta tc ua ub _ _ _ _ _ _ _ _ _ _ _ _ _ _ _ _ _ _ _ _ _ _ _ _ _ _ _ _ _ _ _ _ _ _ _ _ _ _ _ _ _ _ _ _ _ _ _ _ _ _ _).symm) rfl hl.1 rfl (Nat.le_of_ble_eq_true rfl) dL_law_441 ⟨Nat.le_of_ble_eq_true rfl, Nat.le_of_ble_eq_true rfl⟩ (fun H locs hP hD hS => ?_)
  refine lv_icmp_eq (tgt := 1436) hx hb dL_law_444 (by decide) (fun _ => ?_) (fun hc => absurd (hE.1) hc)
  exact kk H locs ⟨_, _, _, _, _, _, _, _, _, _, _, _, _, _, _, _, _, _, _, _, _, _, _, _, _, _, _, _, _, _, _, _, _, _, _, _, _, _, _, _, _, _, _, _, _, _, _, _, _, _, _, rfl, hE.2.1, hE.2.2, hS1, hH, hP, hD, hS⟩
set_option maxHeartbeats 400000000 in
set_option maxRecDepth 100000 in
theorem lc_move {p : Program} {l : Launch} {e : Env} {s : State} {m : MethodId} {below : List Frame} {meth : Method} {c : Code} {b L : Nat} {sc : Nat → Int32} {D : va_G} {cy : Nat → ClassId} {ta tc : Nat} {ua ub : Nat → Nat} (hL : L ≤ 4096) (C0 : lw_At p s m meth c b L sc) (hK : va_K D vwCl (yk_ty cy) s) (hG : yk_G (fun q : Nat => s.heap.size ≤ q) s s.heap) {i : Nat} (hi : i + 8 ≤ L) {H : Heap} {locs : List Loc} {ls : Array Slot} (hI : LI D cy ta tc ua ub s H locs) (hl : lv_has ls 4 [(0, .ref b), (1, .ref ta), (2, .ref tc), (3, .int (nI i))]) (kk : ∀ (H : Heap) (locs : List Loc), LI D cy ta tc ua ub s H locs → W p l e room_1 s m #[Value.ref b] below meth c H locs 99 2219 (lw_Z below #[Value.ref b] s) (F0 m 1436 ls [])) : W p l e room_1 s m #[Value.ref b] below meth c H locs 99 2219 (lw_Z below #[Value.ref b] s) (F0 m 449 ls []) := by
  obtain ⟨hx, hb, hr, hml, hown, hts, hX, hbl, hlocks, hgv⟩ := C0
  have hb : c.code = cL_law := hb
  have hown : s.vm.findClass RL = some m.cls := hown
  have hA : ∀ q : Nat, s.heap.size ≤ q → (fun q : Nat => s.heap.size ≤ q) q := fun _ h => h
  have hbA : ¬ (fun q : Nat => s.heap.size ≤ q) b := Nat.not_le.mpr hbl
  obtain ⟨fi, fu, fv, du, dv, xs, ys, n, co, la, sk, su, sv, hh, bi, mz, ax, bx, cx, ay, by_, cy_, aw, bw, cw, ch, tb, rw, nw, un, sl, mk, hs, sb, ss, sh, uu, fj, fr, aa, bb, dd, ro, rt, db, sg, an, mn, c8, t8, cr, hfe, h, hp, hS1, hH, hP, hD, hS⟩ := hI
  subst hfe
  refine lv_aload_n hx hb dL_law_449 rfl (lv_at hl 1 rfl) ?_
  refine la_arg (k := 1) hx hb hX hbl hbA hS hl hL hi (by decide) (by decide) dL_law_450 dL_law_451 dL_law_452 dL_law_453 dL_law_454 ?_
  refine la_arg (k := 2) hx hb hX hbl hbA hS hl hL hi (by decide) (by decide) dL_law_455 dL_law_456 dL_law_457 dL_law_458 dL_law_459 ?_
  have hE := e_move (du := du) (dv := dv) h hp fr fi (sc (i + 1)) (sc (i + 2))
  refine la_ci (ci := 7) (q0 := 0) (qq := (RX7, TX7, 13)) (rest := []) ⟨hx, hb, hml, hown, hts⟩ hP hD hS hA hK hG (k7_move l D cy ta tc ua ub _ _ _ _ _ _ _ _ _ _ _ _ _ _ _ _ _ _ _ _ _ _ _ _ _ _ _ _ _ _ _ _ _ _ _ _ _ _ _ _ _ _ _ _ _ _ _ _ _ _ _ (sc (i + 1)) (sc (i + 2)) h.2.2.1 hp.2.1 hp.2.2.1) (cwV 2 hts gw_X7_move rfl rfl rfl (by decide +kernel) ⟨Nat.le_of_ble_eq_true rfl, Nat.le_of_ble_eq_true rfl⟩) rfl rfl ((wl_fst cy ta tc ua ub _ _ _ _ _ _ _ _ _ _ _ _ _ _ _ _ _ _ _ _ _ _ _ _ _ _ _ _ _ _ _ _ _ _ _ _ _ _ _ _ _ _ _ _ _ _ _ _ _ _ _).trans (wl_fst cy ta tc ua ub _ _ _ _ _ _ _ _ _ _ _ _ _ _ _ _ _ _ _ _ _ _ _ _ _ _ _ _ _ _ _ _ _ _ _ _ _ _ _ _ _ _ _ _ _ _ _ _ _ _ _).symm) rfl hl.1 rfl (by decide) dL_law_460 ⟨Nat.le_of_ble_eq_true rfl, Nat.le_of_ble_eq_true rfl⟩ (fun H locs hP hD hS => ?_)
  refine lv_aload_n hx hb dL_law_463 rfl (lv_at hl 2 rfl) ?_
  refine la_arg (k := 1) hx hb hX hbl hbA hS hl hL hi (by decide) (by decide) dL_law_464 dL_law_465 dL_law_466 dL_law_467 dL_law_468 ?_
  refine la_arg (k := 2) hx hb hX hbl hbA hS hl hL hi (by decide) (by decide) dL_law_469 dL_law_470 dL_law_471 dL_law_472 dL_law_473 ?_
  refine la_ci (ci := 8) (q0 := 83) (qq := (RX8, TX8, 23)) (rest := [.int _]) ⟨hx, hb, hml, hown, hts⟩ hP hD hS hA hK hG (k8_move l D cy ta tc ua ub _ _ _ _ _ _ _ _ _ _ _ _ _ _ _ _ _ _ _ _ _ _ _ _ _ _ _ _ _ _ _ _ _ _ _ _ _ _ _ _ _ _ _ _ _ _ _ _ _ _ _ (sc (i + 1)) (sc (i + 2)) (by rw [hp.1]; exact hp.2.1)) (cwV 2 hts gw_X8_move rfl rfl rfl (by decide +kernel) ⟨Nat.le_of_ble_eq_true rfl, Nat.le_of_ble_eq_true rfl⟩) rfl rfl ((wl_fst cy ta tc ua ub _ _ _ _ _ _ _ _ _ _ _ _ _ _ _ _ _ _ _ _ _ _ _ _ _ _ _ _ _ _ _ _ _ _ _ _ _ _ _ _ _ _ _ _ _ _ _ _ _ _ _).trans (wl_fst cy ta tc ua ub _ _ _ _ _ _ _ _ _ _ _ _ _ _ _ _ _ _ _ _ _ _ _ _ _ _ _ _ _ _ _ _ _ _ _ _ _ _ _ _ _ _ _ _ _ _ _ _ _ _ _).symm) rfl hl.1 rfl (Nat.le_of_ble_eq_true rfl) dL_law_474 ⟨Nat.le_of_ble_eq_true rfl, Nat.le_of_ble_eq_true rfl⟩ (fun H locs hP hD hS => ?_)
  refine lv_icmp_eq (tgt := 1436) hx hb dL_law_477 (by decide) (fun _ => ?_) (fun hc => absurd (hE.1) hc)
  exact kk H locs ⟨_, _, _, _, _, _, _, _, _, _, _, _, _, _, _, _, _, _, _, _, _, _, _, _, _, _, _, _, _, _, _, _, _, _, _, _, _, _, _, _, _, _, _, _, _, _, _, _, _, _, _, hE.2.1, hE.2.2.1, hE.2.2.2, hS1, hH, hP, hD, hS⟩
set_option maxHeartbeats 400000000 in
set_option maxRecDepth 100000 in
theorem lc_add {p : Program} {l : Launch} {e : Env} {s : State} {m : MethodId} {below : List Frame} {meth : Method} {c : Code} {b L : Nat} {sc : Nat → Int32} {D : va_G} {cy : Nat → ClassId} {ta tc : Nat} {ua ub : Nat → Nat} (hL : L ≤ 4096) (C0 : lw_At p s m meth c b L sc) (hK : va_K D vwCl (yk_ty cy) s) (hG : yk_G (fun q : Nat => s.heap.size ≤ q) s s.heap) {i : Nat} (hi : i + 8 ≤ L) {H : Heap} {locs : List Loc} {ls : Array Slot} (hI : LI D cy ta tc ua ub s H locs) (hl : lv_has ls 4 [(0, .ref b), (1, .ref ta), (2, .ref tc), (3, .int (nI i))]) (kk : ∀ (H : Heap) (locs : List Loc), LI D cy ta tc ua ub s H locs → W p l e room_1 s m #[Value.ref b] below meth c H locs 99 2219 (lw_Z below #[Value.ref b] s) (F0 m 1436 ls [])) : W p l e room_1 s m #[Value.ref b] below meth c H locs 99 2219 (lw_Z below #[Value.ref b] s) (F0 m 482 ls []) := by
  obtain ⟨hx, hb, hr, hml, hown, hts, hX, hbl, hlocks, hgv⟩ := C0
  have hb : c.code = cL_law := hb
  have hown : s.vm.findClass RL = some m.cls := hown
  have hA : ∀ q : Nat, s.heap.size ≤ q → (fun q : Nat => s.heap.size ≤ q) q := fun _ h => h
  have hbA : ¬ (fun q : Nat => s.heap.size ≤ q) b := Nat.not_le.mpr hbl
  obtain ⟨fi, fu, fv, du, dv, xs, ys, n, co, la, sk, su, sv, hh, bi, mz, ax, bx, cx, ay, by_, cy_, aw, bw, cw, ch, tb, rw, nw, un, sl, mk, hs, sb, ss, sh, uu, fj, fr, aa, bb, dd, ro, rt, db, sg, an, mn, c8, t8, cr, hfe, h, hp, hS1, hH, hP, hD, hS⟩ := hI
  subst hfe
  refine lv_aload_n hx hb dL_law_482 rfl (lv_at hl 1 rfl) ?_
  refine la_arg (k := 1) hx hb hX hbl hbA hS hl hL hi (by decide) (by decide) dL_law_483 dL_law_484 dL_law_485 dL_law_486 dL_law_487 ?_
  refine la_arg (k := 2) hx hb hX hbl hbA hS hl hL hi (by decide) (by decide) dL_law_488 dL_law_489 dL_law_490 dL_law_491 dL_law_492 ?_
  obtain ⟨j, hj4, hj⟩ := la_pick (sc (i + 1))
  have hE := e_add (du := du) (dv := dv) h hp hS1 fr fi (sc (i + 1)) (sc (i + 2)) hj
  refine la_ci (ci := 7) (q0 := 0) (qq := (RX7, TX7, 13)) (rest := []) ⟨hx, hb, hml, hown, hts⟩ hP hD hS hA hK hG (k7_add l D cy ta tc ua ub _ _ _ _ _ _ _ _ _ _ _ _ _ _ _ _ _ _ _ _ _ _ _ _ _ _ _ _ _ _ _ _ _ _ _ _ _ _ _ _ _ _ _ _ _ _ _ _ _ _ _ (sc (i + 1)) (sc (i + 2)) h.2.2.1 hp.2.1 hp.2.2.1 j hj4 hj) (cwV 2 hts gw_X7_add rfl rfl rfl (by decide +kernel) ⟨Nat.le_of_ble_eq_true rfl, Nat.le_of_ble_eq_true rfl⟩) rfl rfl ((wl_fst cy ta tc ua ub _ _ _ _ _ _ _ _ _ _ _ _ _ _ _ _ _ _ _ _ _ _ _ _ _ _ _ _ _ _ _ _ _ _ _ _ _ _ _ _ _ _ _ _ _ _ _ _ _ _ _).trans (wl_fst cy ta tc ua ub _ _ _ _ _ _ _ _ _ _ _ _ _ _ _ _ _ _ _ _ _ _ _ _ _ _ _ _ _ _ _ _ _ _ _ _ _ _ _ _ _ _ _ _ _ _ _ _ _ _ _).symm) rfl hl.1 rfl (by decide) dL_law_493 ⟨Nat.le_of_ble_eq_true rfl, Nat.le_of_ble_eq_true rfl⟩ (fun H locs hP hD hS => ?_)
  refine lv_aload_n hx hb dL_law_496 rfl (lv_at hl 2 rfl) ?_
  refine la_arg (k := 1) hx hb hX hbl hbA hS hl hL hi (by decide) (by decide) dL_law_497 dL_law_498 dL_law_499 dL_law_500 dL_law_501 ?_
  refine la_arg (k := 2) hx hb hX hbl hbA hS hl hL hi (by decide) (by decide) dL_law_502 dL_law_503 dL_law_504 dL_law_505 dL_law_506 ?_
  refine la_ci (ci := 8) (q0 := 83) (qq := (RX8, TX8, 23)) (rest := [.int _]) ⟨hx, hb, hml, hown, hts⟩ hP hD hS hA hK hG (k8_add l D cy ta tc ua ub _ _ _ _ _ _ _ _ _ _ _ _ _ _ _ _ _ _ _ _ _ _ _ _ _ _ _ _ _ _ _ _ _ _ _ _ _ _ _ _ _ _ _ _ _ _ _ _ _ _ _ (sc (i + 1)) (sc (i + 2)) (by rw [hp.1]; exact hp.2.1)) (cwV 2 hts gw_X8_add rfl rfl rfl (by decide +kernel) ⟨Nat.le_of_ble_eq_true rfl, Nat.le_of_ble_eq_true rfl⟩) rfl rfl ((wl_fst cy ta tc ua ub _ _ _ _ _ _ _ _ _ _ _ _ _ _ _ _ _ _ _ _ _ _ _ _ _ _ _ _ _ _ _ _ _ _ _ _ _ _ _ _ _ _ _ _ _ _ _ _ _ _ _).trans (wl_fst cy ta tc ua ub _ _ _ _ _ _ _ _ _ _ _ _ _ _ _ _ _ _ _ _ _ _ _ _ _ _ _ _ _ _ _ _ _ _ _ _ _ _ _ _ _ _ _ _ _ _ _ _ _ _ _).symm) rfl hl.1 rfl (Nat.le_of_ble_eq_true rfl) dL_law_507 ⟨Nat.le_of_ble_eq_true rfl, Nat.le_of_ble_eq_true rfl⟩ (fun H locs hP hD hS => ?_)
  refine lv_icmp_eq (tgt := 1436) hx hb dL_law_510 (by decide) (fun _ => ?_) (fun hc => absurd (hE.1) hc)
  exact kk H locs ⟨_, _, _, _, _, _, _, _, _, _, _, _, _, _, _, _, _, _, _, _, _, _, _, _, _, _, _, _, _, _, _, _, _, _, _, _, _, _, _, _, _, _, _, _, _, _, _, _, _, _, _, hE.2.1, hE.2.2.1, hE.2.2.2, hS1, hH, hP, hD, hS⟩
set_option maxHeartbeats 400000000 in
set_option maxRecDepth 100000 in
theorem lc_rests {p : Program} {l : Launch} {e : Env} {s : State} {m : MethodId} {below : List Frame} {meth : Method} {c : Code} {b L : Nat} {sc : Nat → Int32} {D : va_G} {cy : Nat → ClassId} {ta tc : Nat} {ua ub : Nat → Nat} (hL : L ≤ 4096) (C0 : lw_At p s m meth c b L sc) (hK : va_K D vwCl (yk_ty cy) s) (hG : yk_G (fun q : Nat => s.heap.size ≤ q) s s.heap) {i : Nat} (hi : i + 8 ≤ L) {H : Heap} {locs : List Loc} {ls : Array Slot} (hI : LI D cy ta tc ua ub s H locs) (hl : lv_has ls 4 [(0, .ref b), (1, .ref ta), (2, .ref tc), (3, .int (nI i))]) (kk : ∀ (H : Heap) (locs : List Loc), LI D cy ta tc ua ub s H locs → W p l e room_1 s m #[Value.ref b] below meth c H locs 99 2219 (lw_Z below #[Value.ref b] s) (F0 m 1436 ls [])) : W p l e room_1 s m #[Value.ref b] below meth c H locs 99 2219 (lw_Z below #[Value.ref b] s) (F0 m 515 ls []) := by
  obtain ⟨hx, hb, hr, hml, hown, hts, hX, hbl, hlocks, hgv⟩ := C0
  have hb : c.code = cL_law := hb
  have hown : s.vm.findClass RL = some m.cls := hown
  have hA : ∀ q : Nat, s.heap.size ≤ q → (fun q : Nat => s.heap.size ≤ q) q := fun _ h => h
  have hbA : ¬ (fun q : Nat => s.heap.size ≤ q) b := Nat.not_le.mpr hbl
  obtain ⟨fi, fu, fv, du, dv, xs, ys, n, co, la, sk, su, sv, hh, bi, mz, ax, bx, cx, ay, by_, cy_, aw, bw, cw, ch, tb, rw, nw, un, sl, mk, hs, sb, ss, sh, uu, fj, fr, aa, bb, dd, ro, rt, db, sg, an, mn, c8, t8, cr, hfe, h, hp, hS1, hH, hP, hD, hS⟩ := hI
  subst hfe
  refine lv_aload_n hx hb dL_law_515 rfl (lv_at hl 1 rfl) ?_
  have hE := (e_rests h).symm
  refine la_ci (ci := 7) (q0 := 0) (qq := (RX7, TX7, 13)) (rest := []) ⟨hx, hb, hml, hown, hts⟩ hP hD hS hA hK hG (k7_rests l D cy ta tc ua ub _ _ _ _ _ _ _ _ _ _ _ _ _ _ _ _ _ _ _ _ _ _ _ _ _ _ _ _ _ _ _ _ _ _ _ _ _ _ _ _ _ _ _ _ _ _ _ _ _ _ _) (cwV 0 hts gw_X7_rests rfl rfl rfl (by decide +kernel) ⟨Nat.le_of_ble_eq_true rfl, Nat.le_of_ble_eq_true rfl⟩) rfl rfl ((wl_fst cy ta tc ua ub _ _ _ _ _ _ _ _ _ _ _ _ _ _ _ _ _ _ _ _ _ _ _ _ _ _ _ _ _ _ _ _ _ _ _ _ _ _ _ _ _ _ _ _ _ _ _ _ _ _ _).trans (wl_fst cy ta tc ua ub _ _ _ _ _ _ _ _ _ _ _ _ _ _ _ _ _ _ _ _ _ _ _ _ _ _ _ _ _ _ _ _ _ _ _ _ _ _ _ _ _ _ _ _ _ _ _ _ _ _ _).symm) rfl hl.1 rfl (by decide) dL_law_516 ⟨Nat.le_of_ble_eq_true rfl, Nat.le_of_ble_eq_true rfl⟩ (fun H locs hP hD hS => ?_)
  refine lv_aload_n hx hb dL_law_519 rfl (lv_at hl 2 rfl) ?_
  refine la_ci (ci := 8) (q0 := 83) (qq := (RX8, TX8, 23)) (rest := [.int _]) ⟨hx, hb, hml, hown, hts⟩ hP hD hS hA hK hG (k8_rests l D cy ta tc ua ub _ _ _ _ _ _ _ _ _ _ _ _ _ _ _ _ _ _ _ _ _ _ _ _ _ _ _ _ _ _ _ _ _ _ _ _ _ _ _ _ _ _ _ _ _ _ _ _ _ _ _) (cwV 0 hts gw_X8_rests rfl rfl rfl (by decide +kernel) ⟨Nat.le_of_ble_eq_true rfl, Nat.le_of_ble_eq_true rfl⟩) rfl rfl ((wl_fst cy ta tc ua ub _ _ _ _ _ _ _ _ _ _ _ _ _ _ _ _ _ _ _ _ _ _ _ _ _ _ _ _ _ _ _ _ _ _ _ _ _ _ _ _ _ _ _ _ _ _ _ _ _ _ _).trans (wl_fst cy ta tc ua ub _ _ _ _ _ _ _ _ _ _ _ _ _ _ _ _ _ _ _ _ _ _ _ _ _ _ _ _ _ _ _ _ _ _ _ _ _ _ _ _ _ _ _ _ _ _ _ _ _ _ _).symm) rfl hl.1 rfl (Nat.le_of_ble_eq_true rfl) dL_law_520 ⟨Nat.le_of_ble_eq_true rfl, Nat.le_of_ble_eq_true rfl⟩ (fun H locs hP hD hS => ?_)
  refine lv_icmp_eq (tgt := 1436) hx hb dL_law_523 (by decide) (fun _ => ?_) (fun hc => absurd (hE) hc)
  exact kk H locs ⟨_, _, _, _, _, _, _, _, _, _, _, _, _, _, _, _, _, _, _, _, _, _, _, _, _, _, _, _, _, _, _, _, _, _, _, _, _, _, _, _, _, _, _, _, _, _, _, _, _, _, _, rfl, h, hp, hS1, hH, hP, hD, hS⟩
set_option maxHeartbeats 400000000 in
set_option maxRecDepth 100000 in
theorem lc_rest {p : Program} {l : Launch} {e : Env} {s : State} {m : MethodId} {below : List Frame} {meth : Method} {c : Code} {b L : Nat} {sc : Nat → Int32} {D : va_G} {cy : Nat → ClassId} {ta tc : Nat} {ua ub : Nat → Nat} (hL : L ≤ 4096) (C0 : lw_At p s m meth c b L sc) (hK : va_K D vwCl (yk_ty cy) s) (hG : yk_G (fun q : Nat => s.heap.size ≤ q) s s.heap) {i : Nat} (hi : i + 8 ≤ L) {H : Heap} {locs : List Loc} {ls : Array Slot} (hI : LI D cy ta tc ua ub s H locs) (hl : lv_has ls 4 [(0, .ref b), (1, .ref ta), (2, .ref tc), (3, .int (nI i))]) (kk : ∀ (H : Heap) (locs : List Loc), LI D cy ta tc ua ub s H locs → W p l e room_1 s m #[Value.ref b] below meth c H locs 99 2219 (lw_Z below #[Value.ref b] s) (F0 m 1436 ls [])) : W p l e room_1 s m #[Value.ref b] below meth c H locs 99 2219 (lw_Z below #[Value.ref b] s) (F0 m 528 ls []) := by
  obtain ⟨hx, hb, hr, hml, hown, hts, hX, hbl, hlocks, hgv⟩ := C0
  have hb : c.code = cL_law := hb
  have hown : s.vm.findClass RL = some m.cls := hown
  have hA : ∀ q : Nat, s.heap.size ≤ q → (fun q : Nat => s.heap.size ≤ q) q := fun _ h => h
  have hbA : ¬ (fun q : Nat => s.heap.size ≤ q) b := Nat.not_le.mpr hbl
  obtain ⟨fi, fu, fv, du, dv, xs, ys, n, co, la, sk, su, sv, hh, bi, mz, ax, bx, cx, ay, by_, cy_, aw, bw, cw, ch, tb, rw, nw, un, sl, mk, hs, sb, ss, sh, uu, fj, fr, aa, bb, dd, ro, rt, db, sg, an, mn, c8, t8, cr, hfe, h, hp, hS1, hH, hP, hD, hS⟩ := hI
  subst hfe
  refine lv_aload_n hx hb dL_law_528 rfl (lv_at hl 1 rfl) ?_
  refine la_arg (k := 1) hx hb hX hbl hbA hS hl hL hi (by decide) (by decide) dL_law_529 dL_law_530 dL_law_531 dL_law_532 dL_law_533 ?_
  refine la_arg (k := 2) hx hb hX hbl hbA hS hl hL hi (by decide) (by decide) dL_law_534 dL_law_535 dL_law_536 dL_law_537 dL_law_538 ?_
  refine la_bool hx hb dL_law_539 dL_law_542 dL_law_543 dL_law_546 ?_
  have hE := e_restm h fi (sc (i + 1)) (bz (sc (i + 2)))
  refine la_ci (ci := 7) (q0 := 0) (qq := (RX7, TX7, 13)) (rest := []) ⟨hx, hb, hml, hown, hts⟩ hP hD hS hA hK hG (k7_rest l D cy ta tc ua ub _ _ _ _ _ _ _ _ _ _ _ _ _ _ _ _ _ _ _ _ _ _ _ _ _ _ _ _ _ _ _ _ _ _ _ _ _ _ _ _ _ _ _ _ _ _ _ _ _ _ _ (sc (i + 1)) (bz (sc (i + 2)))) (cwV 2 hts gw_X7_rest rfl rfl rfl (by decide +kernel) ⟨Nat.le_of_ble_eq_true rfl, Nat.le_of_ble_eq_true rfl⟩) rfl rfl ((wl_fst cy ta tc ua ub _ _ _ _ _ _ _ _ _ _ _ _ _ _ _ _ _ _ _ _ _ _ _ _ _ _ _ _ _ _ _ _ _ _ _ _ _ _ _ _ _ _ _ _ _ _ _ _ _ _ _).trans (wl_fst cy ta tc ua ub _ _ _ _ _ _ _ _ _ _ _ _ _ _ _ _ _ _ _ _ _ _ _ _ _ _ _ _ _ _ _ _ _ _ _ _ _ _ _ _ _ _ _ _ _ _ _ _ _ _ _).symm) rfl hl.1 rfl (by decide) dL_law_547 ⟨Nat.le_of_ble_eq_true rfl, Nat.le_of_ble_eq_true rfl⟩ (fun H locs hP hD hS => ?_)
  refine lv_aload_n hx hb dL_law_550 rfl (lv_at hl 2 rfl) ?_
  refine la_arg (k := 1) hx hb hX hbl hbA hS hl hL hi (by decide) (by decide) dL_law_551 dL_law_552 dL_law_553 dL_law_554 dL_law_555 ?_
  refine la_arg (k := 2) hx hb hX hbl hbA hS hl hL hi (by decide) (by decide) dL_law_556 dL_law_557 dL_law_558 dL_law_559 dL_law_560 ?_
  refine la_bool hx hb dL_law_561 dL_law_564 dL_law_565 dL_law_568 ?_
  refine la_ci (ci := 8) (q0 := 83) (qq := (RX8, TX8, 23)) (rest := [.int _]) ⟨hx, hb, hml, hown, hts⟩ hP hD hS hA hK hG (k8_rest l D cy ta tc ua ub _ _ _ _ _ _ _ _ _ _ _ _ _ _ _ _ _ _ _ _ _ _ _ _ _ _ _ _ _ _ _ _ _ _ _ _ _ _ _ _ _ _ _ _ _ _ _ _ _ _ _ (sc (i + 1)) (bz (sc (i + 2)))) (cwV 2 hts gw_X8_rest rfl rfl rfl (by decide +kernel) ⟨Nat.le_of_ble_eq_true rfl, Nat.le_of_ble_eq_true rfl⟩) rfl rfl ((wl_fst cy ta tc ua ub _ _ _ _ _ _ _ _ _ _ _ _ _ _ _ _ _ _ _ _ _ _ _ _ _ _ _ _ _ _ _ _ _ _ _ _ _ _ _ _ _ _ _ _ _ _ _ _ _ _ _).trans (wl_fst cy ta tc ua ub _ _ _ _ _ _ _ _ _ _ _ _ _ _ _ _ _ _ _ _ _ _ _ _ _ _ _ _ _ _ _ _ _ _ _ _ _ _ _ _ _ _ _ _ _ _ _ _ _ _ _).symm) rfl hl.1 rfl (Nat.le_of_ble_eq_true rfl) dL_law_569 ⟨Nat.le_of_ble_eq_true rfl, Nat.le_of_ble_eq_true rfl⟩ (fun H locs hP hD hS => ?_)
  refine lv_icmp_eq (tgt := 1436) hx hb dL_law_572 (by decide) (fun _ => ?_) (fun hc => absurd (congrArg Prod.fst hE) hc)
  exact kk H locs ⟨_, _, _, _, _, _, _, _, _, _, _, _, _, _, _, _, _, _, _, _, _, _, _, _, _, _, _, _, _, _, _, _, _, _, _, _, _, _, _, _, _, _, _, _, _, _, _, _, _, _, _, congrArg Prod.snd hE, h, hp, hS1, hH, hP, hD, hS⟩
set_option maxHeartbeats 400000000 in
set_option maxRecDepth 100000 in
theorem lc_sort {p : Program} {l : Launch} {e : Env} {s : State} {m : MethodId} {below : List Frame} {meth : Method} {c : Code} {b L : Nat} {sc : Nat → Int32} {D : va_G} {cy : Nat → ClassId} {ta tc : Nat} {ua ub : Nat → Nat} (hL : L ≤ 4096) (C0 : lw_At p s m meth c b L sc) (hK : va_K D vwCl (yk_ty cy) s) (hG : yk_G (fun q : Nat => s.heap.size ≤ q) s s.heap) {i : Nat} (hi : i + 8 ≤ L) {H : Heap} {locs : List Loc} {ls : Array Slot} (hI : LI D cy ta tc ua ub s H locs) (hl : lv_has ls 4 [(0, .ref b), (1, .ref ta), (2, .ref tc), (3, .int (nI i))]) (kk : ∀ (H : Heap) (locs : List Loc), LI D cy ta tc ua ub s H locs → W p l e room_1 s m #[Value.ref b] below meth c H locs 99 2219 (lw_Z below #[Value.ref b] s) (F0 m 1436 ls [])) : W p l e room_1 s m #[Value.ref b] below meth c H locs 99 2219 (lw_Z below #[Value.ref b] s) (F0 m 577 ls []) := by
  obtain ⟨hx, hb, hr, hml, hown, hts, hX, hbl, hlocks, hgv⟩ := C0
  have hb : c.code = cL_law := hb
  have hown : s.vm.findClass RL = some m.cls := hown
  have hA : ∀ q : Nat, s.heap.size ≤ q → (fun q : Nat => s.heap.size ≤ q) q := fun _ h => h
  have hbA : ¬ (fun q : Nat => s.heap.size ≤ q) b := Nat.not_le.mpr hbl
  obtain ⟨fi, fu, fv, du, dv, xs, ys, n, co, la, sk, su, sv, hh, bi, mz, ax, bx, cx, ay, by_, cy_, aw, bw, cw, ch, tb, rw, nw, un, sl, mk, hs, sb, ss, sh, uu, fj, fr, aa, bb, dd, ro, rt, db, sg, an, mn, c8, t8, cr, hfe, h, hp, hS1, hH, hP, hD, hS⟩ := hI
  subst hfe
  refine lv_aload_n hx hb dL_law_577 rfl (lv_at hl 1 rfl) ?_
  refine la_arg (k := 1) hx hb hX hbl hbA hS hl hL hi (by decide) (by decide) dL_law_578 dL_law_579 dL_law_580 dL_law_581 dL_law_582 ?_
  refine la_arg (k := 2) hx hb hX hbl hbA hS hl hL hi (by decide) (by decide) dL_law_583 dL_law_584 dL_law_585 dL_law_586 dL_law_587 ?_
  have hE := e_sort h fi (sc (i + 1)) (sc (i + 2))
  refine la_ci (ci := 7) (q0 := 0) (qq := (RX7, TX7, 13)) (rest := []) ⟨hx, hb, hml, hown, hts⟩ hP hD hS hA hK hG (k7_sort l D cy ta tc ua ub _ _ _ _ _ _ _ _ _ _ _ _ _ _ _ _ _ _ _ _ _ _ _ _ _ _ _ _ _ _ _ _ _ _ _ _ _ _ _ _ _ _ _ _ _ _ _ _ _ _ _ (sc (i + 1)) (sc (i + 2))) (cwV 2 hts gw_X7_sort rfl rfl rfl (by decide +kernel) ⟨Nat.le_of_ble_eq_true rfl, Nat.le_of_ble_eq_true rfl⟩) rfl rfl ((wl_fst cy ta tc ua ub _ _ _ _ _ _ _ _ _ _ _ _ _ _ _ _ _ _ _ _ _ _ _ _ _ _ _ _ _ _ _ _ _ _ _ _ _ _ _ _ _ _ _ _ _ _ _ _ _ _ _).trans (wl_fst cy ta tc ua ub _ _ _ _ _ _ _ _ _ _ _ _ _ _ _ _ _ _ _ _ _ _ _ _ _ _ _ _ _ _ _ _ _ _ _ _ _ _ _ _ _ _ _ _ _ _ _ _ _ _ _).symm) rfl hl.1 rfl (by decide) dL_law_588 ⟨Nat.le_of_ble_eq_true rfl, Nat.le_of_ble_eq_true rfl⟩ (fun H locs hP hD hS => ?_)
  refine lv_aload_n hx hb dL_law_591 rfl (lv_at hl 2 rfl) ?_
  refine la_arg (k := 1) hx hb hX hbl hbA hS hl hL hi (by decide) (by decide) dL_law_592 dL_law_593 dL_law_594 dL_law_595 dL_law_596 ?_
  refine la_arg (k := 2) hx hb hX hbl hbA hS hl hL hi (by decide) (by decide) dL_law_597 dL_law_598 dL_law_599 dL_law_600 dL_law_601 ?_
  refine la_ci (ci := 8) (q0 := 83) (qq := (RX8, TX8, 23)) (rest := [.int _]) ⟨hx, hb, hml, hown, hts⟩ hP hD hS hA hK hG (k8_sort l D cy ta tc ua ub _ _ _ _ _ _ _ _ _ _ _ _ _ _ _ _ _ _ _ _ _ _ _ _ _ _ _ _ _ _ _ _ _ _ _ _ _ _ _ _ _ _ _ _ _ _ _ _ _ _ _ (sc (i + 1)) (sc (i + 2))) (cwV 2 hts gw_X8_sort rfl rfl rfl (by decide +kernel) ⟨Nat.le_of_ble_eq_true rfl, Nat.le_of_ble_eq_true rfl⟩) rfl rfl ((wl_fst cy ta tc ua ub _ _ _ _ _ _ _ _ _ _ _ _ _ _ _ _ _ _ _ _ _ _ _ _ _ _ _ _ _ _ _ _ _ _ _ _ _ _ _ _ _ _ _ _ _ _ _ _ _ _ _).trans (wl_fst cy ta tc ua ub _ _ _ _ _ _ _ _ _ _ _ _ _ _ _ _ _ _ _ _ _ _ _ _ _ _ _ _ _ _ _ _ _ _ _ _ _ _ _ _ _ _ _ _ _ _ _ _ _ _ _).symm) rfl hl.1 rfl (Nat.le_of_ble_eq_true rfl) dL_law_602 ⟨Nat.le_of_ble_eq_true rfl, Nat.le_of_ble_eq_true rfl⟩ (fun H locs hP hD hS => ?_)
  refine lv_icmp_eq (tgt := 1436) hx hb dL_law_605 (by decide) (fun _ => ?_) (fun hc => absurd (congrArg Prod.fst hE) hc)
  exact kk H locs ⟨_, _, _, _, _, _, _, _, _, _, _, _, _, _, _, _, _, _, _, _, _, _, _, _, _, _, _, _, _, _, _, _, _, _, _, _, _, _, _, _, _, _, _, _, _, _, _, _, _, _, _, congrArg Prod.snd hE, h, hp, hS1, hH, hP, hD, hS⟩
set_option maxHeartbeats 400000000 in
set_option maxRecDepth 100000 in
theorem lc_sorts {p : Program} {l : Launch} {e : Env} {s : State} {m : MethodId} {below : List Frame} {meth : Method} {c : Code} {b L : Nat} {sc : Nat → Int32} {D : va_G} {cy : Nat → ClassId} {ta tc : Nat} {ua ub : Nat → Nat} (hL : L ≤ 4096) (C0 : lw_At p s m meth c b L sc) (hK : va_K D vwCl (yk_ty cy) s) (hG : yk_G (fun q : Nat => s.heap.size ≤ q) s s.heap) {i : Nat} (hi : i + 8 ≤ L) {H : Heap} {locs : List Loc} {ls : Array Slot} (hI : LI D cy ta tc ua ub s H locs) (hl : lv_has ls 4 [(0, .ref b), (1, .ref ta), (2, .ref tc), (3, .int (nI i))]) (kk : ∀ (H : Heap) (locs : List Loc), LI D cy ta tc ua ub s H locs → W p l e room_1 s m #[Value.ref b] below meth c H locs 99 2219 (lw_Z below #[Value.ref b] s) (F0 m 1436 ls [])) : W p l e room_1 s m #[Value.ref b] below meth c H locs 99 2219 (lw_Z below #[Value.ref b] s) (F0 m 610 ls []) := by
  obtain ⟨hx, hb, hr, hml, hown, hts, hX, hbl, hlocks, hgv⟩ := C0
  have hb : c.code = cL_law := hb
  have hown : s.vm.findClass RL = some m.cls := hown
  have hA : ∀ q : Nat, s.heap.size ≤ q → (fun q : Nat => s.heap.size ≤ q) q := fun _ h => h
  have hbA : ¬ (fun q : Nat => s.heap.size ≤ q) b := Nat.not_le.mpr hbl
  obtain ⟨fi, fu, fv, du, dv, xs, ys, n, co, la, sk, su, sv, hh, bi, mz, ax, bx, cx, ay, by_, cy_, aw, bw, cw, ch, tb, rw, nw, un, sl, mk, hs, sb, ss, sh, uu, fj, fr, aa, bb, dd, ro, rt, db, sg, an, mn, c8, t8, cr, hfe, h, hp, hS1, hH, hP, hD, hS⟩ := hI
  subst hfe
  refine lv_aload_n hx hb dL_law_610 rfl (lv_at hl 1 rfl) ?_
  refine la_arg (k := 1) hx hb hX hbl hbA hS hl hL hi (by decide) (by decide) dL_law_611 dL_law_612 dL_law_613 dL_law_614 dL_law_615 ?_
  have hE := e_sorts h fi (sc (i + 1))
  refine la_ci (ci := 7) (q0 := 0) (qq := (RX7, TX7, 13)) (rest := []) ⟨hx, hb, hml, hown, hts⟩ hP hD hS hA hK hG (k7_sorts l D cy ta tc ua ub _ _ _ _ _ _ _ _ _ _ _ _ _ _ _ _ _ _ _ _ _ _ _ _ _ _ _ _ _ _ _ _ _ _ _ _ _ _ _ _ _ _ _ _ _ _ _ _ _ _ _ (sc (i + 1))) (cwV 1 hts gw_X7_sorts rfl rfl rfl (by decide +kernel) ⟨Nat.le_of_ble_eq_true rfl, Nat.le_of_ble_eq_true rfl⟩) rfl rfl ((wl_fst cy ta tc ua ub _ _ _ _ _ _ _ _ _ _ _ _ _ _ _ _ _ _ _ _ _ _ _ _ _ _ _ _ _ _ _ _ _ _ _ _ _ _ _ _ _ _ _ _ _ _ _ _ _ _ _).trans (wl_fst cy ta tc ua ub _ _ _ _ _ _ _ _ _ _ _ _ _ _ _ _ _ _ _ _ _ _ _ _ _ _ _ _ _ _ _ _ _ _ _ _ _ _ _ _ _ _ _ _ _ _ _ _ _ _ _).symm) rfl hl.1 rfl (by decide) dL_law_616 ⟨Nat.le_of_ble_eq_true rfl, Nat.le_of_ble_eq_true rfl⟩ (fun H locs hP hD hS => ?_)
  refine lv_aload_n hx hb dL_law_619 rfl (lv_at hl 2 rfl) ?_
  refine la_arg (k := 1) hx hb hX hbl hbA hS hl hL hi (by decide) (by decide) dL_law_620 dL_law_621 dL_law_622 dL_law_623 dL_law_624 ?_
  refine la_ci (ci := 8) (q0 := 83) (qq := (RX8, TX8, 23)) (rest := [.int _]) ⟨hx, hb, hml, hown, hts⟩ hP hD hS hA hK hG (k8_sorts l D cy ta tc ua ub _ _ _ _ _ _ _ _ _ _ _ _ _ _ _ _ _ _ _ _ _ _ _ _ _ _ _ _ _ _ _ _ _ _ _ _ _ _ _ _ _ _ _ _ _ _ _ _ _ _ _ (sc (i + 1))) (cwV 1 hts gw_X8_sorts rfl rfl rfl (by decide +kernel) ⟨Nat.le_of_ble_eq_true rfl, Nat.le_of_ble_eq_true rfl⟩) rfl rfl ((wl_fst cy ta tc ua ub _ _ _ _ _ _ _ _ _ _ _ _ _ _ _ _ _ _ _ _ _ _ _ _ _ _ _ _ _ _ _ _ _ _ _ _ _ _ _ _ _ _ _ _ _ _ _ _ _ _ _).trans (wl_fst cy ta tc ua ub _ _ _ _ _ _ _ _ _ _ _ _ _ _ _ _ _ _ _ _ _ _ _ _ _ _ _ _ _ _ _ _ _ _ _ _ _ _ _ _ _ _ _ _ _ _ _ _ _ _ _).symm) rfl hl.1 rfl (Nat.le_of_ble_eq_true rfl) dL_law_625 ⟨Nat.le_of_ble_eq_true rfl, Nat.le_of_ble_eq_true rfl⟩ (fun H locs hP hD hS => ?_)
  refine lv_icmp_eq (tgt := 1436) hx hb dL_law_628 (by decide) (fun _ => ?_) (fun hc => absurd (congrArg Prod.fst hE) hc)
  exact kk H locs ⟨_, _, _, _, _, _, _, _, _, _, _, _, _, _, _, _, _, _, _, _, _, _, _, _, _, _, _, _, _, _, _, _, _, _, _, _, _, _, _, _, _, _, _, _, _, _, _, _, _, _, _, congrArg Prod.snd hE, h, hp, hS1, hH, hP, hD, hS⟩
