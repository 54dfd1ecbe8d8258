set_option maxHeartbeats 400000000 in
set_option maxRecDepth 100000 in
theorem lc_edge {p : Program} {l : Launch} {e : Env} {s : State} {m : MethodId} {below : List Frame} {meth : Method} {c : Code} {b L : Nat} {sc : Nat → Int32} {D : va_G} {cy : Nat → ClassId} {ta tc : Nat} {ua ub : Nat → Nat} (hL : L ≤ 4096) (C0 : lw_At p s m meth c b L sc) (hK : va_K D vwCl (yk_ty cy) s) (hG : yk_G (fun q : Nat => s.heap.size ≤ q) s s.heap) {i : Nat} (hi : i + 8 ≤ L) {H : Heap} {locs : List Loc} {ls : Array Slot} (hI : LI D cy ta tc ua ub s H locs) (hl : lv_has ls 4 [(0, .ref b), (1, .ref ta), (2, .ref tc), (3, .int (nI i))]) (kk : ∀ (H : Heap) (locs : List Loc), LI D cy ta tc ua ub s H locs → W p l e room_1 s m #[Value.ref b] below meth c H locs 99 2219 (lw_Z below #[Value.ref b] s) (F0 m 1436 ls [])) : W p l e room_1 s m #[Value.ref b] below meth c H locs 99 2219 (lw_Z below #[Value.ref b] s) (F0 m 1103 ls []) := by
  obtain ⟨hx, hb, hr, hml, hown, hts, hX, hbl, hlocks, hgv⟩ := C0
  have hb : c.code = cL_law := hb
  have hown : s.vm.findClass RL = some m.cls := hown
  have hA : ∀ q : Nat, s.heap.size ≤ q → (fun q : Nat => s.heap.size ≤ q) q := fun _ h => h
  have hbA : ¬ (fun q : Nat => s.heap.size ≤ q) b := Nat.not_le.mpr hbl
  obtain ⟨fi, fu, fv, du, dv, xs, ys, n, co, la, sk, su, sv, hh, bi, mz, ax, bx, cx, ay, by_, cy_, aw, bw, cw, ch, tb, rw, nw, un, sl, mk, hs, sb, ss, sh, uu, fj, fr, aa, bb, dd, ro, rt, db, sg, an, mn, c8, t8, cr, hfe, h, hp, hS1, hH, hP, hD, hS⟩ := hI
  subst hfe
  refine lv_aload_n hx hb dL_law_1103 rfl (lv_at hl 1 rfl) ?_
  have hE := e_edge h
  refine la_ci (ci := 7) (q0 := 0) (qq := (RX7, TX7, 13)) (rest := []) ⟨hx, hb, hml, hown, hts⟩ hP hD hS hA hK hG (k7_edge l D cy ta tc ua ub _ _ _ _ _ _ _ _ _ _ _ _ _ _ _ _ _ _ _ _ _ _ _ _ _ _ _ _ _ _ _ _ _ _ _ _ _ _ _ _ _ _ _ _ _ _ _ _ _ _ _) (cwV 0 hts gw_X7_edge rfl rfl rfl (by decide +kernel) ⟨Nat.le_of_ble_eq_true rfl, Nat.le_of_ble_eq_true rfl⟩) rfl rfl ((wl_fst cy ta tc ua ub _ _ _ _ _ _ _ _ _ _ _ _ _ _ _ _ _ _ _ _ _ _ _ _ _ _ _ _ _ _ _ _ _ _ _ _ _ _ _ _ _ _ _ _ _ _ _ _ _ _ _).trans (wl_fst cy ta tc ua ub _ _ _ _ _ _ _ _ _ _ _ _ _ _ _ _ _ _ _ _ _ _ _ _ _ _ _ _ _ _ _ _ _ _ _ _ _ _ _ _ _ _ _ _ _ _ _ _ _ _ _).symm) rfl hl.1 rfl (by decide) dL_law_1104 ⟨Nat.le_of_ble_eq_true rfl, Nat.le_of_ble_eq_true rfl⟩ (fun H locs hP hD hS => ?_)
  refine lv_aload_n hx hb dL_law_1107 rfl (lv_at hl 2 rfl) ?_
  refine la_ci (ci := 8) (q0 := 83) (qq := (RX8, TX8, 23)) (rest := [.int _]) ⟨hx, hb, hml, hown, hts⟩ hP hD hS hA hK hG (k8_edge l D cy ta tc ua ub _ _ _ _ _ _ _ _ _ _ _ _ _ _ _ _ _ _ _ _ _ _ _ _ _ _ _ _ _ _ _ _ _ _ _ _ _ _ _ _ _ _ _ _ _ _ _ _ _ _ _) (cwV 0 hts gw_X8_edge rfl rfl rfl (by decide +kernel) ⟨Nat.le_of_ble_eq_true rfl, Nat.le_of_ble_eq_true rfl⟩) rfl rfl ((wl_fst cy ta tc ua ub _ _ _ _ _ _ _ _ _ _ _ _ _ _ _ _ _ _ _ _ _ _ _ _ _ _ _ _ _ _ _ _ _ _ _ _ _ _ _ _ _ _ _ _ _ _ _ _ _ _ _).trans (wl_fst cy ta tc ua ub _ _ _ _ _ _ _ _ _ _ _ _ _ _ _ _ _ _ _ _ _ _ _ _ _ _ _ _ _ _ _ _ _ _ _ _ _ _ _ _ _ _ _ _ _ _ _ _ _ _ _).symm) rfl hl.1 rfl (Nat.le_of_ble_eq_true rfl) dL_law_1108 ⟨Nat.le_of_ble_eq_true rfl, Nat.le_of_ble_eq_true rfl⟩ (fun H locs hP hD hS => ?_)
  refine lv_icmp_eq (tgt := 1436) hx hb dL_law_1111 (by decide) (fun _ => ?_) (fun hc => absurd (hE) hc)
  exact kk H locs ⟨_, _, _, _, _, _, _, _, _, _, _, _, _, _, _, _, _, _, _, _, _, _, _, _, _, _, _, _, _, _, _, _, _, _, _, _, _, _, _, _, _, _, _, _, _, _, _, _, _, _, _, rfl, h, hp, hS1, hH, hP, hD, hS⟩
set_option maxHeartbeats 400000000 in
set_option maxRecDepth 100000 in
theorem lc_far {p : Program} {l : Launch} {e : Env} {s : State} {m : MethodId} {below : List Frame} {meth : Method} {c : Code} {b L : Nat} {sc : Nat → Int32} {D : va_G} {cy : Nat → ClassId} {ta tc : Nat} {ua ub : Nat → Nat} (hL : L ≤ 4096) (C0 : lw_At p s m meth c b L sc) (hK : va_K D vwCl (yk_ty cy) s) (hG : yk_G (fun q : Nat => s.heap.size ≤ q) s s.heap) {i : Nat} (hi : i + 8 ≤ L) {H : Heap} {locs : List Loc} {ls : Array Slot} (hI : LI D cy ta tc ua ub s H locs) (hl : lv_has ls 4 [(0, .ref b), (1, .ref ta), (2, .ref tc), (3, .int (nI i))]) (kk : ∀ (H : Heap) (locs : List Loc), LI D cy ta tc ua ub s H locs → W p l e room_1 s m #[Value.ref b] below meth c H locs 99 2219 (lw_Z below #[Value.ref b] s) (F0 m 1436 ls [])) : W p l e room_1 s m #[Value.ref b] below meth c H locs 99 2219 (lw_Z below #[Value.ref b] s) (F0 m 1116 ls []) := by
  obtain ⟨hx, hb, hr, hml, hown, hts, hX, hbl, hlocks, hgv⟩ := C0
  have hb : c.code = cL_law := hb
  have hown : s.vm.findClass RL = some m.cls := hown
  have hA : ∀ q : Nat, s.heap.size ≤ q → (fun q : Nat => s.heap.size ≤ q) q := fun _ h => h
  have hbA : ¬ (fun q : Nat => s.heap.size ≤ q) b := Nat.not_le.mpr hbl
  obtain ⟨fi, fu, fv, du, dv, xs, ys, n, co, la, sk, su, sv, hh, bi, mz, ax, bx, cx, ay, by_, cy_, aw, bw, cw, ch, tb, rw, nw, un, sl, mk, hs, sb, ss, sh, uu, fj, fr, aa, bb, dd, ro, rt, db, sg, an, mn, c8, t8, cr, hfe, h, hp, hS1, hH, hP, hD, hS⟩ := hI
  subst hfe
  refine lv_aload_n hx hb dL_law_1116 rfl (lv_at hl 1 rfl) ?_
  refine la_arg (k := 1) hx hb hX hbl hbA hS hl hL hi (by decide) (by decide) dL_law_1117 dL_law_1118 dL_law_1119 dL_law_1120 dL_law_1121 ?_
  refine la_arg (k := 2) hx hb hX hbl hbA hS hl hL hi (by decide) (by decide) dL_law_1122 dL_law_1123 dL_law_1124 dL_law_1125 dL_law_1126 ?_
  have hE := e_far h fi (sc (i + 1)) (sc (i + 2))
  refine la_ci (ci := 7) (q0 := 0) (qq := (RX7, TX7, 13)) (rest := []) ⟨hx, hb, hml, hown, hts⟩ hP hD hS hA hK hG (k7_far l D cy ta tc ua ub _ _ _ _ _ _ _ _ _ _ _ _ _ _ _ _ _ _ _ _ _ _ _ _ _ _ _ _ _ _ _ _ _ _ _ _ _ _ _ _ _ _ _ _ _ _ _ _ _ _ _ (sc (i + 1)) (sc (i + 2))) (cwV 2 hts gw_X7_far rfl rfl rfl (by decide +kernel) ⟨Nat.le_of_ble_eq_true rfl, Nat.le_of_ble_eq_true rfl⟩) rfl rfl ((wl_fst cy ta tc ua ub _ _ _ _ _ _ _ _ _ _ _ _ _ _ _ _ _ _ _ _ _ _ _ _ _ _ _ _ _ _ _ _ _ _ _ _ _ _ _ _ _ _ _ _ _ _ _ _ _ _ _).trans (wl_fst cy ta tc ua ub _ _ _ _ _ _ _ _ _ _ _ _ _ _ _ _ _ _ _ _ _ _ _ _ _ _ _ _ _ _ _ _ _ _ _ _ _ _ _ _ _ _ _ _ _ _ _ _ _ _ _).symm) rfl hl.1 rfl (by decide) dL_law_1127 ⟨Nat.le_of_ble_eq_true rfl, Nat.le_of_ble_eq_true rfl⟩ (fun H locs hP hD hS => ?_)
  refine lv_aload_n hx hb dL_law_1130 rfl (lv_at hl 2 rfl) ?_
  refine la_arg (k := 1) hx hb hX hbl hbA hS hl hL hi (by decide) (by decide) dL_law_1131 dL_law_1132 dL_law_1133 dL_law_1134 dL_law_1135 ?_
  refine la_arg (k := 2) hx hb hX hbl hbA hS hl hL hi (by decide) (by decide) dL_law_1136 dL_law_1137 dL_law_1138 dL_law_1139 dL_law_1140 ?_
  refine la_ci (ci := 8) (q0 := 83) (qq := (RX8, TX8, 23)) (rest := [.int _]) ⟨hx, hb, hml, hown, hts⟩ hP hD hS hA hK hG (k8_far l D cy ta tc ua ub _ _ _ _ _ _ _ _ _ _ _ _ _ _ _ _ _ _ _ _ _ _ _ _ _ _ _ _ _ _ _ _ _ _ _ _ _ _ _ _ _ _ _ _ _ _ _ _ _ _ _ (sc (i + 1)) (sc (i + 2))) (cwV 2 hts gw_X8_far rfl rfl rfl (by decide +kernel) ⟨Nat.le_of_ble_eq_true rfl, Nat.le_of_ble_eq_true rfl⟩) rfl rfl ((wl_fst cy ta tc ua ub _ _ _ _ _ _ _ _ _ _ _ _ _ _ _ _ _ _ _ _ _ _ _ _ _ _ _ _ _ _ _ _ _ _ _ _ _ _ _ _ _ _ _ _ _ _ _ _ _ _ _).trans (wl_fst cy ta tc ua ub _ _ _ _ _ _ _ _ _ _ _ _ _ _ _ _ _ _ _ _ _ _ _ _ _ _ _ _ _ _ _ _ _ _ _ _ _ _ _ _ _ _ _ _ _ _ _ _ _ _ _).symm) rfl hl.1 rfl (Nat.le_of_ble_eq_true rfl) dL_law_1141 ⟨Nat.le_of_ble_eq_true rfl, Nat.le_of_ble_eq_true rfl⟩ (fun H locs hP hD hS => ?_)
  refine lv_icmp_eq (tgt := 1436) hx hb dL_law_1144 (by decide) (fun _ => ?_) (fun hc => absurd (congrArg Prod.fst hE) hc)
  exact kk H locs ⟨_, _, _, _, _, _, _, _, _, _, _, _, _, _, _, _, _, _, _, _, _, _, _, _, _, _, _, _, _, _, _, _, _, _, _, _, _, _, _, _, _, _, _, _, _, _, _, _, _, _, _, congrArg Prod.snd hE, h, hp, hS1, hH, hP, hD, hS⟩
set_option maxHeartbeats 400000000 in
set_option maxRecDepth 100000 in
theorem lc_keep {p : Program} {l : Launch} {e : Env} {s : State} {m : MethodId} {below : List Frame} {meth : Method} {c : Code} {b L : Nat} {sc : Nat → Int32} {D : va_G} {cy : Nat → ClassId} {ta tc : Nat} {ua ub : Nat → Nat} (hL : L ≤ 4096) (C0 : lw_At p s m meth c b L sc) (hK : va_K D vwCl (yk_ty cy) s) (hG : yk_G (fun q : Nat => s.heap.size ≤ q) s s.heap) {i : Nat} (hi : i + 8 ≤ L) {H : Heap} {locs : List Loc} {ls : Array Slot} (hI : LI D cy ta tc ua ub s H locs) (hl : lv_has ls 4 [(0, .ref b), (1, .ref ta), (2, .ref tc), (3, .int (nI i))]) (kk : ∀ (H : Heap) (locs : List Loc), LI D cy ta tc ua ub s H locs → W p l e room_1 s m #[Value.ref b] below meth c H locs 99 2219 (lw_Z below #[Value.ref b] s) (F0 m 1436 ls [])) : W p l e room_1 s m #[Value.ref b] below meth c H locs 99 2219 (lw_Z below #[Value.ref b] s) (F0 m 1149 ls []) := by
  obtain ⟨hx, hb, hr, hml, hown, hts, hX, hbl, hlocks, hgv⟩ := C0
  have hb : c.code = cL_law := hb
  have hown : s.vm.findClass RL = some m.cls := hown
  have hA : ∀ q : Nat, s.heap.size ≤ q → (fun q : Nat => s.heap.size ≤ q) q := fun _ h => h
  have hbA : ¬ (fun q : Nat => s.heap.size ≤ q) b := Nat.not_le.mpr hbl
  obtain ⟨fi, fu, fv, du, dv, xs, ys, n, co, la, sk, su, sv, hh, bi, mz, ax, bx, cx, ay, by_, cy_, aw, bw, cw, ch, tb, rw, nw, un, sl, mk, hs, sb, ss, sh, uu, fj, fr, aa, bb, dd, ro, rt, db, sg, an, mn, c8, t8, cr, hfe, h, hp, hS1, hH, hP, hD, hS⟩ := hI
  subst hfe
  refine lv_aload_n hx hb dL_law_1149 rfl (lv_at hl 1 rfl) ?_
  refine la_arg (k := 1) hx hb hX hbl hbA hS hl hL hi (by decide) (by decide) dL_law_1150 dL_law_1151 dL_law_1152 dL_law_1153 dL_law_1154 ?_
  obtain ⟨j, hj4, hj⟩ := la_pick (sc (i + 1))
  have hE := e_keep h hS1 fi (sc (i + 1)) hj
  refine la_ci (ci := 7) (q0 := 0) (qq := (RX7, TX7, 13)) (rest := []) ⟨hx, hb, hml, hown, hts⟩ hP hD hS hA hK hG (k7_keep l D cy ta tc ua ub _ _ _ _ _ _ _ _ _ _ _ _ _ _ _ _ _ _ _ _ _ _ _ _ _ _ _ _ _ _ _ _ _ _ _ _ _ _ _ _ _ _ _ _ _ _ _ _ _ _ _ (sc (i + 1)) j hj4 hj) (cwV 1 hts gw_X7_keep rfl rfl rfl (by decide +kernel) ⟨Nat.le_of_ble_eq_true rfl, Nat.le_of_ble_eq_true rfl⟩) rfl rfl ((wl_fst cy ta tc ua ub _ _ _ _ _ _ _ _ _ _ _ _ _ _ _ _ _ _ _ _ _ _ _ _ _ _ _ _ _ _ _ _ _ _ _ _ _ _ _ _ _ _ _ _ _ _ _ _ _ _ _).trans (wl_fst cy ta tc ua ub _ _ _ _ _ _ _ _ _ _ _ _ _ _ _ _ _ _ _ _ _ _ _ _ _ _ _ _ _ _ _ _ _ _ _ _ _ _ _ _ _ _ _ _ _ _ _ _ _ _ _).symm) rfl hl.1 rfl (by decide) dL_law_1155 ⟨Nat.le_of_ble_eq_true rfl, Nat.le_of_ble_eq_true rfl⟩ (fun H locs hP hD hS => ?_)
  refine lv_aload_n hx hb dL_law_1158 rfl (lv_at hl 2 rfl) ?_
  refine la_arg (k := 1) hx hb hX hbl hbA hS hl hL hi (by decide) (by decide) dL_law_1159 dL_law_1160 dL_law_1161 dL_law_1162 dL_law_1163 ?_
  refine la_ci (ci := 8) (q0 := 83) (qq := (RX8, TX8, 23)) (rest := [.int _]) ⟨hx, hb, hml, hown, hts⟩ hP hD hS hA hK hG (k8_keep l D cy ta tc ua ub _ _ _ _ _ _ _ _ _ _ _ _ _ _ _ _ _ _ _ _ _ _ _ _ _ _ _ _ _ _ _ _ _ _ _ _ _ _ _ _ _ _ _ _ _ _ _ _ _ _ _ (sc (i + 1))) (cwV 1 hts gw_X8_keep rfl rfl rfl (by decide +kernel) ⟨Nat.le_of_ble_eq_true rfl, Nat.le_of_ble_eq_true rfl⟩) rfl rfl ((wl_fst cy ta tc ua ub _ _ _ _ _ _ _ _ _ _ _ _ _ _ _ _ _ _ _ _ _ _ _ _ _ _ _ _ _ _ _ _ _ _ _ _ _ _ _ _ _ _ _ _ _ _ _ _ _ _ _).trans (wl_fst cy ta tc ua ub _ _ _ _ _ _ _ _ _ _ _ _ _ _ _ _ _ _ _ _ _ _ _ _ _ _ _ _ _ _ _ _ _ _ _ _ _ _ _ _ _ _ _ _ _ _ _ _ _ _ _).symm) rfl hl.1 rfl (Nat.le_of_ble_eq_true rfl) dL_law_1164 ⟨Nat.le_of_ble_eq_true rfl, Nat.le_of_ble_eq_true rfl⟩ (fun H locs hP hD hS => ?_)
  refine lv_icmp_eq (tgt := 1436) hx hb dL_law_1167 (by decide) (fun _ => ?_) (fun hc => absurd (hE.1) hc)
  exact kk H locs ⟨_, _, _, _, _, _, _, _, _, _, _, _, _, _, _, _, _, _, _, _, _, _, _, _, _, _, _, _, _, _, _, _, _, _, _, _, _, _, _, _, _, _, _, _, _, _, _, _, _, _, _, hE.2.1, h, hp, hE.2.2, hH, hP, hD, hS⟩
set_option maxHeartbeats 400000000 in
set_option maxRecDepth 100000 in
theorem lc_bring {p : Program} {l : Launch} {e : Env} {s : State} {m : MethodId} {below : List Frame} {meth : Method} {c : Code} {b L : Nat} {sc : Nat → Int32} {D : va_G} {cy : Nat → ClassId} {ta tc : Nat} {ua ub : Nat → Nat} (hL : L ≤ 4096) (C0 : lw_At p s m meth c b L sc) (hK : va_K D vwCl (yk_ty cy) s) (hG : yk_G (fun q : Nat => s.heap.size ≤ q) s s.heap) {i : Nat} (hi : i + 8 ≤ L) {H : Heap} {locs : List Loc} {ls : Array Slot} (hI : LI D cy ta tc ua ub s H locs) (hl : lv_has ls 4 [(0, .ref b), (1, .ref ta), (2, .ref tc), (3, .int (nI i))]) (kk : ∀ (H : Heap) (locs : List Loc), LI D cy ta tc ua ub s H locs → W p l e room_1 s m #[Value.ref b] below meth c H locs 99 2219 (lw_Z below #[Value.ref b] s) (F0 m 1436 ls [])) : W p l e room_1 s m #[Value.ref b] below meth c H locs 99 2219 (lw_Z below #[Value.ref b] s) (F0 m 1172 ls []) := by
  obtain ⟨hx, hb, hr, hml, hown, hts, hX, hbl, hlocks, hgv⟩ := C0
  have hb : c.code = cL_law := hb
  have hown : s.vm.findClass RL = some m.cls := hown
  have hA : ∀ q : Nat, s.heap.size ≤ q → (fun q : Nat => s.heap.size ≤ q) q := fun _ h => h
  have hbA : ¬ (fun q : Nat => s.heap.size ≤ q) b := Nat.not_le.mpr hbl
  obtain ⟨fi, fu, fv, du, dv, xs, ys, n, co, la, sk, su, sv, hh, bi, mz, ax, bx, cx, ay, by_, cy_, aw, bw, cw, ch, tb, rw, nw, un, sl, mk, hs, sb, ss, sh, uu, fj, fr, aa, bb, dd, ro, rt, db, sg, an, mn, c8, t8, cr, hfe, h, hp, hS1, hH, hP, hD, hS⟩ := hI
  subst hfe
  refine lv_aload_n hx hb dL_law_1172 rfl (lv_at hl 1 rfl) ?_
  refine la_arg (k := 1) hx hb hX hbl hbA hS hl hL hi (by decide) (by decide) dL_law_1173 dL_law_1174 dL_law_1175 dL_law_1176 dL_law_1177 ?_
  obtain ⟨j, hj4, hj⟩ := la_pick (sc (i + 1))
  have hE := e_bring (du := du) (dv := dv) h hp hS1 fi (sc (i + 1)) hj
  refine la_ci (ci := 7) (q0 := 0) (qq := (RX7, TX7, 13)) (rest := []) ⟨hx, hb, hml, hown, hts⟩ hP hD hS hA hK hG (k7_bring l D cy ta tc ua ub _ _ _ _ _ _ _ _ _ _ _ _ _ _ _ _ _ _ _ _ _ _ _ _ _ _ _ _ _ _ _ _ _ _ _ _ _ _ _ _ _ _ _ _ _ _ _ _ _ _ _ (sc (i + 1)) h.2.2.1 hp.2.1 hp.2.2.1 j hj4 hj) (cwV 1 hts gw_X7_bring rfl rfl rfl (by decide +kernel) ⟨Nat.le_of_ble_eq_true rfl, Nat.le_of_ble_eq_true rfl⟩) rfl rfl ((wl_fst cy ta tc ua ub _ _ _ _ _ _ _ _ _ _ _ _ _ _ _ _ _ _ _ _ _ _ _ _ _ _ _ _ _ _ _ _ _ _ _ _ _ _ _ _ _ _ _ _ _ _ _ _ _ _ _).trans (wl_fst cy ta tc ua ub _ _ _ _ _ _ _ _ _ _ _ _ _ _ _ _ _ _ _ _ _ _ _ _ _ _ _ _ _ _ _ _ _ _ _ _ _ _ _ _ _ _ _ _ _ _ _ _ _ _ _).symm) rfl hl.1 rfl (by decide) dL_law_1178 ⟨Nat.le_of_ble_eq_true rfl, Nat.le_of_ble_eq_true rfl⟩ (fun H locs hP hD hS => ?_)
  refine lv_aload_n hx hb dL_law_1181 rfl (lv_at hl 2 rfl) ?_
  refine la_arg (k := 1) hx hb hX hbl hbA hS hl hL hi (by decide) (by decide) dL_law_1182 dL_law_1183 dL_law_1184 dL_law_1185 dL_law_1186 ?_
  refine la_ci (ci := 8) (q0 := 83) (qq := (RX8, TX8, 23)) (rest := [.int _]) ⟨hx, hb, hml, hown, hts⟩ hP hD hS hA hK hG (k8_bring l D cy ta tc ua ub _ _ _ _ _ _ _ _ _ _ _ _ _ _ _ _ _ _ _ _ _ _ _ _ _ _ _ _ _ _ _ _ _ _ _ _ _ _ _ _ _ _ _ _ _ _ _ _ _ _ _ (sc (i + 1)) (by rw [hp.1]; exact hp.2.1)) (cwV 1 hts gw_X8_bring rfl rfl rfl (by decide +kernel) ⟨Nat.le_of_ble_eq_true rfl, Nat.le_of_ble_eq_true rfl⟩) rfl rfl ((wl_fst cy ta tc ua ub _ _ _ _ _ _ _ _ _ _ _ _ _ _ _ _ _ _ _ _ _ _ _ _ _ _ _ _ _ _ _ _ _ _ _ _ _ _ _ _ _ _ _ _ _ _ _ _ _ _ _).trans (wl_fst cy ta tc ua ub _ _ _ _ _ _ _ _ _ _ _ _ _ _ _ _ _ _ _ _ _ _ _ _ _ _ _ _ _ _ _ _ _ _ _ _ _ _ _ _ _ _ _ _ _ _ _ _ _ _ _).symm) rfl hl.1 rfl (Nat.le_of_ble_eq_true rfl) dL_law_1187 ⟨Nat.le_of_ble_eq_true rfl, Nat.le_of_ble_eq_true rfl⟩ (fun H locs hP hD hS => ?_)
  refine lv_icmp_eq (tgt := 1436) hx hb dL_law_1190 (by decide) (fun _ => ?_) (fun hc => absurd (hE.1) hc)
  exact kk H locs ⟨_, _, _, _, _, _, _, _, _, _, _, _, _, _, _, _, _, _, _, _, _, _, _, _, _, _, _, _, _, _, _, _, _, _, _, _, _, _, _, _, _, _, _, _, _, _, _, _, _, _, _, hE.2.1, hE.2.2.1, hE.2.2.2, hS1, hH, hP, hD, hS⟩
set_option maxHeartbeats 400000000 in
set_option maxRecDepth 100000 in
theorem lc_as {p : Program} {l : Launch} {e : Env} {s : State} {m : MethodId} {below : List Frame} {meth : Method} {c : Code} {b L : Nat} {sc : Nat → Int32} {D : va_G} {cy : Nat → ClassId} {ta tc : Nat} {ua ub : Nat → Nat} (hL : L ≤ 4096) (C0 : lw_At p s m meth c b L sc) (hK : va_K D vwCl (yk_ty cy) s) (hG : yk_G (fun q : Nat => s.heap.size ≤ q) s s.heap) {i : Nat} (hi : i + 8 ≤ L) {H : Heap} {locs : List Loc} {ls : Array Slot} (hI : LI D cy ta tc ua ub s H locs) (hl : lv_has ls 4 [(0, .ref b), (1, .ref ta), (2, .ref tc), (3, .int (nI i))]) (kk : ∀ (H : Heap) (locs : List Loc), LI D cy ta tc ua ub s H locs → W p l e room_1 s m #[Value.ref b] below meth c H locs 99 2219 (lw_Z below #[Value.ref b] s) (F0 m 1436 ls [])) : W p l e room_1 s m #[Value.ref b] below meth c H locs 99 2219 (lw_Z below #[Value.ref b] s) (F0 m 1195 ls []) := by
  obtain ⟨hx, hb, hr, hml, hown, hts, hX, hbl, hlocks, hgv⟩ := C0
  have hb : c.code = cL_law := hb
  have hown : s.vm.findClass RL = some m.cls := hown
  have hA : ∀ q : Nat, s.heap.size ≤ q → (fun q : Nat => s.heap.size ≤ q) q := fun _ h => h
  have hbA : ¬ (fun q : Nat => s.heap.size ≤ q) b := Nat.not_le.mpr hbl
  obtain ⟨fi, fu, fv, du, dv, xs, ys, n, co, la, sk, su, sv, hh, bi, mz, ax, bx, cx, ay, by_, cy_, aw, bw, cw, ch, tb, rw, nw, un, sl, mk, hs, sb, ss, sh, uu, fj, fr, aa, bb, dd, ro, rt, db, sg, an, mn, c8, t8, cr, hfe, h, hp, hS1, hH, hP, hD, hS⟩ := hI
  subst hfe
  refine lv_aload_n hx hb dL_law_1195 rfl (lv_at hl 1 rfl) ?_
  refine la_arg (k := 1) hx hb hX hbl hbA hS hl hL hi (by decide) (by decide) dL_law_1196 dL_law_1197 dL_law_1198 dL_law_1199 dL_law_1200 ?_
  refine la_arg (k := 2) hx hb hX hbl hbA hS hl hL hi (by decide) (by decide) dL_law_1201 dL_law_1202 dL_law_1203 dL_law_1204 dL_law_1205 ?_
  obtain ⟨j, hj4, hj⟩ := la_pick (sc (i + 1))
  have hE := e_as hS1 fi (sc (i + 1)) (sc (i + 2)) hj
  refine la_ci (ci := 7) (q0 := 0) (qq := (RX7, TX7, 13)) (rest := []) ⟨hx, hb, hml, hown, hts⟩ hP hD hS hA hK hG (k7_as l D cy ta tc ua ub _ _ _ _ _ _ _ _ _ _ _ _ _ _ _ _ _ _ _ _ _ _ _ _ _ _ _ _ _ _ _ _ _ _ _ _ _ _ _ _ _ _ _ _ _ _ _ _ _ _ _ (sc (i + 1)) (sc (i + 2)) j hj4 hj) (cwV 2 hts gw_X7_as rfl rfl rfl (by decide +kernel) ⟨Nat.le_of_ble_eq_true rfl, Nat.le_of_ble_eq_true rfl⟩) rfl rfl ((wl_fst cy ta tc ua ub _ _ _ _ _ _ _ _ _ _ _ _ _ _ _ _ _ _ _ _ _ _ _ _ _ _ _ _ _ _ _ _ _ _ _ _ _ _ _ _ _ _ _ _ _ _ _ _ _ _ _).trans (wl_fst cy ta tc ua ub _ _ _ _ _ _ _ _ _ _ _ _ _ _ _ _ _ _ _ _ _ _ _ _ _ _ _ _ _ _ _ _ _ _ _ _ _ _ _ _ _ _ _ _ _ _ _ _ _ _ _).symm) rfl hl.1 rfl (by decide) dL_law_1206 ⟨Nat.le_of_ble_eq_true rfl, Nat.le_of_ble_eq_true rfl⟩ (fun H locs hP hD hS => ?_)
  refine lv_aload_n hx hb dL_law_1209 rfl (lv_at hl 2 rfl) ?_
  refine la_arg (k := 1) hx hb hX hbl hbA hS hl hL hi (by decide) (by decide) dL_law_1210 dL_law_1211 dL_law_1212 dL_law_1213 dL_law_1214 ?_
  refine la_arg (k := 2) hx hb hX hbl hbA hS hl hL hi (by decide) (by decide) dL_law_1215 dL_law_1216 dL_law_1217 dL_law_1218 dL_law_1219 ?_
  refine la_ci (ci := 8) (q0 := 83) (qq := (RX8, TX8, 23)) (rest := [.int _]) ⟨hx, hb, hml, hown, hts⟩ hP hD hS hA hK hG (k8_as l D cy ta tc ua ub _ _ _ _ _ _ _ _ _ _ _ _ _ _ _ _ _ _ _ _ _ _ _ _ _ _ _ _ _ _ _ _ _ _ _ _ _ _ _ _ _ _ _ _ _ _ _ _ _ _ _ (sc (i + 1)) (sc (i + 2))) (cwV 2 hts gw_X8_as rfl rfl rfl (by decide +kernel) ⟨Nat.le_of_ble_eq_true rfl, Nat.le_of_ble_eq_true rfl⟩) rfl rfl ((wl_fst cy ta tc ua ub _ _ _ _ _ _ _ _ _ _ _ _ _ _ _ _ _ _ _ _ _ _ _ _ _ _ _ _ _ _ _ _ _ _ _ _ _ _ _ _ _ _ _ _ _ _ _ _ _ _ _).trans (wl_fst cy ta tc ua ub _ _ _ _ _ _ _ _ _ _ _ _ _ _ _ _ _ _ _ _ _ _ _ _ _ _ _ _ _ _ _ _ _ _ _ _ _ _ _ _ _ _ _ _ _ _ _ _ _ _ _).symm) rfl hl.1 rfl (Nat.le_of_ble_eq_true rfl) dL_law_1220 ⟨Nat.le_of_ble_eq_true rfl, Nat.le_of_ble_eq_true rfl⟩ (fun H locs hP hD hS => ?_)
  refine lv_icmp_eq (tgt := 1436) hx hb dL_law_1223 (by decide) (fun _ => ?_) (fun hc => absurd (congrArg Prod.fst hE) hc)
  exact kk H locs ⟨_, _, _, _, _, _, _, _, _, _, _, _, _, _, _, _, _, _, _, _, _, _, _, _, _, _, _, _, _, _, _, _, _, _, _, _, _, _, _, _, _, _, _, _, _, _, _, _, _, _, _, congrArg Prod.snd hE, h, hp, hS1, hH, hP, hD, hS⟩
set_option maxHeartbeats 400000000 in
set_option maxRecDepth 100000 in
theorem lc_sheet {p : Program} {l : Launch} {e : Env} {s : State} {m : MethodId} {below : List Frame} {meth : Method} {c : Code} {b L : Nat} {sc : Nat → Int32} {D : va_G} {cy : Nat → ClassId} {ta tc : Nat} {ua ub : Nat → Nat} (hL : L ≤ 4096) (C0 : lw_At p s m meth c b L sc) (hK : va_K D vwCl (yk_ty cy) s) (hG : yk_G (fun q : Nat => s.heap.size ≤ q) s s.heap) {i : Nat} (hi : i + 8 ≤ L) {H : Heap} {locs : List Loc} {ls : Array Slot} (hI : LI D cy ta tc ua ub s H locs) (hl : lv_has ls 4 [(0, .ref b), (1, .ref ta), (2, .ref tc), (3, .int (nI i))]) (kk : ∀ (H : Heap) (locs : List Loc), LI D cy ta tc ua ub s H locs → W p l e room_1 s m #[Value.ref b] below meth c H locs 99 2219 (lw_Z below #[Value.ref b] s) (F0 m 1436 ls [])) : W p l e room_1 s m #[Value.ref b] below meth c H locs 99 2219 (lw_Z below #[Value.ref b] s) (F0 m 1228 ls []) := by
  obtain ⟨hx, hb, hr, hml, hown, hts, hX, hbl, hlocks, hgv⟩ := C0
  have hb : c.code = cL_law := hb
  have hown : s.vm.findClass RL = some m.cls := hown
  have hA : ∀ q : Nat, s.heap.size ≤ q → (fun q : Nat => s.heap.size ≤ q) q := fun _ h => h
  have hbA : ¬ (fun q : Nat => s.heap.size ≤ q) b := Nat.not_le.mpr hbl
  obtain ⟨fi, fu, fv, du, dv, xs, ys, n, co, la, sk, su, sv, hh, bi, mz, ax, bx, cx, ay, by_, cy_, aw, bw, cw, ch, tb, rw, nw, un, sl, mk, hs, sb, ss, sh, uu, fj, fr, aa, bb, dd, ro, rt, db, sg, an, mn, c8, t8, cr, hfe, h, hp, hS1, hH, hP, hD, hS⟩ := hI
  subst hfe
  refine lv_aload_n hx hb dL_law_1228 rfl (lv_at hl 1 rfl) ?_
  refine la_arg (k := 1) hx hb hX hbl hbA hS hl hL hi (by decide) (by decide) dL_law_1229 dL_law_1230 dL_law_1231 dL_law_1232 dL_law_1233 ?_
  refine la_arg (k := 2) hx hb hX hbl hbA hS hl hL hi (by decide) (by decide) dL_law_1234 dL_law_1235 dL_law_1236 dL_law_1237 dL_law_1238 ?_
  refine la_arg (k := 3) hx hb hX hbl hbA hS hl hL hi (by decide) (by decide) dL_law_1239 dL_law_1240 dL_law_1241 dL_law_1242 dL_law_1243 ?_
  obtain ⟨j, hj4, hj⟩ := la_pick (sc (i + 1))
  have hE := e_sheet hH fi (sc (i + 1)) (sc (i + 2)) (sc (i + 3)) hj
  refine la_ci (ci := 7) (q0 := 0) (qq := (RX7, TX7, 13)) (rest := []) ⟨hx, hb, hml, hown, hts⟩ hP hD hS hA hK hG (k7_sheet l D cy ta tc ua ub _ _ _ _ _ _ _ _ _ _ _ _ _ _ _ _ _ _ _ _ _ _ _ _ _ _ _ _ _ _ _ _ _ _ _ _ _ _ _ _ _ _ _ _ _ _ _ _ _ _ _ (sc (i + 1)) (sc (i + 2)) (sc (i + 3)) j hj4 hj (fun q hq => (hH q hq).2.2.1)) (cwV 3 hts gw_X7_sheet rfl rfl rfl (by decide +kernel) ⟨Nat.le_of_ble_eq_true rfl, Nat.le_of_ble_eq_true rfl⟩) rfl rfl ((wl_fst cy ta tc ua ub _ _ _ _ _ _ _ _ _ _ _ _ _ _ _ _ _ _ _ _ _ _ _ _ _ _ _ _ _ _ _ _ _ _ _ _ _ _ _ _ _ _ _ _ _ _ _ _ _ _ _).trans (wl_fst cy ta tc ua ub _ _ _ _ _ _ _ _ _ _ _ _ _ _ _ _ _ _ _ _ _ _ _ _ _ _ _ _ _ _ _ _ _ _ _ _ _ _ _ _ _ _ _ _ _ _ _ _ _ _ _).symm) rfl hl.1 rfl (by decide) dL_law_1244 ⟨Nat.le_of_ble_eq_true rfl, Nat.le_of_ble_eq_true rfl⟩ (fun H locs hP hD hS => ?_)
  refine lv_aload_n hx hb dL_law_1247 rfl (lv_at hl 2 rfl) ?_
  refine la_arg (k := 1) hx hb hX hbl hbA hS hl hL hi (by decide) (by decide) dL_law_1248 dL_law_1249 dL_law_1250 dL_law_1251 dL_law_1252 ?_
  refine la_arg (k := 2) hx hb hX hbl hbA hS hl hL hi (by decide) (by decide) dL_law_1253 dL_law_1254 dL_law_1255 dL_law_1256 dL_law_1257 ?_
  refine la_arg (k := 3) hx hb hX hbl hbA hS hl hL hi (by decide) (by decide) dL_law_1258 dL_law_1259 dL_law_1260 dL_law_1261 dL_law_1262 ?_
  refine la_ci (ci := 8) (q0 := 83) (qq := (RX8, TX8, 23)) (rest := [.int _]) ⟨hx, hb, hml, hown, hts⟩ hP hD hS hA hK hG (k8_sheet l D cy ta tc ua ub _ _ _ _ _ _ _ _ _ _ _ _ _ _ _ _ _ _ _ _ _ _ _ _ _ _ _ _ _ _ _ _ _ _ _ _ _ _ _ _ _ _ _ _ _ _ _ _ _ _ _ (sc (i + 1)) (sc (i + 2)) (sc (i + 3))) (cwV 3 hts gw_X8_sheet rfl rfl rfl (by decide +kernel) ⟨Nat.le_of_ble_eq_true rfl, Nat.le_of_ble_eq_true rfl⟩) rfl rfl ((wl_fst cy ta tc ua ub _ _ _ _ _ _ _ _ _ _ _ _ _ _ _ _ _ _ _ _ _ _ _ _ _ _ _ _ _ _ _ _ _ _ _ _ _ _ _ _ _ _ _ _ _ _ _ _ _ _ _).trans (wl_fst cy ta tc ua ub _ _ _ _ _ _ _ _ _ _ _ _ _ _ _ _ _ _ _ _ _ _ _ _ _ _ _ _ _ _ _ _ _ _ _ _ _ _ _ _ _ _ _ _ _ _ _ _ _ _ _).symm) rfl hl.1 rfl (Nat.le_of_ble_eq_true rfl) dL_law_1263 ⟨Nat.le_of_ble_eq_true rfl, Nat.le_of_ble_eq_true rfl⟩ (fun H locs hP hD hS => ?_)
  refine lv_icmp_eq (tgt := 1436) hx hb dL_law_1266 (by decide) (fun _ => ?_) (fun hc => absurd (hE.1) hc)
  exact kk H locs ⟨_, _, _, _, _, _, _, _, _, _, _, _, _, _, _, _, _, _, _, _, _, _, _, _, _, _, _, _, _, _, _, _, _, _, _, _, _, _, _, _, _, _, _, _, _, _, _, _, _, _, _, hE.2.1, h, hp, hS1, hE.2.2, hP, hD, hS⟩
set_option maxHeartbeats 400000000 in
set_option maxRecDepth 100000 in
theorem lc_write {p : Program} {l : Launch} {e : Env} {s : State} {m : MethodId} {below : List Frame} {meth : Method} {c : Code} {b L : Nat} {sc : Nat → Int32} {D : va_G} {cy : Nat → ClassId} {ta tc : Nat} {ua ub : Nat → Nat} (hL : L ≤ 4096) (C0 : lw_At p s m meth c b L sc) (hK : va_K D vwCl (yk_ty cy) s) (hG : yk_G (fun q : Nat => s.heap.size ≤ q) s s.heap) {i : Nat} (hi : i + 8 ≤ L) {H : Heap} {locs : List Loc} {ls : Array Slot} (hI : LI D cy ta tc ua ub s H locs) (hl : lv_has ls 4 [(0, .ref b), (1, .ref ta), (2, .ref tc), (3, .int (nI i))]) (kk : ∀ (H : Heap) (locs : List Loc), LI D cy ta tc ua ub s H locs → W p l e room_1 s m #[Value.ref b] below meth c H locs 99 2219 (lw_Z below #[Value.ref b] s) (F0 m 1436 ls [])) : W p l e room_1 s m #[Value.ref b] below meth c H locs 99 2219 (lw_Z below #[Value.ref b] s) (F0 m 1271 ls []) := by
  obtain ⟨hx, hb, hr, hml, hown, hts, hX, hbl, hlocks, hgv⟩ := C0
  have hb : c.code = cL_law := hb
  have hown : s.vm.findClass RL = some m.cls := hown
  have hA : ∀ q : Nat, s.heap.size ≤ q → (fun q : Nat => s.heap.size ≤ q) q := fun _ h => h
  have hbA : ¬ (fun q : Nat => s.heap.size ≤ q) b := Nat.not_le.mpr hbl
  obtain ⟨fi, fu, fv, du, dv, xs, ys, n, co, la, sk, su, sv, hh, bi, mz, ax, bx, cx, ay, by_, cy_, aw, bw, cw, ch, tb, rw, nw, un, sl, mk, hs, sb, ss, sh, uu, fj, fr, aa, bb, dd, ro, rt, db, sg, an, mn, c8, t8, cr, hfe, h, hp, hS1, hH, hP, hD, hS⟩ := hI
  subst hfe
  refine lv_aload_n hx hb dL_law_1271 rfl (lv_at hl 1 rfl) ?_
  refine la_arg (k := 1) hx hb hX hbl hbA hS hl hL hi (by decide) (by decide) dL_law_1272 dL_law_1273 dL_law_1274 dL_law_1275 dL_law_1276 ?_
  refine la_arg (k := 2) hx hb hX hbl hbA hS hl hL hi (by decide) (by decide) dL_law_1277 dL_law_1278 dL_law_1279 dL_law_1280 dL_law_1281 ?_
  refine la_arg (k := 3) hx hb hX hbl hbA hS hl hL hi (by decide) (by decide) dL_law_1282 dL_law_1283 dL_law_1284 dL_law_1285 dL_law_1286 ?_
  obtain ⟨j, hj4, hj⟩ := la_pick (sc (i + 1))
  have hE := e_write hH fi (sc (i + 1)) (sc (i + 2)) (sc (i + 3)) hj
  refine la_ci (ci := 7) (q0 := 0) (qq := (RX7, TX7, 13)) (rest := []) ⟨hx, hb, hml, hown, hts⟩ hP hD hS hA hK hG (k7_write l D cy ta tc ua ub _ _ _ _ _ _ _ _ _ _ _ _ _ _ _ _ _ _ _ _ _ _ _ _ _ _ _ _ _ _ _ _ _ _ _ _ _ _ _ _ _ _ _ _ _ _ _ _ _ _ _ (sc (i + 1)) (sc (i + 2)) (sc (i + 3)) j hj4 hj (fun q hq => (hH q hq).2.2.1)) (cwV 3 hts gw_X7_write rfl rfl rfl (by decide +kernel) ⟨Nat.le_of_ble_eq_true rfl, Nat.le_of_ble_eq_true rfl⟩) rfl rfl ((wl_fst cy ta tc ua ub _ _ _ _ _ _ _ _ _ _ _ _ _ _ _ _ _ _ _ _ _ _ _ _ _ _ _ _ _ _ _ _ _ _ _ _ _ _ _ _ _ _ _ _ _ _ _ _ _ _ _).trans (wl_fst cy ta tc ua ub _ _ _ _ _ _ _ _ _ _ _ _ _ _ _ _ _ _ _ _ _ _ _ _ _ _ _ _ _ _ _ _ _ _ _ _ _ _ _ _ _ _ _ _ _ _ _ _ _ _ _).symm) rfl hl.1 rfl (by decide) dL_law_1287 ⟨Nat.le_of_ble_eq_true rfl, Nat.le_of_ble_eq_true rfl⟩ (fun H locs hP hD hS => ?_)
  refine lv_aload_n hx hb dL_law_1290 rfl (lv_at hl 2 rfl) ?_
  refine la_arg (k := 1) hx hb hX hbl hbA hS hl hL hi (by decide) (by decide) dL_law_1291 dL_law_1292 dL_law_1293 dL_law_1294 dL_law_1295 ?_
  refine la_arg (k := 2) hx hb hX hbl hbA hS hl hL hi (by decide) (by decide) dL_law_1296 dL_law_1297 dL_law_1298 dL_law_1299 dL_law_1300 ?_
  refine la_arg (k := 3) hx hb hX hbl hbA hS hl hL hi (by decide) (by decide) dL_law_1301 dL_law_1302 dL_law_1303 dL_law_1304 dL_law_1305 ?_
  refine la_ci (ci := 8) (q0 := 83) (qq := (RX8, TX8, 23)) (rest := [.int _]) ⟨hx, hb, hml, hown, hts⟩ hP hD hS hA hK hG (k8_write l D cy ta tc ua ub _ _ _ _ _ _ _ _ _ _ _ _ _ _ _ _ _ _ _ _ _ _ _ _ _ _ _ _ _ _ _ _ _ _ _ _ _ _ _ _ _ _ _ _ _ _ _ _ _ _ _ (sc (i + 1)) (sc (i + 2)) (sc (i + 3)) (fun j9 hj9 => ⟨mz j9, (hH j9 hj9).2.1, (hH j9 hj9).2.2.1⟩)) (cwV 3 hts gw_X8_write rfl rfl rfl (by decide +kernel) ⟨Nat.le_of_ble_eq_true rfl, Nat.le_of_ble_eq_true rfl⟩) rfl rfl ((wl_fst cy ta tc ua ub _ _ _ _ _ _ _ _ _ _ _ _ _ _ _ _ _ _ _ _ _ _ _ _ _ _ _ _ _ _ _ _ _ _ _ _ _ _ _ _ _ _ _ _ _ _ _ _ _ _ _).trans (wl_fst cy ta tc ua ub _ _ _ _ _ _ _ _ _ _ _ _ _ _ _ _ _ _ _ _ _ _ _ _ _ _ _ _ _ _ _ _ _ _ _ _ _ _ _ _ _ _ _ _ _ _ _ _ _ _ _).symm) rfl hl.1 rfl (Nat.le_of_ble_eq_true rfl) dL_law_1306 ⟨Nat.le_of_ble_eq_true rfl, Nat.le_of_ble_eq_true rfl⟩ (fun H locs hP hD hS => ?_)
  refine lv_icmp_eq (tgt := 1436) hx hb dL_law_1309 (by decide) (fun _ => ?_) (fun hc => absurd (hE.1) hc)
  exact kk H locs ⟨_, _, _, _, _, _, _, _, _, _, _, _, _, _, _, _, _, _, _, _, _, _, _, _, _, _, _, _, _, _, _, _, _, _, _, _, _, _, _, _, _, _, _, _, _, _, _, _, _, _, _, hE.2.1, h, hp, hS1, hE.2.2, hP, hD, hS⟩
