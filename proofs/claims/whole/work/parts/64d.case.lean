set_option maxHeartbeats 400000000 in
set_option maxRecDepth 100000 in
theorem lc_held {p : Program} {l : Launch} {e : Env} {s : State} {m : MethodId} {below : List Frame} {meth : Method} {c : Code} {b L : Nat} {sc : Nat → Int32} {D : va_G} {cy : Nat → ClassId} {ta tc : Nat} {ua ub : Nat → Nat} (hL : L ≤ 4096) (C0 : lw_At p s m meth c b L sc) (hK : va_K D vwCl (yk_ty cy) s) (hG : yk_G (fun q : Nat => s.heap.size ≤ q) s s.heap) {i : Nat} (hi : i + 8 ≤ L) {H : Heap} {locs : List Loc} {ls : Array Slot} (hI : LI D cy ta tc ua ub s H locs) (hl : lv_has ls 4 [(0, .ref b), (1, .ref ta), (2, .ref tc), (3, .int (nI i))]) (kk : ∀ (H : Heap) (locs : List Loc), LI D cy ta tc ua ub s H locs → W p l e room_1 s m #[Value.ref b] below meth c H locs 99 2219 (lw_Z below #[Value.ref b] s) (F0 m 1436 ls [])) : W p l e room_1 s m #[Value.ref b] below meth c H locs 99 2219 (lw_Z below #[Value.ref b] s) (F0 m 810 ls []) := by
  obtain ⟨hx, hb, hr, hml, hown, hts, hX, hbl, hlocks, hgv⟩ := C0
  have hb : c.code = cL_law := hb
  have hown : s.vm.findClass RL = some m.cls := hown
  have hA : ∀ q : Nat, s.heap.size ≤ q → (fun q : Nat => s.heap.size ≤ q) q := fun _ h => h
  have hbA : ¬ (fun q : Nat => s.heap.size ≤ q) b := Nat.not_le.mpr hbl
  obtain ⟨fi, fu, fv, du, dv, xs, ys, n, co, la, sk, su, sv, hh, bi, mz, ax, bx, cx, ay, by_, cy_, aw, bw, cw, ch, tb, rw, nw, un, sl, mk, hs, sb, ss, sh, uu, fj, fr, aa, bb, dd, ro, rt, db, sg, an, mn, c8, t8, cr, hfe, h, hp, hS1, hH, hP, hD, hS⟩ := hI
  subst hfe
  refine lv_aload_n hx hb dL_law_810 rfl (lv_at hl 1 rfl) ?_
  refine la_arg (k := 1) hx hb hX hbl hbA hS hl hL hi (by decide) (by decide) dL_law_811 dL_law_812 dL_law_813 dL_law_814 dL_law_815 ?_
  refine la_bool hx hb dL_law_816 dL_law_819 dL_law_820 dL_law_823 ?_
  have hE := e_held h ax bx cx ay by_ cy_ aw bw cw aa bb dd ro rt db fi (bz (sc (i + 1)))
  refine la_ci (ci := 7) (q0 := 0) (qq := (RX7, TX7, 13)) (rest := []) ⟨hx, hb, hml, hown, hts⟩ hP hD hS hA hK hG (k7_held l D cy ta tc ua ub _ _ _ _ _ _ _ _ _ _ _ _ _ _ _ _ _ _ _ _ _ _ _ _ _ _ _ _ _ _ _ _ _ _ _ _ _ _ _ _ _ _ _ _ _ _ _ _ _ _ _ (bz (sc (i + 1))) h.2.2.1) (cwV 1 hts gw_X7_held rfl rfl rfl (by decide +kernel) ⟨Nat.le_of_ble_eq_true rfl, Nat.le_of_ble_eq_true rfl⟩) rfl rfl ((wl_fst cy ta tc ua ub _ _ _ _ _ _ _ _ _ _ _ _ _ _ _ _ _ _ _ _ _ _ _ _ _ _ _ _ _ _ _ _ _ _ _ _ _ _ _ _ _ _ _ _ _ _ _ _ _ _ _).trans (wl_fst cy ta tc ua ub _ _ _ _ _ _ _ _ _ _ _ _ _ _ _ _ _ _ _ _ _ _ _ _ _ _ _ _ _ _ _ _ _ _ _ _ _ _ _ _ _ _ _ _ _ _ _ _ _ _ _).symm) rfl hl.1 rfl (by decide) dL_law_824 ⟨Nat.le_of_ble_eq_true rfl, Nat.le_of_ble_eq_true rfl⟩ (fun H locs hP hD hS => ?_)
  refine lv_aload_n hx hb dL_law_827 rfl (lv_at hl 2 rfl) ?_
  refine la_arg (k := 1) hx hb hX hbl hbA hS hl hL hi (by decide) (by decide) dL_law_828 dL_law_829 dL_law_830 dL_law_831 dL_law_832 ?_
  refine la_bool hx hb dL_law_833 dL_law_836 dL_law_837 dL_law_840 ?_
  refine la_ci (ci := 8) (q0 := 83) (qq := (RX8, TX8, 23)) (rest := [.int _]) ⟨hx, hb, hml, hown, hts⟩ hP hD hS hA hK hG (k8_held l D cy ta tc ua ub _ _ _ _ _ _ _ _ _ _ _ _ _ _ _ _ _ _ _ _ _ _ _ _ _ _ _ _ _ _ _ _ _ _ _ _ _ _ _ _ _ _ _ _ _ _ _ _ _ _ _ n (bz (sc (i + 1))) h.2.1 h.2.2.1) (cwV 1 hts gw_X8_held rfl rfl rfl (by decide +kernel) ⟨Nat.le_of_ble_eq_true rfl, Nat.le_of_ble_eq_true rfl⟩) rfl rfl ((wl_fst cy ta tc ua ub _ _ _ _ _ _ _ _ _ _ _ _ _ _ _ _ _ _ _ _ _ _ _ _ _ _ _ _ _ _ _ _ _ _ _ _ _ _ _ _ _ _ _ _ _ _ _ _ _ _ _).trans (wl_fst cy ta tc ua ub _ _ _ _ _ _ _ _ _ _ _ _ _ _ _ _ _ _ _ _ _ _ _ _ _ _ _ _ _ _ _ _ _ _ _ _ _ _ _ _ _ _ _ _ _ _ _ _ _ _ _).symm) rfl hl.1 rfl (Nat.le_of_ble_eq_true rfl) dL_law_841 ⟨Nat.le_of_ble_eq_true rfl, Nat.le_of_ble_eq_true rfl⟩ (fun H locs hP hD hS => ?_)
  refine lv_icmp_eq (tgt := 1436) hx hb dL_law_844 (by decide) (fun _ => ?_) (fun hc => absurd (hE.1) hc)
  exact kk H locs ⟨_, _, _, _, _, _, _, _, _, _, _, _, _, _, _, _, _, _, _, _, _, _, _, _, _, _, _, _, _, _, _, _, _, _, _, _, _, _, _, _, _, _, _, _, _, _, _, _, _, _, _, hE.2, h, hp, hS1, hH, hP, hD, hS⟩
set_option maxHeartbeats 400000000 in
set_option maxRecDepth 100000 in
theorem lc_wind {p : Program} {l : Launch} {e : Env} {s : State} {m : MethodId} {below : List Frame} {meth : Method} {c : Code} {b L : Nat} {sc : Nat → Int32} {D : va_G} {cy : Nat → ClassId} {ta tc : Nat} {ua ub : Nat → Nat} (hL : L ≤ 4096) (C0 : lw_At p s m meth c b L sc) (hK : va_K D vwCl (yk_ty cy) s) (hG : yk_G (fun q : Nat => s.heap.size ≤ q) s s.heap) {i : Nat} (hi : i + 8 ≤ L) {H : Heap} {locs : List Loc} {ls : Array Slot} (hI : LI D cy ta tc ua ub s H locs) (hl : lv_has ls 4 [(0, .ref b), (1, .ref ta), (2, .ref tc), (3, .int (nI i))]) (kk : ∀ (H : Heap) (locs : List Loc), LI D cy ta tc ua ub s H locs → W p l e room_1 s m #[Value.ref b] below meth c H locs 99 2219 (lw_Z below #[Value.ref b] s) (F0 m 1436 ls [])) : W p l e room_1 s m #[Value.ref b] below meth c H locs 99 2219 (lw_Z below #[Value.ref b] s) (F0 m 849 ls []) := by
  obtain ⟨hx, hb, hr, hml, hown, hts, hX, hbl, hlocks, hgv⟩ := C0
  have hb : c.code = cL_law := hb
  have hown : s.vm.findClass RL = some m.cls := hown
  have hA : ∀ q : Nat, s.heap.size ≤ q → (fun q : Nat => s.heap.size ≤ q) q := fun _ h => h
  have hbA : ¬ (fun q : Nat => s.heap.size ≤ q) b := Nat.not_le.mpr hbl
  obtain ⟨fi, fu, fv, du, dv, xs, ys, n, co, la, sk, su, sv, hh, bi, mz, ax, bx, cx, ay, by_, cy_, aw, bw, cw, ch, tb, rw, nw, un, sl, mk, hs, sb, ss, sh, uu, fj, fr, aa, bb, dd, ro, rt, db, sg, an, mn, c8, t8, cr, hfe, h, hp, hS1, hH, hP, hD, hS⟩ := hI
  subst hfe
  refine lv_aload_n hx hb dL_law_849 rfl (lv_at hl 1 rfl) ?_
  have hE := e_wind h ax bx cx ay by_ cy_ fi aa bb dd ro rt db sg an mn
  refine la_ci (ci := 7) (q0 := 0) (qq := (RX7, TX7, 13)) (rest := []) ⟨hx, hb, hml, hown, hts⟩ hP hD hS hA hK hG (k7_wind l D cy ta tc ua ub _ _ _ _ _ _ _ _ _ _ _ _ _ _ _ _ _ _ _ _ _ _ _ _ _ _ _ _ _ _ _ _ _ _ _ _ _ _ _ _ _ _ _ _ _ _ _ _ _ _ _ h.2.2.1) (cwV 0 hts gw_X7_wind rfl rfl rfl (by decide +kernel) ⟨Nat.le_of_ble_eq_true rfl, Nat.le_of_ble_eq_true rfl⟩) rfl rfl ((wl_fst cy ta tc ua ub _ _ _ _ _ _ _ _ _ _ _ _ _ _ _ _ _ _ _ _ _ _ _ _ _ _ _ _ _ _ _ _ _ _ _ _ _ _ _ _ _ _ _ _ _ _ _ _ _ _ _).trans (wl_fst cy ta tc ua ub _ _ _ _ _ _ _ _ _ _ _ _ _ _ _ _ _ _ _ _ _ _ _ _ _ _ _ _ _ _ _ _ _ _ _ _ _ _ _ _ _ _ _ _ _ _ _ _ _ _ _).symm) rfl hl.1 rfl (by decide) dL_law_850 ⟨Nat.le_of_ble_eq_true rfl, Nat.le_of_ble_eq_true rfl⟩ (fun H locs hP hD hS => ?_)
  refine lv_aload_n hx hb dL_law_853 rfl (lv_at hl 2 rfl) ?_
  refine la_ci (ci := 8) (q0 := 83) (qq := (RX8, TX8, 23)) (rest := [.int _]) ⟨hx, hb, hml, hown, hts⟩ hP hD hS hA hK hG (k8_wind l D cy ta tc ua ub _ _ _ _ _ _ _ _ _ _ _ _ _ _ _ _ _ _ _ _ _ _ _ _ _ _ _ _ _ _ _ _ _ _ _ _ _ _ _ _ _ _ _ _ _ _ _ _ _ _ _ n h.2.1 h.2.2.1) (cwV 0 hts gw_X8_wind rfl rfl rfl (by decide +kernel) ⟨Nat.le_of_ble_eq_true rfl, Nat.le_of_ble_eq_true rfl⟩) rfl rfl ((wl_fst cy ta tc ua ub _ _ _ _ _ _ _ _ _ _ _ _ _ _ _ _ _ _ _ _ _ _ _ _ _ _ _ _ _ _ _ _ _ _ _ _ _ _ _ _ _ _ _ _ _ _ _ _ _ _ _).trans (wl_fst cy ta tc ua ub _ _ _ _ _ _ _ _ _ _ _ _ _ _ _ _ _ _ _ _ _ _ _ _ _ _ _ _ _ _ _ _ _ _ _ _ _ _ _ _ _ _ _ _ _ _ _ _ _ _ _).symm) rfl hl.1 rfl (Nat.le_of_ble_eq_true rfl) dL_law_854 ⟨Nat.le_of_ble_eq_true rfl, Nat.le_of_ble_eq_true rfl⟩ (fun H locs hP hD hS => ?_)
  refine lv_icmp_eq (tgt := 1436) hx hb dL_law_857 (by decide) (fun _ => ?_) (fun hc => absurd (hE.1) hc)
  exact kk H locs ⟨_, _, _, _, _, _, _, _, _, _, _, _, _, _, _, _, _, _, _, _, _, _, _, _, _, _, _, _, _, _, _, _, _, _, _, _, _, _, _, _, _, _, _, _, _, _, _, _, _, _, _, hE.2, h, hp, hS1, hH, hP, hD, hS⟩
set_option maxHeartbeats 400000000 in
set_option maxRecDepth 100000 in
theorem lc_indexes {p : Program} {l : Launch} {e : Env} {s : State} {m : MethodId} {below : List Frame} {meth : Method} {c : Code} {b L : Nat} {sc : Nat → Int32} {D : va_G} {cy : Nat → ClassId} {ta tc : Nat} {ua ub : Nat → Nat} (hL : L ≤ 4096) (C0 : lw_At p s m meth c b L sc) (hK : va_K D vwCl (yk_ty cy) s) (hG : yk_G (fun q : Nat => s.heap.size ≤ q) s s.heap) {i : Nat} (hi : i + 8 ≤ L) {H : Heap} {locs : List Loc} {ls : Array Slot} (hI : LI D cy ta tc ua ub s H locs) (hl : lv_has ls 4 [(0, .ref b), (1, .ref ta), (2, .ref tc), (3, .int (nI i))]) (kk : ∀ (H : Heap) (locs : List Loc), LI D cy ta tc ua ub s H locs → W p l e room_1 s m #[Value.ref b] below meth c H locs 99 2219 (lw_Z below #[Value.ref b] s) (F0 m 1436 ls [])) : W p l e room_1 s m #[Value.ref b] below meth c H locs 99 2219 (lw_Z below #[Value.ref b] s) (F0 m 862 ls []) := by
  obtain ⟨hx, hb, hr, hml, hown, hts, hX, hbl, hlocks, hgv⟩ := C0
  have hb : c.code = cL_law := hb
  have hown : s.vm.findClass RL = some m.cls := hown
  have hA : ∀ q : Nat, s.heap.size ≤ q → (fun q : Nat => s.heap.size ≤ q) q := fun _ h => h
  have hbA : ¬ (fun q : Nat => s.heap.size ≤ q) b := Nat.not_le.mpr hbl
  obtain ⟨fi, fu, fv, du, dv, xs, ys, n, co, la, sk, su, sv, hh, bi, mz, ax, bx, cx, ay, by_, cy_, aw, bw, cw, ch, tb, rw, nw, un, sl, mk, hs, sb, ss, sh, uu, fj, fr, aa, bb, dd, ro, rt, db, sg, an, mn, c8, t8, cr, hfe, h, hp, hS1, hH, hP, hD, hS⟩ := hI
  subst hfe
  refine lv_aload_n hx hb dL_law_862 rfl (lv_at hl 1 rfl) ?_
  have hE := e_indexes h fi
  refine la_ci (ci := 7) (q0 := 0) (qq := (RX7, TX7, 13)) (rest := []) ⟨hx, hb, hml, hown, hts⟩ hP hD hS hA hK hG (k7_indexes l D cy ta tc ua ub _ _ _ _ _ _ _ _ _ _ _ _ _ _ _ _ _ _ _ _ _ _ _ _ _ _ _ _ _ _ _ _ _ _ _ _ _ _ _ _ _ _ _ _ _ _ _ _ _ _ _ h.2.2.1) (cwV 0 hts gw_X7_indexes rfl rfl rfl (by decide +kernel) ⟨Nat.le_of_ble_eq_true rfl, Nat.le_of_ble_eq_true rfl⟩) rfl rfl ((wl_fst cy ta tc ua ub _ _ _ _ _ _ _ _ _ _ _ _ _ _ _ _ _ _ _ _ _ _ _ _ _ _ _ _ _ _ _ _ _ _ _ _ _ _ _ _ _ _ _ _ _ _ _ _ _ _ _).trans (wl_fst cy ta tc ua ub _ _ _ _ _ _ _ _ _ _ _ _ _ _ _ _ _ _ _ _ _ _ _ _ _ _ _ _ _ _ _ _ _ _ _ _ _ _ _ _ _ _ _ _ _ _ _ _ _ _ _).symm) rfl hl.1 rfl (by decide) dL_law_863 ⟨Nat.le_of_ble_eq_true rfl, Nat.le_of_ble_eq_true rfl⟩ (fun H locs hP hD hS => ?_)
  refine lv_aload_n hx hb dL_law_866 rfl (lv_at hl 2 rfl) ?_
  refine la_ci (ci := 8) (q0 := 83) (qq := (RX8, TX8, 23)) (rest := [.int _]) ⟨hx, hb, hml, hown, hts⟩ hP hD hS hA hK hG (k8_indexes l D cy ta tc ua ub _ _ _ _ _ _ _ _ _ _ _ _ _ _ _ _ _ _ _ _ _ _ _ _ _ _ _ _ _ _ _ _ _ _ _ _ _ _ _ _ _ _ _ _ _ _ _ _ _ _ _ n h.2.1 h.2.2.1) (cwV 0 hts gw_X8_indexes rfl rfl rfl (by decide +kernel) ⟨Nat.le_of_ble_eq_true rfl, Nat.le_of_ble_eq_true rfl⟩) rfl rfl ((wl_fst cy ta tc ua ub _ _ _ _ _ _ _ _ _ _ _ _ _ _ _ _ _ _ _ _ _ _ _ _ _ _ _ _ _ _ _ _ _ _ _ _ _ _ _ _ _ _ _ _ _ _ _ _ _ _ _).trans (wl_fst cy ta tc ua ub _ _ _ _ _ _ _ _ _ _ _ _ _ _ _ _ _ _ _ _ _ _ _ _ _ _ _ _ _ _ _ _ _ _ _ _ _ _ _ _ _ _ _ _ _ _ _ _ _ _ _).symm) rfl hl.1 rfl (Nat.le_of_ble_eq_true rfl) dL_law_867 ⟨Nat.le_of_ble_eq_true rfl, Nat.le_of_ble_eq_true rfl⟩ (fun H locs hP hD hS => ?_)
  refine lv_icmp_eq (tgt := 1436) hx hb dL_law_870 (by decide) (fun _ => ?_) (fun hc => absurd (congrArg Prod.fst hE) hc)
  exact kk H locs ⟨_, _, _, _, _, _, _, _, _, _, _, _, _, _, _, _, _, _, _, _, _, _, _, _, _, _, _, _, _, _, _, _, _, _, _, _, _, _, _, _, _, _, _, _, _, _, _, _, _, _, _, congrArg Prod.snd hE, h, hp, hS1, hH, hP, hD, hS⟩
set_option maxHeartbeats 400000000 in
set_option maxRecDepth 100000 in
theorem lc_along {p : Program} {l : Launch} {e : Env} {s : State} {m : MethodId} {below : List Frame} {meth : Method} {c : Code} {b L : Nat} {sc : Nat → Int32} {D : va_G} {cy : Nat → ClassId} {ta tc : Nat} {ua ub : Nat → Nat} (hL : L ≤ 4096) (C0 : lw_At p s m meth c b L sc) (hK : va_K D vwCl (yk_ty cy) s) (hG : yk_G (fun q : Nat => s.heap.size ≤ q) s s.heap) {i : Nat} (hi : i + 8 ≤ L) {H : Heap} {locs : List Loc} {ls : Array Slot} (hI : LI D cy ta tc ua ub s H locs) (hl : lv_has ls 4 [(0, .ref b), (1, .ref ta), (2, .ref tc), (3, .int (nI i))]) (kk : ∀ (H : Heap) (locs : List Loc), LI D cy ta tc ua ub s H locs → W p l e room_1 s m #[Value.ref b] below meth c H locs 99 2219 (lw_Z below #[Value.ref b] s) (F0 m 1436 ls [])) : W p l e room_1 s m #[Value.ref b] below meth c H locs 99 2219 (lw_Z below #[Value.ref b] s) (F0 m 875 ls []) := by
  obtain ⟨hx, hb, hr, hml, hown, hts, hX, hbl, hlocks, hgv⟩ := C0
  have hb : c.code = cL_law := hb
  have hown : s.vm.findClass RL = some m.cls := hown
  have hA : ∀ q : Nat, s.heap.size ≤ q → (fun q : Nat => s.heap.size ≤ q) q := fun _ h => h
  have hbA : ¬ (fun q : Nat => s.heap.size ≤ q) b := Nat.not_le.mpr hbl
  obtain ⟨fi, fu, fv, du, dv, xs, ys, n, co, la, sk, su, sv, hh, bi, mz, ax, bx, cx, ay, by_, cy_, aw, bw, cw, ch, tb, rw, nw, un, sl, mk, hs, sb, ss, sh, uu, fj, fr, aa, bb, dd, ro, rt, db, sg, an, mn, c8, t8, cr, hfe, h, hp, hS1, hH, hP, hD, hS⟩ := hI
  subst hfe
  refine lv_aload_n hx hb dL_law_875 rfl (lv_at hl 1 rfl) ?_
  refine la_arg (k := 1) hx hb hX hbl hbA hS hl hL hi (by decide) (by decide) dL_law_876 dL_law_877 dL_law_878 dL_law_879 dL_law_880 ?_
  refine la_arg (k := 2) hx hb hX hbl hbA hS hl hL hi (by decide) (by decide) dL_law_881 dL_law_882 dL_law_883 dL_law_884 dL_law_885 ?_
  refine la_arg (k := 3) hx hb hX hbl hbA hS hl hL hi (by decide) (by decide) dL_law_886 dL_law_887 dL_law_888 dL_law_889 dL_law_890 ?_
  refine la_arg (k := 4) hx hb hX hbl hbA hS hl hL hi (by decide) (by decide) dL_law_891 dL_law_892 dL_law_893 dL_law_894 dL_law_895 ?_
  refine la_arg (k := 5) hx hb hX hbl hbA hS hl hL hi (by decide) (by decide) dL_law_896 dL_law_897 dL_law_898 dL_law_899 dL_law_900 ?_
  refine la_argb (k := 6) hx hb hX hbl hbA hS hl hL hi (by decide) (by decide) dL_law_901 dL_law_902 dL_law_903 dL_law_905 dL_law_906 ?_
  have hE := e_along h ch c8 fi (sc (i + 1)) (sc (i + 2)) (sc (i + 3)) (sc (i + 4)) (sc (i + 5)) (sc (i + 6))
  refine la_ci (ci := 7) (q0 := 0) (qq := (RX7, TX7, 13)) (rest := []) ⟨hx, hb, hml, hown, hts⟩ hP hD hS hA hK hG (k7_along l D cy ta tc ua ub _ _ _ _ _ _ _ _ _ _ _ _ _ _ _ _ _ _ _ _ _ _ _ _ _ _ _ _ _ _ _ _ _ _ _ _ _ _ _ _ _ _ _ _ _ _ _ _ _ _ _ (sc (i + 1)) (sc (i + 2)) (sc (i + 3)) (sc (i + 4)) (sc (i + 5)) (sc (i + 6))) (cwV 6 hts gw_X7_along rfl rfl rfl (by decide +kernel) ⟨Nat.le_of_ble_eq_true rfl, Nat.le_of_ble_eq_true rfl⟩) rfl rfl ((wl_fst cy ta tc ua ub _ _ _ _ _ _ _ _ _ _ _ _ _ _ _ _ _ _ _ _ _ _ _ _ _ _ _ _ _ _ _ _ _ _ _ _ _ _ _ _ _ _ _ _ _ _ _ _ _ _ _).trans (wl_fst cy ta tc ua ub _ _ _ _ _ _ _ _ _ _ _ _ _ _ _ _ _ _ _ _ _ _ _ _ _ _ _ _ _ _ _ _ _ _ _ _ _ _ _ _ _ _ _ _ _ _ _ _ _ _ _).symm) rfl hl.1 rfl (by decide) dL_law_907 ⟨Nat.le_of_ble_eq_true rfl, Nat.le_of_ble_eq_true rfl⟩ (fun H locs hP hD hS => ?_)
  refine lv_aload_n hx hb dL_law_910 rfl (lv_at hl 2 rfl) ?_
  refine la_arg (k := 1) hx hb hX hbl hbA hS hl hL hi (by decide) (by decide) dL_law_911 dL_law_912 dL_law_913 dL_law_914 dL_law_915 ?_
  refine la_arg (k := 2) hx hb hX hbl hbA hS hl hL hi (by decide) (by decide) dL_law_916 dL_law_917 dL_law_918 dL_law_919 dL_law_920 ?_
  refine la_arg (k := 3) hx hb hX hbl hbA hS hl hL hi (by decide) (by decide) dL_law_921 dL_law_922 dL_law_923 dL_law_924 dL_law_925 ?_
  refine la_arg (k := 4) hx hb hX hbl hbA hS hl hL hi (by decide) (by decide) dL_law_926 dL_law_927 dL_law_928 dL_law_929 dL_law_930 ?_
  refine la_arg (k := 5) hx hb hX hbl hbA hS hl hL hi (by decide) (by decide) dL_law_931 dL_law_932 dL_law_933 dL_law_934 dL_law_935 ?_
  refine la_argb (k := 6) hx hb hX hbl hbA hS hl hL hi (by decide) (by decide) dL_law_936 dL_law_937 dL_law_938 dL_law_940 dL_law_941 ?_
  refine la_ci (ci := 8) (q0 := 83) (qq := (RX8, TX8, 23)) (rest := [.int _]) ⟨hx, hb, hml, hown, hts⟩ hP hD hS hA hK hG (k8_along l D cy ta tc ua ub _ _ _ _ _ _ _ _ _ _ _ _ _ _ _ _ _ _ _ _ _ _ _ _ _ _ _ _ _ _ _ _ _ _ _ _ _ _ _ _ _ _ _ _ _ _ _ _ _ _ _ (sc (i + 1)) (sc (i + 2)) (sc (i + 3)) (sc (i + 4)) (sc (i + 5)) (sc (i + 6))) (cwV 6 hts gw_X8_along rfl rfl rfl (by decide +kernel) ⟨Nat.le_of_ble_eq_true rfl, Nat.le_of_ble_eq_true rfl⟩) rfl rfl ((wl_fst cy ta tc ua ub _ _ _ _ _ _ _ _ _ _ _ _ _ _ _ _ _ _ _ _ _ _ _ _ _ _ _ _ _ _ _ _ _ _ _ _ _ _ _ _ _ _ _ _ _ _ _ _ _ _ _).trans (wl_fst cy ta tc ua ub _ _ _ _ _ _ _ _ _ _ _ _ _ _ _ _ _ _ _ _ _ _ _ _ _ _ _ _ _ _ _ _ _ _ _ _ _ _ _ _ _ _ _ _ _ _ _ _ _ _ _).symm) rfl hl.1 rfl (Nat.le_of_ble_eq_true rfl) dL_law_942 ⟨Nat.le_of_ble_eq_true rfl, Nat.le_of_ble_eq_true rfl⟩ (fun H locs hP hD hS => ?_)
  refine lv_icmp_eq (tgt := 1436) hx hb dL_law_945 (by decide) (fun _ => ?_) (fun hc => absurd (hE.1) hc)
  exact kk H locs ⟨_, _, _, _, _, _, _, _, _, _, _, _, _, _, _, _, _, _, _, _, _, _, _, _, _, _, _, _, _, _, _, _, _, _, _, _, _, _, _, _, _, _, _, _, _, _, _, _, _, _, _, hE.2, h, hp, hS1, hH, hP, hD, hS⟩
set_option maxHeartbeats 400000000 in
set_option maxRecDepth 100000 in
theorem lc_falls {p : Program} {l : Launch} {e : Env} {s : State} {m : MethodId} {below : List Frame} {meth : Method} {c : Code} {b L : Nat} {sc : Nat → Int32} {D : va_G} {cy : Nat → ClassId} {ta tc : Nat} {ua ub : Nat → Nat} (hL : L ≤ 4096) (C0 : lw_At p s m meth c b L sc) (hK : va_K D vwCl (yk_ty cy) s) (hG : yk_G (fun q : Nat => s.heap.size ≤ q) s s.heap) {i : Nat} (hi : i + 8 ≤ L) {H : Heap} {locs : List Loc} {ls : Array Slot} (hI : LI D cy ta tc ua ub s H locs) (hl : lv_has ls 4 [(0, .ref b), (1, .ref ta), (2, .ref tc), (3, .int (nI i))]) (kk : ∀ (H : Heap) (locs : List Loc), LI D cy ta tc ua ub s H locs → W p l e room_1 s m #[Value.ref b] below meth c H locs 99 2219 (lw_Z below #[Value.ref b] s) (F0 m 1436 ls [])) : W p l e room_1 s m #[Value.ref b] below meth c H locs 99 2219 (lw_Z below #[Value.ref b] s) (F0 m 950 ls []) := by
  obtain ⟨hx, hb, hr, hml, hown, hts, hX, hbl, hlocks, hgv⟩ := C0
  have hb : c.code = cL_law := hb
  have hown : s.vm.findClass RL = some m.cls := hown
  have hA : ∀ q : Nat, s.heap.size ≤ q → (fun q : Nat => s.heap.size ≤ q) q := fun _ h => h
  have hbA : ¬ (fun q : Nat => s.heap.size ≤ q) b := Nat.not_le.mpr hbl
  obtain ⟨fi, fu, fv, du, dv, xs, ys, n, co, la, sk, su, sv, hh, bi, mz, ax, bx, cx, ay, by_, cy_, aw, bw, cw, ch, tb, rw, nw, un, sl, mk, hs, sb, ss, sh, uu, fj, fr, aa, bb, dd, ro, rt, db, sg, an, mn, c8, t8, cr, hfe, h, hp, hS1, hH, hP, hD, hS⟩ := hI
  subst hfe
  refine lv_aload_n hx hb dL_law_950 rfl (lv_at hl 1 rfl) ?_
  refine la_arg (k := 1) hx hb hX hbl hbA hS hl hL hi (by decide) (by decide) dL_law_951 dL_law_952 dL_law_953 dL_law_954 dL_law_955 ?_
  refine la_arg (k := 2) hx hb hX hbl hbA hS hl hL hi (by decide) (by decide) dL_law_956 dL_law_957 dL_law_958 dL_law_959 dL_law_960 ?_
  refine la_arg (k := 3) hx hb hX hbl hbA hS hl hL hi (by decide) (by decide) dL_law_961 dL_law_962 dL_law_963 dL_law_964 dL_law_965 ?_
  refine la_arg (k := 4) hx hb hX hbl hbA hS hl hL hi (by decide) (by decide) dL_law_966 dL_law_967 dL_law_968 dL_law_969 dL_law_970 ?_
  refine la_arg (k := 5) hx hb hX hbl hbA hS hl hL hi (by decide) (by decide) dL_law_971 dL_law_972 dL_law_973 dL_law_974 dL_law_975 ?_
  refine la_argb (k := 6) hx hb hX hbl hbA hS hl hL hi (by decide) (by decide) dL_law_976 dL_law_977 dL_law_978 dL_law_980 dL_law_981 ?_
  refine la_argb (k := 7) hx hb hX hbl hbA hS hl hL hi (by decide) (by decide) dL_law_982 dL_law_983 dL_law_984 dL_law_986 dL_law_987 ?_
  have hE := e_falls h fi (sc (i + 1)) (sc (i + 2)) (sc (i + 3)) (sc (i + 4)) (sc (i + 5)) (sc (i + 6)) (sc (i + 7))
  refine la_ci (ci := 7) (q0 := 0) (qq := (RX7, TX7, 13)) (rest := []) ⟨hx, hb, hml, hown, hts⟩ hP hD hS hA hK hG (k7_falls l D cy ta tc ua ub _ _ _ _ _ _ _ _ _ _ _ _ _ _ _ _ _ _ _ _ _ _ _ _ _ _ _ _ _ _ _ _ _ _ _ _ _ _ _ _ _ _ _ _ _ _ _ _ _ _ _ (sc (i + 1)) (sc (i + 2)) (sc (i + 3)) (sc (i + 4)) (sc (i + 5)) (sc (i + 6)) (sc (i + 7))) (cwV 7 hts gw_X7_falls rfl rfl rfl (by decide +kernel) ⟨Nat.le_of_ble_eq_true rfl, Nat.le_of_ble_eq_true rfl⟩) rfl rfl ((wl_fst cy ta tc ua ub _ _ _ _ _ _ _ _ _ _ _ _ _ _ _ _ _ _ _ _ _ _ _ _ _ _ _ _ _ _ _ _ _ _ _ _ _ _ _ _ _ _ _ _ _ _ _ _ _ _ _).trans (wl_fst cy ta tc ua ub _ _ _ _ _ _ _ _ _ _ _ _ _ _ _ _ _ _ _ _ _ _ _ _ _ _ _ _ _ _ _ _ _ _ _ _ _ _ _ _ _ _ _ _ _ _ _ _ _ _ _).symm) rfl hl.1 rfl (by decide) dL_law_988 ⟨Nat.le_of_ble_eq_true rfl, Nat.le_of_ble_eq_true rfl⟩ (fun H locs hP hD hS => ?_)
  refine lv_aload_n hx hb dL_law_991 rfl (lv_at hl 2 rfl) ?_
  refine la_arg (k := 1) hx hb hX hbl hbA hS hl hL hi (by decide) (by decide) dL_law_992 dL_law_993 dL_law_994 dL_law_995 dL_law_996 ?_
  refine la_arg (k := 2) hx hb hX hbl hbA hS hl hL hi (by decide) (by decide) dL_law_997 dL_law_998 dL_law_999 dL_law_1000 dL_law_1001 ?_
  refine la_arg (k := 3) hx hb hX hbl hbA hS hl hL hi (by decide) (by decide) dL_law_1002 dL_law_1003 dL_law_1004 dL_law_1005 dL_law_1006 ?_
  refine la_arg (k := 4) hx hb hX hbl hbA hS hl hL hi (by decide) (by decide) dL_law_1007 dL_law_1008 dL_law_1009 dL_law_1010 dL_law_1011 ?_
  refine la_arg (k := 5) hx hb hX hbl hbA hS hl hL hi (by decide) (by decide) dL_law_1012 dL_law_1013 dL_law_1014 dL_law_1015 dL_law_1016 ?_
  refine la_argb (k := 6) hx hb hX hbl hbA hS hl hL hi (by decide) (by decide) dL_law_1017 dL_law_1018 dL_law_1019 dL_law_1021 dL_law_1022 ?_
  refine la_argb (k := 7) hx hb hX hbl hbA hS hl hL hi (by decide) (by decide) dL_law_1023 dL_law_1024 dL_law_1025 dL_law_1027 dL_law_1028 ?_
  refine la_ci (ci := 8) (q0 := 83) (qq := (RX8, TX8, 23)) (rest := [.int _]) ⟨hx, hb, hml, hown, hts⟩ hP hD hS hA hK hG (k8_falls l D cy ta tc ua ub _ _ _ _ _ _ _ _ _ _ _ _ _ _ _ _ _ _ _ _ _ _ _ _ _ _ _ _ _ _ _ _ _ _ _ _ _ _ _ _ _ _ _ _ _ _ _ _ _ _ _ (sc (i + 1)) (sc (i + 2)) (sc (i + 3)) (sc (i + 4)) (sc (i + 5)) (sc (i + 6)) (sc (i + 7))) (cwV 7 hts gw_X8_falls rfl rfl rfl (by decide +kernel) ⟨Nat.le_of_ble_eq_true rfl, Nat.le_of_ble_eq_true rfl⟩) rfl rfl ((wl_fst cy ta tc ua ub _ _ _ _ _ _ _ _ _ _ _ _ _ _ _ _ _ _ _ _ _ _ _ _ _ _ _ _ _ _ _ _ _ _ _ _ _ _ _ _ _ _ _ _ _ _ _ _ _ _ _).trans (wl_fst cy ta tc ua ub _ _ _ _ _ _ _ _ _ _ _ _ _ _ _ _ _ _ _ _ _ _ _ _ _ _ _ _ _ _ _ _ _ _ _ _ _ _ _ _ _ _ _ _ _ _ _ _ _ _ _).symm) rfl hl.1 rfl (Nat.le_of_ble_eq_true rfl) dL_law_1029 ⟨Nat.le_of_ble_eq_true rfl, Nat.le_of_ble_eq_true rfl⟩ (fun H locs hP hD hS => ?_)
  refine lv_icmp_eq (tgt := 1436) hx hb dL_law_1032 (by decide) (fun _ => ?_) (fun hc => absurd (congrArg Prod.fst hE) hc)
  exact kk H locs ⟨_, _, _, _, _, _, _, _, _, _, _, _, _, _, _, _, _, _, _, _, _, _, _, _, _, _, _, _, _, _, _, _, _, _, _, _, _, _, _, _, _, _, _, _, _, _, _, _, _, _, _, congrArg Prod.snd hE, h, hp, hS1, hH, hP, hD, hS⟩
set_option maxHeartbeats 400000000 in
set_option maxRecDepth 100000 in
theorem lc_kept {p : Program} {l : Launch} {e : Env} {s : State} {m : MethodId} {below : List Frame} {meth : Method} {c : Code} {b L : Nat} {sc : Nat → Int32} {D : va_G} {cy : Nat → ClassId} {ta tc : Nat} {ua ub : Nat → Nat} (hL : L ≤ 4096) (C0 : lw_At p s m meth c b L sc) (hK : va_K D vwCl (yk_ty cy) s) (hG : yk_G (fun q : Nat => s.heap.size ≤ q) s s.heap) {i : Nat} (hi : i + 8 ≤ L) {H : Heap} {locs : List Loc} {ls : Array Slot} (hI : LI D cy ta tc ua ub s H locs) (hl : lv_has ls 4 [(0, .ref b), (1, .ref ta), (2, .ref tc), (3, .int (nI i))]) (kk : ∀ (H : Heap) (locs : List Loc), LI D cy ta tc ua ub s H locs → W p l e room_1 s m #[Value.ref b] below meth c H locs 99 2219 (lw_Z below #[Value.ref b] s) (F0 m 1436 ls [])) : W p l e room_1 s m #[Value.ref b] below meth c H locs 99 2219 (lw_Z below #[Value.ref b] s) (F0 m 1037 ls []) := by
  obtain ⟨hx, hb, hr, hml, hown, hts, hX, hbl, hlocks, hgv⟩ := C0
  have hb : c.code = cL_law := hb
  have hown : s.vm.findClass RL = some m.cls := hown
  have hA : ∀ q : Nat, s.heap.size ≤ q → (fun q : Nat => s.heap.size ≤ q) q := fun _ h => h
  have hbA : ¬ (fun q : Nat => s.heap.size ≤ q) b := Nat.not_le.mpr hbl
  obtain ⟨fi, fu, fv, du, dv, xs, ys, n, co, la, sk, su, sv, hh, bi, mz, ax, bx, cx, ay, by_, cy_, aw, bw, cw, ch, tb, rw, nw, un, sl, mk, hs, sb, ss, sh, uu, fj, fr, aa, bb, dd, ro, rt, db, sg, an, mn, c8, t8, cr, hfe, h, hp, hS1, hH, hP, hD, hS⟩ := hI
  subst hfe
  refine lv_aload_n hx hb dL_law_1037 rfl (lv_at hl 1 rfl) ?_
  have hE := e_kept h ch tb c8 t8
  refine la_ci (ci := 7) (q0 := 0) (qq := (RX7, TX7, 13)) (rest := []) ⟨hx, hb, hml, hown, hts⟩ hP hD hS hA hK hG (k7_kept l D cy ta tc ua ub _ _ _ _ _ _ _ _ _ _ _ _ _ _ _ _ _ _ _ _ _ _ _ _ _ _ _ _ _ _ _ _ _ _ _ _ _ _ _ _ _ _ _ _ _ _ _ _ _ _ _) (cwV 0 hts gw_X7_kept rfl rfl rfl (by decide +kernel) ⟨Nat.le_of_ble_eq_true rfl, Nat.le_of_ble_eq_true rfl⟩) rfl rfl ((wl_fst cy ta tc ua ub _ _ _ _ _ _ _ _ _ _ _ _ _ _ _ _ _ _ _ _ _ _ _ _ _ _ _ _ _ _ _ _ _ _ _ _ _ _ _ _ _ _ _ _ _ _ _ _ _ _ _).trans (wl_fst cy ta tc ua ub _ _ _ _ _ _ _ _ _ _ _ _ _ _ _ _ _ _ _ _ _ _ _ _ _ _ _ _ _ _ _ _ _ _ _ _ _ _ _ _ _ _ _ _ _ _ _ _ _ _ _).symm) rfl hl.1 rfl (by decide) dL_law_1038 ⟨Nat.le_of_ble_eq_true rfl, Nat.le_of_ble_eq_true rfl⟩ (fun H locs hP hD hS => ?_)
  refine lv_aload_n hx hb dL_law_1041 rfl (lv_at hl 2 rfl) ?_
  refine la_ci (ci := 8) (q0 := 83) (qq := (RX8, TX8, 23)) (rest := [.int _]) ⟨hx, hb, hml, hown, hts⟩ hP hD hS hA hK hG (k8_kept l D cy ta tc ua ub _ _ _ _ _ _ _ _ _ _ _ _ _ _ _ _ _ _ _ _ _ _ _ _ _ _ _ _ _ _ _ _ _ _ _ _ _ _ _ _ _ _ _ _ _ _ _ _ _ _ _) (cwV 0 hts gw_X8_kept rfl rfl rfl (by decide +kernel) ⟨Nat.le_of_ble_eq_true rfl, Nat.le_of_ble_eq_true rfl⟩) rfl rfl ((wl_fst cy ta tc ua ub _ _ _ _ _ _ _ _ _ _ _ _ _ _ _ _ _ _ _ _ _ _ _ _ _ _ _ _ _ _ _ _ _ _ _ _ _ _ _ _ _ _ _ _ _ _ _ _ _ _ _).trans (wl_fst cy ta tc ua ub _ _ _ _ _ _ _ _ _ _ _ _ _ _ _ _ _ _ _ _ _ _ _ _ _ _ _ _ _ _ _ _ _ _ _ _ _ _ _ _ _ _ _ _ _ _ _ _ _ _ _).symm) rfl hl.1 rfl (Nat.le_of_ble_eq_true rfl) dL_law_1042 ⟨Nat.le_of_ble_eq_true rfl, Nat.le_of_ble_eq_true rfl⟩ (fun H locs hP hD hS => ?_)
  refine lv_icmp_eq (tgt := 1436) hx hb dL_law_1045 (by decide) (fun _ => ?_) (fun hc => absurd (hE) hc)
  exact kk H locs ⟨_, _, _, _, _, _, _, _, _, _, _, _, _, _, _, _, _, _, _, _, _, _, _, _, _, _, _, _, _, _, _, _, _, _, _, _, _, _, _, _, _, _, _, _, _, _, _, _, _, _, _, rfl, h, hp, hS1, hH, hP, hD, hS⟩
set_option maxHeartbeats 400000000 in
set_option maxRecDepth 100000 in
theorem lc_none {p : Program} {l : Launch} {e : Env} {s : State} {m : MethodId} {below : List Frame} {meth : Method} {c : Code} {b L : Nat} {sc : Nat → Int32} {D : va_G} {cy : Nat → ClassId} {ta tc : Nat} {ua ub : Nat → Nat} (hL : L ≤ 4096) (C0 : lw_At p s m meth c b L sc) (hK : va_K D vwCl (yk_ty cy) s) (hG : yk_G (fun q : Nat => s.heap.size ≤ q) s s.heap) {i : Nat} (hi : i + 8 ≤ L) {H : Heap} {locs : List Loc} {ls : Array Slot} (hI : LI D cy ta tc ua ub s H locs) (hl : lv_has ls 4 [(0, .ref b), (1, .ref ta), (2, .ref tc), (3, .int (nI i))]) (kk : ∀ (H : Heap) (locs : List Loc), LI D cy ta tc ua ub s H locs → W p l e room_1 s m #[Value.ref b] below meth c H locs 99 2219 (lw_Z below #[Value.ref b] s) (F0 m 1436 ls [])) : W p l e room_1 s m #[Value.ref b] below meth c H locs 99 2219 (lw_Z below #[Value.ref b] s) (F0 m 1050 ls []) := by
  obtain ⟨hx, hb, hr, hml, hown, hts, hX, hbl, hlocks, hgv⟩ := C0
  have hb : c.code = cL_law := hb
  have hown : s.vm.findClass RL = some m.cls := hown
  have hA : ∀ q : Nat, s.heap.size ≤ q → (fun q : Nat => s.heap.size ≤ q) q := fun _ h => h
  have hbA : ¬ (fun q : Nat => s.heap.size ≤ q) b := Nat.not_le.mpr hbl
  obtain ⟨fi, fu, fv, du, dv, xs, ys, n, co, la, sk, su, sv, hh, bi, mz, ax, bx, cx, ay, by_, cy_, aw, bw, cw, ch, tb, rw, nw, un, sl, mk, hs, sb, ss, sh, uu, fj, fr, aa, bb, dd, ro, rt, db, sg, an, mn, c8, t8, cr, hfe, h, hp, hS1, hH, hP, hD, hS⟩ := hI
  subst hfe
  refine lv_aload_n hx hb dL_law_1050 rfl (lv_at hl 1 rfl) ?_
  refine la_arg (k := 1) hx hb hX hbl hbA hS hl hL hi (by decide) (by decide) dL_law_1051 dL_law_1052 dL_law_1053 dL_law_1054 dL_law_1055 ?_
  refine la_arg (k := 2) hx hb hX hbl hbA hS hl hL hi (by decide) (by decide) dL_law_1056 dL_law_1057 dL_law_1058 dL_law_1059 dL_law_1060 ?_
  refine la_arg (k := 3) hx hb hX hbl hbA hS hl hL hi (by decide) (by decide) dL_law_1061 dL_law_1062 dL_law_1063 dL_law_1064 dL_law_1065 ?_
  refine la_arg (k := 4) hx hb hX hbl hbA hS hl hL hi (by decide) (by decide) dL_law_1066 dL_law_1067 dL_law_1068 dL_law_1069 dL_law_1070 ?_
  have hE := e_none h fi (sc (i + 1)) (sc (i + 2)) (sc (i + 3)) (sc (i + 4))
  refine la_ci (ci := 7) (q0 := 0) (qq := (RX7, TX7, 13)) (rest := []) ⟨hx, hb, hml, hown, hts⟩ hP hD hS hA hK hG (k7_none l D cy ta tc ua ub _ _ _ _ _ _ _ _ _ _ _ _ _ _ _ _ _ _ _ _ _ _ _ _ _ _ _ _ _ _ _ _ _ _ _ _ _ _ _ _ _ _ _ _ _ _ _ _ _ _ _ (sc (i + 1)) (sc (i + 2)) (sc (i + 3)) (sc (i + 4))) (cwV 4 hts gw_X7_none rfl rfl rfl (by decide +kernel) ⟨Nat.le_of_ble_eq_true rfl, Nat.le_of_ble_eq_true rfl⟩) rfl rfl ((wl_fst cy ta tc ua ub _ _ _ _ _ _ _ _ _ _ _ _ _ _ _ _ _ _ _ _ _ _ _ _ _ _ _ _ _ _ _ _ _ _ _ _ _ _ _ _ _ _ _ _ _ _ _ _ _ _ _).trans (wl_fst cy ta tc ua ub _ _ _ _ _ _ _ _ _ _ _ _ _ _ _ _ _ _ _ _ _ _ _ _ _ _ _ _ _ _ _ _ _ _ _ _ _ _ _ _ _ _ _ _ _ _ _ _ _ _ _).symm) rfl hl.1 rfl (by decide) dL_law_1071 ⟨Nat.le_of_ble_eq_true rfl, Nat.le_of_ble_eq_true rfl⟩ (fun H locs hP hD hS => ?_)
  refine lv_aload_n hx hb dL_law_1074 rfl (lv_at hl 2 rfl) ?_
  refine la_arg (k := 1) hx hb hX hbl hbA hS hl hL hi (by decide) (by decide) dL_law_1075 dL_law_1076 dL_law_1077 dL_law_1078 dL_law_1079 ?_
  refine la_arg (k := 2) hx hb hX hbl hbA hS hl hL hi (by decide) (by decide) dL_law_1080 dL_law_1081 dL_law_1082 dL_law_1083 dL_law_1084 ?_
  refine la_arg (k := 3) hx hb hX hbl hbA hS hl hL hi (by decide) (by decide) dL_law_1085 dL_law_1086 dL_law_1087 dL_law_1088 dL_law_1089 ?_
  refine la_arg (k := 4) hx hb hX hbl hbA hS hl hL hi (by decide) (by decide) dL_law_1090 dL_law_1091 dL_law_1092 dL_law_1093 dL_law_1094 ?_
  refine la_ci (ci := 8) (q0 := 83) (qq := (RX8, TX8, 23)) (rest := [.int _]) ⟨hx, hb, hml, hown, hts⟩ hP hD hS hA hK hG (k8_none l D cy ta tc ua ub _ _ _ _ _ _ _ _ _ _ _ _ _ _ _ _ _ _ _ _ _ _ _ _ _ _ _ _ _ _ _ _ _ _ _ _ _ _ _ _ _ _ _ _ _ _ _ _ _ _ _ (sc (i + 1)) (sc (i + 2)) (sc (i + 3)) (sc (i + 4))) (cwV 4 hts gw_X8_none rfl rfl rfl (by decide +kernel) ⟨Nat.le_of_ble_eq_true rfl, Nat.le_of_ble_eq_true rfl⟩) rfl rfl ((wl_fst cy ta tc ua ub _ _ _ _ _ _ _ _ _ _ _ _ _ _ _ _ _ _ _ _ _ _ _ _ _ _ _ _ _ _ _ _ _ _ _ _ _ _ _ _ _ _ _ _ _ _ _ _ _ _ _).trans (wl_fst cy ta tc ua ub _ _ _ _ _ _ _ _ _ _ _ _ _ _ _ _ _ _ _ _ _ _ _ _ _ _ _ _ _ _ _ _ _ _ _ _ _ _ _ _ _ _ _ _ _ _ _ _ _ _ _).symm) rfl hl.1 rfl (Nat.le_of_ble_eq_true rfl) dL_law_1095 ⟨Nat.le_of_ble_eq_true rfl, Nat.le_of_ble_eq_true rfl⟩ (fun H locs hP hD hS => ?_)
  refine lv_icmp_eq (tgt := 1436) hx hb dL_law_1098 (by decide) (fun _ => ?_) (fun hc => absurd (congrArg Prod.fst hE) hc)
  exact kk H locs ⟨_, _, _, _, _, _, _, _, _, _, _, _, _, _, _, _, _, _, _, _, _, _, _, _, _, _, _, _, _, _, _, _, _, _, _, _, _, _, _, _, _, _, _, _, _, _, _, _, _, _, _, congrArg Prod.snd hE, h, hp, hS1, hH, hP, hD, hS⟩
