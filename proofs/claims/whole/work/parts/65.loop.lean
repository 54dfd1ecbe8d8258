set_option maxHeartbeats 400000000 in
set_option maxRecDepth 100000 in
theorem la_loop {p : Program} {l : Launch} {e : Env} {s : State} {m : MethodId} {below : List Frame} {meth : Method} {c : Code} {b L : Nat} {sc : Nat → Int32} {D : va_G} {cy : Nat → ClassId} {ta tc : Nat} {ua ub : Nat → Nat} (hL : L ≤ 4096) (C0 : lw_At p s m meth c b L sc) (hK : va_K D vwCl (yk_ty cy) s) (hG : yk_G (fun q : Nat => s.heap.size ≤ q) s s.heap) : ∀ (f i : Nat), i ≤ L + 8 → L + 1 ≤ i + 8 * f → ∀ (H : Heap) (locs : List Loc) (ls : Array Slot), LI D cy ta tc ua ub s H locs → lv_has ls 4 [(0, .ref b), (1, .ref ta), (2, .ref tc), (3, .int (nI i))] → W p l e room_1 s m #[Value.ref b] below meth c H locs 99 2219 (lw_Z below #[Value.ref b] s) (F0 m 18 ls []) := by
  intro f
  induction f with
  | zero =>
    intro i h1 h2 H locs ls hI hl
    obtain ⟨hx, hb, hr, hml, hown, hts, hX, hbl, hlocks, hgv⟩ := C0
    have hb : c.code = cL_law := hb
    have hbA : ¬ (fun q : Nat => s.heap.size ≤ q) b := Nat.not_le.mpr hbl
    obtain ⟨fi, fu, fv, du, dv, xs, ys, n, co, la, sk, su, sv, hh, bi, mz, ax, bx, cx, ay, by_, cy_, aw, bw, cw, ch, tb, rw, nw, un, sl, mk, hs, sb, ss, sh, uu, fj, fr, aa, bb, dd, ro, rt, db, sg, an, mn, c8, t8, cr, hfe, h, hp, hS1, hH, hP, hD, hS⟩ := hI
    refine lv_iload_n hx hb dL_law_18 rfl (lv_at hl 3 rfl) ?_
    refine lv_aload_n hx hb dL_law_19 rfl (lv_at hl 0 rfl) ?_
    refine va_slen hx hb hX hbl hbA hS dL_law_20 ?_
    refine lv_bipush (v := 8) hx hb dL_law_21 (by decide) ?_
    refine lv_isub hx hb dL_law_23 ?_
    refine lv_icmp_gt (tgt := 1442) hx hb dL_law_24 (by decide) (fun _ => ?_) (fun hc => ?_)
    · refine lv_iconst (v := 1) hx hb dL_law_1442 (by decide) ?_
      refine va_forget (fun q hq => hS.2.2 q hq) ?_
      refine W.widen (k := 600000) (n := 7302249) (by omega) (by omega) ?_
      exact lw_ret hx hb hr hlocks dL_law_1443
    · exfalso
      have e9 : (nI L - 8).toInt = (L : Int) - 8 := pk_sub_toInt (b := 8) (by omega) (by decide)
      have hc : ¬ nI L - 8 < nI i := hc
      rw [Int32.lt_iff_toInt_lt, e9, nI_toInt (by omega)] at hc
      omega
  | succ f ih =>
    intro i h1 h2 H locs ls hI hl
    obtain ⟨hx, hb, hr, hml, hown, hts, hX, hbl, hlocks, hgv⟩ := id C0
    have hb : c.code = cL_law := hb
    have hbA : ¬ (fun q : Nat => s.heap.size ≤ q) b := Nat.not_le.mpr hbl
    have hI0 := hI
    obtain ⟨fi, fu, fv, du, dv, xs, ys, n, co, la, sk, su, sv, hh, bi, mz, ax, bx, cx, ay, by_, cy_, aw, bw, cw, ch, tb, rw, nw, un, sl, mk, hs, sb, ss, sh, uu, fj, fr, aa, bb, dd, ro, rt, db, sg, an, mn, c8, t8, cr, hfe, h, hp, hS1, hH, hP, hD, hS⟩ := hI
    refine lv_iload_n hx hb dL_law_18 rfl (lv_at hl 3 rfl) ?_
    refine lv_aload_n hx hb dL_law_19 rfl (lv_at hl 0 rfl) ?_
    refine va_slen hx hb hX hbl hbA hS dL_law_20 ?_
    refine lv_bipush (v := 8) hx hb dL_law_21 (by decide) ?_
    refine lv_isub hx hb dL_law_23 ?_
    refine lv_icmp_gt (tgt := 1442) hx hb dL_law_24 (by decide) (fun _ => ?_) (fun hc => ?_)
    · refine lv_iconst (v := 1) hx hb dL_law_1442 (by decide) ?_
      refine va_forget (fun q hq => hS.2.2 q hq) ?_
      refine W.widen (k := 600000) (n := 7302249) (by omega) (by omega) ?_
      exact lw_ret hx hb hr hlocks dL_law_1443
    · have hi : i + 8 ≤ L := by
        have e9 : (nI L - 8).toInt = (L : Int) - 8 := pk_sub_toInt (b := 8) (by omega) (by decide)
        have hc : ¬ nI L - 8 < nI i := hc
        rw [Int32.lt_iff_toInt_lt, e9, nI_toInt (by omega)] at hc
        omega
      refine lv_aload_n hx hb dL_law_27 rfl (lv_at hl 0 rfl) ?_
      refine lv_iload_n hx hb dL_law_28 rfl (lv_at hl 3 rfl) ?_
      refine va_sld hx hb hX hbl hbA hS (i := nI i) (vp_in_nI (by omega) (by omega)) dL_law_29 ?_
      refine lv_bipush (v := 63) hx hb dL_law_30 (by decide) ?_
      refine lv_iand hx hb dL_law_32 ?_
      have tail : ∀ (H : Heap) (locs : List Loc), LI D cy ta tc ua ub s H locs → W p l e room_1 s m #[Value.ref b] below meth c H locs 99 2219 (lw_Z below #[Value.ref b] s) (F0 m 1436 ls []) := by
        intro H locs hI
        refine lv_iinc (v := nI (i + 8)) (lv' := [(3, .int (nI (i + 8))), (0, .ref b), (1, .ref ta), (2, .ref tc)]) hx hb dL_law_1436 hl (k := 3) rfl (by rw [← nI_add]; rfl) (by decide) rfl (fun ls hl => ?_)
        refine lv_goto (tgt := 18) hx hb dL_law_1439 (by decide) ?_
        exact ih (i + 8) (by omega) (by omega) H locs ls hI (lv_sub hl [1, 2, 3, 0] rfl)
      clear ih hP hD hS hp hS1 hH h
      obtain ⟨j, hj, ej⟩ := pk_andE (sc (nI i).toNatClampNeg) (m := 63) 6 (by decide)
      rw [ej]
      have hj : j < 64 := hj
      by_cases h38 : j < 38
      · have hj9 : j = 0 ∨ j = 1 ∨ j = 2 ∨ j = 3 ∨ j = 4 ∨ j = 5 ∨ j = 6 ∨ j = 7 ∨ j = 8 ∨ j = 9 ∨ j = 10 ∨ j = 11 ∨ j = 12 ∨ j = 13 ∨ j = 14 ∨ j = 15 ∨ j = 16 ∨ j = 17 ∨ j = 18 ∨ j = 19 ∨ j = 20 ∨ j = 21 ∨ j = 22 ∨ j = 23 ∨ j = 24 ∨ j = 25 ∨ j = 26 ∨ j = 27 ∨ j = 28 ∨ j = 29 ∨ j = 30 ∨ j = 31 ∨ j = 32 ∨ j = 33 ∨ j = 34 ∨ j = 35 ∨ j = 36 ∨ j = 37 := by omega
        rcases hj9 with q | q | q | q | q | q | q | q | q | q | q | q | q | q | q | q | q | q | q | q | q | q | q | q | q | q | q | q | q | q | q | q | q | q | q | q | q | q
        · subst q
          refine lv_tableIn (x := nI 0) (off := 167) (tgt := 200) hx hb dL_law_33 (by decide +kernel) (by decide +kernel) (by decide +kernel) (by decide) ?_
          exact lc_put hL C0 hK hG hi hI0 hl tail
        · subst q
          refine lv_tableIn (x := nI 1) (off := 226) (tgt := 259) hx hb dL_law_33 (by decide +kernel) (by decide +kernel) (by decide +kernel) (by decide) ?_
          exact lc_number hL C0 hK hG hi hI0 hl tail
        · subst q
          refine lv_tableIn (x := nI 2) (off := 275) (tgt := 308) hx hb dL_law_33 (by decide +kernel) (by decide +kernel) (by decide +kernel) (by decide) ?_
          exact lc_speed hL C0 hK hG hi hI0 hl tail
        · subst q
          refine lv_tableIn (x := nI 3) (off := 334) (tgt := 367) hx hb dL_law_33 (by decide +kernel) (by decide +kernel) (by decide +kernel) (by decide) ?_
          exact lc_slope hL C0 hK hG hi hI0 hl tail
        · subst q
          refine lv_tableIn (x := nI 4) (off := 377) (tgt := 410) hx hb dL_law_33 (by decide +kernel) (by decide +kernel) (by decide +kernel) (by decide) ?_
          exact lc_back hL C0 hK hG hi hI0 hl tail
        · subst q
          refine lv_tableIn (x := nI 5) (off := 390) (tgt := 423) hx hb dL_law_33 (by decide +kernel) (by decide +kernel) (by decide +kernel) (by decide) ?_
          exact lc_quarter hL C0 hK hG hi hI0 hl tail
        · subst q
          refine lv_tableIn (x := nI 6) (off := 403) (tgt := 436) hx hb dL_law_33 (by decide +kernel) (by decide +kernel) (by decide +kernel) (by decide) ?_
          exact lc_mirror hL C0 hK hG hi hI0 hl tail
        · subst q
          refine lv_tableIn (x := nI 7) (off := 416) (tgt := 449) hx hb dL_law_33 (by decide +kernel) (by decide +kernel) (by decide +kernel) (by decide) ?_
          exact lc_move hL C0 hK hG hi hI0 hl tail
        · subst q
          refine lv_tableIn (x := nI 8) (off := 449) (tgt := 482) hx hb dL_law_33 (by decide +kernel) (by decide +kernel) (by decide +kernel) (by decide) ?_
          exact lc_add hL C0 hK hG hi hI0 hl tail
        · subst q
          refine lv_tableIn (x := nI 9) (off := 482) (tgt := 515) hx hb dL_law_33 (by decide +kernel) (by decide +kernel) (by decide +kernel) (by decide) ?_
          exact lc_rests hL C0 hK hG hi hI0 hl tail
        · subst q
          refine lv_tableIn (x := nI 10) (off := 495) (tgt := 528) hx hb dL_law_33 (by decide +kernel) (by decide +kernel) (by decide +kernel) (by decide) ?_
          exact lc_rest hL C0 hK hG hi hI0 hl tail
        · subst q
          refine lv_tableIn (x := nI 11) (off := 544) (tgt := 577) hx hb dL_law_33 (by decide +kernel) (by decide +kernel) (by decide +kernel) (by decide) ?_
          exact lc_sort hL C0 hK hG hi hI0 hl tail
        · subst q
          refine lv_tableIn (x := nI 12) (off := 577) (tgt := 610) hx hb dL_law_33 (by decide +kernel) (by decide +kernel) (by decide +kernel) (by decide) ?_
          exact lc_sorts hL C0 hK hG hi hI0 hl tail
        · subst q
          refine lv_tableIn (x := nI 13) (off := 600) (tgt := 633) hx hb dL_law_33 (by decide +kernel) (by decide +kernel) (by decide +kernel) (by decide) ?_
          exact lc_corner hL C0 hK hG hi hI0 hl tail
        · subst q
          refine lv_tableIn (x := nI 14) (off := 633) (tgt := 666) hx hb dL_law_33 (by decide +kernel) (by decide +kernel) (by decide +kernel) (by decide) ?_
          exact lc_open hL C0 hK hG hi hI0 hl tail
        · subst q
          refine lv_tableIn (x := nI 15) (off := 646) (tgt := 679) hx hb dL_law_33 (by decide +kernel) (by decide +kernel) (by decide +kernel) (by decide) ?_
          exact lc_simple hL C0 hK hG hi hI0 hl tail
        · subst q
          refine lv_tableIn (x := nI 16) (off := 685) (tgt := 718) hx hb dL_law_33 (by decide +kernel) (by decide +kernel) (by decide +kernel) (by decide) ?_
          exact lc_area hL C0 hK hG hi hI0 hl tail
        · subst q
          refine lv_tableIn (x := nI 17) (off := 698) (tgt := 731) hx hb dL_law_33 (by decide +kernel) (by decide +kernel) (by decide +kernel) (by decide) ?_
          exact lc_within hL C0 hK hG hi hI0 hl tail
        · subst q
          refine lv_tableIn (x := nI 18) (off := 731) (tgt := 764) hx hb dL_law_33 (by decide +kernel) (by decide +kernel) (by decide +kernel) (by decide) ?_
          exact lc_across hL C0 hK hG hi hI0 hl tail
        · subst q
          refine lv_tableIn (x := nI 19) (off := 754) (tgt := 787) hx hb dL_law_33 (by decide +kernel) (by decide +kernel) (by decide +kernel) (by decide) ?_
          exact lc_turns hL C0 hK hG hi hI0 hl tail
        · subst q
          refine lv_tableIn (x := nI 20) (off := 777) (tgt := 810) hx hb dL_law_33 (by decide +kernel) (by decide +kernel) (by decide +kernel) (by decide) ?_
          exact lc_held hL C0 hK hG hi hI0 hl tail
        · subst q
          refine lv_tableIn (x := nI 21) (off := 816) (tgt := 849) hx hb dL_law_33 (by decide +kernel) (by decide +kernel) (by decide +kernel) (by decide) ?_
          exact lc_wind hL C0 hK hG hi hI0 hl tail
        · subst q
          refine lv_tableIn (x := nI 22) (off := 829) (tgt := 862) hx hb dL_law_33 (by decide +kernel) (by decide +kernel) (by decide +kernel) (by decide) ?_
          exact lc_indexes hL C0 hK hG hi hI0 hl tail
        · subst q
          refine lv_tableIn (x := nI 23) (off := 842) (tgt := 875) hx hb dL_law_33 (by decide +kernel) (by decide +kernel) (by decide +kernel) (by decide) ?_
          exact lc_along hL C0 hK hG hi hI0 hl tail
        · subst q
          refine lv_tableIn (x := nI 24) (off := 917) (tgt := 950) hx hb dL_law_33 (by decide +kernel) (by decide +kernel) (by decide +kernel) (by decide) ?_
          exact lc_falls hL C0 hK hG hi hI0 hl tail
        · subst q
          refine lv_tableIn (x := nI 25) (off := 1004) (tgt := 1037) hx hb dL_law_33 (by decide +kernel) (by decide +kernel) (by decide +kernel) (by decide) ?_
          exact lc_kept hL C0 hK hG hi hI0 hl tail
        · subst q
          refine lv_tableIn (x := nI 26) (off := 1017) (tgt := 1050) hx hb dL_law_33 (by decide +kernel) (by decide +kernel) (by decide +kernel) (by decide) ?_
          exact lc_none hL C0 hK hG hi hI0 hl tail
        · subst q
          refine lv_tableIn (x := nI 27) (off := 1070) (tgt := 1103) hx hb dL_law_33 (by decide +kernel) (by decide +kernel) (by decide +kernel) (by decide) ?_
          exact lc_edge hL C0 hK hG hi hI0 hl tail
        · subst q
          refine lv_tableIn (x := nI 28) (off := 1083) (tgt := 1116) hx hb dL_law_33 (by decide +kernel) (by decide +kernel) (by decide +kernel) (by decide) ?_
          exact lc_far hL C0 hK hG hi hI0 hl tail
        · subst q
          refine lv_tableIn (x := nI 29) (off := 1116) (tgt := 1149) hx hb dL_law_33 (by decide +kernel) (by decide +kernel) (by decide +kernel) (by decide) ?_
          exact lc_keep hL C0 hK hG hi hI0 hl tail
        · subst q
          refine lv_tableIn (x := nI 30) (off := 1139) (tgt := 1172) hx hb dL_law_33 (by decide +kernel) (by decide +kernel) (by decide +kernel) (by decide) ?_
          exact lc_bring hL C0 hK hG hi hI0 hl tail
        · subst q
          refine lv_tableIn (x := nI 31) (off := 1162) (tgt := 1195) hx hb dL_law_33 (by decide +kernel) (by decide +kernel) (by decide +kernel) (by decide) ?_
          exact lc_as hL C0 hK hG hi hI0 hl tail
        · subst q
          refine lv_tableIn (x := nI 32) (off := 1195) (tgt := 1228) hx hb dL_law_33 (by decide +kernel) (by decide +kernel) (by decide +kernel) (by decide) ?_
          exact lc_sheet hL C0 hK hG hi hI0 hl tail
        · subst q
          refine lv_tableIn (x := nI 33) (off := 1238) (tgt := 1271) hx hb dL_law_33 (by decide +kernel) (by decide +kernel) (by decide +kernel) (by decide) ?_
          exact lc_write hL C0 hK hG hi hI0 hl tail
        · subst q
          refine lv_tableIn (x := nI 34) (off := 1281) (tgt := 1314) hx hb dL_law_33 (by decide +kernel) (by decide +kernel) (by decide +kernel) (by decide) ?_
          exact lc_copy hL C0 hK hG hi hI0 hl tail
        · subst q
          refine lv_tableIn (x := nI 35) (off := 1344) (tgt := 1377) hx hb dL_law_33 (by decide +kernel) (by decide +kernel) (by decide +kernel) (by decide) ?_
          exact lc_lay hL C0 hK hG hi hI0 hl tail
        · subst q
          refine lv_tableIn (x := nI 36) (off := 1367) (tgt := 1400) hx hb dL_law_33 (by decide +kernel) (by decide +kernel) (by decide +kernel) (by decide) ?_
          exact lc_undo hL C0 hK hG hi hI0 hl tail
        · subst q
          refine lv_tableIn (x := nI 37) (off := 1380) (tgt := 1413) hx hb dL_law_33 (by decide +kernel) (by decide +kernel) (by decide +kernel) (by decide) ?_
          exact lc_told hL C0 hK hG hi hI0 hl tail
      · refine lv_tableOut (tgt := 1436) hx hb dL_law_33 (Or.inr (by rw [nI_toInt (by omega)]; omega)) (by decide) ?_
        exact tail H locs hI0
