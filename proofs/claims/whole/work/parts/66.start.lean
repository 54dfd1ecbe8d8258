theorem kn_p {args : Array Value} {s : State} {ty : FieldType} (h : (Cond.arrayClass ty).before args s = true) (hr : ∀ cA, s.vm.findClass ("[" ++ ty.toString) = some cA → va_RA s cA ty) : ∃ cA : ClassId, ArrOfT s cA ty ∧ va_RA s cA ty := by
  obtain ⟨cA, kA, comp, hf, hk, hkd⟩ := Cond.arrayClass_spec h
  exact ⟨cA, fun n z => ⟨fun k h => (by cases h), kA, hk, comp, hkd⟩, hr cA hf⟩
theorem kn_o {args : Array Value} {s : State} {C : String} (h : (Cond.arrayOver (.object C)).before args s = true) : ∃ cA : ClassId, ArrOfT s cA (.object C) ∧ va_RA s cA (.object C) := by
  obtain ⟨comp, cA, kA, hcomp, hidx, hkA, hkindA, hnameA⟩ := Cond.arrayOver_spec h
  exact ⟨cA, fun n z => ⟨fun k h => (by cases h), kA, hkA, comp, hkindA⟩, kA, comp, hkA, hkindA, hcomp, hnameA⟩
theorem kn_a {args : Array Value} {s : State} {t : FieldType} (h : (Cond.arrayOver (.array t)).before args s = true) : ∃ cA : ClassId, ArrOfT s cA (.array t) ∧ va_RA s cA (.array t) := by
  obtain ⟨comp, cA, kA, hcomp, hidx, hkA, hkindA, hnameA⟩ := arrayOverA_spec h
  exact ⟨cA, fun n z => ⟨fun k h => (by cases h), kA, hkA, comp, hkindA⟩, hnameA⟩
theorem la_tab {args : Array Value} {s : State} {n : String} {N : Nat} {t : List Int32} {A : Nat → Prop} (hN : N < 2 ^ 31) (hl : (Cond.laysStatic "FlowPlane" n "[I").before args s = true) (hini : (Cond.initialized "FlowPlane").before args s = true) (harr : (Cond.arrayOf (.static "FlowPlane" n "[I") .int).before args s = true) (hlen : (Cond.eq (.length (.static "FlowPlane" n "[I")) (.int (Int32.ofNat N))).before args s = true) (hel : ∀ j : Nat, j < N → (Cond.eq (.elem (.static "FlowPlane" n "[I") (.int (Int32.ofNat j))) (.int (t.getD j 0))).before args s = true) (hA : ∀ a : Nat, a < s.heap.size → ¬ A a) : yk_Z n N t A s s.heap := by
  obtain ⟨q, h1, h2⟩ := va_Tof (f := yk_tab t) hN harr (Cond.eq_int hlen rfl) (fun j hj => Cond.eq_int (hel j hj) rfl) hA
  exact ⟨q, va_Zref hl hini h1 hA, h2⟩
set_option maxHeartbeats 400000000 in
set_option maxRecDepth 100000 in
theorem whole_start {p : Program} {e : Env} {s : State} {m : MethodId} {below : List Frame} {meth : Method} {c : Code} (l : Launch) {b L : Nat} {xs : Nat → Int32} (hL : L ≤ 4096) (C0 : lw_At p s m meth c b L xs) : W p l e room_1 s m #[Value.ref b] below meth c s.heap [] 0 0 (lw_Z below #[Value.ref b] s) (entryFrame m ([Value.ref b] : List Value).toArray 4) := by
  obtain ⟨hx, hb, hr, hml, hown, hts, hX, hbl, hlocks, hgv⟩ := id C0
  have hb : c.code = cL_law := hb
  have hown : s.vm.findClass RL = some m.cls := hown
  have hA : ∀ q : Nat, s.heap.size ≤ q → (fun q : Nat => s.heap.size ≤ q) q := fun _ h => h
  have hnA : ∀ a : Nat, a < s.heap.size → ¬ (fun q : Nat => s.heap.size ≤ q) a := fun a h => Nat.not_le.mpr h
  have hgs := flat_of_before _ hgv
  obtain ⟨c0, i0, hK0⟩ := u_known (C := RX0) (T := TX0) (N := 3) (n := 3) hts iw_X0 (hts (.instantiable RX0 3) (List.mem_of_getElem? (i := 94) (by decide +kernel)))
  obtain ⟨c1, i1, hK1⟩ := u_known (C := RX1) (T := TX1) (N := 2) (n := 2) hts iw_X1 (hts (.instantiable RX1 2) (List.mem_of_getElem? (i := 63) (by decide +kernel)))
  obtain ⟨c2, i2, hK2⟩ := u_known (C := RX2) (T := TX2) (N := 3) (n := 3) hts iw_X2 (hts (.instantiable RX2 3) (List.mem_of_getElem? (i := 116) (by decide +kernel)))
  obtain ⟨c3, i3, hK3⟩ := u_known (C := RX3) (T := TX3) (N := 1) (n := 1) hts iw_X3 (hts (.instantiable RX3 1) (List.mem_of_getElem? (i := 69) (by decide +kernel)))
  obtain ⟨c4, i4, hK4⟩ := u_known (C := RX4) (T := TX4) (N := 3) (n := 3) hts iw_X4 (hts (.instantiable RX4 3) (List.mem_of_getElem? (i := 156) (by decide +kernel)))
  obtain ⟨c5, i5, hK5⟩ := u_known (C := RX5) (T := TX5) (N := 3) (n := 3) hts iw_X5 (hts (.instantiable RX5 3) (List.mem_of_getElem? (i := 137) (by decide +kernel)))
  obtain ⟨c6, i6, hK6⟩ := u_known (C := RX6) (T := TX6) (N := 1) (n := 1) hts iw_X6 (hts (.instantiable RX6 1) (List.mem_of_getElem? (i := 173) (by decide +kernel)))
  obtain ⟨c7, i7, hK7⟩ := u_known (C := RX7) (T := TX7) (N := 13) (n := 13) hts iw_X7 (hts (.instantiable RX7 13) (List.mem_of_getElem? (i := 55) (by decide +kernel)))
  obtain ⟨c8, i8, hK8⟩ := u_known (C := RX8) (T := TX8) (N := 23) (n := 23) hts iw_X8 (hts (.instantiable RX8 23) (List.mem_of_getElem? (i := 761) (by decide +kernel)))
  obtain ⟨D, hDk⟩ : ∃ D : va_G, ∀ (k : Nat) (q : vw_C), vwCl[k]? = some q → u_Kn s q.1 q.2.1 q.2.2 (D.1 k) (D.2 k) := by
    refine ⟨(fun k => if k = 0 then c0 else if k = 1 then c1 else if k = 2 then c2 else if k = 3 then c3 else if k = 4 then c4 else if k = 5 then c5 else if k = 6 then c6 else if k = 7 then c7 else c8, fun k => if k = 0 then i0 else if k = 1 then i1 else if k = 2 then i2 else if k = 3 then i3 else if k = 4 then i4 else if k = 5 then i5 else if k = 6 then i6 else if k = 7 then i7 else i8), ?_⟩
    intro k q hq
    match k, hq with
    | 0, hq => cases hq; exact hK0
    | 1, hq => cases hq; exact hK1
    | 2, hq => cases hq; exact hK2
    | 3, hq => cases hq; exact hK3
    | 4, hq => cases hq; exact hK4
    | 5, hq => cases hq; exact hK5
    | 6, hq => cases hq; exact hK6
    | 7, hq => cases hq; exact hK7
    | 8, hq => cases hq; exact hK8
    | k + 9, hq => simp [vwCl] at hq
  obtain ⟨y0, ha0, hr0⟩ := kn_p (ty := .int) (hts (.arrayClass .int) (List.mem_of_getElem? (i := 81) (by decide +kernel))) (fun _ h => h)
  obtain ⟨y1, ha1, hr1⟩ := kn_p (ty := .long) (hts (.arrayClass .long) (List.mem_of_getElem? (i := 184) (by decide +kernel))) (fun _ h => h)
  obtain ⟨y2, ha2, hr2⟩ := kn_p (ty := .boolean) (hts (.arrayClass .boolean) (List.mem_of_getElem? (i := 836) (by decide +kernel))) (fun _ h => h)
  have ao3 := (hts (.arrayOver (.object "FlowPlane$Flow")) (List.mem_of_getElem? (i := 134) (by decide +kernel)))
  have ao4 := (hts (.arrayOver (.object "FlowPlane$Sheet")) (List.mem_of_getElem? (i := 136) (by decide +kernel)))
  have ao5 := (hts (.arrayOver (.array .int)) (List.mem_of_getElem? (i := 122) (by decide +kernel)))
  have ao6 := (hts (.arrayOver (.array .long)) (List.mem_of_getElem? (i := 179) (by decide +kernel)))
  obtain ⟨y3, ha3, hr3⟩ := kn_o ao3
  obtain ⟨y4, ha4, hr4⟩ := kn_o ao4
  obtain ⟨y5, ha5, hr5⟩ := kn_a ao5
  obtain ⟨y6, ha6, hr6⟩ := kn_a ao6
  obtain ⟨cy, hcy⟩ : ∃ cy : Nat → ClassId, ∀ (k : Nat) (q : ClassId × FieldType), (yk_ty cy)[k]? = some q → ArrOfT s q.1 q.2 ∧ va_RA s q.1 q.2 := by
    refine ⟨fun k => if k = 0 then y0 else if k = 1 then y1 else if k = 2 then y2 else if k = 3 then y3 else if k = 4 then y4 else if k = 5 then y5 else y6, ?_⟩
    intro k q hq
    match k, hq with
    | 0, hq => cases hq; exact ⟨ha0, hr0⟩
    | 1, hq => cases hq; exact ⟨ha1, hr1⟩
    | 2, hq => cases hq; exact ⟨ha2, hr2⟩
    | 3, hq => cases hq; exact ⟨ha3, hr3⟩
    | 4, hq => cases hq; exact ⟨ha4, hr4⟩
    | 5, hq => cases hq; exact ⟨ha5, hr5⟩
    | 6, hq => cases hq; exact ⟨ha6, hr6⟩
    | k + 7, hq => simp [yk_ty] at hq
  have hK : va_K D vwCl (yk_ty cy) s := ⟨hDk, hcy⟩
  have hT_TIMES_X : yk_Z "TIMES_X" 6 [1, 3, 4, 6, 7, 8] (fun q : Nat => s.heap.size ≤ q) s s.heap := by
    refine la_tab (by decide) (hts (.laysStatic "FlowPlane" "TIMES_X" "[I") (List.mem_of_getElem? (i := 610) (by decide +kernel))) (hts (.initialized "FlowPlane") (List.mem_of_getElem? (i := 42) (by decide +kernel))) (hgs _ (by decide +kernel)) (hgs (.eq (.length (.static "FlowPlane" "TIMES_X" "[I")) (.int 6)) (by decide +kernel)) (fun j hj => ?_) hnA
    match j, hj with
    | 0, _ => exact hgs (.eq (.elem (.static "FlowPlane" "TIMES_X" "[I") (.int 0)) (.int (1))) (by decide +kernel)
    | 1, _ => exact hgs (.eq (.elem (.static "FlowPlane" "TIMES_X" "[I") (.int 1)) (.int (3))) (by decide +kernel)
    | 2, _ => exact hgs (.eq (.elem (.static "FlowPlane" "TIMES_X" "[I") (.int 2)) (.int (4))) (by decide +kernel)
    | 3, _ => exact hgs (.eq (.elem (.static "FlowPlane" "TIMES_X" "[I") (.int 3)) (.int (6))) (by decide +kernel)
    | 4, _ => exact hgs (.eq (.elem (.static "FlowPlane" "TIMES_X" "[I") (.int 4)) (.int (7))) (by decide +kernel)
    | 5, _ => exact hgs (.eq (.elem (.static "FlowPlane" "TIMES_X" "[I") (.int 5)) (.int (8))) (by decide +kernel)
  have hT_TIMES_Y : yk_Z "TIMES_Y" 6 [2, 4, 5, 7, 8, 9] (fun q : Nat => s.heap.size ≤ q) s s.heap := by
    refine la_tab (by decide) (hts (.laysStatic "FlowPlane" "TIMES_Y" "[I") (List.mem_of_getElem? (i := 612) (by decide +kernel))) (hts (.initialized "FlowPlane") (List.mem_of_getElem? (i := 42) (by decide +kernel))) (hgs _ (by decide +kernel)) (hgs (.eq (.length (.static "FlowPlane" "TIMES_Y" "[I")) (.int 6)) (by decide +kernel)) (fun j hj => ?_) hnA
    match j, hj with
    | 0, _ => exact hgs (.eq (.elem (.static "FlowPlane" "TIMES_Y" "[I") (.int 0)) (.int (2))) (by decide +kernel)
    | 1, _ => exact hgs (.eq (.elem (.static "FlowPlane" "TIMES_Y" "[I") (.int 1)) (.int (4))) (by decide +kernel)
    | 2, _ => exact hgs (.eq (.elem (.static "FlowPlane" "TIMES_Y" "[I") (.int 2)) (.int (5))) (by decide +kernel)
    | 3, _ => exact hgs (.eq (.elem (.static "FlowPlane" "TIMES_Y" "[I") (.int 3)) (.int (7))) (by decide +kernel)
    | 4, _ => exact hgs (.eq (.elem (.static "FlowPlane" "TIMES_Y" "[I") (.int 4)) (.int (8))) (by decide +kernel)
    | 5, _ => exact hgs (.eq (.elem (.static "FlowPlane" "TIMES_Y" "[I") (.int 5)) (.int (9))) (by decide +kernel)
  have hT_ABOVE : yk_Z "ABOVE" 4 [-1, 0, 1, 0] (fun q : Nat => s.heap.size ≤ q) s s.heap := by
    refine la_tab (by decide) (hts (.laysStatic "FlowPlane" "ABOVE" "[I") (List.mem_of_getElem? (i := 695) (by decide +kernel))) (hts (.initialized "FlowPlane") (List.mem_of_getElem? (i := 42) (by decide +kernel))) (hgs _ (by decide +kernel)) (hgs (.eq (.length (.static "FlowPlane" "ABOVE" "[I")) (.int 4)) (by decide +kernel)) (fun j hj => ?_) hnA
    match j, hj with
    | 0, _ => exact hgs (.eq (.elem (.static "FlowPlane" "ABOVE" "[I") (.int 0)) (.int (-1))) (by decide +kernel)
    | 1, _ => exact hgs (.eq (.elem (.static "FlowPlane" "ABOVE" "[I") (.int 1)) (.int (0))) (by decide +kernel)
    | 2, _ => exact hgs (.eq (.elem (.static "FlowPlane" "ABOVE" "[I") (.int 2)) (.int (1))) (by decide +kernel)
    | 3, _ => exact hgs (.eq (.elem (.static "FlowPlane" "ABOVE" "[I") (.int 3)) (.int (0))) (by decide +kernel)
  have hG : yk_G (fun q : Nat => s.heap.size ≤ q) s s.heap := ⟨hT_TIMES_X, hT_TIMES_Y, hT_ABOVE, va_Nw.of rfl (hts (.methodLinkNest RX3 19 yX7_isWithin "FlowPlane") (List.mem_of_getElem? (i := 346) (by decide +kernel)))⟩
  have hN : yk_N s := ⟨va_Nw.of rfl (hts (.methodLinkNest RX7 9 yX1_init "FlowPlane") (List.mem_of_getElem? (i := 64) (by decide +kernel))), va_Nw.of rfl (hts (.methodLinkNest RX1 11 yX3_init "FlowPlane") (List.mem_of_getElem? (i := 70) (by decide +kernel))), va_Nw.of rfl (hts (.methodLinkNest RX7 21 yX0_init "FlowPlane") (List.mem_of_getElem? (i := 95) (by decide +kernel))), va_Nw.of rfl (hts (.methodLinkNest RX7 28 yX2_init "FlowPlane") (List.mem_of_getElem? (i := 117) (by decide +kernel))), va_Nw.of rfl (hts (.methodLinkNest RX7 47 yX5_init "FlowPlane") (List.mem_of_getElem? (i := 138) (by decide +kernel))), va_Nw.of rfl (hts (.methodLinkNest RX7 50 yX4_init "FlowPlane") (List.mem_of_getElem? (i := 157) (by decide +kernel))), va_Nw.of rfl (hts (.methodLinkNest RX7 66 yX6_init "FlowPlane") (List.mem_of_getElem? (i := 174) (by decide +kernel))), va_AO.of ao3, va_AO.of ao4, va_AOA.of ao5, va_AOA.of ao6⟩
  have hS : va_S (fun q : Nat => s.heap.size ≤ q) s.heap s.heap [] := va_S.rf
  have hP : va_P D vwCl [] s.heap := fun k q h => by simp at h
  have hD : va_D (fun q : Nat => s.heap.size ≤ q) [] := ⟨fun i j p q h => by simp at h, fun k q h => by simp at h⟩
  have hl := lv_entry ([.ref b]) (n := 4) (Nat.le_of_ble_eq_true rfl)
  rw [lg_entry_eq]
  generalize (lg_sl ([.ref b]) ++ List.replicate (4 - (lg_sl ([.ref b])).length) Slot.unset).toArray = ls at hl ⊢
  have hl : lv_has ls 4 [(0, .ref b)] := hl
  refine yk_newO (cells' := 1) (slots' := 13) (ci := 7) (C := RX7) (T := TX7) (N := 13) (fs := [.null, .null, .null, .null, .null, .null, .null, .null, .null, .null, .null, .null, .int 0]) hx hb hts iw_X7 tyX7 tyX7_ok hown (hts (.classLink RL 7 RX7) (List.mem_of_getElem? (i := 54) (by decide +kernel))) (hts (.instantiable RX7 13) (List.mem_of_getElem? (i := 55) (by decide +kernel))) (hts (.initialized RX7) (List.mem_of_getElem? (i := 42) (by decide +kernel))) hK hP hD hS hA rfl (by intro j9 hj9; match j9, hj9 with | 0, _ => rfl | 1, _ => rfl | 2, _ => rfl | 3, _ => rfl | 4, _ => rfl | 5, _ => rfl | 6, _ => rfl | 7, _ => rfl | 8, _ => rfl | 9, _ => rfl | 10, _ => rfl | 11, _ => rfl | 12, _ => rfl) (Nat.le_of_ble_eq_true rfl) (Nat.le_of_ble_eq_true rfl) rfl rfl dL_law_0 (fun ta H hP9 hD9 hS9 => ?_)
  replace hP : va_P D vwCl ([] ++ [(ta, .inr (7, [.null, .null, .null, .null, .null, .null, .null, .null, .null, .null, .null, .null, .int 0]))]) H := hP9
  replace hD : va_D (fun q : Nat => s.heap.size ≤ q) ([] ++ [(ta, .inr (7, [.null, .null, .null, .null, .null, .null, .null, .null, .null, .null, .null, .null, .int 0]))]) := hD9
  replace hS := hS9
  clear hP9 hD9 hS9
  refine lv_dup hx hb dL_law_3 rfl ?_
  refine yk_n (X := []) (x := (ta, .inr (7, [.null, .null, .null, .null, .null, .null, .null, .null, .null, .null, .null, .null, .int 0]))) (W1 := w1_X7 cy ta) (cells' := 83) (slots' := 1096) (va_runI (As := []) (rest := [.ref ta]) ⟨hx, hb, hml, hown, hts⟩ (c_X7_init l D cy ta H.size) (cwI 0 hts gw_X7_init rfl rfl rfl (hts (.initialized RX7) (List.mem_of_getElem? (i := 42) (by decide +kernel))) (hts (.methodLink RL 9 yX7_init) (List.mem_of_getElem? (i := 56) (by decide +kernel))) (hts (.instanceMethod yX7_init) (List.mem_of_getElem? (i := 57) (by decide +kernel))) rfl hs_X7_init ⟨Nat.le_of_ble_eq_true rfl, Nat.le_of_ble_eq_true rfl⟩) (yk_psN (X := []) (x := (ta, .inr (7, [.null, .null, .null, .null, .null, .null, .null, .null, .null, .null, .null, .null, .int 0]))) hN hG hA hS hK hP hD) rfl rfl hl.1 rfl (lv_room (Nat.le_of_ble_eq_true rfl)) dL_law_4 ⟨Nat.le_of_ble_eq_true rfl, Nat.le_of_ble_eq_true rfl⟩) hP hD hS hA rfl rfl (fun ua H locs hP9 hD9 hS9 => ?_)
  replace hP : va_P D vwCl (w1_X7 cy ta ua) H := hP9
  replace hD : va_D (fun q : Nat => s.heap.size ≤ q) (w1_X7 cy ta ua) := hD9
  replace hS := hS9
  clear hP9 hD9 hS9
  refine lv_astore_n (lv' := [(1, .ref ta), (0, .ref b)]) hx hb dL_law_7 rfl hl (by decide) rfl (fun ls hl => ?_)
  refine yk_newO (cells' := 84) (slots' := 1119) (ci := 8) (C := RX8) (T := TX8) (N := 23) (fs := [.null, .null, .null, .null, .null, .null, .null, .null, .int 0, .int 0, .null, .long 0, .long 0, .long 0, .int 0, .null, .int 0, .null, .null, .int 0, .null, .null, .null]) hx hb hts iw_X8 tyX8 tyX8_ok hown (hts (.classLink RL 10 RX8) (List.mem_of_getElem? (i := 760) (by decide +kernel))) (hts (.instantiable RX8 23) (List.mem_of_getElem? (i := 761) (by decide +kernel))) (hts (.initialized RX8) (List.mem_of_getElem? (i := 50) (by decide +kernel))) hK hP hD hS hA rfl (by intro j9 hj9; match j9, hj9 with | 0, _ => rfl | 1, _ => rfl | 2, _ => rfl | 3, _ => rfl | 4, _ => rfl | 5, _ => rfl | 6, _ => rfl | 7, _ => rfl | 8, _ => rfl | 9, _ => rfl | 10, _ => rfl | 11, _ => rfl | 12, _ => rfl | 13, _ => rfl | 14, _ => rfl | 15, _ => rfl | 16, _ => rfl | 17, _ => rfl | 18, _ => rfl | 19, _ => rfl | 20, _ => rfl | 21, _ => rfl | 22, _ => rfl | j9 + 23, h9 => exact absurd h9 (by omega)) (Nat.le_of_ble_eq_true rfl) (Nat.le_of_ble_eq_true rfl) rfl rfl dL_law_8 (fun tc H hP9 hD9 hS9 => ?_)
  replace hP : va_P D vwCl (w1_X7 cy ta ua ++ [(tc, .inr (8, [.null, .null, .null, .null, .null, .null, .null, .null, .int 0, .int 0, .null, .long 0, .long 0, .long 0, .int 0, .null, .int 0, .null, .null, .int 0, .null, .null, .null]))]) H := hP9
  replace hD : va_D (fun q : Nat => s.heap.size ≤ q) (w1_X7 cy ta ua ++ [(tc, .inr (8, [.null, .null, .null, .null, .null, .null, .null, .null, .int 0, .int 0, .null, .long 0, .long 0, .long 0, .int 0, .null, .int 0, .null, .null, .int 0, .null, .null, .null]))]) := hD9
  replace hS := hS9
  clear hP9 hD9 hS9
  refine lv_dup hx hb dL_law_11 rfl ?_
  refine yk_n (X := (w1_X7 cy ta ua)) (x := (tc, .inr (8, [.null, .null, .null, .null, .null, .null, .null, .null, .int 0, .int 0, .null, .long 0, .long 0, .long 0, .int 0, .null, .int 0, .null, .null, .int 0, .null, .null, .null]))) (W1 := w1_X8 cy tc) (cells' := 99) (slots' := 2219) (va_runI (As := []) (rest := [.ref tc]) ⟨hx, hb, hml, hown, hts⟩ (c_X8_init l D cy tc H.size) (cwI 0 hts gw_X8_init rfl rfl rfl (hts (.initialized RX8) (List.mem_of_getElem? (i := 50) (by decide +kernel))) (hts (.methodLink RL 12 yX8_init) (List.mem_of_getElem? (i := 762) (by decide +kernel))) (hts (.instanceMethod yX8_init) (List.mem_of_getElem? (i := 763) (by decide +kernel))) rfl hs_X8_init ⟨Nat.le_of_ble_eq_true rfl, Nat.le_of_ble_eq_true rfl⟩) (yk_psN (X := (w1_X7 cy ta ua)) (x := (tc, .inr (8, [.null, .null, .null, .null, .null, .null, .null, .null, .int 0, .int 0, .null, .long 0, .long 0, .long 0, .int 0, .null, .int 0, .null, .null, .int 0, .null, .null, .null]))) hN hG hA hS hK hP hD) rfl rfl hl.1 rfl (lv_room (Nat.le_of_ble_eq_true rfl)) dL_law_12 ⟨Nat.le_of_ble_eq_true rfl, Nat.le_of_ble_eq_true rfl⟩) hP hD hS hA rfl rfl (fun ub H locs hP9 hD9 hS9 => ?_)
  refine lv_astore_n (lv' := [(2, .ref tc), (1, .ref ta), (0, .ref b)]) hx hb dL_law_15 rfl hl (by decide) rfl (fun ls hl => ?_)
  refine lv_iconst (v := 0) hx hb dL_law_16 (by decide) ?_
  refine lv_istore_n (lv' := [(3, .int 0), (2, .ref tc), (1, .ref ta), (0, .ref b)]) hx hb dL_law_17 rfl hl (by decide) rfl (fun ls hl => ?_)
  have hP : va_P D vwCl (wlw cy ta tc ua ub 0 (fun _ => 0) (fun _ => 0) (fun _ => 0) (fun _ => 0) (fun _ => 0) (fun _ => 0) 0 0 24 (upd (upd (upd (upd (fun _ => 0) 0 (-1)) 1 (-1)) 2 (-1)) 3 (-1)) (fun _ _ => 0) (fun _ _ => 0) (fun _ _ => 0) (fun _ => 0) (fun _ => 0) 0 0 0 0 0 0 0 0 0 (fun _ => 0) (fun _ _ => 0) (fun _ _ => 0) (fun _ => 0) (fun _ => 0) (fun _ => 0) (fun _ => 0) (fun _ => 0) (fun _ => 0) (fun _ => 0) (fun _ => 0) 0 0 (fun _ => 0) 0 0 0 0 (fun _ => 0) 0 (fun _ => 0) (fun _ => 0) 0 (fun _ => 0) (fun _ => 0) (fun _ => 0)) H := yk_pmP [0, 1, 2, 3, 4, 5, 6, 7, 8, 9, 10, 11, 12, 13, 14, 15, 16, 18, 19, 20, 21, 22, 23, 24, 25, 26, 27, 28, 29, 30, 31, 32, 33, 34, 35, 36, 37, 17, 38, 39, 40, 41, 42, 43, 44, 45, 46, 47, 48, 49, 50, 51, 52, 53, 54, 55, 56, 57, 58, 59, 60, 61, 62, 63, 64, 65, 66, 67, 68, 69, 70, 71, 72, 73, 74, 75, 76, 77, 78, 79, 80, 81, 82, 83, 84, 85, 86, 87, 88, 89, 90, 91, 92, 93, 94, 95, 96, 97, 98] rfl hP9
  have hD : va_D (fun q : Nat => s.heap.size ≤ q) (wlw cy ta tc ua ub 0 (fun _ => 0) (fun _ => 0) (fun _ => 0) (fun _ => 0) (fun _ => 0) (fun _ => 0) 0 0 24 (upd (upd (upd (upd (fun _ => 0) 0 (-1)) 1 (-1)) 2 (-1)) 3 (-1)) (fun _ _ => 0) (fun _ _ => 0) (fun _ _ => 0) (fun _ => 0) (fun _ => 0) 0 0 0 0 0 0 0 0 0 (fun _ => 0) (fun _ _ => 0) (fun _ _ => 0) (fun _ => 0) (fun _ => 0) (fun _ => 0) (fun _ => 0) (fun _ => 0) (fun _ => 0) (fun _ => 0) (fun _ => 0) 0 0 (fun _ => 0) 0 0 0 0 (fun _ => 0) 0 (fun _ => 0) (fun _ => 0) 0 (fun _ => 0) (fun _ => 0) (fun _ => 0)) := yk_pmD [0, 1, 2, 3, 4, 5, 6, 7, 8, 9, 10, 11, 12, 13, 14, 15, 16, 18, 19, 20, 21, 22, 23, 24, 25, 26, 27, 28, 29, 30, 31, 32, 33, 34, 35, 36, 37, 17, 38, 39, 40, 41, 42, 43, 44, 45, 46, 47, 48, 49, 50, 51, 52, 53, 54, 55, 56, 57, 58, 59, 60, 61, 62, 63, 64, 65, 66, 67, 68, 69, 70, 71, 72, 73, 74, 75, 76, 77, 78, 79, 80, 81, 82, 83, 84, 85, 86, 87, 88, 89, 90, 91, 92, 93, 94, 95, 96, 97, 98] (by decide +kernel) rfl hD9
  have b0 : bd (0 : Int32) 4 := ⟨by decide, by decide⟩
  refine la_loop hL C0 hK hG (L + 1) 0 (by omega) (by omega) H locs ls ⟨0, (fun _ => 0), (fun _ => 0), (fun _ => 0), (fun _ => 0), (fun _ => 0), (fun _ => 0), 0, 0, 24, (upd (upd (upd (upd (fun _ => 0) 0 (-1)) 1 (-1)) 2 (-1)) 3 (-1)), (fun _ _ => 0), (fun _ _ => 0), (fun _ _ => 0), (fun _ => 0), (fun _ => 0), 0, 0, 0, 0, 0, 0, 0, 0, 0, (fun _ => 0), (fun _ _ => 0), (fun _ _ => 0), (fun _ => 0), (fun _ => 0), (fun _ => 0), (fun _ => 0), (fun _ => 0), (fun _ => 0), (fun _ => 0), (fun _ => 0), 0, 0, (fun _ => 0), 0, 0, 0, 0, (fun _ => 0), 0, (fun _ => 0), (fun _ => 0), 0, (fun _ => 0), (fun _ => 0), (fun _ => 0), rfl, ?_, ?_, ?_, ?_, hP, hD, hS9⟩ (lv_sub hl [3, 2, 1, 0] rfl)
  · exact ⟨fun k _ => ⟨rfl, rfl, b0, b0⟩, rfl, by decide, fun j hj => absurd hj (Nat.not_lt_zero _), fun hj => absurd hj (Nat.lt_irrefl _)⟩
  · exact ⟨rfl, by decide, by decide, fun i hi => absurd hi (Nat.not_lt_zero _)⟩
  · intro i hi
    have : i = 0 ∨ i = 1 ∨ i = 2 ∨ i = 3 := by omega
    rcases this with q | q | q | q <;> subst q <;> exact Or.inl ⟨rfl, rfl⟩
  · exact fun i _ => ⟨rfl, rfl, Nat.zero_le 16, fun _ _ => rfl⟩
