theorem hv_X8_follow : yX8_follow.cls = RX8 ∧ yX8_follow.cls ≠ "java/lang/invoke/MethodHandle" ∧ yX8_follow.cls ≠ "java/lang/invoke/VarHandle" ∧ (parseMethodDescriptor yX8_follow.desc).map (fun d => d.parameters.length) = some 2 := by decide +kernel
theorem hs_X8_follow : yX8_follow.cls ≠ "java/lang/invoke/MethodHandle" ∧ yX8_follow.cls ≠ "java/lang/invoke/VarHandle" ∧ (parseMethodDescriptor yX8_follow.desc).map (fun d => d.parameters.length) = some 2 := by decide +kernel
--CUT
theorem kX8_cross_0 : Cond.fieldLink RX8 139 "FlowPlaneModel" "a" "J" ∈ wsX8_cross := by decide +kernel
theorem kX8_cross_1 : Cond.fieldLink RX8 143 "FlowPlaneModel" "b" "J" ∈ wsX8_cross := by decide +kernel
theorem kX8_cross_2 : Cond.fieldLink RX8 146 "FlowPlaneModel" "c" "J" ∈ wsX8_cross := by decide +kernel
theorem uX8_cross_X8 : ∀ w ∈ u_ws RX8 TX8 23, w ∈ wsX8_cross := by decide +kernel
def f_X8_cross (nw : Nat → Int32) (k : Nat) (n : Nat) : Int64 × Int64 × Int64 := (((((((f_X8_xOf nw (k + 1) n) - (f_X8_xOf nw k n))).toInt64) * ((f_X8_follow nw k 1 n).1)) - (((((f_X8_yOf nw (k + 1) n) - (f_X8_yOf nw k n))).toInt64) * ((f_X8_follow nw k 0 n).1))), ((((((f_X8_xOf nw (k + 1) n) - (f_X8_xOf nw k n))).toInt64) * ((f_X8_follow nw k 1 n).2.1)) - (((((f_X8_yOf nw (k + 1) n) - (f_X8_yOf nw k n))).toInt64) * ((f_X8_follow nw k 0 n).2.1))), ((((((f_X8_xOf nw (k + 1) n) - (f_X8_xOf nw k n))).toInt64) * ((f_X8_follow nw k 1 n).2.2)) - (((((f_X8_yOf nw (k + 1) n) - (f_X8_yOf nw k n))).toInt64) * ((f_X8_follow nw k 0 n).2.2))))
set_option maxHeartbeats 400000000 in
set_option maxRecDepth 100000 in
theorem c_X8_cross (l : Launch) (D : va_G) (cy : Nat → ClassId) (ta : Nat) (m_now : Nat) (m_undone : Nat) (m_slots : Nat) (m_slotKind : Nat) (m_hasSlot : Nat) (m_sheetBits : Nat) (m_sheetSize : Nat) (m_sheets : Nat) (m_fresh : Nat) (m_rootWhich : Nat) (m_signs : Nat) (m_atNought : Nat) (m_change : Nat) (m_table : Nat) (m_carried : Nat) (nw : Nat → Int32) (u : Nat) (fi : Int32) (aa : Int64) (bb : Int64) (dd : Int64) (ro : Nat) (db : Int32) (mn : Nat) (k : Nat) (n : Nat) (hn12 : nw 12 = nI n) (hn : n ≤ 8) (hn0 : 0 < n) (hk : k < 63) : yk_Cv l D vwCl (yk_ty cy) yX8_cross wsX8_cross 3 72 [.ref ta, .int (nI k)] [(ta, .inr (8, [.ref m_now, .ref m_undone, .ref m_slots, .ref m_slotKind, .ref m_hasSlot, .ref m_sheetBits, .ref m_sheetSize, .ref m_sheets, .int (nI u), .int fi, .ref m_fresh, .long aa, .long bb, .long dd, .int (nI ro), .ref m_rootWhich, .int db, .ref m_signs, .ref m_atNought, .int (nI mn), .ref m_change, .ref m_table, .ref m_carried])), (m_now, .inl (cy 0, 29, .inl nw))] [(ta, .inr (8, [.ref m_now, .ref m_undone, .ref m_slots, .ref m_slotKind, .ref m_hasSlot, .ref m_sheetBits, .ref m_sheetSize, .ref m_sheets, .int (nI u), .int fi, .ref m_fresh, .long ((f_X8_cross nw k n).1), .long ((f_X8_cross nw k n).2.1), .long ((f_X8_cross nw k n).2.2), .int (nI ro), .ref m_rootWhich, .int db, .ref m_signs, .ref m_atNought, .int (nI mn), .ref m_change, .ref m_table, .ref m_carried])), (m_now, .inl (cy 0, 29, .inl nw))] := by
  refine yk_eV (cc := cX8_cross) (maxL := 10) (by decide) rfl (Nat.le_of_ble_eq_true rfl) ?_
  intro p e R s m args below meth c A Q ls H locs hx hb hml hown hts hRf hRl hA hK hG hP hD hS hl hQ
  have hP : va_P D vwCl [(ta, .inr (8, [.ref m_now, .ref m_undone, .ref m_slots, .ref m_slotKind, .ref m_hasSlot, .ref m_sheetBits, .ref m_sheetSize, .ref m_sheets, .int (nI u), .int fi, .ref m_fresh, .long aa, .long bb, .long dd, .int (nI ro), .ref m_rootWhich, .int db, .ref m_signs, .ref m_atNought, .int (nI mn), .ref m_change, .ref m_table, .ref m_carried])), (m_now, .inl (cy 0, 29, .inl nw))] H := hP
  have hl : lv_has ls 10 [(0, .ref ta), (1, .int (nI k))] := hl
  have hown : s.vm.findClass RX8 = some m.cls := hown
  have hF : (f_X8_cross nw k n) = (f_X8_cross nw k n) := rfl
  refine lv_aload_n hx hb dX8_cross_0 rfl (lv_at hl 0 rfl) ?_
  refine lv_iload_n hx hb dX8_cross_1 rfl (lv_at hl 1 rfl) ?_
  refine lv_iconst (v := 1) hx hb dX8_cross_2 (by decide) ?_
  refine lv_iadd hx hb dX8_cross_3 ?_
  refine yk_ti (y := nI (k + 1)) (nI_add k 1) ?_
  refine yk_i [0, 1] (va_runV (As := [.int (nI (k + 1))]) (rest := []) ⟨hx, hb, hml, hown, hts⟩ (c_X8_xOf l D cy ta m_now m_undone m_slots m_slotKind m_hasSlot m_sheetBits m_sheetSize m_sheets m_fresh m_rootWhich m_signs m_atNought m_change m_table m_carried nw u fi aa bb dd ro db mn (k + 1) n hn12 hn hn0 (by omega) H.size) (cwV 1 hts gX8_cross_X8_xOf rfl rfl rfl hv_X8_xOf (yk_room hRf hRl rfl rfl)) (yk_pv (q := (RX8, TX8, 23)) hG hA hS hK hP hD [0, 1] (by decide +kernel) rfl rfl rfl) rfl rfl hl.1 rfl (lv_room (Nat.le_of_ble_eq_true rfl)) dX8_cross_4 ⟨Nat.zero_le _, Nat.zero_le _⟩) hP hD hS hA rfl (Eq.trans (b := [ta, m_now]) rfl rfl) (fun H locs hP9 hD9 hS9 => ?_)
  replace hP : va_P D vwCl [(ta, .inr (8, [.ref m_now, .ref m_undone, .ref m_slots, .ref m_slotKind, .ref m_hasSlot, .ref m_sheetBits, .ref m_sheetSize, .ref m_sheets, .int (nI u), .int fi, .ref m_fresh, .long aa, .long bb, .long dd, .int (nI ro), .ref m_rootWhich, .int db, .ref m_signs, .ref m_atNought, .int (nI mn), .ref m_change, .ref m_table, .ref m_carried])), (m_now, .inl (cy 0, 29, .inl nw))] H := hP9
  replace hD : va_D A [(ta, .inr (8, [.ref m_now, .ref m_undone, .ref m_slots, .ref m_slotKind, .ref m_hasSlot, .ref m_sheetBits, .ref m_sheetSize, .ref m_sheets, .int (nI u), .int fi, .ref m_fresh, .long aa, .long bb, .long dd, .int (nI ro), .ref m_rootWhich, .int db, .ref m_signs, .ref m_atNought, .int (nI mn), .ref m_change, .ref m_table, .ref m_carried])), (m_now, .inl (cy 0, 29, .inl nw))] := hD9
  replace hS := hS9
  clear hP9 hD9 hS9
  refine lv_aload_n hx hb dX8_cross_7 rfl (lv_at hl 0 rfl) ?_
  refine lv_iload_n hx hb dX8_cross_8 rfl (lv_at hl 1 rfl) ?_
  refine yk_i [0, 1] (va_runV (As := [.int (nI k)]) (rest := [.int (f_X8_xOf nw (k + 1) n)]) ⟨hx, hb, hml, hown, hts⟩ (c_X8_xOf l D cy ta m_now m_undone m_slots m_slotKind m_hasSlot m_sheetBits m_sheetSize m_sheets m_fresh m_rootWhich m_signs m_atNought m_change m_table m_carried nw u fi aa bb dd ro db mn k n hn12 hn hn0 (by omega) H.size) (cwV 1 hts gX8_cross_X8_xOf rfl rfl rfl hv_X8_xOf (yk_room hRf hRl rfl rfl)) (yk_pv (q := (RX8, TX8, 23)) hG hA hS hK hP hD [0, 1] (by decide +kernel) rfl rfl rfl) rfl rfl hl.1 rfl (lv_room (Nat.le_of_ble_eq_true rfl)) dX8_cross_9 ⟨Nat.zero_le _, Nat.zero_le _⟩) hP hD hS hA rfl (Eq.trans (b := [ta, m_now]) rfl rfl) (fun H locs hP9 hD9 hS9 => ?_)
  replace hP : va_P D vwCl [(ta, .inr (8, [.ref m_now, .ref m_undone, .ref m_slots, .ref m_slotKind, .ref m_hasSlot, .ref m_sheetBits, .ref m_sheetSize, .ref m_sheets, .int (nI u), .int fi, .ref m_fresh, .long aa, .long bb, .long dd, .int (nI ro), .ref m_rootWhich, .int db, .ref m_signs, .ref m_atNought, .int (nI mn), .ref m_change, .ref m_table, .ref m_carried])), (m_now, .inl (cy 0, 29, .inl nw))] H := hP9
  replace hD : va_D A [(ta, .inr (8, [.ref m_now, .ref m_undone, .ref m_slots, .ref m_slotKind, .ref m_hasSlot, .ref m_sheetBits, .ref m_sheetSize, .ref m_sheets, .int (nI u), .int fi, .ref m_fresh, .long aa, .long bb, .long dd, .int (nI ro), .ref m_rootWhich, .int db, .ref m_signs, .ref m_atNought, .int (nI mn), .ref m_change, .ref m_table, .ref m_carried])), (m_now, .inl (cy 0, 29, .inl nw))] := hD9
  replace hS := hS9
  clear hP9 hD9 hS9
  refine lv_isub hx hb dX8_cross_12 ?_
  refine lv_istore_n (lv' := [(2, .int ((f_X8_xOf nw (k + 1) n) - (f_X8_xOf nw k n))), (0, .ref ta), (1, .int (nI k))]) hx hb dX8_cross_13 rfl hl (by decide) rfl (fun ls hl9 => ?_)
  replace hl := hl9
  clear hl9
  refine lv_aload_n hx hb dX8_cross_14 rfl (lv_at hl 1 rfl) ?_
  refine lv_iload_n hx hb dX8_cross_15 rfl (lv_at hl 2 rfl) ?_
  refine lv_iconst (v := 1) hx hb dX8_cross_16 (by decide) ?_
  refine lv_iadd hx hb dX8_cross_17 ?_
  refine yk_ti (y := nI (k + 1)) (nI_add k 1) ?_
  refine yk_i [0, 1] (va_runV (As := [.int (nI (k + 1))]) (rest := []) ⟨hx, hb, hml, hown, hts⟩ (c_X8_yOf l D cy ta m_now m_undone m_slots m_slotKind m_hasSlot m_sheetBits m_sheetSize m_sheets m_fresh m_rootWhich m_signs m_atNought m_change m_table m_carried nw u fi aa bb dd ro db mn (k + 1) n hn12 hn hn0 (by omega) H.size) (cwV 1 hts gX8_cross_X8_yOf rfl rfl rfl hv_X8_yOf (yk_room hRf hRl rfl rfl)) (yk_pv (q := (RX8, TX8, 23)) hG hA hS hK hP hD [0, 1] (by decide +kernel) rfl rfl rfl) rfl rfl hl.1 rfl (lv_room (Nat.le_of_ble_eq_true rfl)) dX8_cross_18 ⟨Nat.zero_le _, Nat.zero_le _⟩) hP hD hS hA rfl (Eq.trans (b := [ta, m_now]) rfl rfl) (fun H locs hP9 hD9 hS9 => ?_)
  replace hP : va_P D vwCl [(ta, .inr (8, [.ref m_now, .ref m_undone, .ref m_slots, .ref m_slotKind, .ref m_hasSlot, .ref m_sheetBits, .ref m_sheetSize, .ref m_sheets, .int (nI u), .int fi, .ref m_fresh, .long aa, .long bb, .long dd, .int (nI ro), .ref m_rootWhich, .int db, .ref m_signs, .ref m_atNought, .int (nI mn), .ref m_change, .ref m_table, .ref m_carried])), (m_now, .inl (cy 0, 29, .inl nw))] H := hP9
  replace hD : va_D A [(ta, .inr (8, [.ref m_now, .ref m_undone, .ref m_slots, .ref m_slotKind, .ref m_hasSlot, .ref m_sheetBits, .ref m_sheetSize, .ref m_sheets, .int (nI u), .int fi, .ref m_fresh, .long aa, .long bb, .long dd, .int (nI ro), .ref m_rootWhich, .int db, .ref m_signs, .ref m_atNought, .int (nI mn), .ref m_change, .ref m_table, .ref m_carried])), (m_now, .inl (cy 0, 29, .inl nw))] := hD9
  replace hS := hS9
  clear hP9 hD9 hS9
  refine lv_aload_n hx hb dX8_cross_21 rfl (lv_at hl 1 rfl) ?_
  refine lv_iload_n hx hb dX8_cross_22 rfl (lv_at hl 2 rfl) ?_
  refine yk_i [0, 1] (va_runV (As := [.int (nI k)]) (rest := [.int (f_X8_yOf nw (k + 1) n)]) ⟨hx, hb, hml, hown, hts⟩ (c_X8_yOf l D cy ta m_now m_undone m_slots m_slotKind m_hasSlot m_sheetBits m_sheetSize m_sheets m_fresh m_rootWhich m_signs m_atNought m_change m_table m_carried nw u fi aa bb dd ro db mn k n hn12 hn hn0 (by omega) H.size) (cwV 1 hts gX8_cross_X8_yOf rfl rfl rfl hv_X8_yOf (yk_room hRf hRl rfl rfl)) (yk_pv (q := (RX8, TX8, 23)) hG hA hS hK hP hD [0, 1] (by decide +kernel) rfl rfl rfl) rfl rfl hl.1 rfl (lv_room (Nat.le_of_ble_eq_true rfl)) dX8_cross_23 ⟨Nat.zero_le _, Nat.zero_le _⟩) hP hD hS hA rfl (Eq.trans (b := [ta, m_now]) rfl rfl) (fun H locs hP9 hD9 hS9 => ?_)
  replace hP : va_P D vwCl [(ta, .inr (8, [.ref m_now, .ref m_undone, .ref m_slots, .ref m_slotKind, .ref m_hasSlot, .ref m_sheetBits, .ref m_sheetSize, .ref m_sheets, .int (nI u), .int fi, .ref m_fresh, .long aa, .long bb, .long dd, .int (nI ro), .ref m_rootWhich, .int db, .ref m_signs, .ref m_atNought, .int (nI mn), .ref m_change, .ref m_table, .ref m_carried])), (m_now, .inl (cy 0, 29, .inl nw))] H := hP9
  replace hD : va_D A [(ta, .inr (8, [.ref m_now, .ref m_undone, .ref m_slots, .ref m_slotKind, .ref m_hasSlot, .ref m_sheetBits, .ref m_sheetSize, .ref m_sheets, .int (nI u), .int fi, .ref m_fresh, .long aa, .long bb, .long dd, .int (nI ro), .ref m_rootWhich, .int db, .ref m_signs, .ref m_atNought, .int (nI mn), .ref m_change, .ref m_table, .ref m_carried])), (m_now, .inl (cy 0, 29, .inl nw))] := hD9
  replace hS := hS9
  clear hP9 hD9 hS9
  refine lv_isub hx hb dX8_cross_26 ?_
  refine lv_istore_n (lv' := [(3, .int ((f_X8_yOf nw (k + 1) n) - (f_X8_yOf nw k n))), (2, .int ((f_X8_xOf nw (k + 1) n) - (f_X8_xOf nw k n))), (0, .ref ta), (1, .int (nI k))]) hx hb dX8_cross_27 rfl hl (by decide) rfl (fun ls hl9 => ?_)
  replace hl := hl9
  clear hl9
  refine lv_aload_n hx hb dX8_cross_28 rfl (lv_at hl 2 rfl) ?_
  refine lv_iload_n hx hb dX8_cross_29 rfl (lv_at hl 3 rfl) ?_
  refine lv_iconst (v := 0) hx hb dX8_cross_30 (by decide) ?_
  refine yk_v [0, 1] (va_runV (As := [.int (nI k), .int 0]) (rest := []) ⟨hx, hb, hml, hown, hts⟩ (c_X8_follow l D cy ta m_now m_undone m_slots m_slotKind m_hasSlot m_sheetBits m_sheetSize m_sheets m_fresh m_rootWhich m_signs m_atNought m_change m_table m_carried nw u fi aa bb dd ro db mn k 0 n hn12 hn hn0 hk H.size) (cwV 2 hts gX8_cross_X8_follow rfl rfl rfl hv_X8_follow (yk_room hRf hRl rfl rfl)) (yk_pv (q := (RX8, TX8, 23)) hG hA hS hK hP hD [0, 1] (by decide +kernel) rfl rfl rfl) rfl rfl hl.1 rfl (lv_room (Nat.le_of_ble_eq_true rfl)) dX8_cross_31 ⟨Nat.zero_le _, Nat.zero_le _⟩) hP hD hS hA rfl (Eq.trans (b := [ta, m_now]) rfl rfl) (fun H locs hP9 hD9 hS9 => ?_)
  replace hP : va_P D vwCl [(ta, .inr (8, [.ref m_now, .ref m_undone, .ref m_slots, .ref m_slotKind, .ref m_hasSlot, .ref m_sheetBits, .ref m_sheetSize, .ref m_sheets, .int (nI u), .int fi, .ref m_fresh, .long ((f_X8_follow nw k 0 n).1), .long ((f_X8_follow nw k 0 n).2.1), .long ((f_X8_follow nw k 0 n).2.2), .int (nI ro), .ref m_rootWhich, .int db, .ref m_signs, .ref m_atNought, .int (nI mn), .ref m_change, .ref m_table, .ref m_carried])), (m_now, .inl (cy 0, 29, .inl nw))] H := hP9
  replace hD : va_D A [(ta, .inr (8, [.ref m_now, .ref m_undone, .ref m_slots, .ref m_slotKind, .ref m_hasSlot, .ref m_sheetBits, .ref m_sheetSize, .ref m_sheets, .int (nI u), .int fi, .ref m_fresh, .long ((f_X8_follow nw k 0 n).1), .long ((f_X8_follow nw k 0 n).2.1), .long ((f_X8_follow nw k 0 n).2.2), .int (nI ro), .ref m_rootWhich, .int db, .ref m_signs, .ref m_atNought, .int (nI mn), .ref m_change, .ref m_table, .ref m_carried])), (m_now, .inl (cy 0, 29, .inl nw))] := hD9
  replace hS := hS9
  clear hP9 hD9 hS9
  refine lv_aload_n hx hb dX8_cross_34 rfl (lv_at hl 2 rfl) ?_
  refine va_get (D := D) (ci := 8) (v := .long ((f_X8_follow nw k 0 n).1)) (C := RX8) (T := TX8) (N := 23) hx hb hts uX8_cross_X8 hown hK hP 0 rfl rfl 11 (by decide) (hts _ kX8_cross_0) (fun _ h9 => h9) rfl dX8_cross_35 ?_
  refine lv_lstore (lv' := [(4, .long ((f_X8_follow nw k 0 n).1)), (3, .int ((f_X8_yOf nw (k + 1) n) - (f_X8_yOf nw k n))), (2, .int ((f_X8_xOf nw (k + 1) n) - (f_X8_xOf nw k n))), (0, .ref ta), (1, .int (nI k))]) hx hb dX8_cross_38 hl (by decide) rfl (fun ls hl9 => ?_)
  replace hl := hl9
  clear hl9
  refine lv_aload_n hx hb dX8_cross_40 rfl (lv_at hl 3 rfl) ?_
  refine va_get (D := D) (ci := 8) (v := .long ((f_X8_follow nw k 0 n).2.1)) (C := RX8) (T := TX8) (N := 23) hx hb hts uX8_cross_X8 hown hK hP 0 rfl rfl 12 (by decide) (hts _ kX8_cross_1) (fun _ h9 => h9) rfl dX8_cross_41 ?_
  refine lv_lstore (lv' := [(6, .long ((f_X8_follow nw k 0 n).2.1)), (4, .long ((f_X8_follow nw k 0 n).1)), (3, .int ((f_X8_yOf nw (k + 1) n) - (f_X8_yOf nw k n))), (2, .int ((f_X8_xOf nw (k + 1) n) - (f_X8_xOf nw k n))), (0, .ref ta), (1, .int (nI k))]) hx hb dX8_cross_44 hl (by decide) rfl (fun ls hl9 => ?_)
  replace hl := hl9
  clear hl9
  refine lv_aload_n hx hb dX8_cross_46 rfl (lv_at hl 4 rfl) ?_
  refine va_get (D := D) (ci := 8) (v := .long ((f_X8_follow nw k 0 n).2.2)) (C := RX8) (T := TX8) (N := 23) hx hb hts uX8_cross_X8 hown hK hP 0 rfl rfl 13 (by decide) (hts _ kX8_cross_2) (fun _ h9 => h9) rfl dX8_cross_47 ?_
  refine lv_lstore (lv' := [(8, .long ((f_X8_follow nw k 0 n).2.2)), (6, .long ((f_X8_follow nw k 0 n).2.1)), (4, .long ((f_X8_follow nw k 0 n).1)), (3, .int ((f_X8_yOf nw (k + 1) n) - (f_X8_yOf nw k n))), (2, .int ((f_X8_xOf nw (k + 1) n) - (f_X8_xOf nw k n))), (0, .ref ta), (1, .int (nI k))]) hx hb dX8_cross_50 hl (by decide) rfl (fun ls hl9 => ?_)
  replace hl := hl9
  clear hl9
  refine lv_aload_n hx hb dX8_cross_52 rfl (lv_at hl 5 rfl) ?_
  refine lv_iload_n hx hb dX8_cross_53 rfl (lv_at hl 6 rfl) ?_
  refine lv_iconst (v := 1) hx hb dX8_cross_54 (by decide) ?_
  refine yk_v [0, 1] (va_runV (As := [.int (nI k), .int 1]) (rest := []) ⟨hx, hb, hml, hown, hts⟩ (c_X8_follow l D cy ta m_now m_undone m_slots m_slotKind m_hasSlot m_sheetBits m_sheetSize m_sheets m_fresh m_rootWhich m_signs m_atNought m_change m_table m_carried nw u fi ((f_X8_follow nw k 0 n).1) ((f_X8_follow nw k 0 n).2.1) ((f_X8_follow nw k 0 n).2.2) ro db mn k 1 n hn12 hn hn0 hk H.size) (cwV 2 hts gX8_cross_X8_follow rfl rfl rfl hv_X8_follow (yk_room hRf hRl rfl rfl)) (yk_pv (q := (RX8, TX8, 23)) hG hA hS hK hP hD [0, 1] (by decide +kernel) rfl rfl rfl) rfl rfl hl.1 rfl (lv_room (Nat.le_of_ble_eq_true rfl)) dX8_cross_55 ⟨Nat.zero_le _, Nat.zero_le _⟩) hP hD hS hA rfl (Eq.trans (b := [ta, m_now]) rfl rfl) (fun H locs hP9 hD9 hS9 => ?_)
  replace hP : va_P D vwCl [(ta, .inr (8, [.ref m_now, .ref m_undone, .ref m_slots, .ref m_slotKind, .ref m_hasSlot, .ref m_sheetBits, .ref m_sheetSize, .ref m_sheets, .int (nI u), .int fi, .ref m_fresh, .long ((f_X8_follow nw k 1 n).1), .long ((f_X8_follow nw k 1 n).2.1), .long ((f_X8_follow nw k 1 n).2.2), .int (nI ro), .ref m_rootWhich, .int db, .ref m_signs, .ref m_atNought, .int (nI mn), .ref m_change, .ref m_table, .ref m_carried])), (m_now, .inl (cy 0, 29, .inl nw))] H := hP9
  replace hD : va_D A [(ta, .inr (8, [.ref m_now, .ref m_undone, .ref m_slots, .ref m_slotKind, .ref m_hasSlot, .ref m_sheetBits, .ref m_sheetSize, .ref m_sheets, .int (nI u), .int fi, .ref m_fresh, .long ((f_X8_follow nw k 1 n).1), .long ((f_X8_follow nw k 1 n).2.1), .long ((f_X8_follow nw k 1 n).2.2), .int (nI ro), .ref m_rootWhich, .int db, .ref m_signs, .ref m_atNought, .int (nI mn), .ref m_change, .ref m_table, .ref m_carried])), (m_now, .inl (cy 0, 29, .inl nw))] := hD9
  replace hS := hS9
  clear hP9 hD9 hS9
  refine lv_aload_n hx hb dX8_cross_58 rfl (lv_at hl 5 rfl) ?_
  refine lv_iload_n hx hb dX8_cross_59 rfl (lv_at hl 4 rfl) ?_
  refine lv_i2l hx hb dX8_cross_60 rfl ?_
  refine lv_aload_n hx hb dX8_cross_61 rfl (lv_at hl 5 rfl) ?_
  refine va_get (D := D) (ci := 8) (v := .long ((f_X8_follow nw k 1 n).1)) (C := RX8) (T := TX8) (N := 23) hx hb hts uX8_cross_X8 hown hK hP 0 rfl rfl 11 (by decide) (hts _ kX8_cross_0) (fun _ h9 => h9) rfl dX8_cross_62 ?_
  refine lv_lmul hx hb dX8_cross_65 ?_
  refine lv_iload_n hx hb dX8_cross_66 rfl (lv_at hl 3 rfl) ?_
  refine lv_i2l hx hb dX8_cross_67 rfl ?_
  refine lv_lload hx hb dX8_cross_68 (lv_at hl 2 rfl) ?_
  refine lv_lmul hx hb dX8_cross_70 ?_
  refine lv_lsub hx hb dX8_cross_71 ?_
  refine va_put (D := D) (ci := 8) (v := .long ((((((f_X8_xOf nw (k + 1) n) - (f_X8_xOf nw k n))).toInt64) * ((f_X8_follow nw k 1 n).1)) - (((((f_X8_yOf nw (k + 1) n) - (f_X8_yOf nw k n))).toInt64) * ((f_X8_follow nw k 0 n).1)))) (ty := .long) (C := RX8) (T := TX8) (N := 23) hx hb hts uX8_cross_X8 tyX8 tyX8_ok nmX8 hown hK hP hD hS 0 rfl rfl 11 (by decide) (hts _ kX8_cross_0) (fun _ h9 => h9) rfl (by decide +kernel) (yk_nl _) (yk_fl _) (Nat.le_of_ble_eq_true rfl) dX8_cross_72 (fun H locs hP9 hD9 hS9 => ?_)
  replace hP : va_P D vwCl [(ta, .inr (8, [.ref m_now, .ref m_undone, .ref m_slots, .ref m_slotKind, .ref m_hasSlot, .ref m_sheetBits, .ref m_sheetSize, .ref m_sheets, .int (nI u), .int fi, .ref m_fresh, .long ((((((f_X8_xOf nw (k + 1) n) - (f_X8_xOf nw k n))).toInt64) * ((f_X8_follow nw k 1 n).1)) - (((((f_X8_yOf nw (k + 1) n) - (f_X8_yOf nw k n))).toInt64) * ((f_X8_follow nw k 0 n).1))), .long ((f_X8_follow nw k 1 n).2.1), .long ((f_X8_follow nw k 1 n).2.2), .int (nI ro), .ref m_rootWhich, .int db, .ref m_signs, .ref m_atNought, .int (nI mn), .ref m_change, .ref m_table, .ref m_carried])), (m_now, .inl (cy 0, 29, .inl nw))] H := hP9
  replace hD : va_D A [(ta, .inr (8, [.ref m_now, .ref m_undone, .ref m_slots, .ref m_slotKind, .ref m_hasSlot, .ref m_sheetBits, .ref m_sheetSize, .ref m_sheets, .int (nI u), .int fi, .ref m_fresh, .long ((((((f_X8_xOf nw (k + 1) n) - (f_X8_xOf nw k n))).toInt64) * ((f_X8_follow nw k 1 n).1)) - (((((f_X8_yOf nw (k + 1) n) - (f_X8_yOf nw k n))).toInt64) * ((f_X8_follow nw k 0 n).1))), .long ((f_X8_follow nw k 1 n).2.1), .long ((f_X8_follow nw k 1 n).2.2), .int (nI ro), .ref m_rootWhich, .int db, .ref m_signs, .ref m_atNought, .int (nI mn), .ref m_change, .ref m_table, .ref m_carried])), (m_now, .inl (cy 0, 29, .inl nw))] := hD9
  replace hS := hS9
  clear hP9 hD9 hS9
  refine lv_aload_n hx hb dX8_cross_75 rfl (lv_at hl 5 rfl) ?_
  refine lv_iload_n hx hb dX8_cross_76 rfl (lv_at hl 4 rfl) ?_
  refine lv_i2l hx hb dX8_cross_77 rfl ?_
  refine lv_aload_n hx hb dX8_cross_78 rfl (lv_at hl 5 rfl) ?_
  refine va_get (D := D) (ci := 8) (v := .long ((f_X8_follow nw k 1 n).2.1)) (C := RX8) (T := TX8) (N := 23) hx hb hts uX8_cross_X8 hown hK hP 0 rfl rfl 12 (by decide) (hts _ kX8_cross_1) (fun _ h9 => h9) rfl dX8_cross_79 ?_
  refine lv_lmul hx hb dX8_cross_82 ?_
  refine lv_iload_n hx hb dX8_cross_83 rfl (lv_at hl 3 rfl) ?_
  refine lv_i2l hx hb dX8_cross_84 rfl ?_
  refine lv_lload hx hb dX8_cross_85 (lv_at hl 1 rfl) ?_
  refine lv_lmul hx hb dX8_cross_87 ?_
  refine lv_lsub hx hb dX8_cross_88 ?_
  refine va_put (D := D) (ci := 8) (v := .long ((((((f_X8_xOf nw (k + 1) n) - (f_X8_xOf nw k n))).toInt64) * ((f_X8_follow nw k 1 n).2.1)) - (((((f_X8_yOf nw (k + 1) n) - (f_X8_yOf nw k n))).toInt64) * ((f_X8_follow nw k 0 n).2.1)))) (ty := .long) (C := RX8) (T := TX8) (N := 23) hx hb hts uX8_cross_X8 tyX8 tyX8_ok nmX8 hown hK hP hD hS 0 rfl rfl 12 (by decide) (hts _ kX8_cross_1) (fun _ h9 => h9) rfl (by decide +kernel) (yk_nl _) (yk_fl _) (Nat.le_of_ble_eq_true rfl) dX8_cross_89 (fun H locs hP9 hD9 hS9 => ?_)
  replace hP : va_P D vwCl [(ta, .inr (8, [.ref m_now, .ref m_undone, .ref m_slots, .ref m_slotKind, .ref m_hasSlot, .ref m_sheetBits, .ref m_sheetSize, .ref m_sheets, .int (nI u), .int fi, .ref m_fresh, .long ((((((f_X8_xOf nw (k + 1) n) - (f_X8_xOf nw k n))).toInt64) * ((f_X8_follow nw k 1 n).1)) - (((((f_X8_yOf nw (k + 1) n) - (f_X8_yOf nw k n))).toInt64) * ((f_X8_follow nw k 0 n).1))), .long ((((((f_X8_xOf nw (k + 1) n) - (f_X8_xOf nw k n))).toInt64) * ((f_X8_follow nw k 1 n).2.1)) - (((((f_X8_yOf nw (k + 1) n) - (f_X8_yOf nw k n))).toInt64) * ((f_X8_follow nw k 0 n).2.1))), .long ((f_X8_follow nw k 1 n).2.2), .int (nI ro), .ref m_rootWhich, .int db, .ref m_signs, .ref m_atNought, .int (nI mn), .ref m_change, .ref m_table, .ref m_carried])), (m_now, .inl (cy 0, 29, .inl nw))] H := hP9
  replace hD : va_D A [(ta, .inr (8, [.ref m_now, .ref m_undone, .ref m_slots, .ref m_slotKind, .ref m_hasSlot, .ref m_sheetBits, .ref m_sheetSize, .ref m_sheets, .int (nI u), .int fi, .ref m_fresh, .long ((((((f_X8_xOf nw (k + 1) n) - (f_X8_xOf nw k n))).toInt64) * ((f_X8_follow nw k 1 n).1)) - (((((f_X8_yOf nw (k + 1) n) - (f_X8_yOf nw k n))).toInt64) * ((f_X8_follow nw k 0 n).1))), .long ((((((f_X8_xOf nw (k + 1) n) - (f_X8_xOf nw k n))).toInt64) * ((f_X8_follow nw k 1 n).2.1)) - (((((f_X8_yOf nw (k + 1) n) - (f_X8_yOf nw k n))).toInt64) * ((f_X8_follow nw k 0 n).2.1))), .long ((f_X8_follow nw k 1 n).2.2), .int (nI ro), .ref m_rootWhich, .int db, .ref m_signs, .ref m_atNought, .int (nI mn), .ref m_change, .ref m_table, .ref m_carried])), (m_now, .inl (cy 0, 29, .inl nw))] := hD9
  replace hS := hS9
  clear hP9 hD9 hS9
  refine lv_aload_n hx hb dX8_cross_92 rfl (lv_at hl 5 rfl) ?_
  refine lv_iload_n hx hb dX8_cross_93 rfl (lv_at hl 4 rfl) ?_
  refine lv_i2l hx hb dX8_cross_94 rfl ?_
  refine lv_aload_n hx hb dX8_cross_95 rfl (lv_at hl 5 rfl) ?_
  refine va_get (D := D) (ci := 8) (v := .long ((f_X8_follow nw k 1 n).2.2)) (C := RX8) (T := TX8) (N := 23) hx hb hts uX8_cross_X8 hown hK hP 0 rfl rfl 13 (by decide) (hts _ kX8_cross_2) (fun _ h9 => h9) rfl dX8_cross_96 ?_
  refine lv_lmul hx hb dX8_cross_99 ?_
  refine lv_iload_n hx hb dX8_cross_100 rfl (lv_at hl 3 rfl) ?_
  refine lv_i2l hx hb dX8_cross_101 rfl ?_
  refine lv_lload hx hb dX8_cross_102 (lv_at hl 0 rfl) ?_
  refine lv_lmul hx hb dX8_cross_104 ?_
  refine lv_lsub hx hb dX8_cross_105 ?_
  refine va_put (D := D) (ci := 8) (v := .long ((((((f_X8_xOf nw (k + 1) n) - (f_X8_xOf nw k n))).toInt64) * ((f_X8_follow nw k 1 n).2.2)) - (((((f_X8_yOf nw (k + 1) n) - (f_X8_yOf nw k n))).toInt64) * ((f_X8_follow nw k 0 n).2.2)))) (ty := .long) (C := RX8) (T := TX8) (N := 23) hx hb hts uX8_cross_X8 tyX8 tyX8_ok nmX8 hown hK hP hD hS 0 rfl rfl 13 (by decide) (hts _ kX8_cross_2) (fun _ h9 => h9) rfl (by decide +kernel) (yk_nl _) (yk_fl _) (Nat.le_of_ble_eq_true rfl) dX8_cross_106 (fun H locs hP9 hD9 hS9 => ?_)
  replace hP : va_P D vwCl [(ta, .inr (8, [.ref m_now, .ref m_undone, .ref m_slots, .ref m_slotKind, .ref m_hasSlot, .ref m_sheetBits, .ref m_sheetSize, .ref m_sheets, .int (nI u), .int fi, .ref m_fresh, .long ((((((f_X8_xOf nw (k + 1) n) - (f_X8_xOf nw k n))).toInt64) * ((f_X8_follow nw k 1 n).1)) - (((((f_X8_yOf nw (k + 1) n) - (f_X8_yOf nw k n))).toInt64) * ((f_X8_follow nw k 0 n).1))), .long ((((((f_X8_xOf nw (k + 1) n) - (f_X8_xOf nw k n))).toInt64) * ((f_X8_follow nw k 1 n).2.1)) - (((((f_X8_yOf nw (k + 1) n) - (f_X8_yOf nw k n))).toInt64) * ((f_X8_follow nw k 0 n).2.1))), .long ((((((f_X8_xOf nw (k + 1) n) - (f_X8_xOf nw k n))).toInt64) * ((f_X8_follow nw k 1 n).2.2)) - (((((f_X8_yOf nw (k + 1) n) - (f_X8_yOf nw k n))).toInt64) * ((f_X8_follow nw k 0 n).2.2))), .int (nI ro), .ref m_rootWhich, .int db, .ref m_signs, .ref m_atNought, .int (nI mn), .ref m_change, .ref m_table, .ref m_carried])), (m_now, .inl (cy 0, 29, .inl nw))] H := hP9
  replace hD : va_D A [(ta, .inr (8, [.ref m_now, .ref m_undone, .ref m_slots, .ref m_slotKind, .ref m_hasSlot, .ref m_sheetBits, .ref m_sheetSize, .ref m_sheets, .int (nI u), .int fi, .ref m_fresh, .long ((((((f_X8_xOf nw (k + 1) n) - (f_X8_xOf nw k n))).toInt64) * ((f_X8_follow nw k 1 n).1)) - (((((f_X8_yOf nw (k + 1) n) - (f_X8_yOf nw k n))).toInt64) * ((f_X8_follow nw k 0 n).1))), .long ((((((f_X8_xOf nw (k + 1) n) - (f_X8_xOf nw k n))).toInt64) * ((f_X8_follow nw k 1 n).2.1)) - (((((f_X8_yOf nw (k + 1) n) - (f_X8_yOf nw k n))).toInt64) * ((f_X8_follow nw k 0 n).2.1))), .long ((((((f_X8_xOf nw (k + 1) n) - (f_X8_xOf nw k n))).toInt64) * ((f_X8_follow nw k 1 n).2.2)) - (((((f_X8_yOf nw (k + 1) n) - (f_X8_yOf nw k n))).toInt64) * ((f_X8_follow nw k 0 n).2.2))), .int (nI ro), .ref m_rootWhich, .int db, .ref m_signs, .ref m_atNought, .int (nI mn), .ref m_change, .ref m_table, .ref m_carried])), (m_now, .inl (cy 0, 29, .inl nw))] := hD9
  replace hS := hS9
  clear hP9 hD9 hS9
  have hF : f_X8_cross nw k n = (((((((f_X8_xOf nw (k + 1) n) - (f_X8_xOf nw k n))).toInt64) * ((f_X8_follow nw k 1 n).1)) - (((((f_X8_yOf nw (k + 1) n) - (f_X8_yOf nw k n))).toInt64) * ((f_X8_follow nw k 0 n).1))), ((((((f_X8_xOf nw (k + 1) n) - (f_X8_xOf nw k n))).toInt64) * ((f_X8_follow nw k 1 n).2.1)) - (((((f_X8_yOf nw (k + 1) n) - (f_X8_yOf nw k n))).toInt64) * ((f_X8_follow nw k 0 n).2.1))), ((((((f_X8_xOf nw (k + 1) n) - (f_X8_xOf nw k n))).toInt64) * ((f_X8_follow nw k 1 n).2.2)) - (((((f_X8_yOf nw (k + 1) n) - (f_X8_yOf nw k n))).toInt64) * ((f_X8_follow nw k 0 n).2.2)))) := hF
  have hf0 := yk_fst hF
  have hg0 := yk_snd hF
  have hf1 := yk_fst hg0
  have hg1 := yk_snd hg0
  rw [hf0, hf1, hg1] at hQ
  exact hQ _ _ _ _ dX8_cross_109 hP hS
