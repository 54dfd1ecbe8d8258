theorem hv_X8_turn : yX8_turn.cls = RX8 ∧ yX8_turn.cls ≠ "java/lang/invoke/MethodHandle" ∧ yX8_turn.cls ≠ "java/lang/invoke/VarHandle" ∧ (parseMethodDescriptor yX8_turn.desc).map (fun d => d.parameters.length) = some 6 := by decide +kernel
theorem hs_X8_turn : yX8_turn.cls ≠ "java/lang/invoke/MethodHandle" ∧ yX8_turn.cls ≠ "java/lang/invoke/VarHandle" ∧ (parseMethodDescriptor yX8_turn.desc).map (fun d => d.parameters.length) = some 6 := by decide +kernel
theorem hv_X8_isOn : yX8_isOn.cls = RX8 ∧ yX8_isOn.cls ≠ "java/lang/invoke/MethodHandle" ∧ yX8_isOn.cls ≠ "java/lang/invoke/VarHandle" ∧ (parseMethodDescriptor yX8_isOn.desc).map (fun d => d.parameters.length) = some 3 := by decide +kernel
theorem hs_X8_isOn : yX8_isOn.cls ≠ "java/lang/invoke/MethodHandle" ∧ yX8_isOn.cls ≠ "java/lang/invoke/VarHandle" ∧ (parseMethodDescriptor yX8_isOn.desc).map (fun d => d.parameters.length) = some 3 := by decide +kernel
def f_X8_isOn (nw : Nat → Int32) (k : Nat) (px : Int32) (py : Int32) (n : Nat) : Int32 := (if (f_X8_turn (f_X8_xOf nw k n) (f_X8_yOf nw k n) (f_X8_xOf nw (k + 1) n) (f_X8_yOf nw (k + 1) n) px py) = 0 then (if px < (if (f_X8_xOf nw (k + 1) n) ≤ (f_X8_xOf nw k n) then (f_X8_xOf nw (k + 1) n) else (f_X8_xOf nw k n)) then 0 else (if (if (f_X8_xOf nw k n) ≤ (f_X8_xOf nw (k + 1) n) then (f_X8_xOf nw (k + 1) n) else (f_X8_xOf nw k n)) < px then 0 else (if py < (if (f_X8_yOf nw (k + 1) n) ≤ (f_X8_yOf nw k n) then (f_X8_yOf nw (k + 1) n) else (f_X8_yOf nw k n)) then 0 else (if (if (f_X8_yOf nw k n) ≤ (f_X8_yOf nw (k + 1) n) then (f_X8_yOf nw (k + 1) n) else (f_X8_yOf nw k n)) < py then 0 else 1)))) else 0)
theorem b_X8_isOn (nw : Nat → Int32) (k : Nat) (px : Int32) (py : Int32) (n : Nat) : (f_X8_isOn nw k px py n) = 0 ∨ (f_X8_isOn nw k px py n) = 1 := by
  unfold f_X8_isOn; (repeat' split) <;> first | exact Or.inl (by with_reducible rfl) | exact Or.inr (by with_reducible rfl)
set_option maxHeartbeats 400000000 in
set_option maxRecDepth 100000 in
theorem c_X8_isOn (l : Launch) (D : va_G) (cy : Nat → ClassId) (ta : Nat) (m_now : Nat) (m_undone : Nat) (m_slots : Nat) (m_slotKind : Nat) (m_hasSlot : Nat) (m_sheetBits : Nat) (m_sheetSize : Nat) (m_sheets : Nat) (m_fresh : Nat) (m_rootWhich : Nat) (m_signs : Nat) (m_atNought : Nat) (m_change : Nat) (m_table : Nat) (m_carried : Nat) (nw : Nat → Int32) (u : Nat) (fi : Int32) (aa : Int64) (bb : Int64) (dd : Int64) (ro : Nat) (db : Int32) (mn : Nat) (k : Nat) (px : Int32) (py : Int32) (n : Nat) (hn12 : nw 12 = nI n) (hn : n ≤ 8) (hn0 : 0 < n) (hk : k < 63) : yk_Ci l D vwCl (yk_ty cy) yX8_isOn wsX8_isOn 2 41 [.ref ta, .int (nI k), .int px, .int py] [(ta, .inr (8, [.ref m_now, .ref m_undone, .ref m_slots, .ref m_slotKind, .ref m_hasSlot, .ref m_sheetBits, .ref m_sheetSize, .ref m_sheets, .int (nI u), .int fi, .ref m_fresh, .long aa, .long bb, .long dd, .int (nI ro), .ref m_rootWhich, .int db, .ref m_signs, .ref m_atNought, .int (nI mn), .ref m_change, .ref m_table, .ref m_carried])), (m_now, .inl (cy 0, 29, .inl nw))] (f_X8_isOn nw k px py n) [(ta, .inr (8, [.ref m_now, .ref m_undone, .ref m_slots, .ref m_slotKind, .ref m_hasSlot, .ref m_sheetBits, .ref m_sheetSize, .ref m_sheets, .int (nI u), .int fi, .ref m_fresh, .long aa, .long bb, .long dd, .int (nI ro), .ref m_rootWhich, .int db, .ref m_signs, .ref m_atNought, .int (nI mn), .ref m_change, .ref m_table, .ref m_carried])), (m_now, .inl (cy 0, 29, .inl nw))] := by
  refine yk_eI (cc := cX8_isOn) (maxL := 8) (by decide) rfl (Nat.le_of_ble_eq_true rfl) (yk_nb (b_X8_isOn nw k px py n)) ?_
  intro p e R s m args below meth c A Q ls H locs hx hb hml hown hts hRf hRl hA hK hG hP hD hS hl hQ
  have hP : va_P D vwCl [(ta, .inr (8, [.ref m_now, .ref m_undone, .ref m_slots, .ref m_slotKind, .ref m_hasSlot, .ref m_sheetBits, .ref m_sheetSize, .ref m_sheets, .int (nI u), .int fi, .ref m_fresh, .long aa, .long bb, .long dd, .int (nI ro), .ref m_rootWhich, .int db, .ref m_signs, .ref m_atNought, .int (nI mn), .ref m_change, .ref m_table, .ref m_carried])), (m_now, .inl (cy 0, 29, .inl nw))] H := hP
  have hl : lv_has ls 8 [(0, .ref ta), (1, .int (nI k)), (2, .int px), (3, .int py)] := hl
  have hown : s.vm.findClass RX8 = some m.cls := hown
  have hF : (f_X8_isOn nw k px py n) = (f_X8_isOn nw k px py n) := rfl
  refine lv_aload_n hx hb dX8_isOn_0 rfl (lv_at hl 0 rfl) ?_
  refine lv_iload_n hx hb dX8_isOn_1 rfl (lv_at hl 1 rfl) ?_
  refine yk_i [0, 1] (va_runV (As := [.int (nI k)]) (rest := []) ⟨hx, hb, hml, hown, hts⟩ (c_X8_xOf l D cy ta m_now m_undone m_slots m_slotKind m_hasSlot m_sheetBits m_sheetSize m_sheets m_fresh m_rootWhich m_signs m_atNought m_change m_table m_carried nw u fi aa bb dd ro db mn k n hn12 hn hn0 (by omega) H.size) (cwV 1 hts gX8_isOn_X8_xOf rfl rfl rfl hv_X8_xOf (yk_room hRf hRl rfl rfl)) (yk_pv (q := (RX8, TX8, 23)) hG hA hS hK hP hD [0, 1] (by decide +kernel) rfl rfl rfl) rfl rfl hl.1 rfl (lv_room (Nat.le_of_ble_eq_true rfl)) dX8_isOn_2 ⟨Nat.zero_le _, Nat.zero_le _⟩) hP hD hS hA rfl (Eq.trans (b := [ta, m_now]) rfl rfl) (fun H locs hP9 hD9 hS9 => ?_)
  replace hP : va_P D vwCl [(ta, .inr (8, [.ref m_now, .ref m_undone, .ref m_slots, .ref m_slotKind, .ref m_hasSlot, .ref m_sheetBits, .ref m_sheetSize, .ref m_sheets, .int (nI u), .int fi, .ref m_fresh, .long aa, .long bb, .long dd, .int (nI ro), .ref m_rootWhich, .int db, .ref m_signs, .ref m_atNought, .int (nI mn), .ref m_change, .ref m_table, .ref m_carried])), (m_now, .inl (cy 0, 29, .inl nw))] H := hP9
  replace hD : va_D A [(ta, .inr (8, [.ref m_now, .ref m_undone, .ref m_slots, .ref m_slotKind, .ref m_hasSlot, .ref m_sheetBits, .ref m_sheetSize, .ref m_sheets, .int (nI u), .int fi, .ref m_fresh, .long aa, .long bb, .long dd, .int (nI ro), .ref m_rootWhich, .int db, .ref m_signs, .ref m_atNought, .int (nI mn), .ref m_change, .ref m_table, .ref m_carried])), (m_now, .inl (cy 0, 29, .inl nw))] := hD9
  replace hS := hS9
  clear hP9 hD9 hS9
  refine lv_istore (lv' := [(4, .int (f_X8_xOf nw k n)), (0, .ref ta), (1, .int (nI k)), (2, .int px), (3, .int py)]) hx hb dX8_isOn_5 hl (by decide) rfl (fun ls hl9 => ?_)
  replace hl := hl9
  clear hl9
  refine lv_aload_n hx hb dX8_isOn_7 rfl (lv_at hl 1 rfl) ?_
  refine lv_iload_n hx hb dX8_isOn_8 rfl (lv_at hl 2 rfl) ?_
  refine yk_i [0, 1] (va_runV (As := [.int (nI k)]) (rest := []) ⟨hx, hb, hml, hown, hts⟩ (c_X8_yOf l D cy ta m_now m_undone m_slots m_slotKind m_hasSlot m_sheetBits m_sheetSize m_sheets m_fresh m_rootWhich m_signs m_atNought m_change m_table m_carried nw u fi aa bb dd ro db mn k n hn12 hn hn0 (by omega) H.size) (cwV 1 hts gX8_isOn_X8_yOf rfl rfl rfl hv_X8_yOf (yk_room hRf hRl rfl rfl)) (yk_pv (q := (RX8, TX8, 23)) hG hA hS hK hP hD [0, 1] (by decide +kernel) rfl rfl rfl) rfl rfl hl.1 rfl (lv_room (Nat.le_of_ble_eq_true rfl)) dX8_isOn_9 ⟨Nat.zero_le _, Nat.zero_le _⟩) hP hD hS hA rfl (Eq.trans (b := [ta, m_now]) rfl rfl) (fun H locs hP9 hD9 hS9 => ?_)
  replace hP : va_P D vwCl [(ta, .inr (8, [.ref m_now, .ref m_undone, .ref m_slots, .ref m_slotKind, .ref m_hasSlot, .ref m_sheetBits, .ref m_sheetSize, .ref m_sheets, .int (nI u), .int fi, .ref m_fresh, .long aa, .long bb, .long dd, .int (nI ro), .ref m_rootWhich, .int db, .ref m_signs, .ref m_atNought, .int (nI mn), .ref m_change, .ref m_table, .ref m_carried])), (m_now, .inl (cy 0, 29, .inl nw))] H := hP9
  replace hD : va_D A [(ta, .inr (8, [.ref m_now, .ref m_undone, .ref m_slots, .ref m_slotKind, .ref m_hasSlot, .ref m_sheetBits, .ref m_sheetSize, .ref m_sheets, .int (nI u), .int fi, .ref m_fresh, .long aa, .long bb, .long dd, .int (nI ro), .ref m_rootWhich, .int db, .ref m_signs, .ref m_atNought, .int (nI mn), .ref m_change, .ref m_table, .ref m_carried])), (m_now, .inl (cy 0, 29, .inl nw))] := hD9
  replace hS := hS9
  clear hP9 hD9 hS9
  refine lv_istore (lv' := [(5, .int (f_X8_yOf nw k n)), (4, .int (f_X8_xOf nw k n)), (0, .ref ta), (1, .int (nI k)), (2, .int px), (3, .int py)]) hx hb dX8_isOn_12 hl (by decide) rfl (fun ls hl9 => ?_)
  replace hl := hl9
  clear hl9
  refine lv_aload_n hx hb dX8_isOn_14 rfl (lv_at hl 2 rfl) ?_
  refine lv_iload_n hx hb dX8_isOn_15 rfl (lv_at hl 3 rfl) ?_
  refine lv_iconst (v := 1) hx hb dX8_isOn_16 (by decide) ?_
  refine lv_iadd hx hb dX8_isOn_17 ?_
  refine yk_ti (y := nI (k + 1)) (nI_add k 1) ?_
  refine yk_i [0, 1] (va_runV (As := [.int (nI (k + 1))]) (rest := []) ⟨hx, hb, hml, hown, hts⟩ (c_X8_xOf l D cy ta m_now m_undone m_slots m_slotKind m_hasSlot m_sheetBits m_sheetSize m_sheets m_fresh m_rootWhich m_signs m_atNought m_change m_table m_carried nw u fi aa bb dd ro db mn (k + 1) n hn12 hn hn0 (by omega) H.size) (cwV 1 hts gX8_isOn_X8_xOf rfl rfl rfl hv_X8_xOf (yk_room hRf hRl rfl rfl)) (yk_pv (q := (RX8, TX8, 23)) hG hA hS hK hP hD [0, 1] (by decide +kernel) rfl rfl rfl) rfl rfl hl.1 rfl (lv_room (Nat.le_of_ble_eq_true rfl)) dX8_isOn_18 ⟨Nat.zero_le _, Nat.zero_le _⟩) hP hD hS hA rfl (Eq.trans (b := [ta, m_now]) rfl rfl) (fun H locs hP9 hD9 hS9 => ?_)
  replace hP : va_P D vwCl [(ta, .inr (8, [.ref m_now, .ref m_undone, .ref m_slots, .ref m_slotKind, .ref m_hasSlot, .ref m_sheetBits, .ref m_sheetSize, .ref m_sheets, .int (nI u), .int fi, .ref m_fresh, .long aa, .long bb, .long dd, .int (nI ro), .ref m_rootWhich, .int db, .ref m_signs, .ref m_atNought, .int (nI mn), .ref m_change, .ref m_table, .ref m_carried])), (m_now, .inl (cy 0, 29, .inl nw))] H := hP9
  replace hD : va_D A [(ta, .inr (8, [.ref m_now, .ref m_undone, .ref m_slots, .ref m_slotKind, .ref m_hasSlot, .ref m_sheetBits, .ref m_sheetSize, .ref m_sheets, .int (nI u), .int fi, .ref m_fresh, .long aa, .long bb, .long dd, .int (nI ro), .ref m_rootWhich, .int db, .ref m_signs, .ref m_atNought, .int (nI mn), .ref m_change, .ref m_table, .ref m_carried])), (m_now, .inl (cy 0, 29, .inl nw))] := hD9
  replace hS := hS9
  clear hP9 hD9 hS9
  refine lv_istore (lv' := [(6, .int (f_X8_xOf nw (k + 1) n)), (5, .int (f_X8_yOf nw k n)), (4, .int (f_X8_xOf nw k n)), (0, .ref ta), (1, .int (nI k)), (2, .int px), (3, .int py)]) hx hb dX8_isOn_21 hl (by decide) rfl (fun ls hl9 => ?_)
  replace hl := hl9
  clear hl9
  refine lv_aload_n hx hb dX8_isOn_23 rfl (lv_at hl 3 rfl) ?_
  refine lv_iload_n hx hb dX8_isOn_24 rfl (lv_at hl 4 rfl) ?_
  refine lv_iconst (v := 1) hx hb dX8_isOn_25 (by decide) ?_
  refine lv_iadd hx hb dX8_isOn_26 ?_
  refine yk_ti (y := nI (k + 1)) (nI_add k 1) ?_
  refine yk_i [0, 1] (va_runV (As := [.int (nI (k + 1))]) (rest := []) ⟨hx, hb, hml, hown, hts⟩ (c_X8_yOf l D cy ta m_now m_undone m_slots m_slotKind m_hasSlot m_sheetBits m_sheetSize m_sheets m_fresh m_rootWhich m_signs m_atNought m_change m_table m_carried nw u fi aa bb dd ro db mn (k + 1) n hn12 hn hn0 (by omega) H.size) (cwV 1 hts gX8_isOn_X8_yOf rfl rfl rfl hv_X8_yOf (yk_room hRf hRl rfl rfl)) (yk_pv (q := (RX8, TX8, 23)) hG hA hS hK hP hD [0, 1] (by decide +kernel) rfl rfl rfl) rfl rfl hl.1 rfl (lv_room (Nat.le_of_ble_eq_true rfl)) dX8_isOn_27 ⟨Nat.zero_le _, Nat.zero_le _⟩) hP hD hS hA rfl (Eq.trans (b := [ta, m_now]) rfl rfl) (fun H locs hP9 hD9 hS9 => ?_)
  replace hP : va_P D vwCl [(ta, .inr (8, [.ref m_now, .ref m_undone, .ref m_slots, .ref m_slotKind, .ref m_hasSlot, .ref m_sheetBits, .ref m_sheetSize, .ref m_sheets, .int (nI u), .int fi, .ref m_fresh, .long aa, .long bb, .long dd, .int (nI ro), .ref m_rootWhich, .int db, .ref m_signs, .ref m_atNought, .int (nI mn), .ref m_change, .ref m_table, .ref m_carried])), (m_now, .inl (cy 0, 29, .inl nw))] H := hP9
  replace hD : va_D A [(ta, .inr (8, [.ref m_now, .ref m_undone, .ref m_slots, .ref m_slotKind, .ref m_hasSlot, .ref m_sheetBits, .ref m_sheetSize, .ref m_sheets, .int (nI u), .int fi, .ref m_fresh, .long aa, .long bb, .long dd, .int (nI ro), .ref m_rootWhich, .int db, .ref m_signs, .ref m_atNought, .int (nI mn), .ref m_change, .ref m_table, .ref m_carried])), (m_now, .inl (cy 0, 29, .inl nw))] := hD9
  replace hS := hS9
  clear hP9 hD9 hS9
  refine lv_istore (lv' := [(7, .int (f_X8_yOf nw (k + 1) n)), (6, .int (f_X8_xOf nw (k + 1) n)), (5, .int (f_X8_yOf nw k n)), (4, .int (f_X8_xOf nw k n)), (0, .ref ta), (1, .int (nI k)), (2, .int px), (3, .int py)]) hx hb dX8_isOn_30 hl (by decide) rfl (fun ls hl9 => ?_)
  replace hl := hl9
  clear hl9
  refine lv_iload hx hb dX8_isOn_32 (lv_at hl 3 rfl) ?_
  refine lv_iload hx hb dX8_isOn_34 (lv_at hl 2 rfl) ?_
  refine lv_iload hx hb dX8_isOn_36 (lv_at hl 1 rfl) ?_
  refine lv_iload hx hb dX8_isOn_38 (lv_at hl 0 rfl) ?_
  refine lv_iload_n hx hb dX8_isOn_40 rfl (lv_at hl 6 rfl) ?_
  refine lv_iload_n hx hb dX8_isOn_41 rfl (lv_at hl 7 rfl) ?_
  refine yk_i [] (va_runS (As := [.int (f_X8_xOf nw k n), .int (f_X8_yOf nw k n), .int (f_X8_xOf nw (k + 1) n), .int (f_X8_yOf nw (k + 1) n), .int px, .int py]) (rest := []) ⟨hx, hb, hml, hown, hts⟩ (c_X8_turn l D cy (f_X8_xOf nw k n) (f_X8_yOf nw k n) (f_X8_xOf nw (k + 1) n) (f_X8_yOf nw (k + 1) n) px py H.size) (va_cwS 6 hts gX8_isOn_X8_turn rfl rfl rfl hs_X8_turn (yk_room hRf hRl rfl rfl)) (yk_ps hG hA hS hK hP hD [] (by decide +kernel) rfl) rfl rfl hl.1 rfl (lv_room (Nat.le_of_ble_eq_true rfl)) dX8_isOn_42 ⟨Nat.zero_le _, Nat.zero_le _⟩) hP hD hS hA rfl rfl (fun H locs hP9 hD9 hS9 => ?_)
  replace hP : va_P D vwCl [(ta, .inr (8, [.ref m_now, .ref m_undone, .ref m_slots, .ref m_slotKind, .ref m_hasSlot, .ref m_sheetBits, .ref m_sheetSize, .ref m_sheets, .int (nI u), .int fi, .ref m_fresh, .long aa, .long bb, .long dd, .int (nI ro), .ref m_rootWhich, .int db, .ref m_signs, .ref m_atNought, .int (nI mn), .ref m_change, .ref m_table, .ref m_carried])), (m_now, .inl (cy 0, 29, .inl nw))] H := hP9
  replace hD : va_D A [(ta, .inr (8, [.ref m_now, .ref m_undone, .ref m_slots, .ref m_slotKind, .ref m_hasSlot, .ref m_sheetBits, .ref m_sheetSize, .ref m_sheets, .int (nI u), .int fi, .ref m_fresh, .long aa, .long bb, .long dd, .int (nI ro), .ref m_rootWhich, .int db, .ref m_signs, .ref m_atNought, .int (nI mn), .ref m_change, .ref m_table, .ref m_carried])), (m_now, .inl (cy 0, 29, .inl nw))] := hD9
  replace hS := hS9
  clear hP9 hD9 hS9
  refine lv_if_eq (tgt := 50) hx hb dX8_isOn_45 (by decide) (fun hc1 => ?_) (fun hc1 => ?_)
  · replace hF := hF.trans (if_pos hc1)
    refine lv_iload_n hx hb dX8_isOn_50 rfl (lv_at hl 6 rfl) ?_
    refine lv_iload hx hb dX8_isOn_51 (lv_at hl 3 rfl) ?_
    refine lv_iload hx hb dX8_isOn_53 (lv_at hl 1 rfl) ?_
    have J4 : ∀ (v3 : Int32) (H : Heap) (locs : List Loc) (ls : Array Slot), v3 = (if (f_X8_xOf nw (k + 1) n) ≤ (f_X8_xOf nw k n) then (f_X8_xOf nw (k + 1) n) else (f_X8_xOf nw k n)) → va_P D vwCl [(ta, .inr (8, [.ref m_now, .ref m_undone, .ref m_slots, .ref m_slotKind, .ref m_hasSlot, .ref m_sheetBits, .ref m_sheetSize, .ref m_sheets, .int (nI u), .int fi, .ref m_fresh, .long aa, .long bb, .long dd, .int (nI ro), .ref m_rootWhich, .int db, .ref m_signs, .ref m_atNought, .int (nI mn), .ref m_change, .ref m_table, .ref m_carried])), (m_now, .inl (cy 0, 29, .inl nw))] H → va_D A [(ta, .inr (8, [.ref m_now, .ref m_undone, .ref m_slots, .ref m_slotKind, .ref m_hasSlot, .ref m_sheetBits, .ref m_sheetSize, .ref m_sheets, .int (nI u), .int fi, .ref m_fresh, .long aa, .long bb, .long dd, .int (nI ro), .ref m_rootWhich, .int db, .ref m_signs, .ref m_atNought, .int (nI mn), .ref m_change, .ref m_table, .ref m_carried])), (m_now, .inl (cy 0, 29, .inl nw))] → va_S A s.heap H locs → lv_has ls 8 [(0, .ref ta), (1, .int (nI k)), (2, .int px), (3, .int py), (4, .int (f_X8_xOf nw k n)), (5, .int (f_X8_yOf nw k n)), (6, .int (f_X8_xOf nw (k + 1) n)), (7, .int (f_X8_yOf nw (k + 1) n))] → W p l e R s m args below meth c H locs 0 0 Q (F0 m 65 ls [.int v3, .int px]) := by
      clear hP hD hS hl
      intro v3 H locs ls ev3
      rw [ev3]
      clear ev3
      intro hP hD hS hl
      have J19 : ∀ (v18 : Int32) (H : Heap) (locs : List Loc) (ls : Array Slot), v18 = (if px < (if (f_X8_xOf nw (k + 1) n) ≤ (f_X8_xOf nw k n) then (f_X8_xOf nw (k + 1) n) else (f_X8_xOf nw k n)) then 0 else (if (if (f_X8_xOf nw k n) ≤ (f_X8_xOf nw (k + 1) n) then (f_X8_xOf nw (k + 1) n) else (f_X8_xOf nw k n)) < px then 0 else (if py < (if (f_X8_yOf nw (k + 1) n) ≤ (f_X8_yOf nw k n) then (f_X8_yOf nw (k + 1) n) else (f_X8_yOf nw k n)) then 0 else (if (if (f_X8_yOf nw k n) ≤ (f_X8_yOf nw (k + 1) n) then (f_X8_yOf nw (k + 1) n) else (f_X8_yOf nw k n)) < py then 0 else 1)))) → va_P D vwCl [(ta, .inr (8, [.ref m_now, .ref m_undone, .ref m_slots, .ref m_slotKind, .ref m_hasSlot, .ref m_sheetBits, .ref m_sheetSize, .ref m_sheets, .int (nI u), .int fi, .ref m_fresh, .long aa, .long bb, .long dd, .int (nI ro), .ref m_rootWhich, .int db, .ref m_signs, .ref m_atNought, .int (nI mn), .ref m_change, .ref m_table, .ref m_carried])), (m_now, .inl (cy 0, 29, .inl nw))] H → va_D A [(ta, .inr (8, [.ref m_now, .ref m_undone, .ref m_slots, .ref m_slotKind, .ref m_hasSlot, .ref m_sheetBits, .ref m_sheetSize, .ref m_sheets, .int (nI u), .int fi, .ref m_fresh, .long aa, .long bb, .long dd, .int (nI ro), .ref m_rootWhich, .int db, .ref m_signs, .ref m_atNought, .int (nI mn), .ref m_change, .ref m_table, .ref m_carried])), (m_now, .inl (cy 0, 29, .inl nw))] → va_S A s.heap H locs → lv_has ls 8 [(0, .ref ta), (1, .int (nI k)), (2, .int px), (3, .int py), (4, .int (f_X8_xOf nw k n)), (5, .int (f_X8_yOf nw k n)), (6, .int (f_X8_xOf nw (k + 1) n)), (7, .int (f_X8_yOf nw (k + 1) n))] → W p l e R s m args below meth c H locs 0 0 Q (F0 m 127 ls [.int v18]) := by
        clear hP hD hS hl
        intro v18 H locs ls ev18
        rw [ev18]
        clear ev18
        intro hP hD hS hl
        have hF : f_X8_isOn nw k px py n = (if px < (if (f_X8_xOf nw (k + 1) n) ≤ (f_X8_xOf nw k n) then (f_X8_xOf nw (k + 1) n) else (f_X8_xOf nw k n)) then 0 else (if (if (f_X8_xOf nw k n) ≤ (f_X8_xOf nw (k + 1) n) then (f_X8_xOf nw (k + 1) n) else (f_X8_xOf nw k n)) < px then 0 else (if py < (if (f_X8_yOf nw (k + 1) n) ≤ (f_X8_yOf nw k n) then (f_X8_yOf nw (k + 1) n) else (f_X8_yOf nw k n)) then 0 else (if (if (f_X8_yOf nw k n) ≤ (f_X8_yOf nw (k + 1) n) then (f_X8_yOf nw (k + 1) n) else (f_X8_yOf nw k n)) < py then 0 else 1)))) := hF
        rw [hF] at hQ
        exact hQ _ _ _ _ dX8_isOn_127 hP hS
      refine lv_icmp_lt (tgt := 126) hx hb dX8_isOn_65 (by decide) (fun hc5 => ?_) (fun hc5 => ?_)
      · refine lv_iconst (v := 0) hx hb dX8_isOn_126 (by decide) ?_
        exact J19 _ _ _ _ ((if_pos hc5).symm) hP hD hS (lv_sub hl [0, 1, 2, 3, 4, 5, 6, 7] rfl)
      · refine lv_iload_n hx hb dX8_isOn_68 rfl (lv_at hl 2 rfl) ?_
        refine lv_iload hx hb dX8_isOn_69 (lv_at hl 4 rfl) ?_
        refine lv_iload hx hb dX8_isOn_71 (lv_at hl 6 rfl) ?_
        have J8 : ∀ (v7 : Int32) (H : Heap) (locs : List Loc) (ls : Array Slot), v7 = (if (f_X8_xOf nw k n) ≤ (f_X8_xOf nw (k + 1) n) then (f_X8_xOf nw (k + 1) n) else (f_X8_xOf nw k n)) → va_P D vwCl [(ta, .inr (8, [.ref m_now, .ref m_undone, .ref m_slots, .ref m_slotKind, .ref m_hasSlot, .ref m_sheetBits, .ref m_sheetSize, .ref m_sheets, .int (nI u), .int fi, .ref m_fresh, .long aa, .long bb, .long dd, .int (nI ro), .ref m_rootWhich, .int db, .ref m_signs, .ref m_atNought, .int (nI mn), .ref m_change, .ref m_table, .ref m_carried])), (m_now, .inl (cy 0, 29, .inl nw))] H → va_D A [(ta, .inr (8, [.ref m_now, .ref m_undone, .ref m_slots, .ref m_slotKind, .ref m_hasSlot, .ref m_sheetBits, .ref m_sheetSize, .ref m_sheets, .int (nI u), .int fi, .ref m_fresh, .long aa, .long bb, .long dd, .int (nI ro), .ref m_rootWhich, .int db, .ref m_signs, .ref m_atNought, .int (nI mn), .ref m_change, .ref m_table, .ref m_carried])), (m_now, .inl (cy 0, 29, .inl nw))] → va_S A s.heap H locs → lv_has ls 8 [(0, .ref ta), (1, .int (nI k)), (2, .int px), (3, .int py), (4, .int (f_X8_xOf nw k n)), (5, .int (f_X8_yOf nw k n)), (6, .int (f_X8_xOf nw (k + 1) n)), (7, .int (f_X8_yOf nw (k + 1) n))] → W p l e R s m args below meth c H locs 0 0 Q (F0 m 83 ls [.int v7, .int px]) := by
          clear hP hD hS hl
          intro v7 H locs ls ev7
          rw [ev7]
          clear ev7
          intro hP hD hS hl
          refine lv_icmp_gt (tgt := 126) hx hb dX8_isOn_83 (by decide) (fun hc9 => ?_) (fun hc9 => ?_)
          · refine lv_iconst (v := 0) hx hb dX8_isOn_126 (by decide) ?_
            exact J19 _ _ _ _ (((if_neg hc5).trans (if_pos hc9)).symm) hP hD hS (lv_sub hl [0, 1, 2, 3, 4, 5, 6, 7] rfl)
          · refine lv_iload_n hx hb dX8_isOn_86 rfl (lv_at hl 3 rfl) ?_
            refine lv_iload hx hb dX8_isOn_87 (lv_at hl 5 rfl) ?_
            refine lv_iload hx hb dX8_isOn_89 (lv_at hl 7 rfl) ?_
            have J12 : ∀ (v11 : Int32) (H : Heap) (locs : List Loc) (ls : Array Slot), v11 = (if (f_X8_yOf nw (k + 1) n) ≤ (f_X8_yOf nw k n) then (f_X8_yOf nw (k + 1) n) else (f_X8_yOf nw k n)) → va_P D vwCl [(ta, .inr (8, [.ref m_now, .ref m_undone, .ref m_slots, .ref m_slotKind, .ref m_hasSlot, .ref m_sheetBits, .ref m_sheetSize, .ref m_sheets, .int (nI u), .int fi, .ref m_fresh, .long aa, .long bb, .long dd, .int (nI ro), .ref m_rootWhich, .int db, .ref m_signs, .ref m_atNought, .int (nI mn), .ref m_change, .ref m_table, .ref m_carried])), (m_now, .inl (cy 0, 29, .inl nw))] H → va_D A [(ta, .inr (8, [.ref m_now, .ref m_undone, .ref m_slots, .ref m_slotKind, .ref m_hasSlot, .ref m_sheetBits, .ref m_sheetSize, .ref m_sheets, .int (nI u), .int fi, .ref m_fresh, .long aa, .long bb, .long dd, .int (nI ro), .ref m_rootWhich, .int db, .ref m_signs, .ref m_atNought, .int (nI mn), .ref m_change, .ref m_table, .ref m_carried])), (m_now, .inl (cy 0, 29, .inl nw))] → va_S A s.heap H locs → lv_has ls 8 [(0, .ref ta), (1, .int (nI k)), (2, .int px), (3, .int py), (4, .int (f_X8_xOf nw k n)), (5, .int (f_X8_yOf nw k n)), (6, .int (f_X8_xOf nw (k + 1) n)), (7, .int (f_X8_yOf nw (k + 1) n))] → W p l e R s m args below meth c H locs 0 0 Q (F0 m 101 ls [.int v11, .int py]) := by
              clear hP hD hS hl
              intro v11 H locs ls ev11
              rw [ev11]
              clear ev11
              intro hP hD hS hl
              refine lv_icmp_lt (tgt := 126) hx hb dX8_isOn_101 (by decide) (fun hc13 => ?_) (fun hc13 => ?_)
              · refine lv_iconst (v := 0) hx hb dX8_isOn_126 (by decide) ?_
                exact J19 _ _ _ _ (((if_neg hc5).trans ((if_neg hc9).trans (if_pos hc13))).symm) hP hD hS (lv_sub hl [0, 1, 2, 3, 4, 5, 6, 7] rfl)
              · refine lv_iload_n hx hb dX8_isOn_104 rfl (lv_at hl 3 rfl) ?_
                refine lv_iload hx hb dX8_isOn_105 (lv_at hl 5 rfl) ?_
                refine lv_iload hx hb dX8_isOn_107 (lv_at hl 7 rfl) ?_
                have J16 : ∀ (v15 : Int32) (H : Heap) (locs : List Loc) (ls : Array Slot), v15 = (if (f_X8_yOf nw k n) ≤ (f_X8_yOf nw (k + 1) n) then (f_X8_yOf nw (k + 1) n) else (f_X8_yOf nw k n)) → va_P D vwCl [(ta, .inr (8, [.ref m_now, .ref m_undone, .ref m_slots, .ref m_slotKind, .ref m_hasSlot, .ref m_sheetBits, .ref m_sheetSize, .ref m_sheets, .int (nI u), .int fi, .ref m_fresh, .long aa, .long bb, .long dd, .int (nI ro), .ref m_rootWhich, .int db, .ref m_signs, .ref m_atNought, .int (nI mn), .ref m_change, .ref m_table, .ref m_carried])), (m_now, .inl (cy 0, 29, .inl nw))] H → va_D A [(ta, .inr (8, [.ref m_now, .ref m_undone, .ref m_slots, .ref m_slotKind, .ref m_hasSlot, .ref m_sheetBits, .ref m_sheetSize, .ref m_sheets, .int (nI u), .int fi, .ref m_fresh, .long aa, .long bb, .long dd, .int (nI ro), .ref m_rootWhich, .int db, .ref m_signs, .ref m_atNought, .int (nI mn), .ref m_change, .ref m_table, .ref m_carried])), (m_now, .inl (cy 0, 29, .inl nw))] → va_S A s.heap H locs → lv_has ls 8 [(0, .ref ta), (1, .int (nI k)), (2, .int px), (3, .int py), (4, .int (f_X8_xOf nw k n)), (5, .int (f_X8_yOf nw k n)), (6, .int (f_X8_xOf nw (k + 1) n)), (7, .int (f_X8_yOf nw (k + 1) n))] → W p l e R s m args below meth c H locs 0 0 Q (F0 m 119 ls [.int v15, .int py]) := by
                  clear hP hD hS hl
                  intro v15 H locs ls ev15
                  rw [ev15]
                  clear ev15
                  intro hP hD hS hl
                  refine lv_icmp_gt (tgt := 126) hx hb dX8_isOn_119 (by decide) (fun hc17 => ?_) (fun hc17 => ?_)
                  · refine lv_iconst (v := 0) hx hb dX8_isOn_126 (by decide) ?_
                    exact J19 _ _ _ _ (((if_neg hc5).trans ((if_neg hc9).trans ((if_neg hc13).trans (if_pos hc17)))).symm) hP hD hS (lv_sub hl [0, 1, 2, 3, 4, 5, 6, 7] rfl)
                  · refine lv_iconst (v := 1) hx hb dX8_isOn_122 (by decide) ?_
                    refine lv_goto (tgt := 127) hx hb dX8_isOn_123 (by decide) ?_
                    exact J19 _ _ _ _ (((if_neg hc5).trans ((if_neg hc9).trans ((if_neg hc13).trans (if_neg hc17)))).symm) hP hD hS (lv_sub hl [0, 1, 2, 3, 4, 5, 6, 7] rfl)
                refine lv_icmp_le (tgt := 117) hx hb dX8_isOn_109 (by decide) (fun hc14 => ?_) (fun hc14 => ?_)
                · refine lv_iload hx hb dX8_isOn_117 (lv_at hl 7 rfl) ?_
                  exact J16 _ _ _ _ ((if_pos hc14).symm) hP hD hS (lv_sub hl [0, 1, 2, 3, 4, 5, 6, 7] rfl)
                · refine lv_iload hx hb dX8_isOn_112 (lv_at hl 5 rfl) ?_
                  refine lv_goto (tgt := 119) hx hb dX8_isOn_114 (by decide) ?_
                  exact J16 _ _ _ _ ((if_neg hc14).symm) hP hD hS (lv_sub hl [0, 1, 2, 3, 4, 5, 6, 7] rfl)
            refine lv_icmp_ge (tgt := 99) hx hb dX8_isOn_91 (by decide) (fun hc10 => ?_) (fun hc10 => ?_)
            · refine lv_iload hx hb dX8_isOn_99 (lv_at hl 7 rfl) ?_
              exact J12 _ _ _ _ ((if_pos hc10).symm) hP hD hS (lv_sub hl [0, 1, 2, 3, 4, 5, 6, 7] rfl)
            · refine lv_iload hx hb dX8_isOn_94 (lv_at hl 5 rfl) ?_
              refine lv_goto (tgt := 101) hx hb dX8_isOn_96 (by decide) ?_
              exact J12 _ _ _ _ ((if_neg hc10).symm) hP hD hS (lv_sub hl [0, 1, 2, 3, 4, 5, 6, 7] rfl)
        refine lv_icmp_le (tgt := 81) hx hb dX8_isOn_73 (by decide) (fun hc6 => ?_) (fun hc6 => ?_)
        · refine lv_iload hx hb dX8_isOn_81 (lv_at hl 6 rfl) ?_
          exact J8 _ _ _ _ ((if_pos hc6).symm) hP hD hS (lv_sub hl [0, 1, 2, 3, 4, 5, 6, 7] rfl)
        · refine lv_iload hx hb dX8_isOn_76 (lv_at hl 4 rfl) ?_
          refine lv_goto (tgt := 83) hx hb dX8_isOn_78 (by decide) ?_
          exact J8 _ _ _ _ ((if_neg hc6).symm) hP hD hS (lv_sub hl [0, 1, 2, 3, 4, 5, 6, 7] rfl)
    refine lv_icmp_ge (tgt := 63) hx hb dX8_isOn_55 (by decide) (fun hc2 => ?_) (fun hc2 => ?_)
    · refine lv_iload hx hb dX8_isOn_63 (lv_at hl 1 rfl) ?_
      exact J4 _ _ _ _ ((if_pos hc2).symm) hP hD hS (lv_sub hl [4, 5, 6, 7, 3, 2, 1, 0] rfl)
    · refine lv_iload hx hb dX8_isOn_58 (lv_at hl 3 rfl) ?_
      refine lv_goto (tgt := 65) hx hb dX8_isOn_60 (by decide) ?_
      exact J4 _ _ _ _ ((if_neg hc2).symm) hP hD hS (lv_sub hl [4, 5, 6, 7, 3, 2, 1, 0] rfl)
  · replace hF := hF.trans (if_neg hc1)
    refine lv_iconst (v := 0) hx hb dX8_isOn_48 (by decide) ?_
    have hF : f_X8_isOn nw k px py n = 0 := hF
    rw [hF] at hQ
    exact hQ _ _ _ _ dX8_isOn_49 hP hS

def f_X8_doMeet (nw : Nat → Int32) (j : Nat) (k : Nat) (n : Nat) : Int32 := (if (f_X8_isOn nw j (f_X8_xOf nw k n) (f_X8_yOf nw k n) n) = 0 then (if (f_X8_isOn nw j (f_X8_xOf nw (k + 1) n) (f_X8_yOf nw (k + 1) n) n) = 0 then (if (f_X8_isOn nw k (f_X8_xOf nw j n) (f_X8_yOf nw j n) n) = 0 then (if (f_X8_isOn nw k (f_X8_xOf nw (j + 1) n) (f_X8_yOf nw (j + 1) n) n) = 0 then (if 0 ≤ ((f_X8_turn (f_X8_xOf nw j n) (f_X8_yOf nw j n) (f_X8_xOf nw (j + 1) n) (f_X8_yOf nw (j + 1) n) (f_X8_xOf nw k n) (f_X8_yOf nw k n)) * (f_X8_turn (f_X8_xOf nw j n) (f_X8_yOf nw j n) (f_X8_xOf nw (j + 1) n) (f_X8_yOf nw (j + 1) n) (f_X8_xOf nw (k + 1) n) (f_X8_yOf nw (k + 1) n))) then 0 else (if 0 ≤ ((f_X8_turn (f_X8_xOf nw k n) (f_X8_yOf nw k n) (f_X8_xOf nw (k + 1) n) (f_X8_yOf nw (k + 1) n) (f_X8_xOf nw j n) (f_X8_yOf nw j n)) * (f_X8_turn (f_X8_xOf nw k n) (f_X8_yOf nw k n) (f_X8_xOf nw (k + 1) n) (f_X8_yOf nw (k + 1) n) (f_X8_xOf nw (j + 1) n) (f_X8_yOf nw (j + 1) n))) then 0 else 1)) else 1) else 1) else 1) else 1)
theorem b_X8_doMeet (nw : Nat → Int32) (j : Nat) (k : Nat) (n : Nat) : (f_X8_doMeet nw j k n) = 0 ∨ (f_X8_doMeet nw j k n) = 1 := by
  unfold f_X8_doMeet; (repeat' split) <;> first | exact Or.inl (by with_reducible rfl) | exact Or.inr (by with_reducible rfl) | with_reducible exact b_X8_isOn _ _ _ _ _
set_option maxHeartbeats 400000000 in
set_option maxRecDepth 100000 in
theorem c_X8_doMeet (l : Launch) (D : va_G) (cy : Nat → ClassId) (ta : Nat) (m_now : Nat) (m_undone : Nat) (m_slots : Nat) (m_slotKind : Nat) (m_hasSlot : Nat) (m_sheetBits : Nat) (m_sheetSize : Nat) (m_sheets : Nat) (m_fresh : Nat) (m_rootWhich : Nat) (m_signs : Nat) (m_atNought : Nat) (m_change : Nat) (m_table : Nat) (m_carried : Nat) (nw : Nat → Int32) (u : Nat) (fi : Int32) (aa : Int64) (bb : Int64) (dd : Int64) (ro : Nat) (db : Int32) (mn : Nat) (j : Nat) (k : Nat) (n : Nat) (hn12 : nw 12 = nI n) (hn : n ≤ 8) (hn0 : 0 < n) (hj : j < 62) (hk : k < 62) : yk_Ci l D vwCl (yk_ty cy) yX8_doMeet wsX8_doMeet 3 68 [.ref ta, .int (nI j), .int (nI k)] [(ta, .inr (8, [.ref m_now, .ref m_undone, .ref m_slots, .ref m_slotKind, .ref m_hasSlot, .ref m_sheetBits, .ref m_sheetSize, .ref m_sheets, .int (nI u), .int fi, .ref m_fresh, .long aa, .long bb, .long dd, .int (nI ro), .ref m_rootWhich, .int db, .ref m_signs, .ref m_atNought, .int (nI mn), .ref m_change, .ref m_table, .ref m_carried])), (m_now, .inl (cy 0, 29, .inl nw))] (f_X8_doMeet nw j k n) [(ta, .inr (8, [.ref m_now, .ref m_undone, .ref m_slots, .ref m_slotKind, .ref m_hasSlot, .ref m_sheetBits, .ref m_sheetSize, .ref m_sheets, .int (nI u), .int fi, .ref m_fresh, .long aa, .long bb, .long dd, .int (nI ro), .ref m_rootWhich, .int db, .ref m_signs, .ref m_atNought, .int (nI mn), .ref m_change, .ref m_table, .ref m_carried])), (m_now, .inl (cy 0, 29, .inl nw))] := by
  refine yk_eI (cc := cX8_doMeet) (maxL := 7) (by decide) rfl (Nat.le_of_ble_eq_true rfl) (yk_nb (b_X8_doMeet nw j k n)) ?_
  intro p e R s m args below meth c A Q ls H locs hx hb hml hown hts hRf hRl hA hK hG hP hD hS hl hQ
  have hP : va_P D vwCl [(ta, .inr (8, [.ref m_now, .ref m_undone, .ref m_slots, .ref m_slotKind, .ref m_hasSlot, .ref m_sheetBits, .ref m_sheetSize, .ref m_sheets, .int (nI u), .int fi, .ref m_fresh, .long aa, .long bb, .long dd, .int (nI ro), .ref m_rootWhich, .int db, .ref m_signs, .ref m_atNought, .int (nI mn), .ref m_change, .ref m_table, .ref m_carried])), (m_now, .inl (cy 0, 29, .inl nw))] H := hP
  have hl : lv_has ls 7 [(0, .ref ta), (1, .int (nI j)), (2, .int (nI k))] := hl
  have hown : s.vm.findClass RX8 = some m.cls := hown
  have hF : (f_X8_doMeet nw j k n) = (f_X8_doMeet nw j k n) := rfl
  refine lv_aload_n hx hb dX8_doMeet_0 rfl (lv_at hl 0 rfl) ?_
  refine lv_iload_n hx hb dX8_doMeet_1 rfl (lv_at hl 1 rfl) ?_
  refine lv_aload_n hx hb dX8_doMeet_2 rfl (lv_at hl 0 rfl) ?_
  refine lv_iload_n hx hb dX8_doMeet_3 rfl (lv_at hl 2 rfl) ?_
  refine yk_i [0, 1] (va_runV (As := [.int (nI k)]) (rest := [.int (nI j), .ref ta]) ⟨hx, hb, hml, hown, hts⟩ (c_X8_xOf l D cy ta m_now m_undone m_slots m_slotKind m_hasSlot m_sheetBits m_sheetSize m_sheets m_fresh m_rootWhich m_signs m_atNought m_change m_table m_carried nw u fi aa bb dd ro db mn k n hn12 hn hn0 (by omega) H.size) (cwV 1 hts gX8_doMeet_X8_xOf rfl rfl rfl hv_X8_xOf (yk_room hRf hRl rfl rfl)) (yk_pv (q := (RX8, TX8, 23)) hG hA hS hK hP hD [0, 1] (by decide +kernel) rfl rfl rfl) rfl rfl hl.1 rfl (lv_room (Nat.le_of_ble_eq_true rfl)) dX8_doMeet_4 ⟨Nat.zero_le _, Nat.zero_le _⟩) hP hD hS hA rfl (Eq.trans (b := [ta, m_now]) rfl rfl) (fun H locs hP9 hD9 hS9 => ?_)
  replace hP : va_P D vwCl [(ta, .inr (8, [.ref m_now, .ref m_undone, .ref m_slots, .ref m_slotKind, .ref m_hasSlot, .ref m_sheetBits, .ref m_sheetSize, .ref m_sheets, .int (nI u), .int fi, .ref m_fresh, .long aa, .long bb, .long dd, .int (nI ro), .ref m_rootWhich, .int db, .ref m_signs, .ref m_atNought, .int (nI mn), .ref m_change, .ref m_table, .ref m_carried])), (m_now, .inl (cy 0, 29, .inl nw))] H := hP9
  replace hD : va_D A [(ta, .inr (8, [.ref m_now, .ref m_undone, .ref m_slots, .ref m_slotKind, .ref m_hasSlot, .ref m_sheetBits, .ref m_sheetSize, .ref m_sheets, .int (nI u), .int fi, .ref m_fresh, .long aa, .long bb, .long dd, .int (nI ro), .ref m_rootWhich, .int db, .ref m_signs, .ref m_atNought, .int (nI mn), .ref m_change, .ref m_table, .ref m_carried])), (m_now, .inl (cy 0, 29, .inl nw))] := hD9
  replace hS := hS9
  clear hP9 hD9 hS9
  refine lv_aload_n hx hb dX8_doMeet_7 rfl (lv_at hl 0 rfl) ?_
  refine lv_iload_n hx hb dX8_doMeet_8 rfl (lv_at hl 2 rfl) ?_
  refine yk_i [0, 1] (va_runV (As := [.int (nI k)]) (rest := [.int (f_X8_xOf nw k n), .int (nI j), .ref ta]) ⟨hx, hb, hml, hown, hts⟩ (c_X8_yOf l D cy ta m_now m_undone m_slots m_slotKind m_hasSlot m_sheetBits m_sheetSize m_sheets m_fresh m_rootWhich m_signs m_atNought m_change m_table m_carried nw u fi aa bb dd ro db mn k n hn12 hn hn0 (by omega) H.size) (cwV 1 hts gX8_doMeet_X8_yOf rfl rfl rfl hv_X8_yOf (yk_room hRf hRl rfl rfl)) (yk_pv (q := (RX8, TX8, 23)) hG hA hS hK hP hD [0, 1] (by decide +kernel) rfl rfl rfl) rfl rfl hl.1 rfl (lv_room (Nat.le_of_ble_eq_true rfl)) dX8_doMeet_9 ⟨Nat.zero_le _, Nat.zero_le _⟩) hP hD hS hA rfl (Eq.trans (b := [ta, m_now]) rfl rfl) (fun H locs hP9 hD9 hS9 => ?_)
  replace hP : va_P D vwCl [(ta, .inr (8, [.ref m_now, .ref m_undone, .ref m_slots, .ref m_slotKind, .ref m_hasSlot, .ref m_sheetBits, .ref m_sheetSize, .ref m_sheets, .int (nI u), .int fi, .ref m_fresh, .long aa, .long bb, .long dd, .int (nI ro), .ref m_rootWhich, .int db, .ref m_signs, .ref m_atNought, .int (nI mn), .ref m_change, .ref m_table, .ref m_carried])), (m_now, .inl (cy 0, 29, .inl nw))] H := hP9
  replace hD : va_D A [(ta, .inr (8, [.ref m_now, .ref m_undone, .ref m_slots, .ref m_slotKind, .ref m_hasSlot, .ref m_sheetBits, .ref m_sheetSize, .ref m_sheets, .int (nI u), .int fi, .ref m_fresh, .long aa, .long bb, .long dd, .int (nI ro), .ref m_rootWhich, .int db, .ref m_signs, .ref m_atNought, .int (nI mn), .ref m_change, .ref m_table, .ref m_carried])), (m_now, .inl (cy 0, 29, .inl nw))] := hD9
  replace hS := hS9
  clear hP9 hD9 hS9
  refine yk_i [0, 1] (va_runV (As := [.int (nI j), .int (f_X8_xOf nw k n), .int (f_X8_yOf nw k n)]) (rest := []) ⟨hx, hb, hml, hown, hts⟩ (c_X8_isOn l D cy ta m_now m_undone m_slots m_slotKind m_hasSlot m_sheetBits m_sheetSize m_sheets m_fresh m_rootWhich m_signs m_atNought m_change m_table m_carried nw u fi aa bb dd ro db mn j (f_X8_xOf nw k n) (f_X8_yOf nw k n) n hn12 hn hn0 (by omega) H.size) (cwV 3 hts gX8_doMeet_X8_isOn rfl rfl rfl hv_X8_isOn (yk_room hRf hRl rfl rfl)) (yk_pv (q := (RX8, TX8, 23)) hG hA hS hK hP hD [0, 1] (by decide +kernel) rfl rfl rfl) rfl rfl hl.1 rfl (lv_room (Nat.le_of_ble_eq_true rfl)) dX8_doMeet_12 ⟨Nat.zero_le _, Nat.zero_le _⟩) hP hD hS hA rfl (Eq.trans (b := [ta, m_now]) rfl rfl) (fun H locs hP9 hD9 hS9 => ?_)
  replace hP : va_P D vwCl [(ta, .inr (8, [.ref m_now, .ref m_undone, .ref m_slots, .ref m_slotKind, .ref m_hasSlot, .ref m_sheetBits, .ref m_sheetSize, .ref m_sheets, .int (nI u), .int fi, .ref m_fresh, .long aa, .long bb, .long dd, .int (nI ro), .ref m_rootWhich, .int db, .ref m_signs, .ref m_atNought, .int (nI mn), .ref m_change, .ref m_table, .ref m_carried])), (m_now, .inl (cy 0, 29, .inl nw))] H := hP9
  replace hD : va_D A [(ta, .inr (8, [.ref m_now, .ref m_undone, .ref m_slots, .ref m_slotKind, .ref m_hasSlot, .ref m_sheetBits, .ref m_sheetSize, .ref m_sheets, .int (nI u), .int fi, .ref m_fresh, .long aa, .long bb, .long dd, .int (nI ro), .ref m_rootWhich, .int db, .ref m_signs, .ref m_atNought, .int (nI mn), .ref m_change, .ref m_table, .ref m_carried])), (m_now, .inl (cy 0, 29, .inl nw))] := hD9
  replace hS := hS9
  clear hP9 hD9 hS9
  refine lv_if_ne (tgt := 80) hx hb dX8_doMeet_15 (by decide) (fun hc1 => ?_) (fun hc1 => ?_)
  · replace hF := hF.trans (if_neg hc1)
    refine lv_iconst (v := 1) hx hb dX8_doMeet_80 (by decide) ?_
    have hF : f_X8_doMeet nw j k n = 1 := hF
    rw [hF] at hQ
    exact hQ _ _ _ _ dX8_doMeet_81 hP hS
  · replace hF := hF.trans (if_pos hc1)
    refine lv_aload_n hx hb dX8_doMeet_18 rfl (lv_at hl 0 rfl) ?_
    refine lv_iload_n hx hb dX8_doMeet_19 rfl (lv_at hl 1 rfl) ?_
    refine lv_aload_n hx hb dX8_doMeet_20 rfl (lv_at hl 0 rfl) ?_
    refine lv_iload_n hx hb dX8_doMeet_21 rfl (lv_at hl 2 rfl) ?_
    refine lv_iconst (v := 1) hx hb dX8_doMeet_22 (by decide) ?_
    refine lv_iadd hx hb dX8_doMeet_23 ?_
    refine yk_ti (y := nI (k + 1)) (nI_add k 1) ?_
    refine yk_i [0, 1] (va_runV (As := [.int (nI (k + 1))]) (rest := [.int (nI j), .ref ta]) ⟨hx, hb, hml, hown, hts⟩ (c_X8_xOf l D cy ta m_now m_undone m_slots m_slotKind m_hasSlot m_sheetBits m_sheetSize m_sheets m_fresh m_rootWhich m_signs m_atNought m_change m_table m_carried nw u fi aa bb dd ro db mn (k + 1) n hn12 hn hn0 (by omega) H.size) (cwV 1 hts gX8_doMeet_X8_xOf rfl rfl rfl hv_X8_xOf (yk_room hRf hRl rfl rfl)) (yk_pv (q := (RX8, TX8, 23)) hG hA hS hK hP hD [0, 1] (by decide +kernel) rfl rfl rfl) rfl rfl hl.1 rfl (lv_room (Nat.le_of_ble_eq_true rfl)) dX8_doMeet_24 ⟨Nat.zero_le _, Nat.zero_le _⟩) hP hD hS hA rfl (Eq.trans (b := [ta, m_now]) rfl rfl) (fun H locs hP9 hD9 hS9 => ?_)
    replace hP : va_P D vwCl [(ta, .inr (8, [.ref m_now, .ref m_undone, .ref m_slots, .ref m_slotKind, .ref m_hasSlot, .ref m_sheetBits, .ref m_sheetSize, .ref m_sheets, .int (nI u), .int fi, .ref m_fresh, .long aa, .long bb, .long dd, .int (nI ro), .ref m_rootWhich, .int db, .ref m_signs, .ref m_atNought, .int (nI mn), .ref m_change, .ref m_table, .ref m_carried])), (m_now, .inl (cy 0, 29, .inl nw))] H := hP9
    replace hD : va_D A [(ta, .inr (8, [.ref m_now, .ref m_undone, .ref m_slots, .ref m_slotKind, .ref m_hasSlot, .ref m_sheetBits, .ref m_sheetSize, .ref m_sheets, .int (nI u), .int fi, .ref m_fresh, .long aa, .long bb, .long dd, .int (nI ro), .ref m_rootWhich, .int db, .ref m_signs, .ref m_atNought, .int (nI mn), .ref m_change, .ref m_table, .ref m_carried])), (m_now, .inl (cy 0, 29, .inl nw))] := hD9
    replace hS := hS9
    clear hP9 hD9 hS9
    refine lv_aload_n hx hb dX8_doMeet_27 rfl (lv_at hl 0 rfl) ?_
    refine lv_iload_n hx hb dX8_doMeet_28 rfl (lv_at hl 2 rfl) ?_
    refine lv_iconst (v := 1) hx hb dX8_doMeet_29 (by decide) ?_
    refine lv_iadd hx hb dX8_doMeet_30 ?_
    refine yk_ti (y := nI (k + 1)) (nI_add k 1) ?_
    refine yk_i [0, 1] (va_runV (As := [.int (nI (k + 1))]) (rest := [.int (f_X8_xOf nw (k + 1) n), .int (nI j), .ref ta]) ⟨hx, hb, hml, hown, hts⟩ (c_X8_yOf l D cy ta m_now m_undone m_slots m_slotKind m_hasSlot m_sheetBits m_sheetSize m_sheets m_fresh m_rootWhich m_signs m_atNought m_change m_table m_carried nw u fi aa bb dd ro db mn (k + 1) n hn12 hn hn0 (by omega) H.size) (cwV 1 hts gX8_doMeet_X8_yOf rfl rfl rfl hv_X8_yOf (yk_room hRf hRl rfl rfl)) (yk_pv (q := (RX8, TX8, 23)) hG hA hS hK hP hD [0, 1] (by decide +kernel) rfl rfl rfl) rfl rfl hl.1 rfl (lv_room (Nat.le_of_ble_eq_true rfl)) dX8_doMeet_31 ⟨Nat.zero_le _, Nat.zero_le _⟩) hP hD hS hA rfl (Eq.trans (b := [ta, m_now]) rfl rfl) (fun H locs hP9 hD9 hS9 => ?_)
    replace hP : va_P D vwCl [(ta, .inr (8, [.ref m_now, .ref m_undone, .ref m_slots, .ref m_slotKind, .ref m_hasSlot, .ref m_sheetBits, .ref m_sheetSize, .ref m_sheets, .int (nI u), .int fi, .ref m_fresh, .long aa, .long bb, .long dd, .int (nI ro), .ref m_rootWhich, .int db, .ref m_signs, .ref m_atNought, .int (nI mn), .ref m_change, .ref m_table, .ref m_carried])), (m_now, .inl (cy 0, 29, .inl nw))] H := hP9
    replace hD : va_D A [(ta, .inr (8, [.ref m_now, .ref m_undone, .ref m_slots, .ref m_slotKind, .ref m_hasSlot, .ref m_sheetBits, .ref m_sheetSize, .ref m_sheets, .int (nI u), .int fi, .ref m_fresh, .long aa, .long bb, .long dd, .int (nI ro), .ref m_rootWhich, .int db, .ref m_signs, .ref m_atNought, .int (nI mn), .ref m_change, .ref m_table, .ref m_carried])), (m_now, .inl (cy 0, 29, .inl nw))] := hD9
    replace hS := hS9
    clear hP9 hD9 hS9
    refine yk_i [0, 1] (va_runV (As := [.int (nI j), .int (f_X8_xOf nw (k + 1) n), .int (f_X8_yOf nw (k + 1) n)]) (rest := []) ⟨hx, hb, hml, hown, hts⟩ (c_X8_isOn l D cy ta m_now m_undone m_slots m_slotKind m_hasSlot m_sheetBits m_sheetSize m_sheets m_fresh m_rootWhich m_signs m_atNought m_change m_table m_carried nw u fi aa bb dd ro db mn j (f_X8_xOf nw (k + 1) n) (f_X8_yOf nw (k + 1) n) n hn12 hn hn0 (by omega) H.size) (cwV 3 hts gX8_doMeet_X8_isOn rfl rfl rfl hv_X8_isOn (yk_room hRf hRl rfl rfl)) (yk_pv (q := (RX8, TX8, 23)) hG hA hS hK hP hD [0, 1] (by decide +kernel) rfl rfl rfl) rfl rfl hl.1 rfl (lv_room (Nat.le_of_ble_eq_true rfl)) dX8_doMeet_34 ⟨Nat.zero_le _, Nat.zero_le _⟩) hP hD hS hA rfl (Eq.trans (b := [ta, m_now]) rfl rfl) (fun H locs hP9 hD9 hS9 => ?_)
    replace hP : va_P D vwCl [(ta, .inr (8, [.ref m_now, .ref m_undone, .ref m_slots, .ref m_slotKind, .ref m_hasSlot, .ref m_sheetBits, .ref m_sheetSize, .ref m_sheets, .int (nI u), .int fi, .ref m_fresh, .long aa, .long bb, .long dd, .int (nI ro), .ref m_rootWhich, .int db, .ref m_signs, .ref m_atNought, .int (nI mn), .ref m_change, .ref m_table, .ref m_carried])), (m_now, .inl (cy 0, 29, .inl nw))] H := hP9
    replace hD : va_D A [(ta, .inr (8, [.ref m_now, .ref m_undone, .ref m_slots, .ref m_slotKind, .ref m_hasSlot, .ref m_sheetBits, .ref m_sheetSize, .ref m_sheets, .int (nI u), .int fi, .ref m_fresh, .long aa, .long bb, .long dd, .int (nI ro), .ref m_rootWhich, .int db, .ref m_signs, .ref m_atNought, .int (nI mn), .ref m_change, .ref m_table, .ref m_carried])), (m_now, .inl (cy 0, 29, .inl nw))] := hD9
    replace hS := hS9
    clear hP9 hD9 hS9
    refine lv_if_ne (tgt := 80) hx hb dX8_doMeet_37 (by decide) (fun hc2 => ?_) (fun hc2 => ?_)
    · replace hF := hF.trans (if_neg hc2)
      refine lv_iconst (v := 1) hx hb dX8_doMeet_80 (by decide) ?_
      have hF : f_X8_doMeet nw j k n = 1 := hF
      rw [hF] at hQ
      exact hQ _ _ _ _ dX8_doMeet_81 hP hS
    · replace hF := hF.trans (if_pos hc2)
      refine lv_aload_n hx hb dX8_doMeet_40 rfl (lv_at hl 0 rfl) ?_
      refine lv_iload_n hx hb dX8_doMeet_41 rfl (lv_at hl 2 rfl) ?_
      refine lv_aload_n hx hb dX8_doMeet_42 rfl (lv_at hl 0 rfl) ?_
      refine lv_iload_n hx hb dX8_doMeet_43 rfl (lv_at hl 1 rfl) ?_
      refine yk_i [0, 1] (va_runV (As := [.int (nI j)]) (rest := [.int (nI k), .ref ta]) ⟨hx, hb, hml, hown, hts⟩ (c_X8_xOf l D cy ta m_now m_undone m_slots m_slotKind m_hasSlot m_sheetBits m_sheetSize m_sheets m_fresh m_rootWhich m_signs m_atNought m_change m_table m_carried nw u fi aa bb dd ro db mn j n hn12 hn hn0 (by omega) H.size) (cwV 1 hts gX8_doMeet_X8_xOf rfl rfl rfl hv_X8_xOf (yk_room hRf hRl rfl rfl)) (yk_pv (q := (RX8, TX8, 23)) hG hA hS hK hP hD [0, 1] (by decide +kernel) rfl rfl rfl) rfl rfl hl.1 rfl (lv_room (Nat.le_of_ble_eq_true rfl)) dX8_doMeet_44 ⟨Nat.zero_le _, Nat.zero_le _⟩) hP hD hS hA rfl (Eq.trans (b := [ta, m_now]) rfl rfl) (fun H locs hP9 hD9 hS9 => ?_)
      replace hP : va_P D vwCl [(ta, .inr (8, [.ref m_now, .ref m_undone, .ref m_slots, .ref m_slotKind, .ref m_hasSlot, .ref m_sheetBits, .ref m_sheetSize, .ref m_sheets, .int (nI u), .int fi, .ref m_fresh, .long aa, .long bb, .long dd, .int (nI ro), .ref m_rootWhich, .int db, .ref m_signs, .ref m_atNought, .int (nI mn), .ref m_change, .ref m_table, .ref m_carried])), (m_now, .inl (cy 0, 29, .inl nw))] H := hP9
      replace hD : va_D A [(ta, .inr (8, [.ref m_now, .ref m_undone, .ref m_slots, .ref m_slotKind, .ref m_hasSlot, .ref m_sheetBits, .ref m_sheetSize, .ref m_sheets, .int (nI u), .int fi, .ref m_fresh, .long aa, .long bb, .long dd, .int (nI ro), .ref m_rootWhich, .int db, .ref m_signs, .ref m_atNought, .int (nI mn), .ref m_change, .ref m_table, .ref m_carried])), (m_now, .inl (cy 0, 29, .inl nw))] := hD9
      replace hS := hS9
      clear hP9 hD9 hS9
      refine lv_aload_n hx hb dX8_doMeet_47 rfl (lv_at hl 0 rfl) ?_
      refine lv_iload_n hx hb dX8_doMeet_48 rfl (lv_at hl 1 rfl) ?_
      refine yk_i [0, 1] (va_runV (As := [.int (nI j)]) (rest := [.int (f_X8_xOf nw j n), .int (nI k), .ref ta]) ⟨hx, hb, hml, hown, hts⟩ (c_X8_yOf l D cy ta m_now m_undone m_slots m_slotKind m_hasSlot m_sheetBits m_sheetSize m_sheets m_fresh m_rootWhich m_signs m_atNought m_change m_table m_carried nw u fi aa bb dd ro db mn j n hn12 hn hn0 (by omega) H.size) (cwV 1 hts gX8_doMeet_X8_yOf rfl rfl rfl hv_X8_yOf (yk_room hRf hRl rfl rfl)) (yk_pv (q := (RX8, TX8, 23)) hG hA hS hK hP hD [0, 1] (by decide +kernel) rfl rfl rfl) rfl rfl hl.1 rfl (lv_room (Nat.le_of_ble_eq_true rfl)) dX8_doMeet_49 ⟨Nat.zero_le _, Nat.zero_le _⟩) hP hD hS hA rfl (Eq.trans (b := [ta, m_now]) rfl rfl) (fun H locs hP9 hD9 hS9 => ?_)
      replace hP : va_P D vwCl [(ta, .inr (8, [.ref m_now, .ref m_undone, .ref m_slots, .ref m_slotKind, .ref m_hasSlot, .ref m_sheetBits, .ref m_sheetSize, .ref m_sheets, .int (nI u), .int fi, .ref m_fresh, .long aa, .long bb, .long dd, .int (nI ro), .ref m_rootWhich, .int db, .ref m_signs, .ref m_atNought, .int (nI mn), .ref m_change, .ref m_table, .ref m_carried])), (m_now, .inl (cy 0, 29, .inl nw))] H := hP9
      replace hD : va_D A [(ta, .inr (8, [.ref m_now, .ref m_undone, .ref m_slots, .ref m_slotKind, .ref m_hasSlot, .ref m_sheetBits, .ref m_sheetSize, .ref m_sheets, .int (nI u), .int fi, .ref m_fresh, .long aa, .long bb, .long dd, .int (nI ro), .ref m_rootWhich, .int db, .ref m_signs, .ref m_atNought, .int (nI mn), .ref m_change, .ref m_table, .ref m_carried])), (m_now, .inl (cy 0, 29, .inl nw))] := hD9
      replace hS := hS9
      clear hP9 hD9 hS9
      refine yk_i [0, 1] (va_runV (As := [.int (nI k), .int (f_X8_xOf nw j n), .int (f_X8_yOf nw j n)]) (rest := []) ⟨hx, hb, hml, hown, hts⟩ (c_X8_isOn l D cy ta m_now m_undone m_slots m_slotKind m_hasSlot m_sheetBits m_sheetSize m_sheets m_fresh m_rootWhich m_signs m_atNought m_change m_table m_carried nw u fi aa bb dd ro db mn k (f_X8_xOf nw j n) (f_X8_yOf nw j n) n hn12 hn hn0 (by omega) H.size) (cwV 3 hts gX8_doMeet_X8_isOn rfl rfl rfl hv_X8_isOn (yk_room hRf hRl rfl rfl)) (yk_pv (q := (RX8, TX8, 23)) hG hA hS hK hP hD [0, 1] (by decide +kernel) rfl rfl rfl) rfl rfl hl.1 rfl (lv_room (Nat.le_of_ble_eq_true rfl)) dX8_doMeet_52 ⟨Nat.zero_le _, Nat.zero_le _⟩) hP hD hS hA rfl (Eq.trans (b := [ta, m_now]) rfl rfl) (fun H locs hP9 hD9 hS9 => ?_)
      replace hP : va_P D vwCl [(ta, .inr (8, [.ref m_now, .ref m_undone, .ref m_slots, .ref m_slotKind, .ref m_hasSlot, .ref m_sheetBits, .ref m_sheetSize, .ref m_sheets, .int (nI u), .int fi, .ref m_fresh, .long aa, .long bb, .long dd, .int (nI ro), .ref m_rootWhich, .int db, .ref m_signs, .ref m_atNought, .int (nI mn), .ref m_change, .ref m_table, .ref m_carried])), (m_now, .inl (cy 0, 29, .inl nw))] H := hP9
      replace hD : va_D A [(ta, .inr (8, [.ref m_now, .ref m_undone, .ref m_slots, .ref m_slotKind, .ref m_hasSlot, .ref m_sheetBits, .ref m_sheetSize, .ref m_sheets, .int (nI u), .int fi, .ref m_fresh, .long aa, .long bb, .long dd, .int (nI ro), .ref m_rootWhich, .int db, .ref m_signs, .ref m_atNought, .int (nI mn), .ref m_change, .ref m_table, .ref m_carried])), (m_now, .inl (cy 0, 29, .inl nw))] := hD9
      replace hS := hS9
      clear hP9 hD9 hS9
      refine lv_if_ne (tgt := 80) hx hb dX8_doMeet_55 (by decide) (fun hc3 => ?_) (fun hc3 => ?_)
      · replace hF := hF.trans (if_neg hc3)
        refine lv_iconst (v := 1) hx hb dX8_doMeet_80 (by decide) ?_
        have hF : f_X8_doMeet nw j k n = 1 := hF
        rw [hF] at hQ
        exact hQ _ _ _ _ dX8_doMeet_81 hP hS
      · replace hF := hF.trans (if_pos hc3)
        refine lv_aload_n hx hb dX8_doMeet_58 rfl (lv_at hl 0 rfl) ?_
        refine lv_iload_n hx hb dX8_doMeet_59 rfl (lv_at hl 2 rfl) ?_
        refine lv_aload_n hx hb dX8_doMeet_60 rfl (lv_at hl 0 rfl) ?_
        refine lv_iload_n hx hb dX8_doMeet_61 rfl (lv_at hl 1 rfl) ?_
        refine lv_iconst (v := 1) hx hb dX8_doMeet_62 (by decide) ?_
        refine lv_iadd hx hb dX8_doMeet_63 ?_
        refine yk_ti (y := nI (j + 1)) (nI_add j 1) ?_
        refine yk_i [0, 1] (va_runV (As := [.int (nI (j + 1))]) (rest := [.int (nI k), .ref ta]) ⟨hx, hb, hml, hown, hts⟩ (c_X8_xOf l D cy ta m_now m_undone m_slots m_slotKind m_hasSlot m_sheetBits m_sheetSize m_sheets m_fresh m_rootWhich m_signs m_atNought m_change m_table m_carried nw u fi aa bb dd ro db mn (j + 1) n hn12 hn hn0 (by omega) H.size) (cwV 1 hts gX8_doMeet_X8_xOf rfl rfl rfl hv_X8_xOf (yk_room hRf hRl rfl rfl)) (yk_pv (q := (RX8, TX8, 23)) hG hA hS hK hP hD [0, 1] (by decide +kernel) rfl rfl rfl) rfl rfl hl.1 rfl (lv_room (Nat.le_of_ble_eq_true rfl)) dX8_doMeet_64 ⟨Nat.zero_le _, Nat.zero_le _⟩) hP hD hS hA rfl (Eq.trans (b := [ta, m_now]) rfl rfl) (fun H locs hP9 hD9 hS9 => ?_)
        replace hP : va_P D vwCl [(ta, .inr (8, [.ref m_now, .ref m_undone, .ref m_slots, .ref m_slotKind, .ref m_hasSlot, .ref m_sheetBits, .ref m_sheetSize, .ref m_sheets, .int (nI u), .int fi, .ref m_fresh, .long aa, .long bb, .long dd, .int (nI ro), .ref m_rootWhich, .int db, .ref m_signs, .ref m_atNought, .int (nI mn), .ref m_change, .ref m_table, .ref m_carried])), (m_now, .inl (cy 0, 29, .inl nw))] H := hP9
        replace hD : va_D A [(ta, .inr (8, [.ref m_now, .ref m_undone, .ref m_slots, .ref m_slotKind, .ref m_hasSlot, .ref m_sheetBits, .ref m_sheetSize, .ref m_sheets, .int (nI u), .int fi, .ref m_fresh, .long aa, .long bb, .long dd, .int (nI ro), .ref m_rootWhich, .int db, .ref m_signs, .ref m_atNought, .int (nI mn), .ref m_change, .ref m_table, .ref m_carried])), (m_now, .inl (cy 0, 29, .inl nw))] := hD9
        replace hS := hS9
        clear hP9 hD9 hS9
        refine lv_aload_n hx hb dX8_doMeet_67 rfl (lv_at hl 0 rfl) ?_
        refine lv_iload_n hx hb dX8_doMeet_68 rfl (lv_at hl 1 rfl) ?_
        refine lv_iconst (v := 1) hx hb dX8_doMeet_69 (by decide) ?_
        refine lv_iadd hx hb dX8_doMeet_70 ?_
        refine yk_ti (y := nI (j + 1)) (nI_add j 1) ?_
        refine yk_i [0, 1] (va_runV (As := [.int (nI (j + 1))]) (rest := [.int (f_X8_xOf nw (j + 1) n), .int (nI k), .ref ta]) ⟨hx, hb, hml, hown, hts⟩ (c_X8_yOf l D cy ta m_now m_undone m_slots m_slotKind m_hasSlot m_sheetBits m_sheetSize m_sheets m_fresh m_rootWhich m_signs m_atNought m_change m_table m_carried nw u fi aa bb dd ro db mn (j + 1) n hn12 hn hn0 (by omega) H.size) (cwV 1 hts gX8_doMeet_X8_yOf rfl rfl rfl hv_X8_yOf (yk_room hRf hRl rfl rfl)) (yk_pv (q := (RX8, TX8, 23)) hG hA hS hK hP hD [0, 1] (by decide +kernel) rfl rfl rfl) rfl rfl hl.1 rfl (lv_room (Nat.le_of_ble_eq_true rfl)) dX8_doMeet_71 ⟨Nat.zero_le _, Nat.zero_le _⟩) hP hD hS hA rfl (Eq.trans (b := [ta, m_now]) rfl rfl) (fun H locs hP9 hD9 hS9 => ?_)
        replace hP : va_P D vwCl [(ta, .inr (8, [.ref m_now, .ref m_undone, .ref m_slots, .ref m_slotKind, .ref m_hasSlot, .ref m_sheetBits, .ref m_sheetSize, .ref m_sheets, .int (nI u), .int fi, .ref m_fresh, .long aa, .long bb, .long dd, .int (nI ro), .ref m_rootWhich, .int db, .ref m_signs, .ref m_atNought, .int (nI mn), .ref m_change, .ref m_table, .ref m_carried])), (m_now, .inl (cy 0, 29, .inl nw))] H := hP9
        replace hD : va_D A [(ta, .inr (8, [.ref m_now, .ref m_undone, .ref m_slots, .ref m_slotKind, .ref m_hasSlot, .ref m_sheetBits, .ref m_sheetSize, .ref m_sheets, .int (nI u), .int fi, .ref m_fresh, .long aa, .long bb, .long dd, .int (nI ro), .ref m_rootWhich, .int db, .ref m_signs, .ref m_atNought, .int (nI mn), .ref m_change, .ref m_table, .ref m_carried])), (m_now, .inl (cy 0, 29, .inl nw))] := hD9
        replace hS := hS9
        clear hP9 hD9 hS9
        refine yk_i [0, 1] (va_runV (As := [.int (nI k), .int (f_X8_xOf nw (j + 1) n), .int (f_X8_yOf nw (j + 1) n)]) (rest := []) ⟨hx, hb, hml, hown, hts⟩ (c_X8_isOn l D cy ta m_now m_undone m_slots m_slotKind m_hasSlot m_sheetBits m_sheetSize m_sheets m_fresh m_rootWhich m_signs m_atNought m_change m_table m_carried nw u fi aa bb dd ro db mn k (f_X8_xOf nw (j + 1) n) (f_X8_yOf nw (j + 1) n) n hn12 hn hn0 (by omega) H.size) (cwV 3 hts gX8_doMeet_X8_isOn rfl rfl rfl hv_X8_isOn (yk_room hRf hRl rfl rfl)) (yk_pv (q := (RX8, TX8, 23)) hG hA hS hK hP hD [0, 1] (by decide +kernel) rfl rfl rfl) rfl rfl hl.1 rfl (lv_room (Nat.le_of_ble_eq_true rfl)) dX8_doMeet_74 ⟨Nat.zero_le _, Nat.zero_le _⟩) hP hD hS hA rfl (Eq.trans (b := [ta, m_now]) rfl rfl) (fun H locs hP9 hD9 hS9 => ?_)
        replace hP : va_P D vwCl [(ta, .inr (8, [.ref m_now, .ref m_undone, .ref m_slots, .ref m_slotKind, .ref m_hasSlot, .ref m_sheetBits, .ref m_sheetSize, .ref m_sheets, .int (nI u), .int fi, .ref m_fresh, .long aa, .long bb, .long dd, .int (nI ro), .ref m_rootWhich, .int db, .ref m_signs, .ref m_atNought, .int (nI mn), .ref m_change, .ref m_table, .ref m_carried])), (m_now, .inl (cy 0, 29, .inl nw))] H := hP9
        replace hD : va_D A [(ta, .inr (8, [.ref m_now, .ref m_undone, .ref m_slots, .ref m_slotKind, .ref m_hasSlot, .ref m_sheetBits, .ref m_sheetSize, .ref m_sheets, .int (nI u), .int fi, .ref m_fresh, .long aa, .long bb, .long dd, .int (nI ro), .ref m_rootWhich, .int db, .ref m_signs, .ref m_atNought, .int (nI mn), .ref m_change, .ref m_table, .ref m_carried])), (m_now, .inl (cy 0, 29, .inl nw))] := hD9
        replace hS := hS9
        clear hP9 hD9 hS9
        refine lv_if_eq (tgt := 82) hx hb dX8_doMeet_77 (by decide) (fun hc4 => ?_) (fun hc4 => ?_)
        · replace hF := hF.trans (if_pos hc4)
          refine lv_aload_n hx hb dX8_doMeet_82 rfl (lv_at hl 0 rfl) ?_
          refine lv_iload_n hx hb dX8_doMeet_83 rfl (lv_at hl 1 rfl) ?_
          refine yk_i [0, 1] (va_runV (As := [.int (nI j)]) (rest := []) ⟨hx, hb, hml, hown, hts⟩ (c_X8_xOf l D cy ta m_now m_undone m_slots m_slotKind m_hasSlot m_sheetBits m_sheetSize m_sheets m_fresh m_rootWhich m_signs m_atNought m_change m_table m_carried nw u fi aa bb dd ro db mn j n hn12 hn hn0 (by omega) H.size) (cwV 1 hts gX8_doMeet_X8_xOf rfl rfl rfl hv_X8_xOf (yk_room hRf hRl rfl rfl)) (yk_pv (q := (RX8, TX8, 23)) hG hA hS hK hP hD [0, 1] (by decide +kernel) rfl rfl rfl) rfl rfl hl.1 rfl (lv_room (Nat.le_of_ble_eq_true rfl)) dX8_doMeet_84 ⟨Nat.zero_le _, Nat.zero_le _⟩) hP hD hS hA rfl (Eq.trans (b := [ta, m_now]) rfl rfl) (fun H locs hP9 hD9 hS9 => ?_)
          replace hP : va_P D vwCl [(ta, .inr (8, [.ref m_now, .ref m_undone, .ref m_slots, .ref m_slotKind, .ref m_hasSlot, .ref m_sheetBits, .ref m_sheetSize, .ref m_sheets, .int (nI u), .int fi, .ref m_fresh, .long aa, .long bb, .long dd, .int (nI ro), .ref m_rootWhich, .int db, .ref m_signs, .ref m_atNought, .int (nI mn), .ref m_change, .ref m_table, .ref m_carried])), (m_now, .inl (cy 0, 29, .inl nw))] H := hP9
          replace hD : va_D A [(ta, .inr (8, [.ref m_now, .ref m_undone, .ref m_slots, .ref m_slotKind, .ref m_hasSlot, .ref m_sheetBits, .ref m_sheetSize, .ref m_sheets, .int (nI u), .int fi, .ref m_fresh, .long aa, .long bb, .long dd, .int (nI ro), .ref m_rootWhich, .int db, .ref m_signs, .ref m_atNought, .int (nI mn), .ref m_change, .ref m_table, .ref m_carried])), (m_now, .inl (cy 0, 29, .inl nw))] := hD9
          replace hS := hS9
          clear hP9 hD9 hS9
          refine lv_aload_n hx hb dX8_doMeet_87 rfl (lv_at hl 0 rfl) ?_
          refine lv_iload_n hx hb dX8_doMeet_88 rfl (lv_at hl 1 rfl) ?_
          refine yk_i [0, 1] (va_runV (As := [.int (nI j)]) (rest := [.int (f_X8_xOf nw j n)]) ⟨hx, hb, hml, hown, hts⟩ (c_X8_yOf l D cy ta m_now m_undone m_slots m_slotKind m_hasSlot m_sheetBits m_sheetSize m_sheets m_fresh m_rootWhich m_signs m_atNought m_change m_table m_carried nw u fi aa bb dd ro db mn j n hn12 hn hn0 (by omega) H.size) (cwV 1 hts gX8_doMeet_X8_yOf rfl rfl rfl hv_X8_yOf (yk_room hRf hRl rfl rfl)) (yk_pv (q := (RX8, TX8, 23)) hG hA hS hK hP hD [0, 1] (by decide +kernel) rfl rfl rfl) rfl rfl hl.1 rfl (lv_room (Nat.le_of_ble_eq_true rfl)) dX8_doMeet_89 ⟨Nat.zero_le _, Nat.zero_le _⟩) hP hD hS hA rfl (Eq.trans (b := [ta, m_now]) rfl rfl) (fun H locs hP9 hD9 hS9 => ?_)
          replace hP : va_P D vwCl [(ta, .inr (8, [.ref m_now, .ref m_undone, .ref m_slots, .ref m_slotKind, .ref m_hasSlot, .ref m_sheetBits, .ref m_sheetSize, .ref m_sheets, .int (nI u), .int fi, .ref m_fresh, .long aa, .long bb, .long dd, .int (nI ro), .ref m_rootWhich, .int db, .ref m_signs, .ref m_atNought, .int (nI mn), .ref m_change, .ref m_table, .ref m_carried])), (m_now, .inl (cy 0, 29, .inl nw))] H := hP9
          replace hD : va_D A [(ta, .inr (8, [.ref m_now, .ref m_undone, .ref m_slots, .ref m_slotKind, .ref m_hasSlot, .ref m_sheetBits, .ref m_sheetSize, .ref m_sheets, .int (nI u), .int fi, .ref m_fresh, .long aa, .long bb, .long dd, .int (nI ro), .ref m_rootWhich, .int db, .ref m_signs, .ref m_atNought, .int (nI mn), .ref m_change, .ref m_table, .ref m_carried])), (m_now, .inl (cy 0, 29, .inl nw))] := hD9
          replace hS := hS9
          clear hP9 hD9 hS9
          refine lv_aload_n hx hb dX8_doMeet_92 rfl (lv_at hl 0 rfl) ?_
          refine lv_iload_n hx hb dX8_doMeet_93 rfl (lv_at hl 1 rfl) ?_
          refine lv_iconst (v := 1) hx hb dX8_doMeet_94 (by decide) ?_
          refine lv_iadd hx hb dX8_doMeet_95 ?_
          refine yk_ti (y := nI (j + 1)) (nI_add j 1) ?_
          refine yk_i [0, 1] (va_runV (As := [.int (nI (j + 1))]) (rest := [.int (f_X8_yOf nw j n), .int (f_X8_xOf nw j n)]) ⟨hx, hb, hml, hown, hts⟩ (c_X8_xOf l D cy ta m_now m_undone m_slots m_slotKind m_hasSlot m_sheetBits m_sheetSize m_sheets m_fresh m_rootWhich m_signs m_atNought m_change m_table m_carried nw u fi aa bb dd ro db mn (j + 1) n hn12 hn hn0 (by omega) H.size) (cwV 1 hts gX8_doMeet_X8_xOf rfl rfl rfl hv_X8_xOf (yk_room hRf hRl rfl rfl)) (yk_pv (q := (RX8, TX8, 23)) hG hA hS hK hP hD [0, 1] (by decide +kernel) rfl rfl rfl) rfl rfl hl.1 rfl (lv_room (Nat.le_of_ble_eq_true rfl)) dX8_doMeet_96 ⟨Nat.zero_le _, Nat.zero_le _⟩) hP hD hS hA rfl (Eq.trans (b := [ta, m_now]) rfl rfl) (fun H locs hP9 hD9 hS9 => ?_)
          replace hP : va_P D vwCl [(ta, .inr (8, [.ref m_now, .ref m_undone, .ref m_slots, .ref m_slotKind, .ref m_hasSlot, .ref m_sheetBits, .ref m_sheetSize, .ref m_sheets, .int (nI u), .int fi, .ref m_fresh, .long aa, .long bb, .long dd, .int (nI ro), .ref m_rootWhich, .int db, .ref m_signs, .ref m_atNought, .int (nI mn), .ref m_change, .ref m_table, .ref m_carried])), (m_now, .inl (cy 0, 29, .inl nw))] H := hP9
          replace hD : va_D A [(ta, .inr (8, [.ref m_now, .ref m_undone, .ref m_slots, .ref m_slotKind, .ref m_hasSlot, .ref m_sheetBits, .ref m_sheetSize, .ref m_sheets, .int (nI u), .int fi, .ref m_fresh, .long aa, .long bb, .long dd, .int (nI ro), .ref m_rootWhich, .int db, .ref m_signs, .ref m_atNought, .int (nI mn), .ref m_change, .ref m_table, .ref m_carried])), (m_now, .inl (cy 0, 29, .inl nw))] := hD9
          replace hS := hS9
          clear hP9 hD9 hS9
          refine lv_aload_n hx hb dX8_doMeet_99 rfl (lv_at hl 0 rfl) ?_
          refine lv_iload_n hx hb dX8_doMeet_100 rfl (lv_at hl 1 rfl) ?_
          refine lv_iconst (v := 1) hx hb dX8_doMeet_101 (by decide) ?_
          refine lv_iadd hx hb dX8_doMeet_102 ?_
          refine yk_ti (y := nI (j + 1)) (nI_add j 1) ?_
          refine yk_i [0, 1] (va_runV (As := [.int (nI (j + 1))]) (rest := [.int (f_X8_xOf nw (j + 1) n), .int (f_X8_yOf nw j n), .int (f_X8_xOf nw j n)]) ⟨hx, hb, hml, hown, hts⟩ (c_X8_yOf l D cy ta m_now m_undone m_slots m_slotKind m_hasSlot m_sheetBits m_sheetSize m_sheets m_fresh m_rootWhich m_signs m_atNought m_change m_table m_carried nw u fi aa bb dd ro db mn (j + 1) n hn12 hn hn0 (by omega) H.size) (cwV 1 hts gX8_doMeet_X8_yOf rfl rfl rfl hv_X8_yOf (yk_room hRf hRl rfl rfl)) (yk_pv (q := (RX8, TX8, 23)) hG hA hS hK hP hD [0, 1] (by decide +kernel) rfl rfl rfl) rfl rfl hl.1 rfl (lv_room (Nat.le_of_ble_eq_true rfl)) dX8_doMeet_103 ⟨Nat.zero_le _, Nat.zero_le _⟩) hP hD hS hA rfl (Eq.trans (b := [ta, m_now]) rfl rfl) (fun H locs hP9 hD9 hS9 => ?_)
          replace hP : va_P D vwCl [(ta, .inr (8, [.ref m_now, .ref m_undone, .ref m_slots, .ref m_slotKind, .ref m_hasSlot, .ref m_sheetBits, .ref m_sheetSize, .ref m_sheets, .int (nI u), .int fi, .ref m_fresh, .long aa, .long bb, .long dd, .int (nI ro), .ref m_rootWhich, .int db, .ref m_signs, .ref m_atNought, .int (nI mn), .ref m_change, .ref m_table, .ref m_carried])), (m_now, .inl (cy 0, 29, .inl nw))] H := hP9
          replace hD : va_D A [(ta, .inr (8, [.ref m_now, .ref m_undone, .ref m_slots, .ref m_slotKind, .ref m_hasSlot, .ref m_sheetBits, .ref m_sheetSize, .ref m_sheets, .int (nI u), .int fi, .ref m_fresh, .long aa, .long bb, .long dd, .int (nI ro), .ref m_rootWhich, .int db, .ref m_signs, .ref m_atNought, .int (nI mn), .ref m_change, .ref m_table, .ref m_carried])), (m_now, .inl (cy 0, 29, .inl nw))] := hD9
          replace hS := hS9
          clear hP9 hD9 hS9
          refine lv_aload_n hx hb dX8_doMeet_106 rfl (lv_at hl 0 rfl) ?_
          refine lv_iload_n hx hb dX8_doMeet_107 rfl (lv_at hl 2 rfl) ?_
          refine yk_i [0, 1] (va_runV (As := [.int (nI k)]) (rest := [.int (f_X8_yOf nw (j + 1) n), .int (f_X8_xOf nw (j + 1) n), .int (f_X8_yOf nw j n), .int (f_X8_xOf nw j n)]) ⟨hx, hb, hml, hown, hts⟩ (c_X8_xOf l D cy ta m_now m_undone m_slots m_slotKind m_hasSlot m_sheetBits m_sheetSize m_sheets m_fresh m_rootWhich m_signs m_atNought m_change m_table m_carried nw u fi aa bb dd ro db mn k n hn12 hn hn0 (by omega) H.size) (cwV 1 hts gX8_doMeet_X8_xOf rfl rfl rfl hv_X8_xOf (yk_room hRf hRl rfl rfl)) (yk_pv (q := (RX8, TX8, 23)) hG hA hS hK hP hD [0, 1] (by decide +kernel) rfl rfl rfl) rfl rfl hl.1 rfl (lv_room (Nat.le_of_ble_eq_true rfl)) dX8_doMeet_108 ⟨Nat.zero_le _, Nat.zero_le _⟩) hP hD hS hA rfl (Eq.trans (b := [ta, m_now]) rfl rfl) (fun H locs hP9 hD9 hS9 => ?_)
          replace hP : va_P D vwCl [(ta, .inr (8, [.ref m_now, .ref m_undone, .ref m_slots, .ref m_slotKind, .ref m_hasSlot, .ref m_sheetBits, .ref m_sheetSize, .ref m_sheets, .int (nI u), .int fi, .ref m_fresh, .long aa, .long bb, .long dd, .int (nI ro), .ref m_rootWhich, .int db, .ref m_signs, .ref m_atNought, .int (nI mn), .ref m_change, .ref m_table, .ref m_carried])), (m_now, .inl (cy 0, 29, .inl nw))] H := hP9
          replace hD : va_D A [(ta, .inr (8, [.ref m_now, .ref m_undone, .ref m_slots, .ref m_slotKind, .ref m_hasSlot, .ref m_sheetBits, .ref m_sheetSize, .ref m_sheets, .int (nI u), .int fi, .ref m_fresh, .long aa, .long bb, .long dd, .int (nI ro), .ref m_rootWhich, .int db, .ref m_signs, .ref m_atNought, .int (nI mn), .ref m_change, .ref m_table, .ref m_carried])), (m_now, .inl (cy 0, 29, .inl nw))] := hD9
          replace hS := hS9
          clear hP9 hD9 hS9
          refine lv_aload_n hx hb dX8_doMeet_111 rfl (lv_at hl 0 rfl) ?_
          refine lv_iload_n hx hb dX8_doMeet_112 rfl (lv_at hl 2 rfl) ?_
          refine yk_i [0, 1] (va_runV (As := [.int (nI k)]) (rest := [.int (f_X8_xOf nw k n), .int (f_X8_yOf nw (j + 1) n), .int (f_X8_xOf nw (j + 1) n), .int (f_X8_yOf nw j n), .int (f_X8_xOf nw j n)]) ⟨hx, hb, hml, hown, hts⟩ (c_X8_yOf l D cy ta m_now m_undone m_slots m_slotKind m_hasSlot m_sheetBits m_sheetSize m_sheets m_fresh m_rootWhich m_signs m_atNought m_change m_table m_carried nw u fi aa bb dd ro db mn k n hn12 hn hn0 (by omega) H.size) (cwV 1 hts gX8_doMeet_X8_yOf rfl rfl rfl hv_X8_yOf (yk_room hRf hRl rfl rfl)) (yk_pv (q := (RX8, TX8, 23)) hG hA hS hK hP hD [0, 1] (by decide +kernel) rfl rfl rfl) rfl rfl hl.1 rfl (lv_room (Nat.le_of_ble_eq_true rfl)) dX8_doMeet_113 ⟨Nat.zero_le _, Nat.zero_le _⟩) hP hD hS hA rfl (Eq.trans (b := [ta, m_now]) rfl rfl) (fun H locs hP9 hD9 hS9 => ?_)
          replace hP : va_P D vwCl [(ta, .inr (8, [.ref m_now, .ref m_undone, .ref m_slots, .ref m_slotKind, .ref m_hasSlot, .ref m_sheetBits, .ref m_sheetSize, .ref m_sheets, .int (nI u), .int fi, .ref m_fresh, .long aa, .long bb, .long dd, .int (nI ro), .ref m_rootWhich, .int db, .ref m_signs, .ref m_atNought, .int (nI mn), .ref m_change, .ref m_table, .ref m_carried])), (m_now, .inl (cy 0, 29, .inl nw))] H := hP9
          replace hD : va_D A [(ta, .inr (8, [.ref m_now, .ref m_undone, .ref m_slots, .ref m_slotKind, .ref m_hasSlot, .ref m_sheetBits, .ref m_sheetSize, .ref m_sheets, .int (nI u), .int fi, .ref m_fresh, .long aa, .long bb, .long dd, .int (nI ro), .ref m_rootWhich, .int db, .ref m_signs, .ref m_atNought, .int (nI mn), .ref m_change, .ref m_table, .ref m_carried])), (m_now, .inl (cy 0, 29, .inl nw))] := hD9
          replace hS := hS9
          clear hP9 hD9 hS9
          refine yk_i [] (va_runS (As := [.int (f_X8_xOf nw j n), .int (f_X8_yOf nw j n), .int (f_X8_xOf nw (j + 1) n), .int (f_X8_yOf nw (j + 1) n), .int (f_X8_xOf nw k n), .int (f_X8_yOf nw k n)]) (rest := []) ⟨hx, hb, hml, hown, hts⟩ (c_X8_turn l D cy (f_X8_xOf nw j n) (f_X8_yOf nw j n) (f_X8_xOf nw (j + 1) n) (f_X8_yOf nw (j + 1) n) (f_X8_xOf nw k n) (f_X8_yOf nw k n) H.size) (va_cwS 6 hts gX8_doMeet_X8_turn rfl rfl rfl hs_X8_turn (yk_room hRf hRl rfl rfl)) (yk_ps hG hA hS hK hP hD [] (by decide +kernel) rfl) rfl rfl hl.1 rfl (lv_room (Nat.le_of_ble_eq_true rfl)) dX8_doMeet_116 ⟨Nat.zero_le _, Nat.zero_le _⟩) hP hD hS hA rfl rfl (fun H locs hP9 hD9 hS9 => ?_)
          replace hP : va_P D vwCl [(ta, .inr (8, [.ref m_now, .ref m_undone, .ref m_slots, .ref m_slotKind, .ref m_hasSlot, .ref m_sheetBits, .ref m_sheetSize, .ref m_sheets, .int (nI u), .int fi, .ref m_fresh, .long aa, .long bb, .long dd, .int (nI ro), .ref m_rootWhich, .int db, .ref m_signs, .ref m_atNought, .int (nI mn), .ref m_change, .ref m_table, .ref m_carried])), (m_now, .inl (cy 0, 29, .inl nw))] H := hP9
          replace hD : va_D A [(ta, .inr (8, [.ref m_now, .ref m_undone, .ref m_slots, .ref m_slotKind, .ref m_hasSlot, .ref m_sheetBits, .ref m_sheetSize, .ref m_sheets, .int (nI u), .int fi, .ref m_fresh, .long aa, .long bb, .long dd, .int (nI ro), .ref m_rootWhich, .int db, .ref m_signs, .ref m_atNought, .int (nI mn), .ref m_change, .ref m_table, .ref m_carried])), (m_now, .inl (cy 0, 29, .inl nw))] := hD9
          replace hS := hS9
          clear hP9 hD9 hS9
          refine lv_istore_n (lv' := [(3, .int (f_X8_turn (f_X8_xOf nw j n) (f_X8_yOf nw j n) (f_X8_xOf nw (j + 1) n) (f_X8_yOf nw (j + 1) n) (f_X8_xOf nw k n) (f_X8_yOf nw k n))), (0, .ref ta), (1, .int (nI j)), (2, .int (nI k))]) hx hb dX8_doMeet_119 rfl hl (by decide) rfl (fun ls hl9 => ?_)
          replace hl := hl9
          clear hl9
          refine lv_aload_n hx hb dX8_doMeet_120 rfl (lv_at hl 1 rfl) ?_
          refine lv_iload_n hx hb dX8_doMeet_121 rfl (lv_at hl 2 rfl) ?_
          refine yk_i [0, 1] (va_runV (As := [.int (nI j)]) (rest := []) ⟨hx, hb, hml, hown, hts⟩ (c_X8_xOf l D cy ta m_now m_undone m_slots m_slotKind m_hasSlot m_sheetBits m_sheetSize m_sheets m_fresh m_rootWhich m_signs m_atNought m_change m_table m_carried nw u fi aa bb dd ro db mn j n hn12 hn hn0 (by omega) H.size) (cwV 1 hts gX8_doMeet_X8_xOf rfl rfl rfl hv_X8_xOf (yk_room hRf hRl rfl rfl)) (yk_pv (q := (RX8, TX8, 23)) hG hA hS hK hP hD [0, 1] (by decide +kernel) rfl rfl rfl) rfl rfl hl.1 rfl (lv_room (Nat.le_of_ble_eq_true rfl)) dX8_doMeet_122 ⟨Nat.zero_le _, Nat.zero_le _⟩) hP hD hS hA rfl (Eq.trans (b := [ta, m_now]) rfl rfl) (fun H locs hP9 hD9 hS9 => ?_)
          replace hP : va_P D vwCl [(ta, .inr (8, [.ref m_now, .ref m_undone, .ref m_slots, .ref m_slotKind, .ref m_hasSlot, .ref m_sheetBits, .ref m_sheetSize, .ref m_sheets, .int (nI u), .int fi, .ref m_fresh, .long aa, .long bb, .long dd, .int (nI ro), .ref m_rootWhich, .int db, .ref m_signs, .ref m_atNought, .int (nI mn), .ref m_change, .ref m_table, .ref m_carried])), (m_now, .inl (cy 0, 29, .inl nw))] H := hP9
          replace hD : va_D A [(ta, .inr (8, [.ref m_now, .ref m_undone, .ref m_slots, .ref m_slotKind, .ref m_hasSlot, .ref m_sheetBits, .ref m_sheetSize, .ref m_sheets, .int (nI u), .int fi, .ref m_fresh, .long aa, .long bb, .long dd, .int (nI ro), .ref m_rootWhich, .int db, .ref m_signs, .ref m_atNought, .int (nI mn), .ref m_change, .ref m_table, .ref m_carried])), (m_now, .inl (cy 0, 29, .inl nw))] := hD9
          replace hS := hS9
          clear hP9 hD9 hS9
          refine lv_aload_n hx hb dX8_doMeet_125 rfl (lv_at hl 1 rfl) ?_
          refine lv_iload_n hx hb dX8_doMeet_126 rfl (lv_at hl 2 rfl) ?_
          refine yk_i [0, 1] (va_runV (As := [.int (nI j)]) (rest := [.int (f_X8_xOf nw j n)]) ⟨hx, hb, hml, hown, hts⟩ (c_X8_yOf l D cy ta m_now m_undone m_slots m_slotKind m_hasSlot m_sheetBits m_sheetSize m_sheets m_fresh m_rootWhich m_signs m_atNought m_change m_table m_carried nw u fi aa bb dd ro db mn j n hn12 hn hn0 (by omega) H.size) (cwV 1 hts gX8_doMeet_X8_yOf rfl rfl rfl hv_X8_yOf (yk_room hRf hRl rfl rfl)) (yk_pv (q := (RX8, TX8, 23)) hG hA hS hK hP hD [0, 1] (by decide +kernel) rfl rfl rfl) rfl rfl hl.1 rfl (lv_room (Nat.le_of_ble_eq_true rfl)) dX8_doMeet_127 ⟨Nat.zero_le _, Nat.zero_le _⟩) hP hD hS hA rfl (Eq.trans (b := [ta, m_now]) rfl rfl) (fun H locs hP9 hD9 hS9 => ?_)
          replace hP : va_P D vwCl [(ta, .inr (8, [.ref m_now, .ref m_undone, .ref m_slots, .ref m_slotKind, .ref m_hasSlot, .ref m_sheetBits, .ref m_sheetSize, .ref m_sheets, .int (nI u), .int fi, .ref m_fresh, .long aa, .long bb, .long dd, .int (nI ro), .ref m_rootWhich, .int db, .ref m_signs, .ref m_atNought, .int (nI mn), .ref m_change, .ref m_table, .ref m_carried])), (m_now, .inl (cy 0, 29, .inl nw))] H := hP9
          replace hD : va_D A [(ta, .inr (8, [.ref m_now, .ref m_undone, .ref m_slots, .ref m_slotKind, .ref m_hasSlot, .ref m_sheetBits, .ref m_sheetSize, .ref m_sheets, .int (nI u), .int fi, .ref m_fresh, .long aa, .long bb, .long dd, .int (nI ro), .ref m_rootWhich, .int db, .ref m_signs, .ref m_atNought, .int (nI mn), .ref m_change, .ref m_table, .ref m_carried])), (m_now, .inl (cy 0, 29, .inl nw))] := hD9
          replace hS := hS9
          clear hP9 hD9 hS9
          refine lv_aload_n hx hb dX8_doMeet_130 rfl (lv_at hl 1 rfl) ?_
          refine lv_iload_n hx hb dX8_doMeet_131 rfl (lv_at hl 2 rfl) ?_
          refine lv_iconst (v := 1) hx hb dX8_doMeet_132 (by decide) ?_
          refine lv_iadd hx hb dX8_doMeet_133 ?_
          refine yk_ti (y := nI (j + 1)) (nI_add j 1) ?_
          refine yk_i [0, 1] (va_runV (As := [.int (nI (j + 1))]) (rest := [.int (f_X8_yOf nw j n), .int (f_X8_xOf nw j n)]) ⟨hx, hb, hml, hown, hts⟩ (c_X8_xOf l D cy ta m_now m_undone m_slots m_slotKind m_hasSlot m_sheetBits m_sheetSize m_sheets m_fresh m_rootWhich m_signs m_atNought m_change m_table m_carried nw u fi aa bb dd ro db mn (j + 1) n hn12 hn hn0 (by omega) H.size) (cwV 1 hts gX8_doMeet_X8_xOf rfl rfl rfl hv_X8_xOf (yk_room hRf hRl rfl rfl)) (yk_pv (q := (RX8, TX8, 23)) hG hA hS hK hP hD [0, 1] (by decide +kernel) rfl rfl rfl) rfl rfl hl.1 rfl (lv_room (Nat.le_of_ble_eq_true rfl)) dX8_doMeet_134 ⟨Nat.zero_le _, Nat.zero_le _⟩) hP hD hS hA rfl (Eq.trans (b := [ta, m_now]) rfl rfl) (fun H locs hP9 hD9 hS9 => ?_)
          replace hP : va_P D vwCl [(ta, .inr (8, [.ref m_now, .ref m_undone, .ref m_slots, .ref m_slotKind, .ref m_hasSlot, .ref m_sheetBits, .ref m_sheetSize, .ref m_sheets, .int (nI u), .int fi, .ref m_fresh, .long aa, .long bb, .long dd, .int (nI ro), .ref m_rootWhich, .int db, .ref m_signs, .ref m_atNought, .int (nI mn), .ref m_change, .ref m_table, .ref m_carried])), (m_now, .inl (cy 0, 29, .inl nw))] H := hP9
          replace hD : va_D A [(ta, .inr (8, [.ref m_now, .ref m_undone, .ref m_slots, .ref m_slotKind, .ref m_hasSlot, .ref m_sheetBits, .ref m_sheetSize, .ref m_sheets, .int (nI u), .int fi, .ref m_fresh, .long aa, .long bb, .long dd, .int (nI ro), .ref m_rootWhich, .int db, .ref m_signs, .ref m_atNought, .int (nI mn), .ref m_change, .ref m_table, .ref m_carried])), (m_now, .inl (cy 0, 29, .inl nw))] := hD9
          replace hS := hS9
          clear hP9 hD9 hS9
          refine lv_aload_n hx hb dX8_doMeet_137 rfl (lv_at hl 1 rfl) ?_
          refine lv_iload_n hx hb dX8_doMeet_138 rfl (lv_at hl 2 rfl) ?_
          refine lv_iconst (v := 1) hx hb dX8_doMeet_139 (by decide) ?_
          refine lv_iadd hx hb dX8_doMeet_140 ?_
          refine yk_ti (y := nI (j + 1)) (nI_add j 1) ?_
          refine yk_i [0, 1] (va_runV (As := [.int (nI (j + 1))]) (rest := [.int (f_X8_xOf nw (j + 1) n), .int (f_X8_yOf nw j n), .int (f_X8_xOf nw j n)]) ⟨hx, hb, hml, hown, hts⟩ (c_X8_yOf l D cy ta m_now m_undone m_slots m_slotKind m_hasSlot m_sheetBits m_sheetSize m_sheets m_fresh m_rootWhich m_signs m_atNought m_change m_table m_carried nw u fi aa bb dd ro db mn (j + 1) n hn12 hn hn0 (by omega) H.size) (cwV 1 hts gX8_doMeet_X8_yOf rfl rfl rfl hv_X8_yOf (yk_room hRf hRl rfl rfl)) (yk_pv (q := (RX8, TX8, 23)) hG hA hS hK hP hD [0, 1] (by decide +kernel) rfl rfl rfl) rfl rfl hl.1 rfl (lv_room (Nat.le_of_ble_eq_true rfl)) dX8_doMeet_141 ⟨Nat.zero_le _, Nat.zero_le _⟩) hP hD hS hA rfl (Eq.trans (b := [ta, m_now]) rfl rfl) (fun H locs hP9 hD9 hS9 => ?_)
          replace hP : va_P D vwCl [(ta, .inr (8, [.ref m_now, .ref m_undone, .ref m_slots, .ref m_slotKind, .ref m_hasSlot, .ref m_sheetBits, .ref m_sheetSize, .ref m_sheets, .int (nI u), .int fi, .ref m_fresh, .long aa, .long bb, .long dd, .int (nI ro), .ref m_rootWhich, .int db, .ref m_signs, .ref m_atNought, .int (nI mn), .ref m_change, .ref m_table, .ref m_carried])), (m_now, .inl (cy 0, 29, .inl nw))] H := hP9
          replace hD : va_D A [(ta, .inr (8, [.ref m_now, .ref m_undone, .ref m_slots, .ref m_slotKind, .ref m_hasSlot, .ref m_sheetBits, .ref m_sheetSize, .ref m_sheets, .int (nI u), .int fi, .ref m_fresh, .long aa, .long bb, .long dd, .int (nI ro), .ref m_rootWhich, .int db, .ref m_signs, .ref m_atNought, .int (nI mn), .ref m_change, .ref m_table, .ref m_carried])), (m_now, .inl (cy 0, 29, .inl nw))] := hD9
          replace hS := hS9
          clear hP9 hD9 hS9
          refine lv_aload_n hx hb dX8_doMeet_144 rfl (lv_at hl 1 rfl) ?_
          refine lv_iload_n hx hb dX8_doMeet_145 rfl (lv_at hl 3 rfl) ?_
          refine lv_iconst (v := 1) hx hb dX8_doMeet_146 (by decide) ?_
          refine lv_iadd hx hb dX8_doMeet_147 ?_
          refine yk_ti (y := nI (k + 1)) (nI_add k 1) ?_
          refine yk_i [0, 1] (va_runV (As := [.int (nI (k + 1))]) (rest := [.int (f_X8_yOf nw (j + 1) n), .int (f_X8_xOf nw (j + 1) n), .int (f_X8_yOf nw j n), .int (f_X8_xOf nw j n)]) ⟨hx, hb, hml, hown, hts⟩ (c_X8_xOf l D cy ta m_now m_undone m_slots m_slotKind m_hasSlot m_sheetBits m_sheetSize m_sheets m_fresh m_rootWhich m_signs m_atNought m_change m_table m_carried nw u fi aa bb dd ro db mn (k + 1) n hn12 hn hn0 (by omega) H.size) (cwV 1 hts gX8_doMeet_X8_xOf rfl rfl rfl hv_X8_xOf (yk_room hRf hRl rfl rfl)) (yk_pv (q := (RX8, TX8, 23)) hG hA hS hK hP hD [0, 1] (by decide +kernel) rfl rfl rfl) rfl rfl hl.1 rfl (lv_room (Nat.le_of_ble_eq_true rfl)) dX8_doMeet_148 ⟨Nat.zero_le _, Nat.zero_le _⟩) hP hD hS hA rfl (Eq.trans (b := [ta, m_now]) rfl rfl) (fun H locs hP9 hD9 hS9 => ?_)
          replace hP : va_P D vwCl [(ta, .inr (8, [.ref m_now, .ref m_undone, .ref m_slots, .ref m_slotKind, .ref m_hasSlot, .ref m_sheetBits, .ref m_sheetSize, .ref m_sheets, .int (nI u), .int fi, .ref m_fresh, .long aa, .long bb, .long dd, .int (nI ro), .ref m_rootWhich, .int db, .ref m_signs, .ref m_atNought, .int (nI mn), .ref m_change, .ref m_table, .ref m_carried])), (m_now, .inl (cy 0, 29, .inl nw))] H := hP9
          replace hD : va_D A [(ta, .inr (8, [.ref m_now, .ref m_undone, .ref m_slots, .ref m_slotKind, .ref m_hasSlot, .ref m_sheetBits, .ref m_sheetSize, .ref m_sheets, .int (nI u), .int fi, .ref m_fresh, .long aa, .long bb, .long dd, .int (nI ro), .ref m_rootWhich, .int db, .ref m_signs, .ref m_atNought, .int (nI mn), .ref m_change, .ref m_table, .ref m_carried])), (m_now, .inl (cy 0, 29, .inl nw))] := hD9
          replace hS := hS9
          clear hP9 hD9 hS9
          refine lv_aload_n hx hb dX8_doMeet_151 rfl (lv_at hl 1 rfl) ?_
          refine lv_iload_n hx hb dX8_doMeet_152 rfl (lv_at hl 3 rfl) ?_
          refine lv_iconst (v := 1) hx hb dX8_doMeet_153 (by decide) ?_
          refine lv_iadd hx hb dX8_doMeet_154 ?_
          refine yk_ti (y := nI (k + 1)) (nI_add k 1) ?_
          refine yk_i [0, 1] (va_runV (As := [.int (nI (k + 1))]) (rest := [.int (f_X8_xOf nw (k + 1) n), .int (f_X8_yOf nw (j + 1) n), .int (f_X8_xOf nw (j + 1) n), .int (f_X8_yOf nw j n), .int (f_X8_xOf nw j n)]) ⟨hx, hb, hml, hown, hts⟩ (c_X8_yOf l D cy ta m_now m_undone m_slots m_slotKind m_hasSlot m_sheetBits m_sheetSize m_sheets m_fresh m_rootWhich m_signs m_atNought m_change m_table m_carried nw u fi aa bb dd ro db mn (k + 1) n hn12 hn hn0 (by omega) H.size) (cwV 1 hts gX8_doMeet_X8_yOf rfl rfl rfl hv_X8_yOf (yk_room hRf hRl rfl rfl)) (yk_pv (q := (RX8, TX8, 23)) hG hA hS hK hP hD [0, 1] (by decide +kernel) rfl rfl rfl) rfl rfl hl.1 rfl (lv_room (Nat.le_of_ble_eq_true rfl)) dX8_doMeet_155 ⟨Nat.zero_le _, Nat.zero_le _⟩) hP hD hS hA rfl (Eq.trans (b := [ta, m_now]) rfl rfl) (fun H locs hP9 hD9 hS9 => ?_)
          replace hP : va_P D vwCl [(ta, .inr (8, [.ref m_now, .ref m_undone, .ref m_slots, .ref m_slotKind, .ref m_hasSlot, .ref m_sheetBits, .ref m_sheetSize, .ref m_sheets, .int (nI u), .int fi, .ref m_fresh, .long aa, .long bb, .long dd, .int (nI ro), .ref m_rootWhich, .int db, .ref m_signs, .ref m_atNought, .int (nI mn), .ref m_change, .ref m_table, .ref m_carried])), (m_now, .inl (cy 0, 29, .inl nw))] H := hP9
          replace hD : va_D A [(ta, .inr (8, [.ref m_now, .ref m_undone, .ref m_slots, .ref m_slotKind, .ref m_hasSlot, .ref m_sheetBits, .ref m_sheetSize, .ref m_sheets, .int (nI u), .int fi, .ref m_fresh, .long aa, .long bb, .long dd, .int (nI ro), .ref m_rootWhich, .int db, .ref m_signs, .ref m_atNought, .int (nI mn), .ref m_change, .ref m_table, .ref m_carried])), (m_now, .inl (cy 0, 29, .inl nw))] := hD9
          replace hS := hS9
          clear hP9 hD9 hS9
          refine yk_i [] (va_runS (As := [.int (f_X8_xOf nw j n), .int (f_X8_yOf nw j n), .int (f_X8_xOf nw (j + 1) n), .int (f_X8_yOf nw (j + 1) n), .int (f_X8_xOf nw (k + 1) n), .int (f_X8_yOf nw (k + 1) n)]) (rest := []) ⟨hx, hb, hml, hown, hts⟩ (c_X8_turn l D cy (f_X8_xOf nw j n) (f_X8_yOf nw j n) (f_X8_xOf nw (j + 1) n) (f_X8_yOf nw (j + 1) n) (f_X8_xOf nw (k + 1) n) (f_X8_yOf nw (k + 1) n) H.size) (va_cwS 6 hts gX8_doMeet_X8_turn rfl rfl rfl hs_X8_turn (yk_room hRf hRl rfl rfl)) (yk_ps hG hA hS hK hP hD [] (by decide +kernel) rfl) rfl rfl hl.1 rfl (lv_room (Nat.le_of_ble_eq_true rfl)) dX8_doMeet_158 ⟨Nat.zero_le _, Nat.zero_le _⟩) hP hD hS hA rfl rfl (fun H locs hP9 hD9 hS9 => ?_)
          replace hP : va_P D vwCl [(ta, .inr (8, [.ref m_now, .ref m_undone, .ref m_slots, .ref m_slotKind, .ref m_hasSlot, .ref m_sheetBits, .ref m_sheetSize, .ref m_sheets, .int (nI u), .int fi, .ref m_fresh, .long aa, .long bb, .long dd, .int (nI ro), .ref m_rootWhich, .int db, .ref m_signs, .ref m_atNought, .int (nI mn), .ref m_change, .ref m_table, .ref m_carried])), (m_now, .inl (cy 0, 29, .inl nw))] H := hP9
          replace hD : va_D A [(ta, .inr (8, [.ref m_now, .ref m_undone, .ref m_slots, .ref m_slotKind, .ref m_hasSlot, .ref m_sheetBits, .ref m_sheetSize, .ref m_sheets, .int (nI u), .int fi, .ref m_fresh, .long aa, .long bb, .long dd, .int (nI ro), .ref m_rootWhich, .int db, .ref m_signs, .ref m_atNought, .int (nI mn), .ref m_change, .ref m_table, .ref m_carried])), (m_now, .inl (cy 0, 29, .inl nw))] := hD9
          replace hS := hS9
          clear hP9 hD9 hS9
          refine lv_istore (lv' := [(4, .int (f_X8_turn (f_X8_xOf nw j n) (f_X8_yOf nw j n) (f_X8_xOf nw (j + 1) n) (f_X8_yOf nw (j + 1) n) (f_X8_xOf nw (k + 1) n) (f_X8_yOf nw (k + 1) n))), (3, .int (f_X8_turn (f_X8_xOf nw j n) (f_X8_yOf nw j n) (f_X8_xOf nw (j + 1) n) (f_X8_yOf nw (j + 1) n) (f_X8_xOf nw k n) (f_X8_yOf nw k n))), (0, .ref ta), (1, .int (nI j)), (2, .int (nI k))]) hx hb dX8_doMeet_161 hl (by decide) rfl (fun ls hl9 => ?_)
          replace hl := hl9
          clear hl9
          refine lv_aload_n hx hb dX8_doMeet_163 rfl (lv_at hl 2 rfl) ?_
          refine lv_iload_n hx hb dX8_doMeet_164 rfl (lv_at hl 4 rfl) ?_
          refine yk_i [0, 1] (va_runV (As := [.int (nI k)]) (rest := []) ⟨hx, hb, hml, hown, hts⟩ (c_X8_xOf l D cy ta m_now m_undone m_slots m_slotKind m_hasSlot m_sheetBits m_sheetSize m_sheets m_fresh m_rootWhich m_signs m_atNought m_change m_table m_carried nw u fi aa bb dd ro db mn k n hn12 hn hn0 (by omega) H.size) (cwV 1 hts gX8_doMeet_X8_xOf rfl rfl rfl hv_X8_xOf (yk_room hRf hRl rfl rfl)) (yk_pv (q := (RX8, TX8, 23)) hG hA hS hK hP hD [0, 1] (by decide +kernel) rfl rfl rfl) rfl rfl hl.1 rfl (lv_room (Nat.le_of_ble_eq_true rfl)) dX8_doMeet_165 ⟨Nat.zero_le _, Nat.zero_le _⟩) hP hD hS hA rfl (Eq.trans (b := [ta, m_now]) rfl rfl) (fun H locs hP9 hD9 hS9 => ?_)
          replace hP : va_P D vwCl [(ta, .inr (8, [.ref m_now, .ref m_undone, .ref m_slots, .ref m_slotKind, .ref m_hasSlot, .ref m_sheetBits, .ref m_sheetSize, .ref m_sheets, .int (nI u), .int fi, .ref m_fresh, .long aa, .long bb, .long dd, .int (nI ro), .ref m_rootWhich, .int db, .ref m_signs, .ref m_atNought, .int (nI mn), .ref m_change, .ref m_table, .ref m_carried])), (m_now, .inl (cy 0, 29, .inl nw))] H := hP9
          replace hD : va_D A [(ta, .inr (8, [.ref m_now, .ref m_undone, .ref m_slots, .ref m_slotKind, .ref m_hasSlot, .ref m_sheetBits, .ref m_sheetSize, .ref m_sheets, .int (nI u), .int fi, .ref m_fresh, .long aa, .long bb, .long dd, .int (nI ro), .ref m_rootWhich, .int db, .ref m_signs, .ref m_atNought, .int (nI mn), .ref m_change, .ref m_table, .ref m_carried])), (m_now, .inl (cy 0, 29, .inl nw))] := hD9
          replace hS := hS9
          clear hP9 hD9 hS9
          refine lv_aload_n hx hb dX8_doMeet_168 rfl (lv_at hl 2 rfl) ?_
          refine lv_iload_n hx hb dX8_doMeet_169 rfl (lv_at hl 4 rfl) ?_
          refine yk_i [0, 1] (va_runV (As := [.int (nI k)]) (rest := [.int (f_X8_xOf nw k n)]) ⟨hx, hb, hml, hown, hts⟩ (c_X8_yOf l D cy ta m_now m_undone m_slots m_slotKind m_hasSlot m_sheetBits m_sheetSize m_sheets m_fresh m_rootWhich m_signs m_atNought m_change m_table m_carried nw u fi aa bb dd ro db mn k n hn12 hn hn0 (by omega) H.size) (cwV 1 hts gX8_doMeet_X8_yOf rfl rfl rfl hv_X8_yOf (yk_room hRf hRl rfl rfl)) (yk_pv (q := (RX8, TX8, 23)) hG hA hS hK hP hD [0, 1] (by decide +kernel) rfl rfl rfl) rfl rfl hl.1 rfl (lv_room (Nat.le_of_ble_eq_true rfl)) dX8_doMeet_170 ⟨Nat.zero_le _, Nat.zero_le _⟩) hP hD hS hA rfl (Eq.trans (b := [ta, m_now]) rfl rfl) (fun H locs hP9 hD9 hS9 => ?_)
          replace hP : va_P D vwCl [(ta, .inr (8, [.ref m_now, .ref m_undone, .ref m_slots, .ref m_slotKind, .ref m_hasSlot, .ref m_sheetBits, .ref m_sheetSize, .ref m_sheets, .int (nI u), .int fi, .ref m_fresh, .long aa, .long bb, .long dd, .int (nI ro), .ref m_rootWhich, .int db, .ref m_signs, .ref m_atNought, .int (nI mn), .ref m_change, .ref m_table, .ref m_carried])), (m_now, .inl (cy 0, 29, .inl nw))] H := hP9
          replace hD : va_D A [(ta, .inr (8, [.ref m_now, .ref m_undone, .ref m_slots, .ref m_slotKind, .ref m_hasSlot, .ref m_sheetBits, .ref m_sheetSize, .ref m_sheets, .int (nI u), .int fi, .ref m_fresh, .long aa, .long bb, .long dd, .int (nI ro), .ref m_rootWhich, .int db, .ref m_signs, .ref m_atNought, .int (nI mn), .ref m_change, .ref m_table, .ref m_carried])), (m_now, .inl (cy 0, 29, .inl nw))] := hD9
          replace hS := hS9
          clear hP9 hD9 hS9
          refine lv_aload_n hx hb dX8_doMeet_173 rfl (lv_at hl 2 rfl) ?_
          refine lv_iload_n hx hb dX8_doMeet_174 rfl (lv_at hl 4 rfl) ?_
          refine lv_iconst (v := 1) hx hb dX8_doMeet_175 (by decide) ?_
          refine lv_iadd hx hb dX8_doMeet_176 ?_
          refine yk_ti (y := nI (k + 1)) (nI_add k 1) ?_
          refine yk_i [0, 1] (va_runV (As := [.int (nI (k + 1))]) (rest := [.int (f_X8_yOf nw k n), .int (f_X8_xOf nw k n)]) ⟨hx, hb, hml, hown, hts⟩ (c_X8_xOf l D cy ta m_now m_undone m_slots m_slotKind m_hasSlot m_sheetBits m_sheetSize m_sheets m_fresh m_rootWhich m_signs m_atNought m_change m_table m_carried nw u fi aa bb dd ro db mn (k + 1) n hn12 hn hn0 (by omega) H.size) (cwV 1 hts gX8_doMeet_X8_xOf rfl rfl rfl hv_X8_xOf (yk_room hRf hRl rfl rfl)) (yk_pv (q := (RX8, TX8, 23)) hG hA hS hK hP hD [0, 1] (by decide +kernel) rfl rfl rfl) rfl rfl hl.1 rfl (lv_room (Nat.le_of_ble_eq_true rfl)) dX8_doMeet_177 ⟨Nat.zero_le _, Nat.zero_le _⟩) hP hD hS hA rfl (Eq.trans (b := [ta, m_now]) rfl rfl) (fun H locs hP9 hD9 hS9 => ?_)
          replace hP : va_P D vwCl [(ta, .inr (8, [.ref m_now, .ref m_undone, .ref m_slots, .ref m_slotKind, .ref m_hasSlot, .ref m_sheetBits, .ref m_sheetSize, .ref m_sheets, .int (nI u), .int fi, .ref m_fresh, .long aa, .long bb, .long dd, .int (nI ro), .ref m_rootWhich, .int db, .ref m_signs, .ref m_atNought, .int (nI mn), .ref m_change, .ref m_table, .ref m_carried])), (m_now, .inl (cy 0, 29, .inl nw))] H := hP9
          replace hD : va_D A [(ta, .inr (8, [.ref m_now, .ref m_undone, .ref m_slots, .ref m_slotKind, .ref m_hasSlot, .ref m_sheetBits, .ref m_sheetSize, .ref m_sheets, .int (nI u), .int fi, .ref m_fresh, .long aa, .long bb, .long dd, .int (nI ro), .ref m_rootWhich, .int db, .ref m_signs, .ref m_atNought, .int (nI mn), .ref m_change, .ref m_table, .ref m_carried])), (m_now, .inl (cy 0, 29, .inl nw))] := hD9
          replace hS := hS9
          clear hP9 hD9 hS9
          refine lv_aload_n hx hb dX8_doMeet_180 rfl (lv_at hl 2 rfl) ?_
          refine lv_iload_n hx hb dX8_doMeet_181 rfl (lv_at hl 4 rfl) ?_
          refine lv_iconst (v := 1) hx hb dX8_doMeet_182 (by decide) ?_
          refine lv_iadd hx hb dX8_doMeet_183 ?_
          refine yk_ti (y := nI (k + 1)) (nI_add k 1) ?_
          refine yk_i [0, 1] (va_runV (As := [.int (nI (k + 1))]) (rest := [.int (f_X8_xOf nw (k + 1) n), .int (f_X8_yOf nw k n), .int (f_X8_xOf nw k n)]) ⟨hx, hb, hml, hown, hts⟩ (c_X8_yOf l D cy ta m_now m_undone m_slots m_slotKind m_hasSlot m_sheetBits m_sheetSize m_sheets m_fresh m_rootWhich m_signs m_atNought m_change m_table m_carried nw u fi aa bb dd ro db mn (k + 1) n hn12 hn hn0 (by omega) H.size) (cwV 1 hts gX8_doMeet_X8_yOf rfl rfl rfl hv_X8_yOf (yk_room hRf hRl rfl rfl)) (yk_pv (q := (RX8, TX8, 23)) hG hA hS hK hP hD [0, 1] (by decide +kernel) rfl rfl rfl) rfl rfl hl.1 rfl (lv_room (Nat.le_of_ble_eq_true rfl)) dX8_doMeet_184 ⟨Nat.zero_le _, Nat.zero_le _⟩) hP hD hS hA rfl (Eq.trans (b := [ta, m_now]) rfl rfl) (fun H locs hP9 hD9 hS9 => ?_)
          replace hP : va_P D vwCl [(ta, .inr (8, [.ref m_now, .ref m_undone, .ref m_slots, .ref m_slotKind, .ref m_hasSlot, .ref m_sheetBits, .ref m_sheetSize, .ref m_sheets, .int (nI u), .int fi, .ref m_fresh, .long aa, .long bb, .long dd, .int (nI ro), .ref m_rootWhich, .int db, .ref m_signs, .ref m_atNought, .int (nI mn), .ref m_change, .ref m_table, .ref m_carried])), (m_now, .inl (cy 0, 29, .inl nw))] H := hP9
          replace hD : va_D A [(ta, .inr (8, [.ref m_now, .ref m_undone, .ref m_slots, .ref m_slotKind, .ref m_hasSlot, .ref m_sheetBits, .ref m_sheetSize, .ref m_sheets, .int (nI u), .int fi, .ref m_fresh, .long aa, .long bb, .long dd, .int (nI ro), .ref m_rootWhich, .int db, .ref m_signs, .ref m_atNought, .int (nI mn), .ref m_change, .ref m_table, .ref m_carried])), (m_now, .inl (cy 0, 29, .inl nw))] := hD9
          replace hS := hS9
          clear hP9 hD9 hS9
          refine lv_aload_n hx hb dX8_doMeet_187 rfl (lv_at hl 2 rfl) ?_
          refine lv_iload_n hx hb dX8_doMeet_188 rfl (lv_at hl 3 rfl) ?_
          refine yk_i [0, 1] (va_runV (As := [.int (nI j)]) (rest := [.int (f_X8_yOf nw (k + 1) n), .int (f_X8_xOf nw (k + 1) n), .int (f_X8_yOf nw k n), .int (f_X8_xOf nw k n)]) ⟨hx, hb, hml, hown, hts⟩ (c_X8_xOf l D cy ta m_now m_undone m_slots m_slotKind m_hasSlot m_sheetBits m_sheetSize m_sheets m_fresh m_rootWhich m_signs m_atNought m_change m_table m_carried nw u fi aa bb dd ro db mn j n hn12 hn hn0 (by omega) H.size) (cwV 1 hts gX8_doMeet_X8_xOf rfl rfl rfl hv_X8_xOf (yk_room hRf hRl rfl rfl)) (yk_pv (q := (RX8, TX8, 23)) hG hA hS hK hP hD [0, 1] (by decide +kernel) rfl rfl rfl) rfl rfl hl.1 rfl (lv_room (Nat.le_of_ble_eq_true rfl)) dX8_doMeet_189 ⟨Nat.zero_le _, Nat.zero_le _⟩) hP hD hS hA rfl (Eq.trans (b := [ta, m_now]) rfl rfl) (fun H locs hP9 hD9 hS9 => ?_)
          replace hP : va_P D vwCl [(ta, .inr (8, [.ref m_now, .ref m_undone, .ref m_slots, .ref m_slotKind, .ref m_hasSlot, .ref m_sheetBits, .ref m_sheetSize, .ref m_sheets, .int (nI u), .int fi, .ref m_fresh, .long aa, .long bb, .long dd, .int (nI ro), .ref m_rootWhich, .int db, .ref m_signs, .ref m_atNought, .int (nI mn), .ref m_change, .ref m_table, .ref m_carried])), (m_now, .inl (cy 0, 29, .inl nw))] H := hP9
          replace hD : va_D A [(ta, .inr (8, [.ref m_now, .ref m_undone, .ref m_slots, .ref m_slotKind, .ref m_hasSlot, .ref m_sheetBits, .ref m_sheetSize, .ref m_sheets, .int (nI u), .int fi, .ref m_fresh, .long aa, .long bb, .long dd, .int (nI ro), .ref m_rootWhich, .int db, .ref m_signs, .ref m_atNought, .int (nI mn), .ref m_change, .ref m_table, .ref m_carried])), (m_now, .inl (cy 0, 29, .inl nw))] := hD9
          replace hS := hS9
          clear hP9 hD9 hS9
          refine lv_aload_n hx hb dX8_doMeet_192 rfl (lv_at hl 2 rfl) ?_
          refine lv_iload_n hx hb dX8_doMeet_193 rfl (lv_at hl 3 rfl) ?_
          refine yk_i [0, 1] (va_runV (As := [.int (nI j)]) (rest := [.int (f_X8_xOf nw j n), .int (f_X8_yOf nw (k + 1) n), .int (f_X8_xOf nw (k + 1) n), .int (f_X8_yOf nw k n), .int (f_X8_xOf nw k n)]) ⟨hx, hb, hml, hown, hts⟩ (c_X8_yOf l D cy ta m_now m_undone m_slots m_slotKind m_hasSlot m_sheetBits m_sheetSize m_sheets m_fresh m_rootWhich m_signs m_atNought m_change m_table m_carried nw u fi aa bb dd ro db mn j n hn12 hn hn0 (by omega) H.size) (cwV 1 hts gX8_doMeet_X8_yOf rfl rfl rfl hv_X8_yOf (yk_room hRf hRl rfl rfl)) (yk_pv (q := (RX8, TX8, 23)) hG hA hS hK hP hD [0, 1] (by decide +kernel) rfl rfl rfl) rfl rfl hl.1 rfl (lv_room (Nat.le_of_ble_eq_true rfl)) dX8_doMeet_194 ⟨Nat.zero_le _, Nat.zero_le _⟩) hP hD hS hA rfl (Eq.trans (b := [ta, m_now]) rfl rfl) (fun H locs hP9 hD9 hS9 => ?_)
          replace hP : va_P D vwCl [(ta, .inr (8, [.ref m_now, .ref m_undone, .ref m_slots, .ref m_slotKind, .ref m_hasSlot, .ref m_sheetBits, .ref m_sheetSize, .ref m_sheets, .int (nI u), .int fi, .ref m_fresh, .long aa, .long bb, .long dd, .int (nI ro), .ref m_rootWhich, .int db, .ref m_signs, .ref m_atNought, .int (nI mn), .ref m_change, .ref m_table, .ref m_carried])), (m_now, .inl (cy 0, 29, .inl nw))] H := hP9
          replace hD : va_D A [(ta, .inr (8, [.ref m_now, .ref m_undone, .ref m_slots, .ref m_slotKind, .ref m_hasSlot, .ref m_sheetBits, .ref m_sheetSize, .ref m_sheets, .int (nI u), .int fi, .ref m_fresh, .long aa, .long bb, .long dd, .int (nI ro), .ref m_rootWhich, .int db, .ref m_signs, .ref m_atNought, .int (nI mn), .ref m_change, .ref m_table, .ref m_carried])), (m_now, .inl (cy 0, 29, .inl nw))] := hD9
          replace hS := hS9
          clear hP9 hD9 hS9
          refine yk_i [] (va_runS (As := [.int (f_X8_xOf nw k n), .int (f_X8_yOf nw k n), .int (f_X8_xOf nw (k + 1) n), .int (f_X8_yOf nw (k + 1) n), .int (f_X8_xOf nw j n), .int (f_X8_yOf nw j n)]) (rest := []) ⟨hx, hb, hml, hown, hts⟩ (c_X8_turn l D cy (f_X8_xOf nw k n) (f_X8_yOf nw k n) (f_X8_xOf nw (k + 1) n) (f_X8_yOf nw (k + 1) n) (f_X8_xOf nw j n) (f_X8_yOf nw j n) H.size) (va_cwS 6 hts gX8_doMeet_X8_turn rfl rfl rfl hs_X8_turn (yk_room hRf hRl rfl rfl)) (yk_ps hG hA hS hK hP hD [] (by decide +kernel) rfl) rfl rfl hl.1 rfl (lv_room (Nat.le_of_ble_eq_true rfl)) dX8_doMeet_197 ⟨Nat.zero_le _, Nat.zero_le _⟩) hP hD hS hA rfl rfl (fun H locs hP9 hD9 hS9 => ?_)
          replace hP : va_P D vwCl [(ta, .inr (8, [.ref m_now, .ref m_undone, .ref m_slots, .ref m_slotKind, .ref m_hasSlot, .ref m_sheetBits, .ref m_sheetSize, .ref m_sheets, .int (nI u), .int fi, .ref m_fresh, .long aa, .long bb, .long dd, .int (nI ro), .ref m_rootWhich, .int db, .ref m_signs, .ref m_atNought, .int (nI mn), .ref m_change, .ref m_table, .ref m_carried])), (m_now, .inl (cy 0, 29, .inl nw))] H := hP9
          replace hD : va_D A [(ta, .inr (8, [.ref m_now, .ref m_undone, .ref m_slots, .ref m_slotKind, .ref m_hasSlot, .ref m_sheetBits, .ref m_sheetSize, .ref m_sheets, .int (nI u), .int fi, .ref m_fresh, .long aa, .long bb, .long dd, .int (nI ro), .ref m_rootWhich, .int db, .ref m_signs, .ref m_atNought, .int (nI mn), .ref m_change, .ref m_table, .ref m_carried])), (m_now, .inl (cy 0, 29, .inl nw))] := hD9
          replace hS := hS9
          clear hP9 hD9 hS9
          refine lv_istore (lv' := [(5, .int (f_X8_turn (f_X8_xOf nw k n) (f_X8_yOf nw k n) (f_X8_xOf nw (k + 1) n) (f_X8_yOf nw (k + 1) n) (f_X8_xOf nw j n) (f_X8_yOf nw j n))), (4, .int (f_X8_turn (f_X8_xOf nw j n) (f_X8_yOf nw j n) (f_X8_xOf nw (j + 1) n) (f_X8_yOf nw (j + 1) n) (f_X8_xOf nw (k + 1) n) (f_X8_yOf nw (k + 1) n))), (3, .int (f_X8_turn (f_X8_xOf nw j n) (f_X8_yOf nw j n) (f_X8_xOf nw (j + 1) n) (f_X8_yOf nw (j + 1) n) (f_X8_xOf nw k n) (f_X8_yOf nw k n))), (0, .ref ta), (1, .int (nI j)), (2, .int (nI k))]) hx hb dX8_doMeet_200 hl (by decide) rfl (fun ls hl9 => ?_)
          replace hl := hl9
          clear hl9
          refine lv_aload_n hx hb dX8_doMeet_202 rfl (lv_at hl 3 rfl) ?_
          refine lv_iload_n hx hb dX8_doMeet_203 rfl (lv_at hl 5 rfl) ?_
          refine yk_i [0, 1] (va_runV (As := [.int (nI k)]) (rest := []) ⟨hx, hb, hml, hown, hts⟩ (c_X8_xOf l D cy ta m_now m_undone m_slots m_slotKind m_hasSlot m_sheetBits m_sheetSize m_sheets m_fresh m_rootWhich m_signs m_atNought m_change m_table m_carried nw u fi aa bb dd ro db mn k n hn12 hn hn0 (by omega) H.size) (cwV 1 hts gX8_doMeet_X8_xOf rfl rfl rfl hv_X8_xOf (yk_room hRf hRl rfl rfl)) (yk_pv (q := (RX8, TX8, 23)) hG hA hS hK hP hD [0, 1] (by decide +kernel) rfl rfl rfl) rfl rfl hl.1 rfl (lv_room (Nat.le_of_ble_eq_true rfl)) dX8_doMeet_204 ⟨Nat.zero_le _, Nat.zero_le _⟩) hP hD hS hA rfl (Eq.trans (b := [ta, m_now]) rfl rfl) (fun H locs hP9 hD9 hS9 => ?_)
          replace hP : va_P D vwCl [(ta, .inr (8, [.ref m_now, .ref m_undone, .ref m_slots, .ref m_slotKind, .ref m_hasSlot, .ref m_sheetBits, .ref m_sheetSize, .ref m_sheets, .int (nI u), .int fi, .ref m_fresh, .long aa, .long bb, .long dd, .int (nI ro), .ref m_rootWhich, .int db, .ref m_signs, .ref m_atNought, .int (nI mn), .ref m_change, .ref m_table, .ref m_carried])), (m_now, .inl (cy 0, 29, .inl nw))] H := hP9
          replace hD : va_D A [(ta, .inr (8, [.ref m_now, .ref m_undone, .ref m_slots, .ref m_slotKind, .ref m_hasSlot, .ref m_sheetBits, .ref m_sheetSize, .ref m_sheets, .int (nI u), .int fi, .ref m_fresh, .long aa, .long bb, .long dd, .int (nI ro), .ref m_rootWhich, .int db, .ref m_signs, .ref m_atNought, .int (nI mn), .ref m_change, .ref m_table, .ref m_carried])), (m_now, .inl (cy 0, 29, .inl nw))] := hD9
          replace hS := hS9
          clear hP9 hD9 hS9
          refine lv_aload_n hx hb dX8_doMeet_207 rfl (lv_at hl 3 rfl) ?_
          refine lv_iload_n hx hb dX8_doMeet_208 rfl (lv_at hl 5 rfl) ?_
          refine yk_i [0, 1] (va_runV (As := [.int (nI k)]) (rest := [.int (f_X8_xOf nw k n)]) ⟨hx, hb, hml, hown, hts⟩ (c_X8_yOf l D cy ta m_now m_undone m_slots m_slotKind m_hasSlot m_sheetBits m_sheetSize m_sheets m_fresh m_rootWhich m_signs m_atNought m_change m_table m_carried nw u fi aa bb dd ro db mn k n hn12 hn hn0 (by omega) H.size) (cwV 1 hts gX8_doMeet_X8_yOf rfl rfl rfl hv_X8_yOf (yk_room hRf hRl rfl rfl)) (yk_pv (q := (RX8, TX8, 23)) hG hA hS hK hP hD [0, 1] (by decide +kernel) rfl rfl rfl) rfl rfl hl.1 rfl (lv_room (Nat.le_of_ble_eq_true rfl)) dX8_doMeet_209 ⟨Nat.zero_le _, Nat.zero_le _⟩) hP hD hS hA rfl (Eq.trans (b := [ta, m_now]) rfl rfl) (fun H locs hP9 hD9 hS9 => ?_)
          replace hP : va_P D vwCl [(ta, .inr (8, [.ref m_now, .ref m_undone, .ref m_slots, .ref m_slotKind, .ref m_hasSlot, .ref m_sheetBits, .ref m_sheetSize, .ref m_sheets, .int (nI u), .int fi, .ref m_fresh, .long aa, .long bb, .long dd, .int (nI ro), .ref m_rootWhich, .int db, .ref m_signs, .ref m_atNought, .int (nI mn), .ref m_change, .ref m_table, .ref m_carried])), (m_now, .inl (cy 0, 29, .inl nw))] H := hP9
          replace hD : va_D A [(ta, .inr (8, [.ref m_now, .ref m_undone, .ref m_slots, .ref m_slotKind, .ref m_hasSlot, .ref m_sheetBits, .ref m_sheetSize, .ref m_sheets, .int (nI u), .int fi, .ref m_fresh, .long aa, .long bb, .long dd, .int (nI ro), .ref m_rootWhich, .int db, .ref m_signs, .ref m_atNought, .int (nI mn), .ref m_change, .ref m_table, .ref m_carried])), (m_now, .inl (cy 0, 29, .inl nw))] := hD9
          replace hS := hS9
          clear hP9 hD9 hS9
          refine lv_aload_n hx hb dX8_doMeet_212 rfl (lv_at hl 3 rfl) ?_
          refine lv_iload_n hx hb dX8_doMeet_213 rfl (lv_at hl 5 rfl) ?_
          refine lv_iconst (v := 1) hx hb dX8_doMeet_214 (by decide) ?_
          refine lv_iadd hx hb dX8_doMeet_215 ?_
          refine yk_ti (y := nI (k + 1)) (nI_add k 1) ?_
          refine yk_i [0, 1] (va_runV (As := [.int (nI (k + 1))]) (rest := [.int (f_X8_yOf nw k n), .int (f_X8_xOf nw k n)]) ⟨hx, hb, hml, hown, hts⟩ (c_X8_xOf l D cy ta m_now m_undone m_slots m_slotKind m_hasSlot m_sheetBits m_sheetSize m_sheets m_fresh m_rootWhich m_signs m_atNought m_change m_table m_carried nw u fi aa bb dd ro db mn (k + 1) n hn12 hn hn0 (by omega) H.size) (cwV 1 hts gX8_doMeet_X8_xOf rfl rfl rfl hv_X8_xOf (yk_room hRf hRl rfl rfl)) (yk_pv (q := (RX8, TX8, 23)) hG hA hS hK hP hD [0, 1] (by decide +kernel) rfl rfl rfl) rfl rfl hl.1 rfl (lv_room (Nat.le_of_ble_eq_true rfl)) dX8_doMeet_216 ⟨Nat.zero_le _, Nat.zero_le _⟩) hP hD hS hA rfl (Eq.trans (b := [ta, m_now]) rfl rfl) (fun H locs hP9 hD9 hS9 => ?_)
          replace hP : va_P D vwCl [(ta, .inr (8, [.ref m_now, .ref m_undone, .ref m_slots, .ref m_slotKind, .ref m_hasSlot, .ref m_sheetBits, .ref m_sheetSize, .ref m_sheets, .int (nI u), .int fi, .ref m_fresh, .long aa, .long bb, .long dd, .int (nI ro), .ref m_rootWhich, .int db, .ref m_signs, .ref m_atNought, .int (nI mn), .ref m_change, .ref m_table, .ref m_carried])), (m_now, .inl (cy 0, 29, .inl nw))] H := hP9
          replace hD : va_D A [(ta, .inr (8, [.ref m_now, .ref m_undone, .ref m_slots, .ref m_slotKind, .ref m_hasSlot, .ref m_sheetBits, .ref m_sheetSize, .ref m_sheets, .int (nI u), .int fi, .ref m_fresh, .long aa, .long bb, .long dd, .int (nI ro), .ref m_rootWhich, .int db, .ref m_signs, .ref m_atNought, .int (nI mn), .ref m_change, .ref m_table, .ref m_carried])), (m_now, .inl (cy 0, 29, .inl nw))] := hD9
          replace hS := hS9
          clear hP9 hD9 hS9
          refine lv_aload_n hx hb dX8_doMeet_219 rfl (lv_at hl 3 rfl) ?_
          refine lv_iload_n hx hb dX8_doMeet_220 rfl (lv_at hl 5 rfl) ?_
          refine lv_iconst (v := 1) hx hb dX8_doMeet_221 (by decide) ?_
          refine lv_iadd hx hb dX8_doMeet_222 ?_
          refine yk_ti (y := nI (k + 1)) (nI_add k 1) ?_
          refine yk_i [0, 1] (va_runV (As := [.int (nI (k + 1))]) (rest := [.int (f_X8_xOf nw (k + 1) n), .int (f_X8_yOf nw k n), .int (f_X8_xOf nw k n)]) ⟨hx, hb, hml, hown, hts⟩ (c_X8_yOf l D cy ta m_now m_undone m_slots m_slotKind m_hasSlot m_sheetBits m_sheetSize m_sheets m_fresh m_rootWhich m_signs m_atNought m_change m_table m_carried nw u fi aa bb dd ro db mn (k + 1) n hn12 hn hn0 (by omega) H.size) (cwV 1 hts gX8_doMeet_X8_yOf rfl rfl rfl hv_X8_yOf (yk_room hRf hRl rfl rfl)) (yk_pv (q := (RX8, TX8, 23)) hG hA hS hK hP hD [0, 1] (by decide +kernel) rfl rfl rfl) rfl rfl hl.1 rfl (lv_room (Nat.le_of_ble_eq_true rfl)) dX8_doMeet_223 ⟨Nat.zero_le _, Nat.zero_le _⟩) hP hD hS hA rfl (Eq.trans (b := [ta, m_now]) rfl rfl) (fun H locs hP9 hD9 hS9 => ?_)
          replace hP : va_P D vwCl [(ta, .inr (8, [.ref m_now, .ref m_undone, .ref m_slots, .ref m_slotKind, .ref m_hasSlot, .ref m_sheetBits, .ref m_sheetSize, .ref m_sheets, .int (nI u), .int fi, .ref m_fresh, .long aa, .long bb, .long dd, .int (nI ro), .ref m_rootWhich, .int db, .ref m_signs, .ref m_atNought, .int (nI mn), .ref m_change, .ref m_table, .ref m_carried])), (m_now, .inl (cy 0, 29, .inl nw))] H := hP9
          replace hD : va_D A [(ta, .inr (8, [.ref m_now, .ref m_undone, .ref m_slots, .ref m_slotKind, .ref m_hasSlot, .ref m_sheetBits, .ref m_sheetSize, .ref m_sheets, .int (nI u), .int fi, .ref m_fresh, .long aa, .long bb, .long dd, .int (nI ro), .ref m_rootWhich, .int db, .ref m_signs, .ref m_atNought, .int (nI mn), .ref m_change, .ref m_table, .ref m_carried])), (m_now, .inl (cy 0, 29, .inl nw))] := hD9
          replace hS := hS9
          clear hP9 hD9 hS9
          refine lv_aload_n hx hb dX8_doMeet_226 rfl (lv_at hl 3 rfl) ?_
          refine lv_iload_n hx hb dX8_doMeet_227 rfl (lv_at hl 4 rfl) ?_
          refine lv_iconst (v := 1) hx hb dX8_doMeet_228 (by decide) ?_
          refine lv_iadd hx hb dX8_doMeet_229 ?_
          refine yk_ti (y := nI (j + 1)) (nI_add j 1) ?_
          refine yk_i [0, 1] (va_runV (As := [.int (nI (j + 1))]) (rest := [.int (f_X8_yOf nw (k + 1) n), .int (f_X8_xOf nw (k + 1) n), .int (f_X8_yOf nw k n), .int (f_X8_xOf nw k n)]) ⟨hx, hb, hml, hown, hts⟩ (c_X8_xOf l D cy ta m_now m_undone m_slots m_slotKind m_hasSlot m_sheetBits m_sheetSize m_sheets m_fresh m_rootWhich m_signs m_atNought m_change m_table m_carried nw u fi aa bb dd ro db mn (j + 1) n hn12 hn hn0 (by omega) H.size) (cwV 1 hts gX8_doMeet_X8_xOf rfl rfl rfl hv_X8_xOf (yk_room hRf hRl rfl rfl)) (yk_pv (q := (RX8, TX8, 23)) hG hA hS hK hP hD [0, 1] (by decide +kernel) rfl rfl rfl) rfl rfl hl.1 rfl (lv_room (Nat.le_of_ble_eq_true rfl)) dX8_doMeet_230 ⟨Nat.zero_le _, Nat.zero_le _⟩) hP hD hS hA rfl (Eq.trans (b := [ta, m_now]) rfl rfl) (fun H locs hP9 hD9 hS9 => ?_)
          replace hP : va_P D vwCl [(ta, .inr (8, [.ref m_now, .ref m_undone, .ref m_slots, .ref m_slotKind, .ref m_hasSlot, .ref m_sheetBits, .ref m_sheetSize, .ref m_sheets, .int (nI u), .int fi, .ref m_fresh, .long aa, .long bb, .long dd, .int (nI ro), .ref m_rootWhich, .int db, .ref m_signs, .ref m_atNought, .int (nI mn), .ref m_change, .ref m_table, .ref m_carried])), (m_now, .inl (cy 0, 29, .inl nw))] H := hP9
          replace hD : va_D A [(ta, .inr (8, [.ref m_now, .ref m_undone, .ref m_slots, .ref m_slotKind, .ref m_hasSlot, .ref m_sheetBits, .ref m_sheetSize, .ref m_sheets, .int (nI u), .int fi, .ref m_fresh, .long aa, .long bb, .long dd, .int (nI ro), .ref m_rootWhich, .int db, .ref m_signs, .ref m_atNought, .int (nI mn), .ref m_change, .ref m_table, .ref m_carried])), (m_now, .inl (cy 0, 29, .inl nw))] := hD9
          replace hS := hS9
          clear hP9 hD9 hS9
          refine lv_aload_n hx hb dX8_doMeet_233 rfl (lv_at hl 3 rfl) ?_
          refine lv_iload_n hx hb dX8_doMeet_234 rfl (lv_at hl 4 rfl) ?_
          refine lv_iconst (v := 1) hx hb dX8_doMeet_235 (by decide) ?_
          refine lv_iadd hx hb dX8_doMeet_236 ?_
          refine yk_ti (y := nI (j + 1)) (nI_add j 1) ?_
          refine yk_i [0, 1] (va_runV (As := [.int (nI (j + 1))]) (rest := [.int (f_X8_xOf nw (j + 1) n), .int (f_X8_yOf nw (k + 1) n), .int (f_X8_xOf nw (k + 1) n), .int (f_X8_yOf nw k n), .int (f_X8_xOf nw k n)]) ⟨hx, hb, hml, hown, hts⟩ (c_X8_yOf l D cy ta m_now m_undone m_slots m_slotKind m_hasSlot m_sheetBits m_sheetSize m_sheets m_fresh m_rootWhich m_signs m_atNought m_change m_table m_carried nw u fi aa bb dd ro db mn (j + 1) n hn12 hn hn0 (by omega) H.size) (cwV 1 hts gX8_doMeet_X8_yOf rfl rfl rfl hv_X8_yOf (yk_room hRf hRl rfl rfl)) (yk_pv (q := (RX8, TX8, 23)) hG hA hS hK hP hD [0, 1] (by decide +kernel) rfl rfl rfl) rfl rfl hl.1 rfl (lv_room (Nat.le_of_ble_eq_true rfl)) dX8_doMeet_237 ⟨Nat.zero_le _, Nat.zero_le _⟩) hP hD hS hA rfl (Eq.trans (b := [ta, m_now]) rfl rfl) (fun H locs hP9 hD9 hS9 => ?_)
          replace hP : va_P D vwCl [(ta, .inr (8, [.ref m_now, .ref m_undone, .ref m_slots, .ref m_slotKind, .ref m_hasSlot, .ref m_sheetBits, .ref m_sheetSize, .ref m_sheets, .int (nI u), .int fi, .ref m_fresh, .long aa, .long bb, .long dd, .int (nI ro), .ref m_rootWhich, .int db, .ref m_signs, .ref m_atNought, .int (nI mn), .ref m_change, .ref m_table, .ref m_carried])), (m_now, .inl (cy 0, 29, .inl nw))] H := hP9
          replace hD : va_D A [(ta, .inr (8, [.ref m_now, .ref m_undone, .ref m_slots, .ref m_slotKind, .ref m_hasSlot, .ref m_sheetBits, .ref m_sheetSize, .ref m_sheets, .int (nI u), .int fi, .ref m_fresh, .long aa, .long bb, .long dd, .int (nI ro), .ref m_rootWhich, .int db, .ref m_signs, .ref m_atNought, .int (nI mn), .ref m_change, .ref m_table, .ref m_carried])), (m_now, .inl (cy 0, 29, .inl nw))] := hD9
          replace hS := hS9
          clear hP9 hD9 hS9
          refine yk_i [] (va_runS (As := [.int (f_X8_xOf nw k n), .int (f_X8_yOf nw k n), .int (f_X8_xOf nw (k + 1) n), .int (f_X8_yOf nw (k + 1) n), .int (f_X8_xOf nw (j + 1) n), .int (f_X8_yOf nw (j + 1) n)]) (rest := []) ⟨hx, hb, hml, hown, hts⟩ (c_X8_turn l D cy (f_X8_xOf nw k n) (f_X8_yOf nw k n) (f_X8_xOf nw (k + 1) n) (f_X8_yOf nw (k + 1) n) (f_X8_xOf nw (j + 1) n) (f_X8_yOf nw (j + 1) n) H.size) (va_cwS 6 hts gX8_doMeet_X8_turn rfl rfl rfl hs_X8_turn (yk_room hRf hRl rfl rfl)) (yk_ps hG hA hS hK hP hD [] (by decide +kernel) rfl) rfl rfl hl.1 rfl (lv_room (Nat.le_of_ble_eq_true rfl)) dX8_doMeet_240 ⟨Nat.zero_le _, Nat.zero_le _⟩) hP hD hS hA rfl rfl (fun H locs hP9 hD9 hS9 => ?_)
          replace hP : va_P D vwCl [(ta, .inr (8, [.ref m_now, .ref m_undone, .ref m_slots, .ref m_slotKind, .ref m_hasSlot, .ref m_sheetBits, .ref m_sheetSize, .ref m_sheets, .int (nI u), .int fi, .ref m_fresh, .long aa, .long bb, .long dd, .int (nI ro), .ref m_rootWhich, .int db, .ref m_signs, .ref m_atNought, .int (nI mn), .ref m_change, .ref m_table, .ref m_carried])), (m_now, .inl (cy 0, 29, .inl nw))] H := hP9
          replace hD : va_D A [(ta, .inr (8, [.ref m_now, .ref m_undone, .ref m_slots, .ref m_slotKind, .ref m_hasSlot, .ref m_sheetBits, .ref m_sheetSize, .ref m_sheets, .int (nI u), .int fi, .ref m_fresh, .long aa, .long bb, .long dd, .int (nI ro), .ref m_rootWhich, .int db, .ref m_signs, .ref m_atNought, .int (nI mn), .ref m_change, .ref m_table, .ref m_carried])), (m_now, .inl (cy 0, 29, .inl nw))] := hD9
          replace hS := hS9
          clear hP9 hD9 hS9
          refine lv_istore (lv' := [(6, .int (f_X8_turn (f_X8_xOf nw k n) (f_X8_yOf nw k n) (f_X8_xOf nw (k + 1) n) (f_X8_yOf nw (k + 1) n) (f_X8_xOf nw (j + 1) n) (f_X8_yOf nw (j + 1) n))), (5, .int (f_X8_turn (f_X8_xOf nw k n) (f_X8_yOf nw k n) (f_X8_xOf nw (k + 1) n) (f_X8_yOf nw (k + 1) n) (f_X8_xOf nw j n) (f_X8_yOf nw j n))), (4, .int (f_X8_turn (f_X8_xOf nw j n) (f_X8_yOf nw j n) (f_X8_xOf nw (j + 1) n) (f_X8_yOf nw (j + 1) n) (f_X8_xOf nw (k + 1) n) (f_X8_yOf nw (k + 1) n))), (3, .int (f_X8_turn (f_X8_xOf nw j n) (f_X8_yOf nw j n) (f_X8_xOf nw (j + 1) n) (f_X8_yOf nw (j + 1) n) (f_X8_xOf nw k n) (f_X8_yOf nw k n))), (0, .ref ta), (1, .int (nI j)), (2, .int (nI k))]) hx hb dX8_doMeet_243 hl (by decide) rfl (fun ls hl9 => ?_)
          replace hl := hl9
          clear hl9
          refine lv_iload_n hx hb dX8_doMeet_245 rfl (lv_at hl 3 rfl) ?_
          refine lv_iload hx hb dX8_doMeet_246 (lv_at hl 2 rfl) ?_
          refine lv_imul hx hb dX8_doMeet_248 ?_
          have J8 : ∀ (v7 : Int32) (H : Heap) (locs : List Loc) (ls : Array Slot), v7 = (if 0 ≤ ((f_X8_turn (f_X8_xOf nw j n) (f_X8_yOf nw j n) (f_X8_xOf nw (j + 1) n) (f_X8_yOf nw (j + 1) n) (f_X8_xOf nw k n) (f_X8_yOf nw k n)) * (f_X8_turn (f_X8_xOf nw j n) (f_X8_yOf nw j n) (f_X8_xOf nw (j + 1) n) (f_X8_yOf nw (j + 1) n) (f_X8_xOf nw (k + 1) n) (f_X8_yOf nw (k + 1) n))) then 0 else (if 0 ≤ ((f_X8_turn (f_X8_xOf nw k n) (f_X8_yOf nw k n) (f_X8_xOf nw (k + 1) n) (f_X8_yOf nw (k + 1) n) (f_X8_xOf nw j n) (f_X8_yOf nw j n)) * (f_X8_turn (f_X8_xOf nw k n) (f_X8_yOf nw k n) (f_X8_xOf nw (k + 1) n) (f_X8_yOf nw (k + 1) n) (f_X8_xOf nw (j + 1) n) (f_X8_yOf nw (j + 1) n))) then 0 else 1)) → va_P D vwCl [(ta, .inr (8, [.ref m_now, .ref m_undone, .ref m_slots, .ref m_slotKind, .ref m_hasSlot, .ref m_sheetBits, .ref m_sheetSize, .ref m_sheets, .int (nI u), .int fi, .ref m_fresh, .long aa, .long bb, .long dd, .int (nI ro), .ref m_rootWhich, .int db, .ref m_signs, .ref m_atNought, .int (nI mn), .ref m_change, .ref m_table, .ref m_carried])), (m_now, .inl (cy 0, 29, .inl nw))] H → va_D A [(ta, .inr (8, [.ref m_now, .ref m_undone, .ref m_slots, .ref m_slotKind, .ref m_hasSlot, .ref m_sheetBits, .ref m_sheetSize, .ref m_sheets, .int (nI u), .int fi, .ref m_fresh, .long aa, .long bb, .long dd, .int (nI ro), .ref m_rootWhich, .int db, .ref m_signs, .ref m_atNought, .int (nI mn), .ref m_change, .ref m_table, .ref m_carried])), (m_now, .inl (cy 0, 29, .inl nw))] → va_S A s.heap H locs → lv_has ls 7 [(0, .ref ta), (1, .int (nI j)), (2, .int (nI k)), (3, .int (f_X8_turn (f_X8_xOf nw j n) (f_X8_yOf nw j n) (f_X8_xOf nw (j + 1) n) (f_X8_yOf nw (j + 1) n) (f_X8_xOf nw k n) (f_X8_yOf nw k n))), (4, .int (f_X8_turn (f_X8_xOf nw j n) (f_X8_yOf nw j n) (f_X8_xOf nw (j + 1) n) (f_X8_yOf nw (j + 1) n) (f_X8_xOf nw (k + 1) n) (f_X8_yOf nw (k + 1) n))), (5, .int (f_X8_turn (f_X8_xOf nw k n) (f_X8_yOf nw k n) (f_X8_xOf nw (k + 1) n) (f_X8_yOf nw (k + 1) n) (f_X8_xOf nw j n) (f_X8_yOf nw j n))), (6, .int (f_X8_turn (f_X8_xOf nw k n) (f_X8_yOf nw k n) (f_X8_xOf nw (k + 1) n) (f_X8_yOf nw (k + 1) n) (f_X8_xOf nw (j + 1) n) (f_X8_yOf nw (j + 1) n)))] → W p l e R s m args below meth c H locs 0 0 Q (F0 m 265 ls [.int v7]) := by
            clear hP hD hS hl
            intro v7 H locs ls ev7
            rw [ev7]
            clear ev7
            intro hP hD hS hl
            have hF : f_X8_doMeet nw j k n = (if 0 ≤ ((f_X8_turn (f_X8_xOf nw j n) (f_X8_yOf nw j n) (f_X8_xOf nw (j + 1) n) (f_X8_yOf nw (j + 1) n) (f_X8_xOf nw k n) (f_X8_yOf nw k n)) * (f_X8_turn (f_X8_xOf nw j n) (f_X8_yOf nw j n) (f_X8_xOf nw (j + 1) n) (f_X8_yOf nw (j + 1) n) (f_X8_xOf nw (k + 1) n) (f_X8_yOf nw (k + 1) n))) then 0 else (if 0 ≤ ((f_X8_turn (f_X8_xOf nw k n) (f_X8_yOf nw k n) (f_X8_xOf nw (k + 1) n) (f_X8_yOf nw (k + 1) n) (f_X8_xOf nw j n) (f_X8_yOf nw j n)) * (f_X8_turn (f_X8_xOf nw k n) (f_X8_yOf nw k n) (f_X8_xOf nw (k + 1) n) (f_X8_yOf nw (k + 1) n) (f_X8_xOf nw (j + 1) n) (f_X8_yOf nw (j + 1) n))) then 0 else 1)) := hF
            rw [hF] at hQ
            exact hQ _ _ _ _ dX8_doMeet_265 hP hS
          refine lv_if_ge (tgt := 264) hx hb dX8_doMeet_249 (by decide) (fun hc5 => ?_) (fun hc5 => ?_)
          · refine lv_iconst (v := 0) hx hb dX8_doMeet_264 (by decide) ?_
            exact J8 _ _ _ _ ((if_pos hc5).symm) hP hD hS (lv_sub hl [4, 5, 6, 3, 2, 1, 0] rfl)
          · refine lv_iload hx hb dX8_doMeet_252 (lv_at hl 1 rfl) ?_
            refine lv_iload hx hb dX8_doMeet_254 (lv_at hl 0 rfl) ?_
            refine lv_imul hx hb dX8_doMeet_256 ?_
            refine lv_if_ge (tgt := 264) hx hb dX8_doMeet_257 (by decide) (fun hc6 => ?_) (fun hc6 => ?_)
            · refine lv_iconst (v := 0) hx hb dX8_doMeet_264 (by decide) ?_
              exact J8 _ _ _ _ (((if_neg hc5).trans (if_pos hc6)).symm) hP hD hS (lv_sub hl [4, 5, 6, 3, 2, 1, 0] rfl)
            · refine lv_iconst (v := 1) hx hb dX8_doMeet_260 (by decide) ?_
              refine lv_goto (tgt := 265) hx hb dX8_doMeet_261 (by decide) ?_
              exact J8 _ _ _ _ (((if_neg hc5).trans (if_neg hc6)).symm) hP hD hS (lv_sub hl [4, 5, 6, 3, 2, 1, 0] rfl)
        · replace hF := hF.trans (if_neg hc4)
          refine lv_iconst (v := 1) hx hb dX8_doMeet_80 (by decide) ?_
          have hF : f_X8_doMeet nw j k n = 1 := hF
          rw [hF] at hQ
          exact hQ _ _ _ _ dX8_doMeet_81 hP hS
