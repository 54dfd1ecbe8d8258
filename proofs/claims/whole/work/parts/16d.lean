theorem hv_X8_sortAt : yX8_sortAt.cls = RX8 ∧ yX8_sortAt.cls ≠ "java/lang/invoke/MethodHandle" ∧ yX8_sortAt.cls ≠ "java/lang/invoke/VarHandle" ∧ (parseMethodDescriptor yX8_sortAt.desc).map (fun d => d.parameters.length) = some 2 := by decide +kernel
theorem hs_X8_sortAt : yX8_sortAt.cls ≠ "java/lang/invoke/MethodHandle" ∧ yX8_sortAt.cls ≠ "java/lang/invoke/VarHandle" ∧ (parseMethodDescriptor yX8_sortAt.desc).map (fun d => d.parameters.length) = some 2 := by decide +kernel
theorem hv_X8_corners : yX8_corners.cls = RX8 ∧ yX8_corners.cls ≠ "java/lang/invoke/MethodHandle" ∧ yX8_corners.cls ≠ "java/lang/invoke/VarHandle" ∧ (parseMethodDescriptor yX8_corners.desc).map (fun d => d.parameters.length) = some 0 := by decide +kernel
theorem hs_X8_corners : yX8_corners.cls ≠ "java/lang/invoke/MethodHandle" ∧ yX8_corners.cls ≠ "java/lang/invoke/VarHandle" ∧ (parseMethodDescriptor yX8_corners.desc).map (fun d => d.parameters.length) = some 0 := by decide +kernel
theorem hv_X8_xOf : yX8_xOf.cls = RX8 ∧ yX8_xOf.cls ≠ "java/lang/invoke/MethodHandle" ∧ yX8_xOf.cls ≠ "java/lang/invoke/VarHandle" ∧ (parseMethodDescriptor yX8_xOf.desc).map (fun d => d.parameters.length) = some 1 := by decide +kernel
theorem hs_X8_xOf : yX8_xOf.cls ≠ "java/lang/invoke/MethodHandle" ∧ yX8_xOf.cls ≠ "java/lang/invoke/VarHandle" ∧ (parseMethodDescriptor yX8_xOf.desc).map (fun d => d.parameters.length) = some 1 := by decide +kernel
theorem hv_X8_yOf : yX8_yOf.cls = RX8 ∧ yX8_yOf.cls ≠ "java/lang/invoke/MethodHandle" ∧ yX8_yOf.cls ≠ "java/lang/invoke/VarHandle" ∧ (parseMethodDescriptor yX8_yOf.desc).map (fun d => d.parameters.length) = some 1 := by decide +kernel
theorem hs_X8_yOf : yX8_yOf.cls ≠ "java/lang/invoke/MethodHandle" ∧ yX8_yOf.cls ≠ "java/lang/invoke/VarHandle" ∧ (parseMethodDescriptor yX8_yOf.desc).map (fun d => d.parameters.length) = some 1 := by decide +kernel
def f_X8_sortAt (nw : Nat → Int32) (px : Int32) (py : Int32) : Int32 := (if 0 ≤ (((f_X8_slopeAt nw px py 0 0) * (f_X8_slopeAt nw px py 1 1)) - ((f_X8_slopeAt nw px py 0 1) * (f_X8_slopeAt nw px py 1 0))) then (if (((f_X8_slopeAt nw px py 0 0) * (f_X8_slopeAt nw px py 1 1)) - ((f_X8_slopeAt nw px py 0 1) * (f_X8_slopeAt nw px py 1 0))) = 0 then 5 else (if ((f_X8_slopeAt nw px py 0 0) + (f_X8_slopeAt nw px py 1 1)) = 0 then 4 else (if (((f_X8_slopeAt nw px py 0 0) + (f_X8_slopeAt nw px py 1 1)) * ((f_X8_slopeAt nw px py 0 0) + (f_X8_slopeAt nw px py 1 1))) < (4 * (((f_X8_slopeAt nw px py 0 0) * (f_X8_slopeAt nw px py 1 1)) - ((f_X8_slopeAt nw px py 0 1) * (f_X8_slopeAt nw px py 1 0)))) then 3 else 2))) else 1)
set_option maxHeartbeats 400000000 in
set_option maxRecDepth 100000 in
theorem c_X8_sortAt (l : Launch) (D : va_G) (cy : Nat → ClassId) (ta : Nat) (m_now : Nat) (m_undone : Nat) (m_slots : Nat) (m_slotKind : Nat) (m_hasSlot : Nat) (m_sheetBits : Nat) (m_sheetSize : Nat) (m_sheets : Nat) (m_fresh : Nat) (m_rootWhich : Nat) (m_signs : Nat) (m_atNought : Nat) (m_change : Nat) (m_table : Nat) (m_carried : Nat) (nw : Nat → Int32) (u : Nat) (fi : Int32) (aa : Int64) (bb : Int64) (dd : Int64) (ro : Nat) (db : Int32) (mn : Nat) (px : Int32) (py : Int32) : yk_Ci l D vwCl (yk_ty cy) yX8_sortAt wsX8_sortAt 2 46 [.ref ta, .int px, .int py] [(ta, .inr (8, [.ref m_now, .ref m_undone, .ref m_slots, .ref m_slotKind, .ref m_hasSlot, .ref m_sheetBits, .ref m_sheetSize, .ref m_sheets, .int (nI u), .int fi, .ref m_fresh, .long aa, .long bb, .long dd, .int (nI ro), .ref m_rootWhich, .int db, .ref m_signs, .ref m_atNought, .int (nI mn), .ref m_change, .ref m_table, .ref m_carried])), (m_now, .inl (cy 0, 29, .inl nw))] (f_X8_sortAt nw px py) [(ta, .inr (8, [.ref m_now, .ref m_undone, .ref m_slots, .ref m_slotKind, .ref m_hasSlot, .ref m_sheetBits, .ref m_sheetSize, .ref m_sheets, .int (nI u), .int fi, .ref m_fresh, .long aa, .long bb, .long dd, .int (nI ro), .ref m_rootWhich, .int db, .ref m_signs, .ref m_atNought, .int (nI mn), .ref m_change, .ref m_table, .ref m_carried])), (m_now, .inl (cy 0, 29, .inl nw))] := by
  refine yk_eI (cc := cX8_sortAt) (maxL := 7) (by decide) rfl (Nat.le_of_ble_eq_true rfl) rfl ?_
  intro p e R s m args below meth c A Q ls H locs hx hb hml hown hts hRf hRl hA hK hG hP hD hS hl hQ
  have hP : va_P D vwCl [(ta, .inr (8, [.ref m_now, .ref m_undone, .ref m_slots, .ref m_slotKind, .ref m_hasSlot, .ref m_sheetBits, .ref m_sheetSize, .ref m_sheets, .int (nI u), .int fi, .ref m_fresh, .long aa, .long bb, .long dd, .int (nI ro), .ref m_rootWhich, .int db, .ref m_signs, .ref m_atNought, .int (nI mn), .ref m_change, .ref m_table, .ref m_carried])), (m_now, .inl (cy 0, 29, .inl nw))] H := hP
  have hl : lv_has ls 7 [(0, .ref ta), (1, .int px), (2, .int py)] := hl
  have hown : s.vm.findClass RX8 = some m.cls := hown
  have hF : (f_X8_sortAt nw px py) = (f_X8_sortAt nw px py) := rfl
  refine lv_aload_n hx hb dX8_sortAt_0 rfl (lv_at hl 0 rfl) ?_
  refine lv_iload_n hx hb dX8_sortAt_1 rfl (lv_at hl 1 rfl) ?_
  refine lv_iload_n hx hb dX8_sortAt_2 rfl (lv_at hl 2 rfl) ?_
  refine lv_iconst (v := 0) hx hb dX8_sortAt_3 (by decide) ?_
  refine lv_iconst (v := 0) hx hb dX8_sortAt_4 (by decide) ?_
  refine yk_i [0, 1] (va_runV (As := [.int px, .int py, .int 0, .int 0]) (rest := []) ⟨hx, hb, hml, hown, hts⟩ (c_X8_slopeAt l D cy ta m_now m_undone m_slots m_slotKind m_hasSlot m_sheetBits m_sheetSize m_sheets m_fresh m_rootWhich m_signs m_atNought m_change m_table m_carried nw u fi aa bb dd ro db mn px py 0 0 H.size) (cwV 4 hts gX8_sortAt_X8_slopeAt rfl rfl rfl hv_X8_slopeAt (yk_room hRf hRl rfl rfl)) (yk_pv (q := (RX8, TX8, 23)) hG hA hS hK hP hD [0, 1] (by decide +kernel) rfl rfl rfl) rfl rfl hl.1 rfl (lv_room (Nat.le_of_ble_eq_true rfl)) dX8_sortAt_5 ⟨Nat.zero_le _, Nat.zero_le _⟩) hP hD hS hA rfl (Eq.trans (b := [ta, m_now]) rfl rfl) (fun H locs hP9 hD9 hS9 => ?_)
  replace hP : va_P D vwCl [(ta, .inr (8, [.ref m_now, .ref m_undone, .ref m_slots, .ref m_slotKind, .ref m_hasSlot, .ref m_sheetBits, .ref m_sheetSize, .ref m_sheets, .int (nI u), .int fi, .ref m_fresh, .long aa, .long bb, .long dd, .int (nI ro), .ref m_rootWhich, .int db, .ref m_signs, .ref m_atNought, .int (nI mn), .ref m_change, .ref m_table, .ref m_carried])), (m_now, .inl (cy 0, 29, .inl nw))] H := hP9
  replace hD : va_D A [(ta, .inr (8, [.ref m_now, .ref m_undone, .ref m_slots, .ref m_slotKind, .ref m_hasSlot, .ref m_sheetBits, .ref m_sheetSize, .ref m_sheets, .int (nI u), .int fi, .ref m_fresh, .long aa, .long bb, .long dd, .int (nI ro), .ref m_rootWhich, .int db, .ref m_signs, .ref m_atNought, .int (nI mn), .ref m_change, .ref m_table, .ref m_carried])), (m_now, .inl (cy 0, 29, .inl nw))] := hD9
  replace hS := hS9
  clear hP9 hD9 hS9
  refine lv_istore_n (lv' := [(3, .int (f_X8_slopeAt nw px py 0 0)), (0, .ref ta), (1, .int px), (2, .int py)]) hx hb dX8_sortAt_8 rfl hl (by decide) rfl (fun ls hl9 => ?_)
  replace hl := hl9
  clear hl9
  refine lv_aload_n hx hb dX8_sortAt_9 rfl (lv_at hl 1 rfl) ?_
  refine lv_iload_n hx hb dX8_sortAt_10 rfl (lv_at hl 2 rfl) ?_
  refine lv_iload_n hx hb dX8_sortAt_11 rfl (lv_at hl 3 rfl) ?_
  refine lv_iconst (v := 1) hx hb dX8_sortAt_12 (by decide) ?_
  refine lv_iconst (v := 1) hx hb dX8_sortAt_13 (by decide) ?_
  refine yk_i [0, 1] (va_runV (As := [.int px, .int py, .int 1, .int 1]) (rest := []) ⟨hx, hb, hml, hown, hts⟩ (c_X8_slopeAt l D cy ta m_now m_undone m_slots m_slotKind m_hasSlot m_sheetBits m_sheetSize m_sheets m_fresh m_rootWhich m_signs m_atNought m_change m_table m_carried nw u fi aa bb dd ro db mn px py 1 1 H.size) (cwV 4 hts gX8_sortAt_X8_slopeAt rfl rfl rfl hv_X8_slopeAt (yk_room hRf hRl rfl rfl)) (yk_pv (q := (RX8, TX8, 23)) hG hA hS hK hP hD [0, 1] (by decide +kernel) rfl rfl rfl) rfl rfl hl.1 rfl (lv_room (Nat.le_of_ble_eq_true rfl)) dX8_sortAt_14 ⟨Nat.zero_le _, Nat.zero_le _⟩) hP hD hS hA rfl (Eq.trans (b := [ta, m_now]) rfl rfl) (fun H locs hP9 hD9 hS9 => ?_)
  replace hP : va_P D vwCl [(ta, .inr (8, [.ref m_now, .ref m_undone, .ref m_slots, .ref m_slotKind, .ref m_hasSlot, .ref m_sheetBits, .ref m_sheetSize, .ref m_sheets, .int (nI u), .int fi, .ref m_fresh, .long aa, .long bb, .long dd, .int (nI ro), .ref m_rootWhich, .int db, .ref m_signs, .ref m_atNought, .int (nI mn), .ref m_change, .ref m_table, .ref m_carried])), (m_now, .inl (cy 0, 29, .inl nw))] H := hP9
  replace hD : va_D A [(ta, .inr (8, [.ref m_now, .ref m_undone, .ref m_slots, .ref m_slotKind, .ref m_hasSlot, .ref m_sheetBits, .ref m_sheetSize, .ref m_sheets, .int (nI u), .int fi, .ref m_fresh, .long aa, .long bb, .long dd, .int (nI ro), .ref m_rootWhich, .int db, .ref m_signs, .ref m_atNought, .int (nI mn), .ref m_change, .ref m_table, .ref m_carried])), (m_now, .inl (cy 0, 29, .inl nw))] := hD9
  replace hS := hS9
  clear hP9 hD9 hS9
  refine lv_istore (lv' := [(4, .int (f_X8_slopeAt nw px py 1 1)), (3, .int (f_X8_slopeAt nw px py 0 0)), (0, .ref ta), (1, .int px), (2, .int py)]) hx hb dX8_sortAt_17 hl (by decide) rfl (fun ls hl9 => ?_)
  replace hl := hl9
  clear hl9
  refine lv_iload_n hx hb dX8_sortAt_19 rfl (lv_at hl 1 rfl) ?_
  refine lv_iload hx hb dX8_sortAt_20 (lv_at hl 0 rfl) ?_
  refine lv_imul hx hb dX8_sortAt_22 ?_
  refine lv_aload_n hx hb dX8_sortAt_23 rfl (lv_at hl 2 rfl) ?_
  refine lv_iload_n hx hb dX8_sortAt_24 rfl (lv_at hl 3 rfl) ?_
  refine lv_iload_n hx hb dX8_sortAt_25 rfl (lv_at hl 4 rfl) ?_
  refine lv_iconst (v := 0) hx hb dX8_sortAt_26 (by decide) ?_
  refine lv_iconst (v := 1) hx hb dX8_sortAt_27 (by decide) ?_
  refine yk_i [0, 1] (va_runV (As := [.int px, .int py, .int 0, .int 1]) (rest := [.int ((f_X8_slopeAt nw px py 0 0) * (f_X8_slopeAt nw px py 1 1))]) ⟨hx, hb, hml, hown, hts⟩ (c_X8_slopeAt l D cy ta m_now m_undone m_slots m_slotKind m_hasSlot m_sheetBits m_sheetSize m_sheets m_fresh m_rootWhich m_signs m_atNought m_change m_table m_carried nw u fi aa bb dd ro db mn px py 0 1 H.size) (cwV 4 hts gX8_sortAt_X8_slopeAt rfl rfl rfl hv_X8_slopeAt (yk_room hRf hRl rfl rfl)) (yk_pv (q := (RX8, TX8, 23)) hG hA hS hK hP hD [0, 1] (by decide +kernel) rfl rfl rfl) rfl rfl hl.1 rfl (lv_room (Nat.le_of_ble_eq_true rfl)) dX8_sortAt_28 ⟨Nat.zero_le _, Nat.zero_le _⟩) hP hD hS hA rfl (Eq.trans (b := [ta, m_now]) rfl rfl) (fun H locs hP9 hD9 hS9 => ?_)
  replace hP : va_P D vwCl [(ta, .inr (8, [.ref m_now, .ref m_undone, .ref m_slots, .ref m_slotKind, .ref m_hasSlot, .ref m_sheetBits, .ref m_sheetSize, .ref m_sheets, .int (nI u), .int fi, .ref m_fresh, .long aa, .long bb, .long dd, .int (nI ro), .ref m_rootWhich, .int db, .ref m_signs, .ref m_atNought, .int (nI mn), .ref m_change, .ref m_table, .ref m_carried])), (m_now, .inl (cy 0, 29, .inl nw))] H := hP9
  replace hD : va_D A [(ta, .inr (8, [.ref m_now, .ref m_undone, .ref m_slots, .ref m_slotKind, .ref m_hasSlot, .ref m_sheetBits, .ref m_sheetSize, .ref m_sheets, .int (nI u), .int fi, .ref m_fresh, .long aa, .long bb, .long dd, .int (nI ro), .ref m_rootWhich, .int db, .ref m_signs, .ref m_atNought, .int (nI mn), .ref m_change, .ref m_table, .ref m_carried])), (m_now, .inl (cy 0, 29, .inl nw))] := hD9
  replace hS := hS9
  clear hP9 hD9 hS9
  refine lv_aload_n hx hb dX8_sortAt_31 rfl (lv_at hl 2 rfl) ?_
  refine lv_iload_n hx hb dX8_sortAt_32 rfl (lv_at hl 3 rfl) ?_
  refine lv_iload_n hx hb dX8_sortAt_33 rfl (lv_at hl 4 rfl) ?_
  refine lv_iconst (v := 1) hx hb dX8_sortAt_34 (by decide) ?_
  refine lv_iconst (v := 0) hx hb dX8_sortAt_35 (by decide) ?_
  refine yk_i [0, 1] (va_runV (As := [.int px, .int py, .int 1, .int 0]) (rest := [.int (f_X8_slopeAt nw px py 0 1), .int ((f_X8_slopeAt nw px py 0 0) * (f_X8_slopeAt nw px py 1 1))]) ⟨hx, hb, hml, hown, hts⟩ (c_X8_slopeAt l D cy ta m_now m_undone m_slots m_slotKind m_hasSlot m_sheetBits m_sheetSize m_sheets m_fresh m_rootWhich m_signs m_atNought m_change m_table m_carried nw u fi aa bb dd ro db mn px py 1 0 H.size) (cwV 4 hts gX8_sortAt_X8_slopeAt rfl rfl rfl hv_X8_slopeAt (yk_room hRf hRl rfl rfl)) (yk_pv (q := (RX8, TX8, 23)) hG hA hS hK hP hD [0, 1] (by decide +kernel) rfl rfl rfl) rfl rfl hl.1 rfl (lv_room (Nat.le_of_ble_eq_true rfl)) dX8_sortAt_36 ⟨Nat.zero_le _, Nat.zero_le _⟩) hP hD hS hA rfl (Eq.trans (b := [ta, m_now]) rfl rfl) (fun H locs hP9 hD9 hS9 => ?_)
  replace hP : va_P D vwCl [(ta, .inr (8, [.ref m_now, .ref m_undone, .ref m_slots, .ref m_slotKind, .ref m_hasSlot, .ref m_sheetBits, .ref m_sheetSize, .ref m_sheets, .int (nI u), .int fi, .ref m_fresh, .long aa, .long bb, .long dd, .int (nI ro), .ref m_rootWhich, .int db, .ref m_signs, .ref m_atNought, .int (nI mn), .ref m_change, .ref m_table, .ref m_carried])), (m_now, .inl (cy 0, 29, .inl nw))] H := hP9
  replace hD : va_D A [(ta, .inr (8, [.ref m_now, .ref m_undone, .ref m_slots, .ref m_slotKind, .ref m_hasSlot, .ref m_sheetBits, .ref m_sheetSize, .ref m_sheets, .int (nI u), .int fi, .ref m_fresh, .long aa, .long bb, .long dd, .int (nI ro), .ref m_rootWhich, .int db, .ref m_signs, .ref m_atNought, .int (nI mn), .ref m_change, .ref m_table, .ref m_carried])), (m_now, .inl (cy 0, 29, .inl nw))] := hD9
  replace hS := hS9
  clear hP9 hD9 hS9
  refine lv_imul hx hb dX8_sortAt_39 ?_
  refine lv_isub hx hb dX8_sortAt_40 ?_
  refine lv_istore (lv' := [(5, .int (((f_X8_slopeAt nw px py 0 0) * (f_X8_slopeAt nw px py 1 1)) - ((f_X8_slopeAt nw px py 0 1) * (f_X8_slopeAt nw px py 1 0)))), (4, .int (f_X8_slopeAt nw px py 1 1)), (3, .int (f_X8_slopeAt nw px py 0 0)), (0, .ref ta), (1, .int px), (2, .int py)]) hx hb dX8_sortAt_41 hl (by decide) rfl (fun ls hl9 => ?_)
  replace hl := hl9
  clear hl9
  refine lv_iload_n hx hb dX8_sortAt_43 rfl (lv_at hl 2 rfl) ?_
  refine lv_iload hx hb dX8_sortAt_44 (lv_at hl 1 rfl) ?_
  refine lv_iadd hx hb dX8_sortAt_46 ?_
  refine lv_istore (lv' := [(6, .int ((f_X8_slopeAt nw px py 0 0) + (f_X8_slopeAt nw px py 1 1))), (5, .int (((f_X8_slopeAt nw px py 0 0) * (f_X8_slopeAt nw px py 1 1)) - ((f_X8_slopeAt nw px py 0 1) * (f_X8_slopeAt nw px py 1 0)))), (4, .int (f_X8_slopeAt nw px py 1 1)), (3, .int (f_X8_slopeAt nw px py 0 0)), (0, .ref ta), (1, .int px), (2, .int py)]) hx hb dX8_sortAt_47 hl (by decide) rfl (fun ls hl9 => ?_)
  replace hl := hl9
  clear hl9
  refine lv_iload hx hb dX8_sortAt_49 (lv_at hl 1 rfl) ?_
  have J6 : ∀ (v5 : Int32) (H : Heap) (locs : List Loc) (ls : Array Slot), v5 = (if 0 ≤ (((f_X8_slopeAt nw px py 0 0) * (f_X8_slopeAt nw px py 1 1)) - ((f_X8_slopeAt nw px py 0 1) * (f_X8_slopeAt nw px py 1 0))) then (if (((f_X8_slopeAt nw px py 0 0) * (f_X8_slopeAt nw px py 1 1)) - ((f_X8_slopeAt nw px py 0 1) * (f_X8_slopeAt nw px py 1 0))) = 0 then 5 else (if ((f_X8_slopeAt nw px py 0 0) + (f_X8_slopeAt nw px py 1 1)) = 0 then 4 else (if (((f_X8_slopeAt nw px py 0 0) + (f_X8_slopeAt nw px py 1 1)) * ((f_X8_slopeAt nw px py 0 0) + (f_X8_slopeAt nw px py 1 1))) < (4 * (((f_X8_slopeAt nw px py 0 0) * (f_X8_slopeAt nw px py 1 1)) - ((f_X8_slopeAt nw px py 0 1) * (f_X8_slopeAt nw px py 1 0)))) then 3 else 2))) else 1) → va_P D vwCl [(ta, .inr (8, [.ref m_now, .ref m_undone, .ref m_slots, .ref m_slotKind, .ref m_hasSlot, .ref m_sheetBits, .ref m_sheetSize, .ref m_sheets, .int (nI u), .int fi, .ref m_fresh, .long aa, .long bb, .long dd, .int (nI ro), .ref m_rootWhich, .int db, .ref m_signs, .ref m_atNought, .int (nI mn), .ref m_change, .ref m_table, .ref m_carried])), (m_now, .inl (cy 0, 29, .inl nw))] H → va_D A [(ta, .inr (8, [.ref m_now, .ref m_undone, .ref m_slots, .ref m_slotKind, .ref m_hasSlot, .ref m_sheetBits, .ref m_sheetSize, .ref m_sheets, .int (nI u), .int fi, .ref m_fresh, .long aa, .long bb, .long dd, .int (nI ro), .ref m_rootWhich, .int db, .ref m_signs, .ref m_atNought, .int (nI mn), .ref m_change, .ref m_table, .ref m_carried])), (m_now, .inl (cy 0, 29, .inl nw))] → va_S A s.heap H locs → lv_has ls 7 [(0, .ref ta), (1, .int px), (2, .int py), (3, .int (f_X8_slopeAt nw px py 0 0)), (4, .int (f_X8_slopeAt nw px py 1 1)), (5, .int (((f_X8_slopeAt nw px py 0 0) * (f_X8_slopeAt nw px py 1 1)) - ((f_X8_slopeAt nw px py 0 1) * (f_X8_slopeAt nw px py 1 0)))), (6, .int ((f_X8_slopeAt nw px py 0 0) + (f_X8_slopeAt nw px py 1 1)))] → W p l e R s m args below meth c H locs 0 0 Q (F0 m 93 ls [.int v5]) := by
    clear hP hD hS hl
    intro v5 H locs ls ev5
    rw [ev5]
    clear ev5
    intro hP hD hS hl
    have hF : f_X8_sortAt nw px py = (if 0 ≤ (((f_X8_slopeAt nw px py 0 0) * (f_X8_slopeAt nw px py 1 1)) - ((f_X8_slopeAt nw px py 0 1) * (f_X8_slopeAt nw px py 1 0))) then (if (((f_X8_slopeAt nw px py 0 0) * (f_X8_slopeAt nw px py 1 1)) - ((f_X8_slopeAt nw px py 0 1) * (f_X8_slopeAt nw px py 1 0))) = 0 then 5 else (if ((f_X8_slopeAt nw px py 0 0) + (f_X8_slopeAt nw px py 1 1)) = 0 then 4 else (if (((f_X8_slopeAt nw px py 0 0) + (f_X8_slopeAt nw px py 1 1)) * ((f_X8_slopeAt nw px py 0 0) + (f_X8_slopeAt nw px py 1 1))) < (4 * (((f_X8_slopeAt nw px py 0 0) * (f_X8_slopeAt nw px py 1 1)) - ((f_X8_slopeAt nw px py 0 1) * (f_X8_slopeAt nw px py 1 0)))) then 3 else 2))) else 1) := hF
    rw [hF] at hQ
    exact hQ _ _ _ _ dX8_sortAt_93 hP hS
  refine lv_if_ge (tgt := 58) hx hb dX8_sortAt_51 (by decide) (fun hc1 => ?_) (fun hc1 => ?_)
  · refine lv_iload hx hb dX8_sortAt_58 (lv_at hl 1 rfl) ?_
    refine lv_if_ne (tgt := 67) hx hb dX8_sortAt_60 (by decide) (fun hc2 => ?_) (fun hc2 => ?_)
    · refine lv_iload hx hb dX8_sortAt_67 (lv_at hl 0 rfl) ?_
      refine lv_if_ne (tgt := 76) hx hb dX8_sortAt_69 (by decide) (fun hc3 => ?_) (fun hc3 => ?_)
      · refine lv_iload hx hb dX8_sortAt_76 (lv_at hl 0 rfl) ?_
        refine lv_iload hx hb dX8_sortAt_78 (lv_at hl 0 rfl) ?_
        refine lv_imul hx hb dX8_sortAt_80 ?_
        refine lv_iconst (v := 4) hx hb dX8_sortAt_81 (by decide) ?_
        refine lv_iload hx hb dX8_sortAt_82 (lv_at hl 1 rfl) ?_
        refine lv_imul hx hb dX8_sortAt_84 ?_
        refine lv_icmp_lt (tgt := 92) hx hb dX8_sortAt_85 (by decide) (fun hc4 => ?_) (fun hc4 => ?_)
        · refine lv_iconst (v := 3) hx hb dX8_sortAt_92 (by decide) ?_
          exact J6 _ _ _ _ (((if_pos hc1).trans ((if_neg hc2).trans ((if_neg hc3).trans (if_pos hc4)))).symm) hP hD hS (lv_sub hl [4, 5, 6, 3, 2, 1, 0] rfl)
        · refine lv_iconst (v := 2) hx hb dX8_sortAt_88 (by decide) ?_
          refine lv_goto (tgt := 93) hx hb dX8_sortAt_89 (by decide) ?_
          exact J6 _ _ _ _ (((if_pos hc1).trans ((if_neg hc2).trans ((if_neg hc3).trans (if_neg hc4)))).symm) hP hD hS (lv_sub hl [4, 5, 6, 3, 2, 1, 0] rfl)
      · refine lv_iconst (v := 4) hx hb dX8_sortAt_72 (by decide) ?_
        refine lv_goto (tgt := 93) hx hb dX8_sortAt_73 (by decide) ?_
        exact J6 _ _ _ _ (((if_pos hc1).trans ((if_neg hc2).trans (if_pos hc3))).symm) hP hD hS (lv_sub hl [4, 5, 6, 3, 2, 1, 0] rfl)
    · refine lv_iconst (v := 5) hx hb dX8_sortAt_63 (by decide) ?_
      refine lv_goto (tgt := 93) hx hb dX8_sortAt_64 (by decide) ?_
      exact J6 _ _ _ _ (((if_pos hc1).trans (if_pos hc2)).symm) hP hD hS (lv_sub hl [4, 5, 6, 3, 2, 1, 0] rfl)
  · refine lv_iconst (v := 1) hx hb dX8_sortAt_54 (by decide) ?_
    refine lv_goto (tgt := 93) hx hb dX8_sortAt_55 (by decide) ?_
    exact J6 _ _ _ _ ((if_neg hc1).symm) hP hD hS (lv_sub hl [4, 5, 6, 3, 2, 1, 0] rfl)

theorem kX8_sort_0 : Cond.constant RX8 100 (-1000006) ∈ wsX8_sort := by decide +kernel
theorem kX8_sort_1 : Cond.constant RX8 68 (-1000001) ∈ wsX8_sort := by decide +kernel
def f_X8_sort (nw : Nat → Int32) (fi : Int32) (px : Int32) (py : Int32) : Int32 × Int32 := (if (f_X8_isPlace px py) = 0 then (((f_X8_found fi (-1000001)).1), ((f_X8_found fi (-1000001)).2)) else ((if (f_X8_isRest nw px py) = 0 then (f_X8_found fi (-1000006)).1 else (f_X8_sortAt nw px py)), (if (f_X8_isRest nw px py) = 0 then (f_X8_found fi (-1000006)).2 else fi)))
set_option maxHeartbeats 400000000 in
set_option maxRecDepth 100000 in
theorem c_X8_sort (l : Launch) (D : va_G) (cy : Nat → ClassId) (ta : Nat) (m_now : Nat) (m_undone : Nat) (m_slots : Nat) (m_slotKind : Nat) (m_hasSlot : Nat) (m_sheetBits : Nat) (m_sheetSize : Nat) (m_sheets : Nat) (m_fresh : Nat) (m_rootWhich : Nat) (m_signs : Nat) (m_atNought : Nat) (m_change : Nat) (m_table : Nat) (m_carried : Nat) (nw : Nat → Int32) (u : Nat) (fi : Int32) (aa : Int64) (bb : Int64) (dd : Int64) (ro : Nat) (db : Int32) (mn : Nat) (px : Int32) (py : Int32) : yk_Ci l D vwCl (yk_ty cy) yX8_sort wsX8_sort 3 72 [.ref ta, .int px, .int py] [(ta, .inr (8, [.ref m_now, .ref m_undone, .ref m_slots, .ref m_slotKind, .ref m_hasSlot, .ref m_sheetBits, .ref m_sheetSize, .ref m_sheets, .int (nI u), .int fi, .ref m_fresh, .long aa, .long bb, .long dd, .int (nI ro), .ref m_rootWhich, .int db, .ref m_signs, .ref m_atNought, .int (nI mn), .ref m_change, .ref m_table, .ref m_carried])), (m_now, .inl (cy 0, 29, .inl nw))] ((f_X8_sort nw fi px py).1) [(ta, .inr (8, [.ref m_now, .ref m_undone, .ref m_slots, .ref m_slotKind, .ref m_hasSlot, .ref m_sheetBits, .ref m_sheetSize, .ref m_sheets, .int (nI u), .int ((f_X8_sort nw fi px py).2), .ref m_fresh, .long aa, .long bb, .long dd, .int (nI ro), .ref m_rootWhich, .int db, .ref m_signs, .ref m_atNought, .int (nI mn), .ref m_change, .ref m_table, .ref m_carried])), (m_now, .inl (cy 0, 29, .inl nw))] := by
  refine yk_eI (cc := cX8_sort) (maxL := 3) (by decide) rfl (Nat.le_of_ble_eq_true rfl) rfl ?_
  intro p e R s m args below meth c A Q ls H locs hx hb hml hown hts hRf hRl hA hK hG hP hD hS hl hQ
  have hP : va_P D vwCl [(ta, .inr (8, [.ref m_now, .ref m_undone, .ref m_slots, .ref m_slotKind, .ref m_hasSlot, .ref m_sheetBits, .ref m_sheetSize, .ref m_sheets, .int (nI u), .int fi, .ref m_fresh, .long aa, .long bb, .long dd, .int (nI ro), .ref m_rootWhich, .int db, .ref m_signs, .ref m_atNought, .int (nI mn), .ref m_change, .ref m_table, .ref m_carried])), (m_now, .inl (cy 0, 29, .inl nw))] H := hP
  have hl : lv_has ls 3 [(0, .ref ta), (1, .int px), (2, .int py)] := hl
  have hown : s.vm.findClass RX8 = some m.cls := hown
  have hF : (f_X8_sort nw fi px py) = (f_X8_sort nw fi px py) := rfl
  refine lv_iload_n hx hb dX8_sort_0 rfl (lv_at hl 1 rfl) ?_
  refine lv_iload_n hx hb dX8_sort_1 rfl (lv_at hl 2 rfl) ?_
  refine yk_i [] (va_runS (As := [.int px, .int py]) (rest := []) ⟨hx, hb, hml, hown, hts⟩ (c_X8_isPlace l D cy px py H.size) (va_cwS 2 hts gX8_sort_X8_isPlace rfl rfl rfl hs_X8_isPlace (yk_room hRf hRl rfl rfl)) (yk_ps hG hA hS hK hP hD [] (by decide +kernel) rfl) rfl rfl hl.1 rfl (lv_room (Nat.le_of_ble_eq_true rfl)) dX8_sort_2 ⟨Nat.zero_le _, Nat.zero_le _⟩) hP hD hS hA rfl rfl (fun H locs hP9 hD9 hS9 => ?_)
  replace hP : va_P D vwCl [(ta, .inr (8, [.ref m_now, .ref m_undone, .ref m_slots, .ref m_slotKind, .ref m_hasSlot, .ref m_sheetBits, .ref m_sheetSize, .ref m_sheets, .int (nI u), .int fi, .ref m_fresh, .long aa, .long bb, .long dd, .int (nI ro), .ref m_rootWhich, .int db, .ref m_signs, .ref m_atNought, .int (nI mn), .ref m_change, .ref m_table, .ref m_carried])), (m_now, .inl (cy 0, 29, .inl nw))] H := hP9
  replace hD : va_D A [(ta, .inr (8, [.ref m_now, .ref m_undone, .ref m_slots, .ref m_slotKind, .ref m_hasSlot, .ref m_sheetBits, .ref m_sheetSize, .ref m_sheets, .int (nI u), .int fi, .ref m_fresh, .long aa, .long bb, .long dd, .int (nI ro), .ref m_rootWhich, .int db, .ref m_signs, .ref m_atNought, .int (nI mn), .ref m_change, .ref m_table, .ref m_carried])), (m_now, .inl (cy 0, 29, .inl nw))] := hD9
  replace hS := hS9
  clear hP9 hD9 hS9
  refine lv_if_ne (tgt := 15) hx hb dX8_sort_5 (by decide) (fun hc1 => ?_) (fun hc1 => ?_)
  · replace hF := hF.trans (if_neg hc1)
    refine lv_aload_n hx hb dX8_sort_15 rfl (lv_at hl 0 rfl) ?_
    refine lv_iload_n hx hb dX8_sort_16 rfl (lv_at hl 1 rfl) ?_
    refine lv_iload_n hx hb dX8_sort_17 rfl (lv_at hl 2 rfl) ?_
    refine yk_i [0, 1] (va_runV (As := [.int px, .int py]) (rest := []) ⟨hx, hb, hml, hown, hts⟩ (c_X8_isRest l D cy ta m_now m_undone m_slots m_slotKind m_hasSlot m_sheetBits m_sheetSize m_sheets m_fresh m_rootWhich m_signs m_atNought m_change m_table m_carried nw u fi aa bb dd ro db mn px py H.size) (cwV 2 hts gX8_sort_X8_isRest rfl rfl rfl hv_X8_isRest (yk_room hRf hRl rfl rfl)) (yk_pv (q := (RX8, TX8, 23)) hG hA hS hK hP hD [0, 1] (by decide +kernel) rfl rfl rfl) rfl rfl hl.1 rfl (lv_room (Nat.le_of_ble_eq_true rfl)) dX8_sort_18 ⟨Nat.zero_le _, Nat.zero_le _⟩) hP hD hS hA rfl (Eq.trans (b := [ta, m_now]) rfl rfl) (fun H locs hP9 hD9 hS9 => ?_)
    replace hP : va_P D vwCl [(ta, .inr (8, [.ref m_now, .ref m_undone, .ref m_slots, .ref m_slotKind, .ref m_hasSlot, .ref m_sheetBits, .ref m_sheetSize, .ref m_sheets, .int (nI u), .int fi, .ref m_fresh, .long aa, .long bb, .long dd, .int (nI ro), .ref m_rootWhich, .int db, .ref m_signs, .ref m_atNought, .int (nI mn), .ref m_change, .ref m_table, .ref m_carried])), (m_now, .inl (cy 0, 29, .inl nw))] H := hP9
    replace hD : va_D A [(ta, .inr (8, [.ref m_now, .ref m_undone, .ref m_slots, .ref m_slotKind, .ref m_hasSlot, .ref m_sheetBits, .ref m_sheetSize, .ref m_sheets, .int (nI u), .int fi, .ref m_fresh, .long aa, .long bb, .long dd, .int (nI ro), .ref m_rootWhich, .int db, .ref m_signs, .ref m_atNought, .int (nI mn), .ref m_change, .ref m_table, .ref m_carried])), (m_now, .inl (cy 0, 29, .inl nw))] := hD9
    replace hS := hS9
    clear hP9 hD9 hS9
    have J5 : ∀ (v3 : Int32) (v4 : Int32) (H : Heap) (locs : List Loc) (ls : Array Slot), v3 = (if (f_X8_isRest nw px py) = 0 then (f_X8_found fi (-1000006)).2 else fi) → v4 = (if (f_X8_isRest nw px py) = 0 then (f_X8_found fi (-1000006)).1 else (f_X8_sortAt nw px py)) → va_P D vwCl [(ta, .inr (8, [.ref m_now, .ref m_undone, .ref m_slots, .ref m_slotKind, .ref m_hasSlot, .ref m_sheetBits, .ref m_sheetSize, .ref m_sheets, .int (nI u), .int v3, .ref m_fresh, .long aa, .long bb, .long dd, .int (nI ro), .ref m_rootWhich, .int db, .ref m_signs, .ref m_atNought, .int (nI mn), .ref m_change, .ref m_table, .ref m_carried])), (m_now, .inl (cy 0, 29, .inl nw))] H → va_D A [(ta, .inr (8, [.ref m_now, .ref m_undone, .ref m_slots, .ref m_slotKind, .ref m_hasSlot, .ref m_sheetBits, .ref m_sheetSize, .ref m_sheets, .int (nI u), .int v3, .ref m_fresh, .long aa, .long bb, .long dd, .int (nI ro), .ref m_rootWhich, .int db, .ref m_signs, .ref m_atNought, .int (nI mn), .ref m_change, .ref m_table, .ref m_carried])), (m_now, .inl (cy 0, 29, .inl nw))] → va_S A s.heap H locs → lv_has ls 3 [(0, .ref ta), (1, .int px), (2, .int py)] → W p l e R s m args below meth c H locs 0 0 Q (F0 m 39 ls [.int v4]) := by
      clear hP hD hS hl
      intro v3 v4 H locs ls ev3 ev4
      rw [ev3, ev4]
      clear ev3
      clear ev4
      intro hP hD hS hl
      have hF : f_X8_sort nw fi px py = ((if (f_X8_isRest nw px py) = 0 then (f_X8_found fi (-1000006)).1 else (f_X8_sortAt nw px py)), (if (f_X8_isRest nw px py) = 0 then (f_X8_found fi (-1000006)).2 else fi)) := hF
      have hf0 := yk_fst hF
      have hg0 := yk_snd hF
      rw [hf0, hg0] at hQ
      exact hQ _ _ _ _ dX8_sort_39 hP hS
    refine lv_if_eq (tgt := 33) hx hb dX8_sort_21 (by decide) (fun hc2 => ?_) (fun hc2 => ?_)
    · refine lv_aload_n hx hb dX8_sort_33 rfl (lv_at hl 0 rfl) ?_
      refine lv_ldc (v := (-1000006)) hx hb hown (hts _ kX8_sort_0) dX8_sort_34 ?_
      refine yk_i [0] (va_runV (As := [.int (-1000006)]) (rest := []) ⟨hx, hb, hml, hown, hts⟩ (c_X8_found l D cy ta m_now m_undone m_slots m_slotKind m_hasSlot m_sheetBits m_sheetSize m_sheets m_fresh m_rootWhich m_signs m_atNought m_change m_table m_carried u fi aa bb dd ro db mn (-1000006) H.size) (cwV 1 hts gX8_sort_X8_found rfl rfl rfl hv_X8_found (yk_room hRf hRl rfl rfl)) (yk_pv (q := (RX8, TX8, 23)) hG hA hS hK hP hD [0] (by decide +kernel) rfl rfl rfl) rfl rfl hl.1 rfl (lv_room (Nat.le_of_ble_eq_true rfl)) dX8_sort_36 ⟨Nat.zero_le _, Nat.zero_le _⟩) hP hD hS hA rfl (Eq.trans (b := [ta]) rfl rfl) (fun H locs hP9 hD9 hS9 => ?_)
      replace hP : va_P D vwCl [(ta, .inr (8, [.ref m_now, .ref m_undone, .ref m_slots, .ref m_slotKind, .ref m_hasSlot, .ref m_sheetBits, .ref m_sheetSize, .ref m_sheets, .int (nI u), .int ((f_X8_found fi (-1000006)).2), .ref m_fresh, .long aa, .long bb, .long dd, .int (nI ro), .ref m_rootWhich, .int db, .ref m_signs, .ref m_atNought, .int (nI mn), .ref m_change, .ref m_table, .ref m_carried])), (m_now, .inl (cy 0, 29, .inl nw))] H := hP9
      replace hD : va_D A [(ta, .inr (8, [.ref m_now, .ref m_undone, .ref m_slots, .ref m_slotKind, .ref m_hasSlot, .ref m_sheetBits, .ref m_sheetSize, .ref m_sheets, .int (nI u), .int ((f_X8_found fi (-1000006)).2), .ref m_fresh, .long aa, .long bb, .long dd, .int (nI ro), .ref m_rootWhich, .int db, .ref m_signs, .ref m_atNought, .int (nI mn), .ref m_change, .ref m_table, .ref m_carried])), (m_now, .inl (cy 0, 29, .inl nw))] := hD9
      replace hS := hS9
      clear hP9 hD9 hS9
      exact J5 _ _ _ _ _ ((if_pos hc2).symm) ((if_pos hc2).symm) hP hD hS (lv_sub hl [0, 1, 2] rfl)
    · refine lv_aload_n hx hb dX8_sort_24 rfl (lv_at hl 0 rfl) ?_
      refine lv_iload_n hx hb dX8_sort_25 rfl (lv_at hl 1 rfl) ?_
      refine lv_iload_n hx hb dX8_sort_26 rfl (lv_at hl 2 rfl) ?_
      refine yk_i [0, 1] (va_runV (As := [.int px, .int py]) (rest := []) ⟨hx, hb, hml, hown, hts⟩ (c_X8_sortAt l D cy ta m_now m_undone m_slots m_slotKind m_hasSlot m_sheetBits m_sheetSize m_sheets m_fresh m_rootWhich m_signs m_atNought m_change m_table m_carried nw u fi aa bb dd ro db mn px py H.size) (cwV 2 hts gX8_sort_X8_sortAt rfl rfl rfl hv_X8_sortAt (yk_room hRf hRl rfl rfl)) (yk_pv (q := (RX8, TX8, 23)) hG hA hS hK hP hD [0, 1] (by decide +kernel) rfl rfl rfl) rfl rfl hl.1 rfl (lv_room (Nat.le_of_ble_eq_true rfl)) dX8_sort_27 ⟨Nat.zero_le _, Nat.zero_le _⟩) hP hD hS hA rfl (Eq.trans (b := [ta, m_now]) rfl rfl) (fun H locs hP9 hD9 hS9 => ?_)
      replace hP : va_P D vwCl [(ta, .inr (8, [.ref m_now, .ref m_undone, .ref m_slots, .ref m_slotKind, .ref m_hasSlot, .ref m_sheetBits, .ref m_sheetSize, .ref m_sheets, .int (nI u), .int fi, .ref m_fresh, .long aa, .long bb, .long dd, .int (nI ro), .ref m_rootWhich, .int db, .ref m_signs, .ref m_atNought, .int (nI mn), .ref m_change, .ref m_table, .ref m_carried])), (m_now, .inl (cy 0, 29, .inl nw))] H := hP9
      replace hD : va_D A [(ta, .inr (8, [.ref m_now, .ref m_undone, .ref m_slots, .ref m_slotKind, .ref m_hasSlot, .ref m_sheetBits, .ref m_sheetSize, .ref m_sheets, .int (nI u), .int fi, .ref m_fresh, .long aa, .long bb, .long dd, .int (nI ro), .ref m_rootWhich, .int db, .ref m_signs, .ref m_atNought, .int (nI mn), .ref m_change, .ref m_table, .ref m_carried])), (m_now, .inl (cy 0, 29, .inl nw))] := hD9
      replace hS := hS9
      clear hP9 hD9 hS9
      refine lv_goto (tgt := 39) hx hb dX8_sort_30 (by decide) ?_
      exact J5 _ _ _ _ _ ((if_neg hc2).symm) ((if_neg hc2).symm) hP hD hS (lv_sub hl [0, 1, 2] rfl)
  · replace hF := hF.trans (if_pos hc1)
    refine lv_aload_n hx hb dX8_sort_8 rfl (lv_at hl 0 rfl) ?_
    refine lv_ldc (v := (-1000001)) hx hb hown (hts _ kX8_sort_1) dX8_sort_9 ?_
    refine yk_i [0] (va_runV (As := [.int (-1000001)]) (rest := []) ⟨hx, hb, hml, hown, hts⟩ (c_X8_found l D cy ta m_now m_undone m_slots m_slotKind m_hasSlot m_sheetBits m_sheetSize m_sheets m_fresh m_rootWhich m_signs m_atNought m_change m_table m_carried u fi aa bb dd ro db mn (-1000001) H.size) (cwV 1 hts gX8_sort_X8_found rfl rfl rfl hv_X8_found (yk_room hRf hRl rfl rfl)) (yk_pv (q := (RX8, TX8, 23)) hG hA hS hK hP hD [0] (by decide +kernel) rfl rfl rfl) rfl rfl hl.1 rfl (lv_room (Nat.le_of_ble_eq_true rfl)) dX8_sort_11 ⟨Nat.zero_le _, Nat.zero_le _⟩) hP hD hS hA rfl (Eq.trans (b := [ta]) rfl rfl) (fun H locs hP9 hD9 hS9 => ?_)
    replace hP : va_P D vwCl [(ta, .inr (8, [.ref m_now, .ref m_undone, .ref m_slots, .ref m_slotKind, .ref m_hasSlot, .ref m_sheetBits, .ref m_sheetSize, .ref m_sheets, .int (nI u), .int ((f_X8_found fi (-1000001)).2), .ref m_fresh, .long aa, .long bb, .long dd, .int (nI ro), .ref m_rootWhich, .int db, .ref m_signs, .ref m_atNought, .int (nI mn), .ref m_change, .ref m_table, .ref m_carried])), (m_now, .inl (cy 0, 29, .inl nw))] H := hP9
    replace hD : va_D A [(ta, .inr (8, [.ref m_now, .ref m_undone, .ref m_slots, .ref m_slotKind, .ref m_hasSlot, .ref m_sheetBits, .ref m_sheetSize, .ref m_sheets, .int (nI u), .int ((f_X8_found fi (-1000001)).2), .ref m_fresh, .long aa, .long bb, .long dd, .int (nI ro), .ref m_rootWhich, .int db, .ref m_signs, .ref m_atNought, .int (nI mn), .ref m_change, .ref m_table, .ref m_carried])), (m_now, .inl (cy 0, 29, .inl nw))] := hD9
    replace hS := hS9
    clear hP9 hD9 hS9
    have hF : f_X8_sort nw fi px py = (((f_X8_found fi (-1000001)).1), ((f_X8_found fi (-1000001)).2)) := hF
    have hf0 := yk_fst hF
    have hg0 := yk_snd hF
    rw [hf0, hg0] at hQ
    exact hQ _ _ _ _ dX8_sort_14 hP hS

theorem kX8_corners_0 : Cond.fieldLink RX8 7 "FlowPlaneModel" "now" "[I" ∈ wsX8_corners := by decide +kernel
theorem uX8_corners_X8 : ∀ w ∈ u_ws RX8 TX8 23, w ∈ wsX8_corners := by decide +kernel
def f_X8_corners (nw : Nat → Int32) : Int32 := (nw 12)
set_option maxHeartbeats 400000000 in
set_option maxRecDepth 100000 in
theorem c_X8_corners (l : Launch) (D : va_G) (cy : Nat → ClassId) (ta : Nat) (m_now : Nat) (m_undone : Nat) (m_slots : Nat) (m_slotKind : Nat) (m_hasSlot : Nat) (m_sheetBits : Nat) (m_sheetSize : Nat) (m_sheets : Nat) (m_fresh : Nat) (m_rootWhich : Nat) (m_signs : Nat) (m_atNought : Nat) (m_change : Nat) (m_table : Nat) (m_carried : Nat) (nw : Nat → Int32) (u : Nat) (fi : Int32) (aa : Int64) (bb : Int64) (dd : Int64) (ro : Nat) (db : Int32) (mn : Nat) : yk_Ci l D vwCl (yk_ty cy) yX8_corners wsX8_corners 0 0 [.ref ta] [(ta, .inr (8, [.ref m_now, .ref m_undone, .ref m_slots, .ref m_slotKind, .ref m_hasSlot, .ref m_sheetBits, .ref m_sheetSize, .ref m_sheets, .int (nI u), .int fi, .ref m_fresh, .long aa, .long bb, .long dd, .int (nI ro), .ref m_rootWhich, .int db, .ref m_signs, .ref m_atNought, .int (nI mn), .ref m_change, .ref m_table, .ref m_carried])), (m_now, .inl (cy 0, 29, .inl nw))] (f_X8_corners nw) [(ta, .inr (8, [.ref m_now, .ref m_undone, .ref m_slots, .ref m_slotKind, .ref m_hasSlot, .ref m_sheetBits, .ref m_sheetSize, .ref m_sheets, .int (nI u), .int fi, .ref m_fresh, .long aa, .long bb, .long dd, .int (nI ro), .ref m_rootWhich, .int db, .ref m_signs, .ref m_atNought, .int (nI mn), .ref m_change, .ref m_table, .ref m_carried])), (m_now, .inl (cy 0, 29, .inl nw))] := by
  refine yk_eI (cc := cX8_corners) (maxL := 1) (by decide) rfl (Nat.le_of_ble_eq_true rfl) rfl ?_
  intro p e R s m args below meth c A Q ls H locs hx hb hml hown hts hRf hRl hA hK hG hP hD hS hl hQ
  have hP : va_P D vwCl [(ta, .inr (8, [.ref m_now, .ref m_undone, .ref m_slots, .ref m_slotKind, .ref m_hasSlot, .ref m_sheetBits, .ref m_sheetSize, .ref m_sheets, .int (nI u), .int fi, .ref m_fresh, .long aa, .long bb, .long dd, .int (nI ro), .ref m_rootWhich, .int db, .ref m_signs, .ref m_atNought, .int (nI mn), .ref m_change, .ref m_table, .ref m_carried])), (m_now, .inl (cy 0, 29, .inl nw))] H := hP
  have hl : lv_has ls 1 [(0, .ref ta)] := hl
  have hown : s.vm.findClass RX8 = some m.cls := hown
  have hF : (f_X8_corners nw) = (f_X8_corners nw) := rfl
  refine lv_aload_n hx hb dX8_corners_0 rfl (lv_at hl 0 rfl) ?_
  refine va_get (D := D) (ci := 8) (v := .ref m_now) (C := RX8) (T := TX8) (N := 23) hx hb hts uX8_corners_X8 hown hK hP 0 rfl rfl 0 (by decide) (hts _ kX8_corners_0) (fun _ h9 => h9) rfl dX8_corners_1 ?_
  refine lv_bipush (v := 12) hx hb dX8_corners_4 (by decide) ?_
  refine yk_ild hx hb hK hP 1 0 rfl rfl 12 (by omega) (by decide) dX8_corners_6 ?_
  have hF : f_X8_corners nw = (nw 12) := hF
  rw [hF] at hQ
  exact hQ _ _ _ _ dX8_corners_7 hP hS

theorem kX8_xOf_0 : Cond.fieldLink RX8 7 "FlowPlaneModel" "now" "[I" ∈ wsX8_xOf := by decide +kernel
theorem uX8_xOf_X8 : ∀ w ∈ u_ws RX8 TX8 23, w ∈ wsX8_xOf := by decide +kernel
def f_X8_xOf (nw : Nat → Int32) (k : Nat) (n : Nat) : Int32 := (nw (13 + (k % n)))
set_option maxHeartbeats 400000000 in
set_option maxRecDepth 100000 in
theorem c_X8_xOf (l : Launch) (D : va_G) (cy : Nat → ClassId) (ta : Nat) (m_now : Nat) (m_undone : Nat) (m_slots : Nat) (m_slotKind : Nat) (m_hasSlot : Nat) (m_sheetBits : Nat) (m_sheetSize : Nat) (m_sheets : Nat) (m_fresh : Nat) (m_rootWhich : Nat) (m_signs : Nat) (m_atNought : Nat) (m_change : Nat) (m_table : Nat) (m_carried : Nat) (nw : Nat → Int32) (u : Nat) (fi : Int32) (aa : Int64) (bb : Int64) (dd : Int64) (ro : Nat) (db : Int32) (mn : Nat) (k : Nat) (n : Nat) (hn12 : nw 12 = nI n) (hn : n ≤ 8) (hn0 : 0 < n) (hk : k < 64) : yk_Ci l D vwCl (yk_ty cy) yX8_xOf wsX8_xOf 1 20 [.ref ta, .int (nI k)] [(ta, .inr (8, [.ref m_now, .ref m_undone, .ref m_slots, .ref m_slotKind, .ref m_hasSlot, .ref m_sheetBits, .ref m_sheetSize, .ref m_sheets, .int (nI u), .int fi, .ref m_fresh, .long aa, .long bb, .long dd, .int (nI ro), .ref m_rootWhich, .int db, .ref m_signs, .ref m_atNought, .int (nI mn), .ref m_change, .ref m_table, .ref m_carried])), (m_now, .inl (cy 0, 29, .inl nw))] (f_X8_xOf nw k n) [(ta, .inr (8, [.ref m_now, .ref m_undone, .ref m_slots, .ref m_slotKind, .ref m_hasSlot, .ref m_sheetBits, .ref m_sheetSize, .ref m_sheets, .int (nI u), .int fi, .ref m_fresh, .long aa, .long bb, .long dd, .int (nI ro), .ref m_rootWhich, .int db, .ref m_signs, .ref m_atNought, .int (nI mn), .ref m_change, .ref m_table, .ref m_carried])), (m_now, .inl (cy 0, 29, .inl nw))] := by
  refine yk_eI (cc := cX8_xOf) (maxL := 2) (by decide) rfl (Nat.le_of_ble_eq_true rfl) rfl ?_
  intro p e R s m args below meth c A Q ls H locs hx hb hml hown hts hRf hRl hA hK hG hP hD hS hl hQ
  have hP : va_P D vwCl [(ta, .inr (8, [.ref m_now, .ref m_undone, .ref m_slots, .ref m_slotKind, .ref m_hasSlot, .ref m_sheetBits, .ref m_sheetSize, .ref m_sheets, .int (nI u), .int fi, .ref m_fresh, .long aa, .long bb, .long dd, .int (nI ro), .ref m_rootWhich, .int db, .ref m_signs, .ref m_atNought, .int (nI mn), .ref m_change, .ref m_table, .ref m_carried])), (m_now, .inl (cy 0, 29, .inl nw))] H := hP
  have hl : lv_has ls 2 [(0, .ref ta), (1, .int (nI k))] := hl
  have hown : s.vm.findClass RX8 = some m.cls := hown
  have hF : (f_X8_xOf nw k n) = (f_X8_xOf nw k n) := rfl
  refine lv_aload_n hx hb dX8_xOf_0 rfl (lv_at hl 0 rfl) ?_
  refine va_get (D := D) (ci := 8) (v := .ref m_now) (C := RX8) (T := TX8) (N := 23) hx hb hts uX8_xOf_X8 hown hK hP 0 rfl rfl 0 (by decide) (hts _ kX8_xOf_0) (fun _ h9 => h9) rfl dX8_xOf_1 ?_
  refine lv_bipush (v := 13) hx hb dX8_xOf_4 (by decide) ?_
  refine lv_iload_n hx hb dX8_xOf_6 rfl (lv_at hl 1 rfl) ?_
  refine lv_aload_n hx hb dX8_xOf_7 rfl (lv_at hl 0 rfl) ?_
  refine yk_i [0, 1] (va_runV (As := []) (rest := [.int (nI k), .int 13, .ref m_now]) ⟨hx, hb, hml, hown, hts⟩ (c_X8_corners l D cy ta m_now m_undone m_slots m_slotKind m_hasSlot m_sheetBits m_sheetSize m_sheets m_fresh m_rootWhich m_signs m_atNought m_change m_table m_carried nw u fi aa bb dd ro db mn H.size) (cwV 0 hts gX8_xOf_X8_corners rfl rfl rfl hv_X8_corners (yk_room hRf hRl rfl rfl)) (yk_pv (q := (RX8, TX8, 23)) hG hA hS hK hP hD [0, 1] (by decide +kernel) rfl rfl rfl) rfl rfl hl.1 rfl (lv_room (Nat.le_of_ble_eq_true rfl)) dX8_xOf_8 ⟨Nat.zero_le _, Nat.zero_le _⟩) hP hD hS hA rfl (Eq.trans (b := [ta, m_now]) rfl rfl) (fun H locs hP9 hD9 hS9 => ?_)
  replace hP : va_P D vwCl [(ta, .inr (8, [.ref m_now, .ref m_undone, .ref m_slots, .ref m_slotKind, .ref m_hasSlot, .ref m_sheetBits, .ref m_sheetSize, .ref m_sheets, .int (nI u), .int fi, .ref m_fresh, .long aa, .long bb, .long dd, .int (nI ro), .ref m_rootWhich, .int db, .ref m_signs, .ref m_atNought, .int (nI mn), .ref m_change, .ref m_table, .ref m_carried])), (m_now, .inl (cy 0, 29, .inl nw))] H := hP9
  replace hD : va_D A [(ta, .inr (8, [.ref m_now, .ref m_undone, .ref m_slots, .ref m_slotKind, .ref m_hasSlot, .ref m_sheetBits, .ref m_sheetSize, .ref m_sheets, .int (nI u), .int fi, .ref m_fresh, .long aa, .long bb, .long dd, .int (nI ro), .ref m_rootWhich, .int db, .ref m_signs, .ref m_atNought, .int (nI mn), .ref m_change, .ref m_table, .ref m_carried])), (m_now, .inl (cy 0, 29, .inl nw))] := hD9
  replace hS := hS9
  clear hP9 hD9 hS9
  refine yk_ti (y := nI n) (hn12) ?_
  refine lv_irem hx hb dX8_xOf_11 (nI_ne0 hn0 (by omega)) ?_
  refine yk_ti (y := nI (k % n)) (pk_rem (by omega) hn0 (by omega)) ?_
  refine lv_iadd hx hb dX8_xOf_12 ?_
  refine yk_ti (y := nI (13 + (k % n))) (nI_add 13 (k % n)) ?_
  have hmod := Nat.mod_lt k hn0
  refine yk_ild hx hb hK hP 1 0 rfl rfl (13 + (k % n)) (by omega) (by decide) dX8_xOf_13 ?_
  have hF : f_X8_xOf nw k n = (nw (13 + (k % n))) := hF
  rw [hF] at hQ
  exact hQ _ _ _ _ dX8_xOf_14 hP hS

theorem kX8_yOf_0 : Cond.fieldLink RX8 7 "FlowPlaneModel" "now" "[I" ∈ wsX8_yOf := by decide +kernel
theorem uX8_yOf_X8 : ∀ w ∈ u_ws RX8 TX8 23, w ∈ wsX8_yOf := by decide +kernel
def f_X8_yOf (nw : Nat → Int32) (k : Nat) (n : Nat) : Int32 := (nw (21 + (k % n)))
set_option maxHeartbeats 400000000 in
set_option maxRecDepth 100000 in
theorem c_X8_yOf (l : Launch) (D : va_G) (cy : Nat → ClassId) (ta : Nat) (m_now : Nat) (m_undone : Nat) (m_slots : Nat) (m_slotKind : Nat) (m_hasSlot : Nat) (m_sheetBits : Nat) (m_sheetSize : Nat) (m_sheets : Nat) (m_fresh : Nat) (m_rootWhich : Nat) (m_signs : Nat) (m_atNought : Nat) (m_change : Nat) (m_table : Nat) (m_carried : Nat) (nw : Nat → Int32) (u : Nat) (fi : Int32) (aa : Int64) (bb : Int64) (dd : Int64) (ro : Nat) (db : Int32) (mn : Nat) (k : Nat) (n : Nat) (hn12 : nw 12 = nI n) (hn : n ≤ 8) (hn0 : 0 < n) (hk : k < 64) : yk_Ci l D vwCl (yk_ty cy) yX8_yOf wsX8_yOf 1 20 [.ref ta, .int (nI k)] [(ta, .inr (8, [.ref m_now, .ref m_undone, .ref m_slots, .ref m_slotKind, .ref m_hasSlot, .ref m_sheetBits, .ref m_sheetSize, .ref m_sheets, .int (nI u), .int fi, .ref m_fresh, .long aa, .long bb, .long dd, .int (nI ro), .ref m_rootWhich, .int db, .ref m_signs, .ref m_atNought, .int (nI mn), .ref m_change, .ref m_table, .ref m_carried])), (m_now, .inl (cy 0, 29, .inl nw))] (f_X8_yOf nw k n) [(ta, .inr (8, [.ref m_now, .ref m_undone, .ref m_slots, .ref m_slotKind, .ref m_hasSlot, .ref m_sheetBits, .ref m_sheetSize, .ref m_sheets, .int (nI u), .int fi, .ref m_fresh, .long aa, .long bb, .long dd, .int (nI ro), .ref m_rootWhich, .int db, .ref m_signs, .ref m_atNought, .int (nI mn), .ref m_change, .ref m_table, .ref m_carried])), (m_now, .inl (cy 0, 29, .inl nw))] := by
  refine yk_eI (cc := cX8_yOf) (maxL := 2) (by decide) rfl (Nat.le_of_ble_eq_true rfl) rfl ?_
  intro p e R s m args below meth c A Q ls H locs hx hb hml hown hts hRf hRl hA hK hG hP hD hS hl hQ
  have hP : va_P D vwCl [(ta, .inr (8, [.ref m_now, .ref m_undone, .ref m_slots, .ref m_slotKind, .ref m_hasSlot, .ref m_sheetBits, .ref m_sheetSize, .ref m_sheets, .int (nI u), .int fi, .ref m_fresh, .long aa, .long bb, .long dd, .int (nI ro), .ref m_rootWhich, .int db, .ref m_signs, .ref m_atNought, .int (nI mn), .ref m_change, .ref m_table, .ref m_carried])), (m_now, .inl (cy 0, 29, .inl nw))] H := hP
  have hl : lv_has ls 2 [(0, .ref ta), (1, .int (nI k))] := hl
  have hown : s.vm.findClass RX8 = some m.cls := hown
  have hF : (f_X8_yOf nw k n) = (f_X8_yOf nw k n) := rfl
  refine lv_aload_n hx hb dX8_yOf_0 rfl (lv_at hl 0 rfl) ?_
  refine va_get (D := D) (ci := 8) (v := .ref m_now) (C := RX8) (T := TX8) (N := 23) hx hb hts uX8_yOf_X8 hown hK hP 0 rfl rfl 0 (by decide) (hts _ kX8_yOf_0) (fun _ h9 => h9) rfl dX8_yOf_1 ?_
  refine lv_bipush (v := 21) hx hb dX8_yOf_4 (by decide) ?_
  refine lv_iload_n hx hb dX8_yOf_6 rfl (lv_at hl 1 rfl) ?_
  refine lv_aload_n hx hb dX8_yOf_7 rfl (lv_at hl 0 rfl) ?_
  refine yk_i [0, 1] (va_runV (As := []) (rest := [.int (nI k), .int 21, .ref m_now]) ⟨hx, hb, hml, hown, hts⟩ (c_X8_corners l D cy ta m_now m_undone m_slots m_slotKind m_hasSlot m_sheetBits m_sheetSize m_sheets m_fresh m_rootWhich m_signs m_atNought m_change m_table m_carried nw u fi aa bb dd ro db mn H.size) (cwV 0 hts gX8_yOf_X8_corners rfl rfl rfl hv_X8_corners (yk_room hRf hRl rfl rfl)) (yk_pv (q := (RX8, TX8, 23)) hG hA hS hK hP hD [0, 1] (by decide +kernel) rfl rfl rfl) rfl rfl hl.1 rfl (lv_room (Nat.le_of_ble_eq_true rfl)) dX8_yOf_8 ⟨Nat.zero_le _, Nat.zero_le _⟩) hP hD hS hA rfl (Eq.trans (b := [ta, m_now]) rfl rfl) (fun H locs hP9 hD9 hS9 => ?_)
  replace hP : va_P D vwCl [(ta, .inr (8, [.ref m_now, .ref m_undone, .ref m_slots, .ref m_slotKind, .ref m_hasSlot, .ref m_sheetBits, .ref m_sheetSize, .ref m_sheets, .int (nI u), .int fi, .ref m_fresh, .long aa, .long bb, .long dd, .int (nI ro), .ref m_rootWhich, .int db, .ref m_signs, .ref m_atNought, .int (nI mn), .ref m_change, .ref m_table, .ref m_carried])), (m_now, .inl (cy 0, 29, .inl nw))] H := hP9
  replace hD : va_D A [(ta, .inr (8, [.ref m_now, .ref m_undone, .ref m_slots, .ref m_slotKind, .ref m_hasSlot, .ref m_sheetBits, .ref m_sheetSize, .ref m_sheets, .int (nI u), .int fi, .ref m_fresh, .long aa, .long bb, .long dd, .int (nI ro), .ref m_rootWhich, .int db, .ref m_signs, .ref m_atNought, .int (nI mn), .ref m_change, .ref m_table, .ref m_carried])), (m_now, .inl (cy 0, 29, .inl nw))] := hD9
  replace hS := hS9
  clear hP9 hD9 hS9
  refine yk_ti (y := nI n) (hn12) ?_
  refine lv_irem hx hb dX8_yOf_11 (nI_ne0 hn0 (by omega)) ?_
  refine yk_ti (y := nI (k % n)) (pk_rem (by omega) hn0 (by omega)) ?_
  refine lv_iadd hx hb dX8_yOf_12 ?_
  refine yk_ti (y := nI (21 + (k % n))) (nI_add 21 (k % n)) ?_
  have hmod := Nat.mod_lt k hn0
  refine yk_ild hx hb hK hP 1 0 rfl rfl (21 + (k % n)) (by omega) (by decide) dX8_yOf_13 ?_
  have hF : f_X8_yOf nw k n = (nw (21 + (k % n))) := hF
  rw [hF] at hQ
  exact hQ _ _ _ _ dX8_yOf_14 hP hS

theorem kX8_sorts_0 : Cond.constant RX8 68 (-1000001) ∈ wsX8_sorts := by decide +kernel
def l_X8_sorts_31 (nw : Nat → Int32) (fi : Int32) (px : Int32) (ki : Nat) (z2_21 : Int32) : Nat → Nat → Int32 → Int32
  | 0, kj, z2_31 => z2_31
  | fu_X8_sorts_31 + 1, kj, z2_31 => (if 6 < (nI kj - 6) then z2_31 else (l_X8_sorts_31 nw fi px ki z2_21 fu_X8_sorts_31 (kj + 1) (z2_31 + (if (f_X8_isRest nw (nI ki - 6) (nI kj - 6)) = 0 then 0 else (if (f_X8_sortAt nw (nI ki - 6) (nI kj - 6)) = px then 1 else 0)))))
def l_X8_sorts_21 (nw : Nat → Int32) (fi : Int32) (px : Int32) : Nat → Nat → Int32 → Int32
  | 0, ki, z2_21 => z2_21
  | fu_X8_sorts_21 + 1, ki, z2_21 => (if 6 < (nI ki - 6) then z2_21 else (l_X8_sorts_21 nw fi px fu_X8_sorts_21 (ki + 1) (l_X8_sorts_31 nw fi px ki z2_21 (13 + 1) 0 z2_21)))
def f_X8_sorts (nw : Nat → Int32) (fi : Int32) (px : Int32) : Int32 × Int32 := (if (f_X8_in px 1 5) = 0 then (((f_X8_found fi (-1000001)).1), ((f_X8_found fi (-1000001)).2)) else ((l_X8_sorts_21 nw fi px (13 + 1) 0 0), fi))
set_option maxHeartbeats 400000000 in
set_option maxRecDepth 100000 in
theorem c_X8_sorts (l : Launch) (D : va_G) (cy : Nat → ClassId) (ta : Nat) (m_now : Nat) (m_undone : Nat) (m_slots : Nat) (m_slotKind : Nat) (m_hasSlot : Nat) (m_sheetBits : Nat) (m_sheetSize : Nat) (m_sheets : Nat) (m_fresh : Nat) (m_rootWhich : Nat) (m_signs : Nat) (m_atNought : Nat) (m_change : Nat) (m_table : Nat) (m_carried : Nat) (nw : Nat → Int32) (u : Nat) (fi : Int32) (aa : Int64) (bb : Int64) (dd : Int64) (ro : Nat) (db : Int32) (mn : Nat) (px : Int32) : yk_Ci l D vwCl (yk_ty cy) yX8_sorts wsX8_sorts 3 72 [.ref ta, .int px] [(ta, .inr (8, [.ref m_now, .ref m_undone, .ref m_slots, .ref m_slotKind, .ref m_hasSlot, .ref m_sheetBits, .ref m_sheetSize, .ref m_sheets, .int (nI u), .int fi, .ref m_fresh, .long aa, .long bb, .long dd, .int (nI ro), .ref m_rootWhich, .int db, .ref m_signs, .ref m_atNought, .int (nI mn), .ref m_change, .ref m_table, .ref m_carried])), (m_now, .inl (cy 0, 29, .inl nw))] ((f_X8_sorts nw fi px).1) [(ta, .inr (8, [.ref m_now, .ref m_undone, .ref m_slots, .ref m_slotKind, .ref m_hasSlot, .ref m_sheetBits, .ref m_sheetSize, .ref m_sheets, .int (nI u), .int ((f_X8_sorts nw fi px).2), .ref m_fresh, .long aa, .long bb, .long dd, .int (nI ro), .ref m_rootWhich, .int db, .ref m_signs, .ref m_atNought, .int (nI mn), .ref m_change, .ref m_table, .ref m_carried])), (m_now, .inl (cy 0, 29, .inl nw))] := by
  refine yk_eI (cc := cX8_sorts) (maxL := 5) (by decide) rfl (Nat.le_of_ble_eq_true rfl) rfl ?_
  intro p e R s m args below meth c A Q ls H locs hx hb hml hown hts hRf hRl hA hK hG hP hD hS hl hQ
  have hP : va_P D vwCl [(ta, .inr (8, [.ref m_now, .ref m_undone, .ref m_slots, .ref m_slotKind, .ref m_hasSlot, .ref m_sheetBits, .ref m_sheetSize, .ref m_sheets, .int (nI u), .int fi, .ref m_fresh, .long aa, .long bb, .long dd, .int (nI ro), .ref m_rootWhich, .int db, .ref m_signs, .ref m_atNought, .int (nI mn), .ref m_change, .ref m_table, .ref m_carried])), (m_now, .inl (cy 0, 29, .inl nw))] H := hP
  have hl : lv_has ls 5 [(0, .ref ta), (1, .int px)] := hl
  have hown : s.vm.findClass RX8 = some m.cls := hown
  have hF : (f_X8_sorts nw fi px) = (f_X8_sorts nw fi px) := rfl
  refine lv_iload_n hx hb dX8_sorts_0 rfl (lv_at hl 1 rfl) ?_
  refine lv_iconst (v := 1) hx hb dX8_sorts_1 (by decide) ?_
  refine lv_iconst (v := 5) hx hb dX8_sorts_2 (by decide) ?_
  refine yk_i [] (va_runS (As := [.int px, .int 1, .int 5]) (rest := []) ⟨hx, hb, hml, hown, hts⟩ (c_X8_in l D cy px 1 5 H.size) (va_cwS 3 hts gX8_sorts_X8_in rfl rfl rfl hs_X8_in (yk_room hRf hRl rfl rfl)) (yk_ps hG hA hS hK hP hD [] (by decide +kernel) rfl) rfl rfl hl.1 rfl (lv_room (Nat.le_of_ble_eq_true rfl)) dX8_sorts_3 ⟨Nat.zero_le _, Nat.zero_le _⟩) hP hD hS hA rfl rfl (fun H locs hP9 hD9 hS9 => ?_)
  replace hP : va_P D vwCl [(ta, .inr (8, [.ref m_now, .ref m_undone, .ref m_slots, .ref m_slotKind, .ref m_hasSlot, .ref m_sheetBits, .ref m_sheetSize, .ref m_sheets, .int (nI u), .int fi, .ref m_fresh, .long aa, .long bb, .long dd, .int (nI ro), .ref m_rootWhich, .int db, .ref m_signs, .ref m_atNought, .int (nI mn), .ref m_change, .ref m_table, .ref m_carried])), (m_now, .inl (cy 0, 29, .inl nw))] H := hP9
  replace hD : va_D A [(ta, .inr (8, [.ref m_now, .ref m_undone, .ref m_slots, .ref m_slotKind, .ref m_hasSlot, .ref m_sheetBits, .ref m_sheetSize, .ref m_sheets, .int (nI u), .int fi, .ref m_fresh, .long aa, .long bb, .long dd, .int (nI ro), .ref m_rootWhich, .int db, .ref m_signs, .ref m_atNought, .int (nI mn), .ref m_change, .ref m_table, .ref m_carried])), (m_now, .inl (cy 0, 29, .inl nw))] := hD9
  replace hS := hS9
  clear hP9 hD9 hS9
  refine lv_if_ne (tgt := 16) hx hb dX8_sorts_6 (by decide) (fun hc1 => ?_) (fun hc1 => ?_)
  · replace hF := hF.trans (if_neg hc1)
    refine lv_iconst (v := 0) hx hb dX8_sorts_16 (by decide) ?_
    refine lv_istore_n (lv' := [(2, .int 0), (0, .ref ta), (1, .int px)]) hx hb dX8_sorts_17 rfl hl (by decide) rfl (fun ls hl9 => ?_)
    replace hl := hl9
    clear hl9
    refine lv_bipush (v := (-6)) hx hb dX8_sorts_18 (by decide) ?_
    refine lv_istore_n (lv' := [(3, .int (-6)), (2, .int 0), (0, .ref ta), (1, .int px)]) hx hb dX8_sorts_20 rfl hl (by decide) rfl (fun ls hl9 => ?_)
    replace hl := hl9
    clear hl9
    have J9 : ∀ (H : Heap) (locs : List Loc) (ls : Array Slot), va_P D vwCl [(ta, .inr (8, [.ref m_now, .ref m_undone, .ref m_slots, .ref m_slotKind, .ref m_hasSlot, .ref m_sheetBits, .ref m_sheetSize, .ref m_sheets, .int (nI u), .int fi, .ref m_fresh, .long aa, .long bb, .long dd, .int (nI ro), .ref m_rootWhich, .int db, .ref m_signs, .ref m_atNought, .int (nI mn), .ref m_change, .ref m_table, .ref m_carried])), (m_now, .inl (cy 0, 29, .inl nw))] H → va_D A [(ta, .inr (8, [.ref m_now, .ref m_undone, .ref m_slots, .ref m_slotKind, .ref m_hasSlot, .ref m_sheetBits, .ref m_sheetSize, .ref m_sheets, .int (nI u), .int fi, .ref m_fresh, .long aa, .long bb, .long dd, .int (nI ro), .ref m_rootWhich, .int db, .ref m_signs, .ref m_atNought, .int (nI mn), .ref m_change, .ref m_table, .ref m_carried])), (m_now, .inl (cy 0, 29, .inl nw))] → va_S A s.heap H locs → lv_has ls 5 [(0, .ref ta), (1, .int px), (2, .int (l_X8_sorts_21 nw fi px (13 + 1) 0 0))] → W p l e R s m args below meth c H locs 0 0 Q (F0 m 79 ls []) := by
      clear hP hD hS hl
      intro H locs ls hP hD hS hl
      refine lv_iload_n hx hb dX8_sorts_79 rfl (lv_at hl 2 rfl) ?_
      have hF : f_X8_sorts nw fi px = ((l_X8_sorts_21 nw fi px (13 + 1) 0 0), fi) := hF
      have hf0 := yk_fst hF
      have hg0 := yk_snd hF
      rw [hf0, hg0] at hQ
      exact hQ _ _ _ _ dX8_sorts_80 hP hS
    have L21 : ∀ (M9 n21 ki : Nat) (z2_21 : Int32) (H : Heap) (locs : List Loc) (ls : Array Slot), n21 < M9 → ki + n21 = 13 → (l_X8_sorts_21 nw fi px (13 + 1) 0 0) = (l_X8_sorts_21 nw fi px (n21 + 1) ki z2_21) → va_P D vwCl [(ta, .inr (8, [.ref m_now, .ref m_undone, .ref m_slots, .ref m_slotKind, .ref m_hasSlot, .ref m_sheetBits, .ref m_sheetSize, .ref m_sheets, .int (nI u), .int fi, .ref m_fresh, .long aa, .long bb, .long dd, .int (nI ro), .ref m_rootWhich, .int db, .ref m_signs, .ref m_atNought, .int (nI mn), .ref m_change, .ref m_table, .ref m_carried])), (m_now, .inl (cy 0, 29, .inl nw))] H → va_D A [(ta, .inr (8, [.ref m_now, .ref m_undone, .ref m_slots, .ref m_slotKind, .ref m_hasSlot, .ref m_sheetBits, .ref m_sheetSize, .ref m_sheets, .int (nI u), .int fi, .ref m_fresh, .long aa, .long bb, .long dd, .int (nI ro), .ref m_rootWhich, .int db, .ref m_signs, .ref m_atNought, .int (nI mn), .ref m_change, .ref m_table, .ref m_carried])), (m_now, .inl (cy 0, 29, .inl nw))] → va_S A s.heap H locs → lv_has ls 5 [(0, .ref ta), (1, .int px), (2, .int z2_21), (3, .int (nI ki - 6))] → W p l e R s m args below meth c H locs 0 0 Q (F0 m 21 ls []) := by
      clear hP hD hS hl
      intro M9
      induction M9 with
      | zero => intro n21 ki _ _ _ _ hn; exact absurd hn (Nat.not_lt_zero _)
      | succ M9 ih21 =>
        intro n21 ki z2_21 H locs ls hn21 hk21 hV21 hP hD hS hl
        refine lv_iload_n hx hb dX8_sorts_21 rfl (lv_at hl 3 rfl) ?_
        refine lv_bipush (v := 6) hx hb dX8_sorts_22 (by decide) ?_
        refine lv_icmp_gt (tgt := 79) hx hb dX8_sorts_24 (by decide) (fun hc2 => ?_) (fun hc2 => ?_)
        · replace hV21 := hV21.trans (if_pos hc2)
          have hV21 : (l_X8_sorts_21 nw fi px (13 + 1) 0 0) = z2_21 := hV21
          have J9 := J9
          rw [hV21] at J9
          exact J9 _ _ _ hP hD hS (lv_sub hl [0, 1, 2] rfl)
        · replace hV21 := hV21.trans (if_neg hc2)
          have hlt21 : ki < 13 := yk_lt6 hk21 hc2
          refine lv_bipush (v := (-6)) hx hb dX8_sorts_27 (by decide) ?_
          refine lv_istore (lv' := [(4, .int (-6)), (0, .ref ta), (1, .int px), (2, .int z2_21), (3, .int (nI ki - 6))]) hx hb dX8_sorts_29 hl (by decide) rfl (fun ls hl9 => ?_)
          replace hl := hl9
          clear hl9
          have J8 : ∀ (H : Heap) (locs : List Loc) (ls : Array Slot), va_P D vwCl [(ta, .inr (8, [.ref m_now, .ref m_undone, .ref m_slots, .ref m_slotKind, .ref m_hasSlot, .ref m_sheetBits, .ref m_sheetSize, .ref m_sheets, .int (nI u), .int fi, .ref m_fresh, .long aa, .long bb, .long dd, .int (nI ro), .ref m_rootWhich, .int db, .ref m_signs, .ref m_atNought, .int (nI mn), .ref m_change, .ref m_table, .ref m_carried])), (m_now, .inl (cy 0, 29, .inl nw))] H → va_D A [(ta, .inr (8, [.ref m_now, .ref m_undone, .ref m_slots, .ref m_slotKind, .ref m_hasSlot, .ref m_sheetBits, .ref m_sheetSize, .ref m_sheets, .int (nI u), .int fi, .ref m_fresh, .long aa, .long bb, .long dd, .int (nI ro), .ref m_rootWhich, .int db, .ref m_signs, .ref m_atNought, .int (nI mn), .ref m_change, .ref m_table, .ref m_carried])), (m_now, .inl (cy 0, 29, .inl nw))] → va_S A s.heap H locs → lv_has ls 5 [(0, .ref ta), (1, .int px), (2, .int (l_X8_sorts_31 nw fi px ki z2_21 (13 + 1) 0 z2_21)), (3, .int (nI ki - 6))] → W p l e R s m args below meth c H locs 0 0 Q (F0 m 73 ls []) := by
            clear hP hD hS hl
            intro H locs ls hP hD hS hl
            refine lv_iinc (v := ((nI ki - 6) + 1)) (lv' := [(3, .int ((nI ki - 6) + 1)), (0, .ref ta), (1, .int px), (2, .int (l_X8_sorts_31 nw fi px ki z2_21 (13 + 1) 0 z2_21))]) hx hb dX8_sorts_73 hl (k := 3) rfl (yk_incg _) (by decide) rfl (fun ls hl9 => ?_)
            replace hl := hl9
            clear hl9
            refine lv_goto (tgt := 21) hx hb dX8_sorts_76 (by decide) ?_
            obtain ⟨n9, rfl⟩ : ∃ n9, n21 = n9 + 1 := ⟨n21 - 1, by omega⟩
            rw [yk_off ki 6] at hl
            exact ih21 n9 (ki + 1) (l_X8_sorts_31 nw fi px ki z2_21 (13 + 1) 0 z2_21) _ _ _ (by omega) (by omega)  hV21 hP hD hS (lv_sub hl [1, 2, 3, 0] rfl)
          have L31 : ∀ (M9 n31 kj : Nat) (z2_31 : Int32) (H : Heap) (locs : List Loc) (ls : Array Slot), n31 < M9 → kj + n31 = 13 → (l_X8_sorts_31 nw fi px ki z2_21 (13 + 1) 0 z2_21) = (l_X8_sorts_31 nw fi px ki z2_21 (n31 + 1) kj z2_31) → va_P D vwCl [(ta, .inr (8, [.ref m_now, .ref m_undone, .ref m_slots, .ref m_slotKind, .ref m_hasSlot, .ref m_sheetBits, .ref m_sheetSize, .ref m_sheets, .int (nI u), .int fi, .ref m_fresh, .long aa, .long bb, .long dd, .int (nI ro), .ref m_rootWhich, .int db, .ref m_signs, .ref m_atNought, .int (nI mn), .ref m_change, .ref m_table, .ref m_carried])), (m_now, .inl (cy 0, 29, .inl nw))] H → va_D A [(ta, .inr (8, [.ref m_now, .ref m_undone, .ref m_slots, .ref m_slotKind, .ref m_hasSlot, .ref m_sheetBits, .ref m_sheetSize, .ref m_sheets, .int (nI u), .int fi, .ref m_fresh, .long aa, .long bb, .long dd, .int (nI ro), .ref m_rootWhich, .int db, .ref m_signs, .ref m_atNought, .int (nI mn), .ref m_change, .ref m_table, .ref m_carried])), (m_now, .inl (cy 0, 29, .inl nw))] → va_S A s.heap H locs → lv_has ls 5 [(0, .ref ta), (1, .int px), (2, .int z2_31), (3, .int (nI ki - 6)), (4, .int (nI kj - 6))] → W p l e R s m args below meth c H locs 0 0 Q (F0 m 31 ls []) := by
            clear hP hD hS hl
            intro M9
            induction M9 with
            | zero => intro n31 kj _ _ _ _ hn; exact absurd hn (Nat.not_lt_zero _)
            | succ M9 ih31 =>
              intro n31 kj z2_31 H locs ls hn31 hk31 hV31 hP hD hS hl
              refine lv_iload hx hb dX8_sorts_31 (lv_at hl 4 rfl) ?_
              refine lv_bipush (v := 6) hx hb dX8_sorts_33 (by decide) ?_
              refine lv_icmp_gt (tgt := 73) hx hb dX8_sorts_35 (by decide) (fun hc3 => ?_) (fun hc3 => ?_)
              · replace hV31 := hV31.trans (if_pos hc3)
                have hV31 : (l_X8_sorts_31 nw fi px ki z2_21 (13 + 1) 0 z2_21) = z2_31 := hV31
                have J8 := J8
                rw [hV31] at J8
                exact J8 _ _ _ hP hD hS (lv_sub hl [0, 1, 2, 3] rfl)
              · replace hV31 := hV31.trans (if_neg hc3)
                have hlt31 : kj < 13 := yk_lt6 hk31 hc3
                refine lv_iload_n hx hb dX8_sorts_38 rfl (lv_at hl 2 rfl) ?_
                refine lv_aload_n hx hb dX8_sorts_39 rfl (lv_at hl 0 rfl) ?_
                refine lv_iload_n hx hb dX8_sorts_40 rfl (lv_at hl 3 rfl) ?_
                refine lv_iload hx hb dX8_sorts_41 (lv_at hl 4 rfl) ?_
                refine yk_i [0, 1] (va_runV (As := [.int (nI ki - 6), .int (nI kj - 6)]) (rest := [.int z2_31]) ⟨hx, hb, hml, hown, hts⟩ (c_X8_isRest l D cy ta m_now m_undone m_slots m_slotKind m_hasSlot m_sheetBits m_sheetSize m_sheets m_fresh m_rootWhich m_signs m_atNought m_change m_table m_carried nw u fi aa bb dd ro db mn (nI ki - 6) (nI kj - 6) H.size) (cwV 2 hts gX8_sorts_X8_isRest rfl rfl rfl hv_X8_isRest (yk_room hRf hRl rfl rfl)) (yk_pv (q := (RX8, TX8, 23)) hG hA hS hK hP hD [0, 1] (by decide +kernel) rfl rfl rfl) rfl rfl hl.1 rfl (lv_room (Nat.le_of_ble_eq_true rfl)) dX8_sorts_43 ⟨Nat.zero_le _, Nat.zero_le _⟩) hP hD hS hA rfl (Eq.trans (b := [ta, m_now]) rfl rfl) (fun H locs hP9 hD9 hS9 => ?_)
                replace hP : va_P D vwCl [(ta, .inr (8, [.ref m_now, .ref m_undone, .ref m_slots, .ref m_slotKind, .ref m_hasSlot, .ref m_sheetBits, .ref m_sheetSize, .ref m_sheets, .int (nI u), .int fi, .ref m_fresh, .long aa, .long bb, .long dd, .int (nI ro), .ref m_rootWhich, .int db, .ref m_signs, .ref m_atNought, .int (nI mn), .ref m_change, .ref m_table, .ref m_carried])), (m_now, .inl (cy 0, 29, .inl nw))] H := hP9
                replace hD : va_D A [(ta, .inr (8, [.ref m_now, .ref m_undone, .ref m_slots, .ref m_slotKind, .ref m_hasSlot, .ref m_sheetBits, .ref m_sheetSize, .ref m_sheets, .int (nI u), .int fi, .ref m_fresh, .long aa, .long bb, .long dd, .int (nI ro), .ref m_rootWhich, .int db, .ref m_signs, .ref m_atNought, .int (nI mn), .ref m_change, .ref m_table, .ref m_carried])), (m_now, .inl (cy 0, 29, .inl nw))] := hD9
                replace hS := hS9
                clear hP9 hD9 hS9
                have J7 : ∀ (v6 : Int32) (H : Heap) (locs : List Loc) (ls : Array Slot), v6 = (if (f_X8_isRest nw (nI ki - 6) (nI kj - 6)) = 0 then 0 else (if (f_X8_sortAt nw (nI ki - 6) (nI kj - 6)) = px then 1 else 0)) → va_P D vwCl [(ta, .inr (8, [.ref m_now, .ref m_undone, .ref m_slots, .ref m_slotKind, .ref m_hasSlot, .ref m_sheetBits, .ref m_sheetSize, .ref m_sheets, .int (nI u), .int fi, .ref m_fresh, .long aa, .long bb, .long dd, .int (nI ro), .ref m_rootWhich, .int db, .ref m_signs, .ref m_atNought, .int (nI mn), .ref m_change, .ref m_table, .ref m_carried])), (m_now, .inl (cy 0, 29, .inl nw))] H → va_D A [(ta, .inr (8, [.ref m_now, .ref m_undone, .ref m_slots, .ref m_slotKind, .ref m_hasSlot, .ref m_sheetBits, .ref m_sheetSize, .ref m_sheets, .int (nI u), .int fi, .ref m_fresh, .long aa, .long bb, .long dd, .int (nI ro), .ref m_rootWhich, .int db, .ref m_signs, .ref m_atNought, .int (nI mn), .ref m_change, .ref m_table, .ref m_carried])), (m_now, .inl (cy 0, 29, .inl nw))] → va_S A s.heap H locs → lv_has ls 5 [(0, .ref ta), (1, .int px), (2, .int z2_31), (3, .int (nI ki - 6)), (4, .int (nI kj - 6))] → W p l e R s m args below meth c H locs 0 0 Q (F0 m 65 ls [.int v6, .int z2_31]) := by
                  clear hP hD hS hl
                  intro v6 H locs ls ev6
                  rw [ev6]
                  clear ev6
                  intro hP hD hS hl
                  refine lv_iadd hx hb dX8_sorts_65 ?_
                  refine lv_istore_n (lv' := [(2, .int (z2_31 + (if (f_X8_isRest nw (nI ki - 6) (nI kj - 6)) = 0 then 0 else (if (f_X8_sortAt nw (nI ki - 6) (nI kj - 6)) = px then 1 else 0)))), (0, .ref ta), (1, .int px), (3, .int (nI ki - 6)), (4, .int (nI kj - 6))]) hx hb dX8_sorts_66 rfl hl (by decide) rfl (fun ls hl9 => ?_)
                  replace hl := hl9
                  clear hl9
                  refine lv_iinc (v := ((nI kj - 6) + 1)) (lv' := [(4, .int ((nI kj - 6) + 1)), (2, .int (z2_31 + (if (f_X8_isRest nw (nI ki - 6) (nI kj - 6)) = 0 then 0 else (if (f_X8_sortAt nw (nI ki - 6) (nI kj - 6)) = px then 1 else 0)))), (0, .ref ta), (1, .int px), (3, .int (nI ki - 6))]) hx hb dX8_sorts_67 hl (k := 4) rfl (yk_incg _) (by decide) rfl (fun ls hl9 => ?_)
                  replace hl := hl9
                  clear hl9
                  refine lv_goto (tgt := 31) hx hb dX8_sorts_70 (by decide) ?_
                  obtain ⟨n9, rfl⟩ : ∃ n9, n31 = n9 + 1 := ⟨n31 - 1, by omega⟩
                  rw [yk_off kj 6] at hl
                  exact ih31 n9 (kj + 1) (z2_31 + (if (f_X8_isRest nw (nI ki - 6) (nI kj - 6)) = 0 then 0 else (if (f_X8_sortAt nw (nI ki - 6) (nI kj - 6)) = px then 1 else 0))) _ _ _ (by omega) (by omega)  hV31 hP hD hS (lv_sub hl [2, 3, 1, 4, 0] rfl)
                refine lv_if_eq (tgt := 64) hx hb dX8_sorts_46 (by decide) (fun hc4 => ?_) (fun hc4 => ?_)
                · refine lv_iconst (v := 0) hx hb dX8_sorts_64 (by decide) ?_
                  exact J7 _ _ _ _ ((if_pos hc4).symm) hP hD hS (lv_sub hl [0, 1, 2, 3, 4] rfl)
                · refine lv_aload_n hx hb dX8_sorts_49 rfl (lv_at hl 0 rfl) ?_
                  refine lv_iload_n hx hb dX8_sorts_50 rfl (lv_at hl 3 rfl) ?_
                  refine lv_iload hx hb dX8_sorts_51 (lv_at hl 4 rfl) ?_
                  refine yk_i [0, 1] (va_runV (As := [.int (nI ki - 6), .int (nI kj - 6)]) (rest := [.int z2_31]) ⟨hx, hb, hml, hown, hts⟩ (c_X8_sortAt l D cy ta m_now m_undone m_slots m_slotKind m_hasSlot m_sheetBits m_sheetSize m_sheets m_fresh m_rootWhich m_signs m_atNought m_change m_table m_carried nw u fi aa bb dd ro db mn (nI ki - 6) (nI kj - 6) H.size) (cwV 2 hts gX8_sorts_X8_sortAt rfl rfl rfl hv_X8_sortAt (yk_room hRf hRl rfl rfl)) (yk_pv (q := (RX8, TX8, 23)) hG hA hS hK hP hD [0, 1] (by decide +kernel) rfl rfl rfl) rfl rfl hl.1 rfl (lv_room (Nat.le_of_ble_eq_true rfl)) dX8_sorts_53 ⟨Nat.zero_le _, Nat.zero_le _⟩) hP hD hS hA rfl (Eq.trans (b := [ta, m_now]) rfl rfl) (fun H locs hP9 hD9 hS9 => ?_)
                  replace hP : va_P D vwCl [(ta, .inr (8, [.ref m_now, .ref m_undone, .ref m_slots, .ref m_slotKind, .ref m_hasSlot, .ref m_sheetBits, .ref m_sheetSize, .ref m_sheets, .int (nI u), .int fi, .ref m_fresh, .long aa, .long bb, .long dd, .int (nI ro), .ref m_rootWhich, .int db, .ref m_signs, .ref m_atNought, .int (nI mn), .ref m_change, .ref m_table, .ref m_carried])), (m_now, .inl (cy 0, 29, .inl nw))] H := hP9
                  replace hD : va_D A [(ta, .inr (8, [.ref m_now, .ref m_undone, .ref m_slots, .ref m_slotKind, .ref m_hasSlot, .ref m_sheetBits, .ref m_sheetSize, .ref m_sheets, .int (nI u), .int fi, .ref m_fresh, .long aa, .long bb, .long dd, .int (nI ro), .ref m_rootWhich, .int db, .ref m_signs, .ref m_atNought, .int (nI mn), .ref m_change, .ref m_table, .ref m_carried])), (m_now, .inl (cy 0, 29, .inl nw))] := hD9
                  replace hS := hS9
                  clear hP9 hD9 hS9
                  refine lv_iload_n hx hb dX8_sorts_56 rfl (lv_at hl 1 rfl) ?_
                  refine lv_icmp_ne (tgt := 64) hx hb dX8_sorts_57 (by decide) (fun hc5 => ?_) (fun hc5 => ?_)
                  · refine lv_iconst (v := 0) hx hb dX8_sorts_64 (by decide) ?_
                    exact J7 _ _ _ _ (((if_neg hc4).trans (if_neg hc5)).symm) hP hD hS (lv_sub hl [0, 1, 2, 3, 4] rfl)
                  · refine lv_iconst (v := 1) hx hb dX8_sorts_60 (by decide) ?_
                    refine lv_goto (tgt := 65) hx hb dX8_sorts_61 (by decide) ?_
                    exact J7 _ _ _ _ (((if_neg hc4).trans (if_pos hc5)).symm) hP hD hS (lv_sub hl [0, 1, 2, 3, 4] rfl)
          rw [show (-6 : Int32) = nI 0 - 6 from rfl] at hl
          exact L31 (13 + 1) 13 0 z2_21 _ _ _ (Nat.lt_succ_self _) (by omega)  rfl hP hD hS (lv_sub hl [1, 2, 3, 4, 0] rfl)
    rw [show (-6 : Int32) = nI 0 - 6 from rfl] at hl
    exact L21 (13 + 1) 13 0 0 _ _ _ (Nat.lt_succ_self _) (by omega)  rfl hP hD hS (lv_sub hl [2, 3, 1, 0] rfl)
  · replace hF := hF.trans (if_pos hc1)
    refine lv_aload_n hx hb dX8_sorts_9 rfl (lv_at hl 0 rfl) ?_
    refine lv_ldc (v := (-1000001)) hx hb hown (hts _ kX8_sorts_0) dX8_sorts_10 ?_
    refine yk_i [0] (va_runV (As := [.int (-1000001)]) (rest := []) ⟨hx, hb, hml, hown, hts⟩ (c_X8_found l D cy ta m_now m_undone m_slots m_slotKind m_hasSlot m_sheetBits m_sheetSize m_sheets m_fresh m_rootWhich m_signs m_atNought m_change m_table m_carried u fi aa bb dd ro db mn (-1000001) H.size) (cwV 1 hts gX8_sorts_X8_found rfl rfl rfl hv_X8_found (yk_room hRf hRl rfl rfl)) (yk_pv (q := (RX8, TX8, 23)) hG hA hS hK hP hD [0] (by decide +kernel) rfl rfl rfl) rfl rfl hl.1 rfl (lv_room (Nat.le_of_ble_eq_true rfl)) dX8_sorts_12 ⟨Nat.zero_le _, Nat.zero_le _⟩) hP hD hS hA rfl (Eq.trans (b := [ta]) rfl rfl) (fun H locs hP9 hD9 hS9 => ?_)
    replace hP : va_P D vwCl [(ta, .inr (8, [.ref m_now, .ref m_undone, .ref m_slots, .ref m_slotKind, .ref m_hasSlot, .ref m_sheetBits, .ref m_sheetSize, .ref m_sheets, .int (nI u), .int ((f_X8_found fi (-1000001)).2), .ref m_fresh, .long aa, .long bb, .long dd, .int (nI ro), .ref m_rootWhich, .int db, .ref m_signs, .ref m_atNought, .int (nI mn), .ref m_change, .ref m_table, .ref m_carried])), (m_now, .inl (cy 0, 29, .inl nw))] H := hP9
    replace hD : va_D A [(ta, .inr (8, [.ref m_now, .ref m_undone, .ref m_slots, .ref m_slotKind, .ref m_hasSlot, .ref m_sheetBits, .ref m_sheetSize, .ref m_sheets, .int (nI u), .int ((f_X8_found fi (-1000001)).2), .ref m_fresh, .long aa, .long bb, .long dd, .int (nI ro), .ref m_rootWhich, .int db, .ref m_signs, .ref m_atNought, .int (nI mn), .ref m_change, .ref m_table, .ref m_carried])), (m_now, .inl (cy 0, 29, .inl nw))] := hD9
    replace hS := hS9
    clear hP9 hD9 hS9
    have hF : f_X8_sorts nw fi px = (((f_X8_found fi (-1000001)).1), ((f_X8_found fi (-1000001)).2)) := hF
    have hf0 := yk_fst hF
    have hg0 := yk_snd hF
    rw [hf0, hg0] at hQ
    exact hQ _ _ _ _ dX8_sorts_15 hP hS

theorem kX8_corner_0 : Cond.fieldLink RX8 7 "FlowPlaneModel" "now" "[I" ∈ wsX8_corner := by decide +kernel
theorem kX8_corner_1 : Cond.constant RX8 118 (-1000005) ∈ wsX8_corner := by decide +kernel
theorem kX8_corner_2 : Cond.constant RX8 99 (-1000003) ∈ wsX8_corner := by decide +kernel
theorem kX8_corner_3 : Cond.constant RX8 68 (-1000001) ∈ wsX8_corner := by decide +kernel
theorem uX8_corner_X8 : ∀ w ∈ u_ws RX8 TX8 23, w ∈ wsX8_corner := by decide +kernel
def f_X8_corner (nw : Nat → Int32) (un : Nat → Int32) (u : Nat) (fi : Int32) (px : Int32) (py : Int32) (n : Nat) : Int32 × Nat × Int32 × (Nat → Int32) × (Nat → Int32) := (if (f_X8_isPlace px py) = 0 then (((f_X8_found fi (-1000001)).1), u, ((f_X8_found fi (-1000001)).2), nw, un) else (if (nI n) ≤ 0 then (if (nI n) = 8 then (((f_X8_found fi (-1000005)).1), u, ((f_X8_found fi (-1000005)).2), nw, un) else ((nI (n + 1)), ((f_X8_remember nw un u).1), fi, (upd (upd (upd nw (13 + n) px) (21 + n) py) 12 (nI (n + 1))), ((f_X8_remember nw un u).2))) else (if (f_X8_xOf nw (n - 1) n) = px then (if (f_X8_yOf nw (n - 1) n) = py then (((f_X8_found fi (-1000003)).1), u, ((f_X8_found fi (-1000003)).2), nw, un) else (if (nI n) = 8 then (((f_X8_found fi (-1000005)).1), u, ((f_X8_found fi (-1000005)).2), nw, un) else ((nI (n + 1)), ((f_X8_remember nw un u).1), fi, (upd (upd (upd nw (13 + n) px) (21 + n) py) 12 (nI (n + 1))), ((f_X8_remember nw un u).2)))) else (if (nI n) = 8 then (((f_X8_found fi (-1000005)).1), u, ((f_X8_found fi (-1000005)).2), nw, un) else ((nI (n + 1)), ((f_X8_remember nw un u).1), fi, (upd (upd (upd nw (13 + n) px) (21 + n) py) 12 (nI (n + 1))), ((f_X8_remember nw un u).2))))))
set_option maxHeartbeats 400000000 in
set_option maxRecDepth 100000 in
theorem c_X8_corner (l : Launch) (D : va_G) (cy : Nat → ClassId) (ta : Nat) (m_now : Nat) (m_undone : Nat) (m_slots : Nat) (m_slotKind : Nat) (m_hasSlot : Nat) (m_sheetBits : Nat) (m_sheetSize : Nat) (m_sheets : Nat) (m_fresh : Nat) (m_rootWhich : Nat) (m_signs : Nat) (m_atNought : Nat) (m_change : Nat) (m_table : Nat) (m_carried : Nat) (nw : Nat → Int32) (un : Nat → Int32) (u : Nat) (fi : Int32) (aa : Int64) (bb : Int64) (dd : Int64) (ro : Nat) (db : Int32) (mn : Nat) (px : Int32) (py : Int32) (n : Nat) (hu : u ≤ 25) (hn12 : nw 12 = nI n) (hn : n ≤ 8) : yk_Ci l D vwCl (yk_ty cy) yX8_corner wsX8_corner 2 43 [.ref ta, .int px, .int py] [(ta, .inr (8, [.ref m_now, .ref m_undone, .ref m_slots, .ref m_slotKind, .ref m_hasSlot, .ref m_sheetBits, .ref m_sheetSize, .ref m_sheets, .int (nI u), .int fi, .ref m_fresh, .long aa, .long bb, .long dd, .int (nI ro), .ref m_rootWhich, .int db, .ref m_signs, .ref m_atNought, .int (nI mn), .ref m_change, .ref m_table, .ref m_carried])), (m_now, .inl (cy 0, 29, .inl nw)), (m_undone, .inl (cy 0, 725, .inl un))] ((f_X8_corner nw un u fi px py n).1) [(ta, .inr (8, [.ref m_now, .ref m_undone, .ref m_slots, .ref m_slotKind, .ref m_hasSlot, .ref m_sheetBits, .ref m_sheetSize, .ref m_sheets, .int (nI ((f_X8_corner nw un u fi px py n).2.1)), .int ((f_X8_corner nw un u fi px py n).2.2.1), .ref m_fresh, .long aa, .long bb, .long dd, .int (nI ro), .ref m_rootWhich, .int db, .ref m_signs, .ref m_atNought, .int (nI mn), .ref m_change, .ref m_table, .ref m_carried])), (m_now, .inl (cy 0, 29, .inl ((f_X8_corner nw un u fi px py n).2.2.2.1))), (m_undone, .inl (cy 0, 725, .inl ((f_X8_corner nw un u fi px py n).2.2.2.2)))] := by
  refine yk_eI (cc := cX8_corner) (maxL := 4) (by decide) rfl (Nat.le_of_ble_eq_true rfl) rfl ?_
  intro p e R s m args below meth c A Q ls H locs hx hb hml hown hts hRf hRl hA hK hG hP hD hS hl hQ
  have hP : va_P D vwCl [(ta, .inr (8, [.ref m_now, .ref m_undone, .ref m_slots, .ref m_slotKind, .ref m_hasSlot, .ref m_sheetBits, .ref m_sheetSize, .ref m_sheets, .int (nI u), .int fi, .ref m_fresh, .long aa, .long bb, .long dd, .int (nI ro), .ref m_rootWhich, .int db, .ref m_signs, .ref m_atNought, .int (nI mn), .ref m_change, .ref m_table, .ref m_carried])), (m_now, .inl (cy 0, 29, .inl nw)), (m_undone, .inl (cy 0, 725, .inl un))] H := hP
  have hl : lv_has ls 4 [(0, .ref ta), (1, .int px), (2, .int py)] := hl
  have hown : s.vm.findClass RX8 = some m.cls := hown
  have hF : (f_X8_corner nw un u fi px py n) = (f_X8_corner nw un u fi px py n) := rfl
  refine lv_iload_n hx hb dX8_corner_0 rfl (lv_at hl 1 rfl) ?_
  refine lv_iload_n hx hb dX8_corner_1 rfl (lv_at hl 2 rfl) ?_
  refine yk_i [] (va_runS (As := [.int px, .int py]) (rest := []) ⟨hx, hb, hml, hown, hts⟩ (c_X8_isPlace l D cy px py H.size) (va_cwS 2 hts gX8_corner_X8_isPlace rfl rfl rfl hs_X8_isPlace (yk_room hRf hRl rfl rfl)) (yk_ps hG hA hS hK hP hD [] (by decide +kernel) rfl) rfl rfl hl.1 rfl (lv_room (Nat.le_of_ble_eq_true rfl)) dX8_corner_2 ⟨Nat.zero_le _, Nat.zero_le _⟩) hP hD hS hA rfl rfl (fun H locs hP9 hD9 hS9 => ?_)
  replace hP : va_P D vwCl [(ta, .inr (8, [.ref m_now, .ref m_undone, .ref m_slots, .ref m_slotKind, .ref m_hasSlot, .ref m_sheetBits, .ref m_sheetSize, .ref m_sheets, .int (nI u), .int fi, .ref m_fresh, .long aa, .long bb, .long dd, .int (nI ro), .ref m_rootWhich, .int db, .ref m_signs, .ref m_atNought, .int (nI mn), .ref m_change, .ref m_table, .ref m_carried])), (m_now, .inl (cy 0, 29, .inl nw)), (m_undone, .inl (cy 0, 725, .inl un))] H := hP9
  replace hD : va_D A [(ta, .inr (8, [.ref m_now, .ref m_undone, .ref m_slots, .ref m_slotKind, .ref m_hasSlot, .ref m_sheetBits, .ref m_sheetSize, .ref m_sheets, .int (nI u), .int fi, .ref m_fresh, .long aa, .long bb, .long dd, .int (nI ro), .ref m_rootWhich, .int db, .ref m_signs, .ref m_atNought, .int (nI mn), .ref m_change, .ref m_table, .ref m_carried])), (m_now, .inl (cy 0, 29, .inl nw)), (m_undone, .inl (cy 0, 725, .inl un))] := hD9
  replace hS := hS9
  clear hP9 hD9 hS9
  refine lv_if_ne (tgt := 15) hx hb dX8_corner_5 (by decide) (fun hc1 => ?_) (fun hc1 => ?_)
  · replace hF := hF.trans (if_neg hc1)
    refine lv_aload_n hx hb dX8_corner_15 rfl (lv_at hl 0 rfl) ?_
    refine yk_i [0, 1] (va_runV (As := []) (rest := []) ⟨hx, hb, hml, hown, hts⟩ (c_X8_corners l D cy ta m_now m_undone m_slots m_slotKind m_hasSlot m_sheetBits m_sheetSize m_sheets m_fresh m_rootWhich m_signs m_atNought m_change m_table m_carried nw u fi aa bb dd ro db mn H.size) (cwV 0 hts gX8_corner_X8_corners rfl rfl rfl hv_X8_corners (yk_room hRf hRl rfl rfl)) (yk_pv (q := (RX8, TX8, 23)) hG hA hS hK hP hD [0, 1] (by decide +kernel) rfl rfl rfl) rfl rfl hl.1 rfl (lv_room (Nat.le_of_ble_eq_true rfl)) dX8_corner_16 ⟨Nat.zero_le _, Nat.zero_le _⟩) hP hD hS hA rfl (Eq.trans (b := [ta, m_now]) rfl rfl) (fun H locs hP9 hD9 hS9 => ?_)
    replace hP : va_P D vwCl [(ta, .inr (8, [.ref m_now, .ref m_undone, .ref m_slots, .ref m_slotKind, .ref m_hasSlot, .ref m_sheetBits, .ref m_sheetSize, .ref m_sheets, .int (nI u), .int fi, .ref m_fresh, .long aa, .long bb, .long dd, .int (nI ro), .ref m_rootWhich, .int db, .ref m_signs, .ref m_atNought, .int (nI mn), .ref m_change, .ref m_table, .ref m_carried])), (m_now, .inl (cy 0, 29, .inl nw)), (m_undone, .inl (cy 0, 725, .inl un))] H := hP9
    replace hD : va_D A [(ta, .inr (8, [.ref m_now, .ref m_undone, .ref m_slots, .ref m_slotKind, .ref m_hasSlot, .ref m_sheetBits, .ref m_sheetSize, .ref m_sheets, .int (nI u), .int fi, .ref m_fresh, .long aa, .long bb, .long dd, .int (nI ro), .ref m_rootWhich, .int db, .ref m_signs, .ref m_atNought, .int (nI mn), .ref m_change, .ref m_table, .ref m_carried])), (m_now, .inl (cy 0, 29, .inl nw)), (m_undone, .inl (cy 0, 725, .inl un))] := hD9
    replace hS := hS9
    clear hP9 hD9 hS9
    refine yk_ti (y := nI n) (hn12) ?_
    refine lv_istore_n (lv' := [(3, .int (nI n)), (0, .ref ta), (1, .int px), (2, .int py)]) hx hb dX8_corner_19 rfl hl (by decide) rfl (fun ls hl9 => ?_)
    replace hl := hl9
    clear hl9
    refine lv_iload_n hx hb dX8_corner_20 rfl (lv_at hl 0 rfl) ?_
    refine lv_if_le (tgt := 53) hx hb dX8_corner_21 (by decide) (fun hc2 => ?_) (fun hc2 => ?_)
    · replace hF := hF.trans (if_pos hc2)
      refine lv_iload_n hx hb dX8_corner_53 rfl (lv_at hl 0 rfl) ?_
      refine lv_bipush (v := 8) hx hb dX8_corner_54 (by decide) ?_
      refine lv_icmp_ne (tgt := 66) hx hb dX8_corner_56 (by decide) (fun hc3 => ?_) (fun hc3 => ?_)
      · replace hF := hF.trans (if_neg hc3)
        have hn8 : n < 8 := yk_ne8 hn (by assumption)
        refine lv_aload_n hx hb dX8_corner_66 rfl (lv_at hl 1 rfl) ?_
        refine yk_v [0, 1, 2] (va_runV (As := []) (rest := []) ⟨hx, hb, hml, hown, hts⟩ (c_X8_remember l D cy ta m_now m_undone m_slots m_slotKind m_hasSlot m_sheetBits m_sheetSize m_sheets m_fresh m_rootWhich m_signs m_atNought m_change m_table m_carried nw un u fi aa bb dd ro db mn hu H.size) (cwV 0 hts gX8_corner_X8_remember rfl rfl rfl hv_X8_remember (yk_room hRf hRl rfl rfl)) (yk_pv (q := (RX8, TX8, 23)) hG hA hS hK hP hD [0, 1, 2] (by decide +kernel) rfl rfl rfl) rfl rfl hl.1 rfl (lv_room (Nat.le_of_ble_eq_true rfl)) dX8_corner_67 ⟨Nat.zero_le _, Nat.zero_le _⟩) hP hD hS hA rfl (Eq.trans (b := [ta, m_now, m_undone]) rfl rfl) (fun H locs hP9 hD9 hS9 => ?_)
        replace hP : va_P D vwCl [(ta, .inr (8, [.ref m_now, .ref m_undone, .ref m_slots, .ref m_slotKind, .ref m_hasSlot, .ref m_sheetBits, .ref m_sheetSize, .ref m_sheets, .int (nI ((f_X8_remember nw un u).1)), .int fi, .ref m_fresh, .long aa, .long bb, .long dd, .int (nI ro), .ref m_rootWhich, .int db, .ref m_signs, .ref m_atNought, .int (nI mn), .ref m_change, .ref m_table, .ref m_carried])), (m_now, .inl (cy 0, 29, .inl nw)), (m_undone, .inl (cy 0, 725, .inl ((f_X8_remember nw un u).2)))] H := hP9
        replace hD : va_D A [(ta, .inr (8, [.ref m_now, .ref m_undone, .ref m_slots, .ref m_slotKind, .ref m_hasSlot, .ref m_sheetBits, .ref m_sheetSize, .ref m_sheets, .int (nI ((f_X8_remember nw un u).1)), .int fi, .ref m_fresh, .long aa, .long bb, .long dd, .int (nI ro), .ref m_rootWhich, .int db, .ref m_signs, .ref m_atNought, .int (nI mn), .ref m_change, .ref m_table, .ref m_carried])), (m_now, .inl (cy 0, 29, .inl nw)), (m_undone, .inl (cy 0, 725, .inl ((f_X8_remember nw un u).2)))] := hD9
        replace hS := hS9
        clear hP9 hD9 hS9
        refine lv_aload_n hx hb dX8_corner_70 rfl (lv_at hl 1 rfl) ?_
        refine va_get (D := D) (ci := 8) (v := .ref m_now) (C := RX8) (T := TX8) (N := 23) hx hb hts uX8_corner_X8 hown hK hP 0 rfl rfl 0 (by decide) (hts _ kX8_corner_0) (fun _ h9 => h9) rfl dX8_corner_71 ?_
        refine lv_bipush (v := 13) hx hb dX8_corner_74 (by decide) ?_
        refine lv_iload_n hx hb dX8_corner_76 rfl (lv_at hl 0 rfl) ?_
        refine lv_iadd hx hb dX8_corner_77 ?_
        refine yk_ti (y := nI (13 + n)) (nI_add 13 n) ?_
        refine lv_iload_n hx hb dX8_corner_78 rfl (lv_at hl 2 rfl) ?_
        refine yk_ist hx hb hK hP hD hS 1 0 rfl rfl (13 + n) (by omega) (by decide) dX8_corner_79 (fun H locs hP9 hD9 hS9 => ?_)
        replace hP : va_P D vwCl [(ta, .inr (8, [.ref m_now, .ref m_undone, .ref m_slots, .ref m_slotKind, .ref m_hasSlot, .ref m_sheetBits, .ref m_sheetSize, .ref m_sheets, .int (nI ((f_X8_remember nw un u).1)), .int fi, .ref m_fresh, .long aa, .long bb, .long dd, .int (nI ro), .ref m_rootWhich, .int db, .ref m_signs, .ref m_atNought, .int (nI mn), .ref m_change, .ref m_table, .ref m_carried])), (m_now, .inl (cy 0, 29, .inl (upd nw (13 + n) px))), (m_undone, .inl (cy 0, 725, .inl ((f_X8_remember nw un u).2)))] H := hP9
        replace hD : va_D A [(ta, .inr (8, [.ref m_now, .ref m_undone, .ref m_slots, .ref m_slotKind, .ref m_hasSlot, .ref m_sheetBits, .ref m_sheetSize, .ref m_sheets, .int (nI ((f_X8_remember nw un u).1)), .int fi, .ref m_fresh, .long aa, .long bb, .long dd, .int (nI ro), .ref m_rootWhich, .int db, .ref m_signs, .ref m_atNought, .int (nI mn), .ref m_change, .ref m_table, .ref m_carried])), (m_now, .inl (cy 0, 29, .inl (upd nw (13 + n) px))), (m_undone, .inl (cy 0, 725, .inl ((f_X8_remember nw un u).2)))] := hD9
        replace hS := hS9
        clear hP9 hD9 hS9
        refine lv_aload_n hx hb dX8_corner_80 rfl (lv_at hl 1 rfl) ?_
        refine va_get (D := D) (ci := 8) (v := .ref m_now) (C := RX8) (T := TX8) (N := 23) hx hb hts uX8_corner_X8 hown hK hP 0 rfl rfl 0 (by decide) (hts _ kX8_corner_0) (fun _ h9 => h9) rfl dX8_corner_81 ?_
        refine lv_bipush (v := 21) hx hb dX8_corner_84 (by decide) ?_
        refine lv_iload_n hx hb dX8_corner_86 rfl (lv_at hl 0 rfl) ?_
        refine lv_iadd hx hb dX8_corner_87 ?_
        refine yk_ti (y := nI (21 + n)) (nI_add 21 n) ?_
        refine lv_iload_n hx hb dX8_corner_88 rfl (lv_at hl 3 rfl) ?_
        refine yk_ist hx hb hK hP hD hS 1 0 rfl rfl (21 + n) (by omega) (by decide) dX8_corner_89 (fun H locs hP9 hD9 hS9 => ?_)
        replace hP : va_P D vwCl [(ta, .inr (8, [.ref m_now, .ref m_undone, .ref m_slots, .ref m_slotKind, .ref m_hasSlot, .ref m_sheetBits, .ref m_sheetSize, .ref m_sheets, .int (nI ((f_X8_remember nw un u).1)), .int fi, .ref m_fresh, .long aa, .long bb, .long dd, .int (nI ro), .ref m_rootWhich, .int db, .ref m_signs, .ref m_atNought, .int (nI mn), .ref m_change, .ref m_table, .ref m_carried])), (m_now, .inl (cy 0, 29, .inl (upd (upd nw (13 + n) px) (21 + n) py))), (m_undone, .inl (cy 0, 725, .inl ((f_X8_remember nw un u).2)))] H := hP9
        replace hD : va_D A [(ta, .inr (8, [.ref m_now, .ref m_undone, .ref m_slots, .ref m_slotKind, .ref m_hasSlot, .ref m_sheetBits, .ref m_sheetSize, .ref m_sheets, .int (nI ((f_X8_remember nw un u).1)), .int fi, .ref m_fresh, .long aa, .long bb, .long dd, .int (nI ro), .ref m_rootWhich, .int db, .ref m_signs, .ref m_atNought, .int (nI mn), .ref m_change, .ref m_table, .ref m_carried])), (m_now, .inl (cy 0, 29, .inl (upd (upd nw (13 + n) px) (21 + n) py))), (m_undone, .inl (cy 0, 725, .inl ((f_X8_remember nw un u).2)))] := hD9
        replace hS := hS9
        clear hP9 hD9 hS9
        refine lv_aload_n hx hb dX8_corner_90 rfl (lv_at hl 1 rfl) ?_
        refine va_get (D := D) (ci := 8) (v := .ref m_now) (C := RX8) (T := TX8) (N := 23) hx hb hts uX8_corner_X8 hown hK hP 0 rfl rfl 0 (by decide) (hts _ kX8_corner_0) (fun _ h9 => h9) rfl dX8_corner_91 ?_
        refine lv_bipush (v := 12) hx hb dX8_corner_94 (by decide) ?_
        refine lv_dup2_11 hx hb dX8_corner_96 rfl rfl ?_
        refine yk_ild hx hb hK hP 1 0 rfl rfl 12 (by omega) (by decide) dX8_corner_97 ?_
        refine yk_ti (y := nI n) ((pk_un (by omega)).trans ((pk_un (by omega)).trans hn12)) ?_
        refine lv_iconst (v := 1) hx hb dX8_corner_98 (by decide) ?_
        refine lv_iadd hx hb dX8_corner_99 ?_
        refine yk_ti (y := nI (n + 1)) (nI_add n 1) ?_
        refine yk_ist hx hb hK hP hD hS 1 0 rfl rfl 12 (by omega) (by decide) dX8_corner_100 (fun H locs hP9 hD9 hS9 => ?_)
        replace hP : va_P D vwCl [(ta, .inr (8, [.ref m_now, .ref m_undone, .ref m_slots, .ref m_slotKind, .ref m_hasSlot, .ref m_sheetBits, .ref m_sheetSize, .ref m_sheets, .int (nI ((f_X8_remember nw un u).1)), .int fi, .ref m_fresh, .long aa, .long bb, .long dd, .int (nI ro), .ref m_rootWhich, .int db, .ref m_signs, .ref m_atNought, .int (nI mn), .ref m_change, .ref m_table, .ref m_carried])), (m_now, .inl (cy 0, 29, .inl (upd (upd (upd nw (13 + n) px) (21 + n) py) 12 (nI (n + 1))))), (m_undone, .inl (cy 0, 725, .inl ((f_X8_remember nw un u).2)))] H := hP9
        replace hD : va_D A [(ta, .inr (8, [.ref m_now, .ref m_undone, .ref m_slots, .ref m_slotKind, .ref m_hasSlot, .ref m_sheetBits, .ref m_sheetSize, .ref m_sheets, .int (nI ((f_X8_remember nw un u).1)), .int fi, .ref m_fresh, .long aa, .long bb, .long dd, .int (nI ro), .ref m_rootWhich, .int db, .ref m_signs, .ref m_atNought, .int (nI mn), .ref m_change, .ref m_table, .ref m_carried])), (m_now, .inl (cy 0, 29, .inl (upd (upd (upd nw (13 + n) px) (21 + n) py) 12 (nI (n + 1))))), (m_undone, .inl (cy 0, 725, .inl ((f_X8_remember nw un u).2)))] := hD9
        replace hS := hS9
        clear hP9 hD9 hS9
        refine lv_iload_n hx hb dX8_corner_101 rfl (lv_at hl 0 rfl) ?_
        refine lv_iconst (v := 1) hx hb dX8_corner_102 (by decide) ?_
        refine lv_iadd hx hb dX8_corner_103 ?_
        refine yk_ti (y := nI (n + 1)) (nI_add n 1) ?_
        have hF : f_X8_corner nw un u fi px py n = ((nI (n + 1)), ((f_X8_remember nw un u).1), fi, (upd (upd (upd nw (13 + n) px) (21 + n) py) 12 (nI (n + 1))), ((f_X8_remember nw un u).2)) := hF
        have hf0 := yk_fst hF
        have hg0 := yk_snd hF
        have hf1 := yk_fst hg0
        have hg1 := yk_snd hg0
        have hf2 := yk_fst hg1
        have hg2 := yk_snd hg1
        have hf3 := yk_fst hg2
        have hg3 := yk_snd hg2
        rw [hf0, hf1, hf2, hf3, hg3] at hQ
        exact hQ _ _ _ _ dX8_corner_104 hP hS
      · replace hF := hF.trans (if_pos hc3)
        refine lv_aload_n hx hb dX8_corner_59 rfl (lv_at hl 1 rfl) ?_
        refine lv_ldc (v := (-1000005)) hx hb hown (hts _ kX8_corner_1) dX8_corner_60 ?_
        refine yk_i [0] (va_runV (As := [.int (-1000005)]) (rest := []) ⟨hx, hb, hml, hown, hts⟩ (c_X8_found l D cy ta m_now m_undone m_slots m_slotKind m_hasSlot m_sheetBits m_sheetSize m_sheets m_fresh m_rootWhich m_signs m_atNought m_change m_table m_carried u fi aa bb dd ro db mn (-1000005) H.size) (cwV 1 hts gX8_corner_X8_found rfl rfl rfl hv_X8_found (yk_room hRf hRl rfl rfl)) (yk_pv (q := (RX8, TX8, 23)) hG hA hS hK hP hD [0] (by decide +kernel) rfl rfl rfl) rfl rfl hl.1 rfl (lv_room (Nat.le_of_ble_eq_true rfl)) dX8_corner_62 ⟨Nat.zero_le _, Nat.zero_le _⟩) hP hD hS hA rfl (Eq.trans (b := [ta]) rfl rfl) (fun H locs hP9 hD9 hS9 => ?_)
        replace hP : va_P D vwCl [(ta, .inr (8, [.ref m_now, .ref m_undone, .ref m_slots, .ref m_slotKind, .ref m_hasSlot, .ref m_sheetBits, .ref m_sheetSize, .ref m_sheets, .int (nI u), .int ((f_X8_found fi (-1000005)).2), .ref m_fresh, .long aa, .long bb, .long dd, .int (nI ro), .ref m_rootWhich, .int db, .ref m_signs, .ref m_atNought, .int (nI mn), .ref m_change, .ref m_table, .ref m_carried])), (m_now, .inl (cy 0, 29, .inl nw)), (m_undone, .inl (cy 0, 725, .inl un))] H := hP9
        replace hD : va_D A [(ta, .inr (8, [.ref m_now, .ref m_undone, .ref m_slots, .ref m_slotKind, .ref m_hasSlot, .ref m_sheetBits, .ref m_sheetSize, .ref m_sheets, .int (nI u), .int ((f_X8_found fi (-1000005)).2), .ref m_fresh, .long aa, .long bb, .long dd, .int (nI ro), .ref m_rootWhich, .int db, .ref m_signs, .ref m_atNought, .int (nI mn), .ref m_change, .ref m_table, .ref m_carried])), (m_now, .inl (cy 0, 29, .inl nw)), (m_undone, .inl (cy 0, 725, .inl un))] := hD9
        replace hS := hS9
        clear hP9 hD9 hS9
        have hF : f_X8_corner nw un u fi px py n = (((f_X8_found fi (-1000005)).1), u, ((f_X8_found fi (-1000005)).2), nw, un) := hF
        have hf0 := yk_fst hF
        have hg0 := yk_snd hF
        have hf1 := yk_fst hg0
        have hg1 := yk_snd hg0
        have hf2 := yk_fst hg1
        have hg2 := yk_snd hg1
        have hf3 := yk_fst hg2
        have hg3 := yk_snd hg2
        rw [hf0, hf1, hf2, hf3, hg3] at hQ
        exact hQ _ _ _ _ dX8_corner_65 hP hS
    · replace hF := hF.trans (if_neg hc2)
      have hn1 : 1 ≤ n := yk_pos (by assumption)
      refine lv_aload_n hx hb dX8_corner_24 rfl (lv_at hl 1 rfl) ?_
      refine lv_iload_n hx hb dX8_corner_25 rfl (lv_at hl 0 rfl) ?_
      refine lv_iconst (v := 1) hx hb dX8_corner_26 (by decide) ?_
      refine lv_isub hx hb dX8_corner_27 ?_
      refine yk_ti (y := nI (n - 1)) (pk_sub (b := 1) (yk_pos (by assumption))) ?_
      refine yk_i [0, 1] (va_runV (As := [.int (nI (n - 1))]) (rest := []) ⟨hx, hb, hml, hown, hts⟩ (c_X8_xOf l D cy ta m_now m_undone m_slots m_slotKind m_hasSlot m_sheetBits m_sheetSize m_sheets m_fresh m_rootWhich m_signs m_atNought m_change m_table m_carried nw u fi aa bb dd ro db mn (n - 1) n hn12 hn (by omega) (by omega) H.size) (cwV 1 hts gX8_corner_X8_xOf rfl rfl rfl hv_X8_xOf (yk_room hRf hRl rfl rfl)) (yk_pv (q := (RX8, TX8, 23)) hG hA hS hK hP hD [0, 1] (by decide +kernel) rfl rfl rfl) rfl rfl hl.1 rfl (lv_room (Nat.le_of_ble_eq_true rfl)) dX8_corner_28 ⟨Nat.zero_le _, Nat.zero_le _⟩) hP hD hS hA rfl (Eq.trans (b := [ta, m_now]) rfl rfl) (fun H locs hP9 hD9 hS9 => ?_)
      replace hP : va_P D vwCl [(ta, .inr (8, [.ref m_now, .ref m_undone, .ref m_slots, .ref m_slotKind, .ref m_hasSlot, .ref m_sheetBits, .ref m_sheetSize, .ref m_sheets, .int (nI u), .int fi, .ref m_fresh, .long aa, .long bb, .long dd, .int (nI ro), .ref m_rootWhich, .int db, .ref m_signs, .ref m_atNought, .int (nI mn), .ref m_change, .ref m_table, .ref m_carried])), (m_now, .inl (cy 0, 29, .inl nw)), (m_undone, .inl (cy 0, 725, .inl un))] H := hP9
      replace hD : va_D A [(ta, .inr (8, [.ref m_now, .ref m_undone, .ref m_slots, .ref m_slotKind, .ref m_hasSlot, .ref m_sheetBits, .ref m_sheetSize, .ref m_sheets, .int (nI u), .int fi, .ref m_fresh, .long aa, .long bb, .long dd, .int (nI ro), .ref m_rootWhich, .int db, .ref m_signs, .ref m_atNought, .int (nI mn), .ref m_change, .ref m_table, .ref m_carried])), (m_now, .inl (cy 0, 29, .inl nw)), (m_undone, .inl (cy 0, 725, .inl un))] := hD9
      replace hS := hS9
      clear hP9 hD9 hS9
      refine lv_iload_n hx hb dX8_corner_31 rfl (lv_at hl 2 rfl) ?_
      refine lv_icmp_ne (tgt := 53) hx hb dX8_corner_32 (by decide) (fun hc4 => ?_) (fun hc4 => ?_)
      · replace hF := hF.trans (if_neg hc4)
        refine lv_iload_n hx hb dX8_corner_53 rfl (lv_at hl 0 rfl) ?_
        refine lv_bipush (v := 8) hx hb dX8_corner_54 (by decide) ?_
        refine lv_icmp_ne (tgt := 66) hx hb dX8_corner_56 (by decide) (fun hc5 => ?_) (fun hc5 => ?_)
        · replace hF := hF.trans (if_neg hc5)
          have hn8 : n < 8 := yk_ne8 hn (by assumption)
          refine lv_aload_n hx hb dX8_corner_66 rfl (lv_at hl 1 rfl) ?_
          refine yk_v [0, 1, 2] (va_runV (As := []) (rest := []) ⟨hx, hb, hml, hown, hts⟩ (c_X8_remember l D cy ta m_now m_undone m_slots m_slotKind m_hasSlot m_sheetBits m_sheetSize m_sheets m_fresh m_rootWhich m_signs m_atNought m_change m_table m_carried nw un u fi aa bb dd ro db mn hu H.size) (cwV 0 hts gX8_corner_X8_remember rfl rfl rfl hv_X8_remember (yk_room hRf hRl rfl rfl)) (yk_pv (q := (RX8, TX8, 23)) hG hA hS hK hP hD [0, 1, 2] (by decide +kernel) rfl rfl rfl) rfl rfl hl.1 rfl (lv_room (Nat.le_of_ble_eq_true rfl)) dX8_corner_67 ⟨Nat.zero_le _, Nat.zero_le _⟩) hP hD hS hA rfl (Eq.trans (b := [ta, m_now, m_undone]) rfl rfl) (fun H locs hP9 hD9 hS9 => ?_)
          replace hP : va_P D vwCl [(ta, .inr (8, [.ref m_now, .ref m_undone, .ref m_slots, .ref m_slotKind, .ref m_hasSlot, .ref m_sheetBits, .ref m_sheetSize, .ref m_sheets, .int (nI ((f_X8_remember nw un u).1)), .int fi, .ref m_fresh, .long aa, .long bb, .long dd, .int (nI ro), .ref m_rootWhich, .int db, .ref m_signs, .ref m_atNought, .int (nI mn), .ref m_change, .ref m_table, .ref m_carried])), (m_now, .inl (cy 0, 29, .inl nw)), (m_undone, .inl (cy 0, 725, .inl ((f_X8_remember nw un u).2)))] H := hP9
          replace hD : va_D A [(ta, .inr (8, [.ref m_now, .ref m_undone, .ref m_slots, .ref m_slotKind, .ref m_hasSlot, .ref m_sheetBits, .ref m_sheetSize, .ref m_sheets, .int (nI ((f_X8_remember nw un u).1)), .int fi, .ref m_fresh, .long aa, .long bb, .long dd, .int (nI ro), .ref m_rootWhich, .int db, .ref m_signs, .ref m_atNought, .int (nI mn), .ref m_change, .ref m_table, .ref m_carried])), (m_now, .inl (cy 0, 29, .inl nw)), (m_undone, .inl (cy 0, 725, .inl ((f_X8_remember nw un u).2)))] := hD9
          replace hS := hS9
          clear hP9 hD9 hS9
          refine lv_aload_n hx hb dX8_corner_70 rfl (lv_at hl 1 rfl) ?_
          refine va_get (D := D) (ci := 8) (v := .ref m_now) (C := RX8) (T := TX8) (N := 23) hx hb hts uX8_corner_X8 hown hK hP 0 rfl rfl 0 (by decide) (hts _ kX8_corner_0) (fun _ h9 => h9) rfl dX8_corner_71 ?_
          refine lv_bipush (v := 13) hx hb dX8_corner_74 (by decide) ?_
          refine lv_iload_n hx hb dX8_corner_76 rfl (lv_at hl 0 rfl) ?_
          refine lv_iadd hx hb dX8_corner_77 ?_
          refine yk_ti (y := nI (13 + n)) (nI_add 13 n) ?_
          refine lv_iload_n hx hb dX8_corner_78 rfl (lv_at hl 2 rfl) ?_
          refine yk_ist hx hb hK hP hD hS 1 0 rfl rfl (13 + n) (by omega) (by decide) dX8_corner_79 (fun H locs hP9 hD9 hS9 => ?_)
          replace hP : va_P D vwCl [(ta, .inr (8, [.ref m_now, .ref m_undone, .ref m_slots, .ref m_slotKind, .ref m_hasSlot, .ref m_sheetBits, .ref m_sheetSize, .ref m_sheets, .int (nI ((f_X8_remember nw un u).1)), .int fi, .ref m_fresh, .long aa, .long bb, .long dd, .int (nI ro), .ref m_rootWhich, .int db, .ref m_signs, .ref m_atNought, .int (nI mn), .ref m_change, .ref m_table, .ref m_carried])), (m_now, .inl (cy 0, 29, .inl (upd nw (13 + n) px))), (m_undone, .inl (cy 0, 725, .inl ((f_X8_remember nw un u).2)))] H := hP9
          replace hD : va_D A [(ta, .inr (8, [.ref m_now, .ref m_undone, .ref m_slots, .ref m_slotKind, .ref m_hasSlot, .ref m_sheetBits, .ref m_sheetSize, .ref m_sheets, .int (nI ((f_X8_remember nw un u).1)), .int fi, .ref m_fresh, .long aa, .long bb, .long dd, .int (nI ro), .ref m_rootWhich, .int db, .ref m_signs, .ref m_atNought, .int (nI mn), .ref m_change, .ref m_table, .ref m_carried])), (m_now, .inl (cy 0, 29, .inl (upd nw (13 + n) px))), (m_undone, .inl (cy 0, 725, .inl ((f_X8_remember nw un u).2)))] := hD9
          replace hS := hS9
          clear hP9 hD9 hS9
          refine lv_aload_n hx hb dX8_corner_80 rfl (lv_at hl 1 rfl) ?_
          refine va_get (D := D) (ci := 8) (v := .ref m_now) (C := RX8) (T := TX8) (N := 23) hx hb hts uX8_corner_X8 hown hK hP 0 rfl rfl 0 (by decide) (hts _ kX8_corner_0) (fun _ h9 => h9) rfl dX8_corner_81 ?_
          refine lv_bipush (v := 21) hx hb dX8_corner_84 (by decide) ?_
          refine lv_iload_n hx hb dX8_corner_86 rfl (lv_at hl 0 rfl) ?_
          refine lv_iadd hx hb dX8_corner_87 ?_
          refine yk_ti (y := nI (21 + n)) (nI_add 21 n) ?_
          refine lv_iload_n hx hb dX8_corner_88 rfl (lv_at hl 3 rfl) ?_
          refine yk_ist hx hb hK hP hD hS 1 0 rfl rfl (21 + n) (by omega) (by decide) dX8_corner_89 (fun H locs hP9 hD9 hS9 => ?_)
          replace hP : va_P D vwCl [(ta, .inr (8, [.ref m_now, .ref m_undone, .ref m_slots, .ref m_slotKind, .ref m_hasSlot, .ref m_sheetBits, .ref m_sheetSize, .ref m_sheets, .int (nI ((f_X8_remember nw un u).1)), .int fi, .ref m_fresh, .long aa, .long bb, .long dd, .int (nI ro), .ref m_rootWhich, .int db, .ref m_signs, .ref m_atNought, .int (nI mn), .ref m_change, .ref m_table, .ref m_carried])), (m_now, .inl (cy 0, 29, .inl (upd (upd nw (13 + n) px) (21 + n) py))), (m_undone, .inl (cy 0, 725, .inl ((f_X8_remember nw un u).2)))] H := hP9
          replace hD : va_D A [(ta, .inr (8, [.ref m_now, .ref m_undone, .ref m_slots, .ref m_slotKind, .ref m_hasSlot, .ref m_sheetBits, .ref m_sheetSize, .ref m_sheets, .int (nI ((f_X8_remember nw un u).1)), .int fi, .ref m_fresh, .long aa, .long bb, .long dd, .int (nI ro), .ref m_rootWhich, .int db, .ref m_signs, .ref m_atNought, .int (nI mn), .ref m_change, .ref m_table, .ref m_carried])), (m_now, .inl (cy 0, 29, .inl (upd (upd nw (13 + n) px) (21 + n) py))), (m_undone, .inl (cy 0, 725, .inl ((f_X8_remember nw un u).2)))] := hD9
          replace hS := hS9
          clear hP9 hD9 hS9
          refine lv_aload_n hx hb dX8_corner_90 rfl (lv_at hl 1 rfl) ?_
          refine va_get (D := D) (ci := 8) (v := .ref m_now) (C := RX8) (T := TX8) (N := 23) hx hb hts uX8_corner_X8 hown hK hP 0 rfl rfl 0 (by decide) (hts _ kX8_corner_0) (fun _ h9 => h9) rfl dX8_corner_91 ?_
          refine lv_bipush (v := 12) hx hb dX8_corner_94 (by decide) ?_
          refine lv_dup2_11 hx hb dX8_corner_96 rfl rfl ?_
          refine yk_ild hx hb hK hP 1 0 rfl rfl 12 (by omega) (by decide) dX8_corner_97 ?_
          refine yk_ti (y := nI n) ((pk_un (by omega)).trans ((pk_un (by omega)).trans hn12)) ?_
          refine lv_iconst (v := 1) hx hb dX8_corner_98 (by decide) ?_
          refine lv_iadd hx hb dX8_corner_99 ?_
          refine yk_ti (y := nI (n + 1)) (nI_add n 1) ?_
          refine yk_ist hx hb hK hP hD hS 1 0 rfl rfl 12 (by omega) (by decide) dX8_corner_100 (fun H locs hP9 hD9 hS9 => ?_)
          replace hP : va_P D vwCl [(ta, .inr (8, [.ref m_now, .ref m_undone, .ref m_slots, .ref m_slotKind, .ref m_hasSlot, .ref m_sheetBits, .ref m_sheetSize, .ref m_sheets, .int (nI ((f_X8_remember nw un u).1)), .int fi, .ref m_fresh, .long aa, .long bb, .long dd, .int (nI ro), .ref m_rootWhich, .int db, .ref m_signs, .ref m_atNought, .int (nI mn), .ref m_change, .ref m_table, .ref m_carried])), (m_now, .inl (cy 0, 29, .inl (upd (upd (upd nw (13 + n) px) (21 + n) py) 12 (nI (n + 1))))), (m_undone, .inl (cy 0, 725, .inl ((f_X8_remember nw un u).2)))] H := hP9
          replace hD : va_D A [(ta, .inr (8, [.ref m_now, .ref m_undone, .ref m_slots, .ref m_slotKind, .ref m_hasSlot, .ref m_sheetBits, .ref m_sheetSize, .ref m_sheets, .int (nI ((f_X8_remember nw un u).1)), .int fi, .ref m_fresh, .long aa, .long bb, .long dd, .int (nI ro), .ref m_rootWhich, .int db, .ref m_signs, .ref m_atNought, .int (nI mn), .ref m_change, .ref m_table, .ref m_carried])), (m_now, .inl (cy 0, 29, .inl (upd (upd (upd nw (13 + n) px) (21 + n) py) 12 (nI (n + 1))))), (m_undone, .inl (cy 0, 725, .inl ((f_X8_remember nw un u).2)))] := hD9
          replace hS := hS9
          clear hP9 hD9 hS9
          refine lv_iload_n hx hb dX8_corner_101 rfl (lv_at hl 0 rfl) ?_
          refine lv_iconst (v := 1) hx hb dX8_corner_102 (by decide) ?_
          refine lv_iadd hx hb dX8_corner_103 ?_
          refine yk_ti (y := nI (n + 1)) (nI_add n 1) ?_
          have hF : f_X8_corner nw un u fi px py n = ((nI (n + 1)), ((f_X8_remember nw un u).1), fi, (upd (upd (upd nw (13 + n) px) (21 + n) py) 12 (nI (n + 1))), ((f_X8_remember nw un u).2)) := hF
          have hf0 := yk_fst hF
          have hg0 := yk_snd hF
          have hf1 := yk_fst hg0
          have hg1 := yk_snd hg0
          have hf2 := yk_fst hg1
          have hg2 := yk_snd hg1
          have hf3 := yk_fst hg2
          have hg3 := yk_snd hg2
          rw [hf0, hf1, hf2, hf3, hg3] at hQ
          exact hQ _ _ _ _ dX8_corner_104 hP hS
        · replace hF := hF.trans (if_pos hc5)
          refine lv_aload_n hx hb dX8_corner_59 rfl (lv_at hl 1 rfl) ?_
          refine lv_ldc (v := (-1000005)) hx hb hown (hts _ kX8_corner_1) dX8_corner_60 ?_
          refine yk_i [0] (va_runV (As := [.int (-1000005)]) (rest := []) ⟨hx, hb, hml, hown, hts⟩ (c_X8_found l D cy ta m_now m_undone m_slots m_slotKind m_hasSlot m_sheetBits m_sheetSize m_sheets m_fresh m_rootWhich m_signs m_atNought m_change m_table m_carried u fi aa bb dd ro db mn (-1000005) H.size) (cwV 1 hts gX8_corner_X8_found rfl rfl rfl hv_X8_found (yk_room hRf hRl rfl rfl)) (yk_pv (q := (RX8, TX8, 23)) hG hA hS hK hP hD [0] (by decide +kernel) rfl rfl rfl) rfl rfl hl.1 rfl (lv_room (Nat.le_of_ble_eq_true rfl)) dX8_corner_62 ⟨Nat.zero_le _, Nat.zero_le _⟩) hP hD hS hA rfl (Eq.trans (b := [ta]) rfl rfl) (fun H locs hP9 hD9 hS9 => ?_)
          replace hP : va_P D vwCl [(ta, .inr (8, [.ref m_now, .ref m_undone, .ref m_slots, .ref m_slotKind, .ref m_hasSlot, .ref m_sheetBits, .ref m_sheetSize, .ref m_sheets, .int (nI u), .int ((f_X8_found fi (-1000005)).2), .ref m_fresh, .long aa, .long bb, .long dd, .int (nI ro), .ref m_rootWhich, .int db, .ref m_signs, .ref m_atNought, .int (nI mn), .ref m_change, .ref m_table, .ref m_carried])), (m_now, .inl (cy 0, 29, .inl nw)), (m_undone, .inl (cy 0, 725, .inl un))] H := hP9
          replace hD : va_D A [(ta, .inr (8, [.ref m_now, .ref m_undone, .ref m_slots, .ref m_slotKind, .ref m_hasSlot, .ref m_sheetBits, .ref m_sheetSize, .ref m_sheets, .int (nI u), .int ((f_X8_found fi (-1000005)).2), .ref m_fresh, .long aa, .long bb, .long dd, .int (nI ro), .ref m_rootWhich, .int db, .ref m_signs, .ref m_atNought, .int (nI mn), .ref m_change, .ref m_table, .ref m_carried])), (m_now, .inl (cy 0, 29, .inl nw)), (m_undone, .inl (cy 0, 725, .inl un))] := hD9
          replace hS := hS9
          clear hP9 hD9 hS9
          have hF : f_X8_corner nw un u fi px py n = (((f_X8_found fi (-1000005)).1), u, ((f_X8_found fi (-1000005)).2), nw, un) := hF
          have hf0 := yk_fst hF
          have hg0 := yk_snd hF
          have hf1 := yk_fst hg0
          have hg1 := yk_snd hg0
          have hf2 := yk_fst hg1
          have hg2 := yk_snd hg1
          have hf3 := yk_fst hg2
          have hg3 := yk_snd hg2
          rw [hf0, hf1, hf2, hf3, hg3] at hQ
          exact hQ _ _ _ _ dX8_corner_65 hP hS
      · replace hF := hF.trans (if_pos hc4)
        refine lv_aload_n hx hb dX8_corner_35 rfl (lv_at hl 1 rfl) ?_
        refine lv_iload_n hx hb dX8_corner_36 rfl (lv_at hl 0 rfl) ?_
        refine lv_iconst (v := 1) hx hb dX8_corner_37 (by decide) ?_
        refine lv_isub hx hb dX8_corner_38 ?_
        refine yk_ti (y := nI (n - 1)) (pk_sub (b := 1) (yk_pos (by assumption))) ?_
        refine yk_i [0, 1] (va_runV (As := [.int (nI (n - 1))]) (rest := []) ⟨hx, hb, hml, hown, hts⟩ (c_X8_yOf l D cy ta m_now m_undone m_slots m_slotKind m_hasSlot m_sheetBits m_sheetSize m_sheets m_fresh m_rootWhich m_signs m_atNought m_change m_table m_carried nw u fi aa bb dd ro db mn (n - 1) n hn12 hn (by omega) (by omega) H.size) (cwV 1 hts gX8_corner_X8_yOf rfl rfl rfl hv_X8_yOf (yk_room hRf hRl rfl rfl)) (yk_pv (q := (RX8, TX8, 23)) hG hA hS hK hP hD [0, 1] (by decide +kernel) rfl rfl rfl) rfl rfl hl.1 rfl (lv_room (Nat.le_of_ble_eq_true rfl)) dX8_corner_39 ⟨Nat.zero_le _, Nat.zero_le _⟩) hP hD hS hA rfl (Eq.trans (b := [ta, m_now]) rfl rfl) (fun H locs hP9 hD9 hS9 => ?_)
        replace hP : va_P D vwCl [(ta, .inr (8, [.ref m_now, .ref m_undone, .ref m_slots, .ref m_slotKind, .ref m_hasSlot, .ref m_sheetBits, .ref m_sheetSize, .ref m_sheets, .int (nI u), .int fi, .ref m_fresh, .long aa, .long bb, .long dd, .int (nI ro), .ref m_rootWhich, .int db, .ref m_signs, .ref m_atNought, .int (nI mn), .ref m_change, .ref m_table, .ref m_carried])), (m_now, .inl (cy 0, 29, .inl nw)), (m_undone, .inl (cy 0, 725, .inl un))] H := hP9
        replace hD : va_D A [(ta, .inr (8, [.ref m_now, .ref m_undone, .ref m_slots, .ref m_slotKind, .ref m_hasSlot, .ref m_sheetBits, .ref m_sheetSize, .ref m_sheets, .int (nI u), .int fi, .ref m_fresh, .long aa, .long bb, .long dd, .int (nI ro), .ref m_rootWhich, .int db, .ref m_signs, .ref m_atNought, .int (nI mn), .ref m_change, .ref m_table, .ref m_carried])), (m_now, .inl (cy 0, 29, .inl nw)), (m_undone, .inl (cy 0, 725, .inl un))] := hD9
        replace hS := hS9
        clear hP9 hD9 hS9
        refine lv_iload_n hx hb dX8_corner_42 rfl (lv_at hl 3 rfl) ?_
        refine lv_icmp_ne (tgt := 53) hx hb dX8_corner_43 (by decide) (fun hc6 => ?_) (fun hc6 => ?_)
        · replace hF := hF.trans (if_neg hc6)
          refine lv_iload_n hx hb dX8_corner_53 rfl (lv_at hl 0 rfl) ?_
          refine lv_bipush (v := 8) hx hb dX8_corner_54 (by decide) ?_
          refine lv_icmp_ne (tgt := 66) hx hb dX8_corner_56 (by decide) (fun hc7 => ?_) (fun hc7 => ?_)
          · replace hF := hF.trans (if_neg hc7)
            have hn8 : n < 8 := yk_ne8 hn (by assumption)
            refine lv_aload_n hx hb dX8_corner_66 rfl (lv_at hl 1 rfl) ?_
            refine yk_v [0, 1, 2] (va_runV (As := []) (rest := []) ⟨hx, hb, hml, hown, hts⟩ (c_X8_remember l D cy ta m_now m_undone m_slots m_slotKind m_hasSlot m_sheetBits m_sheetSize m_sheets m_fresh m_rootWhich m_signs m_atNought m_change m_table m_carried nw un u fi aa bb dd ro db mn hu H.size) (cwV 0 hts gX8_corner_X8_remember rfl rfl rfl hv_X8_remember (yk_room hRf hRl rfl rfl)) (yk_pv (q := (RX8, TX8, 23)) hG hA hS hK hP hD [0, 1, 2] (by decide +kernel) rfl rfl rfl) rfl rfl hl.1 rfl (lv_room (Nat.le_of_ble_eq_true rfl)) dX8_corner_67 ⟨Nat.zero_le _, Nat.zero_le _⟩) hP hD hS hA rfl (Eq.trans (b := [ta, m_now, m_undone]) rfl rfl) (fun H locs hP9 hD9 hS9 => ?_)
            replace hP : va_P D vwCl [(ta, .inr (8, [.ref m_now, .ref m_undone, .ref m_slots, .ref m_slotKind, .ref m_hasSlot, .ref m_sheetBits, .ref m_sheetSize, .ref m_sheets, .int (nI ((f_X8_remember nw un u).1)), .int fi, .ref m_fresh, .long aa, .long bb, .long dd, .int (nI ro), .ref m_rootWhich, .int db, .ref m_signs, .ref m_atNought, .int (nI mn), .ref m_change, .ref m_table, .ref m_carried])), (m_now, .inl (cy 0, 29, .inl nw)), (m_undone, .inl (cy 0, 725, .inl ((f_X8_remember nw un u).2)))] H := hP9
            replace hD : va_D A [(ta, .inr (8, [.ref m_now, .ref m_undone, .ref m_slots, .ref m_slotKind, .ref m_hasSlot, .ref m_sheetBits, .ref m_sheetSize, .ref m_sheets, .int (nI ((f_X8_remember nw un u).1)), .int fi, .ref m_fresh, .long aa, .long bb, .long dd, .int (nI ro), .ref m_rootWhich, .int db, .ref m_signs, .ref m_atNought, .int (nI mn), .ref m_change, .ref m_table, .ref m_carried])), (m_now, .inl (cy 0, 29, .inl nw)), (m_undone, .inl (cy 0, 725, .inl ((f_X8_remember nw un u).2)))] := hD9
            replace hS := hS9
            clear hP9 hD9 hS9
            refine lv_aload_n hx hb dX8_corner_70 rfl (lv_at hl 1 rfl) ?_
            refine va_get (D := D) (ci := 8) (v := .ref m_now) (C := RX8) (T := TX8) (N := 23) hx hb hts uX8_corner_X8 hown hK hP 0 rfl rfl 0 (by decide) (hts _ kX8_corner_0) (fun _ h9 => h9) rfl dX8_corner_71 ?_
            refine lv_bipush (v := 13) hx hb dX8_corner_74 (by decide) ?_
            refine lv_iload_n hx hb dX8_corner_76 rfl (lv_at hl 0 rfl) ?_
            refine lv_iadd hx hb dX8_corner_77 ?_
            refine yk_ti (y := nI (13 + n)) (nI_add 13 n) ?_
            refine lv_iload_n hx hb dX8_corner_78 rfl (lv_at hl 2 rfl) ?_
            refine yk_ist hx hb hK hP hD hS 1 0 rfl rfl (13 + n) (by omega) (by decide) dX8_corner_79 (fun H locs hP9 hD9 hS9 => ?_)
            replace hP : va_P D vwCl [(ta, .inr (8, [.ref m_now, .ref m_undone, .ref m_slots, .ref m_slotKind, .ref m_hasSlot, .ref m_sheetBits, .ref m_sheetSize, .ref m_sheets, .int (nI ((f_X8_remember nw un u).1)), .int fi, .ref m_fresh, .long aa, .long bb, .long dd, .int (nI ro), .ref m_rootWhich, .int db, .ref m_signs, .ref m_atNought, .int (nI mn), .ref m_change, .ref m_table, .ref m_carried])), (m_now, .inl (cy 0, 29, .inl (upd nw (13 + n) px))), (m_undone, .inl (cy 0, 725, .inl ((f_X8_remember nw un u).2)))] H := hP9
            replace hD : va_D A [(ta, .inr (8, [.ref m_now, .ref m_undone, .ref m_slots, .ref m_slotKind, .ref m_hasSlot, .ref m_sheetBits, .ref m_sheetSize, .ref m_sheets, .int (nI ((f_X8_remember nw un u).1)), .int fi, .ref m_fresh, .long aa, .long bb, .long dd, .int (nI ro), .ref m_rootWhich, .int db, .ref m_signs, .ref m_atNought, .int (nI mn), .ref m_change, .ref m_table, .ref m_carried])), (m_now, .inl (cy 0, 29, .inl (upd nw (13 + n) px))), (m_undone, .inl (cy 0, 725, .inl ((f_X8_remember nw un u).2)))] := hD9
            replace hS := hS9
            clear hP9 hD9 hS9
            refine lv_aload_n hx hb dX8_corner_80 rfl (lv_at hl 1 rfl) ?_
            refine va_get (D := D) (ci := 8) (v := .ref m_now) (C := RX8) (T := TX8) (N := 23) hx hb hts uX8_corner_X8 hown hK hP 0 rfl rfl 0 (by decide) (hts _ kX8_corner_0) (fun _ h9 => h9) rfl dX8_corner_81 ?_
            refine lv_bipush (v := 21) hx hb dX8_corner_84 (by decide) ?_
            refine lv_iload_n hx hb dX8_corner_86 rfl (lv_at hl 0 rfl) ?_
            refine lv_iadd hx hb dX8_corner_87 ?_
            refine yk_ti (y := nI (21 + n)) (nI_add 21 n) ?_
            refine lv_iload_n hx hb dX8_corner_88 rfl (lv_at hl 3 rfl) ?_
            refine yk_ist hx hb hK hP hD hS 1 0 rfl rfl (21 + n) (by omega) (by decide) dX8_corner_89 (fun H locs hP9 hD9 hS9 => ?_)
            replace hP : va_P D vwCl [(ta, .inr (8, [.ref m_now, .ref m_undone, .ref m_slots, .ref m_slotKind, .ref m_hasSlot, .ref m_sheetBits, .ref m_sheetSize, .ref m_sheets, .int (nI ((f_X8_remember nw un u).1)), .int fi, .ref m_fresh, .long aa, .long bb, .long dd, .int (nI ro), .ref m_rootWhich, .int db, .ref m_signs, .ref m_atNought, .int (nI mn), .ref m_change, .ref m_table, .ref m_carried])), (m_now, .inl (cy 0, 29, .inl (upd (upd nw (13 + n) px) (21 + n) py))), (m_undone, .inl (cy 0, 725, .inl ((f_X8_remember nw un u).2)))] H := hP9
            replace hD : va_D A [(ta, .inr (8, [.ref m_now, .ref m_undone, .ref m_slots, .ref m_slotKind, .ref m_hasSlot, .ref m_sheetBits, .ref m_sheetSize, .ref m_sheets, .int (nI ((f_X8_remember nw un u).1)), .int fi, .ref m_fresh, .long aa, .long bb, .long dd, .int (nI ro), .ref m_rootWhich, .int db, .ref m_signs, .ref m_atNought, .int (nI mn), .ref m_change, .ref m_table, .ref m_carried])), (m_now, .inl (cy 0, 29, .inl (upd (upd nw (13 + n) px) (21 + n) py))), (m_undone, .inl (cy 0, 725, .inl ((f_X8_remember nw un u).2)))] := hD9
            replace hS := hS9
            clear hP9 hD9 hS9
            refine lv_aload_n hx hb dX8_corner_90 rfl (lv_at hl 1 rfl) ?_
            refine va_get (D := D) (ci := 8) (v := .ref m_now) (C := RX8) (T := TX8) (N := 23) hx hb hts uX8_corner_X8 hown hK hP 0 rfl rfl 0 (by decide) (hts _ kX8_corner_0) (fun _ h9 => h9) rfl dX8_corner_91 ?_
            refine lv_bipush (v := 12) hx hb dX8_corner_94 (by decide) ?_
            refine lv_dup2_11 hx hb dX8_corner_96 rfl rfl ?_
            refine yk_ild hx hb hK hP 1 0 rfl rfl 12 (by omega) (by decide) dX8_corner_97 ?_
            refine yk_ti (y := nI n) ((pk_un (by omega)).trans ((pk_un (by omega)).trans hn12)) ?_
            refine lv_iconst (v := 1) hx hb dX8_corner_98 (by decide) ?_
            refine lv_iadd hx hb dX8_corner_99 ?_
            refine yk_ti (y := nI (n + 1)) (nI_add n 1) ?_
            refine yk_ist hx hb hK hP hD hS 1 0 rfl rfl 12 (by omega) (by decide) dX8_corner_100 (fun H locs hP9 hD9 hS9 => ?_)
            replace hP : va_P D vwCl [(ta, .inr (8, [.ref m_now, .ref m_undone, .ref m_slots, .ref m_slotKind, .ref m_hasSlot, .ref m_sheetBits, .ref m_sheetSize, .ref m_sheets, .int (nI ((f_X8_remember nw un u).1)), .int fi, .ref m_fresh, .long aa, .long bb, .long dd, .int (nI ro), .ref m_rootWhich, .int db, .ref m_signs, .ref m_atNought, .int (nI mn), .ref m_change, .ref m_table, .ref m_carried])), (m_now, .inl (cy 0, 29, .inl (upd (upd (upd nw (13 + n) px) (21 + n) py) 12 (nI (n + 1))))), (m_undone, .inl (cy 0, 725, .inl ((f_X8_remember nw un u).2)))] H := hP9
            replace hD : va_D A [(ta, .inr (8, [.ref m_now, .ref m_undone, .ref m_slots, .ref m_slotKind, .ref m_hasSlot, .ref m_sheetBits, .ref m_sheetSize, .ref m_sheets, .int (nI ((f_X8_remember nw un u).1)), .int fi, .ref m_fresh, .long aa, .long bb, .long dd, .int (nI ro), .ref m_rootWhich, .int db, .ref m_signs, .ref m_atNought, .int (nI mn), .ref m_change, .ref m_table, .ref m_carried])), (m_now, .inl (cy 0, 29, .inl (upd (upd (upd nw (13 + n) px) (21 + n) py) 12 (nI (n + 1))))), (m_undone, .inl (cy 0, 725, .inl ((f_X8_remember nw un u).2)))] := hD9
            replace hS := hS9
            clear hP9 hD9 hS9
            refine lv_iload_n hx hb dX8_corner_101 rfl (lv_at hl 0 rfl) ?_
            refine lv_iconst (v := 1) hx hb dX8_corner_102 (by decide) ?_
            refine lv_iadd hx hb dX8_corner_103 ?_
            refine yk_ti (y := nI (n + 1)) (nI_add n 1) ?_
            have hF : f_X8_corner nw un u fi px py n = ((nI (n + 1)), ((f_X8_remember nw un u).1), fi, (upd (upd (upd nw (13 + n) px) (21 + n) py) 12 (nI (n + 1))), ((f_X8_remember nw un u).2)) := hF
            have hf0 := yk_fst hF
            have hg0 := yk_snd hF
            have hf1 := yk_fst hg0
            have hg1 := yk_snd hg0
            have hf2 := yk_fst hg1
            have hg2 := yk_snd hg1
            have hf3 := yk_fst hg2
            have hg3 := yk_snd hg2
            rw [hf0, hf1, hf2, hf3, hg3] at hQ
            exact hQ _ _ _ _ dX8_corner_104 hP hS
          · replace hF := hF.trans (if_pos hc7)
            refine lv_aload_n hx hb dX8_corner_59 rfl (lv_at hl 1 rfl) ?_
            refine lv_ldc (v := (-1000005)) hx hb hown (hts _ kX8_corner_1) dX8_corner_60 ?_
            refine yk_i [0] (va_runV (As := [.int (-1000005)]) (rest := []) ⟨hx, hb, hml, hown, hts⟩ (c_X8_found l D cy ta m_now m_undone m_slots m_slotKind m_hasSlot m_sheetBits m_sheetSize m_sheets m_fresh m_rootWhich m_signs m_atNought m_change m_table m_carried u fi aa bb dd ro db mn (-1000005) H.size) (cwV 1 hts gX8_corner_X8_found rfl rfl rfl hv_X8_found (yk_room hRf hRl rfl rfl)) (yk_pv (q := (RX8, TX8, 23)) hG hA hS hK hP hD [0] (by decide +kernel) rfl rfl rfl) rfl rfl hl.1 rfl (lv_room (Nat.le_of_ble_eq_true rfl)) dX8_corner_62 ⟨Nat.zero_le _, Nat.zero_le _⟩) hP hD hS hA rfl (Eq.trans (b := [ta]) rfl rfl) (fun H locs hP9 hD9 hS9 => ?_)
            replace hP : va_P D vwCl [(ta, .inr (8, [.ref m_now, .ref m_undone, .ref m_slots, .ref m_slotKind, .ref m_hasSlot, .ref m_sheetBits, .ref m_sheetSize, .ref m_sheets, .int (nI u), .int ((f_X8_found fi (-1000005)).2), .ref m_fresh, .long aa, .long bb, .long dd, .int (nI ro), .ref m_rootWhich, .int db, .ref m_signs, .ref m_atNought, .int (nI mn), .ref m_change, .ref m_table, .ref m_carried])), (m_now, .inl (cy 0, 29, .inl nw)), (m_undone, .inl (cy 0, 725, .inl un))] H := hP9
            replace hD : va_D A [(ta, .inr (8, [.ref m_now, .ref m_undone, .ref m_slots, .ref m_slotKind, .ref m_hasSlot, .ref m_sheetBits, .ref m_sheetSize, .ref m_sheets, .int (nI u), .int ((f_X8_found fi (-1000005)).2), .ref m_fresh, .long aa, .long bb, .long dd, .int (nI ro), .ref m_rootWhich, .int db, .ref m_signs, .ref m_atNought, .int (nI mn), .ref m_change, .ref m_table, .ref m_carried])), (m_now, .inl (cy 0, 29, .inl nw)), (m_undone, .inl (cy 0, 725, .inl un))] := hD9
            replace hS := hS9
            clear hP9 hD9 hS9
            have hF : f_X8_corner nw un u fi px py n = (((f_X8_found fi (-1000005)).1), u, ((f_X8_found fi (-1000005)).2), nw, un) := hF
            have hf0 := yk_fst hF
            have hg0 := yk_snd hF
            have hf1 := yk_fst hg0
            have hg1 := yk_snd hg0
            have hf2 := yk_fst hg1
            have hg2 := yk_snd hg1
            have hf3 := yk_fst hg2
            have hg3 := yk_snd hg2
            rw [hf0, hf1, hf2, hf3, hg3] at hQ
            exact hQ _ _ _ _ dX8_corner_65 hP hS
        · replace hF := hF.trans (if_pos hc6)
          refine lv_aload_n hx hb dX8_corner_46 rfl (lv_at hl 1 rfl) ?_
          refine lv_ldc (v := (-1000003)) hx hb hown (hts _ kX8_corner_2) dX8_corner_47 ?_
          refine yk_i [0] (va_runV (As := [.int (-1000003)]) (rest := []) ⟨hx, hb, hml, hown, hts⟩ (c_X8_found l D cy ta m_now m_undone m_slots m_slotKind m_hasSlot m_sheetBits m_sheetSize m_sheets m_fresh m_rootWhich m_signs m_atNought m_change m_table m_carried u fi aa bb dd ro db mn (-1000003) H.size) (cwV 1 hts gX8_corner_X8_found rfl rfl rfl hv_X8_found (yk_room hRf hRl rfl rfl)) (yk_pv (q := (RX8, TX8, 23)) hG hA hS hK hP hD [0] (by decide +kernel) rfl rfl rfl) rfl rfl hl.1 rfl (lv_room (Nat.le_of_ble_eq_true rfl)) dX8_corner_49 ⟨Nat.zero_le _, Nat.zero_le _⟩) hP hD hS hA rfl (Eq.trans (b := [ta]) rfl rfl) (fun H locs hP9 hD9 hS9 => ?_)
          replace hP : va_P D vwCl [(ta, .inr (8, [.ref m_now, .ref m_undone, .ref m_slots, .ref m_slotKind, .ref m_hasSlot, .ref m_sheetBits, .ref m_sheetSize, .ref m_sheets, .int (nI u), .int ((f_X8_found fi (-1000003)).2), .ref m_fresh, .long aa, .long bb, .long dd, .int (nI ro), .ref m_rootWhich, .int db, .ref m_signs, .ref m_atNought, .int (nI mn), .ref m_change, .ref m_table, .ref m_carried])), (m_now, .inl (cy 0, 29, .inl nw)), (m_undone, .inl (cy 0, 725, .inl un))] H := hP9
          replace hD : va_D A [(ta, .inr (8, [.ref m_now, .ref m_undone, .ref m_slots, .ref m_slotKind, .ref m_hasSlot, .ref m_sheetBits, .ref m_sheetSize, .ref m_sheets, .int (nI u), .int ((f_X8_found fi (-1000003)).2), .ref m_fresh, .long aa, .long bb, .long dd, .int (nI ro), .ref m_rootWhich, .int db, .ref m_signs, .ref m_atNought, .int (nI mn), .ref m_change, .ref m_table, .ref m_carried])), (m_now, .inl (cy 0, 29, .inl nw)), (m_undone, .inl (cy 0, 725, .inl un))] := hD9
          replace hS := hS9
          clear hP9 hD9 hS9
          have hF : f_X8_corner nw un u fi px py n = (((f_X8_found fi (-1000003)).1), u, ((f_X8_found fi (-1000003)).2), nw, un) := hF
          have hf0 := yk_fst hF
          have hg0 := yk_snd hF
          have hf1 := yk_fst hg0
          have hg1 := yk_snd hg0
          have hf2 := yk_fst hg1
          have hg2 := yk_snd hg1
          have hf3 := yk_fst hg2
          have hg3 := yk_snd hg2
          rw [hf0, hf1, hf2, hf3, hg3] at hQ
          exact hQ _ _ _ _ dX8_corner_52 hP hS
  · replace hF := hF.trans (if_pos hc1)
    refine lv_aload_n hx hb dX8_corner_8 rfl (lv_at hl 0 rfl) ?_
    refine lv_ldc (v := (-1000001)) hx hb hown (hts _ kX8_corner_3) dX8_corner_9 ?_
    refine yk_i [0] (va_runV (As := [.int (-1000001)]) (rest := []) ⟨hx, hb, hml, hown, hts⟩ (c_X8_found l D cy ta m_now m_undone m_slots m_slotKind m_hasSlot m_sheetBits m_sheetSize m_sheets m_fresh m_rootWhich m_signs m_atNought m_change m_table m_carried u fi aa bb dd ro db mn (-1000001) H.size) (cwV 1 hts gX8_corner_X8_found rfl rfl rfl hv_X8_found (yk_room hRf hRl rfl rfl)) (yk_pv (q := (RX8, TX8, 23)) hG hA hS hK hP hD [0] (by decide +kernel) rfl rfl rfl) rfl rfl hl.1 rfl (lv_room (Nat.le_of_ble_eq_true rfl)) dX8_corner_11 ⟨Nat.zero_le _, Nat.zero_le _⟩) hP hD hS hA rfl (Eq.trans (b := [ta]) rfl rfl) (fun H locs hP9 hD9 hS9 => ?_)
    replace hP : va_P D vwCl [(ta, .inr (8, [.ref m_now, .ref m_undone, .ref m_slots, .ref m_slotKind, .ref m_hasSlot, .ref m_sheetBits, .ref m_sheetSize, .ref m_sheets, .int (nI u), .int ((f_X8_found fi (-1000001)).2), .ref m_fresh, .long aa, .long bb, .long dd, .int (nI ro), .ref m_rootWhich, .int db, .ref m_signs, .ref m_atNought, .int (nI mn), .ref m_change, .ref m_table, .ref m_carried])), (m_now, .inl (cy 0, 29, .inl nw)), (m_undone, .inl (cy 0, 725, .inl un))] H := hP9
    replace hD : va_D A [(ta, .inr (8, [.ref m_now, .ref m_undone, .ref m_slots, .ref m_slotKind, .ref m_hasSlot, .ref m_sheetBits, .ref m_sheetSize, .ref m_sheets, .int (nI u), .int ((f_X8_found fi (-1000001)).2), .ref m_fresh, .long aa, .long bb, .long dd, .int (nI ro), .ref m_rootWhich, .int db, .ref m_signs, .ref m_atNought, .int (nI mn), .ref m_change, .ref m_table, .ref m_carried])), (m_now, .inl (cy 0, 29, .inl nw)), (m_undone, .inl (cy 0, 725, .inl un))] := hD9
    replace hS := hS9
    clear hP9 hD9 hS9
    have hF : f_X8_corner nw un u fi px py n = (((f_X8_found fi (-1000001)).1), u, ((f_X8_found fi (-1000001)).2), nw, un) := hF
    have hf0 := yk_fst hF
    have hg0 := yk_snd hF
    have hf1 := yk_fst hg0
    have hg1 := yk_snd hg0
    have hf2 := yk_fst hg1
    have hg2 := yk_snd hg1
    have hf3 := yk_fst hg2
    have hg3 := yk_snd hg2
    rw [hf0, hf1, hf2, hf3, hg3] at hQ
    exact hQ _ _ _ _ dX8_corner_14 hP hS

theorem kX8_open_0 : Cond.fieldLink RX8 7 "FlowPlaneModel" "now" "[I" ∈ wsX8_open := by decide +kernel
theorem uX8_open_X8 : ∀ w ∈ u_ws RX8 TX8 23, w ∈ wsX8_open := by decide +kernel
def f_X8_open (nw : Nat → Int32) (un : Nat → Int32) (u : Nat) : Int32 × Nat × (Nat → Int32) × (Nat → Int32) := ((f_X8_corners nw), ((f_X8_remember nw un u).1), (upd nw 12 0), ((f_X8_remember nw un u).2))
set_option maxHeartbeats 400000000 in
set_option maxRecDepth 100000 in
theorem c_X8_open (l : Launch) (D : va_G) (cy : Nat → ClassId) (ta : Nat) (m_now : Nat) (m_undone : Nat) (m_slots : Nat) (m_slotKind : Nat) (m_hasSlot : Nat) (m_sheetBits : Nat) (m_sheetSize : Nat) (m_sheets : Nat) (m_fresh : Nat) (m_rootWhich : Nat) (m_signs : Nat) (m_atNought : Nat) (m_change : Nat) (m_table : Nat) (m_carried : Nat) (nw : Nat → Int32) (un : Nat → Int32) (u : Nat) (fi : Int32) (aa : Int64) (bb : Int64) (dd : Int64) (ro : Nat) (db : Int32) (mn : Nat) (n : Nat) (hu : u ≤ 25) (hn12 : nw 12 = nI n) (hn : n ≤ 8) : yk_Ci l D vwCl (yk_ty cy) yX8_open wsX8_open 1 21 [.ref ta] [(ta, .inr (8, [.ref m_now, .ref m_undone, .ref m_slots, .ref m_slotKind, .ref m_hasSlot, .ref m_sheetBits, .ref m_sheetSize, .ref m_sheets, .int (nI u), .int fi, .ref m_fresh, .long aa, .long bb, .long dd, .int (nI ro), .ref m_rootWhich, .int db, .ref m_signs, .ref m_atNought, .int (nI mn), .ref m_change, .ref m_table, .ref m_carried])), (m_now, .inl (cy 0, 29, .inl nw)), (m_undone, .inl (cy 0, 725, .inl un))] ((f_X8_open nw un u).1) [(ta, .inr (8, [.ref m_now, .ref m_undone, .ref m_slots, .ref m_slotKind, .ref m_hasSlot, .ref m_sheetBits, .ref m_sheetSize, .ref m_sheets, .int (nI ((f_X8_open nw un u).2.1)), .int fi, .ref m_fresh, .long aa, .long bb, .long dd, .int (nI ro), .ref m_rootWhich, .int db, .ref m_signs, .ref m_atNought, .int (nI mn), .ref m_change, .ref m_table, .ref m_carried])), (m_now, .inl (cy 0, 29, .inl ((f_X8_open nw un u).2.2.1))), (m_undone, .inl (cy 0, 725, .inl ((f_X8_open nw un u).2.2.2)))] := by
  refine yk_eI (cc := cX8_open) (maxL := 2) (by decide) rfl (Nat.le_of_ble_eq_true rfl) rfl ?_
  intro p e R s m args below meth c A Q ls H locs hx hb hml hown hts hRf hRl hA hK hG hP hD hS hl hQ
  have hP : va_P D vwCl [(ta, .inr (8, [.ref m_now, .ref m_undone, .ref m_slots, .ref m_slotKind, .ref m_hasSlot, .ref m_sheetBits, .ref m_sheetSize, .ref m_sheets, .int (nI u), .int fi, .ref m_fresh, .long aa, .long bb, .long dd, .int (nI ro), .ref m_rootWhich, .int db, .ref m_signs, .ref m_atNought, .int (nI mn), .ref m_change, .ref m_table, .ref m_carried])), (m_now, .inl (cy 0, 29, .inl nw)), (m_undone, .inl (cy 0, 725, .inl un))] H := hP
  have hl : lv_has ls 2 [(0, .ref ta)] := hl
  have hown : s.vm.findClass RX8 = some m.cls := hown
  have hF : (f_X8_open nw un u) = (f_X8_open nw un u) := rfl
  refine lv_aload_n hx hb dX8_open_0 rfl (lv_at hl 0 rfl) ?_
  refine yk_v [0, 1, 2] (va_runV (As := []) (rest := []) ⟨hx, hb, hml, hown, hts⟩ (c_X8_remember l D cy ta m_now m_undone m_slots m_slotKind m_hasSlot m_sheetBits m_sheetSize m_sheets m_fresh m_rootWhich m_signs m_atNought m_change m_table m_carried nw un u fi aa bb dd ro db mn hu H.size) (cwV 0 hts gX8_open_X8_remember rfl rfl rfl hv_X8_remember (yk_room hRf hRl rfl rfl)) (yk_pv (q := (RX8, TX8, 23)) hG hA hS hK hP hD [0, 1, 2] (by decide +kernel) rfl rfl rfl) rfl rfl hl.1 rfl (lv_room (Nat.le_of_ble_eq_true rfl)) dX8_open_1 ⟨Nat.zero_le _, Nat.zero_le _⟩) hP hD hS hA rfl (Eq.trans (b := [ta, m_now, m_undone]) rfl rfl) (fun H locs hP9 hD9 hS9 => ?_)
  replace hP : va_P D vwCl [(ta, .inr (8, [.ref m_now, .ref m_undone, .ref m_slots, .ref m_slotKind, .ref m_hasSlot, .ref m_sheetBits, .ref m_sheetSize, .ref m_sheets, .int (nI ((f_X8_remember nw un u).1)), .int fi, .ref m_fresh, .long aa, .long bb, .long dd, .int (nI ro), .ref m_rootWhich, .int db, .ref m_signs, .ref m_atNought, .int (nI mn), .ref m_change, .ref m_table, .ref m_carried])), (m_now, .inl (cy 0, 29, .inl nw)), (m_undone, .inl (cy 0, 725, .inl ((f_X8_remember nw un u).2)))] H := hP9
  replace hD : va_D A [(ta, .inr (8, [.ref m_now, .ref m_undone, .ref m_slots, .ref m_slotKind, .ref m_hasSlot, .ref m_sheetBits, .ref m_sheetSize, .ref m_sheets, .int (nI ((f_X8_remember nw un u).1)), .int fi, .ref m_fresh, .long aa, .long bb, .long dd, .int (nI ro), .ref m_rootWhich, .int db, .ref m_signs, .ref m_atNought, .int (nI mn), .ref m_change, .ref m_table, .ref m_carried])), (m_now, .inl (cy 0, 29, .inl nw)), (m_undone, .inl (cy 0, 725, .inl ((f_X8_remember nw un u).2)))] := hD9
  replace hS := hS9
  clear hP9 hD9 hS9
  refine lv_aload_n hx hb dX8_open_4 rfl (lv_at hl 0 rfl) ?_
  refine yk_i [0, 1] (va_runV (As := []) (rest := []) ⟨hx, hb, hml, hown, hts⟩ (c_X8_corners l D cy ta m_now m_undone m_slots m_slotKind m_hasSlot m_sheetBits m_sheetSize m_sheets m_fresh m_rootWhich m_signs m_atNought m_change m_table m_carried nw ((f_X8_remember nw un u).1) fi aa bb dd ro db mn H.size) (cwV 0 hts gX8_open_X8_corners rfl rfl rfl hv_X8_corners (yk_room hRf hRl rfl rfl)) (yk_pv (q := (RX8, TX8, 23)) hG hA hS hK hP hD [0, 1] (by decide +kernel) rfl rfl rfl) rfl rfl hl.1 rfl (lv_room (Nat.le_of_ble_eq_true rfl)) dX8_open_5 ⟨Nat.zero_le _, Nat.zero_le _⟩) hP hD hS hA rfl (Eq.trans (b := [ta, m_now]) rfl rfl) (fun H locs hP9 hD9 hS9 => ?_)
  replace hP : va_P D vwCl [(ta, .inr (8, [.ref m_now, .ref m_undone, .ref m_slots, .ref m_slotKind, .ref m_hasSlot, .ref m_sheetBits, .ref m_sheetSize, .ref m_sheets, .int (nI ((f_X8_remember nw un u).1)), .int fi, .ref m_fresh, .long aa, .long bb, .long dd, .int (nI ro), .ref m_rootWhich, .int db, .ref m_signs, .ref m_atNought, .int (nI mn), .ref m_change, .ref m_table, .ref m_carried])), (m_now, .inl (cy 0, 29, .inl nw)), (m_undone, .inl (cy 0, 725, .inl ((f_X8_remember nw un u).2)))] H := hP9
  replace hD : va_D A [(ta, .inr (8, [.ref m_now, .ref m_undone, .ref m_slots, .ref m_slotKind, .ref m_hasSlot, .ref m_sheetBits, .ref m_sheetSize, .ref m_sheets, .int (nI ((f_X8_remember nw un u).1)), .int fi, .ref m_fresh, .long aa, .long bb, .long dd, .int (nI ro), .ref m_rootWhich, .int db, .ref m_signs, .ref m_atNought, .int (nI mn), .ref m_change, .ref m_table, .ref m_carried])), (m_now, .inl (cy 0, 29, .inl nw)), (m_undone, .inl (cy 0, 725, .inl ((f_X8_remember nw un u).2)))] := hD9
  replace hS := hS9
  clear hP9 hD9 hS9
  refine lv_istore_n (lv' := [(1, .int (f_X8_corners nw)), (0, .ref ta)]) hx hb dX8_open_8 rfl hl (by decide) rfl (fun ls hl9 => ?_)
  replace hl := hl9
  clear hl9
  refine lv_aload_n hx hb dX8_open_9 rfl (lv_at hl 1 rfl) ?_
  refine va_get (D := D) (ci := 8) (v := .ref m_now) (C := RX8) (T := TX8) (N := 23) hx hb hts uX8_open_X8 hown hK hP 0 rfl rfl 0 (by decide) (hts _ kX8_open_0) (fun _ h9 => h9) rfl dX8_open_10 ?_
  refine lv_bipush (v := 12) hx hb dX8_open_13 (by decide) ?_
  refine lv_iconst (v := 0) hx hb dX8_open_15 (by decide) ?_
  refine yk_ist hx hb hK hP hD hS 1 0 rfl rfl 12 (by omega) (by decide) dX8_open_16 (fun H locs hP9 hD9 hS9 => ?_)
  replace hP : va_P D vwCl [(ta, .inr (8, [.ref m_now, .ref m_undone, .ref m_slots, .ref m_slotKind, .ref m_hasSlot, .ref m_sheetBits, .ref m_sheetSize, .ref m_sheets, .int (nI ((f_X8_remember nw un u).1)), .int fi, .ref m_fresh, .long aa, .long bb, .long dd, .int (nI ro), .ref m_rootWhich, .int db, .ref m_signs, .ref m_atNought, .int (nI mn), .ref m_change, .ref m_table, .ref m_carried])), (m_now, .inl (cy 0, 29, .inl (upd nw 12 0))), (m_undone, .inl (cy 0, 725, .inl ((f_X8_remember nw un u).2)))] H := hP9
  replace hD : va_D A [(ta, .inr (8, [.ref m_now, .ref m_undone, .ref m_slots, .ref m_slotKind, .ref m_hasSlot, .ref m_sheetBits, .ref m_sheetSize, .ref m_sheets, .int (nI ((f_X8_remember nw un u).1)), .int fi, .ref m_fresh, .long aa, .long bb, .long dd, .int (nI ro), .ref m_rootWhich, .int db, .ref m_signs, .ref m_atNought, .int (nI mn), .ref m_change, .ref m_table, .ref m_carried])), (m_now, .inl (cy 0, 29, .inl (upd nw 12 0))), (m_undone, .inl (cy 0, 725, .inl ((f_X8_remember nw un u).2)))] := hD9
  replace hS := hS9
  clear hP9 hD9 hS9
  refine lv_iload_n hx hb dX8_open_17 rfl (lv_at hl 0 rfl) ?_
  have hF : f_X8_open nw un u = ((f_X8_corners nw), ((f_X8_remember nw un u).1), (upd nw 12 0), ((f_X8_remember nw un u).2)) := hF
  have hf0 := yk_fst hF
  have hg0 := yk_snd hF
  have hf1 := yk_fst hg0
  have hg1 := yk_snd hg0
  have hf2 := yk_fst hg1
  have hg2 := yk_snd hg1
  rw [hf0, hf1, hf2, hg2] at hQ
  exact hQ _ _ _ _ dX8_open_18 hP hS

def f_X8_turn (x1 : Int32) (y1 : Int32) (x2 : Int32) (y2 : Int32) (x3 : Int32) (y3 : Int32) : Int32 := (if (((x2 - x1) * (y3 - y1)) - ((y2 - y1) * (x3 - x1))) ≤ 0 then (if 0 ≤ (((x2 - x1) * (y3 - y1)) - ((y2 - y1) * (x3 - x1))) then 0 else (-1)) else 1)
set_option maxHeartbeats 400000000 in
set_option maxRecDepth 100000 in
theorem c_X8_turn (l : Launch) (D : va_G) (cy : Nat → ClassId) (x1 : Int32) (y1 : Int32) (x2 : Int32) (y2 : Int32) (x3 : Int32) (y3 : Int32) : yk_Ci l D vwCl (yk_ty cy) yX8_turn wsX8_turn 0 0 [.int x1, .int y1, .int x2, .int y2, .int x3, .int y3] [] (f_X8_turn x1 y1 x2 y2 x3 y3) [] := by
  refine yk_eI (cc := cX8_turn) (maxL := 7) (by decide) rfl (Nat.le_of_ble_eq_true rfl) rfl ?_
  intro p e R s m args below meth c A Q ls H locs hx hb hml hown hts hRf hRl hA hK hG hP hD hS hl hQ
  have hP : va_P D vwCl [] H := hP
  have hl : lv_has ls 7 [(0, .int x1), (1, .int y1), (2, .int x2), (3, .int y2), (4, .int x3), (5, .int y3)] := hl
  have hown : s.vm.findClass RX8 = some m.cls := hown
  have hF : (f_X8_turn x1 y1 x2 y2 x3 y3) = (f_X8_turn x1 y1 x2 y2 x3 y3) := rfl
  refine lv_iload_n hx hb dX8_turn_0 rfl (lv_at hl 2 rfl) ?_
  refine lv_iload_n hx hb dX8_turn_1 rfl (lv_at hl 0 rfl) ?_
  refine lv_isub hx hb dX8_turn_2 ?_
  refine lv_iload hx hb dX8_turn_3 (lv_at hl 5 rfl) ?_
  refine lv_iload_n hx hb dX8_turn_5 rfl (lv_at hl 1 rfl) ?_
  refine lv_isub hx hb dX8_turn_6 ?_
  refine lv_imul hx hb dX8_turn_7 ?_
  refine lv_iload_n hx hb dX8_turn_8 rfl (lv_at hl 3 rfl) ?_
  refine lv_iload_n hx hb dX8_turn_9 rfl (lv_at hl 1 rfl) ?_
  refine lv_isub hx hb dX8_turn_10 ?_
  refine lv_iload hx hb dX8_turn_11 (lv_at hl 4 rfl) ?_
  refine lv_iload_n hx hb dX8_turn_13 rfl (lv_at hl 0 rfl) ?_
  refine lv_isub hx hb dX8_turn_14 ?_
  refine lv_imul hx hb dX8_turn_15 ?_
  refine lv_isub hx hb dX8_turn_16 ?_
  refine lv_istore (lv' := [(6, .int (((x2 - x1) * (y3 - y1)) - ((y2 - y1) * (x3 - x1)))), (0, .int x1), (1, .int y1), (2, .int x2), (3, .int y2), (4, .int x3), (5, .int y3)]) hx hb dX8_turn_17 hl (by decide) rfl (fun ls hl9 => ?_)
  replace hl := hl9
  clear hl9
  refine lv_iload hx hb dX8_turn_19 (lv_at hl 0 rfl) ?_
  have J4 : ∀ (v3 : Int32) (H : Heap) (locs : List Loc) (ls : Array Slot), v3 = (if (((x2 - x1) * (y3 - y1)) - ((y2 - y1) * (x3 - x1))) ≤ 0 then (if 0 ≤ (((x2 - x1) * (y3 - y1)) - ((y2 - y1) * (x3 - x1))) then 0 else (-1)) else 1) → va_P D vwCl [] H → va_D A [] → va_S A s.heap H locs → lv_has ls 7 [(0, .int x1), (1, .int y1), (2, .int x2), (3, .int y2), (4, .int x3), (5, .int y3), (6, .int (((x2 - x1) * (y3 - y1)) - ((y2 - y1) * (x3 - x1))))] → W p l e R s m args below meth c H locs 0 0 Q (F0 m 38 ls [.int v3]) := by
    clear hP hD hS hl
    intro v3 H locs ls ev3
    rw [ev3]
    clear ev3
    intro hP hD hS hl
    have hF : f_X8_turn x1 y1 x2 y2 x3 y3 = (if (((x2 - x1) * (y3 - y1)) - ((y2 - y1) * (x3 - x1))) ≤ 0 then (if 0 ≤ (((x2 - x1) * (y3 - y1)) - ((y2 - y1) * (x3 - x1))) then 0 else (-1)) else 1) := hF
    rw [hF] at hQ
    exact hQ _ _ _ _ dX8_turn_38 hP hS
  refine lv_if_le (tgt := 28) hx hb dX8_turn_21 (by decide) (fun hc1 => ?_) (fun hc1 => ?_)
  · refine lv_iload hx hb dX8_turn_28 (lv_at hl 0 rfl) ?_
    refine lv_if_ge (tgt := 37) hx hb dX8_turn_30 (by decide) (fun hc2 => ?_) (fun hc2 => ?_)
    · refine lv_iconst (v := 0) hx hb dX8_turn_37 (by decide) ?_
      exact J4 _ _ _ _ (((if_pos hc1).trans (if_pos hc2)).symm) hP hD hS (lv_sub hl [1, 2, 3, 4, 5, 6, 0] rfl)
    · refine lv_iconst (v := (-1)) hx hb dX8_turn_33 (by decide) ?_
      refine lv_goto (tgt := 38) hx hb dX8_turn_34 (by decide) ?_
      exact J4 _ _ _ _ (((if_pos hc1).trans (if_neg hc2)).symm) hP hD hS (lv_sub hl [1, 2, 3, 4, 5, 6, 0] rfl)
  · refine lv_iconst (v := 1) hx hb dX8_turn_24 (by decide) ?_
    refine lv_goto (tgt := 38) hx hb dX8_turn_25 (by decide) ?_
    exact J4 _ _ _ _ ((if_neg hc1).symm) hP hD hS (lv_sub hl [1, 2, 3, 4, 5, 6, 0] rfl)
