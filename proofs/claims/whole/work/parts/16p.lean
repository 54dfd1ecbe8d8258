theorem hv_X8_isSlot : yX8_isSlot.cls = RX8 ∧ yX8_isSlot.cls ≠ "java/lang/invoke/MethodHandle" ∧ yX8_isSlot.cls ≠ "java/lang/invoke/VarHandle" ∧ (parseMethodDescriptor yX8_isSlot.desc).map (fun d => d.parameters.length) = some 1 := by decide +kernel
theorem hs_X8_isSlot : yX8_isSlot.cls ≠ "java/lang/invoke/MethodHandle" ∧ yX8_isSlot.cls ≠ "java/lang/invoke/VarHandle" ∧ (parseMethodDescriptor yX8_isSlot.desc).map (fun d => d.parameters.length) = some 1 := by decide +kernel
theorem hv_X8_kindOf : yX8_kindOf.cls = RX8 ∧ yX8_kindOf.cls ≠ "java/lang/invoke/MethodHandle" ∧ yX8_kindOf.cls ≠ "java/lang/invoke/VarHandle" ∧ (parseMethodDescriptor yX8_kindOf.desc).map (fun d => d.parameters.length) = some 0 := by decide +kernel
theorem hs_X8_kindOf : yX8_kindOf.cls ≠ "java/lang/invoke/MethodHandle" ∧ yX8_kindOf.cls ≠ "java/lang/invoke/VarHandle" ∧ (parseMethodDescriptor yX8_kindOf.desc).map (fun d => d.parameters.length) = some 0 := by decide +kernel
theorem kX8_far_0 : Cond.constant RX8 68 (-1000001) ∈ wsX8_far := by decide +kernel
def f_X8_far (nw : Nat → Int32) (fi : Int32) (px : Int32) (py : Int32) : Int32 × Int32 := (if (f_X8_isPlace px py) = 0 then (((f_X8_found fi (-1000001)).1), ((f_X8_found fi (-1000001)).2)) else (if px = 0 then (if py = 0 then (((f_X8_found fi (-1000001)).1), ((f_X8_found fi (-1000001)).2)) else ((if (lg_cmp (((((((f_X8_form nw 0) * ((px).toInt64)) * ((px).toInt64)) * ((px).toInt64)) + ((((f_X8_form nw 1) * ((px).toInt64)) * ((px).toInt64)) * ((py).toInt64))) + ((((f_X8_form nw 2) * ((px).toInt64)) * ((py).toInt64)) * ((py).toInt64))) + ((((f_X8_form nw 3) * ((py).toInt64)) * ((py).toInt64)) * ((py).toInt64))) 0) = 0 then 1 else 0), fi)) else ((if (lg_cmp (((((((f_X8_form nw 0) * ((px).toInt64)) * ((px).toInt64)) * ((px).toInt64)) + ((((f_X8_form nw 1) * ((px).toInt64)) * ((px).toInt64)) * ((py).toInt64))) + ((((f_X8_form nw 2) * ((px).toInt64)) * ((py).toInt64)) * ((py).toInt64))) + ((((f_X8_form nw 3) * ((py).toInt64)) * ((py).toInt64)) * ((py).toInt64))) 0) = 0 then 1 else 0), fi)))
set_option maxHeartbeats 400000000 in
set_option maxRecDepth 100000 in
theorem c_X8_far (l : Launch) (D : va_G) (cy : Nat → ClassId) (ta : Nat) (m_now : Nat) (m_undone : Nat) (m_slots : Nat) (m_slotKind : Nat) (m_hasSlot : Nat) (m_sheetBits : Nat) (m_sheetSize : Nat) (m_sheets : Nat) (m_fresh : Nat) (m_rootWhich : Nat) (m_signs : Nat) (m_atNought : Nat) (m_change : Nat) (m_table : Nat) (m_carried : Nat) (nw : Nat → Int32) (u : Nat) (fi : Int32) (aa : Int64) (bb : Int64) (dd : Int64) (ro : Nat) (db : Int32) (mn : Nat) (px : Int32) (py : Int32) : yk_Ci l D vwCl (yk_ty cy) yX8_far wsX8_far 2 43 [.ref ta, .int px, .int py] [(ta, .inr (8, [.ref m_now, .ref m_undone, .ref m_slots, .ref m_slotKind, .ref m_hasSlot, .ref m_sheetBits, .ref m_sheetSize, .ref m_sheets, .int (nI u), .int fi, .ref m_fresh, .long aa, .long bb, .long dd, .int (nI ro), .ref m_rootWhich, .int db, .ref m_signs, .ref m_atNought, .int (nI mn), .ref m_change, .ref m_table, .ref m_carried])), (m_now, .inl (cy 0, 29, .inl nw))] ((f_X8_far nw fi px py).1) [(ta, .inr (8, [.ref m_now, .ref m_undone, .ref m_slots, .ref m_slotKind, .ref m_hasSlot, .ref m_sheetBits, .ref m_sheetSize, .ref m_sheets, .int (nI u), .int ((f_X8_far nw fi px py).2), .ref m_fresh, .long aa, .long bb, .long dd, .int (nI ro), .ref m_rootWhich, .int db, .ref m_signs, .ref m_atNought, .int (nI mn), .ref m_change, .ref m_table, .ref m_carried])), (m_now, .inl (cy 0, 29, .inl nw))] := by
  refine yk_eI (cc := cX8_far) (maxL := 3) (by decide) rfl (Nat.le_of_ble_eq_true rfl) rfl ?_
  intro p e R s m args below meth c A Q ls H locs hx hb hml hown hts hRf hRl hA hK hG hP hD hS hl hQ
  have hP : va_P D vwCl [(ta, .inr (8, [.ref m_now, .ref m_undone, .ref m_slots, .ref m_slotKind, .ref m_hasSlot, .ref m_sheetBits, .ref m_sheetSize, .ref m_sheets, .int (nI u), .int fi, .ref m_fresh, .long aa, .long bb, .long dd, .int (nI ro), .ref m_rootWhich, .int db, .ref m_signs, .ref m_atNought, .int (nI mn), .ref m_change, .ref m_table, .ref m_carried])), (m_now, .inl (cy 0, 29, .inl nw))] H := hP
  have hl : lv_has ls 3 [(0, .ref ta), (1, .int px), (2, .int py)] := hl
  have hown : s.vm.findClass RX8 = some m.cls := hown
  have hF : (f_X8_far nw fi px py) = (f_X8_far nw fi px py) := rfl
  refine lv_iload_n hx hb dX8_far_0 rfl (lv_at hl 1 rfl) ?_
  refine lv_iload_n hx hb dX8_far_1 rfl (lv_at hl 2 rfl) ?_
  refine yk_i [] (va_runS (As := [.int px, .int py]) (rest := []) ⟨hx, hb, hml, hown, hts⟩ (c_X8_isPlace l D cy px py H.size) (va_cwS 2 hts gX8_far_X8_isPlace rfl rfl rfl hs_X8_isPlace (yk_room hRf hRl rfl rfl)) (yk_ps hG hA hS hK hP hD [] (by decide +kernel) rfl) rfl rfl hl.1 rfl (lv_room (Nat.le_of_ble_eq_true rfl)) dX8_far_2 ⟨Nat.zero_le _, Nat.zero_le _⟩) hP hD hS hA rfl rfl (fun H locs hP9 hD9 hS9 => ?_)
  replace hP : va_P D vwCl [(ta, .inr (8, [.ref m_now, .ref m_undone, .ref m_slots, .ref m_slotKind, .ref m_hasSlot, .ref m_sheetBits, .ref m_sheetSize, .ref m_sheets, .int (nI u), .int fi, .ref m_fresh, .long aa, .long bb, .long dd, .int (nI ro), .ref m_rootWhich, .int db, .ref m_signs, .ref m_atNought, .int (nI mn), .ref m_change, .ref m_table, .ref m_carried])), (m_now, .inl (cy 0, 29, .inl nw))] H := hP9
  replace hD : va_D A [(ta, .inr (8, [.ref m_now, .ref m_undone, .ref m_slots, .ref m_slotKind, .ref m_hasSlot, .ref m_sheetBits, .ref m_sheetSize, .ref m_sheets, .int (nI u), .int fi, .ref m_fresh, .long aa, .long bb, .long dd, .int (nI ro), .ref m_rootWhich, .int db, .ref m_signs, .ref m_atNought, .int (nI mn), .ref m_change, .ref m_table, .ref m_carried])), (m_now, .inl (cy 0, 29, .inl nw))] := hD9
  replace hS := hS9
  clear hP9 hD9 hS9
  refine lv_if_eq (tgt := 16) hx hb dX8_far_5 (by decide) (fun hc1 => ?_) (fun hc1 => ?_)
  · replace hF := hF.trans (if_pos hc1)
    refine lv_aload_n hx hb dX8_far_16 rfl (lv_at hl 0 rfl) ?_
    refine lv_ldc (v := (-1000001)) hx hb hown (hts _ kX8_far_0) dX8_far_17 ?_
    refine yk_i [0] (va_runV (As := [.int (-1000001)]) (rest := []) ⟨hx, hb, hml, hown, hts⟩ (c_X8_found l D cy ta m_now m_undone m_slots m_slotKind m_hasSlot m_sheetBits m_sheetSize m_sheets m_fresh m_rootWhich m_signs m_atNought m_change m_table m_carried u fi aa bb dd ro db mn (-1000001) H.size) (cwV 1 hts gX8_far_X8_found rfl rfl rfl hv_X8_found (yk_room hRf hRl rfl rfl)) (yk_pv (q := (RX8, TX8, 23)) hG hA hS hK hP hD [0] (by decide +kernel) rfl rfl rfl) rfl rfl hl.1 rfl (lv_room (Nat.le_of_ble_eq_true rfl)) dX8_far_19 ⟨Nat.zero_le _, Nat.zero_le _⟩) hP hD hS hA rfl (Eq.trans (b := [ta]) rfl rfl) (fun H locs hP9 hD9 hS9 => ?_)
    replace hP : va_P D vwCl [(ta, .inr (8, [.ref m_now, .ref m_undone, .ref m_slots, .ref m_slotKind, .ref m_hasSlot, .ref m_sheetBits, .ref m_sheetSize, .ref m_sheets, .int (nI u), .int ((f_X8_found fi (-1000001)).2), .ref m_fresh, .long aa, .long bb, .long dd, .int (nI ro), .ref m_rootWhich, .int db, .ref m_signs, .ref m_atNought, .int (nI mn), .ref m_change, .ref m_table, .ref m_carried])), (m_now, .inl (cy 0, 29, .inl nw))] H := hP9
    replace hD : va_D A [(ta, .inr (8, [.ref m_now, .ref m_undone, .ref m_slots, .ref m_slotKind, .ref m_hasSlot, .ref m_sheetBits, .ref m_sheetSize, .ref m_sheets, .int (nI u), .int ((f_X8_found fi (-1000001)).2), .ref m_fresh, .long aa, .long bb, .long dd, .int (nI ro), .ref m_rootWhich, .int db, .ref m_signs, .ref m_atNought, .int (nI mn), .ref m_change, .ref m_table, .ref m_carried])), (m_now, .inl (cy 0, 29, .inl nw))] := hD9
    replace hS := hS9
    clear hP9 hD9 hS9
    have hF : f_X8_far nw fi px py = (((f_X8_found fi (-1000001)).1), ((f_X8_found fi (-1000001)).2)) := hF
    have hf0 := yk_fst hF
    have hg0 := yk_snd hF
    rw [hf0, hg0] at hQ
    exact hQ _ _ _ _ dX8_far_22 hP hS
  · replace hF := hF.trans (if_neg hc1)
    refine lv_iload_n hx hb dX8_far_8 rfl (lv_at hl 1 rfl) ?_
    refine lv_if_ne (tgt := 23) hx hb dX8_far_9 (by decide) (fun hc2 => ?_) (fun hc2 => ?_)
    · replace hF := hF.trans (if_neg hc2)
      refine lv_aload_n hx hb dX8_far_23 rfl (lv_at hl 0 rfl) ?_
      refine lv_iconst (v := 0) hx hb dX8_far_24 (by decide) ?_
      refine yk_l [0, 1] (va_runV (As := [.int 0]) (rest := []) ⟨hx, hb, hml, hown, hts⟩ (c_X8_form l D cy ta m_now m_undone m_slots m_slotKind m_hasSlot m_sheetBits m_sheetSize m_sheets m_fresh m_rootWhich m_signs m_atNought m_change m_table m_carried nw u fi aa bb dd ro db mn 0 H.size) (cwV 1 hts gX8_far_X8_form rfl rfl rfl hv_X8_form (yk_room hRf hRl rfl rfl)) (yk_pv (q := (RX8, TX8, 23)) hG hA hS hK hP hD [0, 1] (by decide +kernel) rfl rfl rfl) rfl rfl hl.1 rfl (lv_room (Nat.le_of_ble_eq_true rfl)) dX8_far_25 ⟨Nat.zero_le _, Nat.zero_le _⟩) hP hD hS hA rfl (Eq.trans (b := [ta, m_now]) rfl rfl) (fun H locs hP9 hD9 hS9 => ?_)
      replace hP : va_P D vwCl [(ta, .inr (8, [.ref m_now, .ref m_undone, .ref m_slots, .ref m_slotKind, .ref m_hasSlot, .ref m_sheetBits, .ref m_sheetSize, .ref m_sheets, .int (nI u), .int fi, .ref m_fresh, .long aa, .long bb, .long dd, .int (nI ro), .ref m_rootWhich, .int db, .ref m_signs, .ref m_atNought, .int (nI mn), .ref m_change, .ref m_table, .ref m_carried])), (m_now, .inl (cy 0, 29, .inl nw))] H := hP9
      replace hD : va_D A [(ta, .inr (8, [.ref m_now, .ref m_undone, .ref m_slots, .ref m_slotKind, .ref m_hasSlot, .ref m_sheetBits, .ref m_sheetSize, .ref m_sheets, .int (nI u), .int fi, .ref m_fresh, .long aa, .long bb, .long dd, .int (nI ro), .ref m_rootWhich, .int db, .ref m_signs, .ref m_atNought, .int (nI mn), .ref m_change, .ref m_table, .ref m_carried])), (m_now, .inl (cy 0, 29, .inl nw))] := hD9
      replace hS := hS9
      clear hP9 hD9 hS9
      refine lv_iload_n hx hb dX8_far_28 rfl (lv_at hl 1 rfl) ?_
      refine lv_i2l hx hb dX8_far_29 rfl ?_
      refine lv_lmul hx hb dX8_far_30 ?_
      refine lv_iload_n hx hb dX8_far_31 rfl (lv_at hl 1 rfl) ?_
      refine lv_i2l hx hb dX8_far_32 rfl ?_
      refine lv_lmul hx hb dX8_far_33 ?_
      refine lv_iload_n hx hb dX8_far_34 rfl (lv_at hl 1 rfl) ?_
      refine lv_i2l hx hb dX8_far_35 rfl ?_
      refine lv_lmul hx hb dX8_far_36 ?_
      refine lv_aload_n hx hb dX8_far_37 rfl (lv_at hl 0 rfl) ?_
      refine lv_iconst (v := 1) hx hb dX8_far_38 (by decide) ?_
      refine yk_l [0, 1] (va_runV (As := [.int 1]) (rest := [.long ((((f_X8_form nw 0) * ((px).toInt64)) * ((px).toInt64)) * ((px).toInt64))]) ⟨hx, hb, hml, hown, hts⟩ (c_X8_form l D cy ta m_now m_undone m_slots m_slotKind m_hasSlot m_sheetBits m_sheetSize m_sheets m_fresh m_rootWhich m_signs m_atNought m_change m_table m_carried nw u fi aa bb dd ro db mn 1 H.size) (cwV 1 hts gX8_far_X8_form rfl rfl rfl hv_X8_form (yk_room hRf hRl rfl rfl)) (yk_pv (q := (RX8, TX8, 23)) hG hA hS hK hP hD [0, 1] (by decide +kernel) rfl rfl rfl) rfl rfl hl.1 rfl (lv_room (Nat.le_of_ble_eq_true rfl)) dX8_far_39 ⟨Nat.zero_le _, Nat.zero_le _⟩) hP hD hS hA rfl (Eq.trans (b := [ta, m_now]) rfl rfl) (fun H locs hP9 hD9 hS9 => ?_)
      replace hP : va_P D vwCl [(ta, .inr (8, [.ref m_now, .ref m_undone, .ref m_slots, .ref m_slotKind, .ref m_hasSlot, .ref m_sheetBits, .ref m_sheetSize, .ref m_sheets, .int (nI u), .int fi, .ref m_fresh, .long aa, .long bb, .long dd, .int (nI ro), .ref m_rootWhich, .int db, .ref m_signs, .ref m_atNought, .int (nI mn), .ref m_change, .ref m_table, .ref m_carried])), (m_now, .inl (cy 0, 29, .inl nw))] H := hP9
      replace hD : va_D A [(ta, .inr (8, [.ref m_now, .ref m_undone, .ref m_slots, .ref m_slotKind, .ref m_hasSlot, .ref m_sheetBits, .ref m_sheetSize, .ref m_sheets, .int (nI u), .int fi, .ref m_fresh, .long aa, .long bb, .long dd, .int (nI ro), .ref m_rootWhich, .int db, .ref m_signs, .ref m_atNought, .int (nI mn), .ref m_change, .ref m_table, .ref m_carried])), (m_now, .inl (cy 0, 29, .inl nw))] := hD9
      replace hS := hS9
      clear hP9 hD9 hS9
      refine lv_iload_n hx hb dX8_far_42 rfl (lv_at hl 1 rfl) ?_
      refine lv_i2l hx hb dX8_far_43 rfl ?_
      refine lv_lmul hx hb dX8_far_44 ?_
      refine lv_iload_n hx hb dX8_far_45 rfl (lv_at hl 1 rfl) ?_
      refine lv_i2l hx hb dX8_far_46 rfl ?_
      refine lv_lmul hx hb dX8_far_47 ?_
      refine lv_iload_n hx hb dX8_far_48 rfl (lv_at hl 2 rfl) ?_
      refine lv_i2l hx hb dX8_far_49 rfl ?_
      refine lv_lmul hx hb dX8_far_50 ?_
      refine lv_ladd hx hb dX8_far_51 ?_
      refine lv_aload_n hx hb dX8_far_52 rfl (lv_at hl 0 rfl) ?_
      refine lv_iconst (v := 2) hx hb dX8_far_53 (by decide) ?_
      refine yk_l [0, 1] (va_runV (As := [.int 2]) (rest := [.long (((((f_X8_form nw 0) * ((px).toInt64)) * ((px).toInt64)) * ((px).toInt64)) + ((((f_X8_form nw 1) * ((px).toInt64)) * ((px).toInt64)) * ((py).toInt64)))]) ⟨hx, hb, hml, hown, hts⟩ (c_X8_form l D cy ta m_now m_undone m_slots m_slotKind m_hasSlot m_sheetBits m_sheetSize m_sheets m_fresh m_rootWhich m_signs m_atNought m_change m_table m_carried nw u fi aa bb dd ro db mn 2 H.size) (cwV 1 hts gX8_far_X8_form rfl rfl rfl hv_X8_form (yk_room hRf hRl rfl rfl)) (yk_pv (q := (RX8, TX8, 23)) hG hA hS hK hP hD [0, 1] (by decide +kernel) rfl rfl rfl) rfl rfl hl.1 rfl (lv_room (Nat.le_of_ble_eq_true rfl)) dX8_far_54 ⟨Nat.zero_le _, Nat.zero_le _⟩) hP hD hS hA rfl (Eq.trans (b := [ta, m_now]) rfl rfl) (fun H locs hP9 hD9 hS9 => ?_)
      replace hP : va_P D vwCl [(ta, .inr (8, [.ref m_now, .ref m_undone, .ref m_slots, .ref m_slotKind, .ref m_hasSlot, .ref m_sheetBits, .ref m_sheetSize, .ref m_sheets, .int (nI u), .int fi, .ref m_fresh, .long aa, .long bb, .long dd, .int (nI ro), .ref m_rootWhich, .int db, .ref m_signs, .ref m_atNought, .int (nI mn), .ref m_change, .ref m_table, .ref m_carried])), (m_now, .inl (cy 0, 29, .inl nw))] H := hP9
      replace hD : va_D A [(ta, .inr (8, [.ref m_now, .ref m_undone, .ref m_slots, .ref m_slotKind, .ref m_hasSlot, .ref m_sheetBits, .ref m_sheetSize, .ref m_sheets, .int (nI u), .int fi, .ref m_fresh, .long aa, .long bb, .long dd, .int (nI ro), .ref m_rootWhich, .int db, .ref m_signs, .ref m_atNought, .int (nI mn), .ref m_change, .ref m_table, .ref m_carried])), (m_now, .inl (cy 0, 29, .inl nw))] := hD9
      replace hS := hS9
      clear hP9 hD9 hS9
      refine lv_iload_n hx hb dX8_far_57 rfl (lv_at hl 1 rfl) ?_
      refine lv_i2l hx hb dX8_far_58 rfl ?_
      refine lv_lmul hx hb dX8_far_59 ?_
      refine lv_iload_n hx hb dX8_far_60 rfl (lv_at hl 2 rfl) ?_
      refine lv_i2l hx hb dX8_far_61 rfl ?_
      refine lv_lmul hx hb dX8_far_62 ?_
      refine lv_iload_n hx hb dX8_far_63 rfl (lv_at hl 2 rfl) ?_
      refine lv_i2l hx hb dX8_far_64 rfl ?_
      refine lv_lmul hx hb dX8_far_65 ?_
      refine lv_ladd hx hb dX8_far_66 ?_
      refine lv_aload_n hx hb dX8_far_67 rfl (lv_at hl 0 rfl) ?_
      refine lv_iconst (v := 3) hx hb dX8_far_68 (by decide) ?_
      refine yk_l [0, 1] (va_runV (As := [.int 3]) (rest := [.long ((((((f_X8_form nw 0) * ((px).toInt64)) * ((px).toInt64)) * ((px).toInt64)) + ((((f_X8_form nw 1) * ((px).toInt64)) * ((px).toInt64)) * ((py).toInt64))) + ((((f_X8_form nw 2) * ((px).toInt64)) * ((py).toInt64)) * ((py).toInt64)))]) ⟨hx, hb, hml, hown, hts⟩ (c_X8_form l D cy ta m_now m_undone m_slots m_slotKind m_hasSlot m_sheetBits m_sheetSize m_sheets m_fresh m_rootWhich m_signs m_atNought m_change m_table m_carried nw u fi aa bb dd ro db mn 3 H.size) (cwV 1 hts gX8_far_X8_form rfl rfl rfl hv_X8_form (yk_room hRf hRl rfl rfl)) (yk_pv (q := (RX8, TX8, 23)) hG hA hS hK hP hD [0, 1] (by decide +kernel) rfl rfl rfl) rfl rfl hl.1 rfl (lv_room (Nat.le_of_ble_eq_true rfl)) dX8_far_69 ⟨Nat.zero_le _, Nat.zero_le _⟩) hP hD hS hA rfl (Eq.trans (b := [ta, m_now]) rfl rfl) (fun H locs hP9 hD9 hS9 => ?_)
      replace hP : va_P D vwCl [(ta, .inr (8, [.ref m_now, .ref m_undone, .ref m_slots, .ref m_slotKind, .ref m_hasSlot, .ref m_sheetBits, .ref m_sheetSize, .ref m_sheets, .int (nI u), .int fi, .ref m_fresh, .long aa, .long bb, .long dd, .int (nI ro), .ref m_rootWhich, .int db, .ref m_signs, .ref m_atNought, .int (nI mn), .ref m_change, .ref m_table, .ref m_carried])), (m_now, .inl (cy 0, 29, .inl nw))] H := hP9
      replace hD : va_D A [(ta, .inr (8, [.ref m_now, .ref m_undone, .ref m_slots, .ref m_slotKind, .ref m_hasSlot, .ref m_sheetBits, .ref m_sheetSize, .ref m_sheets, .int (nI u), .int fi, .ref m_fresh, .long aa, .long bb, .long dd, .int (nI ro), .ref m_rootWhich, .int db, .ref m_signs, .ref m_atNought, .int (nI mn), .ref m_change, .ref m_table, .ref m_carried])), (m_now, .inl (cy 0, 29, .inl nw))] := hD9
      replace hS := hS9
      clear hP9 hD9 hS9
      refine lv_iload_n hx hb dX8_far_72 rfl (lv_at hl 2 rfl) ?_
      refine lv_i2l hx hb dX8_far_73 rfl ?_
      refine lv_lmul hx hb dX8_far_74 ?_
      refine lv_iload_n hx hb dX8_far_75 rfl (lv_at hl 2 rfl) ?_
      refine lv_i2l hx hb dX8_far_76 rfl ?_
      refine lv_lmul hx hb dX8_far_77 ?_
      refine lv_iload_n hx hb dX8_far_78 rfl (lv_at hl 2 rfl) ?_
      refine lv_i2l hx hb dX8_far_79 rfl ?_
      refine lv_lmul hx hb dX8_far_80 ?_
      refine lv_ladd hx hb dX8_far_81 ?_
      refine lv_lconst (v := 0) hx hb dX8_far_82 (by decide) ?_
      refine W.lcmp hx hb dX8_far_83 ?_
      have J5 : ∀ (v4 : Int32) (H : Heap) (locs : List Loc) (ls : Array Slot), v4 = (if (lg_cmp (((((((f_X8_form nw 0) * ((px).toInt64)) * ((px).toInt64)) * ((px).toInt64)) + ((((f_X8_form nw 1) * ((px).toInt64)) * ((px).toInt64)) * ((py).toInt64))) + ((((f_X8_form nw 2) * ((px).toInt64)) * ((py).toInt64)) * ((py).toInt64))) + ((((f_X8_form nw 3) * ((py).toInt64)) * ((py).toInt64)) * ((py).toInt64))) 0) = 0 then 1 else 0) → va_P D vwCl [(ta, .inr (8, [.ref m_now, .ref m_undone, .ref m_slots, .ref m_slotKind, .ref m_hasSlot, .ref m_sheetBits, .ref m_sheetSize, .ref m_sheets, .int (nI u), .int fi, .ref m_fresh, .long aa, .long bb, .long dd, .int (nI ro), .ref m_rootWhich, .int db, .ref m_signs, .ref m_atNought, .int (nI mn), .ref m_change, .ref m_table, .ref m_carried])), (m_now, .inl (cy 0, 29, .inl nw))] H → va_D A [(ta, .inr (8, [.ref m_now, .ref m_undone, .ref m_slots, .ref m_slotKind, .ref m_hasSlot, .ref m_sheetBits, .ref m_sheetSize, .ref m_sheets, .int (nI u), .int fi, .ref m_fresh, .long aa, .long bb, .long dd, .int (nI ro), .ref m_rootWhich, .int db, .ref m_signs, .ref m_atNought, .int (nI mn), .ref m_change, .ref m_table, .ref m_carried])), (m_now, .inl (cy 0, 29, .inl nw))] → va_S A s.heap H locs → lv_has ls 3 [(0, .ref ta), (1, .int px), (2, .int py)] → W p l e R s m args below meth c H locs 0 0 Q (F0 m 92 ls [.int v4]) := by
        clear hP hD hS hl
        intro v4 H locs ls ev4
        rw [ev4]
        clear ev4
        intro hP hD hS hl
        have hF : f_X8_far nw fi px py = ((if (lg_cmp (((((((f_X8_form nw 0) * ((px).toInt64)) * ((px).toInt64)) * ((px).toInt64)) + ((((f_X8_form nw 1) * ((px).toInt64)) * ((px).toInt64)) * ((py).toInt64))) + ((((f_X8_form nw 2) * ((px).toInt64)) * ((py).toInt64)) * ((py).toInt64))) + ((((f_X8_form nw 3) * ((py).toInt64)) * ((py).toInt64)) * ((py).toInt64))) 0) = 0 then 1 else 0), fi) := hF
        have hf0 := yk_fst hF
        have hg0 := yk_snd hF
        rw [hf0, hg0] at hQ
        exact hQ _ _ _ _ dX8_far_92 hP hS
      refine lv_if_ne (tgt := 91) hx hb dX8_far_84 (by decide) (fun hc3 => ?_) (fun hc3 => ?_)
      · refine lv_iconst (v := 0) hx hb dX8_far_91 (by decide) ?_
        exact J5 _ _ _ _ ((if_neg hc3).symm) hP hD hS (lv_sub hl [0, 1, 2] rfl)
      · refine lv_iconst (v := 1) hx hb dX8_far_87 (by decide) ?_
        refine lv_goto (tgt := 92) hx hb dX8_far_88 (by decide) ?_
        exact J5 _ _ _ _ ((if_pos hc3).symm) hP hD hS (lv_sub hl [0, 1, 2] rfl)
    · replace hF := hF.trans (if_pos hc2)
      refine lv_iload_n hx hb dX8_far_12 rfl (lv_at hl 2 rfl) ?_
      refine lv_if_ne (tgt := 23) hx hb dX8_far_13 (by decide) (fun hc6 => ?_) (fun hc6 => ?_)
      · replace hF := hF.trans (if_neg hc6)
        refine lv_aload_n hx hb dX8_far_23 rfl (lv_at hl 0 rfl) ?_
        refine lv_iconst (v := 0) hx hb dX8_far_24 (by decide) ?_
        refine yk_l [0, 1] (va_runV (As := [.int 0]) (rest := []) ⟨hx, hb, hml, hown, hts⟩ (c_X8_form l D cy ta m_now m_undone m_slots m_slotKind m_hasSlot m_sheetBits m_sheetSize m_sheets m_fresh m_rootWhich m_signs m_atNought m_change m_table m_carried nw u fi aa bb dd ro db mn 0 H.size) (cwV 1 hts gX8_far_X8_form rfl rfl rfl hv_X8_form (yk_room hRf hRl rfl rfl)) (yk_pv (q := (RX8, TX8, 23)) hG hA hS hK hP hD [0, 1] (by decide +kernel) rfl rfl rfl) rfl rfl hl.1 rfl (lv_room (Nat.le_of_ble_eq_true rfl)) dX8_far_25 ⟨Nat.zero_le _, Nat.zero_le _⟩) hP hD hS hA rfl (Eq.trans (b := [ta, m_now]) rfl rfl) (fun H locs hP9 hD9 hS9 => ?_)
        replace hP : va_P D vwCl [(ta, .inr (8, [.ref m_now, .ref m_undone, .ref m_slots, .ref m_slotKind, .ref m_hasSlot, .ref m_sheetBits, .ref m_sheetSize, .ref m_sheets, .int (nI u), .int fi, .ref m_fresh, .long aa, .long bb, .long dd, .int (nI ro), .ref m_rootWhich, .int db, .ref m_signs, .ref m_atNought, .int (nI mn), .ref m_change, .ref m_table, .ref m_carried])), (m_now, .inl (cy 0, 29, .inl nw))] H := hP9
        replace hD : va_D A [(ta, .inr (8, [.ref m_now, .ref m_undone, .ref m_slots, .ref m_slotKind, .ref m_hasSlot, .ref m_sheetBits, .ref m_sheetSize, .ref m_sheets, .int (nI u), .int fi, .ref m_fresh, .long aa, .long bb, .long dd, .int (nI ro), .ref m_rootWhich, .int db, .ref m_signs, .ref m_atNought, .int (nI mn), .ref m_change, .ref m_table, .ref m_carried])), (m_now, .inl (cy 0, 29, .inl nw))] := hD9
        replace hS := hS9
        clear hP9 hD9 hS9
        refine lv_iload_n hx hb dX8_far_28 rfl (lv_at hl 1 rfl) ?_
        refine lv_i2l hx hb dX8_far_29 rfl ?_
        refine lv_lmul hx hb dX8_far_30 ?_
        refine lv_iload_n hx hb dX8_far_31 rfl (lv_at hl 1 rfl) ?_
        refine lv_i2l hx hb dX8_far_32 rfl ?_
        refine lv_lmul hx hb dX8_far_33 ?_
        refine lv_iload_n hx hb dX8_far_34 rfl (lv_at hl 1 rfl) ?_
        refine lv_i2l hx hb dX8_far_35 rfl ?_
        refine lv_lmul hx hb dX8_far_36 ?_
        refine lv_aload_n hx hb dX8_far_37 rfl (lv_at hl 0 rfl) ?_
        refine lv_iconst (v := 1) hx hb dX8_far_38 (by decide) ?_
        refine yk_l [0, 1] (va_runV (As := [.int 1]) (rest := [.long ((((f_X8_form nw 0) * ((px).toInt64)) * ((px).toInt64)) * ((px).toInt64))]) ⟨hx, hb, hml, hown, hts⟩ (c_X8_form l D cy ta m_now m_undone m_slots m_slotKind m_hasSlot m_sheetBits m_sheetSize m_sheets m_fresh m_rootWhich m_signs m_atNought m_change m_table m_carried nw u fi aa bb dd ro db mn 1 H.size) (cwV 1 hts gX8_far_X8_form rfl rfl rfl hv_X8_form (yk_room hRf hRl rfl rfl)) (yk_pv (q := (RX8, TX8, 23)) hG hA hS hK hP hD [0, 1] (by decide +kernel) rfl rfl rfl) rfl rfl hl.1 rfl (lv_room (Nat.le_of_ble_eq_true rfl)) dX8_far_39 ⟨Nat.zero_le _, Nat.zero_le _⟩) hP hD hS hA rfl (Eq.trans (b := [ta, m_now]) rfl rfl) (fun H locs hP9 hD9 hS9 => ?_)
        replace hP : va_P D vwCl [(ta, .inr (8, [.ref m_now, .ref m_undone, .ref m_slots, .ref m_slotKind, .ref m_hasSlot, .ref m_sheetBits, .ref m_sheetSize, .ref m_sheets, .int (nI u), .int fi, .ref m_fresh, .long aa, .long bb, .long dd, .int (nI ro), .ref m_rootWhich, .int db, .ref m_signs, .ref m_atNought, .int (nI mn), .ref m_change, .ref m_table, .ref m_carried])), (m_now, .inl (cy 0, 29, .inl nw))] H := hP9
        replace hD : va_D A [(ta, .inr (8, [.ref m_now, .ref m_undone, .ref m_slots, .ref m_slotKind, .ref m_hasSlot, .ref m_sheetBits, .ref m_sheetSize, .ref m_sheets, .int (nI u), .int fi, .ref m_fresh, .long aa, .long bb, .long dd, .int (nI ro), .ref m_rootWhich, .int db, .ref m_signs, .ref m_atNought, .int (nI mn), .ref m_change, .ref m_table, .ref m_carried])), (m_now, .inl (cy 0, 29, .inl nw))] := hD9
        replace hS := hS9
        clear hP9 hD9 hS9
        refine lv_iload_n hx hb dX8_far_42 rfl (lv_at hl 1 rfl) ?_
        refine lv_i2l hx hb dX8_far_43 rfl ?_
        refine lv_lmul hx hb dX8_far_44 ?_
        refine lv_iload_n hx hb dX8_far_45 rfl (lv_at hl 1 rfl) ?_
        refine lv_i2l hx hb dX8_far_46 rfl ?_
        refine lv_lmul hx hb dX8_far_47 ?_
        refine lv_iload_n hx hb dX8_far_48 rfl (lv_at hl 2 rfl) ?_
        refine lv_i2l hx hb dX8_far_49 rfl ?_
        refine lv_lmul hx hb dX8_far_50 ?_
        refine lv_ladd hx hb dX8_far_51 ?_
        refine lv_aload_n hx hb dX8_far_52 rfl (lv_at hl 0 rfl) ?_
        refine lv_iconst (v := 2) hx hb dX8_far_53 (by decide) ?_
        refine yk_l [0, 1] (va_runV (As := [.int 2]) (rest := [.long (((((f_X8_form nw 0) * ((px).toInt64)) * ((px).toInt64)) * ((px).toInt64)) + ((((f_X8_form nw 1) * ((px).toInt64)) * ((px).toInt64)) * ((py).toInt64)))]) ⟨hx, hb, hml, hown, hts⟩ (c_X8_form l D cy ta m_now m_undone m_slots m_slotKind m_hasSlot m_sheetBits m_sheetSize m_sheets m_fresh m_rootWhich m_signs m_atNought m_change m_table m_carried nw u fi aa bb dd ro db mn 2 H.size) (cwV 1 hts gX8_far_X8_form rfl rfl rfl hv_X8_form (yk_room hRf hRl rfl rfl)) (yk_pv (q := (RX8, TX8, 23)) hG hA hS hK hP hD [0, 1] (by decide +kernel) rfl rfl rfl) rfl rfl hl.1 rfl (lv_room (Nat.le_of_ble_eq_true rfl)) dX8_far_54 ⟨Nat.zero_le _, Nat.zero_le _⟩) hP hD hS hA rfl (Eq.trans (b := [ta, m_now]) rfl rfl) (fun H locs hP9 hD9 hS9 => ?_)
        replace hP : va_P D vwCl [(ta, .inr (8, [.ref m_now, .ref m_undone, .ref m_slots, .ref m_slotKind, .ref m_hasSlot, .ref m_sheetBits, .ref m_sheetSize, .ref m_sheets, .int (nI u), .int fi, .ref m_fresh, .long aa, .long bb, .long dd, .int (nI ro), .ref m_rootWhich, .int db, .ref m_signs, .ref m_atNought, .int (nI mn), .ref m_change, .ref m_table, .ref m_carried])), (m_now, .inl (cy 0, 29, .inl nw))] H := hP9
        replace hD : va_D A [(ta, .inr (8, [.ref m_now, .ref m_undone, .ref m_slots, .ref m_slotKind, .ref m_hasSlot, .ref m_sheetBits, .ref m_sheetSize, .ref m_sheets, .int (nI u), .int fi, .ref m_fresh, .long aa, .long bb, .long dd, .int (nI ro), .ref m_rootWhich, .int db, .ref m_signs, .ref m_atNought, .int (nI mn), .ref m_change, .ref m_table, .ref m_carried])), (m_now, .inl (cy 0, 29, .inl nw))] := hD9
        replace hS := hS9
        clear hP9 hD9 hS9
        refine lv_iload_n hx hb dX8_far_57 rfl (lv_at hl 1 rfl) ?_
        refine lv_i2l hx hb dX8_far_58 rfl ?_
        refine lv_lmul hx hb dX8_far_59 ?_
        refine lv_iload_n hx hb dX8_far_60 rfl (lv_at hl 2 rfl) ?_
        refine lv_i2l hx hb dX8_far_61 rfl ?_
        refine lv_lmul hx hb dX8_far_62 ?_
        refine lv_iload_n hx hb dX8_far_63 rfl (lv_at hl 2 rfl) ?_
        refine lv_i2l hx hb dX8_far_64 rfl ?_
        refine lv_lmul hx hb dX8_far_65 ?_
        refine lv_ladd hx hb dX8_far_66 ?_
        refine lv_aload_n hx hb dX8_far_67 rfl (lv_at hl 0 rfl) ?_
        refine lv_iconst (v := 3) hx hb dX8_far_68 (by decide) ?_
        refine yk_l [0, 1] (va_runV (As := [.int 3]) (rest := [.long ((((((f_X8_form nw 0) * ((px).toInt64)) * ((px).toInt64)) * ((px).toInt64)) + ((((f_X8_form nw 1) * ((px).toInt64)) * ((px).toInt64)) * ((py).toInt64))) + ((((f_X8_form nw 2) * ((px).toInt64)) * ((py).toInt64)) * ((py).toInt64)))]) ⟨hx, hb, hml, hown, hts⟩ (c_X8_form l D cy ta m_now m_undone m_slots m_slotKind m_hasSlot m_sheetBits m_sheetSize m_sheets m_fresh m_rootWhich m_signs m_atNought m_change m_table m_carried nw u fi aa bb dd ro db mn 3 H.size) (cwV 1 hts gX8_far_X8_form rfl rfl rfl hv_X8_form (yk_room hRf hRl rfl rfl)) (yk_pv (q := (RX8, TX8, 23)) hG hA hS hK hP hD [0, 1] (by decide +kernel) rfl rfl rfl) rfl rfl hl.1 rfl (lv_room (Nat.le_of_ble_eq_true rfl)) dX8_far_69 ⟨Nat.zero_le _, Nat.zero_le _⟩) hP hD hS hA rfl (Eq.trans (b := [ta, m_now]) rfl rfl) (fun H locs hP9 hD9 hS9 => ?_)
        replace hP : va_P D vwCl [(ta, .inr (8, [.ref m_now, .ref m_undone, .ref m_slots, .ref m_slotKind, .ref m_hasSlot, .ref m_sheetBits, .ref m_sheetSize, .ref m_sheets, .int (nI u), .int fi, .ref m_fresh, .long aa, .long bb, .long dd, .int (nI ro), .ref m_rootWhich, .int db, .ref m_signs, .ref m_atNought, .int (nI mn), .ref m_change, .ref m_table, .ref m_carried])), (m_now, .inl (cy 0, 29, .inl nw))] H := hP9
        replace hD : va_D A [(ta, .inr (8, [.ref m_now, .ref m_undone, .ref m_slots, .ref m_slotKind, .ref m_hasSlot, .ref m_sheetBits, .ref m_sheetSize, .ref m_sheets, .int (nI u), .int fi, .ref m_fresh, .long aa, .long bb, .long dd, .int (nI ro), .ref m_rootWhich, .int db, .ref m_signs, .ref m_atNought, .int (nI mn), .ref m_change, .ref m_table, .ref m_carried])), (m_now, .inl (cy 0, 29, .inl nw))] := hD9
        replace hS := hS9
        clear hP9 hD9 hS9
        refine lv_iload_n hx hb dX8_far_72 rfl (lv_at hl 2 rfl) ?_
        refine lv_i2l hx hb dX8_far_73 rfl ?_
        refine lv_lmul hx hb dX8_far_74 ?_
        refine lv_iload_n hx hb dX8_far_75 rfl (lv_at hl 2 rfl) ?_
        refine lv_i2l hx hb dX8_far_76 rfl ?_
        refine lv_lmul hx hb dX8_far_77 ?_
        refine lv_iload_n hx hb dX8_far_78 rfl (lv_at hl 2 rfl) ?_
        refine lv_i2l hx hb dX8_far_79 rfl ?_
        refine lv_lmul hx hb dX8_far_80 ?_
        refine lv_ladd hx hb dX8_far_81 ?_
        refine lv_lconst (v := 0) hx hb dX8_far_82 (by decide) ?_
        refine W.lcmp hx hb dX8_far_83 ?_
        have J9 : ∀ (v8 : Int32) (H : Heap) (locs : List Loc) (ls : Array Slot), v8 = (if (lg_cmp (((((((f_X8_form nw 0) * ((px).toInt64)) * ((px).toInt64)) * ((px).toInt64)) + ((((f_X8_form nw 1) * ((px).toInt64)) * ((px).toInt64)) * ((py).toInt64))) + ((((f_X8_form nw 2) * ((px).toInt64)) * ((py).toInt64)) * ((py).toInt64))) + ((((f_X8_form nw 3) * ((py).toInt64)) * ((py).toInt64)) * ((py).toInt64))) 0) = 0 then 1 else 0) → va_P D vwCl [(ta, .inr (8, [.ref m_now, .ref m_undone, .ref m_slots, .ref m_slotKind, .ref m_hasSlot, .ref m_sheetBits, .ref m_sheetSize, .ref m_sheets, .int (nI u), .int fi, .ref m_fresh, .long aa, .long bb, .long dd, .int (nI ro), .ref m_rootWhich, .int db, .ref m_signs, .ref m_atNought, .int (nI mn), .ref m_change, .ref m_table, .ref m_carried])), (m_now, .inl (cy 0, 29, .inl nw))] H → va_D A [(ta, .inr (8, [.ref m_now, .ref m_undone, .ref m_slots, .ref m_slotKind, .ref m_hasSlot, .ref m_sheetBits, .ref m_sheetSize, .ref m_sheets, .int (nI u), .int fi, .ref m_fresh, .long aa, .long bb, .long dd, .int (nI ro), .ref m_rootWhich, .int db, .ref m_signs, .ref m_atNought, .int (nI mn), .ref m_change, .ref m_table, .ref m_carried])), (m_now, .inl (cy 0, 29, .inl nw))] → va_S A s.heap H locs → lv_has ls 3 [(0, .ref ta), (1, .int px), (2, .int py)] → W p l e R s m args below meth c H locs 0 0 Q (F0 m 92 ls [.int v8]) := by
          clear hP hD hS hl
          intro v8 H locs ls ev8
          rw [ev8]
          clear ev8
          intro hP hD hS hl
          have hF : f_X8_far nw fi px py = ((if (lg_cmp (((((((f_X8_form nw 0) * ((px).toInt64)) * ((px).toInt64)) * ((px).toInt64)) + ((((f_X8_form nw 1) * ((px).toInt64)) * ((px).toInt64)) * ((py).toInt64))) + ((((f_X8_form nw 2) * ((px).toInt64)) * ((py).toInt64)) * ((py).toInt64))) + ((((f_X8_form nw 3) * ((py).toInt64)) * ((py).toInt64)) * ((py).toInt64))) 0) = 0 then 1 else 0), fi) := hF
          have hf0 := yk_fst hF
          have hg0 := yk_snd hF
          rw [hf0, hg0] at hQ
          exact hQ _ _ _ _ dX8_far_92 hP hS
        refine lv_if_ne (tgt := 91) hx hb dX8_far_84 (by decide) (fun hc7 => ?_) (fun hc7 => ?_)
        · refine lv_iconst (v := 0) hx hb dX8_far_91 (by decide) ?_
          exact J9 _ _ _ _ ((if_neg hc7).symm) hP hD hS (lv_sub hl [0, 1, 2] rfl)
        · refine lv_iconst (v := 1) hx hb dX8_far_87 (by decide) ?_
          refine lv_goto (tgt := 92) hx hb dX8_far_88 (by decide) ?_
          exact J9 _ _ _ _ ((if_pos hc7).symm) hP hD hS (lv_sub hl [0, 1, 2] rfl)
      · replace hF := hF.trans (if_pos hc6)
        refine lv_aload_n hx hb dX8_far_16 rfl (lv_at hl 0 rfl) ?_
        refine lv_ldc (v := (-1000001)) hx hb hown (hts _ kX8_far_0) dX8_far_17 ?_
        refine yk_i [0] (va_runV (As := [.int (-1000001)]) (rest := []) ⟨hx, hb, hml, hown, hts⟩ (c_X8_found l D cy ta m_now m_undone m_slots m_slotKind m_hasSlot m_sheetBits m_sheetSize m_sheets m_fresh m_rootWhich m_signs m_atNought m_change m_table m_carried u fi aa bb dd ro db mn (-1000001) H.size) (cwV 1 hts gX8_far_X8_found rfl rfl rfl hv_X8_found (yk_room hRf hRl rfl rfl)) (yk_pv (q := (RX8, TX8, 23)) hG hA hS hK hP hD [0] (by decide +kernel) rfl rfl rfl) rfl rfl hl.1 rfl (lv_room (Nat.le_of_ble_eq_true rfl)) dX8_far_19 ⟨Nat.zero_le _, Nat.zero_le _⟩) hP hD hS hA rfl (Eq.trans (b := [ta]) rfl rfl) (fun H locs hP9 hD9 hS9 => ?_)
        replace hP : va_P D vwCl [(ta, .inr (8, [.ref m_now, .ref m_undone, .ref m_slots, .ref m_slotKind, .ref m_hasSlot, .ref m_sheetBits, .ref m_sheetSize, .ref m_sheets, .int (nI u), .int ((f_X8_found fi (-1000001)).2), .ref m_fresh, .long aa, .long bb, .long dd, .int (nI ro), .ref m_rootWhich, .int db, .ref m_signs, .ref m_atNought, .int (nI mn), .ref m_change, .ref m_table, .ref m_carried])), (m_now, .inl (cy 0, 29, .inl nw))] H := hP9
        replace hD : va_D A [(ta, .inr (8, [.ref m_now, .ref m_undone, .ref m_slots, .ref m_slotKind, .ref m_hasSlot, .ref m_sheetBits, .ref m_sheetSize, .ref m_sheets, .int (nI u), .int ((f_X8_found fi (-1000001)).2), .ref m_fresh, .long aa, .long bb, .long dd, .int (nI ro), .ref m_rootWhich, .int db, .ref m_signs, .ref m_atNought, .int (nI mn), .ref m_change, .ref m_table, .ref m_carried])), (m_now, .inl (cy 0, 29, .inl nw))] := hD9
        replace hS := hS9
        clear hP9 hD9 hS9
        have hF : f_X8_far nw fi px py = (((f_X8_found fi (-1000001)).1), ((f_X8_found fi (-1000001)).2)) := hF
        have hf0 := yk_fst hF
        have hg0 := yk_snd hF
        rw [hf0, hg0] at hQ
        exact hQ _ _ _ _ dX8_far_22 hP hS

def l_X8_kindOf_33 (nw : Nat → Int32) : Nat → Nat → Int32 → Int32
  | 0, ki, z1_33 => z1_33
  | fu_X8_kindOf_33 + 1, ki, z1_33 => (if 6 ≤ (nI ki) then z1_33 else (l_X8_kindOf_33 nw fu_X8_kindOf_33 (ki + 1) (if z1_33 = 0 then 0 else (if (f_X8_get nw 0 ki) = 0 then (if (f_X8_get nw 1 ki) = 0 then 1 else 0) else 0))))
def f_X8_kindOf (nw : Nat → Int32) : Int32 := (if (f_X8_spreadAt nw 0 0) = 0 then (if (f_X8_spreadAt nw 1 0) = 0 then (if (f_X8_spreadAt nw 0 1) = 0 then 3 else (if (l_X8_kindOf_33 nw (6 - 3 + 1) 3 1) = 0 then 0 else (if (f_X8_get nw 0 0) = 0 then (if (f_X8_get nw 1 0) = 0 then 2 else 1) else 1))) else (if (l_X8_kindOf_33 nw (6 - 3 + 1) 3 1) = 0 then 0 else (if (f_X8_get nw 0 0) = 0 then (if (f_X8_get nw 1 0) = 0 then 2 else 1) else 1))) else (if (l_X8_kindOf_33 nw (6 - 3 + 1) 3 1) = 0 then 0 else (if (f_X8_get nw 0 0) = 0 then (if (f_X8_get nw 1 0) = 0 then 2 else 1) else 1)))
set_option maxHeartbeats 400000000 in
set_option maxRecDepth 100000 in
theorem c_X8_kindOf (l : Launch) (D : va_G) (cy : Nat → ClassId) (ta : Nat) (m_now : Nat) (m_undone : Nat) (m_slots : Nat) (m_slotKind : Nat) (m_hasSlot : Nat) (m_sheetBits : Nat) (m_sheetSize : Nat) (m_sheets : Nat) (m_fresh : Nat) (m_rootWhich : Nat) (m_signs : Nat) (m_atNought : Nat) (m_change : Nat) (m_table : Nat) (m_carried : Nat) (nw : Nat → Int32) (u : Nat) (fi : Int32) (aa : Int64) (bb : Int64) (dd : Int64) (ro : Nat) (db : Int32) (mn : Nat) : yk_Ci l D vwCl (yk_ty cy) yX8_kindOf wsX8_kindOf 3 68 [.ref ta] [(ta, .inr (8, [.ref m_now, .ref m_undone, .ref m_slots, .ref m_slotKind, .ref m_hasSlot, .ref m_sheetBits, .ref m_sheetSize, .ref m_sheets, .int (nI u), .int fi, .ref m_fresh, .long aa, .long bb, .long dd, .int (nI ro), .ref m_rootWhich, .int db, .ref m_signs, .ref m_atNought, .int (nI mn), .ref m_change, .ref m_table, .ref m_carried])), (m_now, .inl (cy 0, 29, .inl nw))] (f_X8_kindOf nw) [(ta, .inr (8, [.ref m_now, .ref m_undone, .ref m_slots, .ref m_slotKind, .ref m_hasSlot, .ref m_sheetBits, .ref m_sheetSize, .ref m_sheets, .int (nI u), .int fi, .ref m_fresh, .long aa, .long bb, .long dd, .int (nI ro), .ref m_rootWhich, .int db, .ref m_signs, .ref m_atNought, .int (nI mn), .ref m_change, .ref m_table, .ref m_carried])), (m_now, .inl (cy 0, 29, .inl nw))] := by
  refine yk_eI (cc := cX8_kindOf) (maxL := 3) (by decide) rfl (Nat.le_of_ble_eq_true rfl) rfl ?_
  intro p e R s m args below meth c A Q ls H locs hx hb hml hown hts hRf hRl hA hK hG hP hD hS hl hQ
  have hP : va_P D vwCl [(ta, .inr (8, [.ref m_now, .ref m_undone, .ref m_slots, .ref m_slotKind, .ref m_hasSlot, .ref m_sheetBits, .ref m_sheetSize, .ref m_sheets, .int (nI u), .int fi, .ref m_fresh, .long aa, .long bb, .long dd, .int (nI ro), .ref m_rootWhich, .int db, .ref m_signs, .ref m_atNought, .int (nI mn), .ref m_change, .ref m_table, .ref m_carried])), (m_now, .inl (cy 0, 29, .inl nw))] H := hP
  have hl : lv_has ls 3 [(0, .ref ta)] := hl
  have hown : s.vm.findClass RX8 = some m.cls := hown
  have hF : (f_X8_kindOf nw) = (f_X8_kindOf nw) := rfl
  refine lv_aload_n hx hb dX8_kindOf_0 rfl (lv_at hl 0 rfl) ?_
  refine lv_iconst (v := 0) hx hb dX8_kindOf_1 (by decide) ?_
  refine lv_iconst (v := 0) hx hb dX8_kindOf_2 (by decide) ?_
  refine yk_i [0, 1] (va_runV (As := [.int 0, .int 0]) (rest := []) ⟨hx, hb, hml, hown, hts⟩ (c_X8_spreadAt l D cy ta m_now m_undone m_slots m_slotKind m_hasSlot m_sheetBits m_sheetSize m_sheets m_fresh m_rootWhich m_signs m_atNought m_change m_table m_carried nw u fi aa bb dd ro db mn 0 0 H.size) (cwV 2 hts gX8_kindOf_X8_spreadAt rfl rfl rfl hv_X8_spreadAt (yk_room hRf hRl rfl rfl)) (yk_pv (q := (RX8, TX8, 23)) hG hA hS hK hP hD [0, 1] (by decide +kernel) rfl rfl rfl) rfl rfl hl.1 rfl (lv_room (Nat.le_of_ble_eq_true rfl)) dX8_kindOf_3 ⟨Nat.zero_le _, Nat.zero_le _⟩) hP hD hS hA rfl (Eq.trans (b := [ta, m_now]) rfl rfl) (fun H locs hP9 hD9 hS9 => ?_)
  replace hP : va_P D vwCl [(ta, .inr (8, [.ref m_now, .ref m_undone, .ref m_slots, .ref m_slotKind, .ref m_hasSlot, .ref m_sheetBits, .ref m_sheetSize, .ref m_sheets, .int (nI u), .int fi, .ref m_fresh, .long aa, .long bb, .long dd, .int (nI ro), .ref m_rootWhich, .int db, .ref m_signs, .ref m_atNought, .int (nI mn), .ref m_change, .ref m_table, .ref m_carried])), (m_now, .inl (cy 0, 29, .inl nw))] H := hP9
  replace hD : va_D A [(ta, .inr (8, [.ref m_now, .ref m_undone, .ref m_slots, .ref m_slotKind, .ref m_hasSlot, .ref m_sheetBits, .ref m_sheetSize, .ref m_sheets, .int (nI u), .int fi, .ref m_fresh, .long aa, .long bb, .long dd, .int (nI ro), .ref m_rootWhich, .int db, .ref m_signs, .ref m_atNought, .int (nI mn), .ref m_change, .ref m_table, .ref m_carried])), (m_now, .inl (cy 0, 29, .inl nw))] := hD9
  replace hS := hS9
  clear hP9 hD9 hS9
  refine lv_if_ne (tgt := 29) hx hb dX8_kindOf_6 (by decide) (fun hc1 => ?_) (fun hc1 => ?_)
  · replace hF := hF.trans (if_neg hc1)
    refine lv_iconst (v := 1) hx hb dX8_kindOf_29 (by decide) ?_
    refine lv_istore_n (lv' := [(1, .int 1), (0, .ref ta)]) hx hb dX8_kindOf_30 rfl hl (by decide) rfl (fun ls hl9 => ?_)
    replace hl := hl9
    clear hl9
    refine lv_iconst (v := 3) hx hb dX8_kindOf_31 (by decide) ?_
    refine lv_istore_n (lv' := [(2, .int 3), (1, .int 1), (0, .ref ta)]) hx hb dX8_kindOf_32 rfl hl (by decide) rfl (fun ls hl9 => ?_)
    replace hl := hl9
    clear hl9
    have J8 : ∀ (H : Heap) (locs : List Loc) (ls : Array Slot), va_P D vwCl [(ta, .inr (8, [.ref m_now, .ref m_undone, .ref m_slots, .ref m_slotKind, .ref m_hasSlot, .ref m_sheetBits, .ref m_sheetSize, .ref m_sheets, .int (nI u), .int fi, .ref m_fresh, .long aa, .long bb, .long dd, .int (nI ro), .ref m_rootWhich, .int db, .ref m_signs, .ref m_atNought, .int (nI mn), .ref m_change, .ref m_table, .ref m_carried])), (m_now, .inl (cy 0, 29, .inl nw))] H → va_D A [(ta, .inr (8, [.ref m_now, .ref m_undone, .ref m_slots, .ref m_slotKind, .ref m_hasSlot, .ref m_sheetBits, .ref m_sheetSize, .ref m_sheets, .int (nI u), .int fi, .ref m_fresh, .long aa, .long bb, .long dd, .int (nI ro), .ref m_rootWhich, .int db, .ref m_signs, .ref m_atNought, .int (nI mn), .ref m_change, .ref m_table, .ref m_carried])), (m_now, .inl (cy 0, 29, .inl nw))] → va_S A s.heap H locs → lv_has ls 3 [(0, .ref ta), (1, .int (l_X8_kindOf_33 nw (6 - 3 + 1) 3 1))] → W p l e R s m args below meth c H locs 0 0 Q (F0 m 73 ls []) := by
      clear hP hD hS hl
      intro H locs ls hP hD hS hl
      refine lv_iload_n hx hb dX8_kindOf_73 rfl (lv_at hl 1 rfl) ?_
      have J13 : ∀ (v12 : Int32) (H : Heap) (locs : List Loc) (ls : Array Slot), v12 = (if (l_X8_kindOf_33 nw (6 - 3 + 1) 3 1) = 0 then 0 else (if (f_X8_get nw 0 0) = 0 then (if (f_X8_get nw 1 0) = 0 then 2 else 1) else 1)) → va_P D vwCl [(ta, .inr (8, [.ref m_now, .ref m_undone, .ref m_slots, .ref m_slotKind, .ref m_hasSlot, .ref m_sheetBits, .ref m_sheetSize, .ref m_sheets, .int (nI u), .int fi, .ref m_fresh, .long aa, .long bb, .long dd, .int (nI ro), .ref m_rootWhich, .int db, .ref m_signs, .ref m_atNought, .int (nI mn), .ref m_change, .ref m_table, .ref m_carried])), (m_now, .inl (cy 0, 29, .inl nw))] H → va_D A [(ta, .inr (8, [.ref m_now, .ref m_undone, .ref m_slots, .ref m_slotKind, .ref m_hasSlot, .ref m_sheetBits, .ref m_sheetSize, .ref m_sheets, .int (nI u), .int fi, .ref m_fresh, .long aa, .long bb, .long dd, .int (nI ro), .ref m_rootWhich, .int db, .ref m_signs, .ref m_atNought, .int (nI mn), .ref m_change, .ref m_table, .ref m_carried])), (m_now, .inl (cy 0, 29, .inl nw))] → va_S A s.heap H locs → lv_has ls 3 [(0, .ref ta), (1, .int (l_X8_kindOf_33 nw (6 - 3 + 1) 3 1))] → W p l e R s m args below meth c H locs 0 0 Q (F0 m 104 ls [.int v12]) := by
        clear hP hD hS hl
        intro v12 H locs ls ev12
        rw [ev12]
        clear ev12
        intro hP hD hS hl
        have hF : f_X8_kindOf nw = (if (l_X8_kindOf_33 nw (6 - 3 + 1) 3 1) = 0 then 0 else (if (f_X8_get nw 0 0) = 0 then (if (f_X8_get nw 1 0) = 0 then 2 else 1) else 1)) := hF
        rw [hF] at hQ
        exact hQ _ _ _ _ dX8_kindOf_104 hP hS
      refine lv_if_ne (tgt := 81) hx hb dX8_kindOf_74 (by decide) (fun hc9 => ?_) (fun hc9 => ?_)
      · refine lv_aload_n hx hb dX8_kindOf_81 rfl (lv_at hl 0 rfl) ?_
        refine lv_iconst (v := 0) hx hb dX8_kindOf_82 (by decide) ?_
        refine lv_iconst (v := 0) hx hb dX8_kindOf_83 (by decide) ?_
        refine yk_i [0, 1] (va_runV (As := [.int 0, .int 0]) (rest := []) ⟨hx, hb, hml, hown, hts⟩ (c_X8_get l D cy ta m_now m_undone m_slots m_slotKind m_hasSlot m_sheetBits m_sheetSize m_sheets m_fresh m_rootWhich m_signs m_atNought m_change m_table m_carried nw u fi aa bb dd ro db mn 0 0 (by omega) H.size) (cwV 2 hts gX8_kindOf_X8_get rfl rfl rfl hv_X8_get (yk_room hRf hRl rfl rfl)) (yk_pv (q := (RX8, TX8, 23)) hG hA hS hK hP hD [0, 1] (by decide +kernel) rfl rfl rfl) rfl rfl hl.1 rfl (lv_room (Nat.le_of_ble_eq_true rfl)) dX8_kindOf_84 ⟨Nat.zero_le _, Nat.zero_le _⟩) hP hD hS hA rfl (Eq.trans (b := [ta, m_now]) rfl rfl) (fun H locs hP9 hD9 hS9 => ?_)
        replace hP : va_P D vwCl [(ta, .inr (8, [.ref m_now, .ref m_undone, .ref m_slots, .ref m_slotKind, .ref m_hasSlot, .ref m_sheetBits, .ref m_sheetSize, .ref m_sheets, .int (nI u), .int fi, .ref m_fresh, .long aa, .long bb, .long dd, .int (nI ro), .ref m_rootWhich, .int db, .ref m_signs, .ref m_atNought, .int (nI mn), .ref m_change, .ref m_table, .ref m_carried])), (m_now, .inl (cy 0, 29, .inl nw))] H := hP9
        replace hD : va_D A [(ta, .inr (8, [.ref m_now, .ref m_undone, .ref m_slots, .ref m_slotKind, .ref m_hasSlot, .ref m_sheetBits, .ref m_sheetSize, .ref m_sheets, .int (nI u), .int fi, .ref m_fresh, .long aa, .long bb, .long dd, .int (nI ro), .ref m_rootWhich, .int db, .ref m_signs, .ref m_atNought, .int (nI mn), .ref m_change, .ref m_table, .ref m_carried])), (m_now, .inl (cy 0, 29, .inl nw))] := hD9
        replace hS := hS9
        clear hP9 hD9 hS9
        refine lv_if_ne (tgt := 103) hx hb dX8_kindOf_87 (by decide) (fun hc10 => ?_) (fun hc10 => ?_)
        · refine lv_iconst (v := 1) hx hb dX8_kindOf_103 (by decide) ?_
          exact J13 _ _ _ _ (((if_neg hc9).trans (if_neg hc10)).symm) hP hD hS (lv_sub hl [0, 1] rfl)
        · refine lv_aload_n hx hb dX8_kindOf_90 rfl (lv_at hl 0 rfl) ?_
          refine lv_iconst (v := 1) hx hb dX8_kindOf_91 (by decide) ?_
          refine lv_iconst (v := 0) hx hb dX8_kindOf_92 (by decide) ?_
          refine yk_i [0, 1] (va_runV (As := [.int 1, .int 0]) (rest := []) ⟨hx, hb, hml, hown, hts⟩ (c_X8_get l D cy ta m_now m_undone m_slots m_slotKind m_hasSlot m_sheetBits m_sheetSize m_sheets m_fresh m_rootWhich m_signs m_atNought m_change m_table m_carried nw u fi aa bb dd ro db mn 1 0 (by omega) H.size) (cwV 2 hts gX8_kindOf_X8_get rfl rfl rfl hv_X8_get (yk_room hRf hRl rfl rfl)) (yk_pv (q := (RX8, TX8, 23)) hG hA hS hK hP hD [0, 1] (by decide +kernel) rfl rfl rfl) rfl rfl hl.1 rfl (lv_room (Nat.le_of_ble_eq_true rfl)) dX8_kindOf_93 ⟨Nat.zero_le _, Nat.zero_le _⟩) hP hD hS hA rfl (Eq.trans (b := [ta, m_now]) rfl rfl) (fun H locs hP9 hD9 hS9 => ?_)
          replace hP : va_P D vwCl [(ta, .inr (8, [.ref m_now, .ref m_undone, .ref m_slots, .ref m_slotKind, .ref m_hasSlot, .ref m_sheetBits, .ref m_sheetSize, .ref m_sheets, .int (nI u), .int fi, .ref m_fresh, .long aa, .long bb, .long dd, .int (nI ro), .ref m_rootWhich, .int db, .ref m_signs, .ref m_atNought, .int (nI mn), .ref m_change, .ref m_table, .ref m_carried])), (m_now, .inl (cy 0, 29, .inl nw))] H := hP9
          replace hD : va_D A [(ta, .inr (8, [.ref m_now, .ref m_undone, .ref m_slots, .ref m_slotKind, .ref m_hasSlot, .ref m_sheetBits, .ref m_sheetSize, .ref m_sheets, .int (nI u), .int fi, .ref m_fresh, .long aa, .long bb, .long dd, .int (nI ro), .ref m_rootWhich, .int db, .ref m_signs, .ref m_atNought, .int (nI mn), .ref m_change, .ref m_table, .ref m_carried])), (m_now, .inl (cy 0, 29, .inl nw))] := hD9
          replace hS := hS9
          clear hP9 hD9 hS9
          refine lv_if_ne (tgt := 103) hx hb dX8_kindOf_96 (by decide) (fun hc11 => ?_) (fun hc11 => ?_)
          · refine lv_iconst (v := 1) hx hb dX8_kindOf_103 (by decide) ?_
            exact J13 _ _ _ _ (((if_neg hc9).trans ((if_pos hc10).trans (if_neg hc11))).symm) hP hD hS (lv_sub hl [0, 1] rfl)
          · refine lv_iconst (v := 2) hx hb dX8_kindOf_99 (by decide) ?_
            refine lv_goto (tgt := 104) hx hb dX8_kindOf_100 (by decide) ?_
            exact J13 _ _ _ _ (((if_neg hc9).trans ((if_pos hc10).trans (if_pos hc11))).symm) hP hD hS (lv_sub hl [0, 1] rfl)
      · refine lv_iconst (v := 0) hx hb dX8_kindOf_77 (by decide) ?_
        refine lv_goto (tgt := 104) hx hb dX8_kindOf_78 (by decide) ?_
        exact J13 _ _ _ _ ((if_pos hc9).symm) hP hD hS (lv_sub hl [0, 1] rfl)
    have L33 : ∀ (M9 n33 ki : Nat) (z1_33 : Int32) (H : Heap) (locs : List Loc) (ls : Array Slot), n33 < M9 → ki + n33 = 6 → (l_X8_kindOf_33 nw (6 - 3 + 1) 3 1) = (l_X8_kindOf_33 nw (n33 + 1) ki z1_33) → va_P D vwCl [(ta, .inr (8, [.ref m_now, .ref m_undone, .ref m_slots, .ref m_slotKind, .ref m_hasSlot, .ref m_sheetBits, .ref m_sheetSize, .ref m_sheets, .int (nI u), .int fi, .ref m_fresh, .long aa, .long bb, .long dd, .int (nI ro), .ref m_rootWhich, .int db, .ref m_signs, .ref m_atNought, .int (nI mn), .ref m_change, .ref m_table, .ref m_carried])), (m_now, .inl (cy 0, 29, .inl nw))] H → va_D A [(ta, .inr (8, [.ref m_now, .ref m_undone, .ref m_slots, .ref m_slotKind, .ref m_hasSlot, .ref m_sheetBits, .ref m_sheetSize, .ref m_sheets, .int (nI u), .int fi, .ref m_fresh, .long aa, .long bb, .long dd, .int (nI ro), .ref m_rootWhich, .int db, .ref m_signs, .ref m_atNought, .int (nI mn), .ref m_change, .ref m_table, .ref m_carried])), (m_now, .inl (cy 0, 29, .inl nw))] → va_S A s.heap H locs → lv_has ls 3 [(0, .ref ta), (1, .int z1_33), (2, .int (nI ki))] → W p l e R s m args below meth c H locs 0 0 Q (F0 m 33 ls []) := by
      clear hP hD hS hl
      intro M9
      induction M9 with
      | zero => intro n33 ki _ _ _ _ hn; exact absurd hn (Nat.not_lt_zero _)
      | succ M9 ih33 =>
        intro n33 ki z1_33 H locs ls hn33 hk33 hV33 hP hD hS hl
        refine lv_iload_n hx hb dX8_kindOf_33 rfl (lv_at hl 2 rfl) ?_
        refine lv_bipush (v := 6) hx hb dX8_kindOf_34 (by decide) ?_
        refine lv_icmp_ge (tgt := 73) hx hb dX8_kindOf_36 (by decide) (fun hc2 => ?_) (fun hc2 => ?_)
        · replace hV33 := hV33.trans (if_pos hc2)
          have hV33 : (l_X8_kindOf_33 nw (6 - 3 + 1) 3 1) = z1_33 := hV33
          have J8 := J8
          rw [hV33] at J8
          exact J8 _ _ _ hP hD hS (lv_sub hl [0, 1] rfl)
        · replace hV33 := hV33.trans (if_neg hc2)
          have hlt33 : ki < 6 := yk_lt hk33 (by omega) hc2
          refine lv_iload_n hx hb dX8_kindOf_39 rfl (lv_at hl 1 rfl) ?_
          have J7 : ∀ (v6 : Int32) (H : Heap) (locs : List Loc) (ls : Array Slot), v6 = (if z1_33 = 0 then 0 else (if (f_X8_get nw 0 ki) = 0 then (if (f_X8_get nw 1 ki) = 0 then 1 else 0) else 0)) → va_P D vwCl [(ta, .inr (8, [.ref m_now, .ref m_undone, .ref m_slots, .ref m_slotKind, .ref m_hasSlot, .ref m_sheetBits, .ref m_sheetSize, .ref m_sheets, .int (nI u), .int fi, .ref m_fresh, .long aa, .long bb, .long dd, .int (nI ro), .ref m_rootWhich, .int db, .ref m_signs, .ref m_atNought, .int (nI mn), .ref m_change, .ref m_table, .ref m_carried])), (m_now, .inl (cy 0, 29, .inl nw))] H → va_D A [(ta, .inr (8, [.ref m_now, .ref m_undone, .ref m_slots, .ref m_slotKind, .ref m_hasSlot, .ref m_sheetBits, .ref m_sheetSize, .ref m_sheets, .int (nI u), .int fi, .ref m_fresh, .long aa, .long bb, .long dd, .int (nI ro), .ref m_rootWhich, .int db, .ref m_signs, .ref m_atNought, .int (nI mn), .ref m_change, .ref m_table, .ref m_carried])), (m_now, .inl (cy 0, 29, .inl nw))] → va_S A s.heap H locs → lv_has ls 3 [(0, .ref ta), (1, .int z1_33), (2, .int (nI ki))] → W p l e R s m args below meth c H locs 0 0 Q (F0 m 66 ls [.int v6]) := by
            clear hP hD hS hl
            intro v6 H locs ls ev6
            rw [ev6]
            clear ev6
            intro hP hD hS hl
            refine lv_istore_n (lv' := [(1, .int (if z1_33 = 0 then 0 else (if (f_X8_get nw 0 ki) = 0 then (if (f_X8_get nw 1 ki) = 0 then 1 else 0) else 0))), (0, .ref ta), (2, .int (nI ki))]) hx hb dX8_kindOf_66 rfl hl (by decide) rfl (fun ls hl9 => ?_)
            replace hl := hl9
            clear hl9
            refine lv_iinc (v := nI (ki + 1)) (lv' := [(2, .int (nI (ki + 1))), (1, .int (if z1_33 = 0 then 0 else (if (f_X8_get nw 0 ki) = 0 then (if (f_X8_get nw 1 ki) = 0 then 1 else 0) else 0))), (0, .ref ta)]) hx hb dX8_kindOf_67 hl (k := 2) rfl (yk_inc ki) (by decide) rfl (fun ls hl9 => ?_)
            replace hl := hl9
            clear hl9
            refine lv_goto (tgt := 33) hx hb dX8_kindOf_70 (by decide) ?_
            obtain ⟨n9, rfl⟩ : ∃ n9, n33 = n9 + 1 := ⟨n33 - 1, by omega⟩
            exact ih33 n9 (ki + 1) (if z1_33 = 0 then 0 else (if (f_X8_get nw 0 ki) = 0 then (if (f_X8_get nw 1 ki) = 0 then 1 else 0) else 0)) _ _ _ (by omega) (by omega)  hV33 hP hD hS (lv_sub hl [2, 1, 0] rfl)
          refine lv_if_eq (tgt := 65) hx hb dX8_kindOf_40 (by decide) (fun hc3 => ?_) (fun hc3 => ?_)
          · refine lv_iconst (v := 0) hx hb dX8_kindOf_65 (by decide) ?_
            exact J7 _ _ _ _ ((if_pos hc3).symm) hP hD hS (lv_sub hl [0, 1, 2] rfl)
          · refine lv_aload_n hx hb dX8_kindOf_43 rfl (lv_at hl 0 rfl) ?_
            refine lv_iconst (v := 0) hx hb dX8_kindOf_44 (by decide) ?_
            refine lv_iload_n hx hb dX8_kindOf_45 rfl (lv_at hl 2 rfl) ?_
            refine yk_i [0, 1] (va_runV (As := [.int 0, .int (nI ki)]) (rest := []) ⟨hx, hb, hml, hown, hts⟩ (c_X8_get l D cy ta m_now m_undone m_slots m_slotKind m_hasSlot m_sheetBits m_sheetSize m_sheets m_fresh m_rootWhich m_signs m_atNought m_change m_table m_carried nw u fi aa bb dd ro db mn 0 ki (by omega) H.size) (cwV 2 hts gX8_kindOf_X8_get rfl rfl rfl hv_X8_get (yk_room hRf hRl rfl rfl)) (yk_pv (q := (RX8, TX8, 23)) hG hA hS hK hP hD [0, 1] (by decide +kernel) rfl rfl rfl) rfl rfl hl.1 rfl (lv_room (Nat.le_of_ble_eq_true rfl)) dX8_kindOf_46 ⟨Nat.zero_le _, Nat.zero_le _⟩) hP hD hS hA rfl (Eq.trans (b := [ta, m_now]) rfl rfl) (fun H locs hP9 hD9 hS9 => ?_)
            replace hP : va_P D vwCl [(ta, .inr (8, [.ref m_now, .ref m_undone, .ref m_slots, .ref m_slotKind, .ref m_hasSlot, .ref m_sheetBits, .ref m_sheetSize, .ref m_sheets, .int (nI u), .int fi, .ref m_fresh, .long aa, .long bb, .long dd, .int (nI ro), .ref m_rootWhich, .int db, .ref m_signs, .ref m_atNought, .int (nI mn), .ref m_change, .ref m_table, .ref m_carried])), (m_now, .inl (cy 0, 29, .inl nw))] H := hP9
            replace hD : va_D A [(ta, .inr (8, [.ref m_now, .ref m_undone, .ref m_slots, .ref m_slotKind, .ref m_hasSlot, .ref m_sheetBits, .ref m_sheetSize, .ref m_sheets, .int (nI u), .int fi, .ref m_fresh, .long aa, .long bb, .long dd, .int (nI ro), .ref m_rootWhich, .int db, .ref m_signs, .ref m_atNought, .int (nI mn), .ref m_change, .ref m_table, .ref m_carried])), (m_now, .inl (cy 0, 29, .inl nw))] := hD9
            replace hS := hS9
            clear hP9 hD9 hS9
            refine lv_if_ne (tgt := 65) hx hb dX8_kindOf_49 (by decide) (fun hc4 => ?_) (fun hc4 => ?_)
            · refine lv_iconst (v := 0) hx hb dX8_kindOf_65 (by decide) ?_
              exact J7 _ _ _ _ (((if_neg hc3).trans (if_neg hc4)).symm) hP hD hS (lv_sub hl [0, 1, 2] rfl)
            · refine lv_aload_n hx hb dX8_kindOf_52 rfl (lv_at hl 0 rfl) ?_
              refine lv_iconst (v := 1) hx hb dX8_kindOf_53 (by decide) ?_
              refine lv_iload_n hx hb dX8_kindOf_54 rfl (lv_at hl 2 rfl) ?_
              refine yk_i [0, 1] (va_runV (As := [.int 1, .int (nI ki)]) (rest := []) ⟨hx, hb, hml, hown, hts⟩ (c_X8_get l D cy ta m_now m_undone m_slots m_slotKind m_hasSlot m_sheetBits m_sheetSize m_sheets m_fresh m_rootWhich m_signs m_atNought m_change m_table m_carried nw u fi aa bb dd ro db mn 1 ki (by omega) H.size) (cwV 2 hts gX8_kindOf_X8_get rfl rfl rfl hv_X8_get (yk_room hRf hRl rfl rfl)) (yk_pv (q := (RX8, TX8, 23)) hG hA hS hK hP hD [0, 1] (by decide +kernel) rfl rfl rfl) rfl rfl hl.1 rfl (lv_room (Nat.le_of_ble_eq_true rfl)) dX8_kindOf_55 ⟨Nat.zero_le _, Nat.zero_le _⟩) hP hD hS hA rfl (Eq.trans (b := [ta, m_now]) rfl rfl) (fun H locs hP9 hD9 hS9 => ?_)
              replace hP : va_P D vwCl [(ta, .inr (8, [.ref m_now, .ref m_undone, .ref m_slots, .ref m_slotKind, .ref m_hasSlot, .ref m_sheetBits, .ref m_sheetSize, .ref m_sheets, .int (nI u), .int fi, .ref m_fresh, .long aa, .long bb, .long dd, .int (nI ro), .ref m_rootWhich, .int db, .ref m_signs, .ref m_atNought, .int (nI mn), .ref m_change, .ref m_table, .ref m_carried])), (m_now, .inl (cy 0, 29, .inl nw))] H := hP9
              replace hD : va_D A [(ta, .inr (8, [.ref m_now, .ref m_undone, .ref m_slots, .ref m_slotKind, .ref m_hasSlot, .ref m_sheetBits, .ref m_sheetSize, .ref m_sheets, .int (nI u), .int fi, .ref m_fresh, .long aa, .long bb, .long dd, .int (nI ro), .ref m_rootWhich, .int db, .ref m_signs, .ref m_atNought, .int (nI mn), .ref m_change, .ref m_table, .ref m_carried])), (m_now, .inl (cy 0, 29, .inl nw))] := hD9
              replace hS := hS9
              clear hP9 hD9 hS9
              refine lv_if_ne (tgt := 65) hx hb dX8_kindOf_58 (by decide) (fun hc5 => ?_) (fun hc5 => ?_)
              · refine lv_iconst (v := 0) hx hb dX8_kindOf_65 (by decide) ?_
                exact J7 _ _ _ _ (((if_neg hc3).trans ((if_pos hc4).trans (if_neg hc5))).symm) hP hD hS (lv_sub hl [0, 1, 2] rfl)
              · refine lv_iconst (v := 1) hx hb dX8_kindOf_61 (by decide) ?_
                refine lv_goto (tgt := 66) hx hb dX8_kindOf_62 (by decide) ?_
                exact J7 _ _ _ _ (((if_neg hc3).trans ((if_pos hc4).trans (if_pos hc5))).symm) hP hD hS (lv_sub hl [0, 1, 2] rfl)
    exact L33 ((6 - 3) + 1) (6 - 3) 3 1 _ _ _ (Nat.lt_succ_self _) (by omega)  rfl hP hD hS (lv_sub hl [2, 1, 0] rfl)
  · replace hF := hF.trans (if_pos hc1)
    refine lv_aload_n hx hb dX8_kindOf_9 rfl (lv_at hl 0 rfl) ?_
    refine lv_iconst (v := 1) hx hb dX8_kindOf_10 (by decide) ?_
    refine lv_iconst (v := 0) hx hb dX8_kindOf_11 (by decide) ?_
    refine yk_i [0, 1] (va_runV (As := [.int 1, .int 0]) (rest := []) ⟨hx, hb, hml, hown, hts⟩ (c_X8_spreadAt l D cy ta m_now m_undone m_slots m_slotKind m_hasSlot m_sheetBits m_sheetSize m_sheets m_fresh m_rootWhich m_signs m_atNought m_change m_table m_carried nw u fi aa bb dd ro db mn 1 0 H.size) (cwV 2 hts gX8_kindOf_X8_spreadAt rfl rfl rfl hv_X8_spreadAt (yk_room hRf hRl rfl rfl)) (yk_pv (q := (RX8, TX8, 23)) hG hA hS hK hP hD [0, 1] (by decide +kernel) rfl rfl rfl) rfl rfl hl.1 rfl (lv_room (Nat.le_of_ble_eq_true rfl)) dX8_kindOf_12 ⟨Nat.zero_le _, Nat.zero_le _⟩) hP hD hS hA rfl (Eq.trans (b := [ta, m_now]) rfl rfl) (fun H locs hP9 hD9 hS9 => ?_)
    replace hP : va_P D vwCl [(ta, .inr (8, [.ref m_now, .ref m_undone, .ref m_slots, .ref m_slotKind, .ref m_hasSlot, .ref m_sheetBits, .ref m_sheetSize, .ref m_sheets, .int (nI u), .int fi, .ref m_fresh, .long aa, .long bb, .long dd, .int (nI ro), .ref m_rootWhich, .int db, .ref m_signs, .ref m_atNought, .int (nI mn), .ref m_change, .ref m_table, .ref m_carried])), (m_now, .inl (cy 0, 29, .inl nw))] H := hP9
    replace hD : va_D A [(ta, .inr (8, [.ref m_now, .ref m_undone, .ref m_slots, .ref m_slotKind, .ref m_hasSlot, .ref m_sheetBits, .ref m_sheetSize, .ref m_sheets, .int (nI u), .int fi, .ref m_fresh, .long aa, .long bb, .long dd, .int (nI ro), .ref m_rootWhich, .int db, .ref m_signs, .ref m_atNought, .int (nI mn), .ref m_change, .ref m_table, .ref m_carried])), (m_now, .inl (cy 0, 29, .inl nw))] := hD9
    replace hS := hS9
    clear hP9 hD9 hS9
    refine lv_if_ne (tgt := 29) hx hb dX8_kindOf_15 (by decide) (fun hc14 => ?_) (fun hc14 => ?_)
    · replace hF := hF.trans (if_neg hc14)
      refine lv_iconst (v := 1) hx hb dX8_kindOf_29 (by decide) ?_
      refine lv_istore_n (lv' := [(1, .int 1), (0, .ref ta)]) hx hb dX8_kindOf_30 rfl hl (by decide) rfl (fun ls hl9 => ?_)
      replace hl := hl9
      clear hl9
      refine lv_iconst (v := 3) hx hb dX8_kindOf_31 (by decide) ?_
      refine lv_istore_n (lv' := [(2, .int 3), (1, .int 1), (0, .ref ta)]) hx hb dX8_kindOf_32 rfl hl (by decide) rfl (fun ls hl9 => ?_)
      replace hl := hl9
      clear hl9
      have J21 : ∀ (H : Heap) (locs : List Loc) (ls : Array Slot), va_P D vwCl [(ta, .inr (8, [.ref m_now, .ref m_undone, .ref m_slots, .ref m_slotKind, .ref m_hasSlot, .ref m_sheetBits, .ref m_sheetSize, .ref m_sheets, .int (nI u), .int fi, .ref m_fresh, .long aa, .long bb, .long dd, .int (nI ro), .ref m_rootWhich, .int db, .ref m_signs, .ref m_atNought, .int (nI mn), .ref m_change, .ref m_table, .ref m_carried])), (m_now, .inl (cy 0, 29, .inl nw))] H → va_D A [(ta, .inr (8, [.ref m_now, .ref m_undone, .ref m_slots, .ref m_slotKind, .ref m_hasSlot, .ref m_sheetBits, .ref m_sheetSize, .ref m_sheets, .int (nI u), .int fi, .ref m_fresh, .long aa, .long bb, .long dd, .int (nI ro), .ref m_rootWhich, .int db, .ref m_signs, .ref m_atNought, .int (nI mn), .ref m_change, .ref m_table, .ref m_carried])), (m_now, .inl (cy 0, 29, .inl nw))] → va_S A s.heap H locs → lv_has ls 3 [(0, .ref ta), (1, .int (l_X8_kindOf_33 nw (6 - 3 + 1) 3 1))] → W p l e R s m args below meth c H locs 0 0 Q (F0 m 73 ls []) := by
        clear hP hD hS hl
        intro H locs ls hP hD hS hl
        refine lv_iload_n hx hb dX8_kindOf_73 rfl (lv_at hl 1 rfl) ?_
        have J26 : ∀ (v25 : Int32) (H : Heap) (locs : List Loc) (ls : Array Slot), v25 = (if (l_X8_kindOf_33 nw (6 - 3 + 1) 3 1) = 0 then 0 else (if (f_X8_get nw 0 0) = 0 then (if (f_X8_get nw 1 0) = 0 then 2 else 1) else 1)) → va_P D vwCl [(ta, .inr (8, [.ref m_now, .ref m_undone, .ref m_slots, .ref m_slotKind, .ref m_hasSlot, .ref m_sheetBits, .ref m_sheetSize, .ref m_sheets, .int (nI u), .int fi, .ref m_fresh, .long aa, .long bb, .long dd, .int (nI ro), .ref m_rootWhich, .int db, .ref m_signs, .ref m_atNought, .int (nI mn), .ref m_change, .ref m_table, .ref m_carried])), (m_now, .inl (cy 0, 29, .inl nw))] H → va_D A [(ta, .inr (8, [.ref m_now, .ref m_undone, .ref m_slots, .ref m_slotKind, .ref m_hasSlot, .ref m_sheetBits, .ref m_sheetSize, .ref m_sheets, .int (nI u), .int fi, .ref m_fresh, .long aa, .long bb, .long dd, .int (nI ro), .ref m_rootWhich, .int db, .ref m_signs, .ref m_atNought, .int (nI mn), .ref m_change, .ref m_table, .ref m_carried])), (m_now, .inl (cy 0, 29, .inl nw))] → va_S A s.heap H locs → lv_has ls 3 [(0, .ref ta), (1, .int (l_X8_kindOf_33 nw (6 - 3 + 1) 3 1))] → W p l e R s m args below meth c H locs 0 0 Q (F0 m 104 ls [.int v25]) := by
          clear hP hD hS hl
          intro v25 H locs ls ev25
          rw [ev25]
          clear ev25
          intro hP hD hS hl
          have hF : f_X8_kindOf nw = (if (l_X8_kindOf_33 nw (6 - 3 + 1) 3 1) = 0 then 0 else (if (f_X8_get nw 0 0) = 0 then (if (f_X8_get nw 1 0) = 0 then 2 else 1) else 1)) := hF
          rw [hF] at hQ
          exact hQ _ _ _ _ dX8_kindOf_104 hP hS
        refine lv_if_ne (tgt := 81) hx hb dX8_kindOf_74 (by decide) (fun hc22 => ?_) (fun hc22 => ?_)
        · refine lv_aload_n hx hb dX8_kindOf_81 rfl (lv_at hl 0 rfl) ?_
          refine lv_iconst (v := 0) hx hb dX8_kindOf_82 (by decide) ?_
          refine lv_iconst (v := 0) hx hb dX8_kindOf_83 (by decide) ?_
          refine yk_i [0, 1] (va_runV (As := [.int 0, .int 0]) (rest := []) ⟨hx, hb, hml, hown, hts⟩ (c_X8_get l D cy ta m_now m_undone m_slots m_slotKind m_hasSlot m_sheetBits m_sheetSize m_sheets m_fresh m_rootWhich m_signs m_atNought m_change m_table m_carried nw u fi aa bb dd ro db mn 0 0 (by omega) H.size) (cwV 2 hts gX8_kindOf_X8_get rfl rfl rfl hv_X8_get (yk_room hRf hRl rfl rfl)) (yk_pv (q := (RX8, TX8, 23)) hG hA hS hK hP hD [0, 1] (by decide +kernel) rfl rfl rfl) rfl rfl hl.1 rfl (lv_room (Nat.le_of_ble_eq_true rfl)) dX8_kindOf_84 ⟨Nat.zero_le _, Nat.zero_le _⟩) hP hD hS hA rfl (Eq.trans (b := [ta, m_now]) rfl rfl) (fun H locs hP9 hD9 hS9 => ?_)
          replace hP : va_P D vwCl [(ta, .inr (8, [.ref m_now, .ref m_undone, .ref m_slots, .ref m_slotKind, .ref m_hasSlot, .ref m_sheetBits, .ref m_sheetSize, .ref m_sheets, .int (nI u), .int fi, .ref m_fresh, .long aa, .long bb, .long dd, .int (nI ro), .ref m_rootWhich, .int db, .ref m_signs, .ref m_atNought, .int (nI mn), .ref m_change, .ref m_table, .ref m_carried])), (m_now, .inl (cy 0, 29, .inl nw))] H := hP9
          replace hD : va_D A [(ta, .inr (8, [.ref m_now, .ref m_undone, .ref m_slots, .ref m_slotKind, .ref m_hasSlot, .ref m_sheetBits, .ref m_sheetSize, .ref m_sheets, .int (nI u), .int fi, .ref m_fresh, .long aa, .long bb, .long dd, .int (nI ro), .ref m_rootWhich, .int db, .ref m_signs, .ref m_atNought, .int (nI mn), .ref m_change, .ref m_table, .ref m_carried])), (m_now, .inl (cy 0, 29, .inl nw))] := hD9
          replace hS := hS9
          clear hP9 hD9 hS9
          refine lv_if_ne (tgt := 103) hx hb dX8_kindOf_87 (by decide) (fun hc23 => ?_) (fun hc23 => ?_)
          · refine lv_iconst (v := 1) hx hb dX8_kindOf_103 (by decide) ?_
            exact J26 _ _ _ _ (((if_neg hc22).trans (if_neg hc23)).symm) hP hD hS (lv_sub hl [0, 1] rfl)
          · refine lv_aload_n hx hb dX8_kindOf_90 rfl (lv_at hl 0 rfl) ?_
            refine lv_iconst (v := 1) hx hb dX8_kindOf_91 (by decide) ?_
            refine lv_iconst (v := 0) hx hb dX8_kindOf_92 (by decide) ?_
            refine yk_i [0, 1] (va_runV (As := [.int 1, .int 0]) (rest := []) ⟨hx, hb, hml, hown, hts⟩ (c_X8_get l D cy ta m_now m_undone m_slots m_slotKind m_hasSlot m_sheetBits m_sheetSize m_sheets m_fresh m_rootWhich m_signs m_atNought m_change m_table m_carried nw u fi aa bb dd ro db mn 1 0 (by omega) H.size) (cwV 2 hts gX8_kindOf_X8_get rfl rfl rfl hv_X8_get (yk_room hRf hRl rfl rfl)) (yk_pv (q := (RX8, TX8, 23)) hG hA hS hK hP hD [0, 1] (by decide +kernel) rfl rfl rfl) rfl rfl hl.1 rfl (lv_room (Nat.le_of_ble_eq_true rfl)) dX8_kindOf_93 ⟨Nat.zero_le _, Nat.zero_le _⟩) hP hD hS hA rfl (Eq.trans (b := [ta, m_now]) rfl rfl) (fun H locs hP9 hD9 hS9 => ?_)
            replace hP : va_P D vwCl [(ta, .inr (8, [.ref m_now, .ref m_undone, .ref m_slots, .ref m_slotKind, .ref m_hasSlot, .ref m_sheetBits, .ref m_sheetSize, .ref m_sheets, .int (nI u), .int fi, .ref m_fresh, .long aa, .long bb, .long dd, .int (nI ro), .ref m_rootWhich, .int db, .ref m_signs, .ref m_atNought, .int (nI mn), .ref m_change, .ref m_table, .ref m_carried])), (m_now, .inl (cy 0, 29, .inl nw))] H := hP9
            replace hD : va_D A [(ta, .inr (8, [.ref m_now, .ref m_undone, .ref m_slots, .ref m_slotKind, .ref m_hasSlot, .ref m_sheetBits, .ref m_sheetSize, .ref m_sheets, .int (nI u), .int fi, .ref m_fresh, .long aa, .long bb, .long dd, .int (nI ro), .ref m_rootWhich, .int db, .ref m_signs, .ref m_atNought, .int (nI mn), .ref m_change, .ref m_table, .ref m_carried])), (m_now, .inl (cy 0, 29, .inl nw))] := hD9
            replace hS := hS9
            clear hP9 hD9 hS9
            refine lv_if_ne (tgt := 103) hx hb dX8_kindOf_96 (by decide) (fun hc24 => ?_) (fun hc24 => ?_)
            · refine lv_iconst (v := 1) hx hb dX8_kindOf_103 (by decide) ?_
              exact J26 _ _ _ _ (((if_neg hc22).trans ((if_pos hc23).trans (if_neg hc24))).symm) hP hD hS (lv_sub hl [0, 1] rfl)
            · refine lv_iconst (v := 2) hx hb dX8_kindOf_99 (by decide) ?_
              refine lv_goto (tgt := 104) hx hb dX8_kindOf_100 (by decide) ?_
              exact J26 _ _ _ _ (((if_neg hc22).trans ((if_pos hc23).trans (if_pos hc24))).symm) hP hD hS (lv_sub hl [0, 1] rfl)
        · refine lv_iconst (v := 0) hx hb dX8_kindOf_77 (by decide) ?_
          refine lv_goto (tgt := 104) hx hb dX8_kindOf_78 (by decide) ?_
          exact J26 _ _ _ _ ((if_pos hc22).symm) hP hD hS (lv_sub hl [0, 1] rfl)
      have L33 : ∀ (M9 n33 ki : Nat) (z1_33 : Int32) (H : Heap) (locs : List Loc) (ls : Array Slot), n33 < M9 → ki + n33 = 6 → (l_X8_kindOf_33 nw (6 - 3 + 1) 3 1) = (l_X8_kindOf_33 nw (n33 + 1) ki z1_33) → va_P D vwCl [(ta, .inr (8, [.ref m_now, .ref m_undone, .ref m_slots, .ref m_slotKind, .ref m_hasSlot, .ref m_sheetBits, .ref m_sheetSize, .ref m_sheets, .int (nI u), .int fi, .ref m_fresh, .long aa, .long bb, .long dd, .int (nI ro), .ref m_rootWhich, .int db, .ref m_signs, .ref m_atNought, .int (nI mn), .ref m_change, .ref m_table, .ref m_carried])), (m_now, .inl (cy 0, 29, .inl nw))] H → va_D A [(ta, .inr (8, [.ref m_now, .ref m_undone, .ref m_slots, .ref m_slotKind, .ref m_hasSlot, .ref m_sheetBits, .ref m_sheetSize, .ref m_sheets, .int (nI u), .int fi, .ref m_fresh, .long aa, .long bb, .long dd, .int (nI ro), .ref m_rootWhich, .int db, .ref m_signs, .ref m_atNought, .int (nI mn), .ref m_change, .ref m_table, .ref m_carried])), (m_now, .inl (cy 0, 29, .inl nw))] → va_S A s.heap H locs → lv_has ls 3 [(0, .ref ta), (1, .int z1_33), (2, .int (nI ki))] → W p l e R s m args below meth c H locs 0 0 Q (F0 m 33 ls []) := by
        clear hP hD hS hl
        intro M9
        induction M9 with
        | zero => intro n33 ki _ _ _ _ hn; exact absurd hn (Nat.not_lt_zero _)
        | succ M9 ih33 =>
          intro n33 ki z1_33 H locs ls hn33 hk33 hV33 hP hD hS hl
          refine lv_iload_n hx hb dX8_kindOf_33 rfl (lv_at hl 2 rfl) ?_
          refine lv_bipush (v := 6) hx hb dX8_kindOf_34 (by decide) ?_
          refine lv_icmp_ge (tgt := 73) hx hb dX8_kindOf_36 (by decide) (fun hc15 => ?_) (fun hc15 => ?_)
          · replace hV33 := hV33.trans (if_pos hc15)
            have hV33 : (l_X8_kindOf_33 nw (6 - 3 + 1) 3 1) = z1_33 := hV33
            have J21 := J21
            rw [hV33] at J21
            exact J21 _ _ _ hP hD hS (lv_sub hl [0, 1] rfl)
          · replace hV33 := hV33.trans (if_neg hc15)
            have hlt33 : ki < 6 := yk_lt hk33 (by omega) hc15
            refine lv_iload_n hx hb dX8_kindOf_39 rfl (lv_at hl 1 rfl) ?_
            have J20 : ∀ (v19 : Int32) (H : Heap) (locs : List Loc) (ls : Array Slot), v19 = (if z1_33 = 0 then 0 else (if (f_X8_get nw 0 ki) = 0 then (if (f_X8_get nw 1 ki) = 0 then 1 else 0) else 0)) → va_P D vwCl [(ta, .inr (8, [.ref m_now, .ref m_undone, .ref m_slots, .ref m_slotKind, .ref m_hasSlot, .ref m_sheetBits, .ref m_sheetSize, .ref m_sheets, .int (nI u), .int fi, .ref m_fresh, .long aa, .long bb, .long dd, .int (nI ro), .ref m_rootWhich, .int db, .ref m_signs, .ref m_atNought, .int (nI mn), .ref m_change, .ref m_table, .ref m_carried])), (m_now, .inl (cy 0, 29, .inl nw))] H → va_D A [(ta, .inr (8, [.ref m_now, .ref m_undone, .ref m_slots, .ref m_slotKind, .ref m_hasSlot, .ref m_sheetBits, .ref m_sheetSize, .ref m_sheets, .int (nI u), .int fi, .ref m_fresh, .long aa, .long bb, .long dd, .int (nI ro), .ref m_rootWhich, .int db, .ref m_signs, .ref m_atNought, .int (nI mn), .ref m_change, .ref m_table, .ref m_carried])), (m_now, .inl (cy 0, 29, .inl nw))] → va_S A s.heap H locs → lv_has ls 3 [(0, .ref ta), (1, .int z1_33), (2, .int (nI ki))] → W p l e R s m args below meth c H locs 0 0 Q (F0 m 66 ls [.int v19]) := by
              clear hP hD hS hl
              intro v19 H locs ls ev19
              rw [ev19]
              clear ev19
              intro hP hD hS hl
              refine lv_istore_n (lv' := [(1, .int (if z1_33 = 0 then 0 else (if (f_X8_get nw 0 ki) = 0 then (if (f_X8_get nw 1 ki) = 0 then 1 else 0) else 0))), (0, .ref ta), (2, .int (nI ki))]) hx hb dX8_kindOf_66 rfl hl (by decide) rfl (fun ls hl9 => ?_)
              replace hl := hl9
              clear hl9
              refine lv_iinc (v := nI (ki + 1)) (lv' := [(2, .int (nI (ki + 1))), (1, .int (if z1_33 = 0 then 0 else (if (f_X8_get nw 0 ki) = 0 then (if (f_X8_get nw 1 ki) = 0 then 1 else 0) else 0))), (0, .ref ta)]) hx hb dX8_kindOf_67 hl (k := 2) rfl (yk_inc ki) (by decide) rfl (fun ls hl9 => ?_)
              replace hl := hl9
              clear hl9
              refine lv_goto (tgt := 33) hx hb dX8_kindOf_70 (by decide) ?_
              obtain ⟨n9, rfl⟩ : ∃ n9, n33 = n9 + 1 := ⟨n33 - 1, by omega⟩
              exact ih33 n9 (ki + 1) (if z1_33 = 0 then 0 else (if (f_X8_get nw 0 ki) = 0 then (if (f_X8_get nw 1 ki) = 0 then 1 else 0) else 0)) _ _ _ (by omega) (by omega)  hV33 hP hD hS (lv_sub hl [2, 1, 0] rfl)
            refine lv_if_eq (tgt := 65) hx hb dX8_kindOf_40 (by decide) (fun hc16 => ?_) (fun hc16 => ?_)
            · refine lv_iconst (v := 0) hx hb dX8_kindOf_65 (by decide) ?_
              exact J20 _ _ _ _ ((if_pos hc16).symm) hP hD hS (lv_sub hl [0, 1, 2] rfl)
            · refine lv_aload_n hx hb dX8_kindOf_43 rfl (lv_at hl 0 rfl) ?_
              refine lv_iconst (v := 0) hx hb dX8_kindOf_44 (by decide) ?_
              refine lv_iload_n hx hb dX8_kindOf_45 rfl (lv_at hl 2 rfl) ?_
              refine yk_i [0, 1] (va_runV (As := [.int 0, .int (nI ki)]) (rest := []) ⟨hx, hb, hml, hown, hts⟩ (c_X8_get l D cy ta m_now m_undone m_slots m_slotKind m_hasSlot m_sheetBits m_sheetSize m_sheets m_fresh m_rootWhich m_signs m_atNought m_change m_table m_carried nw u fi aa bb dd ro db mn 0 ki (by omega) H.size) (cwV 2 hts gX8_kindOf_X8_get rfl rfl rfl hv_X8_get (yk_room hRf hRl rfl rfl)) (yk_pv (q := (RX8, TX8, 23)) hG hA hS hK hP hD [0, 1] (by decide +kernel) rfl rfl rfl) rfl rfl hl.1 rfl (lv_room (Nat.le_of_ble_eq_true rfl)) dX8_kindOf_46 ⟨Nat.zero_le _, Nat.zero_le _⟩) hP hD hS hA rfl (Eq.trans (b := [ta, m_now]) rfl rfl) (fun H locs hP9 hD9 hS9 => ?_)
              replace hP : va_P D vwCl [(ta, .inr (8, [.ref m_now, .ref m_undone, .ref m_slots, .ref m_slotKind, .ref m_hasSlot, .ref m_sheetBits, .ref m_sheetSize, .ref m_sheets, .int (nI u), .int fi, .ref m_fresh, .long aa, .long bb, .long dd, .int (nI ro), .ref m_rootWhich, .int db, .ref m_signs, .ref m_atNought, .int (nI mn), .ref m_change, .ref m_table, .ref m_carried])), (m_now, .inl (cy 0, 29, .inl nw))] H := hP9
              replace hD : va_D A [(ta, .inr (8, [.ref m_now, .ref m_undone, .ref m_slots, .ref m_slotKind, .ref m_hasSlot, .ref m_sheetBits, .ref m_sheetSize, .ref m_sheets, .int (nI u), .int fi, .ref m_fresh, .long aa, .long bb, .long dd, .int (nI ro), .ref m_rootWhich, .int db, .ref m_signs, .ref m_atNought, .int (nI mn), .ref m_change, .ref m_table, .ref m_carried])), (m_now, .inl (cy 0, 29, .inl nw))] := hD9
              replace hS := hS9
              clear hP9 hD9 hS9
              refine lv_if_ne (tgt := 65) hx hb dX8_kindOf_49 (by decide) (fun hc17 => ?_) (fun hc17 => ?_)
              · refine lv_iconst (v := 0) hx hb dX8_kindOf_65 (by decide) ?_
                exact J20 _ _ _ _ (((if_neg hc16).trans (if_neg hc17)).symm) hP hD hS (lv_sub hl [0, 1, 2] rfl)
              · refine lv_aload_n hx hb dX8_kindOf_52 rfl (lv_at hl 0 rfl) ?_
                refine lv_iconst (v := 1) hx hb dX8_kindOf_53 (by decide) ?_
                refine lv_iload_n hx hb dX8_kindOf_54 rfl (lv_at hl 2 rfl) ?_
                refine yk_i [0, 1] (va_runV (As := [.int 1, .int (nI ki)]) (rest := []) ⟨hx, hb, hml, hown, hts⟩ (c_X8_get l D cy ta m_now m_undone m_slots m_slotKind m_hasSlot m_sheetBits m_sheetSize m_sheets m_fresh m_rootWhich m_signs m_atNought m_change m_table m_carried nw u fi aa bb dd ro db mn 1 ki (by omega) H.size) (cwV 2 hts gX8_kindOf_X8_get rfl rfl rfl hv_X8_get (yk_room hRf hRl rfl rfl)) (yk_pv (q := (RX8, TX8, 23)) hG hA hS hK hP hD [0, 1] (by decide +kernel) rfl rfl rfl) rfl rfl hl.1 rfl (lv_room (Nat.le_of_ble_eq_true rfl)) dX8_kindOf_55 ⟨Nat.zero_le _, Nat.zero_le _⟩) hP hD hS hA rfl (Eq.trans (b := [ta, m_now]) rfl rfl) (fun H locs hP9 hD9 hS9 => ?_)
                replace hP : va_P D vwCl [(ta, .inr (8, [.ref m_now, .ref m_undone, .ref m_slots, .ref m_slotKind, .ref m_hasSlot, .ref m_sheetBits, .ref m_sheetSize, .ref m_sheets, .int (nI u), .int fi, .ref m_fresh, .long aa, .long bb, .long dd, .int (nI ro), .ref m_rootWhich, .int db, .ref m_signs, .ref m_atNought, .int (nI mn), .ref m_change, .ref m_table, .ref m_carried])), (m_now, .inl (cy 0, 29, .inl nw))] H := hP9
                replace hD : va_D A [(ta, .inr (8, [.ref m_now, .ref m_undone, .ref m_slots, .ref m_slotKind, .ref m_hasSlot, .ref m_sheetBits, .ref m_sheetSize, .ref m_sheets, .int (nI u), .int fi, .ref m_fresh, .long aa, .long bb, .long dd, .int (nI ro), .ref m_rootWhich, .int db, .ref m_signs, .ref m_atNought, .int (nI mn), .ref m_change, .ref m_table, .ref m_carried])), (m_now, .inl (cy 0, 29, .inl nw))] := hD9
                replace hS := hS9
                clear hP9 hD9 hS9
                refine lv_if_ne (tgt := 65) hx hb dX8_kindOf_58 (by decide) (fun hc18 => ?_) (fun hc18 => ?_)
                · refine lv_iconst (v := 0) hx hb dX8_kindOf_65 (by decide) ?_
                  exact J20 _ _ _ _ (((if_neg hc16).trans ((if_pos hc17).trans (if_neg hc18))).symm) hP hD hS (lv_sub hl [0, 1, 2] rfl)
                · refine lv_iconst (v := 1) hx hb dX8_kindOf_61 (by decide) ?_
                  refine lv_goto (tgt := 66) hx hb dX8_kindOf_62 (by decide) ?_
                  exact J20 _ _ _ _ (((if_neg hc16).trans ((if_pos hc17).trans (if_pos hc18))).symm) hP hD hS (lv_sub hl [0, 1, 2] rfl)
      exact L33 ((6 - 3) + 1) (6 - 3) 3 1 _ _ _ (Nat.lt_succ_self _) (by omega)  rfl hP hD hS (lv_sub hl [2, 1, 0] rfl)
    · replace hF := hF.trans (if_pos hc14)
      refine lv_aload_n hx hb dX8_kindOf_18 rfl (lv_at hl 0 rfl) ?_
      refine lv_iconst (v := 0) hx hb dX8_kindOf_19 (by decide) ?_
      refine lv_iconst (v := 1) hx hb dX8_kindOf_20 (by decide) ?_
      refine yk_i [0, 1] (va_runV (As := [.int 0, .int 1]) (rest := []) ⟨hx, hb, hml, hown, hts⟩ (c_X8_spreadAt l D cy ta m_now m_undone m_slots m_slotKind m_hasSlot m_sheetBits m_sheetSize m_sheets m_fresh m_rootWhich m_signs m_atNought m_change m_table m_carried nw u fi aa bb dd ro db mn 0 1 H.size) (cwV 2 hts gX8_kindOf_X8_spreadAt rfl rfl rfl hv_X8_spreadAt (yk_room hRf hRl rfl rfl)) (yk_pv (q := (RX8, TX8, 23)) hG hA hS hK hP hD [0, 1] (by decide +kernel) rfl rfl rfl) rfl rfl hl.1 rfl (lv_room (Nat.le_of_ble_eq_true rfl)) dX8_kindOf_21 ⟨Nat.zero_le _, Nat.zero_le _⟩) hP hD hS hA rfl (Eq.trans (b := [ta, m_now]) rfl rfl) (fun H locs hP9 hD9 hS9 => ?_)
      replace hP : va_P D vwCl [(ta, .inr (8, [.ref m_now, .ref m_undone, .ref m_slots, .ref m_slotKind, .ref m_hasSlot, .ref m_sheetBits, .ref m_sheetSize, .ref m_sheets, .int (nI u), .int fi, .ref m_fresh, .long aa, .long bb, .long dd, .int (nI ro), .ref m_rootWhich, .int db, .ref m_signs, .ref m_atNought, .int (nI mn), .ref m_change, .ref m_table, .ref m_carried])), (m_now, .inl (cy 0, 29, .inl nw))] H := hP9
      replace hD : va_D A [(ta, .inr (8, [.ref m_now, .ref m_undone, .ref m_slots, .ref m_slotKind, .ref m_hasSlot, .ref m_sheetBits, .ref m_sheetSize, .ref m_sheets, .int (nI u), .int fi, .ref m_fresh, .long aa, .long bb, .long dd, .int (nI ro), .ref m_rootWhich, .int db, .ref m_signs, .ref m_atNought, .int (nI mn), .ref m_change, .ref m_table, .ref m_carried])), (m_now, .inl (cy 0, 29, .inl nw))] := hD9
      replace hS := hS9
      clear hP9 hD9 hS9
      refine lv_if_ne (tgt := 29) hx hb dX8_kindOf_24 (by decide) (fun hc27 => ?_) (fun hc27 => ?_)
      · replace hF := hF.trans (if_neg hc27)
        refine lv_iconst (v := 1) hx hb dX8_kindOf_29 (by decide) ?_
        refine lv_istore_n (lv' := [(1, .int 1), (0, .ref ta)]) hx hb dX8_kindOf_30 rfl hl (by decide) rfl (fun ls hl9 => ?_)
        replace hl := hl9
        clear hl9
        refine lv_iconst (v := 3) hx hb dX8_kindOf_31 (by decide) ?_
        refine lv_istore_n (lv' := [(2, .int 3), (1, .int 1), (0, .ref ta)]) hx hb dX8_kindOf_32 rfl hl (by decide) rfl (fun ls hl9 => ?_)
        replace hl := hl9
        clear hl9
        have J34 : ∀ (H : Heap) (locs : List Loc) (ls : Array Slot), va_P D vwCl [(ta, .inr (8, [.ref m_now, .ref m_undone, .ref m_slots, .ref m_slotKind, .ref m_hasSlot, .ref m_sheetBits, .ref m_sheetSize, .ref m_sheets, .int (nI u), .int fi, .ref m_fresh, .long aa, .long bb, .long dd, .int (nI ro), .ref m_rootWhich, .int db, .ref m_signs, .ref m_atNought, .int (nI mn), .ref m_change, .ref m_table, .ref m_carried])), (m_now, .inl (cy 0, 29, .inl nw))] H → va_D A [(ta, .inr (8, [.ref m_now, .ref m_undone, .ref m_slots, .ref m_slotKind, .ref m_hasSlot, .ref m_sheetBits, .ref m_sheetSize, .ref m_sheets, .int (nI u), .int fi, .ref m_fresh, .long aa, .long bb, .long dd, .int (nI ro), .ref m_rootWhich, .int db, .ref m_signs, .ref m_atNought, .int (nI mn), .ref m_change, .ref m_table, .ref m_carried])), (m_now, .inl (cy 0, 29, .inl nw))] → va_S A s.heap H locs → lv_has ls 3 [(0, .ref ta), (1, .int (l_X8_kindOf_33 nw (6 - 3 + 1) 3 1))] → W p l e R s m args below meth c H locs 0 0 Q (F0 m 73 ls []) := by
          clear hP hD hS hl
          intro H locs ls hP hD hS hl
          refine lv_iload_n hx hb dX8_kindOf_73 rfl (lv_at hl 1 rfl) ?_
          have J39 : ∀ (v38 : Int32) (H : Heap) (locs : List Loc) (ls : Array Slot), v38 = (if (l_X8_kindOf_33 nw (6 - 3 + 1) 3 1) = 0 then 0 else (if (f_X8_get nw 0 0) = 0 then (if (f_X8_get nw 1 0) = 0 then 2 else 1) else 1)) → va_P D vwCl [(ta, .inr (8, [.ref m_now, .ref m_undone, .ref m_slots, .ref m_slotKind, .ref m_hasSlot, .ref m_sheetBits, .ref m_sheetSize, .ref m_sheets, .int (nI u), .int fi, .ref m_fresh, .long aa, .long bb, .long dd, .int (nI ro), .ref m_rootWhich, .int db, .ref m_signs, .ref m_atNought, .int (nI mn), .ref m_change, .ref m_table, .ref m_carried])), (m_now, .inl (cy 0, 29, .inl nw))] H → va_D A [(ta, .inr (8, [.ref m_now, .ref m_undone, .ref m_slots, .ref m_slotKind, .ref m_hasSlot, .ref m_sheetBits, .ref m_sheetSize, .ref m_sheets, .int (nI u), .int fi, .ref m_fresh, .long aa, .long bb, .long dd, .int (nI ro), .ref m_rootWhich, .int db, .ref m_signs, .ref m_atNought, .int (nI mn), .ref m_change, .ref m_table, .ref m_carried])), (m_now, .inl (cy 0, 29, .inl nw))] → va_S A s.heap H locs → lv_has ls 3 [(0, .ref ta), (1, .int (l_X8_kindOf_33 nw (6 - 3 + 1) 3 1))] → W p l e R s m args below meth c H locs 0 0 Q (F0 m 104 ls [.int v38]) := by
            clear hP hD hS hl
            intro v38 H locs ls ev38
            rw [ev38]
            clear ev38
            intro hP hD hS hl
            have hF : f_X8_kindOf nw = (if (l_X8_kindOf_33 nw (6 - 3 + 1) 3 1) = 0 then 0 else (if (f_X8_get nw 0 0) = 0 then (if (f_X8_get nw 1 0) = 0 then 2 else 1) else 1)) := hF
            rw [hF] at hQ
            exact hQ _ _ _ _ dX8_kindOf_104 hP hS
          refine lv_if_ne (tgt := 81) hx hb dX8_kindOf_74 (by decide) (fun hc35 => ?_) (fun hc35 => ?_)
          · refine lv_aload_n hx hb dX8_kindOf_81 rfl (lv_at hl 0 rfl) ?_
            refine lv_iconst (v := 0) hx hb dX8_kindOf_82 (by decide) ?_
            refine lv_iconst (v := 0) hx hb dX8_kindOf_83 (by decide) ?_
            refine yk_i [0, 1] (va_runV (As := [.int 0, .int 0]) (rest := []) ⟨hx, hb, hml, hown, hts⟩ (c_X8_get l D cy ta m_now m_undone m_slots m_slotKind m_hasSlot m_sheetBits m_sheetSize m_sheets m_fresh m_rootWhich m_signs m_atNought m_change m_table m_carried nw u fi aa bb dd ro db mn 0 0 (by omega) H.size) (cwV 2 hts gX8_kindOf_X8_get rfl rfl rfl hv_X8_get (yk_room hRf hRl rfl rfl)) (yk_pv (q := (RX8, TX8, 23)) hG hA hS hK hP hD [0, 1] (by decide +kernel) rfl rfl rfl) rfl rfl hl.1 rfl (lv_room (Nat.le_of_ble_eq_true rfl)) dX8_kindOf_84 ⟨Nat.zero_le _, Nat.zero_le _⟩) hP hD hS hA rfl (Eq.trans (b := [ta, m_now]) rfl rfl) (fun H locs hP9 hD9 hS9 => ?_)
            replace hP : va_P D vwCl [(ta, .inr (8, [.ref m_now, .ref m_undone, .ref m_slots, .ref m_slotKind, .ref m_hasSlot, .ref m_sheetBits, .ref m_sheetSize, .ref m_sheets, .int (nI u), .int fi, .ref m_fresh, .long aa, .long bb, .long dd, .int (nI ro), .ref m_rootWhich, .int db, .ref m_signs, .ref m_atNought, .int (nI mn), .ref m_change, .ref m_table, .ref m_carried])), (m_now, .inl (cy 0, 29, .inl nw))] H := hP9
            replace hD : va_D A [(ta, .inr (8, [.ref m_now, .ref m_undone, .ref m_slots, .ref m_slotKind, .ref m_hasSlot, .ref m_sheetBits, .ref m_sheetSize, .ref m_sheets, .int (nI u), .int fi, .ref m_fresh, .long aa, .long bb, .long dd, .int (nI ro), .ref m_rootWhich, .int db, .ref m_signs, .ref m_atNought, .int (nI mn), .ref m_change, .ref m_table, .ref m_carried])), (m_now, .inl (cy 0, 29, .inl nw))] := hD9
            replace hS := hS9
            clear hP9 hD9 hS9
            refine lv_if_ne (tgt := 103) hx hb dX8_kindOf_87 (by decide) (fun hc36 => ?_) (fun hc36 => ?_)
            · refine lv_iconst (v := 1) hx hb dX8_kindOf_103 (by decide) ?_
              exact J39 _ _ _ _ (((if_neg hc35).trans (if_neg hc36)).symm) hP hD hS (lv_sub hl [0, 1] rfl)
            · refine lv_aload_n hx hb dX8_kindOf_90 rfl (lv_at hl 0 rfl) ?_
              refine lv_iconst (v := 1) hx hb dX8_kindOf_91 (by decide) ?_
              refine lv_iconst (v := 0) hx hb dX8_kindOf_92 (by decide) ?_
              refine yk_i [0, 1] (va_runV (As := [.int 1, .int 0]) (rest := []) ⟨hx, hb, hml, hown, hts⟩ (c_X8_get l D cy ta m_now m_undone m_slots m_slotKind m_hasSlot m_sheetBits m_sheetSize m_sheets m_fresh m_rootWhich m_signs m_atNought m_change m_table m_carried nw u fi aa bb dd ro db mn 1 0 (by omega) H.size) (cwV 2 hts gX8_kindOf_X8_get rfl rfl rfl hv_X8_get (yk_room hRf hRl rfl rfl)) (yk_pv (q := (RX8, TX8, 23)) hG hA hS hK hP hD [0, 1] (by decide +kernel) rfl rfl rfl) rfl rfl hl.1 rfl (lv_room (Nat.le_of_ble_eq_true rfl)) dX8_kindOf_93 ⟨Nat.zero_le _, Nat.zero_le _⟩) hP hD hS hA rfl (Eq.trans (b := [ta, m_now]) rfl rfl) (fun H locs hP9 hD9 hS9 => ?_)
              replace hP : va_P D vwCl [(ta, .inr (8, [.ref m_now, .ref m_undone, .ref m_slots, .ref m_slotKind, .ref m_hasSlot, .ref m_sheetBits, .ref m_sheetSize, .ref m_sheets, .int (nI u), .int fi, .ref m_fresh, .long aa, .long bb, .long dd, .int (nI ro), .ref m_rootWhich, .int db, .ref m_signs, .ref m_atNought, .int (nI mn), .ref m_change, .ref m_table, .ref m_carried])), (m_now, .inl (cy 0, 29, .inl nw))] H := hP9
              replace hD : va_D A [(ta, .inr (8, [.ref m_now, .ref m_undone, .ref m_slots, .ref m_slotKind, .ref m_hasSlot, .ref m_sheetBits, .ref m_sheetSize, .ref m_sheets, .int (nI u), .int fi, .ref m_fresh, .long aa, .long bb, .long dd, .int (nI ro), .ref m_rootWhich, .int db, .ref m_signs, .ref m_atNought, .int (nI mn), .ref m_change, .ref m_table, .ref m_carried])), (m_now, .inl (cy 0, 29, .inl nw))] := hD9
              replace hS := hS9
              clear hP9 hD9 hS9
              refine lv_if_ne (tgt := 103) hx hb dX8_kindOf_96 (by decide) (fun hc37 => ?_) (fun hc37 => ?_)
              · refine lv_iconst (v := 1) hx hb dX8_kindOf_103 (by decide) ?_
                exact J39 _ _ _ _ (((if_neg hc35).trans ((if_pos hc36).trans (if_neg hc37))).symm) hP hD hS (lv_sub hl [0, 1] rfl)
              · refine lv_iconst (v := 2) hx hb dX8_kindOf_99 (by decide) ?_
                refine lv_goto (tgt := 104) hx hb dX8_kindOf_100 (by decide) ?_
                exact J39 _ _ _ _ (((if_neg hc35).trans ((if_pos hc36).trans (if_pos hc37))).symm) hP hD hS (lv_sub hl [0, 1] rfl)
          · refine lv_iconst (v := 0) hx hb dX8_kindOf_77 (by decide) ?_
            refine lv_goto (tgt := 104) hx hb dX8_kindOf_78 (by decide) ?_
            exact J39 _ _ _ _ ((if_pos hc35).symm) hP hD hS (lv_sub hl [0, 1] rfl)
        have L33 : ∀ (M9 n33 ki : Nat) (z1_33 : Int32) (H : Heap) (locs : List Loc) (ls : Array Slot), n33 < M9 → ki + n33 = 6 → (l_X8_kindOf_33 nw (6 - 3 + 1) 3 1) = (l_X8_kindOf_33 nw (n33 + 1) ki z1_33) → va_P D vwCl [(ta, .inr (8, [.ref m_now, .ref m_undone, .ref m_slots, .ref m_slotKind, .ref m_hasSlot, .ref m_sheetBits, .ref m_sheetSize, .ref m_sheets, .int (nI u), .int fi, .ref m_fresh, .long aa, .long bb, .long dd, .int (nI ro), .ref m_rootWhich, .int db, .ref m_signs, .ref m_atNought, .int (nI mn), .ref m_change, .ref m_table, .ref m_carried])), (m_now, .inl (cy 0, 29, .inl nw))] H → va_D A [(ta, .inr (8, [.ref m_now, .ref m_undone, .ref m_slots, .ref m_slotKind, .ref m_hasSlot, .ref m_sheetBits, .ref m_sheetSize, .ref m_sheets, .int (nI u), .int fi, .ref m_fresh, .long aa, .long bb, .long dd, .int (nI ro), .ref m_rootWhich, .int db, .ref m_signs, .ref m_atNought, .int (nI mn), .ref m_change, .ref m_table, .ref m_carried])), (m_now, .inl (cy 0, 29, .inl nw))] → va_S A s.heap H locs → lv_has ls 3 [(0, .ref ta), (1, .int z1_33), (2, .int (nI ki))] → W p l e R s m args below meth c H locs 0 0 Q (F0 m 33 ls []) := by
          clear hP hD hS hl
          intro M9
          induction M9 with
          | zero => intro n33 ki _ _ _ _ hn; exact absurd hn (Nat.not_lt_zero _)
          | succ M9 ih33 =>
            intro n33 ki z1_33 H locs ls hn33 hk33 hV33 hP hD hS hl
            refine lv_iload_n hx hb dX8_kindOf_33 rfl (lv_at hl 2 rfl) ?_
            refine lv_bipush (v := 6) hx hb dX8_kindOf_34 (by decide) ?_
            refine lv_icmp_ge (tgt := 73) hx hb dX8_kindOf_36 (by decide) (fun hc28 => ?_) (fun hc28 => ?_)
            · replace hV33 := hV33.trans (if_pos hc28)
              have hV33 : (l_X8_kindOf_33 nw (6 - 3 + 1) 3 1) = z1_33 := hV33
              have J34 := J34
              rw [hV33] at J34
              exact J34 _ _ _ hP hD hS (lv_sub hl [0, 1] rfl)
            · replace hV33 := hV33.trans (if_neg hc28)
              have hlt33 : ki < 6 := yk_lt hk33 (by omega) hc28
              refine lv_iload_n hx hb dX8_kindOf_39 rfl (lv_at hl 1 rfl) ?_
              have J33 : ∀ (v32 : Int32) (H : Heap) (locs : List Loc) (ls : Array Slot), v32 = (if z1_33 = 0 then 0 else (if (f_X8_get nw 0 ki) = 0 then (if (f_X8_get nw 1 ki) = 0 then 1 else 0) else 0)) → va_P D vwCl [(ta, .inr (8, [.ref m_now, .ref m_undone, .ref m_slots, .ref m_slotKind, .ref m_hasSlot, .ref m_sheetBits, .ref m_sheetSize, .ref m_sheets, .int (nI u), .int fi, .ref m_fresh, .long aa, .long bb, .long dd, .int (nI ro), .ref m_rootWhich, .int db, .ref m_signs, .ref m_atNought, .int (nI mn), .ref m_change, .ref m_table, .ref m_carried])), (m_now, .inl (cy 0, 29, .inl nw))] H → va_D A [(ta, .inr (8, [.ref m_now, .ref m_undone, .ref m_slots, .ref m_slotKind, .ref m_hasSlot, .ref m_sheetBits, .ref m_sheetSize, .ref m_sheets, .int (nI u), .int fi, .ref m_fresh, .long aa, .long bb, .long dd, .int (nI ro), .ref m_rootWhich, .int db, .ref m_signs, .ref m_atNought, .int (nI mn), .ref m_change, .ref m_table, .ref m_carried])), (m_now, .inl (cy 0, 29, .inl nw))] → va_S A s.heap H locs → lv_has ls 3 [(0, .ref ta), (1, .int z1_33), (2, .int (nI ki))] → W p l e R s m args below meth c H locs 0 0 Q (F0 m 66 ls [.int v32]) := by
                clear hP hD hS hl
                intro v32 H locs ls ev32
                rw [ev32]
                clear ev32
                intro hP hD hS hl
                refine lv_istore_n (lv' := [(1, .int (if z1_33 = 0 then 0 else (if (f_X8_get nw 0 ki) = 0 then (if (f_X8_get nw 1 ki) = 0 then 1 else 0) else 0))), (0, .ref ta), (2, .int (nI ki))]) hx hb dX8_kindOf_66 rfl hl (by decide) rfl (fun ls hl9 => ?_)
                replace hl := hl9
                clear hl9
                refine lv_iinc (v := nI (ki + 1)) (lv' := [(2, .int (nI (ki + 1))), (1, .int (if z1_33 = 0 then 0 else (if (f_X8_get nw 0 ki) = 0 then (if (f_X8_get nw 1 ki) = 0 then 1 else 0) else 0))), (0, .ref ta)]) hx hb dX8_kindOf_67 hl (k := 2) rfl (yk_inc ki) (by decide) rfl (fun ls hl9 => ?_)
                replace hl := hl9
                clear hl9
                refine lv_goto (tgt := 33) hx hb dX8_kindOf_70 (by decide) ?_
                obtain ⟨n9, rfl⟩ : ∃ n9, n33 = n9 + 1 := ⟨n33 - 1, by omega⟩
                exact ih33 n9 (ki + 1) (if z1_33 = 0 then 0 else (if (f_X8_get nw 0 ki) = 0 then (if (f_X8_get nw 1 ki) = 0 then 1 else 0) else 0)) _ _ _ (by omega) (by omega)  hV33 hP hD hS (lv_sub hl [2, 1, 0] rfl)
              refine lv_if_eq (tgt := 65) hx hb dX8_kindOf_40 (by decide) (fun hc29 => ?_) (fun hc29 => ?_)
              · refine lv_iconst (v := 0) hx hb dX8_kindOf_65 (by decide) ?_
                exact J33 _ _ _ _ ((if_pos hc29).symm) hP hD hS (lv_sub hl [0, 1, 2] rfl)
              · refine lv_aload_n hx hb dX8_kindOf_43 rfl (lv_at hl 0 rfl) ?_
                refine lv_iconst (v := 0) hx hb dX8_kindOf_44 (by decide) ?_
                refine lv_iload_n hx hb dX8_kindOf_45 rfl (lv_at hl 2 rfl) ?_
                refine yk_i [0, 1] (va_runV (As := [.int 0, .int (nI ki)]) (rest := []) ⟨hx, hb, hml, hown, hts⟩ (c_X8_get l D cy ta m_now m_undone m_slots m_slotKind m_hasSlot m_sheetBits m_sheetSize m_sheets m_fresh m_rootWhich m_signs m_atNought m_change m_table m_carried nw u fi aa bb dd ro db mn 0 ki (by omega) H.size) (cwV 2 hts gX8_kindOf_X8_get rfl rfl rfl hv_X8_get (yk_room hRf hRl rfl rfl)) (yk_pv (q := (RX8, TX8, 23)) hG hA hS hK hP hD [0, 1] (by decide +kernel) rfl rfl rfl) rfl rfl hl.1 rfl (lv_room (Nat.le_of_ble_eq_true rfl)) dX8_kindOf_46 ⟨Nat.zero_le _, Nat.zero_le _⟩) hP hD hS hA rfl (Eq.trans (b := [ta, m_now]) rfl rfl) (fun H locs hP9 hD9 hS9 => ?_)
                replace hP : va_P D vwCl [(ta, .inr (8, [.ref m_now, .ref m_undone, .ref m_slots, .ref m_slotKind, .ref m_hasSlot, .ref m_sheetBits, .ref m_sheetSize, .ref m_sheets, .int (nI u), .int fi, .ref m_fresh, .long aa, .long bb, .long dd, .int (nI ro), .ref m_rootWhich, .int db, .ref m_signs, .ref m_atNought, .int (nI mn), .ref m_change, .ref m_table, .ref m_carried])), (m_now, .inl (cy 0, 29, .inl nw))] H := hP9
                replace hD : va_D A [(ta, .inr (8, [.ref m_now, .ref m_undone, .ref m_slots, .ref m_slotKind, .ref m_hasSlot, .ref m_sheetBits, .ref m_sheetSize, .ref m_sheets, .int (nI u), .int fi, .ref m_fresh, .long aa, .long bb, .long dd, .int (nI ro), .ref m_rootWhich, .int db, .ref m_signs, .ref m_atNought, .int (nI mn), .ref m_change, .ref m_table, .ref m_carried])), (m_now, .inl (cy 0, 29, .inl nw))] := hD9
                replace hS := hS9
                clear hP9 hD9 hS9
                refine lv_if_ne (tgt := 65) hx hb dX8_kindOf_49 (by decide) (fun hc30 => ?_) (fun hc30 => ?_)
                · refine lv_iconst (v := 0) hx hb dX8_kindOf_65 (by decide) ?_
                  exact J33 _ _ _ _ (((if_neg hc29).trans (if_neg hc30)).symm) hP hD hS (lv_sub hl [0, 1, 2] rfl)
                · refine lv_aload_n hx hb dX8_kindOf_52 rfl (lv_at hl 0 rfl) ?_
                  refine lv_iconst (v := 1) hx hb dX8_kindOf_53 (by decide) ?_
                  refine lv_iload_n hx hb dX8_kindOf_54 rfl (lv_at hl 2 rfl) ?_
                  refine yk_i [0, 1] (va_runV (As := [.int 1, .int (nI ki)]) (rest := []) ⟨hx, hb, hml, hown, hts⟩ (c_X8_get l D cy ta m_now m_undone m_slots m_slotKind m_hasSlot m_sheetBits m_sheetSize m_sheets m_fresh m_rootWhich m_signs m_atNought m_change m_table m_carried nw u fi aa bb dd ro db mn 1 ki (by omega) H.size) (cwV 2 hts gX8_kindOf_X8_get rfl rfl rfl hv_X8_get (yk_room hRf hRl rfl rfl)) (yk_pv (q := (RX8, TX8, 23)) hG hA hS hK hP hD [0, 1] (by decide +kernel) rfl rfl rfl) rfl rfl hl.1 rfl (lv_room (Nat.le_of_ble_eq_true rfl)) dX8_kindOf_55 ⟨Nat.zero_le _, Nat.zero_le _⟩) hP hD hS hA rfl (Eq.trans (b := [ta, m_now]) rfl rfl) (fun H locs hP9 hD9 hS9 => ?_)
                  replace hP : va_P D vwCl [(ta, .inr (8, [.ref m_now, .ref m_undone, .ref m_slots, .ref m_slotKind, .ref m_hasSlot, .ref m_sheetBits, .ref m_sheetSize, .ref m_sheets, .int (nI u), .int fi, .ref m_fresh, .long aa, .long bb, .long dd, .int (nI ro), .ref m_rootWhich, .int db, .ref m_signs, .ref m_atNought, .int (nI mn), .ref m_change, .ref m_table, .ref m_carried])), (m_now, .inl (cy 0, 29, .inl nw))] H := hP9
                  replace hD : va_D A [(ta, .inr (8, [.ref m_now, .ref m_undone, .ref m_slots, .ref m_slotKind, .ref m_hasSlot, .ref m_sheetBits, .ref m_sheetSize, .ref m_sheets, .int (nI u), .int fi, .ref m_fresh, .long aa, .long bb, .long dd, .int (nI ro), .ref m_rootWhich, .int db, .ref m_signs, .ref m_atNought, .int (nI mn), .ref m_change, .ref m_table, .ref m_carried])), (m_now, .inl (cy 0, 29, .inl nw))] := hD9
                  replace hS := hS9
                  clear hP9 hD9 hS9
                  refine lv_if_ne (tgt := 65) hx hb dX8_kindOf_58 (by decide) (fun hc31 => ?_) (fun hc31 => ?_)
                  · refine lv_iconst (v := 0) hx hb dX8_kindOf_65 (by decide) ?_
                    exact J33 _ _ _ _ (((if_neg hc29).trans ((if_pos hc30).trans (if_neg hc31))).symm) hP hD hS (lv_sub hl [0, 1, 2] rfl)
                  · refine lv_iconst (v := 1) hx hb dX8_kindOf_61 (by decide) ?_
                    refine lv_goto (tgt := 66) hx hb dX8_kindOf_62 (by decide) ?_
                    exact J33 _ _ _ _ (((if_neg hc29).trans ((if_pos hc30).trans (if_pos hc31))).symm) hP hD hS (lv_sub hl [0, 1, 2] rfl)
        exact L33 ((6 - 3) + 1) (6 - 3) 3 1 _ _ _ (Nat.lt_succ_self _) (by omega)  rfl hP hD hS (lv_sub hl [2, 1, 0] rfl)
      · replace hF := hF.trans (if_pos hc27)
        refine lv_iconst (v := 3) hx hb dX8_kindOf_27 (by decide) ?_
        have hF : f_X8_kindOf nw = 3 := hF
        rw [hF] at hQ
        exact hQ _ _ _ _ dX8_kindOf_28 hP hS

theorem kX8_keep_0 : Cond.fieldLink RX8 16 "FlowPlaneModel" "slots" "[I" ∈ wsX8_keep := by decide +kernel
theorem kX8_keep_1 : Cond.fieldLink RX8 7 "FlowPlaneModel" "now" "[I" ∈ wsX8_keep := by decide +kernel
theorem kX8_keep_2 : Cond.fieldLink RX8 22 "FlowPlaneModel" "hasSlot" "[Z" ∈ wsX8_keep := by decide +kernel
theorem kX8_keep_3 : Cond.fieldLink RX8 19 "FlowPlaneModel" "slotKind" "[I" ∈ wsX8_keep := by decide +kernel
theorem kX8_keep_4 : Cond.constant RX8 68 (-1000001) ∈ wsX8_keep := by decide +kernel
theorem uX8_keep_X8 : ∀ w ∈ u_ws RX8 TX8 23, w ∈ wsX8_keep := by decide +kernel
def l_X8_keep_16 (nw : Nat → Int32) (sl : Nat → Int32) (sk : Nat → Int32) (hs : Nat → Int32) (fi : Int32) (px : Int32) : Nat → Nat → (Nat → Int32) → (Nat → Int32)
  | 0, ki, zslots_16 => zslots_16
  | fu_X8_keep_16 + 1, ki, zslots_16 => (if 12 ≤ (nI ki) then zslots_16 else (l_X8_keep_16 nw sl sk hs fi px fu_X8_keep_16 (ki + 1) (upd zslots_16 ((12 * px.toNatClampNeg) + ki) (nw ki))))
def f_X8_keep (nw : Nat → Int32) (sl : Nat → Int32) (sk : Nat → Int32) (hs : Nat → Int32) (fi : Int32) (px : Int32) : Int32 × Int32 × (Nat → Int32) × (Nat → Int32) × (Nat → Int32) := (if (f_X8_isSlot px) = 0 then (((f_X8_found fi (-1000001)).1), ((f_X8_found fi (-1000001)).2), sl, sk, hs) else (((upd sk px.toNatClampNeg (f_X8_kindOf nw)) px.toNatClampNeg), fi, (l_X8_keep_16 nw sl sk hs fi px (12 + 1) 0 sl), (upd sk px.toNatClampNeg (f_X8_kindOf nw)), (upd hs px.toNatClampNeg 1)))
set_option maxHeartbeats 400000000 in
set_option maxRecDepth 100000 in
theorem c_X8_keep (l : Launch) (D : va_G) (cy : Nat → ClassId) (ta : Nat) (m_now : Nat) (m_slots : Nat) (m_slotKind : Nat) (m_hasSlot : Nat) (m_undone : Nat) (m_sheetBits : Nat) (m_sheetSize : Nat) (m_sheets : Nat) (m_fresh : Nat) (m_rootWhich : Nat) (m_signs : Nat) (m_atNought : Nat) (m_change : Nat) (m_table : Nat) (m_carried : Nat) (nw : Nat → Int32) (sl : Nat → Int32) (sk : Nat → Int32) (hs : Nat → Int32) (u : Nat) (fi : Int32) (aa : Int64) (bb : Int64) (dd : Int64) (ro : Nat) (db : Int32) (mn : Nat) (px : Int32) : yk_Ci l D vwCl (yk_ty cy) yX8_keep wsX8_keep 4 90 [.ref ta, .int px] [(ta, .inr (8, [.ref m_now, .ref m_undone, .ref m_slots, .ref m_slotKind, .ref m_hasSlot, .ref m_sheetBits, .ref m_sheetSize, .ref m_sheets, .int (nI u), .int fi, .ref m_fresh, .long aa, .long bb, .long dd, .int (nI ro), .ref m_rootWhich, .int db, .ref m_signs, .ref m_atNought, .int (nI mn), .ref m_change, .ref m_table, .ref m_carried])), (m_now, .inl (cy 0, 29, .inl nw)), (m_slots, .inl (cy 0, 48, .inl sl)), (m_slotKind, .inl (cy 0, 4, .inl sk)), (m_hasSlot, .inl (cy 2, 4, .inl hs))] ((f_X8_keep nw sl sk hs fi px).1) [(ta, .inr (8, [.ref m_now, .ref m_undone, .ref m_slots, .ref m_slotKind, .ref m_hasSlot, .ref m_sheetBits, .ref m_sheetSize, .ref m_sheets, .int (nI u), .int ((f_X8_keep nw sl sk hs fi px).2.1), .ref m_fresh, .long aa, .long bb, .long dd, .int (nI ro), .ref m_rootWhich, .int db, .ref m_signs, .ref m_atNought, .int (nI mn), .ref m_change, .ref m_table, .ref m_carried])), (m_now, .inl (cy 0, 29, .inl nw)), (m_slots, .inl (cy 0, 48, .inl ((f_X8_keep nw sl sk hs fi px).2.2.1))), (m_slotKind, .inl (cy 0, 4, .inl ((f_X8_keep nw sl sk hs fi px).2.2.2.1))), (m_hasSlot, .inl (cy 2, 4, .inl ((f_X8_keep nw sl sk hs fi px).2.2.2.2)))] := by
  refine yk_eI (cc := cX8_keep) (maxL := 3) (by decide) rfl (Nat.le_of_ble_eq_true rfl) rfl ?_
  intro p e R s m args below meth c A Q ls H locs hx hb hml hown hts hRf hRl hA hK hG hP hD hS hl hQ
  have hP : va_P D vwCl [(ta, .inr (8, [.ref m_now, .ref m_undone, .ref m_slots, .ref m_slotKind, .ref m_hasSlot, .ref m_sheetBits, .ref m_sheetSize, .ref m_sheets, .int (nI u), .int fi, .ref m_fresh, .long aa, .long bb, .long dd, .int (nI ro), .ref m_rootWhich, .int db, .ref m_signs, .ref m_atNought, .int (nI mn), .ref m_change, .ref m_table, .ref m_carried])), (m_now, .inl (cy 0, 29, .inl nw)), (m_slots, .inl (cy 0, 48, .inl sl)), (m_slotKind, .inl (cy 0, 4, .inl sk)), (m_hasSlot, .inl (cy 2, 4, .inl hs))] H := hP
  have hl : lv_has ls 3 [(0, .ref ta), (1, .int px)] := hl
  have hown : s.vm.findClass RX8 = some m.cls := hown
  have hF : (f_X8_keep nw sl sk hs fi px) = (f_X8_keep nw sl sk hs fi px) := rfl
  refine lv_iload_n hx hb dX8_keep_0 rfl (lv_at hl 1 rfl) ?_
  refine yk_i [] (va_runS (As := [.int px]) (rest := []) ⟨hx, hb, hml, hown, hts⟩ (c_X8_isSlot l D cy px H.size) (va_cwS 1 hts gX8_keep_X8_isSlot rfl rfl rfl hs_X8_isSlot (yk_room hRf hRl rfl rfl)) (yk_ps hG hA hS hK hP hD [] (by decide +kernel) rfl) rfl rfl hl.1 rfl (lv_room (Nat.le_of_ble_eq_true rfl)) dX8_keep_1 ⟨Nat.zero_le _, Nat.zero_le _⟩) hP hD hS hA rfl rfl (fun H locs hP9 hD9 hS9 => ?_)
  replace hP : va_P D vwCl [(ta, .inr (8, [.ref m_now, .ref m_undone, .ref m_slots, .ref m_slotKind, .ref m_hasSlot, .ref m_sheetBits, .ref m_sheetSize, .ref m_sheets, .int (nI u), .int fi, .ref m_fresh, .long aa, .long bb, .long dd, .int (nI ro), .ref m_rootWhich, .int db, .ref m_signs, .ref m_atNought, .int (nI mn), .ref m_change, .ref m_table, .ref m_carried])), (m_now, .inl (cy 0, 29, .inl nw)), (m_slots, .inl (cy 0, 48, .inl sl)), (m_slotKind, .inl (cy 0, 4, .inl sk)), (m_hasSlot, .inl (cy 2, 4, .inl hs))] H := hP9
  replace hD : va_D A [(ta, .inr (8, [.ref m_now, .ref m_undone, .ref m_slots, .ref m_slotKind, .ref m_hasSlot, .ref m_sheetBits, .ref m_sheetSize, .ref m_sheets, .int (nI u), .int fi, .ref m_fresh, .long aa, .long bb, .long dd, .int (nI ro), .ref m_rootWhich, .int db, .ref m_signs, .ref m_atNought, .int (nI mn), .ref m_change, .ref m_table, .ref m_carried])), (m_now, .inl (cy 0, 29, .inl nw)), (m_slots, .inl (cy 0, 48, .inl sl)), (m_slotKind, .inl (cy 0, 4, .inl sk)), (m_hasSlot, .inl (cy 2, 4, .inl hs))] := hD9
  replace hS := hS9
  clear hP9 hD9 hS9
  refine lv_if_ne (tgt := 14) hx hb dX8_keep_4 (by decide) (fun hc1 => ?_) (fun hc1 => ?_)
  · replace hF := hF.trans (if_neg hc1)
    have hq2 : px = nI px.toNatClampNeg := (ix_sl (by assumption)).1
    have hq2b : px.toNatClampNeg < 4 := (ix_sl (by assumption)).2
    rw [hq2] at hl
    refine lv_iconst (v := 0) hx hb dX8_keep_14 (by decide) ?_
    refine lv_istore_n (lv' := [(2, .int 0), (0, .ref ta), (1, .int (nI px.toNatClampNeg))]) hx hb dX8_keep_15 rfl hl (by decide) rfl (fun ls hl9 => ?_)
    replace hl := hl9
    clear hl9
    have J5 : ∀ (H : Heap) (locs : List Loc) (ls : Array Slot), va_P D vwCl [(ta, .inr (8, [.ref m_now, .ref m_undone, .ref m_slots, .ref m_slotKind, .ref m_hasSlot, .ref m_sheetBits, .ref m_sheetSize, .ref m_sheets, .int (nI u), .int fi, .ref m_fresh, .long aa, .long bb, .long dd, .int (nI ro), .ref m_rootWhich, .int db, .ref m_signs, .ref m_atNought, .int (nI mn), .ref m_change, .ref m_table, .ref m_carried])), (m_now, .inl (cy 0, 29, .inl nw)), (m_slots, .inl (cy 0, 48, .inl (l_X8_keep_16 nw sl sk hs fi px (12 + 1) 0 sl))), (m_slotKind, .inl (cy 0, 4, .inl sk)), (m_hasSlot, .inl (cy 2, 4, .inl hs))] H → va_D A [(ta, .inr (8, [.ref m_now, .ref m_undone, .ref m_slots, .ref m_slotKind, .ref m_hasSlot, .ref m_sheetBits, .ref m_sheetSize, .ref m_sheets, .int (nI u), .int fi, .ref m_fresh, .long aa, .long bb, .long dd, .int (nI ro), .ref m_rootWhich, .int db, .ref m_signs, .ref m_atNought, .int (nI mn), .ref m_change, .ref m_table, .ref m_carried])), (m_now, .inl (cy 0, 29, .inl nw)), (m_slots, .inl (cy 0, 48, .inl (l_X8_keep_16 nw sl sk hs fi px (12 + 1) 0 sl))), (m_slotKind, .inl (cy 0, 4, .inl sk)), (m_hasSlot, .inl (cy 2, 4, .inl hs))] → va_S A s.heap H locs → lv_has ls 3 [(0, .ref ta), (1, .int (nI px.toNatClampNeg))] → W p l e R s m args below meth c H locs 0 0 Q (F0 m 45 ls []) := by
      clear hP hD hS hl
      intro H locs ls hP hD hS hl
      refine lv_aload_n hx hb dX8_keep_45 rfl (lv_at hl 0 rfl) ?_
      refine va_get (D := D) (ci := 8) (v := .ref m_hasSlot) (C := RX8) (T := TX8) (N := 23) hx hb hts uX8_keep_X8 hown hK hP 0 rfl rfl 4 (by decide) (hts _ kX8_keep_2) (fun _ h9 => h9) rfl dX8_keep_46 ?_
      refine lv_iload_n hx hb dX8_keep_49 rfl (lv_at hl 1 rfl) ?_
      refine lv_iconst (v := 1) hx hb dX8_keep_50 (by decide) ?_
      refine yk_zst hx hb hK hP hD hS 4 2 rfl rfl px.toNatClampNeg (x := 1) (by omega) (by decide) (Or.inr rfl) dX8_keep_51 (fun H locs hP9 hD9 hS9 => ?_)
      replace hP : va_P D vwCl [(ta, .inr (8, [.ref m_now, .ref m_undone, .ref m_slots, .ref m_slotKind, .ref m_hasSlot, .ref m_sheetBits, .ref m_sheetSize, .ref m_sheets, .int (nI u), .int fi, .ref m_fresh, .long aa, .long bb, .long dd, .int (nI ro), .ref m_rootWhich, .int db, .ref m_signs, .ref m_atNought, .int (nI mn), .ref m_change, .ref m_table, .ref m_carried])), (m_now, .inl (cy 0, 29, .inl nw)), (m_slots, .inl (cy 0, 48, .inl (l_X8_keep_16 nw sl sk hs fi px (12 + 1) 0 sl))), (m_slotKind, .inl (cy 0, 4, .inl sk)), (m_hasSlot, .inl (cy 2, 4, .inl (upd hs px.toNatClampNeg 1)))] H := hP9
      replace hD : va_D A [(ta, .inr (8, [.ref m_now, .ref m_undone, .ref m_slots, .ref m_slotKind, .ref m_hasSlot, .ref m_sheetBits, .ref m_sheetSize, .ref m_sheets, .int (nI u), .int fi, .ref m_fresh, .long aa, .long bb, .long dd, .int (nI ro), .ref m_rootWhich, .int db, .ref m_signs, .ref m_atNought, .int (nI mn), .ref m_change, .ref m_table, .ref m_carried])), (m_now, .inl (cy 0, 29, .inl nw)), (m_slots, .inl (cy 0, 48, .inl (l_X8_keep_16 nw sl sk hs fi px (12 + 1) 0 sl))), (m_slotKind, .inl (cy 0, 4, .inl sk)), (m_hasSlot, .inl (cy 2, 4, .inl (upd hs px.toNatClampNeg 1)))] := hD9
      replace hS := hS9
      clear hP9 hD9 hS9
      refine lv_aload_n hx hb dX8_keep_52 rfl (lv_at hl 0 rfl) ?_
      refine va_get (D := D) (ci := 8) (v := .ref m_slotKind) (C := RX8) (T := TX8) (N := 23) hx hb hts uX8_keep_X8 hown hK hP 0 rfl rfl 3 (by decide) (hts _ kX8_keep_3) (fun _ h9 => h9) rfl dX8_keep_53 ?_
      refine lv_iload_n hx hb dX8_keep_56 rfl (lv_at hl 1 rfl) ?_
      refine lv_aload_n hx hb dX8_keep_57 rfl (lv_at hl 0 rfl) ?_
      refine yk_i [0, 1] (va_runV (As := []) (rest := [.int (nI px.toNatClampNeg), .ref m_slotKind]) ⟨hx, hb, hml, hown, hts⟩ (c_X8_kindOf l D cy ta m_now m_undone m_slots m_slotKind m_hasSlot m_sheetBits m_sheetSize m_sheets m_fresh m_rootWhich m_signs m_atNought m_change m_table m_carried nw u fi aa bb dd ro db mn H.size) (cwV 0 hts gX8_keep_X8_kindOf rfl rfl rfl hv_X8_kindOf (yk_room hRf hRl rfl rfl)) (yk_pv (q := (RX8, TX8, 23)) hG hA hS hK hP hD [0, 1] (by decide +kernel) rfl rfl rfl) rfl rfl hl.1 rfl (lv_room (Nat.le_of_ble_eq_true rfl)) dX8_keep_58 ⟨Nat.zero_le _, Nat.zero_le _⟩) hP hD hS hA rfl (Eq.trans (b := [ta, m_now]) rfl rfl) (fun H locs hP9 hD9 hS9 => ?_)
      replace hP : va_P D vwCl [(ta, .inr (8, [.ref m_now, .ref m_undone, .ref m_slots, .ref m_slotKind, .ref m_hasSlot, .ref m_sheetBits, .ref m_sheetSize, .ref m_sheets, .int (nI u), .int fi, .ref m_fresh, .long aa, .long bb, .long dd, .int (nI ro), .ref m_rootWhich, .int db, .ref m_signs, .ref m_atNought, .int (nI mn), .ref m_change, .ref m_table, .ref m_carried])), (m_now, .inl (cy 0, 29, .inl nw)), (m_slots, .inl (cy 0, 48, .inl (l_X8_keep_16 nw sl sk hs fi px (12 + 1) 0 sl))), (m_slotKind, .inl (cy 0, 4, .inl sk)), (m_hasSlot, .inl (cy 2, 4, .inl (upd hs px.toNatClampNeg 1)))] H := hP9
      replace hD : va_D A [(ta, .inr (8, [.ref m_now, .ref m_undone, .ref m_slots, .ref m_slotKind, .ref m_hasSlot, .ref m_sheetBits, .ref m_sheetSize, .ref m_sheets, .int (nI u), .int fi, .ref m_fresh, .long aa, .long bb, .long dd, .int (nI ro), .ref m_rootWhich, .int db, .ref m_signs, .ref m_atNought, .int (nI mn), .ref m_change, .ref m_table, .ref m_carried])), (m_now, .inl (cy 0, 29, .inl nw)), (m_slots, .inl (cy 0, 48, .inl (l_X8_keep_16 nw sl sk hs fi px (12 + 1) 0 sl))), (m_slotKind, .inl (cy 0, 4, .inl sk)), (m_hasSlot, .inl (cy 2, 4, .inl (upd hs px.toNatClampNeg 1)))] := hD9
      replace hS := hS9
      clear hP9 hD9 hS9
      refine yk_ist hx hb hK hP hD hS 3 0 rfl rfl px.toNatClampNeg (by omega) (by decide) dX8_keep_61 (fun H locs hP9 hD9 hS9 => ?_)
      replace hP : va_P D vwCl [(ta, .inr (8, [.ref m_now, .ref m_undone, .ref m_slots, .ref m_slotKind, .ref m_hasSlot, .ref m_sheetBits, .ref m_sheetSize, .ref m_sheets, .int (nI u), .int fi, .ref m_fresh, .long aa, .long bb, .long dd, .int (nI ro), .ref m_rootWhich, .int db, .ref m_signs, .ref m_atNought, .int (nI mn), .ref m_change, .ref m_table, .ref m_carried])), (m_now, .inl (cy 0, 29, .inl nw)), (m_slots, .inl (cy 0, 48, .inl (l_X8_keep_16 nw sl sk hs fi px (12 + 1) 0 sl))), (m_slotKind, .inl (cy 0, 4, .inl (upd sk px.toNatClampNeg (f_X8_kindOf nw)))), (m_hasSlot, .inl (cy 2, 4, .inl (upd hs px.toNatClampNeg 1)))] H := hP9
      replace hD : va_D A [(ta, .inr (8, [.ref m_now, .ref m_undone, .ref m_slots, .ref m_slotKind, .ref m_hasSlot, .ref m_sheetBits, .ref m_sheetSize, .ref m_sheets, .int (nI u), .int fi, .ref m_fresh, .long aa, .long bb, .long dd, .int (nI ro), .ref m_rootWhich, .int db, .ref m_signs, .ref m_atNought, .int (nI mn), .ref m_change, .ref m_table, .ref m_carried])), (m_now, .inl (cy 0, 29, .inl nw)), (m_slots, .inl (cy 0, 48, .inl (l_X8_keep_16 nw sl sk hs fi px (12 + 1) 0 sl))), (m_slotKind, .inl (cy 0, 4, .inl (upd sk px.toNatClampNeg (f_X8_kindOf nw)))), (m_hasSlot, .inl (cy 2, 4, .inl (upd hs px.toNatClampNeg 1)))] := hD9
      replace hS := hS9
      clear hP9 hD9 hS9
      refine lv_aload_n hx hb dX8_keep_62 rfl (lv_at hl 0 rfl) ?_
      refine va_get (D := D) (ci := 8) (v := .ref m_slotKind) (C := RX8) (T := TX8) (N := 23) hx hb hts uX8_keep_X8 hown hK hP 0 rfl rfl 3 (by decide) (hts _ kX8_keep_3) (fun _ h9 => h9) rfl dX8_keep_63 ?_
      refine lv_iload_n hx hb dX8_keep_66 rfl (lv_at hl 1 rfl) ?_
      refine yk_ild hx hb hK hP 3 0 rfl rfl px.toNatClampNeg (by omega) (by decide) dX8_keep_67 ?_
      have hF : f_X8_keep nw sl sk hs fi px = (((upd sk px.toNatClampNeg (f_X8_kindOf nw)) px.toNatClampNeg), fi, (l_X8_keep_16 nw sl sk hs fi px (12 + 1) 0 sl), (upd sk px.toNatClampNeg (f_X8_kindOf nw)), (upd hs px.toNatClampNeg 1)) := hF
      have hf0 := yk_fst hF
      have hg0 := yk_snd hF
      have hf1 := yk_fst hg0
      have hg1 := yk_snd hg0
      have hf2 := yk_fst hg1
      have hg2 := yk_snd hg1
      have hf3 := yk_fst hg2
      have hg3 := yk_snd hg2
      rw [hf0, hf1, hf2, hf3, hg3] at hQ
      exact hQ _ _ _ _ dX8_keep_68 hP hS
    have L16 : ∀ (M9 n16 ki : Nat) (zslots_16 : Nat → Int32) (H : Heap) (locs : List Loc) (ls : Array Slot), n16 < M9 → ki + n16 = 12 → (l_X8_keep_16 nw sl sk hs fi px (12 + 1) 0 sl) = (l_X8_keep_16 nw sl sk hs fi px (n16 + 1) ki zslots_16) → va_P D vwCl [(ta, .inr (8, [.ref m_now, .ref m_undone, .ref m_slots, .ref m_slotKind, .ref m_hasSlot, .ref m_sheetBits, .ref m_sheetSize, .ref m_sheets, .int (nI u), .int fi, .ref m_fresh, .long aa, .long bb, .long dd, .int (nI ro), .ref m_rootWhich, .int db, .ref m_signs, .ref m_atNought, .int (nI mn), .ref m_change, .ref m_table, .ref m_carried])), (m_now, .inl (cy 0, 29, .inl nw)), (m_slots, .inl (cy 0, 48, .inl zslots_16)), (m_slotKind, .inl (cy 0, 4, .inl sk)), (m_hasSlot, .inl (cy 2, 4, .inl hs))] H → va_D A [(ta, .inr (8, [.ref m_now, .ref m_undone, .ref m_slots, .ref m_slotKind, .ref m_hasSlot, .ref m_sheetBits, .ref m_sheetSize, .ref m_sheets, .int (nI u), .int fi, .ref m_fresh, .long aa, .long bb, .long dd, .int (nI ro), .ref m_rootWhich, .int db, .ref m_signs, .ref m_atNought, .int (nI mn), .ref m_change, .ref m_table, .ref m_carried])), (m_now, .inl (cy 0, 29, .inl nw)), (m_slots, .inl (cy 0, 48, .inl zslots_16)), (m_slotKind, .inl (cy 0, 4, .inl sk)), (m_hasSlot, .inl (cy 2, 4, .inl hs))] → va_S A s.heap H locs → lv_has ls 3 [(0, .ref ta), (1, .int (nI px.toNatClampNeg)), (2, .int (nI ki))] → W p l e R s m args below meth c H locs 0 0 Q (F0 m 16 ls []) := by
      clear hP hD hS hl
      intro M9
      induction M9 with
      | zero => intro n16 ki _ _ _ _ hn; exact absurd hn (Nat.not_lt_zero _)
      | succ M9 ih16 =>
        intro n16 ki zslots_16 H locs ls hn16 hk16 hV16 hP hD hS hl
        refine lv_iload_n hx hb dX8_keep_16 rfl (lv_at hl 2 rfl) ?_
        refine lv_bipush (v := 12) hx hb dX8_keep_17 (by decide) ?_
        refine lv_icmp_ge (tgt := 45) hx hb dX8_keep_19 (by decide) (fun hc4 => ?_) (fun hc4 => ?_)
        · replace hV16 := hV16.trans (if_pos hc4)
          have hV16 : (l_X8_keep_16 nw sl sk hs fi px (12 + 1) 0 sl) = zslots_16 := hV16
          have J5 := J5
          rw [hV16] at J5
          exact J5 _ _ _ hP hD hS (lv_sub hl [0, 1] rfl)
        · replace hV16 := hV16.trans (if_neg hc4)
          have hlt16 : ki < 12 := yk_lt hk16 (by omega) hc4
          refine lv_aload_n hx hb dX8_keep_22 rfl (lv_at hl 0 rfl) ?_
          refine va_get (D := D) (ci := 8) (v := .ref m_slots) (C := RX8) (T := TX8) (N := 23) hx hb hts uX8_keep_X8 hown hK hP 0 rfl rfl 2 (by decide) (hts _ kX8_keep_0) (fun _ h9 => h9) rfl dX8_keep_23 ?_
          refine lv_bipush (v := 12) hx hb dX8_keep_26 (by decide) ?_
          refine lv_iload_n hx hb dX8_keep_28 rfl (lv_at hl 1 rfl) ?_
          refine lv_imul hx hb dX8_keep_29 ?_
          refine yk_ti (y := nI (12 * px.toNatClampNeg)) (pk_mul 12 px.toNatClampNeg) ?_
          refine lv_iload_n hx hb dX8_keep_30 rfl (lv_at hl 2 rfl) ?_
          refine lv_iadd hx hb dX8_keep_31 ?_
          refine yk_ti (y := nI ((12 * px.toNatClampNeg) + ki)) (nI_add (12 * px.toNatClampNeg) ki) ?_
          refine lv_aload_n hx hb dX8_keep_32 rfl (lv_at hl 0 rfl) ?_
          refine va_get (D := D) (ci := 8) (v := .ref m_now) (C := RX8) (T := TX8) (N := 23) hx hb hts uX8_keep_X8 hown hK hP 0 rfl rfl 0 (by decide) (hts _ kX8_keep_1) (fun _ h9 => h9) rfl dX8_keep_33 ?_
          refine lv_iload_n hx hb dX8_keep_36 rfl (lv_at hl 2 rfl) ?_
          refine yk_ild hx hb hK hP 1 0 rfl rfl ki (by omega) (by decide) dX8_keep_37 ?_
          refine yk_ist hx hb hK hP hD hS 2 0 rfl rfl ((12 * px.toNatClampNeg) + ki) (by omega) (by decide) dX8_keep_38 (fun H locs hP9 hD9 hS9 => ?_)
          replace hP : va_P D vwCl [(ta, .inr (8, [.ref m_now, .ref m_undone, .ref m_slots, .ref m_slotKind, .ref m_hasSlot, .ref m_sheetBits, .ref m_sheetSize, .ref m_sheets, .int (nI u), .int fi, .ref m_fresh, .long aa, .long bb, .long dd, .int (nI ro), .ref m_rootWhich, .int db, .ref m_signs, .ref m_atNought, .int (nI mn), .ref m_change, .ref m_table, .ref m_carried])), (m_now, .inl (cy 0, 29, .inl nw)), (m_slots, .inl (cy 0, 48, .inl (upd zslots_16 ((12 * px.toNatClampNeg) + ki) (nw ki)))), (m_slotKind, .inl (cy 0, 4, .inl sk)), (m_hasSlot, .inl (cy 2, 4, .inl hs))] H := hP9
          replace hD : va_D A [(ta, .inr (8, [.ref m_now, .ref m_undone, .ref m_slots, .ref m_slotKind, .ref m_hasSlot, .ref m_sheetBits, .ref m_sheetSize, .ref m_sheets, .int (nI u), .int fi, .ref m_fresh, .long aa, .long bb, .long dd, .int (nI ro), .ref m_rootWhich, .int db, .ref m_signs, .ref m_atNought, .int (nI mn), .ref m_change, .ref m_table, .ref m_carried])), (m_now, .inl (cy 0, 29, .inl nw)), (m_slots, .inl (cy 0, 48, .inl (upd zslots_16 ((12 * px.toNatClampNeg) + ki) (nw ki)))), (m_slotKind, .inl (cy 0, 4, .inl sk)), (m_hasSlot, .inl (cy 2, 4, .inl hs))] := hD9
          replace hS := hS9
          clear hP9 hD9 hS9
          refine lv_iinc (v := nI (ki + 1)) (lv' := [(2, .int (nI (ki + 1))), (0, .ref ta), (1, .int (nI px.toNatClampNeg))]) hx hb dX8_keep_39 hl (k := 2) rfl (yk_inc ki) (by decide) rfl (fun ls hl9 => ?_)
          replace hl := hl9
          clear hl9
          refine lv_goto (tgt := 16) hx hb dX8_keep_42 (by decide) ?_
          obtain ⟨n9, rfl⟩ : ∃ n9, n16 = n9 + 1 := ⟨n16 - 1, by omega⟩
          exact ih16 n9 (ki + 1) (upd zslots_16 ((12 * px.toNatClampNeg) + ki) (nw ki)) _ _ _ (by omega) (by omega)  hV16 hP hD hS (lv_sub hl [1, 2, 0] rfl)
    exact L16 (12 + 1) 12 0 sl _ _ _ (Nat.lt_succ_self _) (by omega)  rfl hP hD hS (lv_sub hl [1, 2, 0] rfl)
  · replace hF := hF.trans (if_pos hc1)
    refine lv_aload_n hx hb dX8_keep_7 rfl (lv_at hl 0 rfl) ?_
    refine lv_ldc (v := (-1000001)) hx hb hown (hts _ kX8_keep_4) dX8_keep_8 ?_
    refine yk_i [0] (va_runV (As := [.int (-1000001)]) (rest := []) ⟨hx, hb, hml, hown, hts⟩ (c_X8_found l D cy ta m_now m_undone m_slots m_slotKind m_hasSlot m_sheetBits m_sheetSize m_sheets m_fresh m_rootWhich m_signs m_atNought m_change m_table m_carried u fi aa bb dd ro db mn (-1000001) H.size) (cwV 1 hts gX8_keep_X8_found rfl rfl rfl hv_X8_found (yk_room hRf hRl rfl rfl)) (yk_pv (q := (RX8, TX8, 23)) hG hA hS hK hP hD [0] (by decide +kernel) rfl rfl rfl) rfl rfl hl.1 rfl (lv_room (Nat.le_of_ble_eq_true rfl)) dX8_keep_10 ⟨Nat.zero_le _, Nat.zero_le _⟩) hP hD hS hA rfl (Eq.trans (b := [ta]) rfl rfl) (fun H locs hP9 hD9 hS9 => ?_)
    replace hP : va_P D vwCl [(ta, .inr (8, [.ref m_now, .ref m_undone, .ref m_slots, .ref m_slotKind, .ref m_hasSlot, .ref m_sheetBits, .ref m_sheetSize, .ref m_sheets, .int (nI u), .int ((f_X8_found fi (-1000001)).2), .ref m_fresh, .long aa, .long bb, .long dd, .int (nI ro), .ref m_rootWhich, .int db, .ref m_signs, .ref m_atNought, .int (nI mn), .ref m_change, .ref m_table, .ref m_carried])), (m_now, .inl (cy 0, 29, .inl nw)), (m_slots, .inl (cy 0, 48, .inl sl)), (m_slotKind, .inl (cy 0, 4, .inl sk)), (m_hasSlot, .inl (cy 2, 4, .inl hs))] H := hP9
    replace hD : va_D A [(ta, .inr (8, [.ref m_now, .ref m_undone, .ref m_slots, .ref m_slotKind, .ref m_hasSlot, .ref m_sheetBits, .ref m_sheetSize, .ref m_sheets, .int (nI u), .int ((f_X8_found fi (-1000001)).2), .ref m_fresh, .long aa, .long bb, .long dd, .int (nI ro), .ref m_rootWhich, .int db, .ref m_signs, .ref m_atNought, .int (nI mn), .ref m_change, .ref m_table, .ref m_carried])), (m_now, .inl (cy 0, 29, .inl nw)), (m_slots, .inl (cy 0, 48, .inl sl)), (m_slotKind, .inl (cy 0, 4, .inl sk)), (m_hasSlot, .inl (cy 2, 4, .inl hs))] := hD9
    replace hS := hS9
    clear hP9 hD9 hS9
    have hF : f_X8_keep nw sl sk hs fi px = (((f_X8_found fi (-1000001)).1), ((f_X8_found fi (-1000001)).2), sl, sk, hs) := hF
    have hf0 := yk_fst hF
    have hg0 := yk_snd hF
    have hf1 := yk_fst hg0
    have hg1 := yk_snd hg0
    have hf2 := yk_fst hg1
    have hg2 := yk_snd hg1
    have hf3 := yk_fst hg2
    have hg3 := yk_snd hg2
    rw [hf0, hf1, hf2, hf3, hg3] at hQ
    exact hQ _ _ _ _ dX8_keep_13 hP hS
