theorem hv_X8_spreadAt : yX8_spreadAt.cls = RX8 ∧ yX8_spreadAt.cls ≠ "java/lang/invoke/MethodHandle" ∧ yX8_spreadAt.cls ≠ "java/lang/invoke/VarHandle" ∧ (parseMethodDescriptor yX8_spreadAt.desc).map (fun d => d.parameters.length) = some 2 := by decide +kernel
theorem hs_X8_spreadAt : yX8_spreadAt.cls ≠ "java/lang/invoke/MethodHandle" ∧ yX8_spreadAt.cls ≠ "java/lang/invoke/VarHandle" ∧ (parseMethodDescriptor yX8_spreadAt.desc).map (fun d => d.parameters.length) = some 2 := by decide +kernel
theorem hv_X8_form : yX8_form.cls = RX8 ∧ yX8_form.cls ≠ "java/lang/invoke/MethodHandle" ∧ yX8_form.cls ≠ "java/lang/invoke/VarHandle" ∧ (parseMethodDescriptor yX8_form.desc).map (fun d => d.parameters.length) = some 1 := by decide +kernel
theorem hs_X8_form : yX8_form.cls ≠ "java/lang/invoke/MethodHandle" ∧ yX8_form.cls ≠ "java/lang/invoke/VarHandle" ∧ (parseMethodDescriptor yX8_form.desc).map (fun d => d.parameters.length) = some 1 := by decide +kernel
def f_X8_spreadAt (nw : Nat → Int32) (px : Int32) (py : Int32) : Int32 := ((f_X8_slopeAt nw px py 0 0) + (f_X8_slopeAt nw px py 1 1))
set_option maxHeartbeats 400000000 in
set_option maxRecDepth 100000 in
theorem c_X8_spreadAt (l : Launch) (D : va_G) (cy : Nat → ClassId) (ta : Nat) (m_now : Nat) (m_undone : Nat) (m_slots : Nat) (m_slotKind : Nat) (m_hasSlot : Nat) (m_sheetBits : Nat) (m_sheetSize : Nat) (m_sheets : Nat) (m_fresh : Nat) (m_rootWhich : Nat) (m_signs : Nat) (m_atNought : Nat) (m_change : Nat) (m_table : Nat) (m_carried : Nat) (nw : Nat → Int32) (u : Nat) (fi : Int32) (aa : Int64) (bb : Int64) (dd : Int64) (ro : Nat) (db : Int32) (mn : Nat) (px : Int32) (py : Int32) : yk_Ci l D vwCl (yk_ty cy) yX8_spreadAt wsX8_spreadAt 2 46 [.ref ta, .int px, .int py] [(ta, .inr (8, [.ref m_now, .ref m_undone, .ref m_slots, .ref m_slotKind, .ref m_hasSlot, .ref m_sheetBits, .ref m_sheetSize, .ref m_sheets, .int (nI u), .int fi, .ref m_fresh, .long aa, .long bb, .long dd, .int (nI ro), .ref m_rootWhich, .int db, .ref m_signs, .ref m_atNought, .int (nI mn), .ref m_change, .ref m_table, .ref m_carried])), (m_now, .inl (cy 0, 29, .inl nw))] (f_X8_spreadAt nw px py) [(ta, .inr (8, [.ref m_now, .ref m_undone, .ref m_slots, .ref m_slotKind, .ref m_hasSlot, .ref m_sheetBits, .ref m_sheetSize, .ref m_sheets, .int (nI u), .int fi, .ref m_fresh, .long aa, .long bb, .long dd, .int (nI ro), .ref m_rootWhich, .int db, .ref m_signs, .ref m_atNought, .int (nI mn), .ref m_change, .ref m_table, .ref m_carried])), (m_now, .inl (cy 0, 29, .inl nw))] := by
  refine yk_eI (cc := cX8_spreadAt) (maxL := 3) (by decide) rfl (Nat.le_of_ble_eq_true rfl) rfl ?_
  intro p e R s m args below meth c A Q ls H locs hx hb hml hown hts hRf hRl hA hK hG hP hD hS hl hQ
  have hP : va_P D vwCl [(ta, .inr (8, [.ref m_now, .ref m_undone, .ref m_slots, .ref m_slotKind, .ref m_hasSlot, .ref m_sheetBits, .ref m_sheetSize, .ref m_sheets, .int (nI u), .int fi, .ref m_fresh, .long aa, .long bb, .long dd, .int (nI ro), .ref m_rootWhich, .int db, .ref m_signs, .ref m_atNought, .int (nI mn), .ref m_change, .ref m_table, .ref m_carried])), (m_now, .inl (cy 0, 29, .inl nw))] H := hP
  have hl : lv_has ls 3 [(0, .ref ta), (1, .int px), (2, .int py)] := hl
  have hown : s.vm.findClass RX8 = some m.cls := hown
  have hF : (f_X8_spreadAt nw px py) = (f_X8_spreadAt nw px py) := rfl
  refine lv_aload_n hx hb dX8_spreadAt_0 rfl (lv_at hl 0 rfl) ?_
  refine lv_iload_n hx hb dX8_spreadAt_1 rfl (lv_at hl 1 rfl) ?_
  refine lv_iload_n hx hb dX8_spreadAt_2 rfl (lv_at hl 2 rfl) ?_
  refine lv_iconst (v := 0) hx hb dX8_spreadAt_3 (by decide) ?_
  refine lv_iconst (v := 0) hx hb dX8_spreadAt_4 (by decide) ?_
  refine yk_i [0, 1] (va_runV (As := [.int px, .int py, .int 0, .int 0]) (rest := []) ⟨hx, hb, hml, hown, hts⟩ (c_X8_slopeAt l D cy ta m_now m_undone m_slots m_slotKind m_hasSlot m_sheetBits m_sheetSize m_sheets m_fresh m_rootWhich m_signs m_atNought m_change m_table m_carried nw u fi aa bb dd ro db mn px py 0 0 H.size) (cwV 4 hts gX8_spreadAt_X8_slopeAt rfl rfl rfl hv_X8_slopeAt (yk_room hRf hRl rfl rfl)) (yk_pv (q := (RX8, TX8, 23)) hG hA hS hK hP hD [0, 1] (by decide +kernel) rfl rfl rfl) rfl rfl hl.1 rfl (lv_room (Nat.le_of_ble_eq_true rfl)) dX8_spreadAt_5 ⟨Nat.zero_le _, Nat.zero_le _⟩) hP hD hS hA rfl (Eq.trans (b := [ta, m_now]) rfl rfl) (fun H locs hP9 hD9 hS9 => ?_)
  replace hP : va_P D vwCl [(ta, .inr (8, [.ref m_now, .ref m_undone, .ref m_slots, .ref m_slotKind, .ref m_hasSlot, .ref m_sheetBits, .ref m_sheetSize, .ref m_sheets, .int (nI u), .int fi, .ref m_fresh, .long aa, .long bb, .long dd, .int (nI ro), .ref m_rootWhich, .int db, .ref m_signs, .ref m_atNought, .int (nI mn), .ref m_change, .ref m_table, .ref m_carried])), (m_now, .inl (cy 0, 29, .inl nw))] H := hP9
  replace hD : va_D A [(ta, .inr (8, [.ref m_now, .ref m_undone, .ref m_slots, .ref m_slotKind, .ref m_hasSlot, .ref m_sheetBits, .ref m_sheetSize, .ref m_sheets, .int (nI u), .int fi, .ref m_fresh, .long aa, .long bb, .long dd, .int (nI ro), .ref m_rootWhich, .int db, .ref m_signs, .ref m_atNought, .int (nI mn), .ref m_change, .ref m_table, .ref m_carried])), (m_now, .inl (cy 0, 29, .inl nw))] := hD9
  replace hS := hS9
  clear hP9 hD9 hS9
  refine lv_aload_n hx hb dX8_spreadAt_8 rfl (lv_at hl 0 rfl) ?_
  refine lv_iload_n hx hb dX8_spreadAt_9 rfl (lv_at hl 1 rfl) ?_
  refine lv_iload_n hx hb dX8_spreadAt_10 rfl (lv_at hl 2 rfl) ?_
  refine lv_iconst (v := 1) hx hb dX8_spreadAt_11 (by decide) ?_
  refine lv_iconst (v := 1) hx hb dX8_spreadAt_12 (by decide) ?_
  refine yk_i [0, 1] (va_runV (As := [.int px, .int py, .int 1, .int 1]) (rest := [.int (f_X8_slopeAt nw px py 0 0)]) ⟨hx, hb, hml, hown, hts⟩ (c_X8_slopeAt l D cy ta m_now m_undone m_slots m_slotKind m_hasSlot m_sheetBits m_sheetSize m_sheets m_fresh m_rootWhich m_signs m_atNought m_change m_table m_carried nw u fi aa bb dd ro db mn px py 1 1 H.size) (cwV 4 hts gX8_spreadAt_X8_slopeAt rfl rfl rfl hv_X8_slopeAt (yk_room hRf hRl rfl rfl)) (yk_pv (q := (RX8, TX8, 23)) hG hA hS hK hP hD [0, 1] (by decide +kernel) rfl rfl rfl) rfl rfl hl.1 rfl (lv_room (Nat.le_of_ble_eq_true rfl)) dX8_spreadAt_13 ⟨Nat.zero_le _, Nat.zero_le _⟩) hP hD hS hA rfl (Eq.trans (b := [ta, m_now]) rfl rfl) (fun H locs hP9 hD9 hS9 => ?_)
  replace hP : va_P D vwCl [(ta, .inr (8, [.ref m_now, .ref m_undone, .ref m_slots, .ref m_slotKind, .ref m_hasSlot, .ref m_sheetBits, .ref m_sheetSize, .ref m_sheets, .int (nI u), .int fi, .ref m_fresh, .long aa, .long bb, .long dd, .int (nI ro), .ref m_rootWhich, .int db, .ref m_signs, .ref m_atNought, .int (nI mn), .ref m_change, .ref m_table, .ref m_carried])), (m_now, .inl (cy 0, 29, .inl nw))] H := hP9
  replace hD : va_D A [(ta, .inr (8, [.ref m_now, .ref m_undone, .ref m_slots, .ref m_slotKind, .ref m_hasSlot, .ref m_sheetBits, .ref m_sheetSize, .ref m_sheets, .int (nI u), .int fi, .ref m_fresh, .long aa, .long bb, .long dd, .int (nI ro), .ref m_rootWhich, .int db, .ref m_signs, .ref m_atNought, .int (nI mn), .ref m_change, .ref m_table, .ref m_carried])), (m_now, .inl (cy 0, 29, .inl nw))] := hD9
  replace hS := hS9
  clear hP9 hD9 hS9
  refine lv_iadd hx hb dX8_spreadAt_16 ?_
  have hF : f_X8_spreadAt nw px py = ((f_X8_slopeAt nw px py 0 0) + (f_X8_slopeAt nw px py 1 1)) := hF
  rw [hF] at hQ
  exact hQ _ _ _ _ dX8_spreadAt_17 hP hS

theorem kX8_none_0 : Cond.constant RX8 68 (-1000001) ∈ wsX8_none := by decide +kernel
def l_X8_none_44 (nw : Nat → Int32) (fi : Int32) (pa : Int32) (pb : Int32) (pc_ : Int32) (pd : Int32) : Nat → Nat → Int32 → Int32 → Int32 × Int32
  | 0, ki, z5_44, z6_44 => (z5_44, z6_44)
  | fu_X8_none_44 + 1, ki, z5_44, z6_44 => (if 4 ≤ (nI ki) then (z5_44, z6_44) else (l_X8_none_44 nw fi pa pb pc_ pd fu_X8_none_44 (ki + 1) (z5_44 + (if ((f_X8_spreadAt nw (if ((nI ki) - (nI ki) / 2 * 2) = 0 then pa else pc_) (if 2 ≤ (nI ki) then pd else pb)) : Int32) ≤ 0 then 0 else 1)) (z6_44 + (if 0 ≤ ((f_X8_spreadAt nw (if ((nI ki) - (nI ki) / 2 * 2) = 0 then pa else pc_) (if 2 ≤ (nI ki) then pd else pb)) : Int32) then 0 else 1))))
def f_X8_none (nw : Nat → Int32) (fi : Int32) (pa : Int32) (pb : Int32) (pc_ : Int32) (pd : Int32) : Int32 × Int32 := (if (f_X8_isPlace pa pb) = 0 then (((f_X8_found fi (-1000001)).1), ((f_X8_found fi (-1000001)).2)) else (if (f_X8_isPlace pc_ pd) = 0 then (((f_X8_found fi (-1000001)).1), ((f_X8_found fi (-1000001)).2)) else (if pc_ ≤ pa then (((f_X8_found fi (-1000001)).1), ((f_X8_found fi (-1000001)).2)) else (if pb < pd then ((if ((l_X8_none_44 nw fi pa pb pc_ pd (4 + 1) 0 0 0).1) ≤ 0 then (if ((l_X8_none_44 nw fi pa pb pc_ pd (4 + 1) 0 0 0).2) ≤ 0 then 0 else (if ((l_X8_none_44 nw fi pa pb pc_ pd (4 + 1) 0 0 0).1) = 0 then (-1) else 0)) else (if ((l_X8_none_44 nw fi pa pb pc_ pd (4 + 1) 0 0 0).2) = 0 then 1 else (if ((l_X8_none_44 nw fi pa pb pc_ pd (4 + 1) 0 0 0).2) ≤ 0 then 0 else (if ((l_X8_none_44 nw fi pa pb pc_ pd (4 + 1) 0 0 0).1) = 0 then (-1) else 0)))), fi) else (((f_X8_found fi (-1000001)).1), ((f_X8_found fi (-1000001)).2))))))
set_option maxHeartbeats 400000000 in
set_option maxRecDepth 100000 in
theorem c_X8_none (l : Launch) (D : va_G) (cy : Nat → ClassId) (ta : Nat) (m_now : Nat) (m_undone : Nat) (m_slots : Nat) (m_slotKind : Nat) (m_hasSlot : Nat) (m_sheetBits : Nat) (m_sheetSize : Nat) (m_sheets : Nat) (m_fresh : Nat) (m_rootWhich : Nat) (m_signs : Nat) (m_atNought : Nat) (m_change : Nat) (m_table : Nat) (m_carried : Nat) (nw : Nat → Int32) (u : Nat) (fi : Int32) (aa : Int64) (bb : Int64) (dd : Int64) (ro : Nat) (db : Int32) (mn : Nat) (pa : Int32) (pb : Int32) (pc_ : Int32) (pd : Int32) : yk_Ci l D vwCl (yk_ty cy) yX8_none wsX8_none 3 68 [.ref ta, .int pa, .int pb, .int pc_, .int pd] [(ta, .inr (8, [.ref m_now, .ref m_undone, .ref m_slots, .ref m_slotKind, .ref m_hasSlot, .ref m_sheetBits, .ref m_sheetSize, .ref m_sheets, .int (nI u), .int fi, .ref m_fresh, .long aa, .long bb, .long dd, .int (nI ro), .ref m_rootWhich, .int db, .ref m_signs, .ref m_atNought, .int (nI mn), .ref m_change, .ref m_table, .ref m_carried])), (m_now, .inl (cy 0, 29, .inl nw))] ((f_X8_none nw fi pa pb pc_ pd).1) [(ta, .inr (8, [.ref m_now, .ref m_undone, .ref m_slots, .ref m_slotKind, .ref m_hasSlot, .ref m_sheetBits, .ref m_sheetSize, .ref m_sheets, .int (nI u), .int ((f_X8_none nw fi pa pb pc_ pd).2), .ref m_fresh, .long aa, .long bb, .long dd, .int (nI ro), .ref m_rootWhich, .int db, .ref m_signs, .ref m_atNought, .int (nI mn), .ref m_change, .ref m_table, .ref m_carried])), (m_now, .inl (cy 0, 29, .inl nw))] := by
  refine yk_eI (cc := cX8_none) (maxL := 9) (by decide) rfl (Nat.le_of_ble_eq_true rfl) rfl ?_
  intro p e R s m args below meth c A Q ls H locs hx hb hml hown hts hRf hRl hA hK hG hP hD hS hl hQ
  have hP : va_P D vwCl [(ta, .inr (8, [.ref m_now, .ref m_undone, .ref m_slots, .ref m_slotKind, .ref m_hasSlot, .ref m_sheetBits, .ref m_sheetSize, .ref m_sheets, .int (nI u), .int fi, .ref m_fresh, .long aa, .long bb, .long dd, .int (nI ro), .ref m_rootWhich, .int db, .ref m_signs, .ref m_atNought, .int (nI mn), .ref m_change, .ref m_table, .ref m_carried])), (m_now, .inl (cy 0, 29, .inl nw))] H := hP
  have hl : lv_has ls 9 [(0, .ref ta), (1, .int pa), (2, .int pb), (3, .int pc_), (4, .int pd)] := hl
  have hown : s.vm.findClass RX8 = some m.cls := hown
  have hF : (f_X8_none nw fi pa pb pc_ pd) = (f_X8_none nw fi pa pb pc_ pd) := rfl
  refine lv_iload_n hx hb dX8_none_0 rfl (lv_at hl 1 rfl) ?_
  refine lv_iload_n hx hb dX8_none_1 rfl (lv_at hl 2 rfl) ?_
  refine yk_i [] (va_runS (As := [.int pa, .int pb]) (rest := []) ⟨hx, hb, hml, hown, hts⟩ (c_X8_isPlace l D cy pa pb H.size) (va_cwS 2 hts gX8_none_X8_isPlace rfl rfl rfl hs_X8_isPlace (yk_room hRf hRl rfl rfl)) (yk_ps hG hA hS hK hP hD [] (by decide +kernel) rfl) rfl rfl hl.1 rfl (lv_room (Nat.le_of_ble_eq_true rfl)) dX8_none_2 ⟨Nat.zero_le _, Nat.zero_le _⟩) hP hD hS hA rfl rfl (fun H locs hP9 hD9 hS9 => ?_)
  replace hP : va_P D vwCl [(ta, .inr (8, [.ref m_now, .ref m_undone, .ref m_slots, .ref m_slotKind, .ref m_hasSlot, .ref m_sheetBits, .ref m_sheetSize, .ref m_sheets, .int (nI u), .int fi, .ref m_fresh, .long aa, .long bb, .long dd, .int (nI ro), .ref m_rootWhich, .int db, .ref m_signs, .ref m_atNought, .int (nI mn), .ref m_change, .ref m_table, .ref m_carried])), (m_now, .inl (cy 0, 29, .inl nw))] H := hP9
  replace hD : va_D A [(ta, .inr (8, [.ref m_now, .ref m_undone, .ref m_slots, .ref m_slotKind, .ref m_hasSlot, .ref m_sheetBits, .ref m_sheetSize, .ref m_sheets, .int (nI u), .int fi, .ref m_fresh, .long aa, .long bb, .long dd, .int (nI ro), .ref m_rootWhich, .int db, .ref m_signs, .ref m_atNought, .int (nI mn), .ref m_change, .ref m_table, .ref m_carried])), (m_now, .inl (cy 0, 29, .inl nw))] := hD9
  replace hS := hS9
  clear hP9 hD9 hS9
  refine lv_if_eq (tgt := 28) hx hb dX8_none_5 (by decide) (fun hc1 => ?_) (fun hc1 => ?_)
  · replace hF := hF.trans (if_pos hc1)
    refine lv_aload_n hx hb dX8_none_28 rfl (lv_at hl 0 rfl) ?_
    refine lv_ldc (v := (-1000001)) hx hb hown (hts _ kX8_none_0) dX8_none_29 ?_
    refine yk_i [0] (va_runV (As := [.int (-1000001)]) (rest := []) ⟨hx, hb, hml, hown, hts⟩ (c_X8_found l D cy ta m_now m_undone m_slots m_slotKind m_hasSlot m_sheetBits m_sheetSize m_sheets m_fresh m_rootWhich m_signs m_atNought m_change m_table m_carried u fi aa bb dd ro db mn (-1000001) H.size) (cwV 1 hts gX8_none_X8_found rfl rfl rfl hv_X8_found (yk_room hRf hRl rfl rfl)) (yk_pv (q := (RX8, TX8, 23)) hG hA hS hK hP hD [0] (by decide +kernel) rfl rfl rfl) rfl rfl hl.1 rfl (lv_room (Nat.le_of_ble_eq_true rfl)) dX8_none_31 ⟨Nat.zero_le _, Nat.zero_le _⟩) hP hD hS hA rfl (Eq.trans (b := [ta]) rfl rfl) (fun H locs hP9 hD9 hS9 => ?_)
    replace hP : va_P D vwCl [(ta, .inr (8, [.ref m_now, .ref m_undone, .ref m_slots, .ref m_slotKind, .ref m_hasSlot, .ref m_sheetBits, .ref m_sheetSize, .ref m_sheets, .int (nI u), .int ((f_X8_found fi (-1000001)).2), .ref m_fresh, .long aa, .long bb, .long dd, .int (nI ro), .ref m_rootWhich, .int db, .ref m_signs, .ref m_atNought, .int (nI mn), .ref m_change, .ref m_table, .ref m_carried])), (m_now, .inl (cy 0, 29, .inl nw))] H := hP9
    replace hD : va_D A [(ta, .inr (8, [.ref m_now, .ref m_undone, .ref m_slots, .ref m_slotKind, .ref m_hasSlot, .ref m_sheetBits, .ref m_sheetSize, .ref m_sheets, .int (nI u), .int ((f_X8_found fi (-1000001)).2), .ref m_fresh, .long aa, .long bb, .long dd, .int (nI ro), .ref m_rootWhich, .int db, .ref m_signs, .ref m_atNought, .int (nI mn), .ref m_change, .ref m_table, .ref m_carried])), (m_now, .inl (cy 0, 29, .inl nw))] := hD9
    replace hS := hS9
    clear hP9 hD9 hS9
    have hF : f_X8_none nw fi pa pb pc_ pd = (((f_X8_found fi (-1000001)).1), ((f_X8_found fi (-1000001)).2)) := hF
    have hf0 := yk_fst hF
    have hg0 := yk_snd hF
    rw [hf0, hg0] at hQ
    exact hQ _ _ _ _ dX8_none_34 hP hS
  · replace hF := hF.trans (if_neg hc1)
    refine lv_iload_n hx hb dX8_none_8 rfl (lv_at hl 3 rfl) ?_
    refine lv_iload hx hb dX8_none_9 (lv_at hl 4 rfl) ?_
    refine yk_i [] (va_runS (As := [.int pc_, .int pd]) (rest := []) ⟨hx, hb, hml, hown, hts⟩ (c_X8_isPlace l D cy pc_ pd H.size) (va_cwS 2 hts gX8_none_X8_isPlace rfl rfl rfl hs_X8_isPlace (yk_room hRf hRl rfl rfl)) (yk_ps hG hA hS hK hP hD [] (by decide +kernel) rfl) rfl rfl hl.1 rfl (lv_room (Nat.le_of_ble_eq_true rfl)) dX8_none_11 ⟨Nat.zero_le _, Nat.zero_le _⟩) hP hD hS hA rfl rfl (fun H locs hP9 hD9 hS9 => ?_)
    replace hP : va_P D vwCl [(ta, .inr (8, [.ref m_now, .ref m_undone, .ref m_slots, .ref m_slotKind, .ref m_hasSlot, .ref m_sheetBits, .ref m_sheetSize, .ref m_sheets, .int (nI u), .int fi, .ref m_fresh, .long aa, .long bb, .long dd, .int (nI ro), .ref m_rootWhich, .int db, .ref m_signs, .ref m_atNought, .int (nI mn), .ref m_change, .ref m_table, .ref m_carried])), (m_now, .inl (cy 0, 29, .inl nw))] H := hP9
    replace hD : va_D A [(ta, .inr (8, [.ref m_now, .ref m_undone, .ref m_slots, .ref m_slotKind, .ref m_hasSlot, .ref m_sheetBits, .ref m_sheetSize, .ref m_sheets, .int (nI u), .int fi, .ref m_fresh, .long aa, .long bb, .long dd, .int (nI ro), .ref m_rootWhich, .int db, .ref m_signs, .ref m_atNought, .int (nI mn), .ref m_change, .ref m_table, .ref m_carried])), (m_now, .inl (cy 0, 29, .inl nw))] := hD9
    replace hS := hS9
    clear hP9 hD9 hS9
    refine lv_if_eq (tgt := 28) hx hb dX8_none_14 (by decide) (fun hc2 => ?_) (fun hc2 => ?_)
    · replace hF := hF.trans (if_pos hc2)
      refine lv_aload_n hx hb dX8_none_28 rfl (lv_at hl 0 rfl) ?_
      refine lv_ldc (v := (-1000001)) hx hb hown (hts _ kX8_none_0) dX8_none_29 ?_
      refine yk_i [0] (va_runV (As := [.int (-1000001)]) (rest := []) ⟨hx, hb, hml, hown, hts⟩ (c_X8_found l D cy ta m_now m_undone m_slots m_slotKind m_hasSlot m_sheetBits m_sheetSize m_sheets m_fresh m_rootWhich m_signs m_atNought m_change m_table m_carried u fi aa bb dd ro db mn (-1000001) H.size) (cwV 1 hts gX8_none_X8_found rfl rfl rfl hv_X8_found (yk_room hRf hRl rfl rfl)) (yk_pv (q := (RX8, TX8, 23)) hG hA hS hK hP hD [0] (by decide +kernel) rfl rfl rfl) rfl rfl hl.1 rfl (lv_room (Nat.le_of_ble_eq_true rfl)) dX8_none_31 ⟨Nat.zero_le _, Nat.zero_le _⟩) hP hD hS hA rfl (Eq.trans (b := [ta]) rfl rfl) (fun H locs hP9 hD9 hS9 => ?_)
      replace hP : va_P D vwCl [(ta, .inr (8, [.ref m_now, .ref m_undone, .ref m_slots, .ref m_slotKind, .ref m_hasSlot, .ref m_sheetBits, .ref m_sheetSize, .ref m_sheets, .int (nI u), .int ((f_X8_found fi (-1000001)).2), .ref m_fresh, .long aa, .long bb, .long dd, .int (nI ro), .ref m_rootWhich, .int db, .ref m_signs, .ref m_atNought, .int (nI mn), .ref m_change, .ref m_table, .ref m_carried])), (m_now, .inl (cy 0, 29, .inl nw))] H := hP9
      replace hD : va_D A [(ta, .inr (8, [.ref m_now, .ref m_undone, .ref m_slots, .ref m_slotKind, .ref m_hasSlot, .ref m_sheetBits, .ref m_sheetSize, .ref m_sheets, .int (nI u), .int ((f_X8_found fi (-1000001)).2), .ref m_fresh, .long aa, .long bb, .long dd, .int (nI ro), .ref m_rootWhich, .int db, .ref m_signs, .ref m_atNought, .int (nI mn), .ref m_change, .ref m_table, .ref m_carried])), (m_now, .inl (cy 0, 29, .inl nw))] := hD9
      replace hS := hS9
      clear hP9 hD9 hS9
      have hF : f_X8_none nw fi pa pb pc_ pd = (((f_X8_found fi (-1000001)).1), ((f_X8_found fi (-1000001)).2)) := hF
      have hf0 := yk_fst hF
      have hg0 := yk_snd hF
      rw [hf0, hg0] at hQ
      exact hQ _ _ _ _ dX8_none_34 hP hS
    · replace hF := hF.trans (if_neg hc2)
      refine lv_iload_n hx hb dX8_none_17 rfl (lv_at hl 1 rfl) ?_
      refine lv_iload_n hx hb dX8_none_18 rfl (lv_at hl 3 rfl) ?_
      refine lv_icmp_ge (tgt := 28) hx hb dX8_none_19 (by decide) (fun hc3 => ?_) (fun hc3 => ?_)
      · replace hF := hF.trans (if_pos hc3)
        refine lv_aload_n hx hb dX8_none_28 rfl (lv_at hl 0 rfl) ?_
        refine lv_ldc (v := (-1000001)) hx hb hown (hts _ kX8_none_0) dX8_none_29 ?_
        refine yk_i [0] (va_runV (As := [.int (-1000001)]) (rest := []) ⟨hx, hb, hml, hown, hts⟩ (c_X8_found l D cy ta m_now m_undone m_slots m_slotKind m_hasSlot m_sheetBits m_sheetSize m_sheets m_fresh m_rootWhich m_signs m_atNought m_change m_table m_carried u fi aa bb dd ro db mn (-1000001) H.size) (cwV 1 hts gX8_none_X8_found rfl rfl rfl hv_X8_found (yk_room hRf hRl rfl rfl)) (yk_pv (q := (RX8, TX8, 23)) hG hA hS hK hP hD [0] (by decide +kernel) rfl rfl rfl) rfl rfl hl.1 rfl (lv_room (Nat.le_of_ble_eq_true rfl)) dX8_none_31 ⟨Nat.zero_le _, Nat.zero_le _⟩) hP hD hS hA rfl (Eq.trans (b := [ta]) rfl rfl) (fun H locs hP9 hD9 hS9 => ?_)
        replace hP : va_P D vwCl [(ta, .inr (8, [.ref m_now, .ref m_undone, .ref m_slots, .ref m_slotKind, .ref m_hasSlot, .ref m_sheetBits, .ref m_sheetSize, .ref m_sheets, .int (nI u), .int ((f_X8_found fi (-1000001)).2), .ref m_fresh, .long aa, .long bb, .long dd, .int (nI ro), .ref m_rootWhich, .int db, .ref m_signs, .ref m_atNought, .int (nI mn), .ref m_change, .ref m_table, .ref m_carried])), (m_now, .inl (cy 0, 29, .inl nw))] H := hP9
        replace hD : va_D A [(ta, .inr (8, [.ref m_now, .ref m_undone, .ref m_slots, .ref m_slotKind, .ref m_hasSlot, .ref m_sheetBits, .ref m_sheetSize, .ref m_sheets, .int (nI u), .int ((f_X8_found fi (-1000001)).2), .ref m_fresh, .long aa, .long bb, .long dd, .int (nI ro), .ref m_rootWhich, .int db, .ref m_signs, .ref m_atNought, .int (nI mn), .ref m_change, .ref m_table, .ref m_carried])), (m_now, .inl (cy 0, 29, .inl nw))] := hD9
        replace hS := hS9
        clear hP9 hD9 hS9
        have hF : f_X8_none nw fi pa pb pc_ pd = (((f_X8_found fi (-1000001)).1), ((f_X8_found fi (-1000001)).2)) := hF
        have hf0 := yk_fst hF
        have hg0 := yk_snd hF
        rw [hf0, hg0] at hQ
        exact hQ _ _ _ _ dX8_none_34 hP hS
      · replace hF := hF.trans (if_neg hc3)
        refine lv_iload_n hx hb dX8_none_22 rfl (lv_at hl 2 rfl) ?_
        refine lv_iload hx hb dX8_none_23 (lv_at hl 4 rfl) ?_
        refine lv_icmp_lt (tgt := 35) hx hb dX8_none_25 (by decide) (fun hc4 => ?_) (fun hc4 => ?_)
        · replace hF := hF.trans (if_pos hc4)
          refine lv_iconst (v := 0) hx hb dX8_none_35 (by decide) ?_
          refine lv_istore (lv' := [(5, .int 0), (0, .ref ta), (1, .int pa), (2, .int pb), (3, .int pc_), (4, .int pd)]) hx hb dX8_none_36 hl (by decide) rfl (fun ls hl9 => ?_)
          replace hl := hl9
          clear hl9
          refine lv_iconst (v := 0) hx hb dX8_none_38 (by decide) ?_
          refine lv_istore (lv' := [(6, .int 0), (5, .int 0), (0, .ref ta), (1, .int pa), (2, .int pb), (3, .int pc_), (4, .int pd)]) hx hb dX8_none_39 hl (by decide) rfl (fun ls hl9 => ?_)
          replace hl := hl9
          clear hl9
          refine lv_iconst (v := 0) hx hb dX8_none_41 (by decide) ?_
          refine lv_istore (lv' := [(7, .int 0), (6, .int 0), (5, .int 0), (0, .ref ta), (1, .int pa), (2, .int pb), (3, .int pc_), (4, .int pd)]) hx hb dX8_none_42 hl (by decide) rfl (fun ls hl9 => ?_)
          replace hl := hl9
          clear hl9
          have J18 : ∀ (H : Heap) (locs : List Loc) (ls : Array Slot), va_P D vwCl [(ta, .inr (8, [.ref m_now, .ref m_undone, .ref m_slots, .ref m_slotKind, .ref m_hasSlot, .ref m_sheetBits, .ref m_sheetSize, .ref m_sheets, .int (nI u), .int fi, .ref m_fresh, .long aa, .long bb, .long dd, .int (nI ro), .ref m_rootWhich, .int db, .ref m_signs, .ref m_atNought, .int (nI mn), .ref m_change, .ref m_table, .ref m_carried])), (m_now, .inl (cy 0, 29, .inl nw))] H → va_D A [(ta, .inr (8, [.ref m_now, .ref m_undone, .ref m_slots, .ref m_slotKind, .ref m_hasSlot, .ref m_sheetBits, .ref m_sheetSize, .ref m_sheets, .int (nI u), .int fi, .ref m_fresh, .long aa, .long bb, .long dd, .int (nI ro), .ref m_rootWhich, .int db, .ref m_signs, .ref m_atNought, .int (nI mn), .ref m_change, .ref m_table, .ref m_carried])), (m_now, .inl (cy 0, 29, .inl nw))] → va_S A s.heap H locs → lv_has ls 9 [(0, .ref ta), (1, .int pa), (2, .int pb), (3, .int pc_), (4, .int pd), (5, .int ((l_X8_none_44 nw fi pa pb pc_ pd (4 + 1) 0 0 0).1)), (6, .int ((l_X8_none_44 nw fi pa pb pc_ pd (4 + 1) 0 0 0).2))] → W p l e R s m args below meth c H locs 0 0 Q (F0 m 116 ls []) := by
            clear hP hD hS hl
            intro H locs ls hP hD hS hl
            refine lv_iload hx hb dX8_none_116 (lv_at hl 5 rfl) ?_
            have J26 : ∀ (v25 : Int32) (H : Heap) (locs : List Loc) (ls : Array Slot), v25 = (if ((l_X8_none_44 nw fi pa pb pc_ pd (4 + 1) 0 0 0).1) ≤ 0 then (if ((l_X8_none_44 nw fi pa pb pc_ pd (4 + 1) 0 0 0).2) ≤ 0 then 0 else (if ((l_X8_none_44 nw fi pa pb pc_ pd (4 + 1) 0 0 0).1) = 0 then (-1) else 0)) else (if ((l_X8_none_44 nw fi pa pb pc_ pd (4 + 1) 0 0 0).2) = 0 then 1 else (if ((l_X8_none_44 nw fi pa pb pc_ pd (4 + 1) 0 0 0).2) ≤ 0 then 0 else (if ((l_X8_none_44 nw fi pa pb pc_ pd (4 + 1) 0 0 0).1) = 0 then (-1) else 0)))) → va_P D vwCl [(ta, .inr (8, [.ref m_now, .ref m_undone, .ref m_slots, .ref m_slotKind, .ref m_hasSlot, .ref m_sheetBits, .ref m_sheetSize, .ref m_sheets, .int (nI u), .int fi, .ref m_fresh, .long aa, .long bb, .long dd, .int (nI ro), .ref m_rootWhich, .int db, .ref m_signs, .ref m_atNought, .int (nI mn), .ref m_change, .ref m_table, .ref m_carried])), (m_now, .inl (cy 0, 29, .inl nw))] H → va_D A [(ta, .inr (8, [.ref m_now, .ref m_undone, .ref m_slots, .ref m_slotKind, .ref m_hasSlot, .ref m_sheetBits, .ref m_sheetSize, .ref m_sheets, .int (nI u), .int fi, .ref m_fresh, .long aa, .long bb, .long dd, .int (nI ro), .ref m_rootWhich, .int db, .ref m_signs, .ref m_atNought, .int (nI mn), .ref m_change, .ref m_table, .ref m_carried])), (m_now, .inl (cy 0, 29, .inl nw))] → va_S A s.heap H locs → lv_has ls 9 [(0, .ref ta), (1, .int pa), (2, .int pb), (3, .int pc_), (4, .int pd), (5, .int ((l_X8_none_44 nw fi pa pb pc_ pd (4 + 1) 0 0 0).1)), (6, .int ((l_X8_none_44 nw fi pa pb pc_ pd (4 + 1) 0 0 0).2))] → W p l e R s m args below meth c H locs 0 0 Q (F0 m 145 ls [.int v25]) := by
              clear hP hD hS hl
              intro v25 H locs ls ev25
              rw [ev25]
              clear ev25
              intro hP hD hS hl
              have hF : f_X8_none nw fi pa pb pc_ pd = ((if ((l_X8_none_44 nw fi pa pb pc_ pd (4 + 1) 0 0 0).1) ≤ 0 then (if ((l_X8_none_44 nw fi pa pb pc_ pd (4 + 1) 0 0 0).2) ≤ 0 then 0 else (if ((l_X8_none_44 nw fi pa pb pc_ pd (4 + 1) 0 0 0).1) = 0 then (-1) else 0)) else (if ((l_X8_none_44 nw fi pa pb pc_ pd (4 + 1) 0 0 0).2) = 0 then 1 else (if ((l_X8_none_44 nw fi pa pb pc_ pd (4 + 1) 0 0 0).2) ≤ 0 then 0 else (if ((l_X8_none_44 nw fi pa pb pc_ pd (4 + 1) 0 0 0).1) = 0 then (-1) else 0)))), fi) := hF
              have hf0 := yk_fst hF
              have hg0 := yk_snd hF
              rw [hf0, hg0] at hQ
              exact hQ _ _ _ _ dX8_none_145 hP hS
            refine lv_if_le (tgt := 130) hx hb dX8_none_118 (by decide) (fun hc19 => ?_) (fun hc19 => ?_)
            · refine lv_iload hx hb dX8_none_130 (lv_at hl 6 rfl) ?_
              refine lv_if_le (tgt := 144) hx hb dX8_none_132 (by decide) (fun hc20 => ?_) (fun hc20 => ?_)
              · refine lv_iconst (v := 0) hx hb dX8_none_144 (by decide) ?_
                exact J26 _ _ _ _ (((if_pos hc19).trans (if_pos hc20)).symm) hP hD hS (lv_sub hl [0, 1, 2, 3, 4, 5, 6] rfl)
              · refine lv_iload hx hb dX8_none_135 (lv_at hl 5 rfl) ?_
                refine lv_if_ne (tgt := 144) hx hb dX8_none_137 (by decide) (fun hc21 => ?_) (fun hc21 => ?_)
                · refine lv_iconst (v := 0) hx hb dX8_none_144 (by decide) ?_
                  exact J26 _ _ _ _ (((if_pos hc19).trans ((if_neg hc20).trans (if_neg hc21))).symm) hP hD hS (lv_sub hl [0, 1, 2, 3, 4, 5, 6] rfl)
                · refine lv_iconst (v := (-1)) hx hb dX8_none_140 (by decide) ?_
                  refine lv_goto (tgt := 145) hx hb dX8_none_141 (by decide) ?_
                  exact J26 _ _ _ _ (((if_pos hc19).trans ((if_neg hc20).trans (if_pos hc21))).symm) hP hD hS (lv_sub hl [0, 1, 2, 3, 4, 5, 6] rfl)
            · refine lv_iload hx hb dX8_none_121 (lv_at hl 6 rfl) ?_
              refine lv_if_ne (tgt := 130) hx hb dX8_none_123 (by decide) (fun hc22 => ?_) (fun hc22 => ?_)
              · refine lv_iload hx hb dX8_none_130 (lv_at hl 6 rfl) ?_
                refine lv_if_le (tgt := 144) hx hb dX8_none_132 (by decide) (fun hc23 => ?_) (fun hc23 => ?_)
                · refine lv_iconst (v := 0) hx hb dX8_none_144 (by decide) ?_
                  exact J26 _ _ _ _ (((if_neg hc19).trans ((if_neg hc22).trans (if_pos hc23))).symm) hP hD hS (lv_sub hl [0, 1, 2, 3, 4, 5, 6] rfl)
                · refine lv_iload hx hb dX8_none_135 (lv_at hl 5 rfl) ?_
                  refine lv_if_ne (tgt := 144) hx hb dX8_none_137 (by decide) (fun hc24 => ?_) (fun hc24 => ?_)
                  · refine lv_iconst (v := 0) hx hb dX8_none_144 (by decide) ?_
                    exact J26 _ _ _ _ (((if_neg hc19).trans ((if_neg hc22).trans ((if_neg hc23).trans (if_neg hc24)))).symm) hP hD hS (lv_sub hl [0, 1, 2, 3, 4, 5, 6] rfl)
                  · refine lv_iconst (v := (-1)) hx hb dX8_none_140 (by decide) ?_
                    refine lv_goto (tgt := 145) hx hb dX8_none_141 (by decide) ?_
                    exact J26 _ _ _ _ (((if_neg hc19).trans ((if_neg hc22).trans ((if_neg hc23).trans (if_pos hc24)))).symm) hP hD hS (lv_sub hl [0, 1, 2, 3, 4, 5, 6] rfl)
              · refine lv_iconst (v := 1) hx hb dX8_none_126 (by decide) ?_
                refine lv_goto (tgt := 145) hx hb dX8_none_127 (by decide) ?_
                exact J26 _ _ _ _ (((if_neg hc19).trans (if_pos hc22)).symm) hP hD hS (lv_sub hl [0, 1, 2, 3, 4, 5, 6] rfl)
          have L44 : ∀ (M9 n44 ki : Nat) (z5_44 : Int32) (z6_44 : Int32) (H : Heap) (locs : List Loc) (ls : Array Slot), n44 < M9 → ki + n44 = 4 → (l_X8_none_44 nw fi pa pb pc_ pd (4 + 1) 0 0 0) = (l_X8_none_44 nw fi pa pb pc_ pd (n44 + 1) ki z5_44 z6_44) → va_P D vwCl [(ta, .inr (8, [.ref m_now, .ref m_undone, .ref m_slots, .ref m_slotKind, .ref m_hasSlot, .ref m_sheetBits, .ref m_sheetSize, .ref m_sheets, .int (nI u), .int fi, .ref m_fresh, .long aa, .long bb, .long dd, .int (nI ro), .ref m_rootWhich, .int db, .ref m_signs, .ref m_atNought, .int (nI mn), .ref m_change, .ref m_table, .ref m_carried])), (m_now, .inl (cy 0, 29, .inl nw))] H → va_D A [(ta, .inr (8, [.ref m_now, .ref m_undone, .ref m_slots, .ref m_slotKind, .ref m_hasSlot, .ref m_sheetBits, .ref m_sheetSize, .ref m_sheets, .int (nI u), .int fi, .ref m_fresh, .long aa, .long bb, .long dd, .int (nI ro), .ref m_rootWhich, .int db, .ref m_signs, .ref m_atNought, .int (nI mn), .ref m_change, .ref m_table, .ref m_carried])), (m_now, .inl (cy 0, 29, .inl nw))] → va_S A s.heap H locs → lv_has ls 9 [(0, .ref ta), (1, .int pa), (2, .int pb), (3, .int pc_), (4, .int pd), (5, .int z5_44), (6, .int z6_44), (7, .int (nI ki))] → W p l e R s m args below meth c H locs 0 0 Q (F0 m 44 ls []) := by
            clear hP hD hS hl
            intro M9
            induction M9 with
            | zero => intro n44 ki _ _ _ _ _ hn; exact absurd hn (Nat.not_lt_zero _)
            | succ M9 ih44 =>
              intro n44 ki z5_44 z6_44 H locs ls hn44 hk44 hV44 hP hD hS hl
              refine lv_iload hx hb dX8_none_44 (lv_at hl 7 rfl) ?_
              refine lv_iconst (v := 4) hx hb dX8_none_46 (by decide) ?_
              refine lv_icmp_ge (tgt := 116) hx hb dX8_none_47 (by decide) (fun hc5 => ?_) (fun hc5 => ?_)
              · replace hV44 := hV44.trans (if_pos hc5)
                have hV44 : (l_X8_none_44 nw fi pa pb pc_ pd (4 + 1) 0 0 0) = (z5_44, z6_44) := hV44
                have J18 := J18
                rw [hV44] at J18
                exact J18 _ _ _ hP hD hS (lv_sub hl [0, 1, 2, 3, 4, 5, 6] rfl)
              · replace hV44 := hV44.trans (if_neg hc5)
                have hlt44 : ki < 4 := yk_lt hk44 (by omega) hc5
                refine lv_aload_n hx hb dX8_none_50 rfl (lv_at hl 0 rfl) ?_
                refine lv_iload hx hb dX8_none_51 (lv_at hl 7 rfl) ?_
                refine lv_iconst (v := 2) hx hb dX8_none_53 (by decide) ?_
                refine lv_irem hx hb dX8_none_54 (by decide) ?_
                have J8 : ∀ (v7 : Int32) (H : Heap) (locs : List Loc) (ls : Array Slot), v7 = (if ((nI ki) - (nI ki) / 2 * 2) = 0 then pa else pc_) → va_P D vwCl [(ta, .inr (8, [.ref m_now, .ref m_undone, .ref m_slots, .ref m_slotKind, .ref m_hasSlot, .ref m_sheetBits, .ref m_sheetSize, .ref m_sheets, .int (nI u), .int fi, .ref m_fresh, .long aa, .long bb, .long dd, .int (nI ro), .ref m_rootWhich, .int db, .ref m_signs, .ref m_atNought, .int (nI mn), .ref m_change, .ref m_table, .ref m_carried])), (m_now, .inl (cy 0, 29, .inl nw))] H → va_D A [(ta, .inr (8, [.ref m_now, .ref m_undone, .ref m_slots, .ref m_slotKind, .ref m_hasSlot, .ref m_sheetBits, .ref m_sheetSize, .ref m_sheets, .int (nI u), .int fi, .ref m_fresh, .long aa, .long bb, .long dd, .int (nI ro), .ref m_rootWhich, .int db, .ref m_signs, .ref m_atNought, .int (nI mn), .ref m_change, .ref m_table, .ref m_carried])), (m_now, .inl (cy 0, 29, .inl nw))] → va_S A s.heap H locs → lv_has ls 9 [(0, .ref ta), (1, .int pa), (2, .int pb), (3, .int pc_), (4, .int pd), (5, .int z5_44), (6, .int z6_44), (7, .int (nI ki))] → W p l e R s m args below meth c H locs 0 0 Q (F0 m 63 ls [.int v7, .ref ta]) := by
                  clear hP hD hS hl
                  intro v7 H locs ls ev7
                  rw [ev7]
                  clear ev7
                  intro hP hD hS hl
                  refine lv_iload hx hb dX8_none_63 (lv_at hl 7 rfl) ?_
                  refine lv_iconst (v := 2) hx hb dX8_none_65 (by decide) ?_
                  have J11 : ∀ (v10 : Int32) (H : Heap) (locs : List Loc) (ls : Array Slot), v10 = (if 2 ≤ (nI ki) then pd else pb) → va_P D vwCl [(ta, .inr (8, [.ref m_now, .ref m_undone, .ref m_slots, .ref m_slotKind, .ref m_hasSlot, .ref m_sheetBits, .ref m_sheetSize, .ref m_sheets, .int (nI u), .int fi, .ref m_fresh, .long aa, .long bb, .long dd, .int (nI ro), .ref m_rootWhich, .int db, .ref m_signs, .ref m_atNought, .int (nI mn), .ref m_change, .ref m_table, .ref m_carried])), (m_now, .inl (cy 0, 29, .inl nw))] H → va_D A [(ta, .inr (8, [.ref m_now, .ref m_undone, .ref m_slots, .ref m_slotKind, .ref m_hasSlot, .ref m_sheetBits, .ref m_sheetSize, .ref m_sheets, .int (nI u), .int fi, .ref m_fresh, .long aa, .long bb, .long dd, .int (nI ro), .ref m_rootWhich, .int db, .ref m_signs, .ref m_atNought, .int (nI mn), .ref m_change, .ref m_table, .ref m_carried])), (m_now, .inl (cy 0, 29, .inl nw))] → va_S A s.heap H locs → lv_has ls 9 [(0, .ref ta), (1, .int pa), (2, .int pb), (3, .int pc_), (4, .int pd), (5, .int z5_44), (6, .int z6_44), (7, .int (nI ki))] → W p l e R s m args below meth c H locs 0 0 Q (F0 m 75 ls [.int v10, .int (if ((nI ki) - (nI ki) / 2 * 2) = 0 then pa else pc_), .ref ta]) := by
                    clear hP hD hS hl
                    intro v10 H locs ls ev10
                    rw [ev10]
                    clear ev10
                    intro hP hD hS hl
                    refine yk_i [0, 1] (va_runV (As := [.int (if ((nI ki) - (nI ki) / 2 * 2) = 0 then pa else pc_), .int (if 2 ≤ (nI ki) then pd else pb)]) (rest := []) ⟨hx, hb, hml, hown, hts⟩ (c_X8_spreadAt l D cy ta m_now m_undone m_slots m_slotKind m_hasSlot m_sheetBits m_sheetSize m_sheets m_fresh m_rootWhich m_signs m_atNought m_change m_table m_carried nw u fi aa bb dd ro db mn (if ((nI ki) - (nI ki) / 2 * 2) = 0 then pa else pc_) (if 2 ≤ (nI ki) then pd else pb) H.size) (cwV 2 hts gX8_none_X8_spreadAt rfl rfl rfl hv_X8_spreadAt (yk_room hRf hRl rfl rfl)) (yk_pv (q := (RX8, TX8, 23)) hG hA hS hK hP hD [0, 1] (by decide +kernel) rfl rfl rfl) rfl rfl hl.1 rfl (lv_room (Nat.le_of_ble_eq_true rfl)) dX8_none_75 ⟨Nat.zero_le _, Nat.zero_le _⟩) hP hD hS hA rfl (Eq.trans (b := [ta, m_now]) rfl rfl) (fun H locs hP9 hD9 hS9 => ?_)
                    replace hP : va_P D vwCl [(ta, .inr (8, [.ref m_now, .ref m_undone, .ref m_slots, .ref m_slotKind, .ref m_hasSlot, .ref m_sheetBits, .ref m_sheetSize, .ref m_sheets, .int (nI u), .int fi, .ref m_fresh, .long aa, .long bb, .long dd, .int (nI ro), .ref m_rootWhich, .int db, .ref m_signs, .ref m_atNought, .int (nI mn), .ref m_change, .ref m_table, .ref m_carried])), (m_now, .inl (cy 0, 29, .inl nw))] H := hP9
                    replace hD : va_D A [(ta, .inr (8, [.ref m_now, .ref m_undone, .ref m_slots, .ref m_slotKind, .ref m_hasSlot, .ref m_sheetBits, .ref m_sheetSize, .ref m_sheets, .int (nI u), .int fi, .ref m_fresh, .long aa, .long bb, .long dd, .int (nI ro), .ref m_rootWhich, .int db, .ref m_signs, .ref m_atNought, .int (nI mn), .ref m_change, .ref m_table, .ref m_carried])), (m_now, .inl (cy 0, 29, .inl nw))] := hD9
                    replace hS := hS9
                    clear hP9 hD9 hS9
                    refine lv_istore (lv' := [(8, .int (f_X8_spreadAt nw (if ((nI ki) - (nI ki) / 2 * 2) = 0 then pa else pc_) (if 2 ≤ (nI ki) then pd else pb))), (0, .ref ta), (1, .int pa), (2, .int pb), (3, .int pc_), (4, .int pd), (5, .int z5_44), (6, .int z6_44), (7, .int (nI ki))]) hx hb dX8_none_78 hl (by decide) rfl (fun ls hl9 => ?_)
                    replace hl := hl9
                    clear hl9
                    refine lv_iload hx hb dX8_none_80 (lv_at hl 6 rfl) ?_
                    refine lv_iload hx hb dX8_none_82 (lv_at hl 0 rfl) ?_
                    have J14 : ∀ (v13 : Int32) (H : Heap) (locs : List Loc) (ls : Array Slot), v13 = (if ((f_X8_spreadAt nw (if ((nI ki) - (nI ki) / 2 * 2) = 0 then pa else pc_) (if 2 ≤ (nI ki) then pd else pb)) : Int32) ≤ 0 then 0 else 1) → va_P D vwCl [(ta, .inr (8, [.ref m_now, .ref m_undone, .ref m_slots, .ref m_slotKind, .ref m_hasSlot, .ref m_sheetBits, .ref m_sheetSize, .ref m_sheets, .int (nI u), .int fi, .ref m_fresh, .long aa, .long bb, .long dd, .int (nI ro), .ref m_rootWhich, .int db, .ref m_signs, .ref m_atNought, .int (nI mn), .ref m_change, .ref m_table, .ref m_carried])), (m_now, .inl (cy 0, 29, .inl nw))] H → va_D A [(ta, .inr (8, [.ref m_now, .ref m_undone, .ref m_slots, .ref m_slotKind, .ref m_hasSlot, .ref m_sheetBits, .ref m_sheetSize, .ref m_sheets, .int (nI u), .int fi, .ref m_fresh, .long aa, .long bb, .long dd, .int (nI ro), .ref m_rootWhich, .int db, .ref m_signs, .ref m_atNought, .int (nI mn), .ref m_change, .ref m_table, .ref m_carried])), (m_now, .inl (cy 0, 29, .inl nw))] → va_S A s.heap H locs → lv_has ls 9 [(0, .ref ta), (1, .int pa), (2, .int pb), (3, .int pc_), (4, .int pd), (5, .int z5_44), (6, .int z6_44), (7, .int (nI ki)), (8, .int (f_X8_spreadAt nw (if ((nI ki) - (nI ki) / 2 * 2) = 0 then pa else pc_) (if 2 ≤ (nI ki) then pd else pb)))] → W p l e R s m args below meth c H locs 0 0 Q (F0 m 92 ls [.int v13, .int z5_44]) := by
                      clear hP hD hS hl
                      intro v13 H locs ls ev13
                      rw [ev13]
                      clear ev13
                      intro hP hD hS hl
                      refine lv_iadd hx hb dX8_none_92 ?_
                      refine lv_istore (lv' := [(5, .int (z5_44 + (if ((f_X8_spreadAt nw (if ((nI ki) - (nI ki) / 2 * 2) = 0 then pa else pc_) (if 2 ≤ (nI ki) then pd else pb)) : Int32) ≤ 0 then 0 else 1))), (0, .ref ta), (1, .int pa), (2, .int pb), (3, .int pc_), (4, .int pd), (6, .int z6_44), (7, .int (nI ki)), (8, .int (f_X8_spreadAt nw (if ((nI ki) - (nI ki) / 2 * 2) = 0 then pa else pc_) (if 2 ≤ (nI ki) then pd else pb)))]) hx hb dX8_none_93 hl (by decide) rfl (fun ls hl9 => ?_)
                      replace hl := hl9
                      clear hl9
                      refine lv_iload hx hb dX8_none_95 (lv_at hl 6 rfl) ?_
                      refine lv_iload hx hb dX8_none_97 (lv_at hl 8 rfl) ?_
                      have J17 : ∀ (v16 : Int32) (H : Heap) (locs : List Loc) (ls : Array Slot), v16 = (if 0 ≤ ((f_X8_spreadAt nw (if ((nI ki) - (nI ki) / 2 * 2) = 0 then pa else pc_) (if 2 ≤ (nI ki) then pd else pb)) : Int32) then 0 else 1) → va_P D vwCl [(ta, .inr (8, [.ref m_now, .ref m_undone, .ref m_slots, .ref m_slotKind, .ref m_hasSlot, .ref m_sheetBits, .ref m_sheetSize, .ref m_sheets, .int (nI u), .int fi, .ref m_fresh, .long aa, .long bb, .long dd, .int (nI ro), .ref m_rootWhich, .int db, .ref m_signs, .ref m_atNought, .int (nI mn), .ref m_change, .ref m_table, .ref m_carried])), (m_now, .inl (cy 0, 29, .inl nw))] H → va_D A [(ta, .inr (8, [.ref m_now, .ref m_undone, .ref m_slots, .ref m_slotKind, .ref m_hasSlot, .ref m_sheetBits, .ref m_sheetSize, .ref m_sheets, .int (nI u), .int fi, .ref m_fresh, .long aa, .long bb, .long dd, .int (nI ro), .ref m_rootWhich, .int db, .ref m_signs, .ref m_atNought, .int (nI mn), .ref m_change, .ref m_table, .ref m_carried])), (m_now, .inl (cy 0, 29, .inl nw))] → va_S A s.heap H locs → lv_has ls 9 [(0, .ref ta), (1, .int pa), (2, .int pb), (3, .int pc_), (4, .int pd), (5, .int (z5_44 + (if ((f_X8_spreadAt nw (if ((nI ki) - (nI ki) / 2 * 2) = 0 then pa else pc_) (if 2 ≤ (nI ki) then pd else pb)) : Int32) ≤ 0 then 0 else 1))), (6, .int z6_44), (7, .int (nI ki)), (8, .int (f_X8_spreadAt nw (if ((nI ki) - (nI ki) / 2 * 2) = 0 then pa else pc_) (if 2 ≤ (nI ki) then pd else pb)))] → W p l e R s m args below meth c H locs 0 0 Q (F0 m 107 ls [.int v16, .int z6_44]) := by
                        clear hP hD hS hl
                        intro v16 H locs ls ev16
                        rw [ev16]
                        clear ev16
                        intro hP hD hS hl
                        refine lv_iadd hx hb dX8_none_107 ?_
                        refine lv_istore (lv' := [(6, .int (z6_44 + (if 0 ≤ ((f_X8_spreadAt nw (if ((nI ki) - (nI ki) / 2 * 2) = 0 then pa else pc_) (if 2 ≤ (nI ki) then pd else pb)) : Int32) then 0 else 1))), (0, .ref ta), (1, .int pa), (2, .int pb), (3, .int pc_), (4, .int pd), (5, .int (z5_44 + (if ((f_X8_spreadAt nw (if ((nI ki) - (nI ki) / 2 * 2) = 0 then pa else pc_) (if 2 ≤ (nI ki) then pd else pb)) : Int32) ≤ 0 then 0 else 1))), (7, .int (nI ki)), (8, .int (f_X8_spreadAt nw (if ((nI ki) - (nI ki) / 2 * 2) = 0 then pa else pc_) (if 2 ≤ (nI ki) then pd else pb)))]) hx hb dX8_none_108 hl (by decide) rfl (fun ls hl9 => ?_)
                        replace hl := hl9
                        clear hl9
                        refine lv_iinc (v := nI (ki + 1)) (lv' := [(7, .int (nI (ki + 1))), (6, .int (z6_44 + (if 0 ≤ ((f_X8_spreadAt nw (if ((nI ki) - (nI ki) / 2 * 2) = 0 then pa else pc_) (if 2 ≤ (nI ki) then pd else pb)) : Int32) then 0 else 1))), (0, .ref ta), (1, .int pa), (2, .int pb), (3, .int pc_), (4, .int pd), (5, .int (z5_44 + (if ((f_X8_spreadAt nw (if ((nI ki) - (nI ki) / 2 * 2) = 0 then pa else pc_) (if 2 ≤ (nI ki) then pd else pb)) : Int32) ≤ 0 then 0 else 1))), (8, .int (f_X8_spreadAt nw (if ((nI ki) - (nI ki) / 2 * 2) = 0 then pa else pc_) (if 2 ≤ (nI ki) then pd else pb)))]) hx hb dX8_none_110 hl (k := 7) rfl (yk_inc ki) (by decide) rfl (fun ls hl9 => ?_)
                        replace hl := hl9
                        clear hl9
                        refine lv_goto (tgt := 44) hx hb dX8_none_113 (by decide) ?_
                        obtain ⟨n9, rfl⟩ : ∃ n9, n44 = n9 + 1 := ⟨n44 - 1, by omega⟩
                        exact ih44 n9 (ki + 1) (z5_44 + (if ((f_X8_spreadAt nw (if ((nI ki) - (nI ki) / 2 * 2) = 0 then pa else pc_) (if 2 ≤ (nI ki) then pd else pb)) : Int32) ≤ 0 then 0 else 1)) (z6_44 + (if 0 ≤ ((f_X8_spreadAt nw (if ((nI ki) - (nI ki) / 2 * 2) = 0 then pa else pc_) (if 2 ≤ (nI ki) then pd else pb)) : Int32) then 0 else 1)) _ _ _ (by omega) (by omega)  hV44 hP hD hS (lv_sub hl [2, 3, 4, 5, 6, 7, 1, 0] rfl)
                      refine lv_if_ge (tgt := 106) hx hb dX8_none_99 (by decide) (fun hc15 => ?_) (fun hc15 => ?_)
                      · refine lv_iconst (v := 0) hx hb dX8_none_106 (by decide) ?_
                        exact J17 _ _ _ _ ((if_pos hc15).symm) hP hD hS (lv_sub hl [1, 2, 3, 4, 5, 0, 6, 7, 8] rfl)
                      · refine lv_iconst (v := 1) hx hb dX8_none_102 (by decide) ?_
                        refine lv_goto (tgt := 107) hx hb dX8_none_103 (by decide) ?_
                        exact J17 _ _ _ _ ((if_neg hc15).symm) hP hD hS (lv_sub hl [1, 2, 3, 4, 5, 0, 6, 7, 8] rfl)
                    refine lv_if_le (tgt := 91) hx hb dX8_none_84 (by decide) (fun hc12 => ?_) (fun hc12 => ?_)
                    · refine lv_iconst (v := 0) hx hb dX8_none_91 (by decide) ?_
                      exact J14 _ _ _ _ ((if_pos hc12).symm) hP hD hS (lv_sub hl [1, 2, 3, 4, 5, 6, 7, 8, 0] rfl)
                    · refine lv_iconst (v := 1) hx hb dX8_none_87 (by decide) ?_
                      refine lv_goto (tgt := 92) hx hb dX8_none_88 (by decide) ?_
                      exact J14 _ _ _ _ ((if_neg hc12).symm) hP hD hS (lv_sub hl [1, 2, 3, 4, 5, 6, 7, 8, 0] rfl)
                  refine lv_icmp_ge (tgt := 73) hx hb dX8_none_66 (by decide) (fun hc9 => ?_) (fun hc9 => ?_)
                  · refine lv_iload hx hb dX8_none_73 (lv_at hl 4 rfl) ?_
                    exact J11 _ _ _ _ ((if_pos hc9).symm) hP hD hS (lv_sub hl [0, 1, 2, 3, 4, 5, 6, 7] rfl)
                  · refine lv_iload_n hx hb dX8_none_69 rfl (lv_at hl 2 rfl) ?_
                    refine lv_goto (tgt := 75) hx hb dX8_none_70 (by decide) ?_
                    exact J11 _ _ _ _ ((if_neg hc9).symm) hP hD hS (lv_sub hl [0, 1, 2, 3, 4, 5, 6, 7] rfl)
                refine lv_if_ne (tgt := 62) hx hb dX8_none_55 (by decide) (fun hc6 => ?_) (fun hc6 => ?_)
                · refine lv_iload_n hx hb dX8_none_62 rfl (lv_at hl 3 rfl) ?_
                  exact J8 _ _ _ _ ((if_neg hc6).symm) hP hD hS (lv_sub hl [0, 1, 2, 3, 4, 5, 6, 7] rfl)
                · refine lv_iload_n hx hb dX8_none_58 rfl (lv_at hl 1 rfl) ?_
                  refine lv_goto (tgt := 63) hx hb dX8_none_59 (by decide) ?_
                  exact J8 _ _ _ _ ((if_pos hc6).symm) hP hD hS (lv_sub hl [0, 1, 2, 3, 4, 5, 6, 7] rfl)
          exact L44 (4 + 1) 4 0 0 0 _ _ _ (Nat.lt_succ_self _) (by omega)  rfl hP hD hS (lv_sub hl [3, 4, 5, 6, 7, 2, 1, 0] rfl)
        · replace hF := hF.trans (if_neg hc4)
          refine lv_aload_n hx hb dX8_none_28 rfl (lv_at hl 0 rfl) ?_
          refine lv_ldc (v := (-1000001)) hx hb hown (hts _ kX8_none_0) dX8_none_29 ?_
          refine yk_i [0] (va_runV (As := [.int (-1000001)]) (rest := []) ⟨hx, hb, hml, hown, hts⟩ (c_X8_found l D cy ta m_now m_undone m_slots m_slotKind m_hasSlot m_sheetBits m_sheetSize m_sheets m_fresh m_rootWhich m_signs m_atNought m_change m_table m_carried u fi aa bb dd ro db mn (-1000001) H.size) (cwV 1 hts gX8_none_X8_found rfl rfl rfl hv_X8_found (yk_room hRf hRl rfl rfl)) (yk_pv (q := (RX8, TX8, 23)) hG hA hS hK hP hD [0] (by decide +kernel) rfl rfl rfl) rfl rfl hl.1 rfl (lv_room (Nat.le_of_ble_eq_true rfl)) dX8_none_31 ⟨Nat.zero_le _, Nat.zero_le _⟩) hP hD hS hA rfl (Eq.trans (b := [ta]) rfl rfl) (fun H locs hP9 hD9 hS9 => ?_)
          replace hP : va_P D vwCl [(ta, .inr (8, [.ref m_now, .ref m_undone, .ref m_slots, .ref m_slotKind, .ref m_hasSlot, .ref m_sheetBits, .ref m_sheetSize, .ref m_sheets, .int (nI u), .int ((f_X8_found fi (-1000001)).2), .ref m_fresh, .long aa, .long bb, .long dd, .int (nI ro), .ref m_rootWhich, .int db, .ref m_signs, .ref m_atNought, .int (nI mn), .ref m_change, .ref m_table, .ref m_carried])), (m_now, .inl (cy 0, 29, .inl nw))] H := hP9
          replace hD : va_D A [(ta, .inr (8, [.ref m_now, .ref m_undone, .ref m_slots, .ref m_slotKind, .ref m_hasSlot, .ref m_sheetBits, .ref m_sheetSize, .ref m_sheets, .int (nI u), .int ((f_X8_found fi (-1000001)).2), .ref m_fresh, .long aa, .long bb, .long dd, .int (nI ro), .ref m_rootWhich, .int db, .ref m_signs, .ref m_atNought, .int (nI mn), .ref m_change, .ref m_table, .ref m_carried])), (m_now, .inl (cy 0, 29, .inl nw))] := hD9
          replace hS := hS9
          clear hP9 hD9 hS9
          have hF : f_X8_none nw fi pa pb pc_ pd = (((f_X8_found fi (-1000001)).1), ((f_X8_found fi (-1000001)).2)) := hF
          have hf0 := yk_fst hF
          have hg0 := yk_snd hF
          rw [hf0, hg0] at hQ
          exact hQ _ _ _ _ dX8_none_34 hP hS

def f_X8_form (nw : Nat → Int32) (px : Int32) : Int64 := (if px = 0 then ((f_X8_get nw 1 3)).toInt64 else (if px = 1 then (((f_X8_get nw 1 4) - (f_X8_get nw 0 3))).toInt64 else (if px = 2 then (((f_X8_get nw 1 5) - (f_X8_get nw 0 4))).toInt64 else ((-(f_X8_get nw 0 5))).toInt64)))
set_option maxHeartbeats 400000000 in
set_option maxRecDepth 100000 in
theorem c_X8_form (l : Launch) (D : va_G) (cy : Nat → ClassId) (ta : Nat) (m_now : Nat) (m_undone : Nat) (m_slots : Nat) (m_slotKind : Nat) (m_hasSlot : Nat) (m_sheetBits : Nat) (m_sheetSize : Nat) (m_sheets : Nat) (m_fresh : Nat) (m_rootWhich : Nat) (m_signs : Nat) (m_atNought : Nat) (m_change : Nat) (m_table : Nat) (m_carried : Nat) (nw : Nat → Int32) (u : Nat) (fi : Int32) (aa : Int64) (bb : Int64) (dd : Int64) (ro : Nat) (db : Int32) (mn : Nat) (px : Int32) : yk_Cl l D vwCl (yk_ty cy) yX8_form wsX8_form 1 22 [.ref ta, .int px] [(ta, .inr (8, [.ref m_now, .ref m_undone, .ref m_slots, .ref m_slotKind, .ref m_hasSlot, .ref m_sheetBits, .ref m_sheetSize, .ref m_sheets, .int (nI u), .int fi, .ref m_fresh, .long aa, .long bb, .long dd, .int (nI ro), .ref m_rootWhich, .int db, .ref m_signs, .ref m_atNought, .int (nI mn), .ref m_change, .ref m_table, .ref m_carried])), (m_now, .inl (cy 0, 29, .inl nw))] (f_X8_form nw px) [(ta, .inr (8, [.ref m_now, .ref m_undone, .ref m_slots, .ref m_slotKind, .ref m_hasSlot, .ref m_sheetBits, .ref m_sheetSize, .ref m_sheets, .int (nI u), .int fi, .ref m_fresh, .long aa, .long bb, .long dd, .int (nI ro), .ref m_rootWhich, .int db, .ref m_signs, .ref m_atNought, .int (nI mn), .ref m_change, .ref m_table, .ref m_carried])), (m_now, .inl (cy 0, 29, .inl nw))] := by
  refine yk_eL (cc := cX8_form) (maxL := 2) (by decide) rfl (Nat.le_of_ble_eq_true rfl) ?_
  intro p e R s m args below meth c A Q ls H locs hx hb hml hown hts hRf hRl hA hK hG hP hD hS hl hQ
  have hP : va_P D vwCl [(ta, .inr (8, [.ref m_now, .ref m_undone, .ref m_slots, .ref m_slotKind, .ref m_hasSlot, .ref m_sheetBits, .ref m_sheetSize, .ref m_sheets, .int (nI u), .int fi, .ref m_fresh, .long aa, .long bb, .long dd, .int (nI ro), .ref m_rootWhich, .int db, .ref m_signs, .ref m_atNought, .int (nI mn), .ref m_change, .ref m_table, .ref m_carried])), (m_now, .inl (cy 0, 29, .inl nw))] H := hP
  have hl : lv_has ls 2 [(0, .ref ta), (1, .int px)] := hl
  have hown : s.vm.findClass RX8 = some m.cls := hown
  have hF : (f_X8_form nw px) = (f_X8_form nw px) := rfl
  refine lv_iload_n hx hb dX8_form_0 rfl (lv_at hl 1 rfl) ?_
  have J5 : ∀ (v4 : Int64) (H : Heap) (locs : List Loc) (ls : Array Slot), v4 = (if px = 0 then ((f_X8_get nw 1 3)).toInt64 else (if px = 1 then (((f_X8_get nw 1 4) - (f_X8_get nw 0 3))).toInt64 else (if px = 2 then (((f_X8_get nw 1 5) - (f_X8_get nw 0 4))).toInt64 else ((-(f_X8_get nw 0 5))).toInt64))) → va_P D vwCl [(ta, .inr (8, [.ref m_now, .ref m_undone, .ref m_slots, .ref m_slotKind, .ref m_hasSlot, .ref m_sheetBits, .ref m_sheetSize, .ref m_sheets, .int (nI u), .int fi, .ref m_fresh, .long aa, .long bb, .long dd, .int (nI ro), .ref m_rootWhich, .int db, .ref m_signs, .ref m_atNought, .int (nI mn), .ref m_change, .ref m_table, .ref m_carried])), (m_now, .inl (cy 0, 29, .inl nw))] H → va_D A [(ta, .inr (8, [.ref m_now, .ref m_undone, .ref m_slots, .ref m_slotKind, .ref m_hasSlot, .ref m_sheetBits, .ref m_sheetSize, .ref m_sheets, .int (nI u), .int fi, .ref m_fresh, .long aa, .long bb, .long dd, .int (nI ro), .ref m_rootWhich, .int db, .ref m_signs, .ref m_atNought, .int (nI mn), .ref m_change, .ref m_table, .ref m_carried])), (m_now, .inl (cy 0, 29, .inl nw))] → va_S A s.heap H locs → lv_has ls 2 [(0, .ref ta), (1, .int px)] → W p l e R s m args below meth c H locs 0 0 Q (F0 m 66 ls [.long v4]) := by
    clear hP hD hS hl
    intro v4 H locs ls ev4
    rw [ev4]
    clear ev4
    intro hP hD hS hl
    have hF : f_X8_form nw px = (if px = 0 then ((f_X8_get nw 1 3)).toInt64 else (if px = 1 then (((f_X8_get nw 1 4) - (f_X8_get nw 0 3))).toInt64 else (if px = 2 then (((f_X8_get nw 1 5) - (f_X8_get nw 0 4))).toInt64 else ((-(f_X8_get nw 0 5))).toInt64))) := hF
    rw [hF] at hQ
    exact hQ _ _ _ _ dX8_form_66 hP hS
  refine lv_if_ne (tgt := 14) hx hb dX8_form_1 (by decide) (fun hc1 => ?_) (fun hc1 => ?_)
  · refine lv_iload_n hx hb dX8_form_14 rfl (lv_at hl 1 rfl) ?_
    refine lv_iconst (v := 1) hx hb dX8_form_15 (by decide) ?_
    refine lv_icmp_ne (tgt := 36) hx hb dX8_form_16 (by decide) (fun hc2 => ?_) (fun hc2 => ?_)
    · refine lv_iload_n hx hb dX8_form_36 rfl (lv_at hl 1 rfl) ?_
      refine lv_iconst (v := 2) hx hb dX8_form_37 (by decide) ?_
      refine lv_icmp_ne (tgt := 58) hx hb dX8_form_38 (by decide) (fun hc3 => ?_) (fun hc3 => ?_)
      · refine lv_aload_n hx hb dX8_form_58 rfl (lv_at hl 0 rfl) ?_
        refine lv_iconst (v := 0) hx hb dX8_form_59 (by decide) ?_
        refine lv_iconst (v := 5) hx hb dX8_form_60 (by decide) ?_
        refine yk_i [0, 1] (va_runV (As := [.int 0, .int 5]) (rest := []) ⟨hx, hb, hml, hown, hts⟩ (c_X8_get l D cy ta m_now m_undone m_slots m_slotKind m_hasSlot m_sheetBits m_sheetSize m_sheets m_fresh m_rootWhich m_signs m_atNought m_change m_table m_carried nw u fi aa bb dd ro db mn 0 5 (by omega) H.size) (cwV 2 hts gX8_form_X8_get rfl rfl rfl hv_X8_get (yk_room hRf hRl rfl rfl)) (yk_pv (q := (RX8, TX8, 23)) hG hA hS hK hP hD [0, 1] (by decide +kernel) rfl rfl rfl) rfl rfl hl.1 rfl (lv_room (Nat.le_of_ble_eq_true rfl)) dX8_form_61 ⟨Nat.zero_le _, Nat.zero_le _⟩) hP hD hS hA rfl (Eq.trans (b := [ta, m_now]) rfl rfl) (fun H locs hP9 hD9 hS9 => ?_)
        replace hP : va_P D vwCl [(ta, .inr (8, [.ref m_now, .ref m_undone, .ref m_slots, .ref m_slotKind, .ref m_hasSlot, .ref m_sheetBits, .ref m_sheetSize, .ref m_sheets, .int (nI u), .int fi, .ref m_fresh, .long aa, .long bb, .long dd, .int (nI ro), .ref m_rootWhich, .int db, .ref m_signs, .ref m_atNought, .int (nI mn), .ref m_change, .ref m_table, .ref m_carried])), (m_now, .inl (cy 0, 29, .inl nw))] H := hP9
        replace hD : va_D A [(ta, .inr (8, [.ref m_now, .ref m_undone, .ref m_slots, .ref m_slotKind, .ref m_hasSlot, .ref m_sheetBits, .ref m_sheetSize, .ref m_sheets, .int (nI u), .int fi, .ref m_fresh, .long aa, .long bb, .long dd, .int (nI ro), .ref m_rootWhich, .int db, .ref m_signs, .ref m_atNought, .int (nI mn), .ref m_change, .ref m_table, .ref m_carried])), (m_now, .inl (cy 0, 29, .inl nw))] := hD9
        replace hS := hS9
        clear hP9 hD9 hS9
        refine lv_ineg hx hb dX8_form_64 ?_
        refine lv_i2l hx hb dX8_form_65 rfl ?_
        exact J5 _ _ _ _ (((if_neg hc1).trans ((if_neg hc2).trans (if_neg hc3))).symm) hP hD hS (lv_sub hl [0, 1] rfl)
      · refine lv_aload_n hx hb dX8_form_41 rfl (lv_at hl 0 rfl) ?_
        refine lv_iconst (v := 1) hx hb dX8_form_42 (by decide) ?_
        refine lv_iconst (v := 5) hx hb dX8_form_43 (by decide) ?_
        refine yk_i [0, 1] (va_runV (As := [.int 1, .int 5]) (rest := []) ⟨hx, hb, hml, hown, hts⟩ (c_X8_get l D cy ta m_now m_undone m_slots m_slotKind m_hasSlot m_sheetBits m_sheetSize m_sheets m_fresh m_rootWhich m_signs m_atNought m_change m_table m_carried nw u fi aa bb dd ro db mn 1 5 (by omega) H.size) (cwV 2 hts gX8_form_X8_get rfl rfl rfl hv_X8_get (yk_room hRf hRl rfl rfl)) (yk_pv (q := (RX8, TX8, 23)) hG hA hS hK hP hD [0, 1] (by decide +kernel) rfl rfl rfl) rfl rfl hl.1 rfl (lv_room (Nat.le_of_ble_eq_true rfl)) dX8_form_44 ⟨Nat.zero_le _, Nat.zero_le _⟩) hP hD hS hA rfl (Eq.trans (b := [ta, m_now]) rfl rfl) (fun H locs hP9 hD9 hS9 => ?_)
        replace hP : va_P D vwCl [(ta, .inr (8, [.ref m_now, .ref m_undone, .ref m_slots, .ref m_slotKind, .ref m_hasSlot, .ref m_sheetBits, .ref m_sheetSize, .ref m_sheets, .int (nI u), .int fi, .ref m_fresh, .long aa, .long bb, .long dd, .int (nI ro), .ref m_rootWhich, .int db, .ref m_signs, .ref m_atNought, .int (nI mn), .ref m_change, .ref m_table, .ref m_carried])), (m_now, .inl (cy 0, 29, .inl nw))] H := hP9
        replace hD : va_D A [(ta, .inr (8, [.ref m_now, .ref m_undone, .ref m_slots, .ref m_slotKind, .ref m_hasSlot, .ref m_sheetBits, .ref m_sheetSize, .ref m_sheets, .int (nI u), .int fi, .ref m_fresh, .long aa, .long bb, .long dd, .int (nI ro), .ref m_rootWhich, .int db, .ref m_signs, .ref m_atNought, .int (nI mn), .ref m_change, .ref m_table, .ref m_carried])), (m_now, .inl (cy 0, 29, .inl nw))] := hD9
        replace hS := hS9
        clear hP9 hD9 hS9
        refine lv_aload_n hx hb dX8_form_47 rfl (lv_at hl 0 rfl) ?_
        refine lv_iconst (v := 0) hx hb dX8_form_48 (by decide) ?_
        refine lv_iconst (v := 4) hx hb dX8_form_49 (by decide) ?_
        refine yk_i [0, 1] (va_runV (As := [.int 0, .int 4]) (rest := [.int (f_X8_get nw 1 5)]) ⟨hx, hb, hml, hown, hts⟩ (c_X8_get l D cy ta m_now m_undone m_slots m_slotKind m_hasSlot m_sheetBits m_sheetSize m_sheets m_fresh m_rootWhich m_signs m_atNought m_change m_table m_carried nw u fi aa bb dd ro db mn 0 4 (by omega) H.size) (cwV 2 hts gX8_form_X8_get rfl rfl rfl hv_X8_get (yk_room hRf hRl rfl rfl)) (yk_pv (q := (RX8, TX8, 23)) hG hA hS hK hP hD [0, 1] (by decide +kernel) rfl rfl rfl) rfl rfl hl.1 rfl (lv_room (Nat.le_of_ble_eq_true rfl)) dX8_form_50 ⟨Nat.zero_le _, Nat.zero_le _⟩) hP hD hS hA rfl (Eq.trans (b := [ta, m_now]) rfl rfl) (fun H locs hP9 hD9 hS9 => ?_)
        replace hP : va_P D vwCl [(ta, .inr (8, [.ref m_now, .ref m_undone, .ref m_slots, .ref m_slotKind, .ref m_hasSlot, .ref m_sheetBits, .ref m_sheetSize, .ref m_sheets, .int (nI u), .int fi, .ref m_fresh, .long aa, .long bb, .long dd, .int (nI ro), .ref m_rootWhich, .int db, .ref m_signs, .ref m_atNought, .int (nI mn), .ref m_change, .ref m_table, .ref m_carried])), (m_now, .inl (cy 0, 29, .inl nw))] H := hP9
        replace hD : va_D A [(ta, .inr (8, [.ref m_now, .ref m_undone, .ref m_slots, .ref m_slotKind, .ref m_hasSlot, .ref m_sheetBits, .ref m_sheetSize, .ref m_sheets, .int (nI u), .int fi, .ref m_fresh, .long aa, .long bb, .long dd, .int (nI ro), .ref m_rootWhich, .int db, .ref m_signs, .ref m_atNought, .int (nI mn), .ref m_change, .ref m_table, .ref m_carried])), (m_now, .inl (cy 0, 29, .inl nw))] := hD9
        replace hS := hS9
        clear hP9 hD9 hS9
        refine lv_isub hx hb dX8_form_53 ?_
        refine lv_i2l hx hb dX8_form_54 rfl ?_
        refine lv_goto (tgt := 66) hx hb dX8_form_55 (by decide) ?_
        exact J5 _ _ _ _ (((if_neg hc1).trans ((if_neg hc2).trans (if_pos hc3))).symm) hP hD hS (lv_sub hl [0, 1] rfl)
    · refine lv_aload_n hx hb dX8_form_19 rfl (lv_at hl 0 rfl) ?_
      refine lv_iconst (v := 1) hx hb dX8_form_20 (by decide) ?_
      refine lv_iconst (v := 4) hx hb dX8_form_21 (by decide) ?_
      refine yk_i [0, 1] (va_runV (As := [.int 1, .int 4]) (rest := []) ⟨hx, hb, hml, hown, hts⟩ (c_X8_get l D cy ta m_now m_undone m_slots m_slotKind m_hasSlot m_sheetBits m_sheetSize m_sheets m_fresh m_rootWhich m_signs m_atNought m_change m_table m_carried nw u fi aa bb dd ro db mn 1 4 (by omega) H.size) (cwV 2 hts gX8_form_X8_get rfl rfl rfl hv_X8_get (yk_room hRf hRl rfl rfl)) (yk_pv (q := (RX8, TX8, 23)) hG hA hS hK hP hD [0, 1] (by decide +kernel) rfl rfl rfl) rfl rfl hl.1 rfl (lv_room (Nat.le_of_ble_eq_true rfl)) dX8_form_22 ⟨Nat.zero_le _, Nat.zero_le _⟩) hP hD hS hA rfl (Eq.trans (b := [ta, m_now]) rfl rfl) (fun H locs hP9 hD9 hS9 => ?_)
      replace hP : va_P D vwCl [(ta, .inr (8, [.ref m_now, .ref m_undone, .ref m_slots, .ref m_slotKind, .ref m_hasSlot, .ref m_sheetBits, .ref m_sheetSize, .ref m_sheets, .int (nI u), .int fi, .ref m_fresh, .long aa, .long bb, .long dd, .int (nI ro), .ref m_rootWhich, .int db, .ref m_signs, .ref m_atNought, .int (nI mn), .ref m_change, .ref m_table, .ref m_carried])), (m_now, .inl (cy 0, 29, .inl nw))] H := hP9
      replace hD : va_D A [(ta, .inr (8, [.ref m_now, .ref m_undone, .ref m_slots, .ref m_slotKind, .ref m_hasSlot, .ref m_sheetBits, .ref m_sheetSize, .ref m_sheets, .int (nI u), .int fi, .ref m_fresh, .long aa, .long bb, .long dd, .int (nI ro), .ref m_rootWhich, .int db, .ref m_signs, .ref m_atNought, .int (nI mn), .ref m_change, .ref m_table, .ref m_carried])), (m_now, .inl (cy 0, 29, .inl nw))] := hD9
      replace hS := hS9
      clear hP9 hD9 hS9
      refine lv_aload_n hx hb dX8_form_25 rfl (lv_at hl 0 rfl) ?_
      refine lv_iconst (v := 0) hx hb dX8_form_26 (by decide) ?_
      refine lv_iconst (v := 3) hx hb dX8_form_27 (by decide) ?_
      refine yk_i [0, 1] (va_runV (As := [.int 0, .int 3]) (rest := [.int (f_X8_get nw 1 4)]) ⟨hx, hb, hml, hown, hts⟩ (c_X8_get l D cy ta m_now m_undone m_slots m_slotKind m_hasSlot m_sheetBits m_sheetSize m_sheets m_fresh m_rootWhich m_signs m_atNought m_change m_table m_carried nw u fi aa bb dd ro db mn 0 3 (by omega) H.size) (cwV 2 hts gX8_form_X8_get rfl rfl rfl hv_X8_get (yk_room hRf hRl rfl rfl)) (yk_pv (q := (RX8, TX8, 23)) hG hA hS hK hP hD [0, 1] (by decide +kernel) rfl rfl rfl) rfl rfl hl.1 rfl (lv_room (Nat.le_of_ble_eq_true rfl)) dX8_form_28 ⟨Nat.zero_le _, Nat.zero_le _⟩) hP hD hS hA rfl (Eq.trans (b := [ta, m_now]) rfl rfl) (fun H locs hP9 hD9 hS9 => ?_)
      replace hP : va_P D vwCl [(ta, .inr (8, [.ref m_now, .ref m_undone, .ref m_slots, .ref m_slotKind, .ref m_hasSlot, .ref m_sheetBits, .ref m_sheetSize, .ref m_sheets, .int (nI u), .int fi, .ref m_fresh, .long aa, .long bb, .long dd, .int (nI ro), .ref m_rootWhich, .int db, .ref m_signs, .ref m_atNought, .int (nI mn), .ref m_change, .ref m_table, .ref m_carried])), (m_now, .inl (cy 0, 29, .inl nw))] H := hP9
      replace hD : va_D A [(ta, .inr (8, [.ref m_now, .ref m_undone, .ref m_slots, .ref m_slotKind, .ref m_hasSlot, .ref m_sheetBits, .ref m_sheetSize, .ref m_sheets, .int (nI u), .int fi, .ref m_fresh, .long aa, .long bb, .long dd, .int (nI ro), .ref m_rootWhich, .int db, .ref m_signs, .ref m_atNought, .int (nI mn), .ref m_change, .ref m_table, .ref m_carried])), (m_now, .inl (cy 0, 29, .inl nw))] := hD9
      replace hS := hS9
      clear hP9 hD9 hS9
      refine lv_isub hx hb dX8_form_31 ?_
      refine lv_i2l hx hb dX8_form_32 rfl ?_
      refine lv_goto (tgt := 66) hx hb dX8_form_33 (by decide) ?_
      exact J5 _ _ _ _ (((if_neg hc1).trans (if_pos hc2)).symm) hP hD hS (lv_sub hl [0, 1] rfl)
  · refine lv_aload_n hx hb dX8_form_4 rfl (lv_at hl 0 rfl) ?_
    refine lv_iconst (v := 1) hx hb dX8_form_5 (by decide) ?_
    refine lv_iconst (v := 3) hx hb dX8_form_6 (by decide) ?_
    refine yk_i [0, 1] (va_runV (As := [.int 1, .int 3]) (rest := []) ⟨hx, hb, hml, hown, hts⟩ (c_X8_get l D cy ta m_now m_undone m_slots m_slotKind m_hasSlot m_sheetBits m_sheetSize m_sheets m_fresh m_rootWhich m_signs m_atNought m_change m_table m_carried nw u fi aa bb dd ro db mn 1 3 (by omega) H.size) (cwV 2 hts gX8_form_X8_get rfl rfl rfl hv_X8_get (yk_room hRf hRl rfl rfl)) (yk_pv (q := (RX8, TX8, 23)) hG hA hS hK hP hD [0, 1] (by decide +kernel) rfl rfl rfl) rfl rfl hl.1 rfl (lv_room (Nat.le_of_ble_eq_true rfl)) dX8_form_7 ⟨Nat.zero_le _, Nat.zero_le _⟩) hP hD hS hA rfl (Eq.trans (b := [ta, m_now]) rfl rfl) (fun H locs hP9 hD9 hS9 => ?_)
    replace hP : va_P D vwCl [(ta, .inr (8, [.ref m_now, .ref m_undone, .ref m_slots, .ref m_slotKind, .ref m_hasSlot, .ref m_sheetBits, .ref m_sheetSize, .ref m_sheets, .int (nI u), .int fi, .ref m_fresh, .long aa, .long bb, .long dd, .int (nI ro), .ref m_rootWhich, .int db, .ref m_signs, .ref m_atNought, .int (nI mn), .ref m_change, .ref m_table, .ref m_carried])), (m_now, .inl (cy 0, 29, .inl nw))] H := hP9
    replace hD : va_D A [(ta, .inr (8, [.ref m_now, .ref m_undone, .ref m_slots, .ref m_slotKind, .ref m_hasSlot, .ref m_sheetBits, .ref m_sheetSize, .ref m_sheets, .int (nI u), .int fi, .ref m_fresh, .long aa, .long bb, .long dd, .int (nI ro), .ref m_rootWhich, .int db, .ref m_signs, .ref m_atNought, .int (nI mn), .ref m_change, .ref m_table, .ref m_carried])), (m_now, .inl (cy 0, 29, .inl nw))] := hD9
    replace hS := hS9
    clear hP9 hD9 hS9
    refine lv_i2l hx hb dX8_form_10 rfl ?_
    refine lv_goto (tgt := 66) hx hb dX8_form_11 (by decide) ?_
    exact J5 _ _ _ _ ((if_pos hc1).symm) hP hD hS (lv_sub hl [0, 1] rfl)

theorem kX8_edge_0 : Cond.constantLong RX8 231 18 ∈ wsX8_edge := by decide +kernel
theorem kX8_edge_1 : Cond.constantLong RX8 168 4 ∈ wsX8_edge := by decide +kernel
theorem kX8_edge_2 : Cond.constantLong RX8 233 27 ∈ wsX8_edge := by decide +kernel
theorem kX8_edge_3 : Cond.constantLong RX8 235 3 ∈ wsX8_edge := by decide +kernel
theorem kX8_edge_4 : Cond.constantLong RX8 237 9 ∈ wsX8_edge := by decide +kernel
def f_X8_edge (nw : Nat → Int32) : Int32 := (if (lg_cmp (f_X8_form nw 0) 0) = 0 then (if (lg_cmp (f_X8_form nw 1) 0) = 0 then (if (lg_cmp (f_X8_form nw 2) 0) = 0 then (if (lg_cmp (f_X8_form nw 3) 0) = 0 then 4 else (if (lg_cmp ((((((((18 * (f_X8_form nw 0)) * (f_X8_form nw 1)) * (f_X8_form nw 2)) * (f_X8_form nw 3)) - ((((4 * (f_X8_form nw 1)) * (f_X8_form nw 1)) * (f_X8_form nw 1)) * (f_X8_form nw 3))) + ((((f_X8_form nw 1) * (f_X8_form nw 1)) * (f_X8_form nw 2)) * (f_X8_form nw 2))) - ((((4 * (f_X8_form nw 0)) * (f_X8_form nw 2)) * (f_X8_form nw 2)) * (f_X8_form nw 2))) - ((((27 * (f_X8_form nw 0)) * (f_X8_form nw 0)) * (f_X8_form nw 3)) * (f_X8_form nw 3))) 0) = 0 then (if (lg_cmp ((f_X8_form nw 1) * (f_X8_form nw 1)) ((3 * (f_X8_form nw 0)) * (f_X8_form nw 2))) = 0 then (if (lg_cmp ((f_X8_form nw 1) * (f_X8_form nw 2)) ((9 * (f_X8_form nw 0)) * (f_X8_form nw 3))) = 0 then (if (lg_cmp ((f_X8_form nw 2) * (f_X8_form nw 2)) ((3 * (f_X8_form nw 1)) * (f_X8_form nw 3))) = 0 then 1 else 2) else 2) else 2) else (if (lg_cmp ((((((((18 * (f_X8_form nw 0)) * (f_X8_form nw 1)) * (f_X8_form nw 2)) * (f_X8_form nw 3)) - ((((4 * (f_X8_form nw 1)) * (f_X8_form nw 1)) * (f_X8_form nw 1)) * (f_X8_form nw 3))) + ((((f_X8_form nw 1) * (f_X8_form nw 1)) * (f_X8_form nw 2)) * (f_X8_form nw 2))) - ((((4 * (f_X8_form nw 0)) * (f_X8_form nw 2)) * (f_X8_form nw 2)) * (f_X8_form nw 2))) - ((((27 * (f_X8_form nw 0)) * (f_X8_form nw 0)) * (f_X8_form nw 3)) * (f_X8_form nw 3))) 0) ≤ 0 then 1 else 3))) else (if (lg_cmp ((((((((18 * (f_X8_form nw 0)) * (f_X8_form nw 1)) * (f_X8_form nw 2)) * (f_X8_form nw 3)) - ((((4 * (f_X8_form nw 1)) * (f_X8_form nw 1)) * (f_X8_form nw 1)) * (f_X8_form nw 3))) + ((((f_X8_form nw 1) * (f_X8_form nw 1)) * (f_X8_form nw 2)) * (f_X8_form nw 2))) - ((((4 * (f_X8_form nw 0)) * (f_X8_form nw 2)) * (f_X8_form nw 2)) * (f_X8_form nw 2))) - ((((27 * (f_X8_form nw 0)) * (f_X8_form nw 0)) * (f_X8_form nw 3)) * (f_X8_form nw 3))) 0) = 0 then (if (lg_cmp ((f_X8_form nw 1) * (f_X8_form nw 1)) ((3 * (f_X8_form nw 0)) * (f_X8_form nw 2))) = 0 then (if (lg_cmp ((f_X8_form nw 1) * (f_X8_form nw 2)) ((9 * (f_X8_form nw 0)) * (f_X8_form nw 3))) = 0 then (if (lg_cmp ((f_X8_form nw 2) * (f_X8_form nw 2)) ((3 * (f_X8_form nw 1)) * (f_X8_form nw 3))) = 0 then 1 else 2) else 2) else 2) else (if (lg_cmp ((((((((18 * (f_X8_form nw 0)) * (f_X8_form nw 1)) * (f_X8_form nw 2)) * (f_X8_form nw 3)) - ((((4 * (f_X8_form nw 1)) * (f_X8_form nw 1)) * (f_X8_form nw 1)) * (f_X8_form nw 3))) + ((((f_X8_form nw 1) * (f_X8_form nw 1)) * (f_X8_form nw 2)) * (f_X8_form nw 2))) - ((((4 * (f_X8_form nw 0)) * (f_X8_form nw 2)) * (f_X8_form nw 2)) * (f_X8_form nw 2))) - ((((27 * (f_X8_form nw 0)) * (f_X8_form nw 0)) * (f_X8_form nw 3)) * (f_X8_form nw 3))) 0) ≤ 0 then 1 else 3))) else (if (lg_cmp ((((((((18 * (f_X8_form nw 0)) * (f_X8_form nw 1)) * (f_X8_form nw 2)) * (f_X8_form nw 3)) - ((((4 * (f_X8_form nw 1)) * (f_X8_form nw 1)) * (f_X8_form nw 1)) * (f_X8_form nw 3))) + ((((f_X8_form nw 1) * (f_X8_form nw 1)) * (f_X8_form nw 2)) * (f_X8_form nw 2))) - ((((4 * (f_X8_form nw 0)) * (f_X8_form nw 2)) * (f_X8_form nw 2)) * (f_X8_form nw 2))) - ((((27 * (f_X8_form nw 0)) * (f_X8_form nw 0)) * (f_X8_form nw 3)) * (f_X8_form nw 3))) 0) = 0 then (if (lg_cmp ((f_X8_form nw 1) * (f_X8_form nw 1)) ((3 * (f_X8_form nw 0)) * (f_X8_form nw 2))) = 0 then (if (lg_cmp ((f_X8_form nw 1) * (f_X8_form nw 2)) ((9 * (f_X8_form nw 0)) * (f_X8_form nw 3))) = 0 then (if (lg_cmp ((f_X8_form nw 2) * (f_X8_form nw 2)) ((3 * (f_X8_form nw 1)) * (f_X8_form nw 3))) = 0 then 1 else 2) else 2) else 2) else (if (lg_cmp ((((((((18 * (f_X8_form nw 0)) * (f_X8_form nw 1)) * (f_X8_form nw 2)) * (f_X8_form nw 3)) - ((((4 * (f_X8_form nw 1)) * (f_X8_form nw 1)) * (f_X8_form nw 1)) * (f_X8_form nw 3))) + ((((f_X8_form nw 1) * (f_X8_form nw 1)) * (f_X8_form nw 2)) * (f_X8_form nw 2))) - ((((4 * (f_X8_form nw 0)) * (f_X8_form nw 2)) * (f_X8_form nw 2)) * (f_X8_form nw 2))) - ((((27 * (f_X8_form nw 0)) * (f_X8_form nw 0)) * (f_X8_form nw 3)) * (f_X8_form nw 3))) 0) ≤ 0 then 1 else 3))) else (if (lg_cmp ((((((((18 * (f_X8_form nw 0)) * (f_X8_form nw 1)) * (f_X8_form nw 2)) * (f_X8_form nw 3)) - ((((4 * (f_X8_form nw 1)) * (f_X8_form nw 1)) * (f_X8_form nw 1)) * (f_X8_form nw 3))) + ((((f_X8_form nw 1) * (f_X8_form nw 1)) * (f_X8_form nw 2)) * (f_X8_form nw 2))) - ((((4 * (f_X8_form nw 0)) * (f_X8_form nw 2)) * (f_X8_form nw 2)) * (f_X8_form nw 2))) - ((((27 * (f_X8_form nw 0)) * (f_X8_form nw 0)) * (f_X8_form nw 3)) * (f_X8_form nw 3))) 0) = 0 then (if (lg_cmp ((f_X8_form nw 1) * (f_X8_form nw 1)) ((3 * (f_X8_form nw 0)) * (f_X8_form nw 2))) = 0 then (if (lg_cmp ((f_X8_form nw 1) * (f_X8_form nw 2)) ((9 * (f_X8_form nw 0)) * (f_X8_form nw 3))) = 0 then (if (lg_cmp ((f_X8_form nw 2) * (f_X8_form nw 2)) ((3 * (f_X8_form nw 1)) * (f_X8_form nw 3))) = 0 then 1 else 2) else 2) else 2) else (if (lg_cmp ((((((((18 * (f_X8_form nw 0)) * (f_X8_form nw 1)) * (f_X8_form nw 2)) * (f_X8_form nw 3)) - ((((4 * (f_X8_form nw 1)) * (f_X8_form nw 1)) * (f_X8_form nw 1)) * (f_X8_form nw 3))) + ((((f_X8_form nw 1) * (f_X8_form nw 1)) * (f_X8_form nw 2)) * (f_X8_form nw 2))) - ((((4 * (f_X8_form nw 0)) * (f_X8_form nw 2)) * (f_X8_form nw 2)) * (f_X8_form nw 2))) - ((((27 * (f_X8_form nw 0)) * (f_X8_form nw 0)) * (f_X8_form nw 3)) * (f_X8_form nw 3))) 0) ≤ 0 then 1 else 3)))
set_option maxHeartbeats 400000000 in
set_option maxRecDepth 100000 in
theorem c_X8_edge (l : Launch) (D : va_G) (cy : Nat → ClassId) (ta : Nat) (m_now : Nat) (m_undone : Nat) (m_slots : Nat) (m_slotKind : Nat) (m_hasSlot : Nat) (m_sheetBits : Nat) (m_sheetSize : Nat) (m_sheets : Nat) (m_fresh : Nat) (m_rootWhich : Nat) (m_signs : Nat) (m_atNought : Nat) (m_change : Nat) (m_table : Nat) (m_carried : Nat) (nw : Nat → Int32) (u : Nat) (fi : Int32) (aa : Int64) (bb : Int64) (dd : Int64) (ro : Nat) (db : Int32) (mn : Nat) : yk_Ci l D vwCl (yk_ty cy) yX8_edge wsX8_edge 2 43 [.ref ta] [(ta, .inr (8, [.ref m_now, .ref m_undone, .ref m_slots, .ref m_slotKind, .ref m_hasSlot, .ref m_sheetBits, .ref m_sheetSize, .ref m_sheets, .int (nI u), .int fi, .ref m_fresh, .long aa, .long bb, .long dd, .int (nI ro), .ref m_rootWhich, .int db, .ref m_signs, .ref m_atNought, .int (nI mn), .ref m_change, .ref m_table, .ref m_carried])), (m_now, .inl (cy 0, 29, .inl nw))] (f_X8_edge nw) [(ta, .inr (8, [.ref m_now, .ref m_undone, .ref m_slots, .ref m_slotKind, .ref m_hasSlot, .ref m_sheetBits, .ref m_sheetSize, .ref m_sheets, .int (nI u), .int fi, .ref m_fresh, .long aa, .long bb, .long dd, .int (nI ro), .ref m_rootWhich, .int db, .ref m_signs, .ref m_atNought, .int (nI mn), .ref m_change, .ref m_table, .ref m_carried])), (m_now, .inl (cy 0, 29, .inl nw))] := by
  refine yk_eI (cc := cX8_edge) (maxL := 11) (by decide) rfl (Nat.le_of_ble_eq_true rfl) rfl ?_
  intro p e R s m args below meth c A Q ls H locs hx hb hml hown hts hRf hRl hA hK hG hP hD hS hl hQ
  have hP : va_P D vwCl [(ta, .inr (8, [.ref m_now, .ref m_undone, .ref m_slots, .ref m_slotKind, .ref m_hasSlot, .ref m_sheetBits, .ref m_sheetSize, .ref m_sheets, .int (nI u), .int fi, .ref m_fresh, .long aa, .long bb, .long dd, .int (nI ro), .ref m_rootWhich, .int db, .ref m_signs, .ref m_atNought, .int (nI mn), .ref m_change, .ref m_table, .ref m_carried])), (m_now, .inl (cy 0, 29, .inl nw))] H := hP
  have hl : lv_has ls 11 [(0, .ref ta)] := hl
  have hown : s.vm.findClass RX8 = some m.cls := hown
  have hF : (f_X8_edge nw) = (f_X8_edge nw) := rfl
  refine lv_aload_n hx hb dX8_edge_0 rfl (lv_at hl 0 rfl) ?_
  refine lv_iconst (v := 0) hx hb dX8_edge_1 (by decide) ?_
  refine yk_l [0, 1] (va_runV (As := [.int 0]) (rest := []) ⟨hx, hb, hml, hown, hts⟩ (c_X8_form l D cy ta m_now m_undone m_slots m_slotKind m_hasSlot m_sheetBits m_sheetSize m_sheets m_fresh m_rootWhich m_signs m_atNought m_change m_table m_carried nw u fi aa bb dd ro db mn 0 H.size) (cwV 1 hts gX8_edge_X8_form rfl rfl rfl hv_X8_form (yk_room hRf hRl rfl rfl)) (yk_pv (q := (RX8, TX8, 23)) hG hA hS hK hP hD [0, 1] (by decide +kernel) rfl rfl rfl) rfl rfl hl.1 rfl (lv_room (Nat.le_of_ble_eq_true rfl)) dX8_edge_2 ⟨Nat.zero_le _, Nat.zero_le _⟩) hP hD hS hA rfl (Eq.trans (b := [ta, m_now]) rfl rfl) (fun H locs hP9 hD9 hS9 => ?_)
  replace hP : va_P D vwCl [(ta, .inr (8, [.ref m_now, .ref m_undone, .ref m_slots, .ref m_slotKind, .ref m_hasSlot, .ref m_sheetBits, .ref m_sheetSize, .ref m_sheets, .int (nI u), .int fi, .ref m_fresh, .long aa, .long bb, .long dd, .int (nI ro), .ref m_rootWhich, .int db, .ref m_signs, .ref m_atNought, .int (nI mn), .ref m_change, .ref m_table, .ref m_carried])), (m_now, .inl (cy 0, 29, .inl nw))] H := hP9
  replace hD : va_D A [(ta, .inr (8, [.ref m_now, .ref m_undone, .ref m_slots, .ref m_slotKind, .ref m_hasSlot, .ref m_sheetBits, .ref m_sheetSize, .ref m_sheets, .int (nI u), .int fi, .ref m_fresh, .long aa, .long bb, .long dd, .int (nI ro), .ref m_rootWhich, .int db, .ref m_signs, .ref m_atNought, .int (nI mn), .ref m_change, .ref m_table, .ref m_carried])), (m_now, .inl (cy 0, 29, .inl nw))] := hD9
  replace hS := hS9
  clear hP9 hD9 hS9
  refine lv_lstore_n (lv' := [(1, .long (f_X8_form nw 0)), (0, .ref ta)]) hx hb dX8_edge_5 rfl hl (by decide) rfl (fun ls hl9 => ?_)
  replace hl := hl9
  clear hl9
  refine lv_aload_n hx hb dX8_edge_6 rfl (lv_at hl 1 rfl) ?_
  refine lv_iconst (v := 1) hx hb dX8_edge_7 (by decide) ?_
  refine yk_l [0, 1] (va_runV (As := [.int 1]) (rest := []) ⟨hx, hb, hml, hown, hts⟩ (c_X8_form l D cy ta m_now m_undone m_slots m_slotKind m_hasSlot m_sheetBits m_sheetSize m_sheets m_fresh m_rootWhich m_signs m_atNought m_change m_table m_carried nw u fi aa bb dd ro db mn 1 H.size) (cwV 1 hts gX8_edge_X8_form rfl rfl rfl hv_X8_form (yk_room hRf hRl rfl rfl)) (yk_pv (q := (RX8, TX8, 23)) hG hA hS hK hP hD [0, 1] (by decide +kernel) rfl rfl rfl) rfl rfl hl.1 rfl (lv_room (Nat.le_of_ble_eq_true rfl)) dX8_edge_8 ⟨Nat.zero_le _, Nat.zero_le _⟩) hP hD hS hA rfl (Eq.trans (b := [ta, m_now]) rfl rfl) (fun H locs hP9 hD9 hS9 => ?_)
  replace hP : va_P D vwCl [(ta, .inr (8, [.ref m_now, .ref m_undone, .ref m_slots, .ref m_slotKind, .ref m_hasSlot, .ref m_sheetBits, .ref m_sheetSize, .ref m_sheets, .int (nI u), .int fi, .ref m_fresh, .long aa, .long bb, .long dd, .int (nI ro), .ref m_rootWhich, .int db, .ref m_signs, .ref m_atNought, .int (nI mn), .ref m_change, .ref m_table, .ref m_carried])), (m_now, .inl (cy 0, 29, .inl nw))] H := hP9
  replace hD : va_D A [(ta, .inr (8, [.ref m_now, .ref m_undone, .ref m_slots, .ref m_slotKind, .ref m_hasSlot, .ref m_sheetBits, .ref m_sheetSize, .ref m_sheets, .int (nI u), .int fi, .ref m_fresh, .long aa, .long bb, .long dd, .int (nI ro), .ref m_rootWhich, .int db, .ref m_signs, .ref m_atNought, .int (nI mn), .ref m_change, .ref m_table, .ref m_carried])), (m_now, .inl (cy 0, 29, .inl nw))] := hD9
  replace hS := hS9
  clear hP9 hD9 hS9
  refine lv_lstore_n (lv' := [(3, .long (f_X8_form nw 1)), (1, .long (f_X8_form nw 0)), (0, .ref ta)]) hx hb dX8_edge_11 rfl hl (by decide) rfl (fun ls hl9 => ?_)
  replace hl := hl9
  clear hl9
  refine lv_aload_n hx hb dX8_edge_12 rfl (lv_at hl 2 rfl) ?_
  refine lv_iconst (v := 2) hx hb dX8_edge_13 (by decide) ?_
  refine yk_l [0, 1] (va_runV (As := [.int 2]) (rest := []) ⟨hx, hb, hml, hown, hts⟩ (c_X8_form l D cy ta m_now m_undone m_slots m_slotKind m_hasSlot m_sheetBits m_sheetSize m_sheets m_fresh m_rootWhich m_signs m_atNought m_change m_table m_carried nw u fi aa bb dd ro db mn 2 H.size) (cwV 1 hts gX8_edge_X8_form rfl rfl rfl hv_X8_form (yk_room hRf hRl rfl rfl)) (yk_pv (q := (RX8, TX8, 23)) hG hA hS hK hP hD [0, 1] (by decide +kernel) rfl rfl rfl) rfl rfl hl.1 rfl (lv_room (Nat.le_of_ble_eq_true rfl)) dX8_edge_14 ⟨Nat.zero_le _, Nat.zero_le _⟩) hP hD hS hA rfl (Eq.trans (b := [ta, m_now]) rfl rfl) (fun H locs hP9 hD9 hS9 => ?_)
  replace hP : va_P D vwCl [(ta, .inr (8, [.ref m_now, .ref m_undone, .ref m_slots, .ref m_slotKind, .ref m_hasSlot, .ref m_sheetBits, .ref m_sheetSize, .ref m_sheets, .int (nI u), .int fi, .ref m_fresh, .long aa, .long bb, .long dd, .int (nI ro), .ref m_rootWhich, .int db, .ref m_signs, .ref m_atNought, .int (nI mn), .ref m_change, .ref m_table, .ref m_carried])), (m_now, .inl (cy 0, 29, .inl nw))] H := hP9
  replace hD : va_D A [(ta, .inr (8, [.ref m_now, .ref m_undone, .ref m_slots, .ref m_slotKind, .ref m_hasSlot, .ref m_sheetBits, .ref m_sheetSize, .ref m_sheets, .int (nI u), .int fi, .ref m_fresh, .long aa, .long bb, .long dd, .int (nI ro), .ref m_rootWhich, .int db, .ref m_signs, .ref m_atNought, .int (nI mn), .ref m_change, .ref m_table, .ref m_carried])), (m_now, .inl (cy 0, 29, .inl nw))] := hD9
  replace hS := hS9
  clear hP9 hD9 hS9
  refine lv_lstore (lv' := [(5, .long (f_X8_form nw 2)), (3, .long (f_X8_form nw 1)), (1, .long (f_X8_form nw 0)), (0, .ref ta)]) hx hb dX8_edge_17 hl (by decide) rfl (fun ls hl9 => ?_)
  replace hl := hl9
  clear hl9
  refine lv_aload_n hx hb dX8_edge_19 rfl (lv_at hl 3 rfl) ?_
  refine lv_iconst (v := 3) hx hb dX8_edge_20 (by decide) ?_
  refine yk_l [0, 1] (va_runV (As := [.int 3]) (rest := []) ⟨hx, hb, hml, hown, hts⟩ (c_X8_form l D cy ta m_now m_undone m_slots m_slotKind m_hasSlot m_sheetBits m_sheetSize m_sheets m_fresh m_rootWhich m_signs m_atNought m_change m_table m_carried nw u fi aa bb dd ro db mn 3 H.size) (cwV 1 hts gX8_edge_X8_form rfl rfl rfl hv_X8_form (yk_room hRf hRl rfl rfl)) (yk_pv (q := (RX8, TX8, 23)) hG hA hS hK hP hD [0, 1] (by decide +kernel) rfl rfl rfl) rfl rfl hl.1 rfl (lv_room (Nat.le_of_ble_eq_true rfl)) dX8_edge_21 ⟨Nat.zero_le _, Nat.zero_le _⟩) hP hD hS hA rfl (Eq.trans (b := [ta, m_now]) rfl rfl) (fun H locs hP9 hD9 hS9 => ?_)
  replace hP : va_P D vwCl [(ta, .inr (8, [.ref m_now, .ref m_undone, .ref m_slots, .ref m_slotKind, .ref m_hasSlot, .ref m_sheetBits, .ref m_sheetSize, .ref m_sheets, .int (nI u), .int fi, .ref m_fresh, .long aa, .long bb, .long dd, .int (nI ro), .ref m_rootWhich, .int db, .ref m_signs, .ref m_atNought, .int (nI mn), .ref m_change, .ref m_table, .ref m_carried])), (m_now, .inl (cy 0, 29, .inl nw))] H := hP9
  replace hD : va_D A [(ta, .inr (8, [.ref m_now, .ref m_undone, .ref m_slots, .ref m_slotKind, .ref m_hasSlot, .ref m_sheetBits, .ref m_sheetSize, .ref m_sheets, .int (nI u), .int fi, .ref m_fresh, .long aa, .long bb, .long dd, .int (nI ro), .ref m_rootWhich, .int db, .ref m_signs, .ref m_atNought, .int (nI mn), .ref m_change, .ref m_table, .ref m_carried])), (m_now, .inl (cy 0, 29, .inl nw))] := hD9
  replace hS := hS9
  clear hP9 hD9 hS9
  refine lv_lstore (lv' := [(7, .long (f_X8_form nw 3)), (5, .long (f_X8_form nw 2)), (3, .long (f_X8_form nw 1)), (1, .long (f_X8_form nw 0)), (0, .ref ta)]) hx hb dX8_edge_24 hl (by decide) rfl (fun ls hl9 => ?_)
  replace hl := hl9
  clear hl9
  refine lv_lload_n hx hb dX8_edge_26 rfl (lv_at hl 3 rfl) ?_
  refine lv_lconst (v := 0) hx hb dX8_edge_27 (by decide) ?_
  refine W.lcmp hx hb dX8_edge_28 ?_
  refine lv_if_ne (tgt := 54) hx hb dX8_edge_29 (by decide) (fun hc1 => ?_) (fun hc1 => ?_)
  · replace hF := hF.trans (if_neg hc1)
    refine lv_ldc2 (v := 18) hx hb hown (hts _ kX8_edge_0) dX8_edge_54 ?_
    refine lv_lload_n hx hb dX8_edge_57 rfl (lv_at hl 3 rfl) ?_
    refine lv_lmul hx hb dX8_edge_58 ?_
    refine lv_lload_n hx hb dX8_edge_59 rfl (lv_at hl 2 rfl) ?_
    refine lv_lmul hx hb dX8_edge_60 ?_
    refine lv_lload hx hb dX8_edge_61 (lv_at hl 1 rfl) ?_
    refine lv_lmul hx hb dX8_edge_63 ?_
    refine lv_lload hx hb dX8_edge_64 (lv_at hl 0 rfl) ?_
    refine lv_lmul hx hb dX8_edge_66 ?_
    refine lv_ldc2 (v := 4) hx hb hown (hts _ kX8_edge_1) dX8_edge_67 ?_
    refine lv_lload_n hx hb dX8_edge_70 rfl (lv_at hl 2 rfl) ?_
    refine lv_lmul hx hb dX8_edge_71 ?_
    refine lv_lload_n hx hb dX8_edge_72 rfl (lv_at hl 2 rfl) ?_
    refine lv_lmul hx hb dX8_edge_73 ?_
    refine lv_lload_n hx hb dX8_edge_74 rfl (lv_at hl 2 rfl) ?_
    refine lv_lmul hx hb dX8_edge_75 ?_
    refine lv_lload hx hb dX8_edge_76 (lv_at hl 0 rfl) ?_
    refine lv_lmul hx hb dX8_edge_78 ?_
    refine lv_lsub hx hb dX8_edge_79 ?_
    refine lv_lload_n hx hb dX8_edge_80 rfl (lv_at hl 2 rfl) ?_
    refine lv_lload_n hx hb dX8_edge_81 rfl (lv_at hl 2 rfl) ?_
    refine lv_lmul hx hb dX8_edge_82 ?_
    refine lv_lload hx hb dX8_edge_83 (lv_at hl 1 rfl) ?_
    refine lv_lmul hx hb dX8_edge_85 ?_
    refine lv_lload hx hb dX8_edge_86 (lv_at hl 1 rfl) ?_
    refine lv_lmul hx hb dX8_edge_88 ?_
    refine lv_ladd hx hb dX8_edge_89 ?_
    refine lv_ldc2 (v := 4) hx hb hown (hts _ kX8_edge_1) dX8_edge_90 ?_
    refine lv_lload_n hx hb dX8_edge_93 rfl (lv_at hl 3 rfl) ?_
    refine lv_lmul hx hb dX8_edge_94 ?_
    refine lv_lload hx hb dX8_edge_95 (lv_at hl 1 rfl) ?_
    refine lv_lmul hx hb dX8_edge_97 ?_
    refine lv_lload hx hb dX8_edge_98 (lv_at hl 1 rfl) ?_
    refine lv_lmul hx hb dX8_edge_100 ?_
    refine lv_lload hx hb dX8_edge_101 (lv_at hl 1 rfl) ?_
    refine lv_lmul hx hb dX8_edge_103 ?_
    refine lv_lsub hx hb dX8_edge_104 ?_
    refine lv_ldc2 (v := 27) hx hb hown (hts _ kX8_edge_2) dX8_edge_105 ?_
    refine lv_lload_n hx hb dX8_edge_108 rfl (lv_at hl 3 rfl) ?_
    refine lv_lmul hx hb dX8_edge_109 ?_
    refine lv_lload_n hx hb dX8_edge_110 rfl (lv_at hl 3 rfl) ?_
    refine lv_lmul hx hb dX8_edge_111 ?_
    refine lv_lload hx hb dX8_edge_112 (lv_at hl 0 rfl) ?_
    refine lv_lmul hx hb dX8_edge_114 ?_
    refine lv_lload hx hb dX8_edge_115 (lv_at hl 0 rfl) ?_
    refine lv_lmul hx hb dX8_edge_117 ?_
    refine lv_lsub hx hb dX8_edge_118 ?_
    refine lv_lstore (lv' := [(9, .long ((((((((18 * (f_X8_form nw 0)) * (f_X8_form nw 1)) * (f_X8_form nw 2)) * (f_X8_form nw 3)) - ((((4 * (f_X8_form nw 1)) * (f_X8_form nw 1)) * (f_X8_form nw 1)) * (f_X8_form nw 3))) + ((((f_X8_form nw 1) * (f_X8_form nw 1)) * (f_X8_form nw 2)) * (f_X8_form nw 2))) - ((((4 * (f_X8_form nw 0)) * (f_X8_form nw 2)) * (f_X8_form nw 2)) * (f_X8_form nw 2))) - ((((27 * (f_X8_form nw 0)) * (f_X8_form nw 0)) * (f_X8_form nw 3)) * (f_X8_form nw 3)))), (7, .long (f_X8_form nw 3)), (5, .long (f_X8_form nw 2)), (3, .long (f_X8_form nw 1)), (1, .long (f_X8_form nw 0)), (0, .ref ta)]) hx hb dX8_edge_119 hl (by decide) rfl (fun ls hl9 => ?_)
    replace hl := hl9
    clear hl9
    refine lv_lload hx hb dX8_edge_121 (lv_at hl 0 rfl) ?_
    refine lv_lconst (v := 0) hx hb dX8_edge_123 (by decide) ?_
    refine W.lcmp hx hb dX8_edge_124 ?_
    refine lv_if_eq (tgt := 141) hx hb dX8_edge_125 (by decide) (fun hc2 => ?_) (fun hc2 => ?_)
    · replace hF := hF.trans (if_pos hc2)
      refine lv_lload_n hx hb dX8_edge_141 rfl (lv_at hl 3 rfl) ?_
      refine lv_lload_n hx hb dX8_edge_142 rfl (lv_at hl 3 rfl) ?_
      refine lv_lmul hx hb dX8_edge_143 ?_
      refine lv_ldc2 (v := 3) hx hb hown (hts _ kX8_edge_3) dX8_edge_144 ?_
      refine lv_lload_n hx hb dX8_edge_147 rfl (lv_at hl 4 rfl) ?_
      refine lv_lmul hx hb dX8_edge_148 ?_
      refine lv_lload hx hb dX8_edge_149 (lv_at hl 2 rfl) ?_
      refine lv_lmul hx hb dX8_edge_151 ?_
      refine W.lcmp hx hb dX8_edge_152 ?_
      have J7 : ∀ (v6 : Int32) (H : Heap) (locs : List Loc) (ls : Array Slot), v6 = (if (lg_cmp ((f_X8_form nw 1) * (f_X8_form nw 1)) ((3 * (f_X8_form nw 0)) * (f_X8_form nw 2))) = 0 then (if (lg_cmp ((f_X8_form nw 1) * (f_X8_form nw 2)) ((9 * (f_X8_form nw 0)) * (f_X8_form nw 3))) = 0 then (if (lg_cmp ((f_X8_form nw 2) * (f_X8_form nw 2)) ((3 * (f_X8_form nw 1)) * (f_X8_form nw 3))) = 0 then 1 else 2) else 2) else 2) → va_P D vwCl [(ta, .inr (8, [.ref m_now, .ref m_undone, .ref m_slots, .ref m_slotKind, .ref m_hasSlot, .ref m_sheetBits, .ref m_sheetSize, .ref m_sheets, .int (nI u), .int fi, .ref m_fresh, .long aa, .long bb, .long dd, .int (nI ro), .ref m_rootWhich, .int db, .ref m_signs, .ref m_atNought, .int (nI mn), .ref m_change, .ref m_table, .ref m_carried])), (m_now, .inl (cy 0, 29, .inl nw))] H → va_D A [(ta, .inr (8, [.ref m_now, .ref m_undone, .ref m_slots, .ref m_slotKind, .ref m_hasSlot, .ref m_sheetBits, .ref m_sheetSize, .ref m_sheets, .int (nI u), .int fi, .ref m_fresh, .long aa, .long bb, .long dd, .int (nI ro), .ref m_rootWhich, .int db, .ref m_signs, .ref m_atNought, .int (nI mn), .ref m_change, .ref m_table, .ref m_carried])), (m_now, .inl (cy 0, 29, .inl nw))] → va_S A s.heap H locs → lv_has ls 11 [(0, .ref ta), (1, .long (f_X8_form nw 0)), (3, .long (f_X8_form nw 1)), (5, .long (f_X8_form nw 2)), (7, .long (f_X8_form nw 3)), (9, .long ((((((((18 * (f_X8_form nw 0)) * (f_X8_form nw 1)) * (f_X8_form nw 2)) * (f_X8_form nw 3)) - ((((4 * (f_X8_form nw 1)) * (f_X8_form nw 1)) * (f_X8_form nw 1)) * (f_X8_form nw 3))) + ((((f_X8_form nw 1) * (f_X8_form nw 1)) * (f_X8_form nw 2)) * (f_X8_form nw 2))) - ((((4 * (f_X8_form nw 0)) * (f_X8_form nw 2)) * (f_X8_form nw 2)) * (f_X8_form nw 2))) - ((((27 * (f_X8_form nw 0)) * (f_X8_form nw 0)) * (f_X8_form nw 3)) * (f_X8_form nw 3))))] → W p l e R s m args below meth c H locs 0 0 Q (F0 m 194 ls [.int v6]) := by
        clear hP hD hS hl
        intro v6 H locs ls ev6
        rw [ev6]
        clear ev6
        intro hP hD hS hl
        have hF : f_X8_edge nw = (if (lg_cmp ((f_X8_form nw 1) * (f_X8_form nw 1)) ((3 * (f_X8_form nw 0)) * (f_X8_form nw 2))) = 0 then (if (lg_cmp ((f_X8_form nw 1) * (f_X8_form nw 2)) ((9 * (f_X8_form nw 0)) * (f_X8_form nw 3))) = 0 then (if (lg_cmp ((f_X8_form nw 2) * (f_X8_form nw 2)) ((3 * (f_X8_form nw 1)) * (f_X8_form nw 3))) = 0 then 1 else 2) else 2) else 2) := hF
        rw [hF] at hQ
        exact hQ _ _ _ _ dX8_edge_194 hP hS
      refine lv_if_ne (tgt := 193) hx hb dX8_edge_153 (by decide) (fun hc3 => ?_) (fun hc3 => ?_)
      · refine lv_iconst (v := 2) hx hb dX8_edge_193 (by decide) ?_
        exact J7 _ _ _ _ ((if_neg hc3).symm) hP hD hS (lv_sub hl [5, 4, 3, 2, 1, 0] rfl)
      · refine lv_lload_n hx hb dX8_edge_156 rfl (lv_at hl 3 rfl) ?_
        refine lv_lload hx hb dX8_edge_157 (lv_at hl 2 rfl) ?_
        refine lv_lmul hx hb dX8_edge_159 ?_
        refine lv_ldc2 (v := 9) hx hb hown (hts _ kX8_edge_4) dX8_edge_160 ?_
        refine lv_lload_n hx hb dX8_edge_163 rfl (lv_at hl 4 rfl) ?_
        refine lv_lmul hx hb dX8_edge_164 ?_
        refine lv_lload hx hb dX8_edge_165 (lv_at hl 1 rfl) ?_
        refine lv_lmul hx hb dX8_edge_167 ?_
        refine W.lcmp hx hb dX8_edge_168 ?_
        refine lv_if_ne (tgt := 193) hx hb dX8_edge_169 (by decide) (fun hc4 => ?_) (fun hc4 => ?_)
        · refine lv_iconst (v := 2) hx hb dX8_edge_193 (by decide) ?_
          exact J7 _ _ _ _ (((if_pos hc3).trans (if_neg hc4)).symm) hP hD hS (lv_sub hl [5, 4, 3, 2, 1, 0] rfl)
        · refine lv_lload hx hb dX8_edge_172 (lv_at hl 2 rfl) ?_
          refine lv_lload hx hb dX8_edge_174 (lv_at hl 2 rfl) ?_
          refine lv_lmul hx hb dX8_edge_176 ?_
          refine lv_ldc2 (v := 3) hx hb hown (hts _ kX8_edge_3) dX8_edge_177 ?_
          refine lv_lload_n hx hb dX8_edge_180 rfl (lv_at hl 3 rfl) ?_
          refine lv_lmul hx hb dX8_edge_181 ?_
          refine lv_lload hx hb dX8_edge_182 (lv_at hl 1 rfl) ?_
          refine lv_lmul hx hb dX8_edge_184 ?_
          refine W.lcmp hx hb dX8_edge_185 ?_
          refine lv_if_ne (tgt := 193) hx hb dX8_edge_186 (by decide) (fun hc5 => ?_) (fun hc5 => ?_)
          · refine lv_iconst (v := 2) hx hb dX8_edge_193 (by decide) ?_
            exact J7 _ _ _ _ (((if_pos hc3).trans ((if_pos hc4).trans (if_neg hc5))).symm) hP hD hS (lv_sub hl [5, 4, 3, 2, 1, 0] rfl)
          · refine lv_iconst (v := 1) hx hb dX8_edge_189 (by decide) ?_
            refine lv_goto (tgt := 194) hx hb dX8_edge_190 (by decide) ?_
            exact J7 _ _ _ _ (((if_pos hc3).trans ((if_pos hc4).trans (if_pos hc5))).symm) hP hD hS (lv_sub hl [5, 4, 3, 2, 1, 0] rfl)
    · replace hF := hF.trans (if_neg hc2)
      refine lv_lload hx hb dX8_edge_128 (lv_at hl 0 rfl) ?_
      refine lv_lconst (v := 0) hx hb dX8_edge_130 (by decide) ?_
      refine W.lcmp hx hb dX8_edge_131 ?_
      have J10 : ∀ (v9 : Int32) (H : Heap) (locs : List Loc) (ls : Array Slot), v9 = (if (lg_cmp ((((((((18 * (f_X8_form nw 0)) * (f_X8_form nw 1)) * (f_X8_form nw 2)) * (f_X8_form nw 3)) - ((((4 * (f_X8_form nw 1)) * (f_X8_form nw 1)) * (f_X8_form nw 1)) * (f_X8_form nw 3))) + ((((f_X8_form nw 1) * (f_X8_form nw 1)) * (f_X8_form nw 2)) * (f_X8_form nw 2))) - ((((4 * (f_X8_form nw 0)) * (f_X8_form nw 2)) * (f_X8_form nw 2)) * (f_X8_form nw 2))) - ((((27 * (f_X8_form nw 0)) * (f_X8_form nw 0)) * (f_X8_form nw 3)) * (f_X8_form nw 3))) 0) ≤ 0 then 1 else 3) → va_P D vwCl [(ta, .inr (8, [.ref m_now, .ref m_undone, .ref m_slots, .ref m_slotKind, .ref m_hasSlot, .ref m_sheetBits, .ref m_sheetSize, .ref m_sheets, .int (nI u), .int fi, .ref m_fresh, .long aa, .long bb, .long dd, .int (nI ro), .ref m_rootWhich, .int db, .ref m_signs, .ref m_atNought, .int (nI mn), .ref m_change, .ref m_table, .ref m_carried])), (m_now, .inl (cy 0, 29, .inl nw))] H → va_D A [(ta, .inr (8, [.ref m_now, .ref m_undone, .ref m_slots, .ref m_slotKind, .ref m_hasSlot, .ref m_sheetBits, .ref m_sheetSize, .ref m_sheets, .int (nI u), .int fi, .ref m_fresh, .long aa, .long bb, .long dd, .int (nI ro), .ref m_rootWhich, .int db, .ref m_signs, .ref m_atNought, .int (nI mn), .ref m_change, .ref m_table, .ref m_carried])), (m_now, .inl (cy 0, 29, .inl nw))] → va_S A s.heap H locs → lv_has ls 11 [(0, .ref ta), (1, .long (f_X8_form nw 0)), (3, .long (f_X8_form nw 1)), (5, .long (f_X8_form nw 2)), (7, .long (f_X8_form nw 3)), (9, .long ((((((((18 * (f_X8_form nw 0)) * (f_X8_form nw 1)) * (f_X8_form nw 2)) * (f_X8_form nw 3)) - ((((4 * (f_X8_form nw 1)) * (f_X8_form nw 1)) * (f_X8_form nw 1)) * (f_X8_form nw 3))) + ((((f_X8_form nw 1) * (f_X8_form nw 1)) * (f_X8_form nw 2)) * (f_X8_form nw 2))) - ((((4 * (f_X8_form nw 0)) * (f_X8_form nw 2)) * (f_X8_form nw 2)) * (f_X8_form nw 2))) - ((((27 * (f_X8_form nw 0)) * (f_X8_form nw 0)) * (f_X8_form nw 3)) * (f_X8_form nw 3))))] → W p l e R s m args below meth c H locs 0 0 Q (F0 m 140 ls [.int v9]) := by
        clear hP hD hS hl
        intro v9 H locs ls ev9
        rw [ev9]
        clear ev9
        intro hP hD hS hl
        have hF : f_X8_edge nw = (if (lg_cmp ((((((((18 * (f_X8_form nw 0)) * (f_X8_form nw 1)) * (f_X8_form nw 2)) * (f_X8_form nw 3)) - ((((4 * (f_X8_form nw 1)) * (f_X8_form nw 1)) * (f_X8_form nw 1)) * (f_X8_form nw 3))) + ((((f_X8_form nw 1) * (f_X8_form nw 1)) * (f_X8_form nw 2)) * (f_X8_form nw 2))) - ((((4 * (f_X8_form nw 0)) * (f_X8_form nw 2)) * (f_X8_form nw 2)) * (f_X8_form nw 2))) - ((((27 * (f_X8_form nw 0)) * (f_X8_form nw 0)) * (f_X8_form nw 3)) * (f_X8_form nw 3))) 0) ≤ 0 then 1 else 3) := hF
        rw [hF] at hQ
        exact hQ _ _ _ _ dX8_edge_140 hP hS
      refine lv_if_le (tgt := 139) hx hb dX8_edge_132 (by decide) (fun hc8 => ?_) (fun hc8 => ?_)
      · refine lv_iconst (v := 1) hx hb dX8_edge_139 (by decide) ?_
        exact J10 _ _ _ _ ((if_pos hc8).symm) hP hD hS (lv_sub hl [5, 4, 3, 2, 1, 0] rfl)
      · refine lv_iconst (v := 3) hx hb dX8_edge_135 (by decide) ?_
        refine lv_goto (tgt := 140) hx hb dX8_edge_136 (by decide) ?_
        exact J10 _ _ _ _ ((if_neg hc8).symm) hP hD hS (lv_sub hl [5, 4, 3, 2, 1, 0] rfl)
  · replace hF := hF.trans (if_pos hc1)
    refine lv_lload_n hx hb dX8_edge_32 rfl (lv_at hl 2 rfl) ?_
    refine lv_lconst (v := 0) hx hb dX8_edge_33 (by decide) ?_
    refine W.lcmp hx hb dX8_edge_34 ?_
    refine lv_if_ne (tgt := 54) hx hb dX8_edge_35 (by decide) (fun hc11 => ?_) (fun hc11 => ?_)
    · replace hF := hF.trans (if_neg hc11)
      refine lv_ldc2 (v := 18) hx hb hown (hts _ kX8_edge_0) dX8_edge_54 ?_
      refine lv_lload_n hx hb dX8_edge_57 rfl (lv_at hl 3 rfl) ?_
      refine lv_lmul hx hb dX8_edge_58 ?_
      refine lv_lload_n hx hb dX8_edge_59 rfl (lv_at hl 2 rfl) ?_
      refine lv_lmul hx hb dX8_edge_60 ?_
      refine lv_lload hx hb dX8_edge_61 (lv_at hl 1 rfl) ?_
      refine lv_lmul hx hb dX8_edge_63 ?_
      refine lv_lload hx hb dX8_edge_64 (lv_at hl 0 rfl) ?_
      refine lv_lmul hx hb dX8_edge_66 ?_
      refine lv_ldc2 (v := 4) hx hb hown (hts _ kX8_edge_1) dX8_edge_67 ?_
      refine lv_lload_n hx hb dX8_edge_70 rfl (lv_at hl 2 rfl) ?_
      refine lv_lmul hx hb dX8_edge_71 ?_
      refine lv_lload_n hx hb dX8_edge_72 rfl (lv_at hl 2 rfl) ?_
      refine lv_lmul hx hb dX8_edge_73 ?_
      refine lv_lload_n hx hb dX8_edge_74 rfl (lv_at hl 2 rfl) ?_
      refine lv_lmul hx hb dX8_edge_75 ?_
      refine lv_lload hx hb dX8_edge_76 (lv_at hl 0 rfl) ?_
      refine lv_lmul hx hb dX8_edge_78 ?_
      refine lv_lsub hx hb dX8_edge_79 ?_
      refine lv_lload_n hx hb dX8_edge_80 rfl (lv_at hl 2 rfl) ?_
      refine lv_lload_n hx hb dX8_edge_81 rfl (lv_at hl 2 rfl) ?_
      refine lv_lmul hx hb dX8_edge_82 ?_
      refine lv_lload hx hb dX8_edge_83 (lv_at hl 1 rfl) ?_
      refine lv_lmul hx hb dX8_edge_85 ?_
      refine lv_lload hx hb dX8_edge_86 (lv_at hl 1 rfl) ?_
      refine lv_lmul hx hb dX8_edge_88 ?_
      refine lv_ladd hx hb dX8_edge_89 ?_
      refine lv_ldc2 (v := 4) hx hb hown (hts _ kX8_edge_1) dX8_edge_90 ?_
      refine lv_lload_n hx hb dX8_edge_93 rfl (lv_at hl 3 rfl) ?_
      refine lv_lmul hx hb dX8_edge_94 ?_
      refine lv_lload hx hb dX8_edge_95 (lv_at hl 1 rfl) ?_
      refine lv_lmul hx hb dX8_edge_97 ?_
      refine lv_lload hx hb dX8_edge_98 (lv_at hl 1 rfl) ?_
      refine lv_lmul hx hb dX8_edge_100 ?_
      refine lv_lload hx hb dX8_edge_101 (lv_at hl 1 rfl) ?_
      refine lv_lmul hx hb dX8_edge_103 ?_
      refine lv_lsub hx hb dX8_edge_104 ?_
      refine lv_ldc2 (v := 27) hx hb hown (hts _ kX8_edge_2) dX8_edge_105 ?_
      refine lv_lload_n hx hb dX8_edge_108 rfl (lv_at hl 3 rfl) ?_
      refine lv_lmul hx hb dX8_edge_109 ?_
      refine lv_lload_n hx hb dX8_edge_110 rfl (lv_at hl 3 rfl) ?_
      refine lv_lmul hx hb dX8_edge_111 ?_
      refine lv_lload hx hb dX8_edge_112 (lv_at hl 0 rfl) ?_
      refine lv_lmul hx hb dX8_edge_114 ?_
      refine lv_lload hx hb dX8_edge_115 (lv_at hl 0 rfl) ?_
      refine lv_lmul hx hb dX8_edge_117 ?_
      refine lv_lsub hx hb dX8_edge_118 ?_
      refine lv_lstore (lv' := [(9, .long ((((((((18 * (f_X8_form nw 0)) * (f_X8_form nw 1)) * (f_X8_form nw 2)) * (f_X8_form nw 3)) - ((((4 * (f_X8_form nw 1)) * (f_X8_form nw 1)) * (f_X8_form nw 1)) * (f_X8_form nw 3))) + ((((f_X8_form nw 1) * (f_X8_form nw 1)) * (f_X8_form nw 2)) * (f_X8_form nw 2))) - ((((4 * (f_X8_form nw 0)) * (f_X8_form nw 2)) * (f_X8_form nw 2)) * (f_X8_form nw 2))) - ((((27 * (f_X8_form nw 0)) * (f_X8_form nw 0)) * (f_X8_form nw 3)) * (f_X8_form nw 3)))), (7, .long (f_X8_form nw 3)), (5, .long (f_X8_form nw 2)), (3, .long (f_X8_form nw 1)), (1, .long (f_X8_form nw 0)), (0, .ref ta)]) hx hb dX8_edge_119 hl (by decide) rfl (fun ls hl9 => ?_)
      replace hl := hl9
      clear hl9
      refine lv_lload hx hb dX8_edge_121 (lv_at hl 0 rfl) ?_
      refine lv_lconst (v := 0) hx hb dX8_edge_123 (by decide) ?_
      refine W.lcmp hx hb dX8_edge_124 ?_
      refine lv_if_eq (tgt := 141) hx hb dX8_edge_125 (by decide) (fun hc12 => ?_) (fun hc12 => ?_)
      · replace hF := hF.trans (if_pos hc12)
        refine lv_lload_n hx hb dX8_edge_141 rfl (lv_at hl 3 rfl) ?_
        refine lv_lload_n hx hb dX8_edge_142 rfl (lv_at hl 3 rfl) ?_
        refine lv_lmul hx hb dX8_edge_143 ?_
        refine lv_ldc2 (v := 3) hx hb hown (hts _ kX8_edge_3) dX8_edge_144 ?_
        refine lv_lload_n hx hb dX8_edge_147 rfl (lv_at hl 4 rfl) ?_
        refine lv_lmul hx hb dX8_edge_148 ?_
        refine lv_lload hx hb dX8_edge_149 (lv_at hl 2 rfl) ?_
        refine lv_lmul hx hb dX8_edge_151 ?_
        refine W.lcmp hx hb dX8_edge_152 ?_
        have J17 : ∀ (v16 : Int32) (H : Heap) (locs : List Loc) (ls : Array Slot), v16 = (if (lg_cmp ((f_X8_form nw 1) * (f_X8_form nw 1)) ((3 * (f_X8_form nw 0)) * (f_X8_form nw 2))) = 0 then (if (lg_cmp ((f_X8_form nw 1) * (f_X8_form nw 2)) ((9 * (f_X8_form nw 0)) * (f_X8_form nw 3))) = 0 then (if (lg_cmp ((f_X8_form nw 2) * (f_X8_form nw 2)) ((3 * (f_X8_form nw 1)) * (f_X8_form nw 3))) = 0 then 1 else 2) else 2) else 2) → va_P D vwCl [(ta, .inr (8, [.ref m_now, .ref m_undone, .ref m_slots, .ref m_slotKind, .ref m_hasSlot, .ref m_sheetBits, .ref m_sheetSize, .ref m_sheets, .int (nI u), .int fi, .ref m_fresh, .long aa, .long bb, .long dd, .int (nI ro), .ref m_rootWhich, .int db, .ref m_signs, .ref m_atNought, .int (nI mn), .ref m_change, .ref m_table, .ref m_carried])), (m_now, .inl (cy 0, 29, .inl nw))] H → va_D A [(ta, .inr (8, [.ref m_now, .ref m_undone, .ref m_slots, .ref m_slotKind, .ref m_hasSlot, .ref m_sheetBits, .ref m_sheetSize, .ref m_sheets, .int (nI u), .int fi, .ref m_fresh, .long aa, .long bb, .long dd, .int (nI ro), .ref m_rootWhich, .int db, .ref m_signs, .ref m_atNought, .int (nI mn), .ref m_change, .ref m_table, .ref m_carried])), (m_now, .inl (cy 0, 29, .inl nw))] → va_S A s.heap H locs → lv_has ls 11 [(0, .ref ta), (1, .long (f_X8_form nw 0)), (3, .long (f_X8_form nw 1)), (5, .long (f_X8_form nw 2)), (7, .long (f_X8_form nw 3)), (9, .long ((((((((18 * (f_X8_form nw 0)) * (f_X8_form nw 1)) * (f_X8_form nw 2)) * (f_X8_form nw 3)) - ((((4 * (f_X8_form nw 1)) * (f_X8_form nw 1)) * (f_X8_form nw 1)) * (f_X8_form nw 3))) + ((((f_X8_form nw 1) * (f_X8_form nw 1)) * (f_X8_form nw 2)) * (f_X8_form nw 2))) - ((((4 * (f_X8_form nw 0)) * (f_X8_form nw 2)) * (f_X8_form nw 2)) * (f_X8_form nw 2))) - ((((27 * (f_X8_form nw 0)) * (f_X8_form nw 0)) * (f_X8_form nw 3)) * (f_X8_form nw 3))))] → W p l e R s m args below meth c H locs 0 0 Q (F0 m 194 ls [.int v16]) := by
          clear hP hD hS hl
          intro v16 H locs ls ev16
          rw [ev16]
          clear ev16
          intro hP hD hS hl
          have hF : f_X8_edge nw = (if (lg_cmp ((f_X8_form nw 1) * (f_X8_form nw 1)) ((3 * (f_X8_form nw 0)) * (f_X8_form nw 2))) = 0 then (if (lg_cmp ((f_X8_form nw 1) * (f_X8_form nw 2)) ((9 * (f_X8_form nw 0)) * (f_X8_form nw 3))) = 0 then (if (lg_cmp ((f_X8_form nw 2) * (f_X8_form nw 2)) ((3 * (f_X8_form nw 1)) * (f_X8_form nw 3))) = 0 then 1 else 2) else 2) else 2) := hF
          rw [hF] at hQ
          exact hQ _ _ _ _ dX8_edge_194 hP hS
        refine lv_if_ne (tgt := 193) hx hb dX8_edge_153 (by decide) (fun hc13 => ?_) (fun hc13 => ?_)
        · refine lv_iconst (v := 2) hx hb dX8_edge_193 (by decide) ?_
          exact J17 _ _ _ _ ((if_neg hc13).symm) hP hD hS (lv_sub hl [5, 4, 3, 2, 1, 0] rfl)
        · refine lv_lload_n hx hb dX8_edge_156 rfl (lv_at hl 3 rfl) ?_
          refine lv_lload hx hb dX8_edge_157 (lv_at hl 2 rfl) ?_
          refine lv_lmul hx hb dX8_edge_159 ?_
          refine lv_ldc2 (v := 9) hx hb hown (hts _ kX8_edge_4) dX8_edge_160 ?_
          refine lv_lload_n hx hb dX8_edge_163 rfl (lv_at hl 4 rfl) ?_
          refine lv_lmul hx hb dX8_edge_164 ?_
          refine lv_lload hx hb dX8_edge_165 (lv_at hl 1 rfl) ?_
          refine lv_lmul hx hb dX8_edge_167 ?_
          refine W.lcmp hx hb dX8_edge_168 ?_
          refine lv_if_ne (tgt := 193) hx hb dX8_edge_169 (by decide) (fun hc14 => ?_) (fun hc14 => ?_)
          · refine lv_iconst (v := 2) hx hb dX8_edge_193 (by decide) ?_
            exact J17 _ _ _ _ (((if_pos hc13).trans (if_neg hc14)).symm) hP hD hS (lv_sub hl [5, 4, 3, 2, 1, 0] rfl)
          · refine lv_lload hx hb dX8_edge_172 (lv_at hl 2 rfl) ?_
            refine lv_lload hx hb dX8_edge_174 (lv_at hl 2 rfl) ?_
            refine lv_lmul hx hb dX8_edge_176 ?_
            refine lv_ldc2 (v := 3) hx hb hown (hts _ kX8_edge_3) dX8_edge_177 ?_
            refine lv_lload_n hx hb dX8_edge_180 rfl (lv_at hl 3 rfl) ?_
            refine lv_lmul hx hb dX8_edge_181 ?_
            refine lv_lload hx hb dX8_edge_182 (lv_at hl 1 rfl) ?_
            refine lv_lmul hx hb dX8_edge_184 ?_
            refine W.lcmp hx hb dX8_edge_185 ?_
            refine lv_if_ne (tgt := 193) hx hb dX8_edge_186 (by decide) (fun hc15 => ?_) (fun hc15 => ?_)
            · refine lv_iconst (v := 2) hx hb dX8_edge_193 (by decide) ?_
              exact J17 _ _ _ _ (((if_pos hc13).trans ((if_pos hc14).trans (if_neg hc15))).symm) hP hD hS (lv_sub hl [5, 4, 3, 2, 1, 0] rfl)
            · refine lv_iconst (v := 1) hx hb dX8_edge_189 (by decide) ?_
              refine lv_goto (tgt := 194) hx hb dX8_edge_190 (by decide) ?_
              exact J17 _ _ _ _ (((if_pos hc13).trans ((if_pos hc14).trans (if_pos hc15))).symm) hP hD hS (lv_sub hl [5, 4, 3, 2, 1, 0] rfl)
      · replace hF := hF.trans (if_neg hc12)
        refine lv_lload hx hb dX8_edge_128 (lv_at hl 0 rfl) ?_
        refine lv_lconst (v := 0) hx hb dX8_edge_130 (by decide) ?_
        refine W.lcmp hx hb dX8_edge_131 ?_
        have J20 : ∀ (v19 : Int32) (H : Heap) (locs : List Loc) (ls : Array Slot), v19 = (if (lg_cmp ((((((((18 * (f_X8_form nw 0)) * (f_X8_form nw 1)) * (f_X8_form nw 2)) * (f_X8_form nw 3)) - ((((4 * (f_X8_form nw 1)) * (f_X8_form nw 1)) * (f_X8_form nw 1)) * (f_X8_form nw 3))) + ((((f_X8_form nw 1) * (f_X8_form nw 1)) * (f_X8_form nw 2)) * (f_X8_form nw 2))) - ((((4 * (f_X8_form nw 0)) * (f_X8_form nw 2)) * (f_X8_form nw 2)) * (f_X8_form nw 2))) - ((((27 * (f_X8_form nw 0)) * (f_X8_form nw 0)) * (f_X8_form nw 3)) * (f_X8_form nw 3))) 0) ≤ 0 then 1 else 3) → va_P D vwCl [(ta, .inr (8, [.ref m_now, .ref m_undone, .ref m_slots, .ref m_slotKind, .ref m_hasSlot, .ref m_sheetBits, .ref m_sheetSize, .ref m_sheets, .int (nI u), .int fi, .ref m_fresh, .long aa, .long bb, .long dd, .int (nI ro), .ref m_rootWhich, .int db, .ref m_signs, .ref m_atNought, .int (nI mn), .ref m_change, .ref m_table, .ref m_carried])), (m_now, .inl (cy 0, 29, .inl nw))] H → va_D A [(ta, .inr (8, [.ref m_now, .ref m_undone, .ref m_slots, .ref m_slotKind, .ref m_hasSlot, .ref m_sheetBits, .ref m_sheetSize, .ref m_sheets, .int (nI u), .int fi, .ref m_fresh, .long aa, .long bb, .long dd, .int (nI ro), .ref m_rootWhich, .int db, .ref m_signs, .ref m_atNought, .int (nI mn), .ref m_change, .ref m_table, .ref m_carried])), (m_now, .inl (cy 0, 29, .inl nw))] → va_S A s.heap H locs → lv_has ls 11 [(0, .ref ta), (1, .long (f_X8_form nw 0)), (3, .long (f_X8_form nw 1)), (5, .long (f_X8_form nw 2)), (7, .long (f_X8_form nw 3)), (9, .long ((((((((18 * (f_X8_form nw 0)) * (f_X8_form nw 1)) * (f_X8_form nw 2)) * (f_X8_form nw 3)) - ((((4 * (f_X8_form nw 1)) * (f_X8_form nw 1)) * (f_X8_form nw 1)) * (f_X8_form nw 3))) + ((((f_X8_form nw 1) * (f_X8_form nw 1)) * (f_X8_form nw 2)) * (f_X8_form nw 2))) - ((((4 * (f_X8_form nw 0)) * (f_X8_form nw 2)) * (f_X8_form nw 2)) * (f_X8_form nw 2))) - ((((27 * (f_X8_form nw 0)) * (f_X8_form nw 0)) * (f_X8_form nw 3)) * (f_X8_form nw 3))))] → W p l e R s m args below meth c H locs 0 0 Q (F0 m 140 ls [.int v19]) := by
          clear hP hD hS hl
          intro v19 H locs ls ev19
          rw [ev19]
          clear ev19
          intro hP hD hS hl
          have hF : f_X8_edge nw = (if (lg_cmp ((((((((18 * (f_X8_form nw 0)) * (f_X8_form nw 1)) * (f_X8_form nw 2)) * (f_X8_form nw 3)) - ((((4 * (f_X8_form nw 1)) * (f_X8_form nw 1)) * (f_X8_form nw 1)) * (f_X8_form nw 3))) + ((((f_X8_form nw 1) * (f_X8_form nw 1)) * (f_X8_form nw 2)) * (f_X8_form nw 2))) - ((((4 * (f_X8_form nw 0)) * (f_X8_form nw 2)) * (f_X8_form nw 2)) * (f_X8_form nw 2))) - ((((27 * (f_X8_form nw 0)) * (f_X8_form nw 0)) * (f_X8_form nw 3)) * (f_X8_form nw 3))) 0) ≤ 0 then 1 else 3) := hF
          rw [hF] at hQ
          exact hQ _ _ _ _ dX8_edge_140 hP hS
        refine lv_if_le (tgt := 139) hx hb dX8_edge_132 (by decide) (fun hc18 => ?_) (fun hc18 => ?_)
        · refine lv_iconst (v := 1) hx hb dX8_edge_139 (by decide) ?_
          exact J20 _ _ _ _ ((if_pos hc18).symm) hP hD hS (lv_sub hl [5, 4, 3, 2, 1, 0] rfl)
        · refine lv_iconst (v := 3) hx hb dX8_edge_135 (by decide) ?_
          refine lv_goto (tgt := 140) hx hb dX8_edge_136 (by decide) ?_
          exact J20 _ _ _ _ ((if_neg hc18).symm) hP hD hS (lv_sub hl [5, 4, 3, 2, 1, 0] rfl)
    · replace hF := hF.trans (if_pos hc11)
      refine lv_lload hx hb dX8_edge_38 (lv_at hl 1 rfl) ?_
      refine lv_lconst (v := 0) hx hb dX8_edge_40 (by decide) ?_
      refine W.lcmp hx hb dX8_edge_41 ?_
      refine lv_if_ne (tgt := 54) hx hb dX8_edge_42 (by decide) (fun hc21 => ?_) (fun hc21 => ?_)
      · replace hF := hF.trans (if_neg hc21)
        refine lv_ldc2 (v := 18) hx hb hown (hts _ kX8_edge_0) dX8_edge_54 ?_
        refine lv_lload_n hx hb dX8_edge_57 rfl (lv_at hl 3 rfl) ?_
        refine lv_lmul hx hb dX8_edge_58 ?_
        refine lv_lload_n hx hb dX8_edge_59 rfl (lv_at hl 2 rfl) ?_
        refine lv_lmul hx hb dX8_edge_60 ?_
        refine lv_lload hx hb dX8_edge_61 (lv_at hl 1 rfl) ?_
        refine lv_lmul hx hb dX8_edge_63 ?_
        refine lv_lload hx hb dX8_edge_64 (lv_at hl 0 rfl) ?_
        refine lv_lmul hx hb dX8_edge_66 ?_
        refine lv_ldc2 (v := 4) hx hb hown (hts _ kX8_edge_1) dX8_edge_67 ?_
        refine lv_lload_n hx hb dX8_edge_70 rfl (lv_at hl 2 rfl) ?_
        refine lv_lmul hx hb dX8_edge_71 ?_
        refine lv_lload_n hx hb dX8_edge_72 rfl (lv_at hl 2 rfl) ?_
        refine lv_lmul hx hb dX8_edge_73 ?_
        refine lv_lload_n hx hb dX8_edge_74 rfl (lv_at hl 2 rfl) ?_
        refine lv_lmul hx hb dX8_edge_75 ?_
        refine lv_lload hx hb dX8_edge_76 (lv_at hl 0 rfl) ?_
        refine lv_lmul hx hb dX8_edge_78 ?_
        refine lv_lsub hx hb dX8_edge_79 ?_
        refine lv_lload_n hx hb dX8_edge_80 rfl (lv_at hl 2 rfl) ?_
        refine lv_lload_n hx hb dX8_edge_81 rfl (lv_at hl 2 rfl) ?_
        refine lv_lmul hx hb dX8_edge_82 ?_
        refine lv_lload hx hb dX8_edge_83 (lv_at hl 1 rfl) ?_
        refine lv_lmul hx hb dX8_edge_85 ?_
        refine lv_lload hx hb dX8_edge_86 (lv_at hl 1 rfl) ?_
        refine lv_lmul hx hb dX8_edge_88 ?_
        refine lv_ladd hx hb dX8_edge_89 ?_
        refine lv_ldc2 (v := 4) hx hb hown (hts _ kX8_edge_1) dX8_edge_90 ?_
        refine lv_lload_n hx hb dX8_edge_93 rfl (lv_at hl 3 rfl) ?_
        refine lv_lmul hx hb dX8_edge_94 ?_
        refine lv_lload hx hb dX8_edge_95 (lv_at hl 1 rfl) ?_
        refine lv_lmul hx hb dX8_edge_97 ?_
        refine lv_lload hx hb dX8_edge_98 (lv_at hl 1 rfl) ?_
        refine lv_lmul hx hb dX8_edge_100 ?_
        refine lv_lload hx hb dX8_edge_101 (lv_at hl 1 rfl) ?_
        refine lv_lmul hx hb dX8_edge_103 ?_
        refine lv_lsub hx hb dX8_edge_104 ?_
        refine lv_ldc2 (v := 27) hx hb hown (hts _ kX8_edge_2) dX8_edge_105 ?_
        refine lv_lload_n hx hb dX8_edge_108 rfl (lv_at hl 3 rfl) ?_
        refine lv_lmul hx hb dX8_edge_109 ?_
        refine lv_lload_n hx hb dX8_edge_110 rfl (lv_at hl 3 rfl) ?_
        refine lv_lmul hx hb dX8_edge_111 ?_
        refine lv_lload hx hb dX8_edge_112 (lv_at hl 0 rfl) ?_
        refine lv_lmul hx hb dX8_edge_114 ?_
        refine lv_lload hx hb dX8_edge_115 (lv_at hl 0 rfl) ?_
        refine lv_lmul hx hb dX8_edge_117 ?_
        refine lv_lsub hx hb dX8_edge_118 ?_
        refine lv_lstore (lv' := [(9, .long ((((((((18 * (f_X8_form nw 0)) * (f_X8_form nw 1)) * (f_X8_form nw 2)) * (f_X8_form nw 3)) - ((((4 * (f_X8_form nw 1)) * (f_X8_form nw 1)) * (f_X8_form nw 1)) * (f_X8_form nw 3))) + ((((f_X8_form nw 1) * (f_X8_form nw 1)) * (f_X8_form nw 2)) * (f_X8_form nw 2))) - ((((4 * (f_X8_form nw 0)) * (f_X8_form nw 2)) * (f_X8_form nw 2)) * (f_X8_form nw 2))) - ((((27 * (f_X8_form nw 0)) * (f_X8_form nw 0)) * (f_X8_form nw 3)) * (f_X8_form nw 3)))), (7, .long (f_X8_form nw 3)), (5, .long (f_X8_form nw 2)), (3, .long (f_X8_form nw 1)), (1, .long (f_X8_form nw 0)), (0, .ref ta)]) hx hb dX8_edge_119 hl (by decide) rfl (fun ls hl9 => ?_)
        replace hl := hl9
        clear hl9
        refine lv_lload hx hb dX8_edge_121 (lv_at hl 0 rfl) ?_
        refine lv_lconst (v := 0) hx hb dX8_edge_123 (by decide) ?_
        refine W.lcmp hx hb dX8_edge_124 ?_
        refine lv_if_eq (tgt := 141) hx hb dX8_edge_125 (by decide) (fun hc22 => ?_) (fun hc22 => ?_)
        · replace hF := hF.trans (if_pos hc22)
          refine lv_lload_n hx hb dX8_edge_141 rfl (lv_at hl 3 rfl) ?_
          refine lv_lload_n hx hb dX8_edge_142 rfl (lv_at hl 3 rfl) ?_
          refine lv_lmul hx hb dX8_edge_143 ?_
          refine lv_ldc2 (v := 3) hx hb hown (hts _ kX8_edge_3) dX8_edge_144 ?_
          refine lv_lload_n hx hb dX8_edge_147 rfl (lv_at hl 4 rfl) ?_
          refine lv_lmul hx hb dX8_edge_148 ?_
          refine lv_lload hx hb dX8_edge_149 (lv_at hl 2 rfl) ?_
          refine lv_lmul hx hb dX8_edge_151 ?_
          refine W.lcmp hx hb dX8_edge_152 ?_
          have J27 : ∀ (v26 : Int32) (H : Heap) (locs : List Loc) (ls : Array Slot), v26 = (if (lg_cmp ((f_X8_form nw 1) * (f_X8_form nw 1)) ((3 * (f_X8_form nw 0)) * (f_X8_form nw 2))) = 0 then (if (lg_cmp ((f_X8_form nw 1) * (f_X8_form nw 2)) ((9 * (f_X8_form nw 0)) * (f_X8_form nw 3))) = 0 then (if (lg_cmp ((f_X8_form nw 2) * (f_X8_form nw 2)) ((3 * (f_X8_form nw 1)) * (f_X8_form nw 3))) = 0 then 1 else 2) else 2) else 2) → va_P D vwCl [(ta, .inr (8, [.ref m_now, .ref m_undone, .ref m_slots, .ref m_slotKind, .ref m_hasSlot, .ref m_sheetBits, .ref m_sheetSize, .ref m_sheets, .int (nI u), .int fi, .ref m_fresh, .long aa, .long bb, .long dd, .int (nI ro), .ref m_rootWhich, .int db, .ref m_signs, .ref m_atNought, .int (nI mn), .ref m_change, .ref m_table, .ref m_carried])), (m_now, .inl (cy 0, 29, .inl nw))] H → va_D A [(ta, .inr (8, [.ref m_now, .ref m_undone, .ref m_slots, .ref m_slotKind, .ref m_hasSlot, .ref m_sheetBits, .ref m_sheetSize, .ref m_sheets, .int (nI u), .int fi, .ref m_fresh, .long aa, .long bb, .long dd, .int (nI ro), .ref m_rootWhich, .int db, .ref m_signs, .ref m_atNought, .int (nI mn), .ref m_change, .ref m_table, .ref m_carried])), (m_now, .inl (cy 0, 29, .inl nw))] → va_S A s.heap H locs → lv_has ls 11 [(0, .ref ta), (1, .long (f_X8_form nw 0)), (3, .long (f_X8_form nw 1)), (5, .long (f_X8_form nw 2)), (7, .long (f_X8_form nw 3)), (9, .long ((((((((18 * (f_X8_form nw 0)) * (f_X8_form nw 1)) * (f_X8_form nw 2)) * (f_X8_form nw 3)) - ((((4 * (f_X8_form nw 1)) * (f_X8_form nw 1)) * (f_X8_form nw 1)) * (f_X8_form nw 3))) + ((((f_X8_form nw 1) * (f_X8_form nw 1)) * (f_X8_form nw 2)) * (f_X8_form nw 2))) - ((((4 * (f_X8_form nw 0)) * (f_X8_form nw 2)) * (f_X8_form nw 2)) * (f_X8_form nw 2))) - ((((27 * (f_X8_form nw 0)) * (f_X8_form nw 0)) * (f_X8_form nw 3)) * (f_X8_form nw 3))))] → W p l e R s m args below meth c H locs 0 0 Q (F0 m 194 ls [.int v26]) := by
            clear hP hD hS hl
            intro v26 H locs ls ev26
            rw [ev26]
            clear ev26
            intro hP hD hS hl
            have hF : f_X8_edge nw = (if (lg_cmp ((f_X8_form nw 1) * (f_X8_form nw 1)) ((3 * (f_X8_form nw 0)) * (f_X8_form nw 2))) = 0 then (if (lg_cmp ((f_X8_form nw 1) * (f_X8_form nw 2)) ((9 * (f_X8_form nw 0)) * (f_X8_form nw 3))) = 0 then (if (lg_cmp ((f_X8_form nw 2) * (f_X8_form nw 2)) ((3 * (f_X8_form nw 1)) * (f_X8_form nw 3))) = 0 then 1 else 2) else 2) else 2) := hF
            rw [hF] at hQ
            exact hQ _ _ _ _ dX8_edge_194 hP hS
          refine lv_if_ne (tgt := 193) hx hb dX8_edge_153 (by decide) (fun hc23 => ?_) (fun hc23 => ?_)
          · refine lv_iconst (v := 2) hx hb dX8_edge_193 (by decide) ?_
            exact J27 _ _ _ _ ((if_neg hc23).symm) hP hD hS (lv_sub hl [5, 4, 3, 2, 1, 0] rfl)
          · refine lv_lload_n hx hb dX8_edge_156 rfl (lv_at hl 3 rfl) ?_
            refine lv_lload hx hb dX8_edge_157 (lv_at hl 2 rfl) ?_
            refine lv_lmul hx hb dX8_edge_159 ?_
            refine lv_ldc2 (v := 9) hx hb hown (hts _ kX8_edge_4) dX8_edge_160 ?_
            refine lv_lload_n hx hb dX8_edge_163 rfl (lv_at hl 4 rfl) ?_
            refine lv_lmul hx hb dX8_edge_164 ?_
            refine lv_lload hx hb dX8_edge_165 (lv_at hl 1 rfl) ?_
            refine lv_lmul hx hb dX8_edge_167 ?_
            refine W.lcmp hx hb dX8_edge_168 ?_
            refine lv_if_ne (tgt := 193) hx hb dX8_edge_169 (by decide) (fun hc24 => ?_) (fun hc24 => ?_)
            · refine lv_iconst (v := 2) hx hb dX8_edge_193 (by decide) ?_
              exact J27 _ _ _ _ (((if_pos hc23).trans (if_neg hc24)).symm) hP hD hS (lv_sub hl [5, 4, 3, 2, 1, 0] rfl)
            · refine lv_lload hx hb dX8_edge_172 (lv_at hl 2 rfl) ?_
              refine lv_lload hx hb dX8_edge_174 (lv_at hl 2 rfl) ?_
              refine lv_lmul hx hb dX8_edge_176 ?_
              refine lv_ldc2 (v := 3) hx hb hown (hts _ kX8_edge_3) dX8_edge_177 ?_
              refine lv_lload_n hx hb dX8_edge_180 rfl (lv_at hl 3 rfl) ?_
              refine lv_lmul hx hb dX8_edge_181 ?_
              refine lv_lload hx hb dX8_edge_182 (lv_at hl 1 rfl) ?_
              refine lv_lmul hx hb dX8_edge_184 ?_
              refine W.lcmp hx hb dX8_edge_185 ?_
              refine lv_if_ne (tgt := 193) hx hb dX8_edge_186 (by decide) (fun hc25 => ?_) (fun hc25 => ?_)
              · refine lv_iconst (v := 2) hx hb dX8_edge_193 (by decide) ?_
                exact J27 _ _ _ _ (((if_pos hc23).trans ((if_pos hc24).trans (if_neg hc25))).symm) hP hD hS (lv_sub hl [5, 4, 3, 2, 1, 0] rfl)
              · refine lv_iconst (v := 1) hx hb dX8_edge_189 (by decide) ?_
                refine lv_goto (tgt := 194) hx hb dX8_edge_190 (by decide) ?_
                exact J27 _ _ _ _ (((if_pos hc23).trans ((if_pos hc24).trans (if_pos hc25))).symm) hP hD hS (lv_sub hl [5, 4, 3, 2, 1, 0] rfl)
        · replace hF := hF.trans (if_neg hc22)
          refine lv_lload hx hb dX8_edge_128 (lv_at hl 0 rfl) ?_
          refine lv_lconst (v := 0) hx hb dX8_edge_130 (by decide) ?_
          refine W.lcmp hx hb dX8_edge_131 ?_
          have J30 : ∀ (v29 : Int32) (H : Heap) (locs : List Loc) (ls : Array Slot), v29 = (if (lg_cmp ((((((((18 * (f_X8_form nw 0)) * (f_X8_form nw 1)) * (f_X8_form nw 2)) * (f_X8_form nw 3)) - ((((4 * (f_X8_form nw 1)) * (f_X8_form nw 1)) * (f_X8_form nw 1)) * (f_X8_form nw 3))) + ((((f_X8_form nw 1) * (f_X8_form nw 1)) * (f_X8_form nw 2)) * (f_X8_form nw 2))) - ((((4 * (f_X8_form nw 0)) * (f_X8_form nw 2)) * (f_X8_form nw 2)) * (f_X8_form nw 2))) - ((((27 * (f_X8_form nw 0)) * (f_X8_form nw 0)) * (f_X8_form nw 3)) * (f_X8_form nw 3))) 0) ≤ 0 then 1 else 3) → va_P D vwCl [(ta, .inr (8, [.ref m_now, .ref m_undone, .ref m_slots, .ref m_slotKind, .ref m_hasSlot, .ref m_sheetBits, .ref m_sheetSize, .ref m_sheets, .int (nI u), .int fi, .ref m_fresh, .long aa, .long bb, .long dd, .int (nI ro), .ref m_rootWhich, .int db, .ref m_signs, .ref m_atNought, .int (nI mn), .ref m_change, .ref m_table, .ref m_carried])), (m_now, .inl (cy 0, 29, .inl nw))] H → va_D A [(ta, .inr (8, [.ref m_now, .ref m_undone, .ref m_slots, .ref m_slotKind, .ref m_hasSlot, .ref m_sheetBits, .ref m_sheetSize, .ref m_sheets, .int (nI u), .int fi, .ref m_fresh, .long aa, .long bb, .long dd, .int (nI ro), .ref m_rootWhich, .int db, .ref m_signs, .ref m_atNought, .int (nI mn), .ref m_change, .ref m_table, .ref m_carried])), (m_now, .inl (cy 0, 29, .inl nw))] → va_S A s.heap H locs → lv_has ls 11 [(0, .ref ta), (1, .long (f_X8_form nw 0)), (3, .long (f_X8_form nw 1)), (5, .long (f_X8_form nw 2)), (7, .long (f_X8_form nw 3)), (9, .long ((((((((18 * (f_X8_form nw 0)) * (f_X8_form nw 1)) * (f_X8_form nw 2)) * (f_X8_form nw 3)) - ((((4 * (f_X8_form nw 1)) * (f_X8_form nw 1)) * (f_X8_form nw 1)) * (f_X8_form nw 3))) + ((((f_X8_form nw 1) * (f_X8_form nw 1)) * (f_X8_form nw 2)) * (f_X8_form nw 2))) - ((((4 * (f_X8_form nw 0)) * (f_X8_form nw 2)) * (f_X8_form nw 2)) * (f_X8_form nw 2))) - ((((27 * (f_X8_form nw 0)) * (f_X8_form nw 0)) * (f_X8_form nw 3)) * (f_X8_form nw 3))))] → W p l e R s m args below meth c H locs 0 0 Q (F0 m 140 ls [.int v29]) := by
            clear hP hD hS hl
            intro v29 H locs ls ev29
            rw [ev29]
            clear ev29
            intro hP hD hS hl
            have hF : f_X8_edge nw = (if (lg_cmp ((((((((18 * (f_X8_form nw 0)) * (f_X8_form nw 1)) * (f_X8_form nw 2)) * (f_X8_form nw 3)) - ((((4 * (f_X8_form nw 1)) * (f_X8_form nw 1)) * (f_X8_form nw 1)) * (f_X8_form nw 3))) + ((((f_X8_form nw 1) * (f_X8_form nw 1)) * (f_X8_form nw 2)) * (f_X8_form nw 2))) - ((((4 * (f_X8_form nw 0)) * (f_X8_form nw 2)) * (f_X8_form nw 2)) * (f_X8_form nw 2))) - ((((27 * (f_X8_form nw 0)) * (f_X8_form nw 0)) * (f_X8_form nw 3)) * (f_X8_form nw 3))) 0) ≤ 0 then 1 else 3) := hF
            rw [hF] at hQ
            exact hQ _ _ _ _ dX8_edge_140 hP hS
          refine lv_if_le (tgt := 139) hx hb dX8_edge_132 (by decide) (fun hc28 => ?_) (fun hc28 => ?_)
          · refine lv_iconst (v := 1) hx hb dX8_edge_139 (by decide) ?_
            exact J30 _ _ _ _ ((if_pos hc28).symm) hP hD hS (lv_sub hl [5, 4, 3, 2, 1, 0] rfl)
          · refine lv_iconst (v := 3) hx hb dX8_edge_135 (by decide) ?_
            refine lv_goto (tgt := 140) hx hb dX8_edge_136 (by decide) ?_
            exact J30 _ _ _ _ ((if_neg hc28).symm) hP hD hS (lv_sub hl [5, 4, 3, 2, 1, 0] rfl)
      · replace hF := hF.trans (if_pos hc21)
        refine lv_lload hx hb dX8_edge_45 (lv_at hl 0 rfl) ?_
        refine lv_lconst (v := 0) hx hb dX8_edge_47 (by decide) ?_
        refine W.lcmp hx hb dX8_edge_48 ?_
        refine lv_if_ne (tgt := 54) hx hb dX8_edge_49 (by decide) (fun hc31 => ?_) (fun hc31 => ?_)
        · replace hF := hF.trans (if_neg hc31)
          refine lv_ldc2 (v := 18) hx hb hown (hts _ kX8_edge_0) dX8_edge_54 ?_
          refine lv_lload_n hx hb dX8_edge_57 rfl (lv_at hl 3 rfl) ?_
          refine lv_lmul hx hb dX8_edge_58 ?_
          refine lv_lload_n hx hb dX8_edge_59 rfl (lv_at hl 2 rfl) ?_
          refine lv_lmul hx hb dX8_edge_60 ?_
          refine lv_lload hx hb dX8_edge_61 (lv_at hl 1 rfl) ?_
          refine lv_lmul hx hb dX8_edge_63 ?_
          refine lv_lload hx hb dX8_edge_64 (lv_at hl 0 rfl) ?_
          refine lv_lmul hx hb dX8_edge_66 ?_
          refine lv_ldc2 (v := 4) hx hb hown (hts _ kX8_edge_1) dX8_edge_67 ?_
          refine lv_lload_n hx hb dX8_edge_70 rfl (lv_at hl 2 rfl) ?_
          refine lv_lmul hx hb dX8_edge_71 ?_
          refine lv_lload_n hx hb dX8_edge_72 rfl (lv_at hl 2 rfl) ?_
          refine lv_lmul hx hb dX8_edge_73 ?_
          refine lv_lload_n hx hb dX8_edge_74 rfl (lv_at hl 2 rfl) ?_
          refine lv_lmul hx hb dX8_edge_75 ?_
          refine lv_lload hx hb dX8_edge_76 (lv_at hl 0 rfl) ?_
          refine lv_lmul hx hb dX8_edge_78 ?_
          refine lv_lsub hx hb dX8_edge_79 ?_
          refine lv_lload_n hx hb dX8_edge_80 rfl (lv_at hl 2 rfl) ?_
          refine lv_lload_n hx hb dX8_edge_81 rfl (lv_at hl 2 rfl) ?_
          refine lv_lmul hx hb dX8_edge_82 ?_
          refine lv_lload hx hb dX8_edge_83 (lv_at hl 1 rfl) ?_
          refine lv_lmul hx hb dX8_edge_85 ?_
          refine lv_lload hx hb dX8_edge_86 (lv_at hl 1 rfl) ?_
          refine lv_lmul hx hb dX8_edge_88 ?_
          refine lv_ladd hx hb dX8_edge_89 ?_
          refine lv_ldc2 (v := 4) hx hb hown (hts _ kX8_edge_1) dX8_edge_90 ?_
          refine lv_lload_n hx hb dX8_edge_93 rfl (lv_at hl 3 rfl) ?_
          refine lv_lmul hx hb dX8_edge_94 ?_
          refine lv_lload hx hb dX8_edge_95 (lv_at hl 1 rfl) ?_
          refine lv_lmul hx hb dX8_edge_97 ?_
          refine lv_lload hx hb dX8_edge_98 (lv_at hl 1 rfl) ?_
          refine lv_lmul hx hb dX8_edge_100 ?_
          refine lv_lload hx hb dX8_edge_101 (lv_at hl 1 rfl) ?_
          refine lv_lmul hx hb dX8_edge_103 ?_
          refine lv_lsub hx hb dX8_edge_104 ?_
          refine lv_ldc2 (v := 27) hx hb hown (hts _ kX8_edge_2) dX8_edge_105 ?_
          refine lv_lload_n hx hb dX8_edge_108 rfl (lv_at hl 3 rfl) ?_
          refine lv_lmul hx hb dX8_edge_109 ?_
          refine lv_lload_n hx hb dX8_edge_110 rfl (lv_at hl 3 rfl) ?_
          refine lv_lmul hx hb dX8_edge_111 ?_
          refine lv_lload hx hb dX8_edge_112 (lv_at hl 0 rfl) ?_
          refine lv_lmul hx hb dX8_edge_114 ?_
          refine lv_lload hx hb dX8_edge_115 (lv_at hl 0 rfl) ?_
          refine lv_lmul hx hb dX8_edge_117 ?_
          refine lv_lsub hx hb dX8_edge_118 ?_
          refine lv_lstore (lv' := [(9, .long ((((((((18 * (f_X8_form nw 0)) * (f_X8_form nw 1)) * (f_X8_form nw 2)) * (f_X8_form nw 3)) - ((((4 * (f_X8_form nw 1)) * (f_X8_form nw 1)) * (f_X8_form nw 1)) * (f_X8_form nw 3))) + ((((f_X8_form nw 1) * (f_X8_form nw 1)) * (f_X8_form nw 2)) * (f_X8_form nw 2))) - ((((4 * (f_X8_form nw 0)) * (f_X8_form nw 2)) * (f_X8_form nw 2)) * (f_X8_form nw 2))) - ((((27 * (f_X8_form nw 0)) * (f_X8_form nw 0)) * (f_X8_form nw 3)) * (f_X8_form nw 3)))), (7, .long (f_X8_form nw 3)), (5, .long (f_X8_form nw 2)), (3, .long (f_X8_form nw 1)), (1, .long (f_X8_form nw 0)), (0, .ref ta)]) hx hb dX8_edge_119 hl (by decide) rfl (fun ls hl9 => ?_)
          replace hl := hl9
          clear hl9
          refine lv_lload hx hb dX8_edge_121 (lv_at hl 0 rfl) ?_
          refine lv_lconst (v := 0) hx hb dX8_edge_123 (by decide) ?_
          refine W.lcmp hx hb dX8_edge_124 ?_
          refine lv_if_eq (tgt := 141) hx hb dX8_edge_125 (by decide) (fun hc32 => ?_) (fun hc32 => ?_)
          · replace hF := hF.trans (if_pos hc32)
            refine lv_lload_n hx hb dX8_edge_141 rfl (lv_at hl 3 rfl) ?_
            refine lv_lload_n hx hb dX8_edge_142 rfl (lv_at hl 3 rfl) ?_
            refine lv_lmul hx hb dX8_edge_143 ?_
            refine lv_ldc2 (v := 3) hx hb hown (hts _ kX8_edge_3) dX8_edge_144 ?_
            refine lv_lload_n hx hb dX8_edge_147 rfl (lv_at hl 4 rfl) ?_
            refine lv_lmul hx hb dX8_edge_148 ?_
            refine lv_lload hx hb dX8_edge_149 (lv_at hl 2 rfl) ?_
            refine lv_lmul hx hb dX8_edge_151 ?_
            refine W.lcmp hx hb dX8_edge_152 ?_
            have J37 : ∀ (v36 : Int32) (H : Heap) (locs : List Loc) (ls : Array Slot), v36 = (if (lg_cmp ((f_X8_form nw 1) * (f_X8_form nw 1)) ((3 * (f_X8_form nw 0)) * (f_X8_form nw 2))) = 0 then (if (lg_cmp ((f_X8_form nw 1) * (f_X8_form nw 2)) ((9 * (f_X8_form nw 0)) * (f_X8_form nw 3))) = 0 then (if (lg_cmp ((f_X8_form nw 2) * (f_X8_form nw 2)) ((3 * (f_X8_form nw 1)) * (f_X8_form nw 3))) = 0 then 1 else 2) else 2) else 2) → va_P D vwCl [(ta, .inr (8, [.ref m_now, .ref m_undone, .ref m_slots, .ref m_slotKind, .ref m_hasSlot, .ref m_sheetBits, .ref m_sheetSize, .ref m_sheets, .int (nI u), .int fi, .ref m_fresh, .long aa, .long bb, .long dd, .int (nI ro), .ref m_rootWhich, .int db, .ref m_signs, .ref m_atNought, .int (nI mn), .ref m_change, .ref m_table, .ref m_carried])), (m_now, .inl (cy 0, 29, .inl nw))] H → va_D A [(ta, .inr (8, [.ref m_now, .ref m_undone, .ref m_slots, .ref m_slotKind, .ref m_hasSlot, .ref m_sheetBits, .ref m_sheetSize, .ref m_sheets, .int (nI u), .int fi, .ref m_fresh, .long aa, .long bb, .long dd, .int (nI ro), .ref m_rootWhich, .int db, .ref m_signs, .ref m_atNought, .int (nI mn), .ref m_change, .ref m_table, .ref m_carried])), (m_now, .inl (cy 0, 29, .inl nw))] → va_S A s.heap H locs → lv_has ls 11 [(0, .ref ta), (1, .long (f_X8_form nw 0)), (3, .long (f_X8_form nw 1)), (5, .long (f_X8_form nw 2)), (7, .long (f_X8_form nw 3)), (9, .long ((((((((18 * (f_X8_form nw 0)) * (f_X8_form nw 1)) * (f_X8_form nw 2)) * (f_X8_form nw 3)) - ((((4 * (f_X8_form nw 1)) * (f_X8_form nw 1)) * (f_X8_form nw 1)) * (f_X8_form nw 3))) + ((((f_X8_form nw 1) * (f_X8_form nw 1)) * (f_X8_form nw 2)) * (f_X8_form nw 2))) - ((((4 * (f_X8_form nw 0)) * (f_X8_form nw 2)) * (f_X8_form nw 2)) * (f_X8_form nw 2))) - ((((27 * (f_X8_form nw 0)) * (f_X8_form nw 0)) * (f_X8_form nw 3)) * (f_X8_form nw 3))))] → W p l e R s m args below meth c H locs 0 0 Q (F0 m 194 ls [.int v36]) := by
              clear hP hD hS hl
              intro v36 H locs ls ev36
              rw [ev36]
              clear ev36
              intro hP hD hS hl
              have hF : f_X8_edge nw = (if (lg_cmp ((f_X8_form nw 1) * (f_X8_form nw 1)) ((3 * (f_X8_form nw 0)) * (f_X8_form nw 2))) = 0 then (if (lg_cmp ((f_X8_form nw 1) * (f_X8_form nw 2)) ((9 * (f_X8_form nw 0)) * (f_X8_form nw 3))) = 0 then (if (lg_cmp ((f_X8_form nw 2) * (f_X8_form nw 2)) ((3 * (f_X8_form nw 1)) * (f_X8_form nw 3))) = 0 then 1 else 2) else 2) else 2) := hF
              rw [hF] at hQ
              exact hQ _ _ _ _ dX8_edge_194 hP hS
            refine lv_if_ne (tgt := 193) hx hb dX8_edge_153 (by decide) (fun hc33 => ?_) (fun hc33 => ?_)
            · refine lv_iconst (v := 2) hx hb dX8_edge_193 (by decide) ?_
              exact J37 _ _ _ _ ((if_neg hc33).symm) hP hD hS (lv_sub hl [5, 4, 3, 2, 1, 0] rfl)
            · refine lv_lload_n hx hb dX8_edge_156 rfl (lv_at hl 3 rfl) ?_
              refine lv_lload hx hb dX8_edge_157 (lv_at hl 2 rfl) ?_
              refine lv_lmul hx hb dX8_edge_159 ?_
              refine lv_ldc2 (v := 9) hx hb hown (hts _ kX8_edge_4) dX8_edge_160 ?_
              refine lv_lload_n hx hb dX8_edge_163 rfl (lv_at hl 4 rfl) ?_
              refine lv_lmul hx hb dX8_edge_164 ?_
              refine lv_lload hx hb dX8_edge_165 (lv_at hl 1 rfl) ?_
              refine lv_lmul hx hb dX8_edge_167 ?_
              refine W.lcmp hx hb dX8_edge_168 ?_
              refine lv_if_ne (tgt := 193) hx hb dX8_edge_169 (by decide) (fun hc34 => ?_) (fun hc34 => ?_)
              · refine lv_iconst (v := 2) hx hb dX8_edge_193 (by decide) ?_
                exact J37 _ _ _ _ (((if_pos hc33).trans (if_neg hc34)).symm) hP hD hS (lv_sub hl [5, 4, 3, 2, 1, 0] rfl)
              · refine lv_lload hx hb dX8_edge_172 (lv_at hl 2 rfl) ?_
                refine lv_lload hx hb dX8_edge_174 (lv_at hl 2 rfl) ?_
                refine lv_lmul hx hb dX8_edge_176 ?_
                refine lv_ldc2 (v := 3) hx hb hown (hts _ kX8_edge_3) dX8_edge_177 ?_
                refine lv_lload_n hx hb dX8_edge_180 rfl (lv_at hl 3 rfl) ?_
                refine lv_lmul hx hb dX8_edge_181 ?_
                refine lv_lload hx hb dX8_edge_182 (lv_at hl 1 rfl) ?_
                refine lv_lmul hx hb dX8_edge_184 ?_
                refine W.lcmp hx hb dX8_edge_185 ?_
                refine lv_if_ne (tgt := 193) hx hb dX8_edge_186 (by decide) (fun hc35 => ?_) (fun hc35 => ?_)
                · refine lv_iconst (v := 2) hx hb dX8_edge_193 (by decide) ?_
                  exact J37 _ _ _ _ (((if_pos hc33).trans ((if_pos hc34).trans (if_neg hc35))).symm) hP hD hS (lv_sub hl [5, 4, 3, 2, 1, 0] rfl)
                · refine lv_iconst (v := 1) hx hb dX8_edge_189 (by decide) ?_
                  refine lv_goto (tgt := 194) hx hb dX8_edge_190 (by decide) ?_
                  exact J37 _ _ _ _ (((if_pos hc33).trans ((if_pos hc34).trans (if_pos hc35))).symm) hP hD hS (lv_sub hl [5, 4, 3, 2, 1, 0] rfl)
          · replace hF := hF.trans (if_neg hc32)
            refine lv_lload hx hb dX8_edge_128 (lv_at hl 0 rfl) ?_
            refine lv_lconst (v := 0) hx hb dX8_edge_130 (by decide) ?_
            refine W.lcmp hx hb dX8_edge_131 ?_
            have J40 : ∀ (v39 : Int32) (H : Heap) (locs : List Loc) (ls : Array Slot), v39 = (if (lg_cmp ((((((((18 * (f_X8_form nw 0)) * (f_X8_form nw 1)) * (f_X8_form nw 2)) * (f_X8_form nw 3)) - ((((4 * (f_X8_form nw 1)) * (f_X8_form nw 1)) * (f_X8_form nw 1)) * (f_X8_form nw 3))) + ((((f_X8_form nw 1) * (f_X8_form nw 1)) * (f_X8_form nw 2)) * (f_X8_form nw 2))) - ((((4 * (f_X8_form nw 0)) * (f_X8_form nw 2)) * (f_X8_form nw 2)) * (f_X8_form nw 2))) - ((((27 * (f_X8_form nw 0)) * (f_X8_form nw 0)) * (f_X8_form nw 3)) * (f_X8_form nw 3))) 0) ≤ 0 then 1 else 3) → va_P D vwCl [(ta, .inr (8, [.ref m_now, .ref m_undone, .ref m_slots, .ref m_slotKind, .ref m_hasSlot, .ref m_sheetBits, .ref m_sheetSize, .ref m_sheets, .int (nI u), .int fi, .ref m_fresh, .long aa, .long bb, .long dd, .int (nI ro), .ref m_rootWhich, .int db, .ref m_signs, .ref m_atNought, .int (nI mn), .ref m_change, .ref m_table, .ref m_carried])), (m_now, .inl (cy 0, 29, .inl nw))] H → va_D A [(ta, .inr (8, [.ref m_now, .ref m_undone, .ref m_slots, .ref m_slotKind, .ref m_hasSlot, .ref m_sheetBits, .ref m_sheetSize, .ref m_sheets, .int (nI u), .int fi, .ref m_fresh, .long aa, .long bb, .long dd, .int (nI ro), .ref m_rootWhich, .int db, .ref m_signs, .ref m_atNought, .int (nI mn), .ref m_change, .ref m_table, .ref m_carried])), (m_now, .inl (cy 0, 29, .inl nw))] → va_S A s.heap H locs → lv_has ls 11 [(0, .ref ta), (1, .long (f_X8_form nw 0)), (3, .long (f_X8_form nw 1)), (5, .long (f_X8_form nw 2)), (7, .long (f_X8_form nw 3)), (9, .long ((((((((18 * (f_X8_form nw 0)) * (f_X8_form nw 1)) * (f_X8_form nw 2)) * (f_X8_form nw 3)) - ((((4 * (f_X8_form nw 1)) * (f_X8_form nw 1)) * (f_X8_form nw 1)) * (f_X8_form nw 3))) + ((((f_X8_form nw 1) * (f_X8_form nw 1)) * (f_X8_form nw 2)) * (f_X8_form nw 2))) - ((((4 * (f_X8_form nw 0)) * (f_X8_form nw 2)) * (f_X8_form nw 2)) * (f_X8_form nw 2))) - ((((27 * (f_X8_form nw 0)) * (f_X8_form nw 0)) * (f_X8_form nw 3)) * (f_X8_form nw 3))))] → W p l e R s m args below meth c H locs 0 0 Q (F0 m 140 ls [.int v39]) := by
              clear hP hD hS hl
              intro v39 H locs ls ev39
              rw [ev39]
              clear ev39
              intro hP hD hS hl
              have hF : f_X8_edge nw = (if (lg_cmp ((((((((18 * (f_X8_form nw 0)) * (f_X8_form nw 1)) * (f_X8_form nw 2)) * (f_X8_form nw 3)) - ((((4 * (f_X8_form nw 1)) * (f_X8_form nw 1)) * (f_X8_form nw 1)) * (f_X8_form nw 3))) + ((((f_X8_form nw 1) * (f_X8_form nw 1)) * (f_X8_form nw 2)) * (f_X8_form nw 2))) - ((((4 * (f_X8_form nw 0)) * (f_X8_form nw 2)) * (f_X8_form nw 2)) * (f_X8_form nw 2))) - ((((27 * (f_X8_form nw 0)) * (f_X8_form nw 0)) * (f_X8_form nw 3)) * (f_X8_form nw 3))) 0) ≤ 0 then 1 else 3) := hF
              rw [hF] at hQ
              exact hQ _ _ _ _ dX8_edge_140 hP hS
            refine lv_if_le (tgt := 139) hx hb dX8_edge_132 (by decide) (fun hc38 => ?_) (fun hc38 => ?_)
            · refine lv_iconst (v := 1) hx hb dX8_edge_139 (by decide) ?_
              exact J40 _ _ _ _ ((if_pos hc38).symm) hP hD hS (lv_sub hl [5, 4, 3, 2, 1, 0] rfl)
            · refine lv_iconst (v := 3) hx hb dX8_edge_135 (by decide) ?_
              refine lv_goto (tgt := 140) hx hb dX8_edge_136 (by decide) ?_
              exact J40 _ _ _ _ ((if_neg hc38).symm) hP hD hS (lv_sub hl [5, 4, 3, 2, 1, 0] rfl)
        · replace hF := hF.trans (if_pos hc31)
          refine lv_iconst (v := 4) hx hb dX8_edge_52 (by decide) ?_
          have hF : f_X8_edge nw = 4 := hF
          rw [hF] at hQ
          exact hQ _ _ _ _ dX8_edge_53 hP hS
