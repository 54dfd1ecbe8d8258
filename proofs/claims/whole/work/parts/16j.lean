theorem hv_X8_cross : yX8_cross.cls = RX8 ∧ yX8_cross.cls ≠ "java/lang/invoke/MethodHandle" ∧ yX8_cross.cls ≠ "java/lang/invoke/VarHandle" ∧ (parseMethodDescriptor yX8_cross.desc).map (fun d => d.parameters.length) = some 1 := by decide +kernel
theorem hs_X8_cross : yX8_cross.cls ≠ "java/lang/invoke/MethodHandle" ∧ yX8_cross.cls ≠ "java/lang/invoke/VarHandle" ∧ (parseMethodDescriptor yX8_cross.desc).map (fun d => d.parameters.length) = some 1 := by decide +kernel
theorem hv_X8_findRoots : yX8_findRoots.cls = RX8 ∧ yX8_findRoots.cls ≠ "java/lang/invoke/MethodHandle" ∧ yX8_findRoots.cls ≠ "java/lang/invoke/VarHandle" ∧ (parseMethodDescriptor yX8_findRoots.desc).map (fun d => d.parameters.length) = some 0 := by decide +kernel
theorem hs_X8_findRoots : yX8_findRoots.cls ≠ "java/lang/invoke/MethodHandle" ∧ yX8_findRoots.cls ≠ "java/lang/invoke/VarHandle" ∧ (parseMethodDescriptor yX8_findRoots.desc).map (fun d => d.parameters.length) = some 0 := by decide +kernel
theorem hv_X8_zeros : yX8_zeros.cls = RX8 ∧ yX8_zeros.cls ≠ "java/lang/invoke/MethodHandle" ∧ yX8_zeros.cls ≠ "java/lang/invoke/VarHandle" ∧ (parseMethodDescriptor yX8_zeros.desc).map (fun d => d.parameters.length) = some 1 := by decide +kernel
theorem hs_X8_zeros : yX8_zeros.cls ≠ "java/lang/invoke/MethodHandle" ∧ yX8_zeros.cls ≠ "java/lang/invoke/VarHandle" ∧ (parseMethodDescriptor yX8_zeros.desc).map (fun d => d.parameters.length) = some 1 := by decide +kernel
theorem hv_X8_acrossOf : yX8_acrossOf.cls = RX8 ∧ yX8_acrossOf.cls ≠ "java/lang/invoke/MethodHandle" ∧ yX8_acrossOf.cls ≠ "java/lang/invoke/VarHandle" ∧ (parseMethodDescriptor yX8_acrossOf.desc).map (fun d => d.parameters.length) = some 1 := by decide +kernel
theorem hs_X8_acrossOf : yX8_acrossOf.cls ≠ "java/lang/invoke/MethodHandle" ∧ yX8_acrossOf.cls ≠ "java/lang/invoke/VarHandle" ∧ (parseMethodDescriptor yX8_acrossOf.desc).map (fun d => d.parameters.length) = some 1 := by decide +kernel
theorem kX8_zeros_0 : Cond.fieldLink RX8 139 "FlowPlaneModel" "a" "J" ∈ wsX8_zeros := by decide +kernel
theorem kX8_zeros_1 : Cond.fieldLink RX8 153 "FlowPlaneModel" "roots" "I" ∈ wsX8_zeros := by decide +kernel
theorem kX8_zeros_2 : Cond.fieldLink RX8 146 "FlowPlaneModel" "c" "J" ∈ wsX8_zeros := by decide +kernel
theorem kX8_zeros_3 : Cond.fieldLink RX8 143 "FlowPlaneModel" "b" "J" ∈ wsX8_zeros := by decide +kernel
theorem uX8_zeros_X8 : ∀ w ∈ u_ws RX8 TX8 23, w ∈ wsX8_zeros := by decide +kernel
def f_X8_zeros (nw : Nat → Int32) (ro : Nat) (rt : Nat → Int32) (db : Int32) (k : Nat) (n : Nat) : Int32 × Int64 × Int64 × Int64 × Nat × Int32 × (Nat → Int32) := (if (lg_cmp ((f_X8_cross nw k n).1) 0) = 0 then (if (lg_cmp ((f_X8_cross nw k n).2.1) 0) = 0 then (if (lg_cmp ((f_X8_cross nw k n).2.2) 0) = 0 then (3, ((f_X8_cross nw k n).1), ((f_X8_cross nw k n).2.1), ((f_X8_cross nw k n).2.2), ro, db, rt) else ((((nI ((f_X8_findRoots ((f_X8_cross nw k n).1) ((f_X8_cross nw k n).2.1) ((f_X8_cross nw k n).2.2) rt).1)) + (if (lg_cmp ((f_X8_cross nw k n).2.2) 0) = 0 then 1 else 0)) + (if (lg_cmp ((((f_X8_cross nw k n).1) + ((f_X8_cross nw k n).2.1)) + ((f_X8_cross nw k n).2.2)) 0) = 0 then 1 else 0)), ((f_X8_cross nw k n).1), ((f_X8_cross nw k n).2.1), ((f_X8_cross nw k n).2.2), ((f_X8_findRoots ((f_X8_cross nw k n).1) ((f_X8_cross nw k n).2.1) ((f_X8_cross nw k n).2.2) rt).1), ((f_X8_findRoots ((f_X8_cross nw k n).1) ((f_X8_cross nw k n).2.1) ((f_X8_cross nw k n).2.2) rt).2.1), ((f_X8_findRoots ((f_X8_cross nw k n).1) ((f_X8_cross nw k n).2.1) ((f_X8_cross nw k n).2.2) rt).2.2))) else ((((nI ((f_X8_findRoots ((f_X8_cross nw k n).1) ((f_X8_cross nw k n).2.1) ((f_X8_cross nw k n).2.2) rt).1)) + (if (lg_cmp ((f_X8_cross nw k n).2.2) 0) = 0 then 1 else 0)) + (if (lg_cmp ((((f_X8_cross nw k n).1) + ((f_X8_cross nw k n).2.1)) + ((f_X8_cross nw k n).2.2)) 0) = 0 then 1 else 0)), ((f_X8_cross nw k n).1), ((f_X8_cross nw k n).2.1), ((f_X8_cross nw k n).2.2), ((f_X8_findRoots ((f_X8_cross nw k n).1) ((f_X8_cross nw k n).2.1) ((f_X8_cross nw k n).2.2) rt).1), ((f_X8_findRoots ((f_X8_cross nw k n).1) ((f_X8_cross nw k n).2.1) ((f_X8_cross nw k n).2.2) rt).2.1), ((f_X8_findRoots ((f_X8_cross nw k n).1) ((f_X8_cross nw k n).2.1) ((f_X8_cross nw k n).2.2) rt).2.2))) else ((((nI ((f_X8_findRoots ((f_X8_cross nw k n).1) ((f_X8_cross nw k n).2.1) ((f_X8_cross nw k n).2.2) rt).1)) + (if (lg_cmp ((f_X8_cross nw k n).2.2) 0) = 0 then 1 else 0)) + (if (lg_cmp ((((f_X8_cross nw k n).1) + ((f_X8_cross nw k n).2.1)) + ((f_X8_cross nw k n).2.2)) 0) = 0 then 1 else 0)), ((f_X8_cross nw k n).1), ((f_X8_cross nw k n).2.1), ((f_X8_cross nw k n).2.2), ((f_X8_findRoots ((f_X8_cross nw k n).1) ((f_X8_cross nw k n).2.1) ((f_X8_cross nw k n).2.2) rt).1), ((f_X8_findRoots ((f_X8_cross nw k n).1) ((f_X8_cross nw k n).2.1) ((f_X8_cross nw k n).2.2) rt).2.1), ((f_X8_findRoots ((f_X8_cross nw k n).1) ((f_X8_cross nw k n).2.1) ((f_X8_cross nw k n).2.2) rt).2.2)))
set_option maxHeartbeats 400000000 in
set_option maxRecDepth 100000 in
theorem c_X8_zeros (l : Launch) (D : va_G) (cy : Nat → ClassId) (ta : Nat) (m_now : Nat) (m_rootWhich : Nat) (m_undone : Nat) (m_slots : Nat) (m_slotKind : Nat) (m_hasSlot : Nat) (m_sheetBits : Nat) (m_sheetSize : Nat) (m_sheets : Nat) (m_fresh : Nat) (m_signs : Nat) (m_atNought : Nat) (m_change : Nat) (m_table : Nat) (m_carried : Nat) (nw : Nat → Int32) (u : Nat) (fi : Int32) (aa : Int64) (bb : Int64) (dd : Int64) (ro : Nat) (rt : Nat → Int32) (db : Int32) (mn : Nat) (k : Nat) (n : Nat) (hn12 : nw 12 = nI n) (hn : n ≤ 8) (hn0 : 0 < n) (hk : k < 63) : yk_Ci l D vwCl (yk_ty cy) yX8_zeros wsX8_zeros 4 101 [.ref ta, .int (nI k)] [(ta, .inr (8, [.ref m_now, .ref m_undone, .ref m_slots, .ref m_slotKind, .ref m_hasSlot, .ref m_sheetBits, .ref m_sheetSize, .ref m_sheets, .int (nI u), .int fi, .ref m_fresh, .long aa, .long bb, .long dd, .int (nI ro), .ref m_rootWhich, .int db, .ref m_signs, .ref m_atNought, .int (nI mn), .ref m_change, .ref m_table, .ref m_carried])), (m_now, .inl (cy 0, 29, .inl nw)), (m_rootWhich, .inl (cy 0, 2, .inl rt))] ((f_X8_zeros nw ro rt db k n).1) [(ta, .inr (8, [.ref m_now, .ref m_undone, .ref m_slots, .ref m_slotKind, .ref m_hasSlot, .ref m_sheetBits, .ref m_sheetSize, .ref m_sheets, .int (nI u), .int fi, .ref m_fresh, .long ((f_X8_zeros nw ro rt db k n).2.1), .long ((f_X8_zeros nw ro rt db k n).2.2.1), .long ((f_X8_zeros nw ro rt db k n).2.2.2.1), .int (nI ((f_X8_zeros nw ro rt db k n).2.2.2.2.1)), .ref m_rootWhich, .int ((f_X8_zeros nw ro rt db k n).2.2.2.2.2.1), .ref m_signs, .ref m_atNought, .int (nI mn), .ref m_change, .ref m_table, .ref m_carried])), (m_now, .inl (cy 0, 29, .inl nw)), (m_rootWhich, .inl (cy 0, 2, .inl ((f_X8_zeros nw ro rt db k n).2.2.2.2.2.2)))] := by
  refine yk_eI (cc := cX8_zeros) (maxL := 2) (by decide) rfl (Nat.le_of_ble_eq_true rfl) rfl ?_
  intro p e R s m args below meth c A Q ls H locs hx hb hml hown hts hRf hRl hA hK hG hP hD hS hl hQ
  have hP : va_P D vwCl [(ta, .inr (8, [.ref m_now, .ref m_undone, .ref m_slots, .ref m_slotKind, .ref m_hasSlot, .ref m_sheetBits, .ref m_sheetSize, .ref m_sheets, .int (nI u), .int fi, .ref m_fresh, .long aa, .long bb, .long dd, .int (nI ro), .ref m_rootWhich, .int db, .ref m_signs, .ref m_atNought, .int (nI mn), .ref m_change, .ref m_table, .ref m_carried])), (m_now, .inl (cy 0, 29, .inl nw)), (m_rootWhich, .inl (cy 0, 2, .inl rt))] H := hP
  have hl : lv_has ls 2 [(0, .ref ta), (1, .int (nI k))] := hl
  have hown : s.vm.findClass RX8 = some m.cls := hown
  have hF : (f_X8_zeros nw ro rt db k n) = (f_X8_zeros nw ro rt db k n) := rfl
  refine lv_aload_n hx hb dX8_zeros_0 rfl (lv_at hl 0 rfl) ?_
  refine lv_iload_n hx hb dX8_zeros_1 rfl (lv_at hl 1 rfl) ?_
  refine yk_v [0, 1] (va_runV (As := [.int (nI k)]) (rest := []) ⟨hx, hb, hml, hown, hts⟩ (c_X8_cross l D cy ta m_now m_undone m_slots m_slotKind m_hasSlot m_sheetBits m_sheetSize m_sheets m_fresh m_rootWhich m_signs m_atNought m_change m_table m_carried nw u fi aa bb dd ro db mn k n hn12 hn hn0 hk H.size) (cwV 1 hts gX8_zeros_X8_cross rfl rfl rfl hv_X8_cross (yk_room hRf hRl rfl rfl)) (yk_pv (q := (RX8, TX8, 23)) hG hA hS hK hP hD [0, 1] (by decide +kernel) rfl rfl rfl) rfl rfl hl.1 rfl (lv_room (Nat.le_of_ble_eq_true rfl)) dX8_zeros_2 ⟨Nat.zero_le _, Nat.zero_le _⟩) hP hD hS hA rfl (Eq.trans (b := [ta, m_now]) rfl rfl) (fun H locs hP9 hD9 hS9 => ?_)
  replace hP : va_P D vwCl [(ta, .inr (8, [.ref m_now, .ref m_undone, .ref m_slots, .ref m_slotKind, .ref m_hasSlot, .ref m_sheetBits, .ref m_sheetSize, .ref m_sheets, .int (nI u), .int fi, .ref m_fresh, .long ((f_X8_cross nw k n).1), .long ((f_X8_cross nw k n).2.1), .long ((f_X8_cross nw k n).2.2), .int (nI ro), .ref m_rootWhich, .int db, .ref m_signs, .ref m_atNought, .int (nI mn), .ref m_change, .ref m_table, .ref m_carried])), (m_now, .inl (cy 0, 29, .inl nw)), (m_rootWhich, .inl (cy 0, 2, .inl rt))] H := hP9
  replace hD : va_D A [(ta, .inr (8, [.ref m_now, .ref m_undone, .ref m_slots, .ref m_slotKind, .ref m_hasSlot, .ref m_sheetBits, .ref m_sheetSize, .ref m_sheets, .int (nI u), .int fi, .ref m_fresh, .long ((f_X8_cross nw k n).1), .long ((f_X8_cross nw k n).2.1), .long ((f_X8_cross nw k n).2.2), .int (nI ro), .ref m_rootWhich, .int db, .ref m_signs, .ref m_atNought, .int (nI mn), .ref m_change, .ref m_table, .ref m_carried])), (m_now, .inl (cy 0, 29, .inl nw)), (m_rootWhich, .inl (cy 0, 2, .inl rt))] := hD9
  replace hS := hS9
  clear hP9 hD9 hS9
  refine lv_aload_n hx hb dX8_zeros_5 rfl (lv_at hl 0 rfl) ?_
  refine va_get (D := D) (ci := 8) (v := .long ((f_X8_cross nw k n).1)) (C := RX8) (T := TX8) (N := 23) hx hb hts uX8_zeros_X8 hown hK hP 0 rfl rfl 11 (by decide) (hts _ kX8_zeros_0) (fun _ h9 => h9) rfl dX8_zeros_6 ?_
  refine lv_lconst (v := 0) hx hb dX8_zeros_9 (by decide) ?_
  refine W.lcmp hx hb dX8_zeros_10 ?_
  refine lv_if_ne (tgt := 34) hx hb dX8_zeros_11 (by decide) (fun hc1 => ?_) (fun hc1 => ?_)
  · replace hF := hF.trans (if_neg hc1)
    refine lv_aload_n hx hb dX8_zeros_34 rfl (lv_at hl 0 rfl) ?_
    refine yk_v [0, 2] (va_runV (As := []) (rest := []) ⟨hx, hb, hml, hown, hts⟩ (c_X8_findRoots l D cy ta m_rootWhich m_now m_undone m_slots m_slotKind m_hasSlot m_sheetBits m_sheetSize m_sheets m_fresh m_signs m_atNought m_change m_table m_carried u fi ((f_X8_cross nw k n).1) ((f_X8_cross nw k n).2.1) ((f_X8_cross nw k n).2.2) ro rt db mn H.size) (cwV 0 hts gX8_zeros_X8_findRoots rfl rfl rfl hv_X8_findRoots (yk_room hRf hRl rfl rfl)) (yk_pv (q := (RX8, TX8, 23)) hG hA hS hK hP hD [0, 2] (by decide +kernel) rfl rfl rfl) rfl rfl hl.1 rfl (lv_room (Nat.le_of_ble_eq_true rfl)) dX8_zeros_35 ⟨Nat.zero_le _, Nat.zero_le _⟩) hP hD hS hA rfl (Eq.trans (b := [ta, m_rootWhich]) rfl rfl) (fun H locs hP9 hD9 hS9 => ?_)
    replace hP : va_P D vwCl [(ta, .inr (8, [.ref m_now, .ref m_undone, .ref m_slots, .ref m_slotKind, .ref m_hasSlot, .ref m_sheetBits, .ref m_sheetSize, .ref m_sheets, .int (nI u), .int fi, .ref m_fresh, .long ((f_X8_cross nw k n).1), .long ((f_X8_cross nw k n).2.1), .long ((f_X8_cross nw k n).2.2), .int (nI ((f_X8_findRoots ((f_X8_cross nw k n).1) ((f_X8_cross nw k n).2.1) ((f_X8_cross nw k n).2.2) rt).1)), .ref m_rootWhich, .int ((f_X8_findRoots ((f_X8_cross nw k n).1) ((f_X8_cross nw k n).2.1) ((f_X8_cross nw k n).2.2) rt).2.1), .ref m_signs, .ref m_atNought, .int (nI mn), .ref m_change, .ref m_table, .ref m_carried])), (m_now, .inl (cy 0, 29, .inl nw)), (m_rootWhich, .inl (cy 0, 2, .inl ((f_X8_findRoots ((f_X8_cross nw k n).1) ((f_X8_cross nw k n).2.1) ((f_X8_cross nw k n).2.2) rt).2.2)))] H := hP9
    replace hD : va_D A [(ta, .inr (8, [.ref m_now, .ref m_undone, .ref m_slots, .ref m_slotKind, .ref m_hasSlot, .ref m_sheetBits, .ref m_sheetSize, .ref m_sheets, .int (nI u), .int fi, .ref m_fresh, .long ((f_X8_cross nw k n).1), .long ((f_X8_cross nw k n).2.1), .long ((f_X8_cross nw k n).2.2), .int (nI ((f_X8_findRoots ((f_X8_cross nw k n).1) ((f_X8_cross nw k n).2.1) ((f_X8_cross nw k n).2.2) rt).1)), .ref m_rootWhich, .int ((f_X8_findRoots ((f_X8_cross nw k n).1) ((f_X8_cross nw k n).2.1) ((f_X8_cross nw k n).2.2) rt).2.1), .ref m_signs, .ref m_atNought, .int (nI mn), .ref m_change, .ref m_table, .ref m_carried])), (m_now, .inl (cy 0, 29, .inl nw)), (m_rootWhich, .inl (cy 0, 2, .inl ((f_X8_findRoots ((f_X8_cross nw k n).1) ((f_X8_cross nw k n).2.1) ((f_X8_cross nw k n).2.2) rt).2.2)))] := hD9
    replace hS := hS9
    clear hP9 hD9 hS9
    refine lv_aload_n hx hb dX8_zeros_38 rfl (lv_at hl 0 rfl) ?_
    refine va_get (D := D) (ci := 8) (v := .int (nI ((f_X8_findRoots ((f_X8_cross nw k n).1) ((f_X8_cross nw k n).2.1) ((f_X8_cross nw k n).2.2) rt).1))) (C := RX8) (T := TX8) (N := 23) hx hb hts uX8_zeros_X8 hown hK hP 0 rfl rfl 14 (by decide) (hts _ kX8_zeros_1) (fun _ h9 => h9) rfl dX8_zeros_39 ?_
    refine lv_aload_n hx hb dX8_zeros_42 rfl (lv_at hl 0 rfl) ?_
    refine va_get (D := D) (ci := 8) (v := .long ((f_X8_cross nw k n).2.2)) (C := RX8) (T := TX8) (N := 23) hx hb hts uX8_zeros_X8 hown hK hP 0 rfl rfl 13 (by decide) (hts _ kX8_zeros_2) (fun _ h9 => h9) rfl dX8_zeros_43 ?_
    refine lv_lconst (v := 0) hx hb dX8_zeros_46 (by decide) ?_
    refine W.lcmp hx hb dX8_zeros_47 ?_
    have J4 : ∀ (v3 : Int32) (H : Heap) (locs : List Loc) (ls : Array Slot), v3 = (if (lg_cmp ((f_X8_cross nw k n).2.2) 0) = 0 then 1 else 0) → va_P D vwCl [(ta, .inr (8, [.ref m_now, .ref m_undone, .ref m_slots, .ref m_slotKind, .ref m_hasSlot, .ref m_sheetBits, .ref m_sheetSize, .ref m_sheets, .int (nI u), .int fi, .ref m_fresh, .long ((f_X8_cross nw k n).1), .long ((f_X8_cross nw k n).2.1), .long ((f_X8_cross nw k n).2.2), .int (nI ((f_X8_findRoots ((f_X8_cross nw k n).1) ((f_X8_cross nw k n).2.1) ((f_X8_cross nw k n).2.2) rt).1)), .ref m_rootWhich, .int ((f_X8_findRoots ((f_X8_cross nw k n).1) ((f_X8_cross nw k n).2.1) ((f_X8_cross nw k n).2.2) rt).2.1), .ref m_signs, .ref m_atNought, .int (nI mn), .ref m_change, .ref m_table, .ref m_carried])), (m_now, .inl (cy 0, 29, .inl nw)), (m_rootWhich, .inl (cy 0, 2, .inl ((f_X8_findRoots ((f_X8_cross nw k n).1) ((f_X8_cross nw k n).2.1) ((f_X8_cross nw k n).2.2) rt).2.2)))] H → va_D A [(ta, .inr (8, [.ref m_now, .ref m_undone, .ref m_slots, .ref m_slotKind, .ref m_hasSlot, .ref m_sheetBits, .ref m_sheetSize, .ref m_sheets, .int (nI u), .int fi, .ref m_fresh, .long ((f_X8_cross nw k n).1), .long ((f_X8_cross nw k n).2.1), .long ((f_X8_cross nw k n).2.2), .int (nI ((f_X8_findRoots ((f_X8_cross nw k n).1) ((f_X8_cross nw k n).2.1) ((f_X8_cross nw k n).2.2) rt).1)), .ref m_rootWhich, .int ((f_X8_findRoots ((f_X8_cross nw k n).1) ((f_X8_cross nw k n).2.1) ((f_X8_cross nw k n).2.2) rt).2.1), .ref m_signs, .ref m_atNought, .int (nI mn), .ref m_change, .ref m_table, .ref m_carried])), (m_now, .inl (cy 0, 29, .inl nw)), (m_rootWhich, .inl (cy 0, 2, .inl ((f_X8_findRoots ((f_X8_cross nw k n).1) ((f_X8_cross nw k n).2.1) ((f_X8_cross nw k n).2.2) rt).2.2)))] → va_S A s.heap H locs → lv_has ls 2 [(0, .ref ta), (1, .int (nI k))] → W p l e R s m args below meth c H locs 0 0 Q (F0 m 56 ls [.int v3, .int (nI ((f_X8_findRoots ((f_X8_cross nw k n).1) ((f_X8_cross nw k n).2.1) ((f_X8_cross nw k n).2.2) rt).1))]) := by
      clear hP hD hS hl
      intro v3 H locs ls ev3
      rw [ev3]
      clear ev3
      intro hP hD hS hl
      refine lv_iadd hx hb dX8_zeros_56 ?_
      refine lv_aload_n hx hb dX8_zeros_57 rfl (lv_at hl 0 rfl) ?_
      refine va_get (D := D) (ci := 8) (v := .long ((f_X8_cross nw k n).1)) (C := RX8) (T := TX8) (N := 23) hx hb hts uX8_zeros_X8 hown hK hP 0 rfl rfl 11 (by decide) (hts _ kX8_zeros_0) (fun _ h9 => h9) rfl dX8_zeros_58 ?_
      refine lv_aload_n hx hb dX8_zeros_61 rfl (lv_at hl 0 rfl) ?_
      refine va_get (D := D) (ci := 8) (v := .long ((f_X8_cross nw k n).2.1)) (C := RX8) (T := TX8) (N := 23) hx hb hts uX8_zeros_X8 hown hK hP 0 rfl rfl 12 (by decide) (hts _ kX8_zeros_3) (fun _ h9 => h9) rfl dX8_zeros_62 ?_
      refine lv_ladd hx hb dX8_zeros_65 ?_
      refine lv_aload_n hx hb dX8_zeros_66 rfl (lv_at hl 0 rfl) ?_
      refine va_get (D := D) (ci := 8) (v := .long ((f_X8_cross nw k n).2.2)) (C := RX8) (T := TX8) (N := 23) hx hb hts uX8_zeros_X8 hown hK hP 0 rfl rfl 13 (by decide) (hts _ kX8_zeros_2) (fun _ h9 => h9) rfl dX8_zeros_67 ?_
      refine lv_ladd hx hb dX8_zeros_70 ?_
      refine lv_lconst (v := 0) hx hb dX8_zeros_71 (by decide) ?_
      refine W.lcmp hx hb dX8_zeros_72 ?_
      have J7 : ∀ (v6 : Int32) (H : Heap) (locs : List Loc) (ls : Array Slot), v6 = (if (lg_cmp ((((f_X8_cross nw k n).1) + ((f_X8_cross nw k n).2.1)) + ((f_X8_cross nw k n).2.2)) 0) = 0 then 1 else 0) → va_P D vwCl [(ta, .inr (8, [.ref m_now, .ref m_undone, .ref m_slots, .ref m_slotKind, .ref m_hasSlot, .ref m_sheetBits, .ref m_sheetSize, .ref m_sheets, .int (nI u), .int fi, .ref m_fresh, .long ((f_X8_cross nw k n).1), .long ((f_X8_cross nw k n).2.1), .long ((f_X8_cross nw k n).2.2), .int (nI ((f_X8_findRoots ((f_X8_cross nw k n).1) ((f_X8_cross nw k n).2.1) ((f_X8_cross nw k n).2.2) rt).1)), .ref m_rootWhich, .int ((f_X8_findRoots ((f_X8_cross nw k n).1) ((f_X8_cross nw k n).2.1) ((f_X8_cross nw k n).2.2) rt).2.1), .ref m_signs, .ref m_atNought, .int (nI mn), .ref m_change, .ref m_table, .ref m_carried])), (m_now, .inl (cy 0, 29, .inl nw)), (m_rootWhich, .inl (cy 0, 2, .inl ((f_X8_findRoots ((f_X8_cross nw k n).1) ((f_X8_cross nw k n).2.1) ((f_X8_cross nw k n).2.2) rt).2.2)))] H → va_D A [(ta, .inr (8, [.ref m_now, .ref m_undone, .ref m_slots, .ref m_slotKind, .ref m_hasSlot, .ref m_sheetBits, .ref m_sheetSize, .ref m_sheets, .int (nI u), .int fi, .ref m_fresh, .long ((f_X8_cross nw k n).1), .long ((f_X8_cross nw k n).2.1), .long ((f_X8_cross nw k n).2.2), .int (nI ((f_X8_findRoots ((f_X8_cross nw k n).1) ((f_X8_cross nw k n).2.1) ((f_X8_cross nw k n).2.2) rt).1)), .ref m_rootWhich, .int ((f_X8_findRoots ((f_X8_cross nw k n).1) ((f_X8_cross nw k n).2.1) ((f_X8_cross nw k n).2.2) rt).2.1), .ref m_signs, .ref m_atNought, .int (nI mn), .ref m_change, .ref m_table, .ref m_carried])), (m_now, .inl (cy 0, 29, .inl nw)), (m_rootWhich, .inl (cy 0, 2, .inl ((f_X8_findRoots ((f_X8_cross nw k n).1) ((f_X8_cross nw k n).2.1) ((f_X8_cross nw k n).2.2) rt).2.2)))] → va_S A s.heap H locs → lv_has ls 2 [(0, .ref ta), (1, .int (nI k))] → W p l e R s m args below meth c H locs 0 0 Q (F0 m 81 ls [.int v6, .int ((nI ((f_X8_findRoots ((f_X8_cross nw k n).1) ((f_X8_cross nw k n).2.1) ((f_X8_cross nw k n).2.2) rt).1)) + (if (lg_cmp ((f_X8_cross nw k n).2.2) 0) = 0 then 1 else 0))]) := by
        clear hP hD hS hl
        intro v6 H locs ls ev6
        rw [ev6]
        clear ev6
        intro hP hD hS hl
        refine lv_iadd hx hb dX8_zeros_81 ?_
        have hF : f_X8_zeros nw ro rt db k n = ((((nI ((f_X8_findRoots ((f_X8_cross nw k n).1) ((f_X8_cross nw k n).2.1) ((f_X8_cross nw k n).2.2) rt).1)) + (if (lg_cmp ((f_X8_cross nw k n).2.2) 0) = 0 then 1 else 0)) + (if (lg_cmp ((((f_X8_cross nw k n).1) + ((f_X8_cross nw k n).2.1)) + ((f_X8_cross nw k n).2.2)) 0) = 0 then 1 else 0)), ((f_X8_cross nw k n).1), ((f_X8_cross nw k n).2.1), ((f_X8_cross nw k n).2.2), ((f_X8_findRoots ((f_X8_cross nw k n).1) ((f_X8_cross nw k n).2.1) ((f_X8_cross nw k n).2.2) rt).1), ((f_X8_findRoots ((f_X8_cross nw k n).1) ((f_X8_cross nw k n).2.1) ((f_X8_cross nw k n).2.2) rt).2.1), ((f_X8_findRoots ((f_X8_cross nw k n).1) ((f_X8_cross nw k n).2.1) ((f_X8_cross nw k n).2.2) rt).2.2)) := hF
        have hf0 := yk_fst hF
        have hg0 := yk_snd hF
        have hf1 := yk_fst hg0
        have hg1 := yk_snd hg0
        have hf2 := yk_fst hg1
        have hg2 := yk_snd hg1
        have hf3 := yk_fst hg2
        have hg3 := yk_snd hg2
        have hf4 := yk_fst hg3
        have hg4 := yk_snd hg3
        have hf5 := yk_fst hg4
        have hg5 := yk_snd hg4
        rw [hf0, hf1, hf2, hf3, hf4, hf5, hg5] at hQ
        exact hQ _ _ _ _ dX8_zeros_82 hP hS
      refine lv_if_ne (tgt := 80) hx hb dX8_zeros_73 (by decide) (fun hc5 => ?_) (fun hc5 => ?_)
      · refine lv_iconst (v := 0) hx hb dX8_zeros_80 (by decide) ?_
        exact J7 _ _ _ _ ((if_neg hc5).symm) hP hD hS (lv_sub hl [0, 1] rfl)
      · refine lv_iconst (v := 1) hx hb dX8_zeros_76 (by decide) ?_
        refine lv_goto (tgt := 81) hx hb dX8_zeros_77 (by decide) ?_
        exact J7 _ _ _ _ ((if_pos hc5).symm) hP hD hS (lv_sub hl [0, 1] rfl)
    refine lv_if_ne (tgt := 55) hx hb dX8_zeros_48 (by decide) (fun hc2 => ?_) (fun hc2 => ?_)
    · refine lv_iconst (v := 0) hx hb dX8_zeros_55 (by decide) ?_
      exact J4 _ _ _ _ ((if_neg hc2).symm) hP hD hS (lv_sub hl [0, 1] rfl)
    · refine lv_iconst (v := 1) hx hb dX8_zeros_51 (by decide) ?_
      refine lv_goto (tgt := 56) hx hb dX8_zeros_52 (by decide) ?_
      exact J4 _ _ _ _ ((if_pos hc2).symm) hP hD hS (lv_sub hl [0, 1] rfl)
  · replace hF := hF.trans (if_pos hc1)
    refine lv_aload_n hx hb dX8_zeros_14 rfl (lv_at hl 0 rfl) ?_
    refine va_get (D := D) (ci := 8) (v := .long ((f_X8_cross nw k n).2.1)) (C := RX8) (T := TX8) (N := 23) hx hb hts uX8_zeros_X8 hown hK hP 0 rfl rfl 12 (by decide) (hts _ kX8_zeros_3) (fun _ h9 => h9) rfl dX8_zeros_15 ?_
    refine lv_lconst (v := 0) hx hb dX8_zeros_18 (by decide) ?_
    refine W.lcmp hx hb dX8_zeros_19 ?_
    refine lv_if_ne (tgt := 34) hx hb dX8_zeros_20 (by decide) (fun hc8 => ?_) (fun hc8 => ?_)
    · replace hF := hF.trans (if_neg hc8)
      refine lv_aload_n hx hb dX8_zeros_34 rfl (lv_at hl 0 rfl) ?_
      refine yk_v [0, 2] (va_runV (As := []) (rest := []) ⟨hx, hb, hml, hown, hts⟩ (c_X8_findRoots l D cy ta m_rootWhich m_now m_undone m_slots m_slotKind m_hasSlot m_sheetBits m_sheetSize m_sheets m_fresh m_signs m_atNought m_change m_table m_carried u fi ((f_X8_cross nw k n).1) ((f_X8_cross nw k n).2.1) ((f_X8_cross nw k n).2.2) ro rt db mn H.size) (cwV 0 hts gX8_zeros_X8_findRoots rfl rfl rfl hv_X8_findRoots (yk_room hRf hRl rfl rfl)) (yk_pv (q := (RX8, TX8, 23)) hG hA hS hK hP hD [0, 2] (by decide +kernel) rfl rfl rfl) rfl rfl hl.1 rfl (lv_room (Nat.le_of_ble_eq_true rfl)) dX8_zeros_35 ⟨Nat.zero_le _, Nat.zero_le _⟩) hP hD hS hA rfl (Eq.trans (b := [ta, m_rootWhich]) rfl rfl) (fun H locs hP9 hD9 hS9 => ?_)
      replace hP : va_P D vwCl [(ta, .inr (8, [.ref m_now, .ref m_undone, .ref m_slots, .ref m_slotKind, .ref m_hasSlot, .ref m_sheetBits, .ref m_sheetSize, .ref m_sheets, .int (nI u), .int fi, .ref m_fresh, .long ((f_X8_cross nw k n).1), .long ((f_X8_cross nw k n).2.1), .long ((f_X8_cross nw k n).2.2), .int (nI ((f_X8_findRoots ((f_X8_cross nw k n).1) ((f_X8_cross nw k n).2.1) ((f_X8_cross nw k n).2.2) rt).1)), .ref m_rootWhich, .int ((f_X8_findRoots ((f_X8_cross nw k n).1) ((f_X8_cross nw k n).2.1) ((f_X8_cross nw k n).2.2) rt).2.1), .ref m_signs, .ref m_atNought, .int (nI mn), .ref m_change, .ref m_table, .ref m_carried])), (m_now, .inl (cy 0, 29, .inl nw)), (m_rootWhich, .inl (cy 0, 2, .inl ((f_X8_findRoots ((f_X8_cross nw k n).1) ((f_X8_cross nw k n).2.1) ((f_X8_cross nw k n).2.2) rt).2.2)))] H := hP9
      replace hD : va_D A [(ta, .inr (8, [.ref m_now, .ref m_undone, .ref m_slots, .ref m_slotKind, .ref m_hasSlot, .ref m_sheetBits, .ref m_sheetSize, .ref m_sheets, .int (nI u), .int fi, .ref m_fresh, .long ((f_X8_cross nw k n).1), .long ((f_X8_cross nw k n).2.1), .long ((f_X8_cross nw k n).2.2), .int (nI ((f_X8_findRoots ((f_X8_cross nw k n).1) ((f_X8_cross nw k n).2.1) ((f_X8_cross nw k n).2.2) rt).1)), .ref m_rootWhich, .int ((f_X8_findRoots ((f_X8_cross nw k n).1) ((f_X8_cross nw k n).2.1) ((f_X8_cross nw k n).2.2) rt).2.1), .ref m_signs, .ref m_atNought, .int (nI mn), .ref m_change, .ref m_table, .ref m_carried])), (m_now, .inl (cy 0, 29, .inl nw)), (m_rootWhich, .inl (cy 0, 2, .inl ((f_X8_findRoots ((f_X8_cross nw k n).1) ((f_X8_cross nw k n).2.1) ((f_X8_cross nw k n).2.2) rt).2.2)))] := hD9
      replace hS := hS9
      clear hP9 hD9 hS9
      refine lv_aload_n hx hb dX8_zeros_38 rfl (lv_at hl 0 rfl) ?_
      refine va_get (D := D) (ci := 8) (v := .int (nI ((f_X8_findRoots ((f_X8_cross nw k n).1) ((f_X8_cross nw k n).2.1) ((f_X8_cross nw k n).2.2) rt).1))) (C := RX8) (T := TX8) (N := 23) hx hb hts uX8_zeros_X8 hown hK hP 0 rfl rfl 14 (by decide) (hts _ kX8_zeros_1) (fun _ h9 => h9) rfl dX8_zeros_39 ?_
      refine lv_aload_n hx hb dX8_zeros_42 rfl (lv_at hl 0 rfl) ?_
      refine va_get (D := D) (ci := 8) (v := .long ((f_X8_cross nw k n).2.2)) (C := RX8) (T := TX8) (N := 23) hx hb hts uX8_zeros_X8 hown hK hP 0 rfl rfl 13 (by decide) (hts _ kX8_zeros_2) (fun _ h9 => h9) rfl dX8_zeros_43 ?_
      refine lv_lconst (v := 0) hx hb dX8_zeros_46 (by decide) ?_
      refine W.lcmp hx hb dX8_zeros_47 ?_
      have J11 : ∀ (v10 : Int32) (H : Heap) (locs : List Loc) (ls : Array Slot), v10 = (if (lg_cmp ((f_X8_cross nw k n).2.2) 0) = 0 then 1 else 0) → va_P D vwCl [(ta, .inr (8, [.ref m_now, .ref m_undone, .ref m_slots, .ref m_slotKind, .ref m_hasSlot, .ref m_sheetBits, .ref m_sheetSize, .ref m_sheets, .int (nI u), .int fi, .ref m_fresh, .long ((f_X8_cross nw k n).1), .long ((f_X8_cross nw k n).2.1), .long ((f_X8_cross nw k n).2.2), .int (nI ((f_X8_findRoots ((f_X8_cross nw k n).1) ((f_X8_cross nw k n).2.1) ((f_X8_cross nw k n).2.2) rt).1)), .ref m_rootWhich, .int ((f_X8_findRoots ((f_X8_cross nw k n).1) ((f_X8_cross nw k n).2.1) ((f_X8_cross nw k n).2.2) rt).2.1), .ref m_signs, .ref m_atNought, .int (nI mn), .ref m_change, .ref m_table, .ref m_carried])), (m_now, .inl (cy 0, 29, .inl nw)), (m_rootWhich, .inl (cy 0, 2, .inl ((f_X8_findRoots ((f_X8_cross nw k n).1) ((f_X8_cross nw k n).2.1) ((f_X8_cross nw k n).2.2) rt).2.2)))] H → va_D A [(ta, .inr (8, [.ref m_now, .ref m_undone, .ref m_slots, .ref m_slotKind, .ref m_hasSlot, .ref m_sheetBits, .ref m_sheetSize, .ref m_sheets, .int (nI u), .int fi, .ref m_fresh, .long ((f_X8_cross nw k n).1), .long ((f_X8_cross nw k n).2.1), .long ((f_X8_cross nw k n).2.2), .int (nI ((f_X8_findRoots ((f_X8_cross nw k n).1) ((f_X8_cross nw k n).2.1) ((f_X8_cross nw k n).2.2) rt).1)), .ref m_rootWhich, .int ((f_X8_findRoots ((f_X8_cross nw k n).1) ((f_X8_cross nw k n).2.1) ((f_X8_cross nw k n).2.2) rt).2.1), .ref m_signs, .ref m_atNought, .int (nI mn), .ref m_change, .ref m_table, .ref m_carried])), (m_now, .inl (cy 0, 29, .inl nw)), (m_rootWhich, .inl (cy 0, 2, .inl ((f_X8_findRoots ((f_X8_cross nw k n).1) ((f_X8_cross nw k n).2.1) ((f_X8_cross nw k n).2.2) rt).2.2)))] → va_S A s.heap H locs → lv_has ls 2 [(0, .ref ta), (1, .int (nI k))] → W p l e R s m args below meth c H locs 0 0 Q (F0 m 56 ls [.int v10, .int (nI ((f_X8_findRoots ((f_X8_cross nw k n).1) ((f_X8_cross nw k n).2.1) ((f_X8_cross nw k n).2.2) rt).1))]) := by
        clear hP hD hS hl
        intro v10 H locs ls ev10
        rw [ev10]
        clear ev10
        intro hP hD hS hl
        refine lv_iadd hx hb dX8_zeros_56 ?_
        refine lv_aload_n hx hb dX8_zeros_57 rfl (lv_at hl 0 rfl) ?_
        refine va_get (D := D) (ci := 8) (v := .long ((f_X8_cross nw k n).1)) (C := RX8) (T := TX8) (N := 23) hx hb hts uX8_zeros_X8 hown hK hP 0 rfl rfl 11 (by decide) (hts _ kX8_zeros_0) (fun _ h9 => h9) rfl dX8_zeros_58 ?_
        refine lv_aload_n hx hb dX8_zeros_61 rfl (lv_at hl 0 rfl) ?_
        refine va_get (D := D) (ci := 8) (v := .long ((f_X8_cross nw k n).2.1)) (C := RX8) (T := TX8) (N := 23) hx hb hts uX8_zeros_X8 hown hK hP 0 rfl rfl 12 (by decide) (hts _ kX8_zeros_3) (fun _ h9 => h9) rfl dX8_zeros_62 ?_
        refine lv_ladd hx hb dX8_zeros_65 ?_
        refine lv_aload_n hx hb dX8_zeros_66 rfl (lv_at hl 0 rfl) ?_
        refine va_get (D := D) (ci := 8) (v := .long ((f_X8_cross nw k n).2.2)) (C := RX8) (T := TX8) (N := 23) hx hb hts uX8_zeros_X8 hown hK hP 0 rfl rfl 13 (by decide) (hts _ kX8_zeros_2) (fun _ h9 => h9) rfl dX8_zeros_67 ?_
        refine lv_ladd hx hb dX8_zeros_70 ?_
        refine lv_lconst (v := 0) hx hb dX8_zeros_71 (by decide) ?_
        refine W.lcmp hx hb dX8_zeros_72 ?_
        have J14 : ∀ (v13 : Int32) (H : Heap) (locs : List Loc) (ls : Array Slot), v13 = (if (lg_cmp ((((f_X8_cross nw k n).1) + ((f_X8_cross nw k n).2.1)) + ((f_X8_cross nw k n).2.2)) 0) = 0 then 1 else 0) → va_P D vwCl [(ta, .inr (8, [.ref m_now, .ref m_undone, .ref m_slots, .ref m_slotKind, .ref m_hasSlot, .ref m_sheetBits, .ref m_sheetSize, .ref m_sheets, .int (nI u), .int fi, .ref m_fresh, .long ((f_X8_cross nw k n).1), .long ((f_X8_cross nw k n).2.1), .long ((f_X8_cross nw k n).2.2), .int (nI ((f_X8_findRoots ((f_X8_cross nw k n).1) ((f_X8_cross nw k n).2.1) ((f_X8_cross nw k n).2.2) rt).1)), .ref m_rootWhich, .int ((f_X8_findRoots ((f_X8_cross nw k n).1) ((f_X8_cross nw k n).2.1) ((f_X8_cross nw k n).2.2) rt).2.1), .ref m_signs, .ref m_atNought, .int (nI mn), .ref m_change, .ref m_table, .ref m_carried])), (m_now, .inl (cy 0, 29, .inl nw)), (m_rootWhich, .inl (cy 0, 2, .inl ((f_X8_findRoots ((f_X8_cross nw k n).1) ((f_X8_cross nw k n).2.1) ((f_X8_cross nw k n).2.2) rt).2.2)))] H → va_D A [(ta, .inr (8, [.ref m_now, .ref m_undone, .ref m_slots, .ref m_slotKind, .ref m_hasSlot, .ref m_sheetBits, .ref m_sheetSize, .ref m_sheets, .int (nI u), .int fi, .ref m_fresh, .long ((f_X8_cross nw k n).1), .long ((f_X8_cross nw k n).2.1), .long ((f_X8_cross nw k n).2.2), .int (nI ((f_X8_findRoots ((f_X8_cross nw k n).1) ((f_X8_cross nw k n).2.1) ((f_X8_cross nw k n).2.2) rt).1)), .ref m_rootWhich, .int ((f_X8_findRoots ((f_X8_cross nw k n).1) ((f_X8_cross nw k n).2.1) ((f_X8_cross nw k n).2.2) rt).2.1), .ref m_signs, .ref m_atNought, .int (nI mn), .ref m_change, .ref m_table, .ref m_carried])), (m_now, .inl (cy 0, 29, .inl nw)), (m_rootWhich, .inl (cy 0, 2, .inl ((f_X8_findRoots ((f_X8_cross nw k n).1) ((f_X8_cross nw k n).2.1) ((f_X8_cross nw k n).2.2) rt).2.2)))] → va_S A s.heap H locs → lv_has ls 2 [(0, .ref ta), (1, .int (nI k))] → W p l e R s m args below meth c H locs 0 0 Q (F0 m 81 ls [.int v13, .int ((nI ((f_X8_findRoots ((f_X8_cross nw k n).1) ((f_X8_cross nw k n).2.1) ((f_X8_cross nw k n).2.2) rt).1)) + (if (lg_cmp ((f_X8_cross nw k n).2.2) 0) = 0 then 1 else 0))]) := by
          clear hP hD hS hl
          intro v13 H locs ls ev13
          rw [ev13]
          clear ev13
          intro hP hD hS hl
          refine lv_iadd hx hb dX8_zeros_81 ?_
          have hF : f_X8_zeros nw ro rt db k n = ((((nI ((f_X8_findRoots ((f_X8_cross nw k n).1) ((f_X8_cross nw k n).2.1) ((f_X8_cross nw k n).2.2) rt).1)) + (if (lg_cmp ((f_X8_cross nw k n).2.2) 0) = 0 then 1 else 0)) + (if (lg_cmp ((((f_X8_cross nw k n).1) + ((f_X8_cross nw k n).2.1)) + ((f_X8_cross nw k n).2.2)) 0) = 0 then 1 else 0)), ((f_X8_cross nw k n).1), ((f_X8_cross nw k n).2.1), ((f_X8_cross nw k n).2.2), ((f_X8_findRoots ((f_X8_cross nw k n).1) ((f_X8_cross nw k n).2.1) ((f_X8_cross nw k n).2.2) rt).1), ((f_X8_findRoots ((f_X8_cross nw k n).1) ((f_X8_cross nw k n).2.1) ((f_X8_cross nw k n).2.2) rt).2.1), ((f_X8_findRoots ((f_X8_cross nw k n).1) ((f_X8_cross nw k n).2.1) ((f_X8_cross nw k n).2.2) rt).2.2)) := hF
          have hf0 := yk_fst hF
          have hg0 := yk_snd hF
          have hf1 := yk_fst hg0
          have hg1 := yk_snd hg0
          have hf2 := yk_fst hg1
          have hg2 := yk_snd hg1
          have hf3 := yk_fst hg2
          have hg3 := yk_snd hg2
          have hf4 := yk_fst hg3
          have hg4 := yk_snd hg3
          have hf5 := yk_fst hg4
          have hg5 := yk_snd hg4
          rw [hf0, hf1, hf2, hf3, hf4, hf5, hg5] at hQ
          exact hQ _ _ _ _ dX8_zeros_82 hP hS
        refine lv_if_ne (tgt := 80) hx hb dX8_zeros_73 (by decide) (fun hc12 => ?_) (fun hc12 => ?_)
        · refine lv_iconst (v := 0) hx hb dX8_zeros_80 (by decide) ?_
          exact J14 _ _ _ _ ((if_neg hc12).symm) hP hD hS (lv_sub hl [0, 1] rfl)
        · refine lv_iconst (v := 1) hx hb dX8_zeros_76 (by decide) ?_
          refine lv_goto (tgt := 81) hx hb dX8_zeros_77 (by decide) ?_
          exact J14 _ _ _ _ ((if_pos hc12).symm) hP hD hS (lv_sub hl [0, 1] rfl)
      refine lv_if_ne (tgt := 55) hx hb dX8_zeros_48 (by decide) (fun hc9 => ?_) (fun hc9 => ?_)
      · refine lv_iconst (v := 0) hx hb dX8_zeros_55 (by decide) ?_
        exact J11 _ _ _ _ ((if_neg hc9).symm) hP hD hS (lv_sub hl [0, 1] rfl)
      · refine lv_iconst (v := 1) hx hb dX8_zeros_51 (by decide) ?_
        refine lv_goto (tgt := 56) hx hb dX8_zeros_52 (by decide) ?_
        exact J11 _ _ _ _ ((if_pos hc9).symm) hP hD hS (lv_sub hl [0, 1] rfl)
    · replace hF := hF.trans (if_pos hc8)
      refine lv_aload_n hx hb dX8_zeros_23 rfl (lv_at hl 0 rfl) ?_
      refine va_get (D := D) (ci := 8) (v := .long ((f_X8_cross nw k n).2.2)) (C := RX8) (T := TX8) (N := 23) hx hb hts uX8_zeros_X8 hown hK hP 0 rfl rfl 13 (by decide) (hts _ kX8_zeros_2) (fun _ h9 => h9) rfl dX8_zeros_24 ?_
      refine lv_lconst (v := 0) hx hb dX8_zeros_27 (by decide) ?_
      refine W.lcmp hx hb dX8_zeros_28 ?_
      refine lv_if_ne (tgt := 34) hx hb dX8_zeros_29 (by decide) (fun hc15 => ?_) (fun hc15 => ?_)
      · replace hF := hF.trans (if_neg hc15)
        refine lv_aload_n hx hb dX8_zeros_34 rfl (lv_at hl 0 rfl) ?_
        refine yk_v [0, 2] (va_runV (As := []) (rest := []) ⟨hx, hb, hml, hown, hts⟩ (c_X8_findRoots l D cy ta m_rootWhich m_now m_undone m_slots m_slotKind m_hasSlot m_sheetBits m_sheetSize m_sheets m_fresh m_signs m_atNought m_change m_table m_carried u fi ((f_X8_cross nw k n).1) ((f_X8_cross nw k n).2.1) ((f_X8_cross nw k n).2.2) ro rt db mn H.size) (cwV 0 hts gX8_zeros_X8_findRoots rfl rfl rfl hv_X8_findRoots (yk_room hRf hRl rfl rfl)) (yk_pv (q := (RX8, TX8, 23)) hG hA hS hK hP hD [0, 2] (by decide +kernel) rfl rfl rfl) rfl rfl hl.1 rfl (lv_room (Nat.le_of_ble_eq_true rfl)) dX8_zeros_35 ⟨Nat.zero_le _, Nat.zero_le _⟩) hP hD hS hA rfl (Eq.trans (b := [ta, m_rootWhich]) rfl rfl) (fun H locs hP9 hD9 hS9 => ?_)
        replace hP : va_P D vwCl [(ta, .inr (8, [.ref m_now, .ref m_undone, .ref m_slots, .ref m_slotKind, .ref m_hasSlot, .ref m_sheetBits, .ref m_sheetSize, .ref m_sheets, .int (nI u), .int fi, .ref m_fresh, .long ((f_X8_cross nw k n).1), .long ((f_X8_cross nw k n).2.1), .long ((f_X8_cross nw k n).2.2), .int (nI ((f_X8_findRoots ((f_X8_cross nw k n).1) ((f_X8_cross nw k n).2.1) ((f_X8_cross nw k n).2.2) rt).1)), .ref m_rootWhich, .int ((f_X8_findRoots ((f_X8_cross nw k n).1) ((f_X8_cross nw k n).2.1) ((f_X8_cross nw k n).2.2) rt).2.1), .ref m_signs, .ref m_atNought, .int (nI mn), .ref m_change, .ref m_table, .ref m_carried])), (m_now, .inl (cy 0, 29, .inl nw)), (m_rootWhich, .inl (cy 0, 2, .inl ((f_X8_findRoots ((f_X8_cross nw k n).1) ((f_X8_cross nw k n).2.1) ((f_X8_cross nw k n).2.2) rt).2.2)))] H := hP9
        replace hD : va_D A [(ta, .inr (8, [.ref m_now, .ref m_undone, .ref m_slots, .ref m_slotKind, .ref m_hasSlot, .ref m_sheetBits, .ref m_sheetSize, .ref m_sheets, .int (nI u), .int fi, .ref m_fresh, .long ((f_X8_cross nw k n).1), .long ((f_X8_cross nw k n).2.1), .long ((f_X8_cross nw k n).2.2), .int (nI ((f_X8_findRoots ((f_X8_cross nw k n).1) ((f_X8_cross nw k n).2.1) ((f_X8_cross nw k n).2.2) rt).1)), .ref m_rootWhich, .int ((f_X8_findRoots ((f_X8_cross nw k n).1) ((f_X8_cross nw k n).2.1) ((f_X8_cross nw k n).2.2) rt).2.1), .ref m_signs, .ref m_atNought, .int (nI mn), .ref m_change, .ref m_table, .ref m_carried])), (m_now, .inl (cy 0, 29, .inl nw)), (m_rootWhich, .inl (cy 0, 2, .inl ((f_X8_findRoots ((f_X8_cross nw k n).1) ((f_X8_cross nw k n).2.1) ((f_X8_cross nw k n).2.2) rt).2.2)))] := hD9
        replace hS := hS9
        clear hP9 hD9 hS9
        refine lv_aload_n hx hb dX8_zeros_38 rfl (lv_at hl 0 rfl) ?_
        refine va_get (D := D) (ci := 8) (v := .int (nI ((f_X8_findRoots ((f_X8_cross nw k n).1) ((f_X8_cross nw k n).2.1) ((f_X8_cross nw k n).2.2) rt).1))) (C := RX8) (T := TX8) (N := 23) hx hb hts uX8_zeros_X8 hown hK hP 0 rfl rfl 14 (by decide) (hts _ kX8_zeros_1) (fun _ h9 => h9) rfl dX8_zeros_39 ?_
        refine lv_aload_n hx hb dX8_zeros_42 rfl (lv_at hl 0 rfl) ?_
        refine va_get (D := D) (ci := 8) (v := .long ((f_X8_cross nw k n).2.2)) (C := RX8) (T := TX8) (N := 23) hx hb hts uX8_zeros_X8 hown hK hP 0 rfl rfl 13 (by decide) (hts _ kX8_zeros_2) (fun _ h9 => h9) rfl dX8_zeros_43 ?_
        refine lv_lconst (v := 0) hx hb dX8_zeros_46 (by decide) ?_
        refine W.lcmp hx hb dX8_zeros_47 ?_
        have J18 : ∀ (v17 : Int32) (H : Heap) (locs : List Loc) (ls : Array Slot), v17 = (if (lg_cmp ((f_X8_cross nw k n).2.2) 0) = 0 then 1 else 0) → va_P D vwCl [(ta, .inr (8, [.ref m_now, .ref m_undone, .ref m_slots, .ref m_slotKind, .ref m_hasSlot, .ref m_sheetBits, .ref m_sheetSize, .ref m_sheets, .int (nI u), .int fi, .ref m_fresh, .long ((f_X8_cross nw k n).1), .long ((f_X8_cross nw k n).2.1), .long ((f_X8_cross nw k n).2.2), .int (nI ((f_X8_findRoots ((f_X8_cross nw k n).1) ((f_X8_cross nw k n).2.1) ((f_X8_cross nw k n).2.2) rt).1)), .ref m_rootWhich, .int ((f_X8_findRoots ((f_X8_cross nw k n).1) ((f_X8_cross nw k n).2.1) ((f_X8_cross nw k n).2.2) rt).2.1), .ref m_signs, .ref m_atNought, .int (nI mn), .ref m_change, .ref m_table, .ref m_carried])), (m_now, .inl (cy 0, 29, .inl nw)), (m_rootWhich, .inl (cy 0, 2, .inl ((f_X8_findRoots ((f_X8_cross nw k n).1) ((f_X8_cross nw k n).2.1) ((f_X8_cross nw k n).2.2) rt).2.2)))] H → va_D A [(ta, .inr (8, [.ref m_now, .ref m_undone, .ref m_slots, .ref m_slotKind, .ref m_hasSlot, .ref m_sheetBits, .ref m_sheetSize, .ref m_sheets, .int (nI u), .int fi, .ref m_fresh, .long ((f_X8_cross nw k n).1), .long ((f_X8_cross nw k n).2.1), .long ((f_X8_cross nw k n).2.2), .int (nI ((f_X8_findRoots ((f_X8_cross nw k n).1) ((f_X8_cross nw k n).2.1) ((f_X8_cross nw k n).2.2) rt).1)), .ref m_rootWhich, .int ((f_X8_findRoots ((f_X8_cross nw k n).1) ((f_X8_cross nw k n).2.1) ((f_X8_cross nw k n).2.2) rt).2.1), .ref m_signs, .ref m_atNought, .int (nI mn), .ref m_change, .ref m_table, .ref m_carried])), (m_now, .inl (cy 0, 29, .inl nw)), (m_rootWhich, .inl (cy 0, 2, .inl ((f_X8_findRoots ((f_X8_cross nw k n).1) ((f_X8_cross nw k n).2.1) ((f_X8_cross nw k n).2.2) rt).2.2)))] → va_S A s.heap H locs → lv_has ls 2 [(0, .ref ta), (1, .int (nI k))] → W p l e R s m args below meth c H locs 0 0 Q (F0 m 56 ls [.int v17, .int (nI ((f_X8_findRoots ((f_X8_cross nw k n).1) ((f_X8_cross nw k n).2.1) ((f_X8_cross nw k n).2.2) rt).1))]) := by
          clear hP hD hS hl
          intro v17 H locs ls ev17
          rw [ev17]
          clear ev17
          intro hP hD hS hl
          refine lv_iadd hx hb dX8_zeros_56 ?_
          refine lv_aload_n hx hb dX8_zeros_57 rfl (lv_at hl 0 rfl) ?_
          refine va_get (D := D) (ci := 8) (v := .long ((f_X8_cross nw k n).1)) (C := RX8) (T := TX8) (N := 23) hx hb hts uX8_zeros_X8 hown hK hP 0 rfl rfl 11 (by decide) (hts _ kX8_zeros_0) (fun _ h9 => h9) rfl dX8_zeros_58 ?_
          refine lv_aload_n hx hb dX8_zeros_61 rfl (lv_at hl 0 rfl) ?_
          refine va_get (D := D) (ci := 8) (v := .long ((f_X8_cross nw k n).2.1)) (C := RX8) (T := TX8) (N := 23) hx hb hts uX8_zeros_X8 hown hK hP 0 rfl rfl 12 (by decide) (hts _ kX8_zeros_3) (fun _ h9 => h9) rfl dX8_zeros_62 ?_
          refine lv_ladd hx hb dX8_zeros_65 ?_
          refine lv_aload_n hx hb dX8_zeros_66 rfl (lv_at hl 0 rfl) ?_
          refine va_get (D := D) (ci := 8) (v := .long ((f_X8_cross nw k n).2.2)) (C := RX8) (T := TX8) (N := 23) hx hb hts uX8_zeros_X8 hown hK hP 0 rfl rfl 13 (by decide) (hts _ kX8_zeros_2) (fun _ h9 => h9) rfl dX8_zeros_67 ?_
          refine lv_ladd hx hb dX8_zeros_70 ?_
          refine lv_lconst (v := 0) hx hb dX8_zeros_71 (by decide) ?_
          refine W.lcmp hx hb dX8_zeros_72 ?_
          have J21 : ∀ (v20 : Int32) (H : Heap) (locs : List Loc) (ls : Array Slot), v20 = (if (lg_cmp ((((f_X8_cross nw k n).1) + ((f_X8_cross nw k n).2.1)) + ((f_X8_cross nw k n).2.2)) 0) = 0 then 1 else 0) → va_P D vwCl [(ta, .inr (8, [.ref m_now, .ref m_undone, .ref m_slots, .ref m_slotKind, .ref m_hasSlot, .ref m_sheetBits, .ref m_sheetSize, .ref m_sheets, .int (nI u), .int fi, .ref m_fresh, .long ((f_X8_cross nw k n).1), .long ((f_X8_cross nw k n).2.1), .long ((f_X8_cross nw k n).2.2), .int (nI ((f_X8_findRoots ((f_X8_cross nw k n).1) ((f_X8_cross nw k n).2.1) ((f_X8_cross nw k n).2.2) rt).1)), .ref m_rootWhich, .int ((f_X8_findRoots ((f_X8_cross nw k n).1) ((f_X8_cross nw k n).2.1) ((f_X8_cross nw k n).2.2) rt).2.1), .ref m_signs, .ref m_atNought, .int (nI mn), .ref m_change, .ref m_table, .ref m_carried])), (m_now, .inl (cy 0, 29, .inl nw)), (m_rootWhich, .inl (cy 0, 2, .inl ((f_X8_findRoots ((f_X8_cross nw k n).1) ((f_X8_cross nw k n).2.1) ((f_X8_cross nw k n).2.2) rt).2.2)))] H → va_D A [(ta, .inr (8, [.ref m_now, .ref m_undone, .ref m_slots, .ref m_slotKind, .ref m_hasSlot, .ref m_sheetBits, .ref m_sheetSize, .ref m_sheets, .int (nI u), .int fi, .ref m_fresh, .long ((f_X8_cross nw k n).1), .long ((f_X8_cross nw k n).2.1), .long ((f_X8_cross nw k n).2.2), .int (nI ((f_X8_findRoots ((f_X8_cross nw k n).1) ((f_X8_cross nw k n).2.1) ((f_X8_cross nw k n).2.2) rt).1)), .ref m_rootWhich, .int ((f_X8_findRoots ((f_X8_cross nw k n).1) ((f_X8_cross nw k n).2.1) ((f_X8_cross nw k n).2.2) rt).2.1), .ref m_signs, .ref m_atNought, .int (nI mn), .ref m_change, .ref m_table, .ref m_carried])), (m_now, .inl (cy 0, 29, .inl nw)), (m_rootWhich, .inl (cy 0, 2, .inl ((f_X8_findRoots ((f_X8_cross nw k n).1) ((f_X8_cross nw k n).2.1) ((f_X8_cross nw k n).2.2) rt).2.2)))] → va_S A s.heap H locs → lv_has ls 2 [(0, .ref ta), (1, .int (nI k))] → W p l e R s m args below meth c H locs 0 0 Q (F0 m 81 ls [.int v20, .int ((nI ((f_X8_findRoots ((f_X8_cross nw k n).1) ((f_X8_cross nw k n).2.1) ((f_X8_cross nw k n).2.2) rt).1)) + (if (lg_cmp ((f_X8_cross nw k n).2.2) 0) = 0 then 1 else 0))]) := by
            clear hP hD hS hl
            intro v20 H locs ls ev20
            rw [ev20]
            clear ev20
            intro hP hD hS hl
            refine lv_iadd hx hb dX8_zeros_81 ?_
            have hF : f_X8_zeros nw ro rt db k n = ((((nI ((f_X8_findRoots ((f_X8_cross nw k n).1) ((f_X8_cross nw k n).2.1) ((f_X8_cross nw k n).2.2) rt).1)) + (if (lg_cmp ((f_X8_cross nw k n).2.2) 0) = 0 then 1 else 0)) + (if (lg_cmp ((((f_X8_cross nw k n).1) + ((f_X8_cross nw k n).2.1)) + ((f_X8_cross nw k n).2.2)) 0) = 0 then 1 else 0)), ((f_X8_cross nw k n).1), ((f_X8_cross nw k n).2.1), ((f_X8_cross nw k n).2.2), ((f_X8_findRoots ((f_X8_cross nw k n).1) ((f_X8_cross nw k n).2.1) ((f_X8_cross nw k n).2.2) rt).1), ((f_X8_findRoots ((f_X8_cross nw k n).1) ((f_X8_cross nw k n).2.1) ((f_X8_cross nw k n).2.2) rt).2.1), ((f_X8_findRoots ((f_X8_cross nw k n).1) ((f_X8_cross nw k n).2.1) ((f_X8_cross nw k n).2.2) rt).2.2)) := hF
            have hf0 := yk_fst hF
            have hg0 := yk_snd hF
            have hf1 := yk_fst hg0
            have hg1 := yk_snd hg0
            have hf2 := yk_fst hg1
            have hg2 := yk_snd hg1
            have hf3 := yk_fst hg2
            have hg3 := yk_snd hg2
            have hf4 := yk_fst hg3
            have hg4 := yk_snd hg3
            have hf5 := yk_fst hg4
            have hg5 := yk_snd hg4
            rw [hf0, hf1, hf2, hf3, hf4, hf5, hg5] at hQ
            exact hQ _ _ _ _ dX8_zeros_82 hP hS
          refine lv_if_ne (tgt := 80) hx hb dX8_zeros_73 (by decide) (fun hc19 => ?_) (fun hc19 => ?_)
          · refine lv_iconst (v := 0) hx hb dX8_zeros_80 (by decide) ?_
            exact J21 _ _ _ _ ((if_neg hc19).symm) hP hD hS (lv_sub hl [0, 1] rfl)
          · refine lv_iconst (v := 1) hx hb dX8_zeros_76 (by decide) ?_
            refine lv_goto (tgt := 81) hx hb dX8_zeros_77 (by decide) ?_
            exact J21 _ _ _ _ ((if_pos hc19).symm) hP hD hS (lv_sub hl [0, 1] rfl)
        refine lv_if_ne (tgt := 55) hx hb dX8_zeros_48 (by decide) (fun hc16 => ?_) (fun hc16 => ?_)
        · refine lv_iconst (v := 0) hx hb dX8_zeros_55 (by decide) ?_
          exact J18 _ _ _ _ ((if_neg hc16).symm) hP hD hS (lv_sub hl [0, 1] rfl)
        · refine lv_iconst (v := 1) hx hb dX8_zeros_51 (by decide) ?_
          refine lv_goto (tgt := 56) hx hb dX8_zeros_52 (by decide) ?_
          exact J18 _ _ _ _ ((if_pos hc16).symm) hP hD hS (lv_sub hl [0, 1] rfl)
      · replace hF := hF.trans (if_pos hc15)
        refine lv_iconst (v := 3) hx hb dX8_zeros_32 (by decide) ?_
        have hF : f_X8_zeros nw ro rt db k n = (3, ((f_X8_cross nw k n).1), ((f_X8_cross nw k n).2.1), ((f_X8_cross nw k n).2.2), ro, db, rt) := hF
        have hf0 := yk_fst hF
        have hg0 := yk_snd hF
        have hf1 := yk_fst hg0
        have hg1 := yk_snd hg0
        have hf2 := yk_fst hg1
        have hg2 := yk_snd hg1
        have hf3 := yk_fst hg2
        have hg3 := yk_snd hg2
        have hf4 := yk_fst hg3
        have hg4 := yk_snd hg3
        have hf5 := yk_fst hg4
        have hg5 := yk_snd hg4
        rw [hf0, hf1, hf2, hf3, hf4, hf5, hg5] at hQ
        exact hQ _ _ _ _ dX8_zeros_33 hP hS

theorem kX8_acrossOf_0 : Cond.fieldLink RX8 146 "FlowPlaneModel" "c" "J" ∈ wsX8_acrossOf := by decide +kernel
theorem uX8_acrossOf_X8 : ∀ w ∈ u_ws RX8 TX8 23, w ∈ wsX8_acrossOf := by decide +kernel
def f_X8_acrossOf (nw : Nat → Int32) (ro : Nat) (rt : Nat → Int32) (db : Int32) (k : Nat) (n : Nat) : Int32 × Int64 × Int64 × Int64 × Nat × Int32 × (Nat → Int32) := ((if ((f_X8_zeros nw ro rt db k n).1) ≤ 0 then (f_X8_sign ((f_X8_zeros nw ro rt db k n).2.2.2.1)) else 0), ((f_X8_zeros nw ro rt db k n).2.1), ((f_X8_zeros nw ro rt db k n).2.2.1), ((f_X8_zeros nw ro rt db k n).2.2.2.1), ((f_X8_zeros nw ro rt db k n).2.2.2.2.1), ((f_X8_zeros nw ro rt db k n).2.2.2.2.2.1), ((f_X8_zeros nw ro rt db k n).2.2.2.2.2.2))
set_option maxHeartbeats 400000000 in
set_option maxRecDepth 100000 in
theorem c_X8_acrossOf (l : Launch) (D : va_G) (cy : Nat → ClassId) (ta : Nat) (m_now : Nat) (m_rootWhich : Nat) (m_undone : Nat) (m_slots : Nat) (m_slotKind : Nat) (m_hasSlot : Nat) (m_sheetBits : Nat) (m_sheetSize : Nat) (m_sheets : Nat) (m_fresh : Nat) (m_signs : Nat) (m_atNought : Nat) (m_change : Nat) (m_table : Nat) (m_carried : Nat) (nw : Nat → Int32) (u : Nat) (fi : Int32) (aa : Int64) (bb : Int64) (dd : Int64) (ro : Nat) (rt : Nat → Int32) (db : Int32) (mn : Nat) (k : Nat) (n : Nat) (hn12 : nw 12 = nI n) (hn : n ≤ 8) (hn0 : 0 < n) (hk : k < 63) : yk_Ci l D vwCl (yk_ty cy) yX8_acrossOf wsX8_acrossOf 5 122 [.ref ta, .int (nI k)] [(ta, .inr (8, [.ref m_now, .ref m_undone, .ref m_slots, .ref m_slotKind, .ref m_hasSlot, .ref m_sheetBits, .ref m_sheetSize, .ref m_sheets, .int (nI u), .int fi, .ref m_fresh, .long aa, .long bb, .long dd, .int (nI ro), .ref m_rootWhich, .int db, .ref m_signs, .ref m_atNought, .int (nI mn), .ref m_change, .ref m_table, .ref m_carried])), (m_now, .inl (cy 0, 29, .inl nw)), (m_rootWhich, .inl (cy 0, 2, .inl rt))] ((f_X8_acrossOf nw ro rt db k n).1) [(ta, .inr (8, [.ref m_now, .ref m_undone, .ref m_slots, .ref m_slotKind, .ref m_hasSlot, .ref m_sheetBits, .ref m_sheetSize, .ref m_sheets, .int (nI u), .int fi, .ref m_fresh, .long ((f_X8_acrossOf nw ro rt db k n).2.1), .long ((f_X8_acrossOf nw ro rt db k n).2.2.1), .long ((f_X8_acrossOf nw ro rt db k n).2.2.2.1), .int (nI ((f_X8_acrossOf nw ro rt db k n).2.2.2.2.1)), .ref m_rootWhich, .int ((f_X8_acrossOf nw ro rt db k n).2.2.2.2.2.1), .ref m_signs, .ref m_atNought, .int (nI mn), .ref m_change, .ref m_table, .ref m_carried])), (m_now, .inl (cy 0, 29, .inl nw)), (m_rootWhich, .inl (cy 0, 2, .inl ((f_X8_acrossOf nw ro rt db k n).2.2.2.2.2.2)))] := by
  refine yk_eI (cc := cX8_acrossOf) (maxL := 2) (by decide) rfl (Nat.le_of_ble_eq_true rfl) rfl ?_
  intro p e R s m args below meth c A Q ls H locs hx hb hml hown hts hRf hRl hA hK hG hP hD hS hl hQ
  have hP : va_P D vwCl [(ta, .inr (8, [.ref m_now, .ref m_undone, .ref m_slots, .ref m_slotKind, .ref m_hasSlot, .ref m_sheetBits, .ref m_sheetSize, .ref m_sheets, .int (nI u), .int fi, .ref m_fresh, .long aa, .long bb, .long dd, .int (nI ro), .ref m_rootWhich, .int db, .ref m_signs, .ref m_atNought, .int (nI mn), .ref m_change, .ref m_table, .ref m_carried])), (m_now, .inl (cy 0, 29, .inl nw)), (m_rootWhich, .inl (cy 0, 2, .inl rt))] H := hP
  have hl : lv_has ls 2 [(0, .ref ta), (1, .int (nI k))] := hl
  have hown : s.vm.findClass RX8 = some m.cls := hown
  have hF : (f_X8_acrossOf nw ro rt db k n) = (f_X8_acrossOf nw ro rt db k n) := rfl
  refine lv_aload_n hx hb dX8_acrossOf_0 rfl (lv_at hl 0 rfl) ?_
  refine lv_iload_n hx hb dX8_acrossOf_1 rfl (lv_at hl 1 rfl) ?_
  refine yk_i [0, 1, 2] (va_runV (As := [.int (nI k)]) (rest := []) ⟨hx, hb, hml, hown, hts⟩ (c_X8_zeros l D cy ta m_now m_rootWhich m_undone m_slots m_slotKind m_hasSlot m_sheetBits m_sheetSize m_sheets m_fresh m_signs m_atNought m_change m_table m_carried nw u fi aa bb dd ro rt db mn k n hn12 hn hn0 hk H.size) (cwV 1 hts gX8_acrossOf_X8_zeros rfl rfl rfl hv_X8_zeros (yk_room hRf hRl rfl rfl)) (yk_pv (q := (RX8, TX8, 23)) hG hA hS hK hP hD [0, 1, 2] (by decide +kernel) rfl rfl rfl) rfl rfl hl.1 rfl (lv_room (Nat.le_of_ble_eq_true rfl)) dX8_acrossOf_2 ⟨Nat.zero_le _, Nat.zero_le _⟩) hP hD hS hA rfl (Eq.trans (b := [ta, m_now, m_rootWhich]) rfl rfl) (fun H locs hP9 hD9 hS9 => ?_)
  replace hP : va_P D vwCl [(ta, .inr (8, [.ref m_now, .ref m_undone, .ref m_slots, .ref m_slotKind, .ref m_hasSlot, .ref m_sheetBits, .ref m_sheetSize, .ref m_sheets, .int (nI u), .int fi, .ref m_fresh, .long ((f_X8_zeros nw ro rt db k n).2.1), .long ((f_X8_zeros nw ro rt db k n).2.2.1), .long ((f_X8_zeros nw ro rt db k n).2.2.2.1), .int (nI ((f_X8_zeros nw ro rt db k n).2.2.2.2.1)), .ref m_rootWhich, .int ((f_X8_zeros nw ro rt db k n).2.2.2.2.2.1), .ref m_signs, .ref m_atNought, .int (nI mn), .ref m_change, .ref m_table, .ref m_carried])), (m_now, .inl (cy 0, 29, .inl nw)), (m_rootWhich, .inl (cy 0, 2, .inl ((f_X8_zeros nw ro rt db k n).2.2.2.2.2.2)))] H := hP9
  replace hD : va_D A [(ta, .inr (8, [.ref m_now, .ref m_undone, .ref m_slots, .ref m_slotKind, .ref m_hasSlot, .ref m_sheetBits, .ref m_sheetSize, .ref m_sheets, .int (nI u), .int fi, .ref m_fresh, .long ((f_X8_zeros nw ro rt db k n).2.1), .long ((f_X8_zeros nw ro rt db k n).2.2.1), .long ((f_X8_zeros nw ro rt db k n).2.2.2.1), .int (nI ((f_X8_zeros nw ro rt db k n).2.2.2.2.1)), .ref m_rootWhich, .int ((f_X8_zeros nw ro rt db k n).2.2.2.2.2.1), .ref m_signs, .ref m_atNought, .int (nI mn), .ref m_change, .ref m_table, .ref m_carried])), (m_now, .inl (cy 0, 29, .inl nw)), (m_rootWhich, .inl (cy 0, 2, .inl ((f_X8_zeros nw ro rt db k n).2.2.2.2.2.2)))] := hD9
  replace hS := hS9
  clear hP9 hD9 hS9
  have J3 : ∀ (v2 : Int32) (H : Heap) (locs : List Loc) (ls : Array Slot), v2 = (if ((f_X8_zeros nw ro rt db k n).1) ≤ 0 then (f_X8_sign ((f_X8_zeros nw ro rt db k n).2.2.2.1)) else 0) → va_P D vwCl [(ta, .inr (8, [.ref m_now, .ref m_undone, .ref m_slots, .ref m_slotKind, .ref m_hasSlot, .ref m_sheetBits, .ref m_sheetSize, .ref m_sheets, .int (nI u), .int fi, .ref m_fresh, .long ((f_X8_zeros nw ro rt db k n).2.1), .long ((f_X8_zeros nw ro rt db k n).2.2.1), .long ((f_X8_zeros nw ro rt db k n).2.2.2.1), .int (nI ((f_X8_zeros nw ro rt db k n).2.2.2.2.1)), .ref m_rootWhich, .int ((f_X8_zeros nw ro rt db k n).2.2.2.2.2.1), .ref m_signs, .ref m_atNought, .int (nI mn), .ref m_change, .ref m_table, .ref m_carried])), (m_now, .inl (cy 0, 29, .inl nw)), (m_rootWhich, .inl (cy 0, 2, .inl ((f_X8_zeros nw ro rt db k n).2.2.2.2.2.2)))] H → va_D A [(ta, .inr (8, [.ref m_now, .ref m_undone, .ref m_slots, .ref m_slotKind, .ref m_hasSlot, .ref m_sheetBits, .ref m_sheetSize, .ref m_sheets, .int (nI u), .int fi, .ref m_fresh, .long ((f_X8_zeros nw ro rt db k n).2.1), .long ((f_X8_zeros nw ro rt db k n).2.2.1), .long ((f_X8_zeros nw ro rt db k n).2.2.2.1), .int (nI ((f_X8_zeros nw ro rt db k n).2.2.2.2.1)), .ref m_rootWhich, .int ((f_X8_zeros nw ro rt db k n).2.2.2.2.2.1), .ref m_signs, .ref m_atNought, .int (nI mn), .ref m_change, .ref m_table, .ref m_carried])), (m_now, .inl (cy 0, 29, .inl nw)), (m_rootWhich, .inl (cy 0, 2, .inl ((f_X8_zeros nw ro rt db k n).2.2.2.2.2.2)))] → va_S A s.heap H locs → lv_has ls 2 [(0, .ref ta), (1, .int (nI k))] → W p l e R s m args below meth c H locs 0 0 Q (F0 m 19 ls [.int v2]) := by
    clear hP hD hS hl
    intro v2 H locs ls ev2
    rw [ev2]
    clear ev2
    intro hP hD hS hl
    have hF : f_X8_acrossOf nw ro rt db k n = ((if ((f_X8_zeros nw ro rt db k n).1) ≤ 0 then (f_X8_sign ((f_X8_zeros nw ro rt db k n).2.2.2.1)) else 0), ((f_X8_zeros nw ro rt db k n).2.1), ((f_X8_zeros nw ro rt db k n).2.2.1), ((f_X8_zeros nw ro rt db k n).2.2.2.1), ((f_X8_zeros nw ro rt db k n).2.2.2.2.1), ((f_X8_zeros nw ro rt db k n).2.2.2.2.2.1), ((f_X8_zeros nw ro rt db k n).2.2.2.2.2.2)) := hF
    have hf0 := yk_fst hF
    have hg0 := yk_snd hF
    have hf1 := yk_fst hg0
    have hg1 := yk_snd hg0
    have hf2 := yk_fst hg1
    have hg2 := yk_snd hg1
    have hf3 := yk_fst hg2
    have hg3 := yk_snd hg2
    have hf4 := yk_fst hg3
    have hg4 := yk_snd hg3
    have hf5 := yk_fst hg4
    have hg5 := yk_snd hg4
    rw [hf0, hf1, hf2, hf3, hf4, hf5, hg5] at hQ
    exact hQ _ _ _ _ dX8_acrossOf_19 hP hS
  refine lv_if_le (tgt := 12) hx hb dX8_acrossOf_5 (by decide) (fun hc1 => ?_) (fun hc1 => ?_)
  · refine lv_aload_n hx hb dX8_acrossOf_12 rfl (lv_at hl 0 rfl) ?_
    refine va_get (D := D) (ci := 8) (v := .long ((f_X8_zeros nw ro rt db k n).2.2.2.1)) (C := RX8) (T := TX8) (N := 23) hx hb hts uX8_acrossOf_X8 hown hK hP 0 rfl rfl 13 (by decide) (hts _ kX8_acrossOf_0) (fun _ h9 => h9) rfl dX8_acrossOf_13 ?_
    refine yk_i [] (va_runS (As := [.long ((f_X8_zeros nw ro rt db k n).2.2.2.1)]) (rest := []) ⟨hx, hb, hml, hown, hts⟩ (c_X8_sign l D cy ((f_X8_zeros nw ro rt db k n).2.2.2.1) H.size) (va_cwS 1 hts gX8_acrossOf_X8_sign rfl rfl rfl hs_X8_sign (yk_room hRf hRl rfl rfl)) (yk_ps hG hA hS hK hP hD [] (by decide +kernel) rfl) rfl rfl hl.1 rfl (lv_room (Nat.le_of_ble_eq_true rfl)) dX8_acrossOf_16 ⟨Nat.zero_le _, Nat.zero_le _⟩) hP hD hS hA rfl rfl (fun H locs hP9 hD9 hS9 => ?_)
    replace hP : va_P D vwCl [(ta, .inr (8, [.ref m_now, .ref m_undone, .ref m_slots, .ref m_slotKind, .ref m_hasSlot, .ref m_sheetBits, .ref m_sheetSize, .ref m_sheets, .int (nI u), .int fi, .ref m_fresh, .long ((f_X8_zeros nw ro rt db k n).2.1), .long ((f_X8_zeros nw ro rt db k n).2.2.1), .long ((f_X8_zeros nw ro rt db k n).2.2.2.1), .int (nI ((f_X8_zeros nw ro rt db k n).2.2.2.2.1)), .ref m_rootWhich, .int ((f_X8_zeros nw ro rt db k n).2.2.2.2.2.1), .ref m_signs, .ref m_atNought, .int (nI mn), .ref m_change, .ref m_table, .ref m_carried])), (m_now, .inl (cy 0, 29, .inl nw)), (m_rootWhich, .inl (cy 0, 2, .inl ((f_X8_zeros nw ro rt db k n).2.2.2.2.2.2)))] H := hP9
    replace hD : va_D A [(ta, .inr (8, [.ref m_now, .ref m_undone, .ref m_slots, .ref m_slotKind, .ref m_hasSlot, .ref m_sheetBits, .ref m_sheetSize, .ref m_sheets, .int (nI u), .int fi, .ref m_fresh, .long ((f_X8_zeros nw ro rt db k n).2.1), .long ((f_X8_zeros nw ro rt db k n).2.2.1), .long ((f_X8_zeros nw ro rt db k n).2.2.2.1), .int (nI ((f_X8_zeros nw ro rt db k n).2.2.2.2.1)), .ref m_rootWhich, .int ((f_X8_zeros nw ro rt db k n).2.2.2.2.2.1), .ref m_signs, .ref m_atNought, .int (nI mn), .ref m_change, .ref m_table, .ref m_carried])), (m_now, .inl (cy 0, 29, .inl nw)), (m_rootWhich, .inl (cy 0, 2, .inl ((f_X8_zeros nw ro rt db k n).2.2.2.2.2.2)))] := hD9
    replace hS := hS9
    clear hP9 hD9 hS9
    exact J3 _ _ _ _ ((if_pos hc1).symm) hP hD hS (lv_sub hl [0, 1] rfl)
  · refine lv_iconst (v := 0) hx hb dX8_acrossOf_8 (by decide) ?_
    refine lv_goto (tgt := 19) hx hb dX8_acrossOf_9 (by decide) ?_
    exact J3 _ _ _ _ ((if_neg hc1).symm) hP hD hS (lv_sub hl [0, 1] rfl)

theorem kX8_turns_0 : Cond.constant RX8 99 (-1000003) ∈ wsX8_turns := by decide +kernel
theorem kX8_turns_1 : Cond.constant RX8 68 (-1000001) ∈ wsX8_turns := by decide +kernel
def f_X8_turns (nw : Nat → Int32) (fi : Int32) (aa : Int64) (bb : Int64) (dd : Int64) (ro : Nat) (rt : Nat → Int32) (db : Int32) (px : Int32) (n : Nat) : Int32 × Int32 × Int64 × Int64 × Int64 × Nat × Int32 × (Nat → Int32) := (if (f_X8_in px 0 ((nI n) - 1)) = 0 then (((f_X8_found fi (-1000001)).1), ((f_X8_found fi (-1000001)).2), aa, bb, dd, ro, db, rt) else (if (f_X8_xOf nw px.toNatClampNeg n) = (f_X8_xOf nw (px.toNatClampNeg + 1) n) then (if (f_X8_yOf nw px.toNatClampNeg n) = (f_X8_yOf nw (px.toNatClampNeg + 1) n) then (((f_X8_found fi (-1000003)).1), ((f_X8_found fi (-1000003)).2), aa, bb, dd, ro, db, rt) else (((f_X8_zeros nw ro rt db px.toNatClampNeg n).1), fi, ((f_X8_zeros nw ro rt db px.toNatClampNeg n).2.1), ((f_X8_zeros nw ro rt db px.toNatClampNeg n).2.2.1), ((f_X8_zeros nw ro rt db px.toNatClampNeg n).2.2.2.1), ((f_X8_zeros nw ro rt db px.toNatClampNeg n).2.2.2.2.1), ((f_X8_zeros nw ro rt db px.toNatClampNeg n).2.2.2.2.2.1), ((f_X8_zeros nw ro rt db px.toNatClampNeg n).2.2.2.2.2.2))) else (((f_X8_zeros nw ro rt db px.toNatClampNeg n).1), fi, ((f_X8_zeros nw ro rt db px.toNatClampNeg n).2.1), ((f_X8_zeros nw ro rt db px.toNatClampNeg n).2.2.1), ((f_X8_zeros nw ro rt db px.toNatClampNeg n).2.2.2.1), ((f_X8_zeros nw ro rt db px.toNatClampNeg n).2.2.2.2.1), ((f_X8_zeros nw ro rt db px.toNatClampNeg n).2.2.2.2.2.1), ((f_X8_zeros nw ro rt db px.toNatClampNeg n).2.2.2.2.2.2))))
set_option maxHeartbeats 400000000 in
set_option maxRecDepth 100000 in
theorem c_X8_turns (l : Launch) (D : va_G) (cy : Nat → ClassId) (ta : Nat) (m_now : Nat) (m_rootWhich : Nat) (m_undone : Nat) (m_slots : Nat) (m_slotKind : Nat) (m_hasSlot : Nat) (m_sheetBits : Nat) (m_sheetSize : Nat) (m_sheets : Nat) (m_fresh : Nat) (m_signs : Nat) (m_atNought : Nat) (m_change : Nat) (m_table : Nat) (m_carried : Nat) (nw : Nat → Int32) (u : Nat) (fi : Int32) (aa : Int64) (bb : Int64) (dd : Int64) (ro : Nat) (rt : Nat → Int32) (db : Int32) (mn : Nat) (px : Int32) (n : Nat) (hn12 : nw 12 = nI n) (hn : n ≤ 8) : yk_Ci l D vwCl (yk_ty cy) yX8_turns wsX8_turns 5 122 [.ref ta, .int px] [(ta, .inr (8, [.ref m_now, .ref m_undone, .ref m_slots, .ref m_slotKind, .ref m_hasSlot, .ref m_sheetBits, .ref m_sheetSize, .ref m_sheets, .int (nI u), .int fi, .ref m_fresh, .long aa, .long bb, .long dd, .int (nI ro), .ref m_rootWhich, .int db, .ref m_signs, .ref m_atNought, .int (nI mn), .ref m_change, .ref m_table, .ref m_carried])), (m_now, .inl (cy 0, 29, .inl nw)), (m_rootWhich, .inl (cy 0, 2, .inl rt))] ((f_X8_turns nw fi aa bb dd ro rt db px n).1) [(ta, .inr (8, [.ref m_now, .ref m_undone, .ref m_slots, .ref m_slotKind, .ref m_hasSlot, .ref m_sheetBits, .ref m_sheetSize, .ref m_sheets, .int (nI u), .int ((f_X8_turns nw fi aa bb dd ro rt db px n).2.1), .ref m_fresh, .long ((f_X8_turns nw fi aa bb dd ro rt db px n).2.2.1), .long ((f_X8_turns nw fi aa bb dd ro rt db px n).2.2.2.1), .long ((f_X8_turns nw fi aa bb dd ro rt db px n).2.2.2.2.1), .int (nI ((f_X8_turns nw fi aa bb dd ro rt db px n).2.2.2.2.2.1)), .ref m_rootWhich, .int ((f_X8_turns nw fi aa bb dd ro rt db px n).2.2.2.2.2.2.1), .ref m_signs, .ref m_atNought, .int (nI mn), .ref m_change, .ref m_table, .ref m_carried])), (m_now, .inl (cy 0, 29, .inl nw)), (m_rootWhich, .inl (cy 0, 2, .inl ((f_X8_turns nw fi aa bb dd ro rt db px n).2.2.2.2.2.2.2)))] := by
  refine yk_eI (cc := cX8_turns) (maxL := 2) (by decide) rfl (Nat.le_of_ble_eq_true rfl) rfl ?_
  intro p e R s m args below meth c A Q ls H locs hx hb hml hown hts hRf hRl hA hK hG hP hD hS hl hQ
  have hP : va_P D vwCl [(ta, .inr (8, [.ref m_now, .ref m_undone, .ref m_slots, .ref m_slotKind, .ref m_hasSlot, .ref m_sheetBits, .ref m_sheetSize, .ref m_sheets, .int (nI u), .int fi, .ref m_fresh, .long aa, .long bb, .long dd, .int (nI ro), .ref m_rootWhich, .int db, .ref m_signs, .ref m_atNought, .int (nI mn), .ref m_change, .ref m_table, .ref m_carried])), (m_now, .inl (cy 0, 29, .inl nw)), (m_rootWhich, .inl (cy 0, 2, .inl rt))] H := hP
  have hl : lv_has ls 2 [(0, .ref ta), (1, .int px)] := hl
  have hown : s.vm.findClass RX8 = some m.cls := hown
  have hF : (f_X8_turns nw fi aa bb dd ro rt db px n) = (f_X8_turns nw fi aa bb dd ro rt db px n) := rfl
  refine lv_iload_n hx hb dX8_turns_0 rfl (lv_at hl 1 rfl) ?_
  refine lv_iconst (v := 0) hx hb dX8_turns_1 (by decide) ?_
  refine lv_aload_n hx hb dX8_turns_2 rfl (lv_at hl 0 rfl) ?_
  refine yk_i [0, 1] (va_runV (As := []) (rest := [.int 0, .int px]) ⟨hx, hb, hml, hown, hts⟩ (c_X8_corners l D cy ta m_now m_undone m_slots m_slotKind m_hasSlot m_sheetBits m_sheetSize m_sheets m_fresh m_rootWhich m_signs m_atNought m_change m_table m_carried nw u fi aa bb dd ro db mn H.size) (cwV 0 hts gX8_turns_X8_corners rfl rfl rfl hv_X8_corners (yk_room hRf hRl rfl rfl)) (yk_pv (q := (RX8, TX8, 23)) hG hA hS hK hP hD [0, 1] (by decide +kernel) rfl rfl rfl) rfl rfl hl.1 rfl (lv_room (Nat.le_of_ble_eq_true rfl)) dX8_turns_3 ⟨Nat.zero_le _, Nat.zero_le _⟩) hP hD hS hA rfl (Eq.trans (b := [ta, m_now]) rfl rfl) (fun H locs hP9 hD9 hS9 => ?_)
  replace hP : va_P D vwCl [(ta, .inr (8, [.ref m_now, .ref m_undone, .ref m_slots, .ref m_slotKind, .ref m_hasSlot, .ref m_sheetBits, .ref m_sheetSize, .ref m_sheets, .int (nI u), .int fi, .ref m_fresh, .long aa, .long bb, .long dd, .int (nI ro), .ref m_rootWhich, .int db, .ref m_signs, .ref m_atNought, .int (nI mn), .ref m_change, .ref m_table, .ref m_carried])), (m_now, .inl (cy 0, 29, .inl nw)), (m_rootWhich, .inl (cy 0, 2, .inl rt))] H := hP9
  replace hD : va_D A [(ta, .inr (8, [.ref m_now, .ref m_undone, .ref m_slots, .ref m_slotKind, .ref m_hasSlot, .ref m_sheetBits, .ref m_sheetSize, .ref m_sheets, .int (nI u), .int fi, .ref m_fresh, .long aa, .long bb, .long dd, .int (nI ro), .ref m_rootWhich, .int db, .ref m_signs, .ref m_atNought, .int (nI mn), .ref m_change, .ref m_table, .ref m_carried])), (m_now, .inl (cy 0, 29, .inl nw)), (m_rootWhich, .inl (cy 0, 2, .inl rt))] := hD9
  replace hS := hS9
  clear hP9 hD9 hS9
  refine yk_ti (y := nI n) (hn12) ?_
  refine lv_iconst (v := 1) hx hb dX8_turns_6 (by decide) ?_
  refine lv_isub hx hb dX8_turns_7 ?_
  refine yk_i [] (va_runS (As := [.int px, .int 0, .int ((nI n) - 1)]) (rest := []) ⟨hx, hb, hml, hown, hts⟩ (c_X8_in l D cy px 0 ((nI n) - 1) H.size) (va_cwS 3 hts gX8_turns_X8_in rfl rfl rfl hs_X8_in (yk_room hRf hRl rfl rfl)) (yk_ps hG hA hS hK hP hD [] (by decide +kernel) rfl) rfl rfl hl.1 rfl (lv_room (Nat.le_of_ble_eq_true rfl)) dX8_turns_8 ⟨Nat.zero_le _, Nat.zero_le _⟩) hP hD hS hA rfl rfl (fun H locs hP9 hD9 hS9 => ?_)
  replace hP : va_P D vwCl [(ta, .inr (8, [.ref m_now, .ref m_undone, .ref m_slots, .ref m_slotKind, .ref m_hasSlot, .ref m_sheetBits, .ref m_sheetSize, .ref m_sheets, .int (nI u), .int fi, .ref m_fresh, .long aa, .long bb, .long dd, .int (nI ro), .ref m_rootWhich, .int db, .ref m_signs, .ref m_atNought, .int (nI mn), .ref m_change, .ref m_table, .ref m_carried])), (m_now, .inl (cy 0, 29, .inl nw)), (m_rootWhich, .inl (cy 0, 2, .inl rt))] H := hP9
  replace hD : va_D A [(ta, .inr (8, [.ref m_now, .ref m_undone, .ref m_slots, .ref m_slotKind, .ref m_hasSlot, .ref m_sheetBits, .ref m_sheetSize, .ref m_sheets, .int (nI u), .int fi, .ref m_fresh, .long aa, .long bb, .long dd, .int (nI ro), .ref m_rootWhich, .int db, .ref m_signs, .ref m_atNought, .int (nI mn), .ref m_change, .ref m_table, .ref m_carried])), (m_now, .inl (cy 0, 29, .inl nw)), (m_rootWhich, .inl (cy 0, 2, .inl rt))] := hD9
  replace hS := hS9
  clear hP9 hD9 hS9
  refine lv_if_ne (tgt := 21) hx hb dX8_turns_11 (by decide) (fun hc1 => ?_) (fun hc1 => ?_)
  · replace hF := hF.trans (if_neg hc1)
    have hq2 : px = nI px.toNatClampNeg := (ix_inn hn (by assumption)).1
    have hq2b : px.toNatClampNeg < n := (ix_inn hn (by assumption)).2
    rw [hq2] at hl
    refine lv_aload_n hx hb dX8_turns_21 rfl (lv_at hl 0 rfl) ?_
    refine lv_iload_n hx hb dX8_turns_22 rfl (lv_at hl 1 rfl) ?_
    refine yk_i [0, 1] (va_runV (As := [.int (nI px.toNatClampNeg)]) (rest := []) ⟨hx, hb, hml, hown, hts⟩ (c_X8_xOf l D cy ta m_now m_undone m_slots m_slotKind m_hasSlot m_sheetBits m_sheetSize m_sheets m_fresh m_rootWhich m_signs m_atNought m_change m_table m_carried nw u fi aa bb dd ro db mn px.toNatClampNeg n hn12 hn (by omega) (by omega) H.size) (cwV 1 hts gX8_turns_X8_xOf rfl rfl rfl hv_X8_xOf (yk_room hRf hRl rfl rfl)) (yk_pv (q := (RX8, TX8, 23)) hG hA hS hK hP hD [0, 1] (by decide +kernel) rfl rfl rfl) rfl rfl hl.1 rfl (lv_room (Nat.le_of_ble_eq_true rfl)) dX8_turns_23 ⟨Nat.zero_le _, Nat.zero_le _⟩) hP hD hS hA rfl (Eq.trans (b := [ta, m_now]) rfl rfl) (fun H locs hP9 hD9 hS9 => ?_)
    replace hP : va_P D vwCl [(ta, .inr (8, [.ref m_now, .ref m_undone, .ref m_slots, .ref m_slotKind, .ref m_hasSlot, .ref m_sheetBits, .ref m_sheetSize, .ref m_sheets, .int (nI u), .int fi, .ref m_fresh, .long aa, .long bb, .long dd, .int (nI ro), .ref m_rootWhich, .int db, .ref m_signs, .ref m_atNought, .int (nI mn), .ref m_change, .ref m_table, .ref m_carried])), (m_now, .inl (cy 0, 29, .inl nw)), (m_rootWhich, .inl (cy 0, 2, .inl rt))] H := hP9
    replace hD : va_D A [(ta, .inr (8, [.ref m_now, .ref m_undone, .ref m_slots, .ref m_slotKind, .ref m_hasSlot, .ref m_sheetBits, .ref m_sheetSize, .ref m_sheets, .int (nI u), .int fi, .ref m_fresh, .long aa, .long bb, .long dd, .int (nI ro), .ref m_rootWhich, .int db, .ref m_signs, .ref m_atNought, .int (nI mn), .ref m_change, .ref m_table, .ref m_carried])), (m_now, .inl (cy 0, 29, .inl nw)), (m_rootWhich, .inl (cy 0, 2, .inl rt))] := hD9
    replace hS := hS9
    clear hP9 hD9 hS9
    refine lv_aload_n hx hb dX8_turns_26 rfl (lv_at hl 0 rfl) ?_
    refine lv_iload_n hx hb dX8_turns_27 rfl (lv_at hl 1 rfl) ?_
    refine lv_iconst (v := 1) hx hb dX8_turns_28 (by decide) ?_
    refine lv_iadd hx hb dX8_turns_29 ?_
    refine yk_ti (y := nI (px.toNatClampNeg + 1)) (nI_add px.toNatClampNeg 1) ?_
    refine yk_i [0, 1] (va_runV (As := [.int (nI (px.toNatClampNeg + 1))]) (rest := [.int (f_X8_xOf nw px.toNatClampNeg n)]) ⟨hx, hb, hml, hown, hts⟩ (c_X8_xOf l D cy ta m_now m_undone m_slots m_slotKind m_hasSlot m_sheetBits m_sheetSize m_sheets m_fresh m_rootWhich m_signs m_atNought m_change m_table m_carried nw u fi aa bb dd ro db mn (px.toNatClampNeg + 1) n hn12 hn (by omega) (by omega) H.size) (cwV 1 hts gX8_turns_X8_xOf rfl rfl rfl hv_X8_xOf (yk_room hRf hRl rfl rfl)) (yk_pv (q := (RX8, TX8, 23)) hG hA hS hK hP hD [0, 1] (by decide +kernel) rfl rfl rfl) rfl rfl hl.1 rfl (lv_room (Nat.le_of_ble_eq_true rfl)) dX8_turns_30 ⟨Nat.zero_le _, Nat.zero_le _⟩) hP hD hS hA rfl (Eq.trans (b := [ta, m_now]) rfl rfl) (fun H locs hP9 hD9 hS9 => ?_)
    replace hP : va_P D vwCl [(ta, .inr (8, [.ref m_now, .ref m_undone, .ref m_slots, .ref m_slotKind, .ref m_hasSlot, .ref m_sheetBits, .ref m_sheetSize, .ref m_sheets, .int (nI u), .int fi, .ref m_fresh, .long aa, .long bb, .long dd, .int (nI ro), .ref m_rootWhich, .int db, .ref m_signs, .ref m_atNought, .int (nI mn), .ref m_change, .ref m_table, .ref m_carried])), (m_now, .inl (cy 0, 29, .inl nw)), (m_rootWhich, .inl (cy 0, 2, .inl rt))] H := hP9
    replace hD : va_D A [(ta, .inr (8, [.ref m_now, .ref m_undone, .ref m_slots, .ref m_slotKind, .ref m_hasSlot, .ref m_sheetBits, .ref m_sheetSize, .ref m_sheets, .int (nI u), .int fi, .ref m_fresh, .long aa, .long bb, .long dd, .int (nI ro), .ref m_rootWhich, .int db, .ref m_signs, .ref m_atNought, .int (nI mn), .ref m_change, .ref m_table, .ref m_carried])), (m_now, .inl (cy 0, 29, .inl nw)), (m_rootWhich, .inl (cy 0, 2, .inl rt))] := hD9
    replace hS := hS9
    clear hP9 hD9 hS9
    refine lv_icmp_ne (tgt := 58) hx hb dX8_turns_33 (by decide) (fun hc3 => ?_) (fun hc3 => ?_)
    · replace hF := hF.trans (if_neg hc3)
      refine lv_aload_n hx hb dX8_turns_58 rfl (lv_at hl 0 rfl) ?_
      refine lv_iload_n hx hb dX8_turns_59 rfl (lv_at hl 1 rfl) ?_
      refine yk_i [0, 1, 2] (va_runV (As := [.int (nI px.toNatClampNeg)]) (rest := []) ⟨hx, hb, hml, hown, hts⟩ (c_X8_zeros l D cy ta m_now m_rootWhich m_undone m_slots m_slotKind m_hasSlot m_sheetBits m_sheetSize m_sheets m_fresh m_signs m_atNought m_change m_table m_carried nw u fi aa bb dd ro rt db mn px.toNatClampNeg n hn12 hn (by omega) (by omega) H.size) (cwV 1 hts gX8_turns_X8_zeros rfl rfl rfl hv_X8_zeros (yk_room hRf hRl rfl rfl)) (yk_pv (q := (RX8, TX8, 23)) hG hA hS hK hP hD [0, 1, 2] (by decide +kernel) rfl rfl rfl) rfl rfl hl.1 rfl (lv_room (Nat.le_of_ble_eq_true rfl)) dX8_turns_60 ⟨Nat.zero_le _, Nat.zero_le _⟩) hP hD hS hA rfl (Eq.trans (b := [ta, m_now, m_rootWhich]) rfl rfl) (fun H locs hP9 hD9 hS9 => ?_)
      replace hP : va_P D vwCl [(ta, .inr (8, [.ref m_now, .ref m_undone, .ref m_slots, .ref m_slotKind, .ref m_hasSlot, .ref m_sheetBits, .ref m_sheetSize, .ref m_sheets, .int (nI u), .int fi, .ref m_fresh, .long ((f_X8_zeros nw ro rt db px.toNatClampNeg n).2.1), .long ((f_X8_zeros nw ro rt db px.toNatClampNeg n).2.2.1), .long ((f_X8_zeros nw ro rt db px.toNatClampNeg n).2.2.2.1), .int (nI ((f_X8_zeros nw ro rt db px.toNatClampNeg n).2.2.2.2.1)), .ref m_rootWhich, .int ((f_X8_zeros nw ro rt db px.toNatClampNeg n).2.2.2.2.2.1), .ref m_signs, .ref m_atNought, .int (nI mn), .ref m_change, .ref m_table, .ref m_carried])), (m_now, .inl (cy 0, 29, .inl nw)), (m_rootWhich, .inl (cy 0, 2, .inl ((f_X8_zeros nw ro rt db px.toNatClampNeg n).2.2.2.2.2.2)))] H := hP9
      replace hD : va_D A [(ta, .inr (8, [.ref m_now, .ref m_undone, .ref m_slots, .ref m_slotKind, .ref m_hasSlot, .ref m_sheetBits, .ref m_sheetSize, .ref m_sheets, .int (nI u), .int fi, .ref m_fresh, .long ((f_X8_zeros nw ro rt db px.toNatClampNeg n).2.1), .long ((f_X8_zeros nw ro rt db px.toNatClampNeg n).2.2.1), .long ((f_X8_zeros nw ro rt db px.toNatClampNeg n).2.2.2.1), .int (nI ((f_X8_zeros nw ro rt db px.toNatClampNeg n).2.2.2.2.1)), .ref m_rootWhich, .int ((f_X8_zeros nw ro rt db px.toNatClampNeg n).2.2.2.2.2.1), .ref m_signs, .ref m_atNought, .int (nI mn), .ref m_change, .ref m_table, .ref m_carried])), (m_now, .inl (cy 0, 29, .inl nw)), (m_rootWhich, .inl (cy 0, 2, .inl ((f_X8_zeros nw ro rt db px.toNatClampNeg n).2.2.2.2.2.2)))] := hD9
      replace hS := hS9
      clear hP9 hD9 hS9
      have hF : f_X8_turns nw fi aa bb dd ro rt db px n = (((f_X8_zeros nw ro rt db px.toNatClampNeg n).1), fi, ((f_X8_zeros nw ro rt db px.toNatClampNeg n).2.1), ((f_X8_zeros nw ro rt db px.toNatClampNeg n).2.2.1), ((f_X8_zeros nw ro rt db px.toNatClampNeg n).2.2.2.1), ((f_X8_zeros nw ro rt db px.toNatClampNeg n).2.2.2.2.1), ((f_X8_zeros nw ro rt db px.toNatClampNeg n).2.2.2.2.2.1), ((f_X8_zeros nw ro rt db px.toNatClampNeg n).2.2.2.2.2.2)) := hF
      have hf0 := yk_fst hF
      have hg0 := yk_snd hF
      have hf1 := yk_fst hg0
      have hg1 := yk_snd hg0
      have hf2 := yk_fst hg1
      have hg2 := yk_snd hg1
      have hf3 := yk_fst hg2
      have hg3 := yk_snd hg2
      have hf4 := yk_fst hg3
      have hg4 := yk_snd hg3
      have hf5 := yk_fst hg4
      have hg5 := yk_snd hg4
      have hf6 := yk_fst hg5
      have hg6 := yk_snd hg5
      rw [hf0, hf1, hf2, hf3, hf4, hf5, hf6, hg6] at hQ
      exact hQ _ _ _ _ dX8_turns_63 hP hS
    · replace hF := hF.trans (if_pos hc3)
      refine lv_aload_n hx hb dX8_turns_36 rfl (lv_at hl 0 rfl) ?_
      refine lv_iload_n hx hb dX8_turns_37 rfl (lv_at hl 1 rfl) ?_
      refine yk_i [0, 1] (va_runV (As := [.int (nI px.toNatClampNeg)]) (rest := []) ⟨hx, hb, hml, hown, hts⟩ (c_X8_yOf l D cy ta m_now m_undone m_slots m_slotKind m_hasSlot m_sheetBits m_sheetSize m_sheets m_fresh m_rootWhich m_signs m_atNought m_change m_table m_carried nw u fi aa bb dd ro db mn px.toNatClampNeg n hn12 hn (by omega) (by omega) H.size) (cwV 1 hts gX8_turns_X8_yOf rfl rfl rfl hv_X8_yOf (yk_room hRf hRl rfl rfl)) (yk_pv (q := (RX8, TX8, 23)) hG hA hS hK hP hD [0, 1] (by decide +kernel) rfl rfl rfl) rfl rfl hl.1 rfl (lv_room (Nat.le_of_ble_eq_true rfl)) dX8_turns_38 ⟨Nat.zero_le _, Nat.zero_le _⟩) hP hD hS hA rfl (Eq.trans (b := [ta, m_now]) rfl rfl) (fun H locs hP9 hD9 hS9 => ?_)
      replace hP : va_P D vwCl [(ta, .inr (8, [.ref m_now, .ref m_undone, .ref m_slots, .ref m_slotKind, .ref m_hasSlot, .ref m_sheetBits, .ref m_sheetSize, .ref m_sheets, .int (nI u), .int fi, .ref m_fresh, .long aa, .long bb, .long dd, .int (nI ro), .ref m_rootWhich, .int db, .ref m_signs, .ref m_atNought, .int (nI mn), .ref m_change, .ref m_table, .ref m_carried])), (m_now, .inl (cy 0, 29, .inl nw)), (m_rootWhich, .inl (cy 0, 2, .inl rt))] H := hP9
      replace hD : va_D A [(ta, .inr (8, [.ref m_now, .ref m_undone, .ref m_slots, .ref m_slotKind, .ref m_hasSlot, .ref m_sheetBits, .ref m_sheetSize, .ref m_sheets, .int (nI u), .int fi, .ref m_fresh, .long aa, .long bb, .long dd, .int (nI ro), .ref m_rootWhich, .int db, .ref m_signs, .ref m_atNought, .int (nI mn), .ref m_change, .ref m_table, .ref m_carried])), (m_now, .inl (cy 0, 29, .inl nw)), (m_rootWhich, .inl (cy 0, 2, .inl rt))] := hD9
      replace hS := hS9
      clear hP9 hD9 hS9
      refine lv_aload_n hx hb dX8_turns_41 rfl (lv_at hl 0 rfl) ?_
      refine lv_iload_n hx hb dX8_turns_42 rfl (lv_at hl 1 rfl) ?_
      refine lv_iconst (v := 1) hx hb dX8_turns_43 (by decide) ?_
      refine lv_iadd hx hb dX8_turns_44 ?_
      refine yk_ti (y := nI (px.toNatClampNeg + 1)) (nI_add px.toNatClampNeg 1) ?_
      refine yk_i [0, 1] (va_runV (As := [.int (nI (px.toNatClampNeg + 1))]) (rest := [.int (f_X8_yOf nw px.toNatClampNeg n)]) ⟨hx, hb, hml, hown, hts⟩ (c_X8_yOf l D cy ta m_now m_undone m_slots m_slotKind m_hasSlot m_sheetBits m_sheetSize m_sheets m_fresh m_rootWhich m_signs m_atNought m_change m_table m_carried nw u fi aa bb dd ro db mn (px.toNatClampNeg + 1) n hn12 hn (by omega) (by omega) H.size) (cwV 1 hts gX8_turns_X8_yOf rfl rfl rfl hv_X8_yOf (yk_room hRf hRl rfl rfl)) (yk_pv (q := (RX8, TX8, 23)) hG hA hS hK hP hD [0, 1] (by decide +kernel) rfl rfl rfl) rfl rfl hl.1 rfl (lv_room (Nat.le_of_ble_eq_true rfl)) dX8_turns_45 ⟨Nat.zero_le _, Nat.zero_le _⟩) hP hD hS hA rfl (Eq.trans (b := [ta, m_now]) rfl rfl) (fun H locs hP9 hD9 hS9 => ?_)
      replace hP : va_P D vwCl [(ta, .inr (8, [.ref m_now, .ref m_undone, .ref m_slots, .ref m_slotKind, .ref m_hasSlot, .ref m_sheetBits, .ref m_sheetSize, .ref m_sheets, .int (nI u), .int fi, .ref m_fresh, .long aa, .long bb, .long dd, .int (nI ro), .ref m_rootWhich, .int db, .ref m_signs, .ref m_atNought, .int (nI mn), .ref m_change, .ref m_table, .ref m_carried])), (m_now, .inl (cy 0, 29, .inl nw)), (m_rootWhich, .inl (cy 0, 2, .inl rt))] H := hP9
      replace hD : va_D A [(ta, .inr (8, [.ref m_now, .ref m_undone, .ref m_slots, .ref m_slotKind, .ref m_hasSlot, .ref m_sheetBits, .ref m_sheetSize, .ref m_sheets, .int (nI u), .int fi, .ref m_fresh, .long aa, .long bb, .long dd, .int (nI ro), .ref m_rootWhich, .int db, .ref m_signs, .ref m_atNought, .int (nI mn), .ref m_change, .ref m_table, .ref m_carried])), (m_now, .inl (cy 0, 29, .inl nw)), (m_rootWhich, .inl (cy 0, 2, .inl rt))] := hD9
      replace hS := hS9
      clear hP9 hD9 hS9
      refine lv_icmp_ne (tgt := 58) hx hb dX8_turns_48 (by decide) (fun hc4 => ?_) (fun hc4 => ?_)
      · replace hF := hF.trans (if_neg hc4)
        refine lv_aload_n hx hb dX8_turns_58 rfl (lv_at hl 0 rfl) ?_
        refine lv_iload_n hx hb dX8_turns_59 rfl (lv_at hl 1 rfl) ?_
        refine yk_i [0, 1, 2] (va_runV (As := [.int (nI px.toNatClampNeg)]) (rest := []) ⟨hx, hb, hml, hown, hts⟩ (c_X8_zeros l D cy ta m_now m_rootWhich m_undone m_slots m_slotKind m_hasSlot m_sheetBits m_sheetSize m_sheets m_fresh m_signs m_atNought m_change m_table m_carried nw u fi aa bb dd ro rt db mn px.toNatClampNeg n hn12 hn (by omega) (by omega) H.size) (cwV 1 hts gX8_turns_X8_zeros rfl rfl rfl hv_X8_zeros (yk_room hRf hRl rfl rfl)) (yk_pv (q := (RX8, TX8, 23)) hG hA hS hK hP hD [0, 1, 2] (by decide +kernel) rfl rfl rfl) rfl rfl hl.1 rfl (lv_room (Nat.le_of_ble_eq_true rfl)) dX8_turns_60 ⟨Nat.zero_le _, Nat.zero_le _⟩) hP hD hS hA rfl (Eq.trans (b := [ta, m_now, m_rootWhich]) rfl rfl) (fun H locs hP9 hD9 hS9 => ?_)
        replace hP : va_P D vwCl [(ta, .inr (8, [.ref m_now, .ref m_undone, .ref m_slots, .ref m_slotKind, .ref m_hasSlot, .ref m_sheetBits, .ref m_sheetSize, .ref m_sheets, .int (nI u), .int fi, .ref m_fresh, .long ((f_X8_zeros nw ro rt db px.toNatClampNeg n).2.1), .long ((f_X8_zeros nw ro rt db px.toNatClampNeg n).2.2.1), .long ((f_X8_zeros nw ro rt db px.toNatClampNeg n).2.2.2.1), .int (nI ((f_X8_zeros nw ro rt db px.toNatClampNeg n).2.2.2.2.1)), .ref m_rootWhich, .int ((f_X8_zeros nw ro rt db px.toNatClampNeg n).2.2.2.2.2.1), .ref m_signs, .ref m_atNought, .int (nI mn), .ref m_change, .ref m_table, .ref m_carried])), (m_now, .inl (cy 0, 29, .inl nw)), (m_rootWhich, .inl (cy 0, 2, .inl ((f_X8_zeros nw ro rt db px.toNatClampNeg n).2.2.2.2.2.2)))] H := hP9
        replace hD : va_D A [(ta, .inr (8, [.ref m_now, .ref m_undone, .ref m_slots, .ref m_slotKind, .ref m_hasSlot, .ref m_sheetBits, .ref m_sheetSize, .ref m_sheets, .int (nI u), .int fi, .ref m_fresh, .long ((f_X8_zeros nw ro rt db px.toNatClampNeg n).2.1), .long ((f_X8_zeros nw ro rt db px.toNatClampNeg n).2.2.1), .long ((f_X8_zeros nw ro rt db px.toNatClampNeg n).2.2.2.1), .int (nI ((f_X8_zeros nw ro rt db px.toNatClampNeg n).2.2.2.2.1)), .ref m_rootWhich, .int ((f_X8_zeros nw ro rt db px.toNatClampNeg n).2.2.2.2.2.1), .ref m_signs, .ref m_atNought, .int (nI mn), .ref m_change, .ref m_table, .ref m_carried])), (m_now, .inl (cy 0, 29, .inl nw)), (m_rootWhich, .inl (cy 0, 2, .inl ((f_X8_zeros nw ro rt db px.toNatClampNeg n).2.2.2.2.2.2)))] := hD9
        replace hS := hS9
        clear hP9 hD9 hS9
        have hF : f_X8_turns nw fi aa bb dd ro rt db px n = (((f_X8_zeros nw ro rt db px.toNatClampNeg n).1), fi, ((f_X8_zeros nw ro rt db px.toNatClampNeg n).2.1), ((f_X8_zeros nw ro rt db px.toNatClampNeg n).2.2.1), ((f_X8_zeros nw ro rt db px.toNatClampNeg n).2.2.2.1), ((f_X8_zeros nw ro rt db px.toNatClampNeg n).2.2.2.2.1), ((f_X8_zeros nw ro rt db px.toNatClampNeg n).2.2.2.2.2.1), ((f_X8_zeros nw ro rt db px.toNatClampNeg n).2.2.2.2.2.2)) := hF
        have hf0 := yk_fst hF
        have hg0 := yk_snd hF
        have hf1 := yk_fst hg0
        have hg1 := yk_snd hg0
        have hf2 := yk_fst hg1
        have hg2 := yk_snd hg1
        have hf3 := yk_fst hg2
        have hg3 := yk_snd hg2
        have hf4 := yk_fst hg3
        have hg4 := yk_snd hg3
        have hf5 := yk_fst hg4
        have hg5 := yk_snd hg4
        have hf6 := yk_fst hg5
        have hg6 := yk_snd hg5
        rw [hf0, hf1, hf2, hf3, hf4, hf5, hf6, hg6] at hQ
        exact hQ _ _ _ _ dX8_turns_63 hP hS
      · replace hF := hF.trans (if_pos hc4)
        refine lv_aload_n hx hb dX8_turns_51 rfl (lv_at hl 0 rfl) ?_
        refine lv_ldc (v := (-1000003)) hx hb hown (hts _ kX8_turns_0) dX8_turns_52 ?_
        refine yk_i [0] (va_runV (As := [.int (-1000003)]) (rest := []) ⟨hx, hb, hml, hown, hts⟩ (c_X8_found l D cy ta m_now m_undone m_slots m_slotKind m_hasSlot m_sheetBits m_sheetSize m_sheets m_fresh m_rootWhich m_signs m_atNought m_change m_table m_carried u fi aa bb dd ro db mn (-1000003) H.size) (cwV 1 hts gX8_turns_X8_found rfl rfl rfl hv_X8_found (yk_room hRf hRl rfl rfl)) (yk_pv (q := (RX8, TX8, 23)) hG hA hS hK hP hD [0] (by decide +kernel) rfl rfl rfl) rfl rfl hl.1 rfl (lv_room (Nat.le_of_ble_eq_true rfl)) dX8_turns_54 ⟨Nat.zero_le _, Nat.zero_le _⟩) hP hD hS hA rfl (Eq.trans (b := [ta]) rfl rfl) (fun H locs hP9 hD9 hS9 => ?_)
        replace hP : va_P D vwCl [(ta, .inr (8, [.ref m_now, .ref m_undone, .ref m_slots, .ref m_slotKind, .ref m_hasSlot, .ref m_sheetBits, .ref m_sheetSize, .ref m_sheets, .int (nI u), .int ((f_X8_found fi (-1000003)).2), .ref m_fresh, .long aa, .long bb, .long dd, .int (nI ro), .ref m_rootWhich, .int db, .ref m_signs, .ref m_atNought, .int (nI mn), .ref m_change, .ref m_table, .ref m_carried])), (m_now, .inl (cy 0, 29, .inl nw)), (m_rootWhich, .inl (cy 0, 2, .inl rt))] H := hP9
        replace hD : va_D A [(ta, .inr (8, [.ref m_now, .ref m_undone, .ref m_slots, .ref m_slotKind, .ref m_hasSlot, .ref m_sheetBits, .ref m_sheetSize, .ref m_sheets, .int (nI u), .int ((f_X8_found fi (-1000003)).2), .ref m_fresh, .long aa, .long bb, .long dd, .int (nI ro), .ref m_rootWhich, .int db, .ref m_signs, .ref m_atNought, .int (nI mn), .ref m_change, .ref m_table, .ref m_carried])), (m_now, .inl (cy 0, 29, .inl nw)), (m_rootWhich, .inl (cy 0, 2, .inl rt))] := hD9
        replace hS := hS9
        clear hP9 hD9 hS9
        have hF : f_X8_turns nw fi aa bb dd ro rt db px n = (((f_X8_found fi (-1000003)).1), ((f_X8_found fi (-1000003)).2), aa, bb, dd, ro, db, rt) := hF
        have hf0 := yk_fst hF
        have hg0 := yk_snd hF
        have hf1 := yk_fst hg0
        have hg1 := yk_snd hg0
        have hf2 := yk_fst hg1
        have hg2 := yk_snd hg1
        have hf3 := yk_fst hg2
        have hg3 := yk_snd hg2
        have hf4 := yk_fst hg3
        have hg4 := yk_snd hg3
        have hf5 := yk_fst hg4
        have hg5 := yk_snd hg4
        have hf6 := yk_fst hg5
        have hg6 := yk_snd hg5
        rw [hf0, hf1, hf2, hf3, hf4, hf5, hf6, hg6] at hQ
        exact hQ _ _ _ _ dX8_turns_57 hP hS
  · replace hF := hF.trans (if_pos hc1)
    refine lv_aload_n hx hb dX8_turns_14 rfl (lv_at hl 0 rfl) ?_
    refine lv_ldc (v := (-1000001)) hx hb hown (hts _ kX8_turns_1) dX8_turns_15 ?_
    refine yk_i [0] (va_runV (As := [.int (-1000001)]) (rest := []) ⟨hx, hb, hml, hown, hts⟩ (c_X8_found l D cy ta m_now m_undone m_slots m_slotKind m_hasSlot m_sheetBits m_sheetSize m_sheets m_fresh m_rootWhich m_signs m_atNought m_change m_table m_carried u fi aa bb dd ro db mn (-1000001) H.size) (cwV 1 hts gX8_turns_X8_found rfl rfl rfl hv_X8_found (yk_room hRf hRl rfl rfl)) (yk_pv (q := (RX8, TX8, 23)) hG hA hS hK hP hD [0] (by decide +kernel) rfl rfl rfl) rfl rfl hl.1 rfl (lv_room (Nat.le_of_ble_eq_true rfl)) dX8_turns_17 ⟨Nat.zero_le _, Nat.zero_le _⟩) hP hD hS hA rfl (Eq.trans (b := [ta]) rfl rfl) (fun H locs hP9 hD9 hS9 => ?_)
    replace hP : va_P D vwCl [(ta, .inr (8, [.ref m_now, .ref m_undone, .ref m_slots, .ref m_slotKind, .ref m_hasSlot, .ref m_sheetBits, .ref m_sheetSize, .ref m_sheets, .int (nI u), .int ((f_X8_found fi (-1000001)).2), .ref m_fresh, .long aa, .long bb, .long dd, .int (nI ro), .ref m_rootWhich, .int db, .ref m_signs, .ref m_atNought, .int (nI mn), .ref m_change, .ref m_table, .ref m_carried])), (m_now, .inl (cy 0, 29, .inl nw)), (m_rootWhich, .inl (cy 0, 2, .inl rt))] H := hP9
    replace hD : va_D A [(ta, .inr (8, [.ref m_now, .ref m_undone, .ref m_slots, .ref m_slotKind, .ref m_hasSlot, .ref m_sheetBits, .ref m_sheetSize, .ref m_sheets, .int (nI u), .int ((f_X8_found fi (-1000001)).2), .ref m_fresh, .long aa, .long bb, .long dd, .int (nI ro), .ref m_rootWhich, .int db, .ref m_signs, .ref m_atNought, .int (nI mn), .ref m_change, .ref m_table, .ref m_carried])), (m_now, .inl (cy 0, 29, .inl nw)), (m_rootWhich, .inl (cy 0, 2, .inl rt))] := hD9
    replace hS := hS9
    clear hP9 hD9 hS9
    have hF : f_X8_turns nw fi aa bb dd ro rt db px n = (((f_X8_found fi (-1000001)).1), ((f_X8_found fi (-1000001)).2), aa, bb, dd, ro, db, rt) := hF
    have hf0 := yk_fst hF
    have hg0 := yk_snd hF
    have hf1 := yk_fst hg0
    have hg1 := yk_snd hg0
    have hf2 := yk_fst hg1
    have hg2 := yk_snd hg1
    have hf3 := yk_fst hg2
    have hg3 := yk_snd hg2
    have hf4 := yk_fst hg3
    have hg4 := yk_snd hg3
    have hf5 := yk_fst hg4
    have hg5 := yk_snd hg4
    have hf6 := yk_fst hg5
    have hg6 := yk_snd hg5
    rw [hf0, hf1, hf2, hf3, hf4, hf5, hf6, hg6] at hQ
    exact hQ _ _ _ _ dX8_turns_20 hP hS

theorem kX8_across_0 : Cond.constant RX8 99 (-1000003) ∈ wsX8_across := by decide +kernel
theorem kX8_across_1 : Cond.constant RX8 68 (-1000001) ∈ wsX8_across := by decide +kernel
def f_X8_across (nw : Nat → Int32) (fi : Int32) (aa : Int64) (bb : Int64) (dd : Int64) (ro : Nat) (rt : Nat → Int32) (db : Int32) (px : Int32) (n : Nat) : Int32 × Int32 × Int64 × Int64 × Int64 × Nat × Int32 × (Nat → Int32) := (if (f_X8_in px 0 ((nI n) - 1)) = 0 then (((f_X8_found fi (-1000001)).1), ((f_X8_found fi (-1000001)).2), aa, bb, dd, ro, db, rt) else (if (f_X8_xOf nw px.toNatClampNeg n) = (f_X8_xOf nw (px.toNatClampNeg + 1) n) then (if (f_X8_yOf nw px.toNatClampNeg n) = (f_X8_yOf nw (px.toNatClampNeg + 1) n) then (((f_X8_found fi (-1000003)).1), ((f_X8_found fi (-1000003)).2), aa, bb, dd, ro, db, rt) else (((f_X8_acrossOf nw ro rt db px.toNatClampNeg n).1), fi, ((f_X8_acrossOf nw ro rt db px.toNatClampNeg n).2.1), ((f_X8_acrossOf nw ro rt db px.toNatClampNeg n).2.2.1), ((f_X8_acrossOf nw ro rt db px.toNatClampNeg n).2.2.2.1), ((f_X8_acrossOf nw ro rt db px.toNatClampNeg n).2.2.2.2.1), ((f_X8_acrossOf nw ro rt db px.toNatClampNeg n).2.2.2.2.2.1), ((f_X8_acrossOf nw ro rt db px.toNatClampNeg n).2.2.2.2.2.2))) else (((f_X8_acrossOf nw ro rt db px.toNatClampNeg n).1), fi, ((f_X8_acrossOf nw ro rt db px.toNatClampNeg n).2.1), ((f_X8_acrossOf nw ro rt db px.toNatClampNeg n).2.2.1), ((f_X8_acrossOf nw ro rt db px.toNatClampNeg n).2.2.2.1), ((f_X8_acrossOf nw ro rt db px.toNatClampNeg n).2.2.2.2.1), ((f_X8_acrossOf nw ro rt db px.toNatClampNeg n).2.2.2.2.2.1), ((f_X8_acrossOf nw ro rt db px.toNatClampNeg n).2.2.2.2.2.2))))
set_option maxHeartbeats 400000000 in
set_option maxRecDepth 100000 in
theorem c_X8_across (l : Launch) (D : va_G) (cy : Nat → ClassId) (ta : Nat) (m_now : Nat) (m_rootWhich : Nat) (m_undone : Nat) (m_slots : Nat) (m_slotKind : Nat) (m_hasSlot : Nat) (m_sheetBits : Nat) (m_sheetSize : Nat) (m_sheets : Nat) (m_fresh : Nat) (m_signs : Nat) (m_atNought : Nat) (m_change : Nat) (m_table : Nat) (m_carried : Nat) (nw : Nat → Int32) (u : Nat) (fi : Int32) (aa : Int64) (bb : Int64) (dd : Int64) (ro : Nat) (rt : Nat → Int32) (db : Int32) (mn : Nat) (px : Int32) (n : Nat) (hn12 : nw 12 = nI n) (hn : n ≤ 8) : yk_Ci l D vwCl (yk_ty cy) yX8_across wsX8_across 6 143 [.ref ta, .int px] [(ta, .inr (8, [.ref m_now, .ref m_undone, .ref m_slots, .ref m_slotKind, .ref m_hasSlot, .ref m_sheetBits, .ref m_sheetSize, .ref m_sheets, .int (nI u), .int fi, .ref m_fresh, .long aa, .long bb, .long dd, .int (nI ro), .ref m_rootWhich, .int db, .ref m_signs, .ref m_atNought, .int (nI mn), .ref m_change, .ref m_table, .ref m_carried])), (m_now, .inl (cy 0, 29, .inl nw)), (m_rootWhich, .inl (cy 0, 2, .inl rt))] ((f_X8_across nw fi aa bb dd ro rt db px n).1) [(ta, .inr (8, [.ref m_now, .ref m_undone, .ref m_slots, .ref m_slotKind, .ref m_hasSlot, .ref m_sheetBits, .ref m_sheetSize, .ref m_sheets, .int (nI u), .int ((f_X8_across nw fi aa bb dd ro rt db px n).2.1), .ref m_fresh, .long ((f_X8_across nw fi aa bb dd ro rt db px n).2.2.1), .long ((f_X8_across nw fi aa bb dd ro rt db px n).2.2.2.1), .long ((f_X8_across nw fi aa bb dd ro rt db px n).2.2.2.2.1), .int (nI ((f_X8_across nw fi aa bb dd ro rt db px n).2.2.2.2.2.1)), .ref m_rootWhich, .int ((f_X8_across nw fi aa bb dd ro rt db px n).2.2.2.2.2.2.1), .ref m_signs, .ref m_atNought, .int (nI mn), .ref m_change, .ref m_table, .ref m_carried])), (m_now, .inl (cy 0, 29, .inl nw)), (m_rootWhich, .inl (cy 0, 2, .inl ((f_X8_across nw fi aa bb dd ro rt db px n).2.2.2.2.2.2.2)))] := by
  refine yk_eI (cc := cX8_across) (maxL := 2) (by decide) rfl (Nat.le_of_ble_eq_true rfl) rfl ?_
  intro p e R s m args below meth c A Q ls H locs hx hb hml hown hts hRf hRl hA hK hG hP hD hS hl hQ
  have hP : va_P D vwCl [(ta, .inr (8, [.ref m_now, .ref m_undone, .ref m_slots, .ref m_slotKind, .ref m_hasSlot, .ref m_sheetBits, .ref m_sheetSize, .ref m_sheets, .int (nI u), .int fi, .ref m_fresh, .long aa, .long bb, .long dd, .int (nI ro), .ref m_rootWhich, .int db, .ref m_signs, .ref m_atNought, .int (nI mn), .ref m_change, .ref m_table, .ref m_carried])), (m_now, .inl (cy 0, 29, .inl nw)), (m_rootWhich, .inl (cy 0, 2, .inl rt))] H := hP
  have hl : lv_has ls 2 [(0, .ref ta), (1, .int px)] := hl
  have hown : s.vm.findClass RX8 = some m.cls := hown
  have hF : (f_X8_across nw fi aa bb dd ro rt db px n) = (f_X8_across nw fi aa bb dd ro rt db px n) := rfl
  refine lv_iload_n hx hb dX8_across_0 rfl (lv_at hl 1 rfl) ?_
  refine lv_iconst (v := 0) hx hb dX8_across_1 (by decide) ?_
  refine lv_aload_n hx hb dX8_across_2 rfl (lv_at hl 0 rfl) ?_
  refine yk_i [0, 1] (va_runV (As := []) (rest := [.int 0, .int px]) ⟨hx, hb, hml, hown, hts⟩ (c_X8_corners l D cy ta m_now m_undone m_slots m_slotKind m_hasSlot m_sheetBits m_sheetSize m_sheets m_fresh m_rootWhich m_signs m_atNought m_change m_table m_carried nw u fi aa bb dd ro db mn H.size) (cwV 0 hts gX8_across_X8_corners rfl rfl rfl hv_X8_corners (yk_room hRf hRl rfl rfl)) (yk_pv (q := (RX8, TX8, 23)) hG hA hS hK hP hD [0, 1] (by decide +kernel) rfl rfl rfl) rfl rfl hl.1 rfl (lv_room (Nat.le_of_ble_eq_true rfl)) dX8_across_3 ⟨Nat.zero_le _, Nat.zero_le _⟩) hP hD hS hA rfl (Eq.trans (b := [ta, m_now]) rfl rfl) (fun H locs hP9 hD9 hS9 => ?_)
  replace hP : va_P D vwCl [(ta, .inr (8, [.ref m_now, .ref m_undone, .ref m_slots, .ref m_slotKind, .ref m_hasSlot, .ref m_sheetBits, .ref m_sheetSize, .ref m_sheets, .int (nI u), .int fi, .ref m_fresh, .long aa, .long bb, .long dd, .int (nI ro), .ref m_rootWhich, .int db, .ref m_signs, .ref m_atNought, .int (nI mn), .ref m_change, .ref m_table, .ref m_carried])), (m_now, .inl (cy 0, 29, .inl nw)), (m_rootWhich, .inl (cy 0, 2, .inl rt))] H := hP9
  replace hD : va_D A [(ta, .inr (8, [.ref m_now, .ref m_undone, .ref m_slots, .ref m_slotKind, .ref m_hasSlot, .ref m_sheetBits, .ref m_sheetSize, .ref m_sheets, .int (nI u), .int fi, .ref m_fresh, .long aa, .long bb, .long dd, .int (nI ro), .ref m_rootWhich, .int db, .ref m_signs, .ref m_atNought, .int (nI mn), .ref m_change, .ref m_table, .ref m_carried])), (m_now, .inl (cy 0, 29, .inl nw)), (m_rootWhich, .inl (cy 0, 2, .inl rt))] := hD9
  replace hS := hS9
  clear hP9 hD9 hS9
  refine yk_ti (y := nI n) (hn12) ?_
  refine lv_iconst (v := 1) hx hb dX8_across_6 (by decide) ?_
  refine lv_isub hx hb dX8_across_7 ?_
  refine yk_i [] (va_runS (As := [.int px, .int 0, .int ((nI n) - 1)]) (rest := []) ⟨hx, hb, hml, hown, hts⟩ (c_X8_in l D cy px 0 ((nI n) - 1) H.size) (va_cwS 3 hts gX8_across_X8_in rfl rfl rfl hs_X8_in (yk_room hRf hRl rfl rfl)) (yk_ps hG hA hS hK hP hD [] (by decide +kernel) rfl) rfl rfl hl.1 rfl (lv_room (Nat.le_of_ble_eq_true rfl)) dX8_across_8 ⟨Nat.zero_le _, Nat.zero_le _⟩) hP hD hS hA rfl rfl (fun H locs hP9 hD9 hS9 => ?_)
  replace hP : va_P D vwCl [(ta, .inr (8, [.ref m_now, .ref m_undone, .ref m_slots, .ref m_slotKind, .ref m_hasSlot, .ref m_sheetBits, .ref m_sheetSize, .ref m_sheets, .int (nI u), .int fi, .ref m_fresh, .long aa, .long bb, .long dd, .int (nI ro), .ref m_rootWhich, .int db, .ref m_signs, .ref m_atNought, .int (nI mn), .ref m_change, .ref m_table, .ref m_carried])), (m_now, .inl (cy 0, 29, .inl nw)), (m_rootWhich, .inl (cy 0, 2, .inl rt))] H := hP9
  replace hD : va_D A [(ta, .inr (8, [.ref m_now, .ref m_undone, .ref m_slots, .ref m_slotKind, .ref m_hasSlot, .ref m_sheetBits, .ref m_sheetSize, .ref m_sheets, .int (nI u), .int fi, .ref m_fresh, .long aa, .long bb, .long dd, .int (nI ro), .ref m_rootWhich, .int db, .ref m_signs, .ref m_atNought, .int (nI mn), .ref m_change, .ref m_table, .ref m_carried])), (m_now, .inl (cy 0, 29, .inl nw)), (m_rootWhich, .inl (cy 0, 2, .inl rt))] := hD9
  replace hS := hS9
  clear hP9 hD9 hS9
  refine lv_if_ne (tgt := 21) hx hb dX8_across_11 (by decide) (fun hc1 => ?_) (fun hc1 => ?_)
  · replace hF := hF.trans (if_neg hc1)
    have hq2 : px = nI px.toNatClampNeg := (ix_inn hn (by assumption)).1
    have hq2b : px.toNatClampNeg < n := (ix_inn hn (by assumption)).2
    rw [hq2] at hl
    refine lv_aload_n hx hb dX8_across_21 rfl (lv_at hl 0 rfl) ?_
    refine lv_iload_n hx hb dX8_across_22 rfl (lv_at hl 1 rfl) ?_
    refine yk_i [0, 1] (va_runV (As := [.int (nI px.toNatClampNeg)]) (rest := []) ⟨hx, hb, hml, hown, hts⟩ (c_X8_xOf l D cy ta m_now m_undone m_slots m_slotKind m_hasSlot m_sheetBits m_sheetSize m_sheets m_fresh m_rootWhich m_signs m_atNought m_change m_table m_carried nw u fi aa bb dd ro db mn px.toNatClampNeg n hn12 hn (by omega) (by omega) H.size) (cwV 1 hts gX8_across_X8_xOf rfl rfl rfl hv_X8_xOf (yk_room hRf hRl rfl rfl)) (yk_pv (q := (RX8, TX8, 23)) hG hA hS hK hP hD [0, 1] (by decide +kernel) rfl rfl rfl) rfl rfl hl.1 rfl (lv_room (Nat.le_of_ble_eq_true rfl)) dX8_across_23 ⟨Nat.zero_le _, Nat.zero_le _⟩) hP hD hS hA rfl (Eq.trans (b := [ta, m_now]) rfl rfl) (fun H locs hP9 hD9 hS9 => ?_)
    replace hP : va_P D vwCl [(ta, .inr (8, [.ref m_now, .ref m_undone, .ref m_slots, .ref m_slotKind, .ref m_hasSlot, .ref m_sheetBits, .ref m_sheetSize, .ref m_sheets, .int (nI u), .int fi, .ref m_fresh, .long aa, .long bb, .long dd, .int (nI ro), .ref m_rootWhich, .int db, .ref m_signs, .ref m_atNought, .int (nI mn), .ref m_change, .ref m_table, .ref m_carried])), (m_now, .inl (cy 0, 29, .inl nw)), (m_rootWhich, .inl (cy 0, 2, .inl rt))] H := hP9
    replace hD : va_D A [(ta, .inr (8, [.ref m_now, .ref m_undone, .ref m_slots, .ref m_slotKind, .ref m_hasSlot, .ref m_sheetBits, .ref m_sheetSize, .ref m_sheets, .int (nI u), .int fi, .ref m_fresh, .long aa, .long bb, .long dd, .int (nI ro), .ref m_rootWhich, .int db, .ref m_signs, .ref m_atNought, .int (nI mn), .ref m_change, .ref m_table, .ref m_carried])), (m_now, .inl (cy 0, 29, .inl nw)), (m_rootWhich, .inl (cy 0, 2, .inl rt))] := hD9
    replace hS := hS9
    clear hP9 hD9 hS9
    refine lv_aload_n hx hb dX8_across_26 rfl (lv_at hl 0 rfl) ?_
    refine lv_iload_n hx hb dX8_across_27 rfl (lv_at hl 1 rfl) ?_
    refine lv_iconst (v := 1) hx hb dX8_across_28 (by decide) ?_
    refine lv_iadd hx hb dX8_across_29 ?_
    refine yk_ti (y := nI (px.toNatClampNeg + 1)) (nI_add px.toNatClampNeg 1) ?_
    refine yk_i [0, 1] (va_runV (As := [.int (nI (px.toNatClampNeg + 1))]) (rest := [.int (f_X8_xOf nw px.toNatClampNeg n)]) ⟨hx, hb, hml, hown, hts⟩ (c_X8_xOf l D cy ta m_now m_undone m_slots m_slotKind m_hasSlot m_sheetBits m_sheetSize m_sheets m_fresh m_rootWhich m_signs m_atNought m_change m_table m_carried nw u fi aa bb dd ro db mn (px.toNatClampNeg + 1) n hn12 hn (by omega) (by omega) H.size) (cwV 1 hts gX8_across_X8_xOf rfl rfl rfl hv_X8_xOf (yk_room hRf hRl rfl rfl)) (yk_pv (q := (RX8, TX8, 23)) hG hA hS hK hP hD [0, 1] (by decide +kernel) rfl rfl rfl) rfl rfl hl.1 rfl (lv_room (Nat.le_of_ble_eq_true rfl)) dX8_across_30 ⟨Nat.zero_le _, Nat.zero_le _⟩) hP hD hS hA rfl (Eq.trans (b := [ta, m_now]) rfl rfl) (fun H locs hP9 hD9 hS9 => ?_)
    replace hP : va_P D vwCl [(ta, .inr (8, [.ref m_now, .ref m_undone, .ref m_slots, .ref m_slotKind, .ref m_hasSlot, .ref m_sheetBits, .ref m_sheetSize, .ref m_sheets, .int (nI u), .int fi, .ref m_fresh, .long aa, .long bb, .long dd, .int (nI ro), .ref m_rootWhich, .int db, .ref m_signs, .ref m_atNought, .int (nI mn), .ref m_change, .ref m_table, .ref m_carried])), (m_now, .inl (cy 0, 29, .inl nw)), (m_rootWhich, .inl (cy 0, 2, .inl rt))] H := hP9
    replace hD : va_D A [(ta, .inr (8, [.ref m_now, .ref m_undone, .ref m_slots, .ref m_slotKind, .ref m_hasSlot, .ref m_sheetBits, .ref m_sheetSize, .ref m_sheets, .int (nI u), .int fi, .ref m_fresh, .long aa, .long bb, .long dd, .int (nI ro), .ref m_rootWhich, .int db, .ref m_signs, .ref m_atNought, .int (nI mn), .ref m_change, .ref m_table, .ref m_carried])), (m_now, .inl (cy 0, 29, .inl nw)), (m_rootWhich, .inl (cy 0, 2, .inl rt))] := hD9
    replace hS := hS9
    clear hP9 hD9 hS9
    refine lv_icmp_ne (tgt := 58) hx hb dX8_across_33 (by decide) (fun hc3 => ?_) (fun hc3 => ?_)
    · replace hF := hF.trans (if_neg hc3)
      refine lv_aload_n hx hb dX8_across_58 rfl (lv_at hl 0 rfl) ?_
      refine lv_iload_n hx hb dX8_across_59 rfl (lv_at hl 1 rfl) ?_
      refine yk_i [0, 1, 2] (va_runV (As := [.int (nI px.toNatClampNeg)]) (rest := []) ⟨hx, hb, hml, hown, hts⟩ (c_X8_acrossOf l D cy ta m_now m_rootWhich m_undone m_slots m_slotKind m_hasSlot m_sheetBits m_sheetSize m_sheets m_fresh m_signs m_atNought m_change m_table m_carried nw u fi aa bb dd ro rt db mn px.toNatClampNeg n hn12 hn (by omega) (by omega) H.size) (cwV 1 hts gX8_across_X8_acrossOf rfl rfl rfl hv_X8_acrossOf (yk_room hRf hRl rfl rfl)) (yk_pv (q := (RX8, TX8, 23)) hG hA hS hK hP hD [0, 1, 2] (by decide +kernel) rfl rfl rfl) rfl rfl hl.1 rfl (lv_room (Nat.le_of_ble_eq_true rfl)) dX8_across_60 ⟨Nat.zero_le _, Nat.zero_le _⟩) hP hD hS hA rfl (Eq.trans (b := [ta, m_now, m_rootWhich]) rfl rfl) (fun H locs hP9 hD9 hS9 => ?_)
      replace hP : va_P D vwCl [(ta, .inr (8, [.ref m_now, .ref m_undone, .ref m_slots, .ref m_slotKind, .ref m_hasSlot, .ref m_sheetBits, .ref m_sheetSize, .ref m_sheets, .int (nI u), .int fi, .ref m_fresh, .long ((f_X8_acrossOf nw ro rt db px.toNatClampNeg n).2.1), .long ((f_X8_acrossOf nw ro rt db px.toNatClampNeg n).2.2.1), .long ((f_X8_acrossOf nw ro rt db px.toNatClampNeg n).2.2.2.1), .int (nI ((f_X8_acrossOf nw ro rt db px.toNatClampNeg n).2.2.2.2.1)), .ref m_rootWhich, .int ((f_X8_acrossOf nw ro rt db px.toNatClampNeg n).2.2.2.2.2.1), .ref m_signs, .ref m_atNought, .int (nI mn), .ref m_change, .ref m_table, .ref m_carried])), (m_now, .inl (cy 0, 29, .inl nw)), (m_rootWhich, .inl (cy 0, 2, .inl ((f_X8_acrossOf nw ro rt db px.toNatClampNeg n).2.2.2.2.2.2)))] H := hP9
      replace hD : va_D A [(ta, .inr (8, [.ref m_now, .ref m_undone, .ref m_slots, .ref m_slotKind, .ref m_hasSlot, .ref m_sheetBits, .ref m_sheetSize, .ref m_sheets, .int (nI u), .int fi, .ref m_fresh, .long ((f_X8_acrossOf nw ro rt db px.toNatClampNeg n).2.1), .long ((f_X8_acrossOf nw ro rt db px.toNatClampNeg n).2.2.1), .long ((f_X8_acrossOf nw ro rt db px.toNatClampNeg n).2.2.2.1), .int (nI ((f_X8_acrossOf nw ro rt db px.toNatClampNeg n).2.2.2.2.1)), .ref m_rootWhich, .int ((f_X8_acrossOf nw ro rt db px.toNatClampNeg n).2.2.2.2.2.1), .ref m_signs, .ref m_atNought, .int (nI mn), .ref m_change, .ref m_table, .ref m_carried])), (m_now, .inl (cy 0, 29, .inl nw)), (m_rootWhich, .inl (cy 0, 2, .inl ((f_X8_acrossOf nw ro rt db px.toNatClampNeg n).2.2.2.2.2.2)))] := hD9
      replace hS := hS9
      clear hP9 hD9 hS9
      have hF : f_X8_across nw fi aa bb dd ro rt db px n = (((f_X8_acrossOf nw ro rt db px.toNatClampNeg n).1), fi, ((f_X8_acrossOf nw ro rt db px.toNatClampNeg n).2.1), ((f_X8_acrossOf nw ro rt db px.toNatClampNeg n).2.2.1), ((f_X8_acrossOf nw ro rt db px.toNatClampNeg n).2.2.2.1), ((f_X8_acrossOf nw ro rt db px.toNatClampNeg n).2.2.2.2.1), ((f_X8_acrossOf nw ro rt db px.toNatClampNeg n).2.2.2.2.2.1), ((f_X8_acrossOf nw ro rt db px.toNatClampNeg n).2.2.2.2.2.2)) := hF
      have hf0 := yk_fst hF
      have hg0 := yk_snd hF
      have hf1 := yk_fst hg0
      have hg1 := yk_snd hg0
      have hf2 := yk_fst hg1
      have hg2 := yk_snd hg1
      have hf3 := yk_fst hg2
      have hg3 := yk_snd hg2
      have hf4 := yk_fst hg3
      have hg4 := yk_snd hg3
      have hf5 := yk_fst hg4
      have hg5 := yk_snd hg4
      have hf6 := yk_fst hg5
      have hg6 := yk_snd hg5
      rw [hf0, hf1, hf2, hf3, hf4, hf5, hf6, hg6] at hQ
      exact hQ _ _ _ _ dX8_across_63 hP hS
    · replace hF := hF.trans (if_pos hc3)
      refine lv_aload_n hx hb dX8_across_36 rfl (lv_at hl 0 rfl) ?_
      refine lv_iload_n hx hb dX8_across_37 rfl (lv_at hl 1 rfl) ?_
      refine yk_i [0, 1] (va_runV (As := [.int (nI px.toNatClampNeg)]) (rest := []) ⟨hx, hb, hml, hown, hts⟩ (c_X8_yOf l D cy ta m_now m_undone m_slots m_slotKind m_hasSlot m_sheetBits m_sheetSize m_sheets m_fresh m_rootWhich m_signs m_atNought m_change m_table m_carried nw u fi aa bb dd ro db mn px.toNatClampNeg n hn12 hn (by omega) (by omega) H.size) (cwV 1 hts gX8_across_X8_yOf rfl rfl rfl hv_X8_yOf (yk_room hRf hRl rfl rfl)) (yk_pv (q := (RX8, TX8, 23)) hG hA hS hK hP hD [0, 1] (by decide +kernel) rfl rfl rfl) rfl rfl hl.1 rfl (lv_room (Nat.le_of_ble_eq_true rfl)) dX8_across_38 ⟨Nat.zero_le _, Nat.zero_le _⟩) hP hD hS hA rfl (Eq.trans (b := [ta, m_now]) rfl rfl) (fun H locs hP9 hD9 hS9 => ?_)
      replace hP : va_P D vwCl [(ta, .inr (8, [.ref m_now, .ref m_undone, .ref m_slots, .ref m_slotKind, .ref m_hasSlot, .ref m_sheetBits, .ref m_sheetSize, .ref m_sheets, .int (nI u), .int fi, .ref m_fresh, .long aa, .long bb, .long dd, .int (nI ro), .ref m_rootWhich, .int db, .ref m_signs, .ref m_atNought, .int (nI mn), .ref m_change, .ref m_table, .ref m_carried])), (m_now, .inl (cy 0, 29, .inl nw)), (m_rootWhich, .inl (cy 0, 2, .inl rt))] H := hP9
      replace hD : va_D A [(ta, .inr (8, [.ref m_now, .ref m_undone, .ref m_slots, .ref m_slotKind, .ref m_hasSlot, .ref m_sheetBits, .ref m_sheetSize, .ref m_sheets, .int (nI u), .int fi, .ref m_fresh, .long aa, .long bb, .long dd, .int (nI ro), .ref m_rootWhich, .int db, .ref m_signs, .ref m_atNought, .int (nI mn), .ref m_change, .ref m_table, .ref m_carried])), (m_now, .inl (cy 0, 29, .inl nw)), (m_rootWhich, .inl (cy 0, 2, .inl rt))] := hD9
      replace hS := hS9
      clear hP9 hD9 hS9
      refine lv_aload_n hx hb dX8_across_41 rfl (lv_at hl 0 rfl) ?_
      refine lv_iload_n hx hb dX8_across_42 rfl (lv_at hl 1 rfl) ?_
      refine lv_iconst (v := 1) hx hb dX8_across_43 (by decide) ?_
      refine lv_iadd hx hb dX8_across_44 ?_
      refine yk_ti (y := nI (px.toNatClampNeg + 1)) (nI_add px.toNatClampNeg 1) ?_
      refine yk_i [0, 1] (va_runV (As := [.int (nI (px.toNatClampNeg + 1))]) (rest := [.int (f_X8_yOf nw px.toNatClampNeg n)]) ⟨hx, hb, hml, hown, hts⟩ (c_X8_yOf l D cy ta m_now m_undone m_slots m_slotKind m_hasSlot m_sheetBits m_sheetSize m_sheets m_fresh m_rootWhich m_signs m_atNought m_change m_table m_carried nw u fi aa bb dd ro db mn (px.toNatClampNeg + 1) n hn12 hn (by omega) (by omega) H.size) (cwV 1 hts gX8_across_X8_yOf rfl rfl rfl hv_X8_yOf (yk_room hRf hRl rfl rfl)) (yk_pv (q := (RX8, TX8, 23)) hG hA hS hK hP hD [0, 1] (by decide +kernel) rfl rfl rfl) rfl rfl hl.1 rfl (lv_room (Nat.le_of_ble_eq_true rfl)) dX8_across_45 ⟨Nat.zero_le _, Nat.zero_le _⟩) hP hD hS hA rfl (Eq.trans (b := [ta, m_now]) rfl rfl) (fun H locs hP9 hD9 hS9 => ?_)
      replace hP : va_P D vwCl [(ta, .inr (8, [.ref m_now, .ref m_undone, .ref m_slots, .ref m_slotKind, .ref m_hasSlot, .ref m_sheetBits, .ref m_sheetSize, .ref m_sheets, .int (nI u), .int fi, .ref m_fresh, .long aa, .long bb, .long dd, .int (nI ro), .ref m_rootWhich, .int db, .ref m_signs, .ref m_atNought, .int (nI mn), .ref m_change, .ref m_table, .ref m_carried])), (m_now, .inl (cy 0, 29, .inl nw)), (m_rootWhich, .inl (cy 0, 2, .inl rt))] H := hP9
      replace hD : va_D A [(ta, .inr (8, [.ref m_now, .ref m_undone, .ref m_slots, .ref m_slotKind, .ref m_hasSlot, .ref m_sheetBits, .ref m_sheetSize, .ref m_sheets, .int (nI u), .int fi, .ref m_fresh, .long aa, .long bb, .long dd, .int (nI ro), .ref m_rootWhich, .int db, .ref m_signs, .ref m_atNought, .int (nI mn), .ref m_change, .ref m_table, .ref m_carried])), (m_now, .inl (cy 0, 29, .inl nw)), (m_rootWhich, .inl (cy 0, 2, .inl rt))] := hD9
      replace hS := hS9
      clear hP9 hD9 hS9
      refine lv_icmp_ne (tgt := 58) hx hb dX8_across_48 (by decide) (fun hc4 => ?_) (fun hc4 => ?_)
      · replace hF := hF.trans (if_neg hc4)
        refine lv_aload_n hx hb dX8_across_58 rfl (lv_at hl 0 rfl) ?_
        refine lv_iload_n hx hb dX8_across_59 rfl (lv_at hl 1 rfl) ?_
        refine yk_i [0, 1, 2] (va_runV (As := [.int (nI px.toNatClampNeg)]) (rest := []) ⟨hx, hb, hml, hown, hts⟩ (c_X8_acrossOf l D cy ta m_now m_rootWhich m_undone m_slots m_slotKind m_hasSlot m_sheetBits m_sheetSize m_sheets m_fresh m_signs m_atNought m_change m_table m_carried nw u fi aa bb dd ro rt db mn px.toNatClampNeg n hn12 hn (by omega) (by omega) H.size) (cwV 1 hts gX8_across_X8_acrossOf rfl rfl rfl hv_X8_acrossOf (yk_room hRf hRl rfl rfl)) (yk_pv (q := (RX8, TX8, 23)) hG hA hS hK hP hD [0, 1, 2] (by decide +kernel) rfl rfl rfl) rfl rfl hl.1 rfl (lv_room (Nat.le_of_ble_eq_true rfl)) dX8_across_60 ⟨Nat.zero_le _, Nat.zero_le _⟩) hP hD hS hA rfl (Eq.trans (b := [ta, m_now, m_rootWhich]) rfl rfl) (fun H locs hP9 hD9 hS9 => ?_)
        replace hP : va_P D vwCl [(ta, .inr (8, [.ref m_now, .ref m_undone, .ref m_slots, .ref m_slotKind, .ref m_hasSlot, .ref m_sheetBits, .ref m_sheetSize, .ref m_sheets, .int (nI u), .int fi, .ref m_fresh, .long ((f_X8_acrossOf nw ro rt db px.toNatClampNeg n).2.1), .long ((f_X8_acrossOf nw ro rt db px.toNatClampNeg n).2.2.1), .long ((f_X8_acrossOf nw ro rt db px.toNatClampNeg n).2.2.2.1), .int (nI ((f_X8_acrossOf nw ro rt db px.toNatClampNeg n).2.2.2.2.1)), .ref m_rootWhich, .int ((f_X8_acrossOf nw ro rt db px.toNatClampNeg n).2.2.2.2.2.1), .ref m_signs, .ref m_atNought, .int (nI mn), .ref m_change, .ref m_table, .ref m_carried])), (m_now, .inl (cy 0, 29, .inl nw)), (m_rootWhich, .inl (cy 0, 2, .inl ((f_X8_acrossOf nw ro rt db px.toNatClampNeg n).2.2.2.2.2.2)))] H := hP9
        replace hD : va_D A [(ta, .inr (8, [.ref m_now, .ref m_undone, .ref m_slots, .ref m_slotKind, .ref m_hasSlot, .ref m_sheetBits, .ref m_sheetSize, .ref m_sheets, .int (nI u), .int fi, .ref m_fresh, .long ((f_X8_acrossOf nw ro rt db px.toNatClampNeg n).2.1), .long ((f_X8_acrossOf nw ro rt db px.toNatClampNeg n).2.2.1), .long ((f_X8_acrossOf nw ro rt db px.toNatClampNeg n).2.2.2.1), .int (nI ((f_X8_acrossOf nw ro rt db px.toNatClampNeg n).2.2.2.2.1)), .ref m_rootWhich, .int ((f_X8_acrossOf nw ro rt db px.toNatClampNeg n).2.2.2.2.2.1), .ref m_signs, .ref m_atNought, .int (nI mn), .ref m_change, .ref m_table, .ref m_carried])), (m_now, .inl (cy 0, 29, .inl nw)), (m_rootWhich, .inl (cy 0, 2, .inl ((f_X8_acrossOf nw ro rt db px.toNatClampNeg n).2.2.2.2.2.2)))] := hD9
        replace hS := hS9
        clear hP9 hD9 hS9
        have hF : f_X8_across nw fi aa bb dd ro rt db px n = (((f_X8_acrossOf nw ro rt db px.toNatClampNeg n).1), fi, ((f_X8_acrossOf nw ro rt db px.toNatClampNeg n).2.1), ((f_X8_acrossOf nw ro rt db px.toNatClampNeg n).2.2.1), ((f_X8_acrossOf nw ro rt db px.toNatClampNeg n).2.2.2.1), ((f_X8_acrossOf nw ro rt db px.toNatClampNeg n).2.2.2.2.1), ((f_X8_acrossOf nw ro rt db px.toNatClampNeg n).2.2.2.2.2.1), ((f_X8_acrossOf nw ro rt db px.toNatClampNeg n).2.2.2.2.2.2)) := hF
        have hf0 := yk_fst hF
        have hg0 := yk_snd hF
        have hf1 := yk_fst hg0
        have hg1 := yk_snd hg0
        have hf2 := yk_fst hg1
        have hg2 := yk_snd hg1
        have hf3 := yk_fst hg2
        have hg3 := yk_snd hg2
        have hf4 := yk_fst hg3
        have hg4 := yk_snd hg3
        have hf5 := yk_fst hg4
        have hg5 := yk_snd hg4
        have hf6 := yk_fst hg5
        have hg6 := yk_snd hg5
        rw [hf0, hf1, hf2, hf3, hf4, hf5, hf6, hg6] at hQ
        exact hQ _ _ _ _ dX8_across_63 hP hS
      · replace hF := hF.trans (if_pos hc4)
        refine lv_aload_n hx hb dX8_across_51 rfl (lv_at hl 0 rfl) ?_
        refine lv_ldc (v := (-1000003)) hx hb hown (hts _ kX8_across_0) dX8_across_52 ?_
        refine yk_i [0] (va_runV (As := [.int (-1000003)]) (rest := []) ⟨hx, hb, hml, hown, hts⟩ (c_X8_found l D cy ta m_now m_undone m_slots m_slotKind m_hasSlot m_sheetBits m_sheetSize m_sheets m_fresh m_rootWhich m_signs m_atNought m_change m_table m_carried u fi aa bb dd ro db mn (-1000003) H.size) (cwV 1 hts gX8_across_X8_found rfl rfl rfl hv_X8_found (yk_room hRf hRl rfl rfl)) (yk_pv (q := (RX8, TX8, 23)) hG hA hS hK hP hD [0] (by decide +kernel) rfl rfl rfl) rfl rfl hl.1 rfl (lv_room (Nat.le_of_ble_eq_true rfl)) dX8_across_54 ⟨Nat.zero_le _, Nat.zero_le _⟩) hP hD hS hA rfl (Eq.trans (b := [ta]) rfl rfl) (fun H locs hP9 hD9 hS9 => ?_)
        replace hP : va_P D vwCl [(ta, .inr (8, [.ref m_now, .ref m_undone, .ref m_slots, .ref m_slotKind, .ref m_hasSlot, .ref m_sheetBits, .ref m_sheetSize, .ref m_sheets, .int (nI u), .int ((f_X8_found fi (-1000003)).2), .ref m_fresh, .long aa, .long bb, .long dd, .int (nI ro), .ref m_rootWhich, .int db, .ref m_signs, .ref m_atNought, .int (nI mn), .ref m_change, .ref m_table, .ref m_carried])), (m_now, .inl (cy 0, 29, .inl nw)), (m_rootWhich, .inl (cy 0, 2, .inl rt))] H := hP9
        replace hD : va_D A [(ta, .inr (8, [.ref m_now, .ref m_undone, .ref m_slots, .ref m_slotKind, .ref m_hasSlot, .ref m_sheetBits, .ref m_sheetSize, .ref m_sheets, .int (nI u), .int ((f_X8_found fi (-1000003)).2), .ref m_fresh, .long aa, .long bb, .long dd, .int (nI ro), .ref m_rootWhich, .int db, .ref m_signs, .ref m_atNought, .int (nI mn), .ref m_change, .ref m_table, .ref m_carried])), (m_now, .inl (cy 0, 29, .inl nw)), (m_rootWhich, .inl (cy 0, 2, .inl rt))] := hD9
        replace hS := hS9
        clear hP9 hD9 hS9
        have hF : f_X8_across nw fi aa bb dd ro rt db px n = (((f_X8_found fi (-1000003)).1), ((f_X8_found fi (-1000003)).2), aa, bb, dd, ro, db, rt) := hF
        have hf0 := yk_fst hF
        have hg0 := yk_snd hF
        have hf1 := yk_fst hg0
        have hg1 := yk_snd hg0
        have hf2 := yk_fst hg1
        have hg2 := yk_snd hg1
        have hf3 := yk_fst hg2
        have hg3 := yk_snd hg2
        have hf4 := yk_fst hg3
        have hg4 := yk_snd hg3
        have hf5 := yk_fst hg4
        have hg5 := yk_snd hg4
        have hf6 := yk_fst hg5
        have hg6 := yk_snd hg5
        rw [hf0, hf1, hf2, hf3, hf4, hf5, hf6, hg6] at hQ
        exact hQ _ _ _ _ dX8_across_57 hP hS
  · replace hF := hF.trans (if_pos hc1)
    refine lv_aload_n hx hb dX8_across_14 rfl (lv_at hl 0 rfl) ?_
    refine lv_ldc (v := (-1000001)) hx hb hown (hts _ kX8_across_1) dX8_across_15 ?_
    refine yk_i [0] (va_runV (As := [.int (-1000001)]) (rest := []) ⟨hx, hb, hml, hown, hts⟩ (c_X8_found l D cy ta m_now m_undone m_slots m_slotKind m_hasSlot m_sheetBits m_sheetSize m_sheets m_fresh m_rootWhich m_signs m_atNought m_change m_table m_carried u fi aa bb dd ro db mn (-1000001) H.size) (cwV 1 hts gX8_across_X8_found rfl rfl rfl hv_X8_found (yk_room hRf hRl rfl rfl)) (yk_pv (q := (RX8, TX8, 23)) hG hA hS hK hP hD [0] (by decide +kernel) rfl rfl rfl) rfl rfl hl.1 rfl (lv_room (Nat.le_of_ble_eq_true rfl)) dX8_across_17 ⟨Nat.zero_le _, Nat.zero_le _⟩) hP hD hS hA rfl (Eq.trans (b := [ta]) rfl rfl) (fun H locs hP9 hD9 hS9 => ?_)
    replace hP : va_P D vwCl [(ta, .inr (8, [.ref m_now, .ref m_undone, .ref m_slots, .ref m_slotKind, .ref m_hasSlot, .ref m_sheetBits, .ref m_sheetSize, .ref m_sheets, .int (nI u), .int ((f_X8_found fi (-1000001)).2), .ref m_fresh, .long aa, .long bb, .long dd, .int (nI ro), .ref m_rootWhich, .int db, .ref m_signs, .ref m_atNought, .int (nI mn), .ref m_change, .ref m_table, .ref m_carried])), (m_now, .inl (cy 0, 29, .inl nw)), (m_rootWhich, .inl (cy 0, 2, .inl rt))] H := hP9
    replace hD : va_D A [(ta, .inr (8, [.ref m_now, .ref m_undone, .ref m_slots, .ref m_slotKind, .ref m_hasSlot, .ref m_sheetBits, .ref m_sheetSize, .ref m_sheets, .int (nI u), .int ((f_X8_found fi (-1000001)).2), .ref m_fresh, .long aa, .long bb, .long dd, .int (nI ro), .ref m_rootWhich, .int db, .ref m_signs, .ref m_atNought, .int (nI mn), .ref m_change, .ref m_table, .ref m_carried])), (m_now, .inl (cy 0, 29, .inl nw)), (m_rootWhich, .inl (cy 0, 2, .inl rt))] := hD9
    replace hS := hS9
    clear hP9 hD9 hS9
    have hF : f_X8_across nw fi aa bb dd ro rt db px n = (((f_X8_found fi (-1000001)).1), ((f_X8_found fi (-1000001)).2), aa, bb, dd, ro, db, rt) := hF
    have hf0 := yk_fst hF
    have hg0 := yk_snd hF
    have hf1 := yk_fst hg0
    have hg1 := yk_snd hg0
    have hf2 := yk_fst hg1
    have hg2 := yk_snd hg1
    have hf3 := yk_fst hg2
    have hg3 := yk_snd hg2
    have hf4 := yk_fst hg3
    have hg4 := yk_snd hg3
    have hf5 := yk_fst hg4
    have hg5 := yk_snd hg4
    have hf6 := yk_fst hg5
    have hg6 := yk_snd hg5
    rw [hf0, hf1, hf2, hf3, hf4, hf5, hf6, hg6] at hQ
    exact hQ _ _ _ _ dX8_across_20 hP hS
