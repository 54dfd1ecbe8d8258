theorem hv_X8_xOf : yX8_xOf.cls = RX8 ∧ yX8_xOf.cls ≠ "java/lang/invoke/MethodHandle" ∧ yX8_xOf.cls ≠ "java/lang/invoke/VarHandle" ∧ (parseMethodDescriptor yX8_xOf.desc).map (fun d => d.parameters.length) = some 1 := by decide +kernel
theorem hs_X8_xOf : yX8_xOf.cls ≠ "java/lang/invoke/MethodHandle" ∧ yX8_xOf.cls ≠ "java/lang/invoke/VarHandle" ∧ (parseMethodDescriptor yX8_xOf.desc).map (fun d => d.parameters.length) = some 1 := by decide +kernel
theorem hv_X8_yOf : yX8_yOf.cls = RX8 ∧ yX8_yOf.cls ≠ "java/lang/invoke/MethodHandle" ∧ yX8_yOf.cls ≠ "java/lang/invoke/VarHandle" ∧ (parseMethodDescriptor yX8_yOf.desc).map (fun d => d.parameters.length) = some 1 := by decide +kernel
theorem hs_X8_yOf : yX8_yOf.cls ≠ "java/lang/invoke/MethodHandle" ∧ yX8_yOf.cls ≠ "java/lang/invoke/VarHandle" ∧ (parseMethodDescriptor yX8_yOf.desc).map (fun d => d.parameters.length) = some 1 := by decide +kernel
theorem hv_X8_turn : yX8_turn.cls = RX8 ∧ yX8_turn.cls ≠ "java/lang/invoke/MethodHandle" ∧ yX8_turn.cls ≠ "java/lang/invoke/VarHandle" ∧ (parseMethodDescriptor yX8_turn.desc).map (fun d => d.parameters.length) = some 6 := by decide +kernel
theorem hs_X8_turn : yX8_turn.cls ≠ "java/lang/invoke/MethodHandle" ∧ yX8_turn.cls ≠ "java/lang/invoke/VarHandle" ∧ (parseMethodDescriptor yX8_turn.desc).map (fun d => d.parameters.length) = some 6 := by decide +kernel
theorem hv_X8_isOn : yX8_isOn.cls = RX8 ∧ yX8_isOn.cls ≠ "java/lang/invoke/MethodHandle" ∧ yX8_isOn.cls ≠ "java/lang/invoke/VarHandle" ∧ (parseMethodDescriptor yX8_isOn.desc).map (fun d => d.parameters.length) = some 3 := by decide +kernel
theorem hs_X8_isOn : yX8_isOn.cls ≠ "java/lang/invoke/MethodHandle" ∧ yX8_isOn.cls ≠ "java/lang/invoke/VarHandle" ∧ (parseMethodDescriptor yX8_isOn.desc).map (fun d => d.parameters.length) = some 3 := by decide +kernel
theorem hv_X8_doMeet : yX8_doMeet.cls = RX8 ∧ yX8_doMeet.cls ≠ "java/lang/invoke/MethodHandle" ∧ yX8_doMeet.cls ≠ "java/lang/invoke/VarHandle" ∧ (parseMethodDescriptor yX8_doMeet.desc).map (fun d => d.parameters.length) = some 2 := by decide +kernel
theorem hs_X8_doMeet : yX8_doMeet.cls ≠ "java/lang/invoke/MethodHandle" ∧ yX8_doMeet.cls ≠ "java/lang/invoke/VarHandle" ∧ (parseMethodDescriptor yX8_doMeet.desc).map (fun d => d.parameters.length) = some 2 := by decide +kernel
theorem hv_X8_isSimple : yX8_isSimple.cls = RX8 ∧ yX8_isSimple.cls ≠ "java/lang/invoke/MethodHandle" ∧ yX8_isSimple.cls ≠ "java/lang/invoke/VarHandle" ∧ (parseMethodDescriptor yX8_isSimple.desc).map (fun d => d.parameters.length) = some 0 := by decide +kernel
theorem hs_X8_isSimple : yX8_isSimple.cls ≠ "java/lang/invoke/MethodHandle" ∧ yX8_isSimple.cls ≠ "java/lang/invoke/VarHandle" ∧ (parseMethodDescriptor yX8_isSimple.desc).map (fun d => d.parameters.length) = some 0 := by decide +kernel
theorem hv_X8_areaOf : yX8_areaOf.cls = RX8 ∧ yX8_areaOf.cls ≠ "java/lang/invoke/MethodHandle" ∧ yX8_areaOf.cls ≠ "java/lang/invoke/VarHandle" ∧ (parseMethodDescriptor yX8_areaOf.desc).map (fun d => d.parameters.length) = some 0 := by decide +kernel
theorem hs_X8_areaOf : yX8_areaOf.cls ≠ "java/lang/invoke/MethodHandle" ∧ yX8_areaOf.cls ≠ "java/lang/invoke/VarHandle" ∧ (parseMethodDescriptor yX8_areaOf.desc).map (fun d => d.parameters.length) = some 0 := by decide +kernel
theorem hv_X8_where : yX8_where.cls = RX8 ∧ yX8_where.cls ≠ "java/lang/invoke/MethodHandle" ∧ yX8_where.cls ≠ "java/lang/invoke/VarHandle" ∧ (parseMethodDescriptor yX8_where.desc).map (fun d => d.parameters.length) = some 2 := by decide +kernel
theorem hs_X8_where : yX8_where.cls ≠ "java/lang/invoke/MethodHandle" ∧ yX8_where.cls ≠ "java/lang/invoke/VarHandle" ∧ (parseMethodDescriptor yX8_where.desc).map (fun d => d.parameters.length) = some 2 := by decide +kernel
theorem hv_X8_follow : yX8_follow.cls = RX8 ∧ yX8_follow.cls ≠ "java/lang/invoke/MethodHandle" ∧ yX8_follow.cls ≠ "java/lang/invoke/VarHandle" ∧ (parseMethodDescriptor yX8_follow.desc).map (fun d => d.parameters.length) = some 2 := by decide +kernel
theorem hs_X8_follow : yX8_follow.cls ≠ "java/lang/invoke/MethodHandle" ∧ yX8_follow.cls ≠ "java/lang/invoke/VarHandle" ∧ (parseMethodDescriptor yX8_follow.desc).map (fun d => d.parameters.length) = some 2 := by decide +kernel
theorem kX8_corner_0 : Cond.fieldLink RX8 7 "FlowPlaneModel" "now" "[I" ∈ wsX8_corner := by decide +kernel
theorem kX8_corner_1 : Cond.constant RX8 118 (-1000005) ∈ wsX8_corner := by decide +kernel
theorem kX8_corner_2 : Cond.constant RX8 99 (-1000003) ∈ wsX8_corner := by decide +kernel
theorem kX8_corner_3 : Cond.constant RX8 68 (-1000001) ∈ wsX8_corner := by decide +kernel
theorem uX8_corner_X8 : ∀ w ∈ u_ws RX8 TX8 23, w ∈ wsX8_corner := by decide +kernel
def f_X8_corner (nw : Nat → Int32) (un : Nat → Int32) (u : Nat) (fi : Int32) (px : Int32) (py : Int32) (n : Nat) : Int32 × Nat × Int32 × (Nat → Int32) × (Nat → Int32) := (if (f_X8_isPlace px py) = 0 then (((f_X8_found fi (-1000001)).1), u, ((f_X8_found fi (-1000001)).2), nw, un) else (if (nI n) ≤ 0 then (if (nI n) = 8 then (((f_X8_found fi (-1000005)).1), u, ((f_X8_found fi (-1000005)).2), nw, un) else ((nI (n + 1)), ((f_X8_remember nw un u).1), fi, (upd (upd (upd nw (13 + n) px) (21 + n) py) 12 (nI (n + 1))), ((f_X8_remember nw un u).2))) else (if (f_X8_xOf nw (n - 1) n) = px then (if (f_X8_yOf nw (n - 1) n) = py then (((f_X8_found fi (-1000003)).1), u, ((f_X8_found fi (-1000003)).2), nw, un) else (if (nI n) = 8 then (((f_X8_found fi (-1000005)).1), u, ((f_X8_found fi (-1000005)).2), nw, un) else ((nI (n + 1)), ((f_X8_remember nw un u).1), fi, (upd (upd (upd nw (13 + n) px) (21 + n) py) 12 (nI (n + 1))), ((f_X8_remember nw un u).2)))) else (if (nI n) = 8 then (((f_X8_found fi (-1000005)).1), u, ((f_X8_found fi (-1000005)).2), nw, un) else ((nI (n + 1)), ((f_X8_remember nw un u).1), fi, (upd (upd (upd nw (13 + n) px) (21 + n) py) 12 (nI (n + 1))), ((f_X8_remember nw un u).2))))))
set_option maxHeartbeats 400000000 in
set_option maxRecDepth 100000 in
theorem c_X8_corner (l : Launch) (D : va_G) (cy : Nat → ClassId) (ta : Nat) (m_now : Nat) (m_undone : Nat) (m_slots : Nat) (m_slotKind : Nat) (m_hasSlot : Nat) (m_sheetBits : Nat) (m_sheetSize : Nat) (m_sheets : Nat) (m_fresh : Nat) (m_rootWhich : Nat) (m_signs : Nat) (m_atNought : Nat) (m_change : Nat) (m_table : Nat) (m_carried : Nat) (nw : Nat → Int32) (un : Nat → Int32) (u : Nat) (fi : Int32) (aa : Int64) (bb : Int64) (dd : Int64) (ro : Nat) (db : Int32) (mn : Nat) (px : Int32) (py : Int32) (n : Nat) (hu : u ≤ 25) (hn12 : nw 12 = nI n) (hn : n ≤ 8) : yk_Ci l D vwCl (yk_ty cy) yX8_corner wsX8_corner 2 43 [.ref ta, .int px, .int py] [(ta, .inr (8, [.ref m_now, .ref m_undone, .ref m_slots, .ref m_slotKind, .ref m_hasSlot, .ref m_sheetBits, .ref m_sheetSize, .ref m_sheets, .int (nI u), .int fi, .ref m_fresh, .long aa, .long bb, .long dd, .int (nI ro), .ref m_rootWhich, .int db, .ref m_signs, .ref m_atNought, .int (nI mn), .ref m_change, .ref m_table, .ref m_carried])), (m_now, .inl (cy 0, 29, .inl nw)), (m_undone, .inl (cy 0, 725, .inl un))] ((f_X8_corner nw un u fi px py n).1) [(ta, .inr (8, [.ref m_now, .ref m_undone, .ref m_slots, .ref m_slotKind, .ref m_hasSlot, .ref m_sheetBits, .ref m_sheetSize, .ref m_sheets, .int (nI ((f_X8_corner nw un u fi px py n).2.1)), .int ((f_X8_corner nw un u fi px py n).2.2.1), .ref m_fresh, .long aa, .long bb, .long dd, .int (nI ro), .ref m_rootWhich, .int db, .ref m_signs, .ref m_atNought, .int (nI mn), .ref m_change, .ref m_table, .ref m_carried])), (m_now, .inl (cy 0, 29, .inl ((f_X8_corner nw un u fi px py n).2.2.2.1))), (m_undone, .inl (cy 0, 725, .inl ((f_X8_corner nw un u fi px py n).2.2.2.2)))] := by
  refine yk_eI (cc := cX8_corner) (maxL := 4) (by decide) rfl (Nat.le_of_ble_eq_true rfl) rfl ?_
  intro p e R s m args below meth c A Q ls H locs hx hb hml hown hts hRf hRl hA hK hG hP hD hS hl hQ
  have hP : va_P D vwCl [(ta, .inr (8, [.ref m_now, .ref m_undone, .ref m_slots, .ref m_slotKind, .ref m_hasSlot, .ref m_sheetBits, .ref m_sheetSize, .ref m_sheets, .int (nI u), .int fi, .ref m_fresh, .long aa, .long bb, .long dd, .int (nI ro), .ref m_rootWhich, .int db, .ref m_signs, .ref m_atNought, .int (nI mn), .ref m_change, .ref m_table, .ref m_carried])), (m_now, .inl (cy 0, 29, .inl nw)), (m_undone, .inl (cy 0, 725, .inl un))] H := hP
  have hl : lv_has ls 4 [(0, .ref ta), (1, .int px), (2, .int py)] := hl
  have hown : s.vm.findClass RX8 = some m.cls := hown
  have hF : (f_X8_corner nw un u fi px py n) = (f_X8_corner nw un u fi px py n) := rfl
  refine lv_iload_n hx hb dX8_corner_0 rfl (lv_at hl 1 rfl) ?_
  refine lv_iload_n hx hb dX8_corner_1 rfl (lv_at hl 2 rfl) ?_
  refine yk_i [] (va_runS (As := [.int px, .int py]) (rest := []) ⟨hx, hb, hml, hown, hts⟩ (c_X8_isPlace l D cy px py H.size) (va_cwS 2 hts gX8_corner_X8_isPlace rfl rfl rfl hs_X8_isPlace (yk_room hRf hRl rfl rfl)) (yk_ps hG hA hS hK hP hD [] (by decide +kernel) rfl) rfl rfl hl.1 rfl (lv_room (Nat.le_of_ble_eq_true rfl)) dX8_corner_2 ⟨Nat.zero_le _, Nat.zero_le _⟩) hP hD hS hA rfl rfl (fun H locs hP9 hD9 hS9 => ?_)
  replace hP : va_P D vwCl [(ta, .inr (8, [.ref m_now, .ref m_undone, .ref m_slots, .ref m_slotKind, .ref m_hasSlot, .ref m_sheetBits, .ref m_sheetSize, .ref m_sheets, .int (nI u), .int fi, .ref m_fresh, .long aa, .long bb, .long dd, .int (nI ro), .ref m_rootWhich, .int db, .ref m_signs, .ref m_atNought, .int (nI mn), .ref m_change, .ref m_table, .ref m_carried])), (m_now, .inl (cy 0, 29, .inl nw)), (m_undone, .inl (cy 0, 725, .inl un))] H := hP9
  replace hD : va_D A [(ta, .inr (8, [.ref m_now, .ref m_undone, .ref m_slots, .ref m_slotKind, .ref m_hasSlot, .ref m_sheetBits, .ref m_sheetSize, .ref m_sheets, .int (nI u), .int fi, .ref m_fresh, .long aa, .long bb, .long dd, .int (nI ro), .ref m_rootWhich, .int db, .ref m_signs, .ref m_atNought, .int (nI mn), .ref m_change, .ref m_table, .ref m_carried])), (m_now, .inl (cy 0, 29, .inl nw)), (m_undone, .inl (cy 0, 725, .inl un))] := hD9
  replace hS := hS9
  clear hP9 hD9 hS9
  refine lv_if_ne (tgt := 15) hx hb dX8_corner_5 (by decide) (fun hc1 => ?_) (fun hc1 => ?_)
  · replace hF := hF.trans (if_neg hc1)
    refine lv_aload_n hx hb dX8_corner_15 rfl (lv_at hl 0 rfl) ?_
    refine yk_i [0, 1] (va_runV (As := []) (rest := []) ⟨hx, hb, hml, hown, hts⟩ (c_X8_corners l D cy ta m_now m_undone m_slots m_slotKind m_hasSlot m_sheetBits m_sheetSize m_sheets m_fresh m_rootWhich m_signs m_atNought m_change m_table m_carried nw u fi aa bb dd ro db mn H.size) (cwV 0 hts gX8_corner_X8_corners rfl rfl rfl hv_X8_corners (yk_room hRf hRl rfl rfl)) (yk_pv (q := (RX8, TX8, 23)) hG hA hS hK hP hD [0, 1] (by decide +kernel) rfl rfl rfl) rfl rfl hl.1 rfl (lv_room (Nat.le_of_ble_eq_true rfl)) dX8_corner_16 ⟨Nat.zero_le _, Nat.zero_le _⟩) hP hD hS hA rfl rfl (fun H locs hP9 hD9 hS9 => ?_)
    replace hP : va_P D vwCl [(ta, .inr (8, [.ref m_now, .ref m_undone, .ref m_slots, .ref m_slotKind, .ref m_hasSlot, .ref m_sheetBits, .ref m_sheetSize, .ref m_sheets, .int (nI u), .int fi, .ref m_fresh, .long aa, .long bb, .long dd, .int (nI ro), .ref m_rootWhich, .int db, .ref m_signs, .ref m_atNought, .int (nI mn), .ref m_change, .ref m_table, .ref m_carried])), (m_now, .inl (cy 0, 29, .inl nw)), (m_undone, .inl (cy 0, 725, .inl un))] H := hP9
    replace hD : va_D A [(ta, .inr (8, [.ref m_now, .ref m_undone, .ref m_slots, .ref m_slotKind, .ref m_hasSlot, .ref m_sheetBits, .ref m_sheetSize, .ref m_sheets, .int (nI u), .int fi, .ref m_fresh, .long aa, .long bb, .long dd, .int (nI ro), .ref m_rootWhich, .int db, .ref m_signs, .ref m_atNought, .int (nI mn), .ref m_change, .ref m_table, .ref m_carried])), (m_now, .inl (cy 0, 29, .inl nw)), (m_undone, .inl (cy 0, 725, .inl un))] := hD9
    replace hS := hS9
    clear hP9 hD9 hS9
    refine yk_ti (y := nI n) (hn12) ?_
    refine lv_istore_n (lv' := [(3, .int (nI n)), (0, .ref ta), (1, .int px), (2, .int py)]) hx hb dX8_corner_19 rfl hl (by decide) rfl (fun ls hl9 => ?_)
    replace hl := hl9
    clear hl9
    refine lv_iload_n hx hb dX8_corner_20 rfl (lv_at hl 0 rfl) ?_
    refine lv_if_le (tgt := 53) hx hb dX8_corner_21 (by decide) (fun hc2 => ?_) (fun hc2 => ?_)
    · replace hF := hF.trans (if_pos hc2)
      refine lv_iload_n hx hb dX8_corner_53 rfl (lv_at hl 0 rfl) ?_
      refine lv_bipush (v := 8) hx hb dX8_corner_54 (by decide) ?_
      refine lv_icmp_ne (tgt := 66) hx hb dX8_corner_56 (by decide) (fun hc3 => ?_) (fun hc3 => ?_)
      · replace hF := hF.trans (if_neg hc3)
        have hn8 : n < 8 := yk_ne8 hn (by assumption)
        refine lv_aload_n hx hb dX8_corner_66 rfl (lv_at hl 1 rfl) ?_
        refine yk_v [0, 1, 2] (va_runV (As := []) (rest := []) ⟨hx, hb, hml, hown, hts⟩ (c_X8_remember l D cy ta m_now m_undone m_slots m_slotKind m_hasSlot m_sheetBits m_sheetSize m_sheets m_fresh m_rootWhich m_signs m_atNought m_change m_table m_carried nw un u fi aa bb dd ro db mn (by first | assumption | omega) H.size) (cwV 0 hts gX8_corner_X8_remember rfl rfl rfl hv_X8_remember (yk_room hRf hRl rfl rfl)) (yk_pv (q := (RX8, TX8, 23)) hG hA hS hK hP hD [0, 1, 2] (by decide +kernel) rfl rfl rfl) rfl rfl hl.1 rfl (lv_room (Nat.le_of_ble_eq_true rfl)) dX8_corner_67 ⟨Nat.zero_le _, Nat.zero_le _⟩) hP hD hS hA rfl rfl (fun H locs hP9 hD9 hS9 => ?_)
        replace hP : va_P D vwCl [(ta, .inr (8, [.ref m_now, .ref m_undone, .ref m_slots, .ref m_slotKind, .ref m_hasSlot, .ref m_sheetBits, .ref m_sheetSize, .ref m_sheets, .int (nI ((f_X8_remember nw un u).1)), .int fi, .ref m_fresh, .long aa, .long bb, .long dd, .int (nI ro), .ref m_rootWhich, .int db, .ref m_signs, .ref m_atNought, .int (nI mn), .ref m_change, .ref m_table, .ref m_carried])), (m_now, .inl (cy 0, 29, .inl nw)), (m_undone, .inl (cy 0, 725, .inl ((f_X8_remember nw un u).2)))] H := hP9
        replace hD : va_D A [(ta, .inr (8, [.ref m_now, .ref m_undone, .ref m_slots, .ref m_slotKind, .ref m_hasSlot, .ref m_sheetBits, .ref m_sheetSize, .ref m_sheets, .int (nI ((f_X8_remember nw un u).1)), .int fi, .ref m_fresh, .long aa, .long bb, .long dd, .int (nI ro), .ref m_rootWhich, .int db, .ref m_signs, .ref m_atNought, .int (nI mn), .ref m_change, .ref m_table, .ref m_carried])), (m_now, .inl (cy 0, 29, .inl nw)), (m_undone, .inl (cy 0, 725, .inl ((f_X8_remember nw un u).2)))] := hD9
        replace hS := hS9
        clear hP9 hD9 hS9
        refine lv_aload_n hx hb dX8_corner_70 rfl (lv_at hl 1 rfl) ?_
        refine va_get (D := D) (ci := 8) (v := .ref m_now) (C := RX8) (T := TX8) (N := 23) hx hb hts uX8_corner_X8 hown hK hP 0 rfl rfl 0 (by decide) (hts _ kX8_corner_0) (fun _ h9 => h9) rfl dX8_corner_71 ?_
        refine lv_bipush (v := 13) hx hb dX8_corner_74 (by decide) ?_
        refine lv_iload_n hx hb dX8_corner_76 rfl (lv_at hl 0 rfl) ?_
        refine lv_iadd hx hb dX8_corner_77 ?_
        refine yk_ti (y := nI (13 + n)) (nI_add 13 n) ?_
        refine lv_iload_n hx hb dX8_corner_78 rfl (lv_at hl 2 rfl) ?_
        refine yk_ist hx hb hK hP hD hS 1 0 rfl rfl (13 + n) (by omega) (by decide) dX8_corner_79 (fun H locs hP9 hD9 hS9 => ?_)
        replace hP : va_P D vwCl [(ta, .inr (8, [.ref m_now, .ref m_undone, .ref m_slots, .ref m_slotKind, .ref m_hasSlot, .ref m_sheetBits, .ref m_sheetSize, .ref m_sheets, .int (nI ((f_X8_remember nw un u).1)), .int fi, .ref m_fresh, .long aa, .long bb, .long dd, .int (nI ro), .ref m_rootWhich, .int db, .ref m_signs, .ref m_atNought, .int (nI mn), .ref m_change, .ref m_table, .ref m_carried])), (m_now, .inl (cy 0, 29, .inl (upd nw (13 + n) px))), (m_undone, .inl (cy 0, 725, .inl ((f_X8_remember nw un u).2)))] H := hP9
        replace hD : va_D A [(ta, .inr (8, [.ref m_now, .ref m_undone, .ref m_slots, .ref m_slotKind, .ref m_hasSlot, .ref m_sheetBits, .ref m_sheetSize, .ref m_sheets, .int (nI ((f_X8_remember nw un u).1)), .int fi, .ref m_fresh, .long aa, .long bb, .long dd, .int (nI ro), .ref m_rootWhich, .int db, .ref m_signs, .ref m_atNought, .int (nI mn), .ref m_change, .ref m_table, .ref m_carried])), (m_now, .inl (cy 0, 29, .inl (upd nw (13 + n) px))), (m_undone, .inl (cy 0, 725, .inl ((f_X8_remember nw un u).2)))] := hD9
        replace hS := hS9
        clear hP9 hD9 hS9
        refine lv_aload_n hx hb dX8_corner_80 rfl (lv_at hl 1 rfl) ?_
        refine va_get (D := D) (ci := 8) (v := .ref m_now) (C := RX8) (T := TX8) (N := 23) hx hb hts uX8_corner_X8 hown hK hP 0 rfl rfl 0 (by decide) (hts _ kX8_corner_0) (fun _ h9 => h9) rfl dX8_corner_81 ?_
        refine lv_bipush (v := 21) hx hb dX8_corner_84 (by decide) ?_
        refine lv_iload_n hx hb dX8_corner_86 rfl (lv_at hl 0 rfl) ?_
        refine lv_iadd hx hb dX8_corner_87 ?_
        refine yk_ti (y := nI (21 + n)) (nI_add 21 n) ?_
        refine lv_iload_n hx hb dX8_corner_88 rfl (lv_at hl 3 rfl) ?_
        refine yk_ist hx hb hK hP hD hS 1 0 rfl rfl (21 + n) (by omega) (by decide) dX8_corner_89 (fun H locs hP9 hD9 hS9 => ?_)
        replace hP : va_P D vwCl [(ta, .inr (8, [.ref m_now, .ref m_undone, .ref m_slots, .ref m_slotKind, .ref m_hasSlot, .ref m_sheetBits, .ref m_sheetSize, .ref m_sheets, .int (nI ((f_X8_remember nw un u).1)), .int fi, .ref m_fresh, .long aa, .long bb, .long dd, .int (nI ro), .ref m_rootWhich, .int db, .ref m_signs, .ref m_atNought, .int (nI mn), .ref m_change, .ref m_table, .ref m_carried])), (m_now, .inl (cy 0, 29, .inl (upd (upd nw (13 + n) px) (21 + n) py))), (m_undone, .inl (cy 0, 725, .inl ((f_X8_remember nw un u).2)))] H := hP9
        replace hD : va_D A [(ta, .inr (8, [.ref m_now, .ref m_undone, .ref m_slots, .ref m_slotKind, .ref m_hasSlot, .ref m_sheetBits, .ref m_sheetSize, .ref m_sheets, .int (nI ((f_X8_remember nw un u).1)), .int fi, .ref m_fresh, .long aa, .long bb, .long dd, .int (nI ro), .ref m_rootWhich, .int db, .ref m_signs, .ref m_atNought, .int (nI mn), .ref m_change, .ref m_table, .ref m_carried])), (m_now, .inl (cy 0, 29, .inl (upd (upd nw (13 + n) px) (21 + n) py))), (m_undone, .inl (cy 0, 725, .inl ((f_X8_remember nw un u).2)))] := hD9
        replace hS := hS9
        clear hP9 hD9 hS9
        refine lv_aload_n hx hb dX8_corner_90 rfl (lv_at hl 1 rfl) ?_
        refine va_get (D := D) (ci := 8) (v := .ref m_now) (C := RX8) (T := TX8) (N := 23) hx hb hts uX8_corner_X8 hown hK hP 0 rfl rfl 0 (by decide) (hts _ kX8_corner_0) (fun _ h9 => h9) rfl dX8_corner_91 ?_
        refine lv_bipush (v := 12) hx hb dX8_corner_94 (by decide) ?_
        refine lv_dup2_11 hx hb dX8_corner_96 rfl rfl ?_
        refine yk_ild hx hb hK hP 1 0 rfl rfl 12 (by omega) (by decide) dX8_corner_97 ?_
        refine yk_ti (y := nI n) ((pk_un (by omega)).trans ((pk_un (by omega)).trans hn12)) ?_
        refine lv_iconst (v := 1) hx hb dX8_corner_98 (by decide) ?_
        refine lv_iadd hx hb dX8_corner_99 ?_
        refine yk_ti (y := nI (n + 1)) (nI_add n 1) ?_
        refine yk_ist hx hb hK hP hD hS 1 0 rfl rfl 12 (by omega) (by decide) dX8_corner_100 (fun H locs hP9 hD9 hS9 => ?_)
        replace hP : va_P D vwCl [(ta, .inr (8, [.ref m_now, .ref m_undone, .ref m_slots, .ref m_slotKind, .ref m_hasSlot, .ref m_sheetBits, .ref m_sheetSize, .ref m_sheets, .int (nI ((f_X8_remember nw un u).1)), .int fi, .ref m_fresh, .long aa, .long bb, .long dd, .int (nI ro), .ref m_rootWhich, .int db, .ref m_signs, .ref m_atNought, .int (nI mn), .ref m_change, .ref m_table, .ref m_carried])), (m_now, .inl (cy 0, 29, .inl (upd (upd (upd nw (13 + n) px) (21 + n) py) 12 (nI (n + 1))))), (m_undone, .inl (cy 0, 725, .inl ((f_X8_remember nw un u).2)))] H := hP9
        replace hD : va_D A [(ta, .inr (8, [.ref m_now, .ref m_undone, .ref m_slots, .ref m_slotKind, .ref m_hasSlot, .ref m_sheetBits, .ref m_sheetSize, .ref m_sheets, .int (nI ((f_X8_remember nw un u).1)), .int fi, .ref m_fresh, .long aa, .long bb, .long dd, .int (nI ro), .ref m_rootWhich, .int db, .ref m_signs, .ref m_atNought, .int (nI mn), .ref m_change, .ref m_table, .ref m_carried])), (m_now, .inl (cy 0, 29, .inl (upd (upd (upd nw (13 + n) px) (21 + n) py) 12 (nI (n + 1))))), (m_undone, .inl (cy 0, 725, .inl ((f_X8_remember nw un u).2)))] := hD9
        replace hS := hS9
        clear hP9 hD9 hS9
        refine lv_iload_n hx hb dX8_corner_101 rfl (lv_at hl 0 rfl) ?_
        refine lv_iconst (v := 1) hx hb dX8_corner_102 (by decide) ?_
        refine lv_iadd hx hb dX8_corner_103 ?_
        refine yk_ti (y := nI (n + 1)) (nI_add n 1) ?_
        have hF : f_X8_corner nw un u fi px py n = ((nI (n + 1)), ((f_X8_remember nw un u).1), fi, (upd (upd (upd nw (13 + n) px) (21 + n) py) 12 (nI (n + 1))), ((f_X8_remember nw un u).2)) := hF
        have hf0 := yk_fst hF
        have hg0 := yk_snd hF
        have hf1 := yk_fst hg0
        have hg1 := yk_snd hg0
        have hf2 := yk_fst hg1
        have hg2 := yk_snd hg1
        have hf3 := yk_fst hg2
        have hg3 := yk_snd hg2
        rw [hf0, hf1, hf2, hf3, hg3] at hQ
        exact hQ _ _ _ _ dX8_corner_104 hP hS
      · replace hF := hF.trans (if_pos hc3)
        refine lv_aload_n hx hb dX8_corner_59 rfl (lv_at hl 1 rfl) ?_
        refine lv_ldc (v := (-1000005)) hx hb hown (hts _ kX8_corner_1) dX8_corner_60 ?_
        refine yk_i [0] (va_runV (As := [.int (-1000005)]) (rest := []) ⟨hx, hb, hml, hown, hts⟩ (c_X8_found l D cy ta m_now m_undone m_slots m_slotKind m_hasSlot m_sheetBits m_sheetSize m_sheets m_fresh m_rootWhich m_signs m_atNought m_change m_table m_carried u fi aa bb dd ro db mn (-1000005) H.size) (cwV 1 hts gX8_corner_X8_found rfl rfl rfl hv_X8_found (yk_room hRf hRl rfl rfl)) (yk_pv (q := (RX8, TX8, 23)) hG hA hS hK hP hD [0] (by decide +kernel) rfl rfl rfl) rfl rfl hl.1 rfl (lv_room (Nat.le_of_ble_eq_true rfl)) dX8_corner_62 ⟨Nat.zero_le _, Nat.zero_le _⟩) hP hD hS hA rfl rfl (fun H locs hP9 hD9 hS9 => ?_)
        replace hP : va_P D vwCl [(ta, .inr (8, [.ref m_now, .ref m_undone, .ref m_slots, .ref m_slotKind, .ref m_hasSlot, .ref m_sheetBits, .ref m_sheetSize, .ref m_sheets, .int (nI u), .int ((f_X8_found fi (-1000005)).2), .ref m_fresh, .long aa, .long bb, .long dd, .int (nI ro), .ref m_rootWhich, .int db, .ref m_signs, .ref m_atNought, .int (nI mn), .ref m_change, .ref m_table, .ref m_carried])), (m_now, .inl (cy 0, 29, .inl nw)), (m_undone, .inl (cy 0, 725, .inl un))] H := hP9
        replace hD : va_D A [(ta, .inr (8, [.ref m_now, .ref m_undone, .ref m_slots, .ref m_slotKind, .ref m_hasSlot, .ref m_sheetBits, .ref m_sheetSize, .ref m_sheets, .int (nI u), .int ((f_X8_found fi (-1000005)).2), .ref m_fresh, .long aa, .long bb, .long dd, .int (nI ro), .ref m_rootWhich, .int db, .ref m_signs, .ref m_atNought, .int (nI mn), .ref m_change, .ref m_table, .ref m_carried])), (m_now, .inl (cy 0, 29, .inl nw)), (m_undone, .inl (cy 0, 725, .inl un))] := hD9
        replace hS := hS9
        clear hP9 hD9 hS9
        have hF : f_X8_corner nw un u fi px py n = (((f_X8_found fi (-1000005)).1), u, ((f_X8_found fi (-1000005)).2), nw, un) := hF
        have hf0 := yk_fst hF
        have hg0 := yk_snd hF
        have hf1 := yk_fst hg0
        have hg1 := yk_snd hg0
        have hf2 := yk_fst hg1
        have hg2 := yk_snd hg1
        have hf3 := yk_fst hg2
        have hg3 := yk_snd hg2
        rw [hf0, hf1, hf2, hf3, hg3] at hQ
        exact hQ _ _ _ _ dX8_corner_65 hP hS
    · replace hF := hF.trans (if_neg hc2)
      have hn1 : 1 ≤ n := yk_pos (by assumption)
      refine lv_aload_n hx hb dX8_corner_24 rfl (lv_at hl 1 rfl) ?_
      refine lv_iload_n hx hb dX8_corner_25 rfl (lv_at hl 0 rfl) ?_
      refine lv_iconst (v := 1) hx hb dX8_corner_26 (by decide) ?_
      refine lv_isub hx hb dX8_corner_27 ?_
      refine yk_ti (y := nI (n - 1)) (pk_sub (b := 1) (yk_pos (by assumption))) ?_
      refine yk_i [0, 1] (va_runV (As := [.int (nI (n - 1))]) (rest := []) ⟨hx, hb, hml, hown, hts⟩ (c_X8_xOf l D cy ta m_now m_undone m_slots m_slotKind m_hasSlot m_sheetBits m_sheetSize m_sheets m_fresh m_rootWhich m_signs m_atNought m_change m_table m_carried nw u fi aa bb dd ro db mn (n - 1) n (by first | assumption | omega) (by first | assumption | omega) (by first | assumption | omega) (by first | assumption | omega) H.size) (cwV 1 hts gX8_corner_X8_xOf rfl rfl rfl hv_X8_xOf (yk_room hRf hRl rfl rfl)) (yk_pv (q := (RX8, TX8, 23)) hG hA hS hK hP hD [0, 1] (by decide +kernel) rfl rfl rfl) rfl rfl hl.1 rfl (lv_room (Nat.le_of_ble_eq_true rfl)) dX8_corner_28 ⟨Nat.zero_le _, Nat.zero_le _⟩) hP hD hS hA rfl rfl (fun H locs hP9 hD9 hS9 => ?_)
      replace hP : va_P D vwCl [(ta, .inr (8, [.ref m_now, .ref m_undone, .ref m_slots, .ref m_slotKind, .ref m_hasSlot, .ref m_sheetBits, .ref m_sheetSize, .ref m_sheets, .int (nI u), .int fi, .ref m_fresh, .long aa, .long bb, .long dd, .int (nI ro), .ref m_rootWhich, .int db, .ref m_signs, .ref m_atNought, .int (nI mn), .ref m_change, .ref m_table, .ref m_carried])), (m_now, .inl (cy 0, 29, .inl nw)), (m_undone, .inl (cy 0, 725, .inl un))] H := hP9
      replace hD : va_D A [(ta, .inr (8, [.ref m_now, .ref m_undone, .ref m_slots, .ref m_slotKind, .ref m_hasSlot, .ref m_sheetBits, .ref m_sheetSize, .ref m_sheets, .int (nI u), .int fi, .ref m_fresh, .long aa, .long bb, .long dd, .int (nI ro), .ref m_rootWhich, .int db, .ref m_signs, .ref m_atNought, .int (nI mn), .ref m_change, .ref m_table, .ref m_carried])), (m_now, .inl (cy 0, 29, .inl nw)), (m_undone, .inl (cy 0, 725, .inl un))] := hD9
      replace hS := hS9
      clear hP9 hD9 hS9
      refine lv_iload_n hx hb dX8_corner_31 rfl (lv_at hl 2 rfl) ?_
      refine lv_icmp_ne (tgt := 53) hx hb dX8_corner_32 (by decide) (fun hc4 => ?_) (fun hc4 => ?_)
      · replace hF := hF.trans (if_neg hc4)
        refine lv_iload_n hx hb dX8_corner_53 rfl (lv_at hl 0 rfl) ?_
        refine lv_bipush (v := 8) hx hb dX8_corner_54 (by decide) ?_
        refine lv_icmp_ne (tgt := 66) hx hb dX8_corner_56 (by decide) (fun hc5 => ?_) (fun hc5 => ?_)
        · replace hF := hF.trans (if_neg hc5)
          have hn8 : n < 8 := yk_ne8 hn (by assumption)
          refine lv_aload_n hx hb dX8_corner_66 rfl (lv_at hl 1 rfl) ?_
          refine yk_v [0, 1, 2] (va_runV (As := []) (rest := []) ⟨hx, hb, hml, hown, hts⟩ (c_X8_remember l D cy ta m_now m_undone m_slots m_slotKind m_hasSlot m_sheetBits m_sheetSize m_sheets m_fresh m_rootWhich m_signs m_atNought m_change m_table m_carried nw un u fi aa bb dd ro db mn (by first | assumption | omega) H.size) (cwV 0 hts gX8_corner_X8_remember rfl rfl rfl hv_X8_remember (yk_room hRf hRl rfl rfl)) (yk_pv (q := (RX8, TX8, 23)) hG hA hS hK hP hD [0, 1, 2] (by decide +kernel) rfl rfl rfl) rfl rfl hl.1 rfl (lv_room (Nat.le_of_ble_eq_true rfl)) dX8_corner_67 ⟨Nat.zero_le _, Nat.zero_le _⟩) hP hD hS hA rfl rfl (fun H locs hP9 hD9 hS9 => ?_)
          replace hP : va_P D vwCl [(ta, .inr (8, [.ref m_now, .ref m_undone, .ref m_slots, .ref m_slotKind, .ref m_hasSlot, .ref m_sheetBits, .ref m_sheetSize, .ref m_sheets, .int (nI ((f_X8_remember nw un u).1)), .int fi, .ref m_fresh, .long aa, .long bb, .long dd, .int (nI ro), .ref m_rootWhich, .int db, .ref m_signs, .ref m_atNought, .int (nI mn), .ref m_change, .ref m_table, .ref m_carried])), (m_now, .inl (cy 0, 29, .inl nw)), (m_undone, .inl (cy 0, 725, .inl ((f_X8_remember nw un u).2)))] H := hP9
          replace hD : va_D A [(ta, .inr (8, [.ref m_now, .ref m_undone, .ref m_slots, .ref m_slotKind, .ref m_hasSlot, .ref m_sheetBits, .ref m_sheetSize, .ref m_sheets, .int (nI ((f_X8_remember nw un u).1)), .int fi, .ref m_fresh, .long aa, .long bb, .long dd, .int (nI ro), .ref m_rootWhich, .int db, .ref m_signs, .ref m_atNought, .int (nI mn), .ref m_change, .ref m_table, .ref m_carried])), (m_now, .inl (cy 0, 29, .inl nw)), (m_undone, .inl (cy 0, 725, .inl ((f_X8_remember nw un u).2)))] := hD9
          replace hS := hS9
          clear hP9 hD9 hS9
          refine lv_aload_n hx hb dX8_corner_70 rfl (lv_at hl 1 rfl) ?_
          refine va_get (D := D) (ci := 8) (v := .ref m_now) (C := RX8) (T := TX8) (N := 23) hx hb hts uX8_corner_X8 hown hK hP 0 rfl rfl 0 (by decide) (hts _ kX8_corner_0) (fun _ h9 => h9) rfl dX8_corner_71 ?_
          refine lv_bipush (v := 13) hx hb dX8_corner_74 (by decide) ?_
          refine lv_iload_n hx hb dX8_corner_76 rfl (lv_at hl 0 rfl) ?_
          refine lv_iadd hx hb dX8_corner_77 ?_
          refine yk_ti (y := nI (13 + n)) (nI_add 13 n) ?_
          refine lv_iload_n hx hb dX8_corner_78 rfl (lv_at hl 2 rfl) ?_
          refine yk_ist hx hb hK hP hD hS 1 0 rfl rfl (13 + n) (by omega) (by decide) dX8_corner_79 (fun H locs hP9 hD9 hS9 => ?_)
          replace hP : va_P D vwCl [(ta, .inr (8, [.ref m_now, .ref m_undone, .ref m_slots, .ref m_slotKind, .ref m_hasSlot, .ref m_sheetBits, .ref m_sheetSize, .ref m_sheets, .int (nI ((f_X8_remember nw un u).1)), .int fi, .ref m_fresh, .long aa, .long bb, .long dd, .int (nI ro), .ref m_rootWhich, .int db, .ref m_signs, .ref m_atNought, .int (nI mn), .ref m_change, .ref m_table, .ref m_carried])), (m_now, .inl (cy 0, 29, .inl (upd nw (13 + n) px))), (m_undone, .inl (cy 0, 725, .inl ((f_X8_remember nw un u).2)))] H := hP9
          replace hD : va_D A [(ta, .inr (8, [.ref m_now, .ref m_undone, .ref m_slots, .ref m_slotKind, .ref m_hasSlot, .ref m_sheetBits, .ref m_sheetSize, .ref m_sheets, .int (nI ((f_X8_remember nw un u).1)), .int fi, .ref m_fresh, .long aa, .long bb, .long dd, .int (nI ro), .ref m_rootWhich, .int db, .ref m_signs, .ref m_atNought, .int (nI mn), .ref m_change, .ref m_table, .ref m_carried])), (m_now, .inl (cy 0, 29, .inl (upd nw (13 + n) px))), (m_undone, .inl (cy 0, 725, .inl ((f_X8_remember nw un u).2)))] := hD9
          replace hS := hS9
          clear hP9 hD9 hS9
          refine lv_aload_n hx hb dX8_corner_80 rfl (lv_at hl 1 rfl) ?_
          refine va_get (D := D) (ci := 8) (v := .ref m_now) (C := RX8) (T := TX8) (N := 23) hx hb hts uX8_corner_X8 hown hK hP 0 rfl rfl 0 (by decide) (hts _ kX8_corner_0) (fun _ h9 => h9) rfl dX8_corner_81 ?_
          refine lv_bipush (v := 21) hx hb dX8_corner_84 (by decide) ?_
          refine lv_iload_n hx hb dX8_corner_86 rfl (lv_at hl 0 rfl) ?_
          refine lv_iadd hx hb dX8_corner_87 ?_
          refine yk_ti (y := nI (21 + n)) (nI_add 21 n) ?_
          refine lv_iload_n hx hb dX8_corner_88 rfl (lv_at hl 3 rfl) ?_
          refine yk_ist hx hb hK hP hD hS 1 0 rfl rfl (21 + n) (by omega) (by decide) dX8_corner_89 (fun H locs hP9 hD9 hS9 => ?_)
          replace hP : va_P D vwCl [(ta, .inr (8, [.ref m_now, .ref m_undone, .ref m_slots, .ref m_slotKind, .ref m_hasSlot, .ref m_sheetBits, .ref m_sheetSize, .ref m_sheets, .int (nI ((f_X8_remember nw un u).1)), .int fi, .ref m_fresh, .long aa, .long bb, .long dd, .int (nI ro), .ref m_rootWhich, .int db, .ref m_signs, .ref m_atNought, .int (nI mn), .ref m_change, .ref m_table, .ref m_carried])), (m_now, .inl (cy 0, 29, .inl (upd (upd nw (13 + n) px) (21 + n) py))), (m_undone, .inl (cy 0, 725, .inl ((f_X8_remember nw un u).2)))] H := hP9
          replace hD : va_D A [(ta, .inr (8, [.ref m_now, .ref m_undone, .ref m_slots, .ref m_slotKind, .ref m_hasSlot, .ref m_sheetBits, .ref m_sheetSize, .ref m_sheets, .int (nI ((f_X8_remember nw un u).1)), .int fi, .ref m_fresh, .long aa, .long bb, .long dd, .int (nI ro), .ref m_rootWhich, .int db, .ref m_signs, .ref m_atNought, .int (nI mn), .ref m_change, .ref m_table, .ref m_carried])), (m_now, .inl (cy 0, 29, .inl (upd (upd nw (13 + n) px) (21 + n) py))), (m_undone, .inl (cy 0, 725, .inl ((f_X8_remember nw un u).2)))] := hD9
          replace hS := hS9
          clear hP9 hD9 hS9
          refine lv_aload_n hx hb dX8_corner_90 rfl (lv_at hl 1 rfl) ?_
          refine va_get (D := D) (ci := 8) (v := .ref m_now) (C := RX8) (T := TX8) (N := 23) hx hb hts uX8_corner_X8 hown hK hP 0 rfl rfl 0 (by decide) (hts _ kX8_corner_0) (fun _ h9 => h9) rfl dX8_corner_91 ?_
          refine lv_bipush (v := 12) hx hb dX8_corner_94 (by decide) ?_
          refine lv_dup2_11 hx hb dX8_corner_96 rfl rfl ?_
          refine yk_ild hx hb hK hP 1 0 rfl rfl 12 (by omega) (by decide) dX8_corner_97 ?_
          refine yk_ti (y := nI n) ((pk_un (by omega)).trans ((pk_un (by omega)).trans hn12)) ?_
          refine lv_iconst (v := 1) hx hb dX8_corner_98 (by decide) ?_
          refine lv_iadd hx hb dX8_corner_99 ?_
          refine yk_ti (y := nI (n + 1)) (nI_add n 1) ?_
          refine yk_ist hx hb hK hP hD hS 1 0 rfl rfl 12 (by omega) (by decide) dX8_corner_100 (fun H locs hP9 hD9 hS9 => ?_)
          replace hP : va_P D vwCl [(ta, .inr (8, [.ref m_now, .ref m_undone, .ref m_slots, .ref m_slotKind, .ref m_hasSlot, .ref m_sheetBits, .ref m_sheetSize, .ref m_sheets, .int (nI ((f_X8_remember nw un u).1)), .int fi, .ref m_fresh, .long aa, .long bb, .long dd, .int (nI ro), .ref m_rootWhich, .int db, .ref m_signs, .ref m_atNought, .int (nI mn), .ref m_change, .ref m_table, .ref m_carried])), (m_now, .inl (cy 0, 29, .inl (upd (upd (upd nw (13 + n) px) (21 + n) py) 12 (nI (n + 1))))), (m_undone, .inl (cy 0, 725, .inl ((f_X8_remember nw un u).2)))] H := hP9
          replace hD : va_D A [(ta, .inr (8, [.ref m_now, .ref m_undone, .ref m_slots, .ref m_slotKind, .ref m_hasSlot, .ref m_sheetBits, .ref m_sheetSize, .ref m_sheets, .int (nI ((f_X8_remember nw un u).1)), .int fi, .ref m_fresh, .long aa, .long bb, .long dd, .int (nI ro), .ref m_rootWhich, .int db, .ref m_signs, .ref m_atNought, .int (nI mn), .ref m_change, .ref m_table, .ref m_carried])), (m_now, .inl (cy 0, 29, .inl (upd (upd (upd nw (13 + n) px) (21 + n) py) 12 (nI (n + 1))))), (m_undone, .inl (cy 0, 725, .inl ((f_X8_remember nw un u).2)))] := hD9
          replace hS := hS9
          clear hP9 hD9 hS9
          refine lv_iload_n hx hb dX8_corner_101 rfl (lv_at hl 0 rfl) ?_
          refine lv_iconst (v := 1) hx hb dX8_corner_102 (by decide) ?_
          refine lv_iadd hx hb dX8_corner_103 ?_
          refine yk_ti (y := nI (n + 1)) (nI_add n 1) ?_
          have hF : f_X8_corner nw un u fi px py n = ((nI (n + 1)), ((f_X8_remember nw un u).1), fi, (upd (upd (upd nw (13 + n) px) (21 + n) py) 12 (nI (n + 1))), ((f_X8_remember nw un u).2)) := hF
          have hf0 := yk_fst hF
          have hg0 := yk_snd hF
          have hf1 := yk_fst hg0
          have hg1 := yk_snd hg0
          have hf2 := yk_fst hg1
          have hg2 := yk_snd hg1
          have hf3 := yk_fst hg2
          have hg3 := yk_snd hg2
          rw [hf0, hf1, hf2, hf3, hg3] at hQ
          exact hQ _ _ _ _ dX8_corner_104 hP hS
        · replace hF := hF.trans (if_pos hc5)
          refine lv_aload_n hx hb dX8_corner_59 rfl (lv_at hl 1 rfl) ?_
          refine lv_ldc (v := (-1000005)) hx hb hown (hts _ kX8_corner_1) dX8_corner_60 ?_
          refine yk_i [0] (va_runV (As := [.int (-1000005)]) (rest := []) ⟨hx, hb, hml, hown, hts⟩ (c_X8_found l D cy ta m_now m_undone m_slots m_slotKind m_hasSlot m_sheetBits m_sheetSize m_sheets m_fresh m_rootWhich m_signs m_atNought m_change m_table m_carried u fi aa bb dd ro db mn (-1000005) H.size) (cwV 1 hts gX8_corner_X8_found rfl rfl rfl hv_X8_found (yk_room hRf hRl rfl rfl)) (yk_pv (q := (RX8, TX8, 23)) hG hA hS hK hP hD [0] (by decide +kernel) rfl rfl rfl) rfl rfl hl.1 rfl (lv_room (Nat.le_of_ble_eq_true rfl)) dX8_corner_62 ⟨Nat.zero_le _, Nat.zero_le _⟩) hP hD hS hA rfl rfl (fun H locs hP9 hD9 hS9 => ?_)
          replace hP : va_P D vwCl [(ta, .inr (8, [.ref m_now, .ref m_undone, .ref m_slots, .ref m_slotKind, .ref m_hasSlot, .ref m_sheetBits, .ref m_sheetSize, .ref m_sheets, .int (nI u), .int ((f_X8_found fi (-1000005)).2), .ref m_fresh, .long aa, .long bb, .long dd, .int (nI ro), .ref m_rootWhich, .int db, .ref m_signs, .ref m_atNought, .int (nI mn), .ref m_change, .ref m_table, .ref m_carried])), (m_now, .inl (cy 0, 29, .inl nw)), (m_undone, .inl (cy 0, 725, .inl un))] H := hP9
          replace hD : va_D A [(ta, .inr (8, [.ref m_now, .ref m_undone, .ref m_slots, .ref m_slotKind, .ref m_hasSlot, .ref m_sheetBits, .ref m_sheetSize, .ref m_sheets, .int (nI u), .int ((f_X8_found fi (-1000005)).2), .ref m_fresh, .long aa, .long bb, .long dd, .int (nI ro), .ref m_rootWhich, .int db, .ref m_signs, .ref m_atNought, .int (nI mn), .ref m_change, .ref m_table, .ref m_carried])), (m_now, .inl (cy 0, 29, .inl nw)), (m_undone, .inl (cy 0, 725, .inl un))] := hD9
          replace hS := hS9
          clear hP9 hD9 hS9
          have hF : f_X8_corner nw un u fi px py n = (((f_X8_found fi (-1000005)).1), u, ((f_X8_found fi (-1000005)).2), nw, un) := hF
          have hf0 := yk_fst hF
          have hg0 := yk_snd hF
          have hf1 := yk_fst hg0
          have hg1 := yk_snd hg0
          have hf2 := yk_fst hg1
          have hg2 := yk_snd hg1
          have hf3 := yk_fst hg2
          have hg3 := yk_snd hg2
          rw [hf0, hf1, hf2, hf3, hg3] at hQ
          exact hQ _ _ _ _ dX8_corner_65 hP hS
      · replace hF := hF.trans (if_pos hc4)
        refine lv_aload_n hx hb dX8_corner_35 rfl (lv_at hl 1 rfl) ?_
        refine lv_iload_n hx hb dX8_corner_36 rfl (lv_at hl 0 rfl) ?_
        refine lv_iconst (v := 1) hx hb dX8_corner_37 (by decide) ?_
        refine lv_isub hx hb dX8_corner_38 ?_
        refine yk_ti (y := nI (n - 1)) (pk_sub (b := 1) (yk_pos (by assumption))) ?_
        refine yk_i [0, 1] (va_runV (As := [.int (nI (n - 1))]) (rest := []) ⟨hx, hb, hml, hown, hts⟩ (c_X8_yOf l D cy ta m_now m_undone m_slots m_slotKind m_hasSlot m_sheetBits m_sheetSize m_sheets m_fresh m_rootWhich m_signs m_atNought m_change m_table m_carried nw u fi aa bb dd ro db mn (n - 1) n (by first | assumption | omega) (by first | assumption | omega) (by first | assumption | omega) (by first | assumption | omega) H.size) (cwV 1 hts gX8_corner_X8_yOf rfl rfl rfl hv_X8_yOf (yk_room hRf hRl rfl rfl)) (yk_pv (q := (RX8, TX8, 23)) hG hA hS hK hP hD [0, 1] (by decide +kernel) rfl rfl rfl) rfl rfl hl.1 rfl (lv_room (Nat.le_of_ble_eq_true rfl)) dX8_corner_39 ⟨Nat.zero_le _, Nat.zero_le _⟩) hP hD hS hA rfl rfl (fun H locs hP9 hD9 hS9 => ?_)
        replace hP : va_P D vwCl [(ta, .inr (8, [.ref m_now, .ref m_undone, .ref m_slots, .ref m_slotKind, .ref m_hasSlot, .ref m_sheetBits, .ref m_sheetSize, .ref m_sheets, .int (nI u), .int fi, .ref m_fresh, .long aa, .long bb, .long dd, .int (nI ro), .ref m_rootWhich, .int db, .ref m_signs, .ref m_atNought, .int (nI mn), .ref m_change, .ref m_table, .ref m_carried])), (m_now, .inl (cy 0, 29, .inl nw)), (m_undone, .inl (cy 0, 725, .inl un))] H := hP9
        replace hD : va_D A [(ta, .inr (8, [.ref m_now, .ref m_undone, .ref m_slots, .ref m_slotKind, .ref m_hasSlot, .ref m_sheetBits, .ref m_sheetSize, .ref m_sheets, .int (nI u), .int fi, .ref m_fresh, .long aa, .long bb, .long dd, .int (nI ro), .ref m_rootWhich, .int db, .ref m_signs, .ref m_atNought, .int (nI mn), .ref m_change, .ref m_table, .ref m_carried])), (m_now, .inl (cy 0, 29, .inl nw)), (m_undone, .inl (cy 0, 725, .inl un))] := hD9
        replace hS := hS9
        clear hP9 hD9 hS9
        refine lv_iload_n hx hb dX8_corner_42 rfl (lv_at hl 3 rfl) ?_
        refine lv_icmp_ne (tgt := 53) hx hb dX8_corner_43 (by decide) (fun hc6 => ?_) (fun hc6 => ?_)
        · replace hF := hF.trans (if_neg hc6)
          refine lv_iload_n hx hb dX8_corner_53 rfl (lv_at hl 0 rfl) ?_
          refine lv_bipush (v := 8) hx hb dX8_corner_54 (by decide) ?_
          refine lv_icmp_ne (tgt := 66) hx hb dX8_corner_56 (by decide) (fun hc7 => ?_) (fun hc7 => ?_)
          · replace hF := hF.trans (if_neg hc7)
            have hn8 : n < 8 := yk_ne8 hn (by assumption)
            refine lv_aload_n hx hb dX8_corner_66 rfl (lv_at hl 1 rfl) ?_
            refine yk_v [0, 1, 2] (va_runV (As := []) (rest := []) ⟨hx, hb, hml, hown, hts⟩ (c_X8_remember l D cy ta m_now m_undone m_slots m_slotKind m_hasSlot m_sheetBits m_sheetSize m_sheets m_fresh m_rootWhich m_signs m_atNought m_change m_table m_carried nw un u fi aa bb dd ro db mn (by first | assumption | omega) H.size) (cwV 0 hts gX8_corner_X8_remember rfl rfl rfl hv_X8_remember (yk_room hRf hRl rfl rfl)) (yk_pv (q := (RX8, TX8, 23)) hG hA hS hK hP hD [0, 1, 2] (by decide +kernel) rfl rfl rfl) rfl rfl hl.1 rfl (lv_room (Nat.le_of_ble_eq_true rfl)) dX8_corner_67 ⟨Nat.zero_le _, Nat.zero_le _⟩) hP hD hS hA rfl rfl (fun H locs hP9 hD9 hS9 => ?_)
            replace hP : va_P D vwCl [(ta, .inr (8, [.ref m_now, .ref m_undone, .ref m_slots, .ref m_slotKind, .ref m_hasSlot, .ref m_sheetBits, .ref m_sheetSize, .ref m_sheets, .int (nI ((f_X8_remember nw un u).1)), .int fi, .ref m_fresh, .long aa, .long bb, .long dd, .int (nI ro), .ref m_rootWhich, .int db, .ref m_signs, .ref m_atNought, .int (nI mn), .ref m_change, .ref m_table, .ref m_carried])), (m_now, .inl (cy 0, 29, .inl nw)), (m_undone, .inl (cy 0, 725, .inl ((f_X8_remember nw un u).2)))] H := hP9
            replace hD : va_D A [(ta, .inr (8, [.ref m_now, .ref m_undone, .ref m_slots, .ref m_slotKind, .ref m_hasSlot, .ref m_sheetBits, .ref m_sheetSize, .ref m_sheets, .int (nI ((f_X8_remember nw un u).1)), .int fi, .ref m_fresh, .long aa, .long bb, .long dd, .int (nI ro), .ref m_rootWhich, .int db, .ref m_signs, .ref m_atNought, .int (nI mn), .ref m_change, .ref m_table, .ref m_carried])), (m_now, .inl (cy 0, 29, .inl nw)), (m_undone, .inl (cy 0, 725, .inl ((f_X8_remember nw un u).2)))] := hD9
            replace hS := hS9
            clear hP9 hD9 hS9
            refine lv_aload_n hx hb dX8_corner_70 rfl (lv_at hl 1 rfl) ?_
            refine va_get (D := D) (ci := 8) (v := .ref m_now) (C := RX8) (T := TX8) (N := 23) hx hb hts uX8_corner_X8 hown hK hP 0 rfl rfl 0 (by decide) (hts _ kX8_corner_0) (fun _ h9 => h9) rfl dX8_corner_71 ?_
            refine lv_bipush (v := 13) hx hb dX8_corner_74 (by decide) ?_
            refine lv_iload_n hx hb dX8_corner_76 rfl (lv_at hl 0 rfl) ?_
            refine lv_iadd hx hb dX8_corner_77 ?_
            refine yk_ti (y := nI (13 + n)) (nI_add 13 n) ?_
            refine lv_iload_n hx hb dX8_corner_78 rfl (lv_at hl 2 rfl) ?_
            refine yk_ist hx hb hK hP hD hS 1 0 rfl rfl (13 + n) (by omega) (by decide) dX8_corner_79 (fun H locs hP9 hD9 hS9 => ?_)
            replace hP : va_P D vwCl [(ta, .inr (8, [.ref m_now, .ref m_undone, .ref m_slots, .ref m_slotKind, .ref m_hasSlot, .ref m_sheetBits, .ref m_sheetSize, .ref m_sheets, .int (nI ((f_X8_remember nw un u).1)), .int fi, .ref m_fresh, .long aa, .long bb, .long dd, .int (nI ro), .ref m_rootWhich, .int db, .ref m_signs, .ref m_atNought, .int (nI mn), .ref m_change, .ref m_table, .ref m_carried])), (m_now, .inl (cy 0, 29, .inl (upd nw (13 + n) px))), (m_undone, .inl (cy 0, 725, .inl ((f_X8_remember nw un u).2)))] H := hP9
            replace hD : va_D A [(ta, .inr (8, [.ref m_now, .ref m_undone, .ref m_slots, .ref m_slotKind, .ref m_hasSlot, .ref m_sheetBits, .ref m_sheetSize, .ref m_sheets, .int (nI ((f_X8_remember nw un u).1)), .int fi, .ref m_fresh, .long aa, .long bb, .long dd, .int (nI ro), .ref m_rootWhich, .int db, .ref m_signs, .ref m_atNought, .int (nI mn), .ref m_change, .ref m_table, .ref m_carried])), (m_now, .inl (cy 0, 29, .inl (upd nw (13 + n) px))), (m_undone, .inl (cy 0, 725, .inl ((f_X8_remember nw un u).2)))] := hD9
            replace hS := hS9
            clear hP9 hD9 hS9
            refine lv_aload_n hx hb dX8_corner_80 rfl (lv_at hl 1 rfl) ?_
            refine va_get (D := D) (ci := 8) (v := .ref m_now) (C := RX8) (T := TX8) (N := 23) hx hb hts uX8_corner_X8 hown hK hP 0 rfl rfl 0 (by decide) (hts _ kX8_corner_0) (fun _ h9 => h9) rfl dX8_corner_81 ?_
            refine lv_bipush (v := 21) hx hb dX8_corner_84 (by decide) ?_
            refine lv_iload_n hx hb dX8_corner_86 rfl (lv_at hl 0 rfl) ?_
            refine lv_iadd hx hb dX8_corner_87 ?_
            refine yk_ti (y := nI (21 + n)) (nI_add 21 n) ?_
            refine lv_iload_n hx hb dX8_corner_88 rfl (lv_at hl 3 rfl) ?_
            refine yk_ist hx hb hK hP hD hS 1 0 rfl rfl (21 + n) (by omega) (by decide) dX8_corner_89 (fun H locs hP9 hD9 hS9 => ?_)
            replace hP : va_P D vwCl [(ta, .inr (8, [.ref m_now, .ref m_undone, .ref m_slots, .ref m_slotKind, .ref m_hasSlot, .ref m_sheetBits, .ref m_sheetSize, .ref m_sheets, .int (nI ((f_X8_remember nw un u).1)), .int fi, .ref m_fresh, .long aa, .long bb, .long dd, .int (nI ro), .ref m_rootWhich, .int db, .ref m_signs, .ref m_atNought, .int (nI mn), .ref m_change, .ref m_table, .ref m_carried])), (m_now, .inl (cy 0, 29, .inl (upd (upd nw (13 + n) px) (21 + n) py))), (m_undone, .inl (cy 0, 725, .inl ((f_X8_remember nw un u).2)))] H := hP9
            replace hD : va_D A [(ta, .inr (8, [.ref m_now, .ref m_undone, .ref m_slots, .ref m_slotKind, .ref m_hasSlot, .ref m_sheetBits, .ref m_sheetSize, .ref m_sheets, .int (nI ((f_X8_remember nw un u).1)), .int fi, .ref m_fresh, .long aa, .long bb, .long dd, .int (nI ro), .ref m_rootWhich, .int db, .ref m_signs, .ref m_atNought, .int (nI mn), .ref m_change, .ref m_table, .ref m_carried])), (m_now, .inl (cy 0, 29, .inl (upd (upd nw (13 + n) px) (21 + n) py))), (m_undone, .inl (cy 0, 725, .inl ((f_X8_remember nw un u).2)))] := hD9
            replace hS := hS9
            clear hP9 hD9 hS9
            refine lv_aload_n hx hb dX8_corner_90 rfl (lv_at hl 1 rfl) ?_
            refine va_get (D := D) (ci := 8) (v := .ref m_now) (C := RX8) (T := TX8) (N := 23) hx hb hts uX8_corner_X8 hown hK hP 0 rfl rfl 0 (by decide) (hts _ kX8_corner_0) (fun _ h9 => h9) rfl dX8_corner_91 ?_
            refine lv_bipush (v := 12) hx hb dX8_corner_94 (by decide) ?_
            refine lv_dup2_11 hx hb dX8_corner_96 rfl rfl ?_
            refine yk_ild hx hb hK hP 1 0 rfl rfl 12 (by omega) (by decide) dX8_corner_97 ?_
            refine yk_ti (y := nI n) ((pk_un (by omega)).trans ((pk_un (by omega)).trans hn12)) ?_
            refine lv_iconst (v := 1) hx hb dX8_corner_98 (by decide) ?_
            refine lv_iadd hx hb dX8_corner_99 ?_
            refine yk_ti (y := nI (n + 1)) (nI_add n 1) ?_
            refine yk_ist hx hb hK hP hD hS 1 0 rfl rfl 12 (by omega) (by decide) dX8_corner_100 (fun H locs hP9 hD9 hS9 => ?_)
            replace hP : va_P D vwCl [(ta, .inr (8, [.ref m_now, .ref m_undone, .ref m_slots, .ref m_slotKind, .ref m_hasSlot, .ref m_sheetBits, .ref m_sheetSize, .ref m_sheets, .int (nI ((f_X8_remember nw un u).1)), .int fi, .ref m_fresh, .long aa, .long bb, .long dd, .int (nI ro), .ref m_rootWhich, .int db, .ref m_signs, .ref m_atNought, .int (nI mn), .ref m_change, .ref m_table, .ref m_carried])), (m_now, .inl (cy 0, 29, .inl (upd (upd (upd nw (13 + n) px) (21 + n) py) 12 (nI (n + 1))))), (m_undone, .inl (cy 0, 725, .inl ((f_X8_remember nw un u).2)))] H := hP9
            replace hD : va_D A [(ta, .inr (8, [.ref m_now, .ref m_undone, .ref m_slots, .ref m_slotKind, .ref m_hasSlot, .ref m_sheetBits, .ref m_sheetSize, .ref m_sheets, .int (nI ((f_X8_remember nw un u).1)), .int fi, .ref m_fresh, .long aa, .long bb, .long dd, .int (nI ro), .ref m_rootWhich, .int db, .ref m_signs, .ref m_atNought, .int (nI mn), .ref m_change, .ref m_table, .ref m_carried])), (m_now, .inl (cy 0, 29, .inl (upd (upd (upd nw (13 + n) px) (21 + n) py) 12 (nI (n + 1))))), (m_undone, .inl (cy 0, 725, .inl ((f_X8_remember nw un u).2)))] := hD9
            replace hS := hS9
            clear hP9 hD9 hS9
            refine lv_iload_n hx hb dX8_corner_101 rfl (lv_at hl 0 rfl) ?_
            refine lv_iconst (v := 1) hx hb dX8_corner_102 (by decide) ?_
            refine lv_iadd hx hb dX8_corner_103 ?_
            refine yk_ti (y := nI (n + 1)) (nI_add n 1) ?_
            have hF : f_X8_corner nw un u fi px py n = ((nI (n + 1)), ((f_X8_remember nw un u).1), fi, (upd (upd (upd nw (13 + n) px) (21 + n) py) 12 (nI (n + 1))), ((f_X8_remember nw un u).2)) := hF
            have hf0 := yk_fst hF
            have hg0 := yk_snd hF
            have hf1 := yk_fst hg0
            have hg1 := yk_snd hg0
            have hf2 := yk_fst hg1
            have hg2 := yk_snd hg1
            have hf3 := yk_fst hg2
            have hg3 := yk_snd hg2
            rw [hf0, hf1, hf2, hf3, hg3] at hQ
            exact hQ _ _ _ _ dX8_corner_104 hP hS
          · replace hF := hF.trans (if_pos hc7)
            refine lv_aload_n hx hb dX8_corner_59 rfl (lv_at hl 1 rfl) ?_
            refine lv_ldc (v := (-1000005)) hx hb hown (hts _ kX8_corner_1) dX8_corner_60 ?_
            refine yk_i [0] (va_runV (As := [.int (-1000005)]) (rest := []) ⟨hx, hb, hml, hown, hts⟩ (c_X8_found l D cy ta m_now m_undone m_slots m_slotKind m_hasSlot m_sheetBits m_sheetSize m_sheets m_fresh m_rootWhich m_signs m_atNought m_change m_table m_carried u fi aa bb dd ro db mn (-1000005) H.size) (cwV 1 hts gX8_corner_X8_found rfl rfl rfl hv_X8_found (yk_room hRf hRl rfl rfl)) (yk_pv (q := (RX8, TX8, 23)) hG hA hS hK hP hD [0] (by decide +kernel) rfl rfl rfl) rfl rfl hl.1 rfl (lv_room (Nat.le_of_ble_eq_true rfl)) dX8_corner_62 ⟨Nat.zero_le _, Nat.zero_le _⟩) hP hD hS hA rfl rfl (fun H locs hP9 hD9 hS9 => ?_)
            replace hP : va_P D vwCl [(ta, .inr (8, [.ref m_now, .ref m_undone, .ref m_slots, .ref m_slotKind, .ref m_hasSlot, .ref m_sheetBits, .ref m_sheetSize, .ref m_sheets, .int (nI u), .int ((f_X8_found fi (-1000005)).2), .ref m_fresh, .long aa, .long bb, .long dd, .int (nI ro), .ref m_rootWhich, .int db, .ref m_signs, .ref m_atNought, .int (nI mn), .ref m_change, .ref m_table, .ref m_carried])), (m_now, .inl (cy 0, 29, .inl nw)), (m_undone, .inl (cy 0, 725, .inl un))] H := hP9
            replace hD : va_D A [(ta, .inr (8, [.ref m_now, .ref m_undone, .ref m_slots, .ref m_slotKind, .ref m_hasSlot, .ref m_sheetBits, .ref m_sheetSize, .ref m_sheets, .int (nI u), .int ((f_X8_found fi (-1000005)).2), .ref m_fresh, .long aa, .long bb, .long dd, .int (nI ro), .ref m_rootWhich, .int db, .ref m_signs, .ref m_atNought, .int (nI mn), .ref m_change, .ref m_table, .ref m_carried])), (m_now, .inl (cy 0, 29, .inl nw)), (m_undone, .inl (cy 0, 725, .inl un))] := hD9
            replace hS := hS9
            clear hP9 hD9 hS9
            have hF : f_X8_corner nw un u fi px py n = (((f_X8_found fi (-1000005)).1), u, ((f_X8_found fi (-1000005)).2), nw, un) := hF
            have hf0 := yk_fst hF
            have hg0 := yk_snd hF
            have hf1 := yk_fst hg0
            have hg1 := yk_snd hg0
            have hf2 := yk_fst hg1
            have hg2 := yk_snd hg1
            have hf3 := yk_fst hg2
            have hg3 := yk_snd hg2
            rw [hf0, hf1, hf2, hf3, hg3] at hQ
            exact hQ _ _ _ _ dX8_corner_65 hP hS
        · replace hF := hF.trans (if_pos hc6)
          refine lv_aload_n hx hb dX8_corner_46 rfl (lv_at hl 1 rfl) ?_
          refine lv_ldc (v := (-1000003)) hx hb hown (hts _ kX8_corner_2) dX8_corner_47 ?_
          refine yk_i [0] (va_runV (As := [.int (-1000003)]) (rest := []) ⟨hx, hb, hml, hown, hts⟩ (c_X8_found l D cy ta m_now m_undone m_slots m_slotKind m_hasSlot m_sheetBits m_sheetSize m_sheets m_fresh m_rootWhich m_signs m_atNought m_change m_table m_carried u fi aa bb dd ro db mn (-1000003) H.size) (cwV 1 hts gX8_corner_X8_found rfl rfl rfl hv_X8_found (yk_room hRf hRl rfl rfl)) (yk_pv (q := (RX8, TX8, 23)) hG hA hS hK hP hD [0] (by decide +kernel) rfl rfl rfl) rfl rfl hl.1 rfl (lv_room (Nat.le_of_ble_eq_true rfl)) dX8_corner_49 ⟨Nat.zero_le _, Nat.zero_le _⟩) hP hD hS hA rfl rfl (fun H locs hP9 hD9 hS9 => ?_)
          replace hP : va_P D vwCl [(ta, .inr (8, [.ref m_now, .ref m_undone, .ref m_slots, .ref m_slotKind, .ref m_hasSlot, .ref m_sheetBits, .ref m_sheetSize, .ref m_sheets, .int (nI u), .int ((f_X8_found fi (-1000003)).2), .ref m_fresh, .long aa, .long bb, .long dd, .int (nI ro), .ref m_rootWhich, .int db, .ref m_signs, .ref m_atNought, .int (nI mn), .ref m_change, .ref m_table, .ref m_carried])), (m_now, .inl (cy 0, 29, .inl nw)), (m_undone, .inl (cy 0, 725, .inl un))] H := hP9
          replace hD : va_D A [(ta, .inr (8, [.ref m_now, .ref m_undone, .ref m_slots, .ref m_slotKind, .ref m_hasSlot, .ref m_sheetBits, .ref m_sheetSize, .ref m_sheets, .int (nI u), .int ((f_X8_found fi (-1000003)).2), .ref m_fresh, .long aa, .long bb, .long dd, .int (nI ro), .ref m_rootWhich, .int db, .ref m_signs, .ref m_atNought, .int (nI mn), .ref m_change, .ref m_table, .ref m_carried])), (m_now, .inl (cy 0, 29, .inl nw)), (m_undone, .inl (cy 0, 725, .inl un))] := hD9
          replace hS := hS9
          clear hP9 hD9 hS9
          have hF : f_X8_corner nw un u fi px py n = (((f_X8_found fi (-1000003)).1), u, ((f_X8_found fi (-1000003)).2), nw, un) := hF
          have hf0 := yk_fst hF
          have hg0 := yk_snd hF
          have hf1 := yk_fst hg0
          have hg1 := yk_snd hg0
          have hf2 := yk_fst hg1
          have hg2 := yk_snd hg1
          have hf3 := yk_fst hg2
          have hg3 := yk_snd hg2
          rw [hf0, hf1, hf2, hf3, hg3] at hQ
          exact hQ _ _ _ _ dX8_corner_52 hP hS
  · replace hF := hF.trans (if_pos hc1)
    refine lv_aload_n hx hb dX8_corner_8 rfl (lv_at hl 0 rfl) ?_
    refine lv_ldc (v := (-1000001)) hx hb hown (hts _ kX8_corner_3) dX8_corner_9 ?_
    refine yk_i [0] (va_runV (As := [.int (-1000001)]) (rest := []) ⟨hx, hb, hml, hown, hts⟩ (c_X8_found l D cy ta m_now m_undone m_slots m_slotKind m_hasSlot m_sheetBits m_sheetSize m_sheets m_fresh m_rootWhich m_signs m_atNought m_change m_table m_carried u fi aa bb dd ro db mn (-1000001) H.size) (cwV 1 hts gX8_corner_X8_found rfl rfl rfl hv_X8_found (yk_room hRf hRl rfl rfl)) (yk_pv (q := (RX8, TX8, 23)) hG hA hS hK hP hD [0] (by decide +kernel) rfl rfl rfl) rfl rfl hl.1 rfl (lv_room (Nat.le_of_ble_eq_true rfl)) dX8_corner_11 ⟨Nat.zero_le _, Nat.zero_le _⟩) hP hD hS hA rfl rfl (fun H locs hP9 hD9 hS9 => ?_)
    replace hP : va_P D vwCl [(ta, .inr (8, [.ref m_now, .ref m_undone, .ref m_slots, .ref m_slotKind, .ref m_hasSlot, .ref m_sheetBits, .ref m_sheetSize, .ref m_sheets, .int (nI u), .int ((f_X8_found fi (-1000001)).2), .ref m_fresh, .long aa, .long bb, .long dd, .int (nI ro), .ref m_rootWhich, .int db, .ref m_signs, .ref m_atNought, .int (nI mn), .ref m_change, .ref m_table, .ref m_carried])), (m_now, .inl (cy 0, 29, .inl nw)), (m_undone, .inl (cy 0, 725, .inl un))] H := hP9
    replace hD : va_D A [(ta, .inr (8, [.ref m_now, .ref m_undone, .ref m_slots, .ref m_slotKind, .ref m_hasSlot, .ref m_sheetBits, .ref m_sheetSize, .ref m_sheets, .int (nI u), .int ((f_X8_found fi (-1000001)).2), .ref m_fresh, .long aa, .long bb, .long dd, .int (nI ro), .ref m_rootWhich, .int db, .ref m_signs, .ref m_atNought, .int (nI mn), .ref m_change, .ref m_table, .ref m_carried])), (m_now, .inl (cy 0, 29, .inl nw)), (m_undone, .inl (cy 0, 725, .inl un))] := hD9
    replace hS := hS9
    clear hP9 hD9 hS9
    have hF : f_X8_corner nw un u fi px py n = (((f_X8_found fi (-1000001)).1), u, ((f_X8_found fi (-1000001)).2), nw, un) := hF
    have hf0 := yk_fst hF
    have hg0 := yk_snd hF
    have hf1 := yk_fst hg0
    have hg1 := yk_snd hg0
    have hf2 := yk_fst hg1
    have hg2 := yk_snd hg1
    have hf3 := yk_fst hg2
    have hg3 := yk_snd hg2
    rw [hf0, hf1, hf2, hf3, hg3] at hQ
    exact hQ _ _ _ _ dX8_corner_14 hP hS

theorem kX8_open_0 : Cond.fieldLink RX8 7 "FlowPlaneModel" "now" "[I" ∈ wsX8_open := by decide +kernel
theorem uX8_open_X8 : ∀ w ∈ u_ws RX8 TX8 23, w ∈ wsX8_open := by decide +kernel
def f_X8_open (nw : Nat → Int32) (un : Nat → Int32) (u : Nat) : Int32 × Nat × (Nat → Int32) × (Nat → Int32) := ((f_X8_corners nw), ((f_X8_remember nw un u).1), (upd nw 12 0), ((f_X8_remember nw un u).2))
set_option maxHeartbeats 400000000 in
set_option maxRecDepth 100000 in
theorem c_X8_open (l : Launch) (D : va_G) (cy : Nat → ClassId) (ta : Nat) (m_now : Nat) (m_undone : Nat) (m_slots : Nat) (m_slotKind : Nat) (m_hasSlot : Nat) (m_sheetBits : Nat) (m_sheetSize : Nat) (m_sheets : Nat) (m_fresh : Nat) (m_rootWhich : Nat) (m_signs : Nat) (m_atNought : Nat) (m_change : Nat) (m_table : Nat) (m_carried : Nat) (nw : Nat → Int32) (un : Nat → Int32) (u : Nat) (fi : Int32) (aa : Int64) (bb : Int64) (dd : Int64) (ro : Nat) (db : Int32) (mn : Nat) (n : Nat) (hu : u ≤ 25) (hn12 : nw 12 = nI n) (hn : n ≤ 8) : yk_Ci l D vwCl (yk_ty cy) yX8_open wsX8_open 1 21 [.ref ta] [(ta, .inr (8, [.ref m_now, .ref m_undone, .ref m_slots, .ref m_slotKind, .ref m_hasSlot, .ref m_sheetBits, .ref m_sheetSize, .ref m_sheets, .int (nI u), .int fi, .ref m_fresh, .long aa, .long bb, .long dd, .int (nI ro), .ref m_rootWhich, .int db, .ref m_signs, .ref m_atNought, .int (nI mn), .ref m_change, .ref m_table, .ref m_carried])), (m_now, .inl (cy 0, 29, .inl nw)), (m_undone, .inl (cy 0, 725, .inl un))] ((f_X8_open nw un u).1) [(ta, .inr (8, [.ref m_now, .ref m_undone, .ref m_slots, .ref m_slotKind, .ref m_hasSlot, .ref m_sheetBits, .ref m_sheetSize, .ref m_sheets, .int (nI ((f_X8_open nw un u).2.1)), .int fi, .ref m_fresh, .long aa, .long bb, .long dd, .int (nI ro), .ref m_rootWhich, .int db, .ref m_signs, .ref m_atNought, .int (nI mn), .ref m_change, .ref m_table, .ref m_carried])), (m_now, .inl (cy 0, 29, .inl ((f_X8_open nw un u).2.2.1))), (m_undone, .inl (cy 0, 725, .inl ((f_X8_open nw un u).2.2.2)))] := by
  refine yk_eI (cc := cX8_open) (maxL := 2) (by decide) rfl (Nat.le_of_ble_eq_true rfl) rfl ?_
  intro p e R s m args below meth c A Q ls H locs hx hb hml hown hts hRf hRl hA hK hG hP hD hS hl hQ
  have hP : va_P D vwCl [(ta, .inr (8, [.ref m_now, .ref m_undone, .ref m_slots, .ref m_slotKind, .ref m_hasSlot, .ref m_sheetBits, .ref m_sheetSize, .ref m_sheets, .int (nI u), .int fi, .ref m_fresh, .long aa, .long bb, .long dd, .int (nI ro), .ref m_rootWhich, .int db, .ref m_signs, .ref m_atNought, .int (nI mn), .ref m_change, .ref m_table, .ref m_carried])), (m_now, .inl (cy 0, 29, .inl nw)), (m_undone, .inl (cy 0, 725, .inl un))] H := hP
  have hl : lv_has ls 2 [(0, .ref ta)] := hl
  have hown : s.vm.findClass RX8 = some m.cls := hown
  have hF : (f_X8_open nw un u) = (f_X8_open nw un u) := rfl
  refine lv_aload_n hx hb dX8_open_0 rfl (lv_at hl 0 rfl) ?_
  refine yk_v [0, 1, 2] (va_runV (As := []) (rest := []) ⟨hx, hb, hml, hown, hts⟩ (c_X8_remember l D cy ta m_now m_undone m_slots m_slotKind m_hasSlot m_sheetBits m_sheetSize m_sheets m_fresh m_rootWhich m_signs m_atNought m_change m_table m_carried nw un u fi aa bb dd ro db mn (by first | assumption | omega) H.size) (cwV 0 hts gX8_open_X8_remember rfl rfl rfl hv_X8_remember (yk_room hRf hRl rfl rfl)) (yk_pv (q := (RX8, TX8, 23)) hG hA hS hK hP hD [0, 1, 2] (by decide +kernel) rfl rfl rfl) rfl rfl hl.1 rfl (lv_room (Nat.le_of_ble_eq_true rfl)) dX8_open_1 ⟨Nat.zero_le _, Nat.zero_le _⟩) hP hD hS hA rfl rfl (fun H locs hP9 hD9 hS9 => ?_)
  replace hP : va_P D vwCl [(ta, .inr (8, [.ref m_now, .ref m_undone, .ref m_slots, .ref m_slotKind, .ref m_hasSlot, .ref m_sheetBits, .ref m_sheetSize, .ref m_sheets, .int (nI ((f_X8_remember nw un u).1)), .int fi, .ref m_fresh, .long aa, .long bb, .long dd, .int (nI ro), .ref m_rootWhich, .int db, .ref m_signs, .ref m_atNought, .int (nI mn), .ref m_change, .ref m_table, .ref m_carried])), (m_now, .inl (cy 0, 29, .inl nw)), (m_undone, .inl (cy 0, 725, .inl ((f_X8_remember nw un u).2)))] H := hP9
  replace hD : va_D A [(ta, .inr (8, [.ref m_now, .ref m_undone, .ref m_slots, .ref m_slotKind, .ref m_hasSlot, .ref m_sheetBits, .ref m_sheetSize, .ref m_sheets, .int (nI ((f_X8_remember nw un u).1)), .int fi, .ref m_fresh, .long aa, .long bb, .long dd, .int (nI ro), .ref m_rootWhich, .int db, .ref m_signs, .ref m_atNought, .int (nI mn), .ref m_change, .ref m_table, .ref m_carried])), (m_now, .inl (cy 0, 29, .inl nw)), (m_undone, .inl (cy 0, 725, .inl ((f_X8_remember nw un u).2)))] := hD9
  replace hS := hS9
  clear hP9 hD9 hS9
  refine lv_aload_n hx hb dX8_open_4 rfl (lv_at hl 0 rfl) ?_
  refine yk_i [0, 1] (va_runV (As := []) (rest := []) ⟨hx, hb, hml, hown, hts⟩ (c_X8_corners l D cy ta m_now m_undone m_slots m_slotKind m_hasSlot m_sheetBits m_sheetSize m_sheets m_fresh m_rootWhich m_signs m_atNought m_change m_table m_carried nw ((f_X8_remember nw un u).1) fi aa bb dd ro db mn H.size) (cwV 0 hts gX8_open_X8_corners rfl rfl rfl hv_X8_corners (yk_room hRf hRl rfl rfl)) (yk_pv (q := (RX8, TX8, 23)) hG hA hS hK hP hD [0, 1] (by decide +kernel) rfl rfl rfl) rfl rfl hl.1 rfl (lv_room (Nat.le_of_ble_eq_true rfl)) dX8_open_5 ⟨Nat.zero_le _, Nat.zero_le _⟩) hP hD hS hA rfl rfl (fun H locs hP9 hD9 hS9 => ?_)
  replace hP : va_P D vwCl [(ta, .inr (8, [.ref m_now, .ref m_undone, .ref m_slots, .ref m_slotKind, .ref m_hasSlot, .ref m_sheetBits, .ref m_sheetSize, .ref m_sheets, .int (nI ((f_X8_remember nw un u).1)), .int fi, .ref m_fresh, .long aa, .long bb, .long dd, .int (nI ro), .ref m_rootWhich, .int db, .ref m_signs, .ref m_atNought, .int (nI mn), .ref m_change, .ref m_table, .ref m_carried])), (m_now, .inl (cy 0, 29, .inl nw)), (m_undone, .inl (cy 0, 725, .inl ((f_X8_remember nw un u).2)))] H := hP9
  replace hD : va_D A [(ta, .inr (8, [.ref m_now, .ref m_undone, .ref m_slots, .ref m_slotKind, .ref m_hasSlot, .ref m_sheetBits, .ref m_sheetSize, .ref m_sheets, .int (nI ((f_X8_remember nw un u).1)), .int fi, .ref m_fresh, .long aa, .long bb, .long dd, .int (nI ro), .ref m_rootWhich, .int db, .ref m_signs, .ref m_atNought, .int (nI mn), .ref m_change, .ref m_table, .ref m_carried])), (m_now, .inl (cy 0, 29, .inl nw)), (m_undone, .inl (cy 0, 725, .inl ((f_X8_remember nw un u).2)))] := hD9
  replace hS := hS9
  clear hP9 hD9 hS9
  refine lv_istore_n (lv' := [(1, .int (f_X8_corners nw)), (0, .ref ta)]) hx hb dX8_open_8 rfl hl (by decide) rfl (fun ls hl9 => ?_)
  replace hl := hl9
  clear hl9
  refine lv_aload_n hx hb dX8_open_9 rfl (lv_at hl 1 rfl) ?_
  refine va_get (D := D) (ci := 8) (v := .ref m_now) (C := RX8) (T := TX8) (N := 23) hx hb hts uX8_open_X8 hown hK hP 0 rfl rfl 0 (by decide) (hts _ kX8_open_0) (fun _ h9 => h9) rfl dX8_open_10 ?_
  refine lv_bipush (v := 12) hx hb dX8_open_13 (by decide) ?_
  refine lv_iconst (v := 0) hx hb dX8_open_15 (by decide) ?_
  refine yk_ist hx hb hK hP hD hS 1 0 rfl rfl 12 (by omega) (by decide) dX8_open_16 (fun H locs hP9 hD9 hS9 => ?_)
  replace hP : va_P D vwCl [(ta, .inr (8, [.ref m_now, .ref m_undone, .ref m_slots, .ref m_slotKind, .ref m_hasSlot, .ref m_sheetBits, .ref m_sheetSize, .ref m_sheets, .int (nI ((f_X8_remember nw un u).1)), .int fi, .ref m_fresh, .long aa, .long bb, .long dd, .int (nI ro), .ref m_rootWhich, .int db, .ref m_signs, .ref m_atNought, .int (nI mn), .ref m_change, .ref m_table, .ref m_carried])), (m_now, .inl (cy 0, 29, .inl (upd nw 12 0))), (m_undone, .inl (cy 0, 725, .inl ((f_X8_remember nw un u).2)))] H := hP9
  replace hD : va_D A [(ta, .inr (8, [.ref m_now, .ref m_undone, .ref m_slots, .ref m_slotKind, .ref m_hasSlot, .ref m_sheetBits, .ref m_sheetSize, .ref m_sheets, .int (nI ((f_X8_remember nw un u).1)), .int fi, .ref m_fresh, .long aa, .long bb, .long dd, .int (nI ro), .ref m_rootWhich, .int db, .ref m_signs, .ref m_atNought, .int (nI mn), .ref m_change, .ref m_table, .ref m_carried])), (m_now, .inl (cy 0, 29, .inl (upd nw 12 0))), (m_undone, .inl (cy 0, 725, .inl ((f_X8_remember nw un u).2)))] := hD9
  replace hS := hS9
  clear hP9 hD9 hS9
  refine lv_iload_n hx hb dX8_open_17 rfl (lv_at hl 0 rfl) ?_
  have hF : f_X8_open nw un u = ((f_X8_corners nw), ((f_X8_remember nw un u).1), (upd nw 12 0), ((f_X8_remember nw un u).2)) := hF
  have hf0 := yk_fst hF
  have hg0 := yk_snd hF
  have hf1 := yk_fst hg0
  have hg1 := yk_snd hg0
  have hf2 := yk_fst hg1
  have hg2 := yk_snd hg1
  rw [hf0, hf1, hf2, hg2] at hQ
  exact hQ _ _ _ _ dX8_open_18 hP hS

def f_X8_turn (x1 : Int32) (y1 : Int32) (x2 : Int32) (y2 : Int32) (x3 : Int32) (y3 : Int32) : Int32 := (if (((x2 - x1) * (y3 - y1)) - ((y2 - y1) * (x3 - x1))) ≤ 0 then (if 0 ≤ (((x2 - x1) * (y3 - y1)) - ((y2 - y1) * (x3 - x1))) then 0 else (-1)) else 1)
set_option maxHeartbeats 400000000 in
set_option maxRecDepth 100000 in
theorem c_X8_turn (l : Launch) (D : va_G) (cy : Nat → ClassId) (x1 : Int32) (y1 : Int32) (x2 : Int32) (y2 : Int32) (x3 : Int32) (y3 : Int32) : yk_Ci l D vwCl (yk_ty cy) yX8_turn wsX8_turn 0 0 [.int x1, .int y1, .int x2, .int y2, .int x3, .int y3] [] (f_X8_turn x1 y1 x2 y2 x3 y3) [] := by
  refine yk_eI (cc := cX8_turn) (maxL := 7) (by decide) rfl (Nat.le_of_ble_eq_true rfl) rfl ?_
  intro p e R s m args below meth c A Q ls H locs hx hb hml hown hts hRf hRl hA hK hG hP hD hS hl hQ
  have hP : va_P D vwCl [] H := hP
  have hl : lv_has ls 7 [(0, .int x1), (1, .int y1), (2, .int x2), (3, .int y2), (4, .int x3), (5, .int y3)] := hl
  have hown : s.vm.findClass RX8 = some m.cls := hown
  have hF : (f_X8_turn x1 y1 x2 y2 x3 y3) = (f_X8_turn x1 y1 x2 y2 x3 y3) := rfl
  refine lv_iload_n hx hb dX8_turn_0 rfl (lv_at hl 2 rfl) ?_
  refine lv_iload_n hx hb dX8_turn_1 rfl (lv_at hl 0 rfl) ?_
  refine lv_isub hx hb dX8_turn_2 ?_
  refine lv_iload hx hb dX8_turn_3 (lv_at hl 5 rfl) ?_
  refine lv_iload_n hx hb dX8_turn_5 rfl (lv_at hl 1 rfl) ?_
  refine lv_isub hx hb dX8_turn_6 ?_
  refine lv_imul hx hb dX8_turn_7 ?_
  refine lv_iload_n hx hb dX8_turn_8 rfl (lv_at hl 3 rfl) ?_
  refine lv_iload_n hx hb dX8_turn_9 rfl (lv_at hl 1 rfl) ?_
  refine lv_isub hx hb dX8_turn_10 ?_
  refine lv_iload hx hb dX8_turn_11 (lv_at hl 4 rfl) ?_
  refine lv_iload_n hx hb dX8_turn_13 rfl (lv_at hl 0 rfl) ?_
  refine lv_isub hx hb dX8_turn_14 ?_
  refine lv_imul hx hb dX8_turn_15 ?_
  refine lv_isub hx hb dX8_turn_16 ?_
  refine lv_istore (lv' := [(6, .int (((x2 - x1) * (y3 - y1)) - ((y2 - y1) * (x3 - x1)))), (0, .int x1), (1, .int y1), (2, .int x2), (3, .int y2), (4, .int x3), (5, .int y3)]) hx hb dX8_turn_17 hl (by decide) rfl (fun ls hl9 => ?_)
  replace hl := hl9
  clear hl9
  refine lv_iload hx hb dX8_turn_19 (lv_at hl 0 rfl) ?_
  have J4 : ∀ (v3 : Int32) (H : Heap) (locs : List Loc) (ls : Array Slot), v3 = (if (((x2 - x1) * (y3 - y1)) - ((y2 - y1) * (x3 - x1))) ≤ 0 then (if 0 ≤ (((x2 - x1) * (y3 - y1)) - ((y2 - y1) * (x3 - x1))) then 0 else (-1)) else 1) → va_P D vwCl [] H → va_D A [] → va_S A s.heap H locs → lv_has ls 7 [(0, .int x1), (1, .int y1), (2, .int x2), (3, .int y2), (4, .int x3), (5, .int y3), (6, .int (((x2 - x1) * (y3 - y1)) - ((y2 - y1) * (x3 - x1))))] → W p l e R s m args below meth c H locs 0 0 Q (F0 m 38 ls [.int v3]) := by
    clear hP hD hS hl
    intro v3 H locs ls ev3 hP hD hS hl
    subst ev3
    have hF : f_X8_turn x1 y1 x2 y2 x3 y3 = (if (((x2 - x1) * (y3 - y1)) - ((y2 - y1) * (x3 - x1))) ≤ 0 then (if 0 ≤ (((x2 - x1) * (y3 - y1)) - ((y2 - y1) * (x3 - x1))) then 0 else (-1)) else 1) := hF
    rw [hF] at hQ
    exact hQ _ _ _ _ dX8_turn_38 hP hS
  refine lv_if_le (tgt := 28) hx hb dX8_turn_21 (by decide) (fun hc1 => ?_) (fun hc1 => ?_)
  · refine lv_iload hx hb dX8_turn_28 (lv_at hl 0 rfl) ?_
    refine lv_if_ge (tgt := 37) hx hb dX8_turn_30 (by decide) (fun hc2 => ?_) (fun hc2 => ?_)
    · refine lv_iconst (v := 0) hx hb dX8_turn_37 (by decide) ?_
      exact J4 _ _ _ _ (((if_pos hc1).trans (if_pos hc2)).symm) hP hD hS (lv_sub hl [1, 2, 3, 4, 5, 6, 0] rfl)
    · refine lv_iconst (v := (-1)) hx hb dX8_turn_33 (by decide) ?_
      refine lv_goto (tgt := 38) hx hb dX8_turn_34 (by decide) ?_
      exact J4 _ _ _ _ (((if_pos hc1).trans (if_neg hc2)).symm) hP hD hS (lv_sub hl [1, 2, 3, 4, 5, 6, 0] rfl)
  · refine lv_iconst (v := 1) hx hb dX8_turn_24 (by decide) ?_
    refine lv_goto (tgt := 38) hx hb dX8_turn_25 (by decide) ?_
    exact J4 _ _ _ _ ((if_neg hc1).symm) hP hD hS (lv_sub hl [1, 2, 3, 4, 5, 6, 0] rfl)

def f_X8_isOn (nw : Nat → Int32) (k : Nat) (px : Int32) (py : Int32) (n : Nat) : Int32 := (if (f_X8_turn (f_X8_xOf nw k n) (f_X8_yOf nw k n) (f_X8_xOf nw (k + 1) n) (f_X8_yOf nw (k + 1) n) px py) = 0 then (if px < (if (f_X8_xOf nw (k + 1) n) ≤ (f_X8_xOf nw k n) then (f_X8_xOf nw (k + 1) n) else (f_X8_xOf nw k n)) then 0 else (if (if (f_X8_xOf nw k n) ≤ (f_X8_xOf nw (k + 1) n) then (f_X8_xOf nw (k + 1) n) else (f_X8_xOf nw k n)) < px then 0 else (if py < (if (f_X8_yOf nw (k + 1) n) ≤ (f_X8_yOf nw k n) then (f_X8_yOf nw (k + 1) n) else (f_X8_yOf nw k n)) then 0 else (if (if (f_X8_yOf nw k n) ≤ (f_X8_yOf nw (k + 1) n) then (f_X8_yOf nw (k + 1) n) else (f_X8_yOf nw k n)) < py then 0 else 1)))) else 0)
theorem b_X8_isOn (nw : Nat → Int32) (k : Nat) (px : Int32) (py : Int32) (n : Nat) : (f_X8_isOn nw k px py n) = 0 ∨ (f_X8_isOn nw k px py n) = 1 := by
  unfold f_X8_isOn; (repeat' split) <;> first | exact Or.inl (by with_reducible rfl) | exact Or.inr (by with_reducible rfl)
set_option maxHeartbeats 400000000 in
set_option maxRecDepth 100000 in
theorem c_X8_isOn (l : Launch) (D : va_G) (cy : Nat → ClassId) (ta : Nat) (m_now : Nat) (m_undone : Nat) (m_slots : Nat) (m_slotKind : Nat) (m_hasSlot : Nat) (m_sheetBits : Nat) (m_sheetSize : Nat) (m_sheets : Nat) (m_fresh : Nat) (m_rootWhich : Nat) (m_signs : Nat) (m_atNought : Nat) (m_change : Nat) (m_table : Nat) (m_carried : Nat) (nw : Nat → Int32) (u : Nat) (fi : Int32) (aa : Int64) (bb : Int64) (dd : Int64) (ro : Nat) (db : Int32) (mn : Nat) (k : Nat) (px : Int32) (py : Int32) (n : Nat) (hn12 : nw 12 = nI n) (hn : n ≤ 8) (hn0 : 0 < n) (hk : k < 63) : yk_Ci l D vwCl (yk_ty cy) yX8_isOn wsX8_isOn 2 41 [.ref ta, .int (nI k), .int px, .int py] [(ta, .inr (8, [.ref m_now, .ref m_undone, .ref m_slots, .ref m_slotKind, .ref m_hasSlot, .ref m_sheetBits, .ref m_sheetSize, .ref m_sheets, .int (nI u), .int fi, .ref m_fresh, .long aa, .long bb, .long dd, .int (nI ro), .ref m_rootWhich, .int db, .ref m_signs, .ref m_atNought, .int (nI mn), .ref m_change, .ref m_table, .ref m_carried])), (m_now, .inl (cy 0, 29, .inl nw))] (f_X8_isOn nw k px py n) [(ta, .inr (8, [.ref m_now, .ref m_undone, .ref m_slots, .ref m_slotKind, .ref m_hasSlot, .ref m_sheetBits, .ref m_sheetSize, .ref m_sheets, .int (nI u), .int fi, .ref m_fresh, .long aa, .long bb, .long dd, .int (nI ro), .ref m_rootWhich, .int db, .ref m_signs, .ref m_atNought, .int (nI mn), .ref m_change, .ref m_table, .ref m_carried])), (m_now, .inl (cy 0, 29, .inl nw))] := by
  refine yk_eI (cc := cX8_isOn) (maxL := 8) (by decide) rfl (Nat.le_of_ble_eq_true rfl) (yk_nb (b_X8_isOn nw k px py n)) ?_
  intro p e R s m args below meth c A Q ls H locs hx hb hml hown hts hRf hRl hA hK hG hP hD hS hl hQ
  have hP : va_P D vwCl [(ta, .inr (8, [.ref m_now, .ref m_undone, .ref m_slots, .ref m_slotKind, .ref m_hasSlot, .ref m_sheetBits, .ref m_sheetSize, .ref m_sheets, .int (nI u), .int fi, .ref m_fresh, .long aa, .long bb, .long dd, .int (nI ro), .ref m_rootWhich, .int db, .ref m_signs, .ref m_atNought, .int (nI mn), .ref m_change, .ref m_table, .ref m_carried])), (m_now, .inl (cy 0, 29, .inl nw))] H := hP
  have hl : lv_has ls 8 [(0, .ref ta), (1, .int (nI k)), (2, .int px), (3, .int py)] := hl
  have hown : s.vm.findClass RX8 = some m.cls := hown
  have hF : (f_X8_isOn nw k px py n) = (f_X8_isOn nw k px py n) := rfl
  refine lv_aload_n hx hb dX8_isOn_0 rfl (lv_at hl 0 rfl) ?_
  refine lv_iload_n hx hb dX8_isOn_1 rfl (lv_at hl 1 rfl) ?_
  refine yk_i [0, 1] (va_runV (As := [.int (nI k)]) (rest := []) ⟨hx, hb, hml, hown, hts⟩ (c_X8_xOf l D cy ta m_now m_undone m_slots m_slotKind m_hasSlot m_sheetBits m_sheetSize m_sheets m_fresh m_rootWhich m_signs m_atNought m_change m_table m_carried nw u fi aa bb dd ro db mn k n (by first | assumption | omega) (by first | assumption | omega) (by first | assumption | omega) (by first | assumption | omega) H.size) (cwV 1 hts gX8_isOn_X8_xOf rfl rfl rfl hv_X8_xOf (yk_room hRf hRl rfl rfl)) (yk_pv (q := (RX8, TX8, 23)) hG hA hS hK hP hD [0, 1] (by decide +kernel) rfl rfl rfl) rfl rfl hl.1 rfl (lv_room (Nat.le_of_ble_eq_true rfl)) dX8_isOn_2 ⟨Nat.zero_le _, Nat.zero_le _⟩) hP hD hS hA rfl rfl (fun H locs hP9 hD9 hS9 => ?_)
  replace hP : va_P D vwCl [(ta, .inr (8, [.ref m_now, .ref m_undone, .ref m_slots, .ref m_slotKind, .ref m_hasSlot, .ref m_sheetBits, .ref m_sheetSize, .ref m_sheets, .int (nI u), .int fi, .ref m_fresh, .long aa, .long bb, .long dd, .int (nI ro), .ref m_rootWhich, .int db, .ref m_signs, .ref m_atNought, .int (nI mn), .ref m_change, .ref m_table, .ref m_carried])), (m_now, .inl (cy 0, 29, .inl nw))] H := hP9
  replace hD : va_D A [(ta, .inr (8, [.ref m_now, .ref m_undone, .ref m_slots, .ref m_slotKind, .ref m_hasSlot, .ref m_sheetBits, .ref m_sheetSize, .ref m_sheets, .int (nI u), .int fi, .ref m_fresh, .long aa, .long bb, .long dd, .int (nI ro), .ref m_rootWhich, .int db, .ref m_signs, .ref m_atNought, .int (nI mn), .ref m_change, .ref m_table, .ref m_carried])), (m_now, .inl (cy 0, 29, .inl nw))] := hD9
  replace hS := hS9
  clear hP9 hD9 hS9
  refine lv_istore (lv' := [(4, .int (f_X8_xOf nw k n)), (0, .ref ta), (1, .int (nI k)), (2, .int px), (3, .int py)]) hx hb dX8_isOn_5 hl (by decide) rfl (fun ls hl9 => ?_)
  replace hl := hl9
  clear hl9
  refine lv_aload_n hx hb dX8_isOn_7 rfl (lv_at hl 1 rfl) ?_
  refine lv_iload_n hx hb dX8_isOn_8 rfl (lv_at hl 2 rfl) ?_
  refine yk_i [0, 1] (va_runV (As := [.int (nI k)]) (rest := []) ⟨hx, hb, hml, hown, hts⟩ (c_X8_yOf l D cy ta m_now m_undone m_slots m_slotKind m_hasSlot m_sheetBits m_sheetSize m_sheets m_fresh m_rootWhich m_signs m_atNought m_change m_table m_carried nw u fi aa bb dd ro db mn k n (by first | assumption | omega) (by first | assumption | omega) (by first | assumption | omega) (by first | assumption | omega) H.size) (cwV 1 hts gX8_isOn_X8_yOf rfl rfl rfl hv_X8_yOf (yk_room hRf hRl rfl rfl)) (yk_pv (q := (RX8, TX8, 23)) hG hA hS hK hP hD [0, 1] (by decide +kernel) rfl rfl rfl) rfl rfl hl.1 rfl (lv_room (Nat.le_of_ble_eq_true rfl)) dX8_isOn_9 ⟨Nat.zero_le _, Nat.zero_le _⟩) hP hD hS hA rfl rfl (fun H locs hP9 hD9 hS9 => ?_)
  replace hP : va_P D vwCl [(ta, .inr (8, [.ref m_now, .ref m_undone, .ref m_slots, .ref m_slotKind, .ref m_hasSlot, .ref m_sheetBits, .ref m_sheetSize, .ref m_sheets, .int (nI u), .int fi, .ref m_fresh, .long aa, .long bb, .long dd, .int (nI ro), .ref m_rootWhich, .int db, .ref m_signs, .ref m_atNought, .int (nI mn), .ref m_change, .ref m_table, .ref m_carried])), (m_now, .inl (cy 0, 29, .inl nw))] H := hP9
  replace hD : va_D A [(ta, .inr (8, [.ref m_now, .ref m_undone, .ref m_slots, .ref m_slotKind, .ref m_hasSlot, .ref m_sheetBits, .ref m_sheetSize, .ref m_sheets, .int (nI u), .int fi, .ref m_fresh, .long aa, .long bb, .long dd, .int (nI ro), .ref m_rootWhich, .int db, .ref m_signs, .ref m_atNought, .int (nI mn), .ref m_change, .ref m_table, .ref m_carried])), (m_now, .inl (cy 0, 29, .inl nw))] := hD9
  replace hS := hS9
  clear hP9 hD9 hS9
  refine lv_istore (lv' := [(5, .int (f_X8_yOf nw k n)), (4, .int (f_X8_xOf nw k n)), (0, .ref ta), (1, .int (nI k)), (2, .int px), (3, .int py)]) hx hb dX8_isOn_12 hl (by decide) rfl (fun ls hl9 => ?_)
  replace hl := hl9
  clear hl9
  refine lv_aload_n hx hb dX8_isOn_14 rfl (lv_at hl 2 rfl) ?_
  refine lv_iload_n hx hb dX8_isOn_15 rfl (lv_at hl 3 rfl) ?_
  refine lv_iconst (v := 1) hx hb dX8_isOn_16 (by decide) ?_
  refine lv_iadd hx hb dX8_isOn_17 ?_
  refine yk_ti (y := nI (k + 1)) (nI_add k 1) ?_
  refine yk_i [0, 1] (va_runV (As := [.int (nI (k + 1))]) (rest := []) ⟨hx, hb, hml, hown, hts⟩ (c_X8_xOf l D cy ta m_now m_undone m_slots m_slotKind m_hasSlot m_sheetBits m_sheetSize m_sheets m_fresh m_rootWhich m_signs m_atNought m_change m_table m_carried nw u fi aa bb dd ro db mn (k + 1) n (by first | assumption | omega) (by first | assumption | omega) (by first | assumption | omega) (by first | assumption | omega) H.size) (cwV 1 hts gX8_isOn_X8_xOf rfl rfl rfl hv_X8_xOf (yk_room hRf hRl rfl rfl)) (yk_pv (q := (RX8, TX8, 23)) hG hA hS hK hP hD [0, 1] (by decide +kernel) rfl rfl rfl) rfl rfl hl.1 rfl (lv_room (Nat.le_of_ble_eq_true rfl)) dX8_isOn_18 ⟨Nat.zero_le _, Nat.zero_le _⟩) hP hD hS hA rfl rfl (fun H locs hP9 hD9 hS9 => ?_)
  replace hP : va_P D vwCl [(ta, .inr (8, [.ref m_now, .ref m_undone, .ref m_slots, .ref m_slotKind, .ref m_hasSlot, .ref m_sheetBits, .ref m_sheetSize, .ref m_sheets, .int (nI u), .int fi, .ref m_fresh, .long aa, .long bb, .long dd, .int (nI ro), .ref m_rootWhich, .int db, .ref m_signs, .ref m_atNought, .int (nI mn), .ref m_change, .ref m_table, .ref m_carried])), (m_now, .inl (cy 0, 29, .inl nw))] H := hP9
  replace hD : va_D A [(ta, .inr (8, [.ref m_now, .ref m_undone, .ref m_slots, .ref m_slotKind, .ref m_hasSlot, .ref m_sheetBits, .ref m_sheetSize, .ref m_sheets, .int (nI u), .int fi, .ref m_fresh, .long aa, .long bb, .long dd, .int (nI ro), .ref m_rootWhich, .int db, .ref m_signs, .ref m_atNought, .int (nI mn), .ref m_change, .ref m_table, .ref m_carried])), (m_now, .inl (cy 0, 29, .inl nw))] := hD9
  replace hS := hS9
  clear hP9 hD9 hS9
  refine lv_istore (lv' := [(6, .int (f_X8_xOf nw (k + 1) n)), (5, .int (f_X8_yOf nw k n)), (4, .int (f_X8_xOf nw k n)), (0, .ref ta), (1, .int (nI k)), (2, .int px), (3, .int py)]) hx hb dX8_isOn_21 hl (by decide) rfl (fun ls hl9 => ?_)
  replace hl := hl9
  clear hl9
  refine lv_aload_n hx hb dX8_isOn_23 rfl (lv_at hl 3 rfl) ?_
  refine lv_iload_n hx hb dX8_isOn_24 rfl (lv_at hl 4 rfl) ?_
  refine lv_iconst (v := 1) hx hb dX8_isOn_25 (by decide) ?_
  refine lv_iadd hx hb dX8_isOn_26 ?_
  refine yk_ti (y := nI (k + 1)) (nI_add k 1) ?_
  refine yk_i [0, 1] (va_runV (As := [.int (nI (k + 1))]) (rest := []) ⟨hx, hb, hml, hown, hts⟩ (c_X8_yOf l D cy ta m_now m_undone m_slots m_slotKind m_hasSlot m_sheetBits m_sheetSize m_sheets m_fresh m_rootWhich m_signs m_atNought m_change m_table m_carried nw u fi aa bb dd ro db mn (k + 1) n (by first | assumption | omega) (by first | assumption | omega) (by first | assumption | omega) (by first | assumption | omega) H.size) (cwV 1 hts gX8_isOn_X8_yOf rfl rfl rfl hv_X8_yOf (yk_room hRf hRl rfl rfl)) (yk_pv (q := (RX8, TX8, 23)) hG hA hS hK hP hD [0, 1] (by decide +kernel) rfl rfl rfl) rfl rfl hl.1 rfl (lv_room (Nat.le_of_ble_eq_true rfl)) dX8_isOn_27 ⟨Nat.zero_le _, Nat.zero_le _⟩) hP hD hS hA rfl rfl (fun H locs hP9 hD9 hS9 => ?_)
  replace hP : va_P D vwCl [(ta, .inr (8, [.ref m_now, .ref m_undone, .ref m_slots, .ref m_slotKind, .ref m_hasSlot, .ref m_sheetBits, .ref m_sheetSize, .ref m_sheets, .int (nI u), .int fi, .ref m_fresh, .long aa, .long bb, .long dd, .int (nI ro), .ref m_rootWhich, .int db, .ref m_signs, .ref m_atNought, .int (nI mn), .ref m_change, .ref m_table, .ref m_carried])), (m_now, .inl (cy 0, 29, .inl nw))] H := hP9
  replace hD : va_D A [(ta, .inr (8, [.ref m_now, .ref m_undone, .ref m_slots, .ref m_slotKind, .ref m_hasSlot, .ref m_sheetBits, .ref m_sheetSize, .ref m_sheets, .int (nI u), .int fi, .ref m_fresh, .long aa, .long bb, .long dd, .int (nI ro), .ref m_rootWhich, .int db, .ref m_signs, .ref m_atNought, .int (nI mn), .ref m_change, .ref m_table, .ref m_carried])), (m_now, .inl (cy 0, 29, .inl nw))] := hD9
  replace hS := hS9
  clear hP9 hD9 hS9
  refine lv_istore (lv' := [(7, .int (f_X8_yOf nw (k + 1) n)), (6, .int (f_X8_xOf nw (k + 1) n)), (5, .int (f_X8_yOf nw k n)), (4, .int (f_X8_xOf nw k n)), (0, .ref ta), (1, .int (nI k)), (2, .int px), (3, .int py)]) hx hb dX8_isOn_30 hl (by decide) rfl (fun ls hl9 => ?_)
  replace hl := hl9
  clear hl9
  refine lv_iload hx hb dX8_isOn_32 (lv_at hl 3 rfl) ?_
  refine lv_iload hx hb dX8_isOn_34 (lv_at hl 2 rfl) ?_
  refine lv_iload hx hb dX8_isOn_36 (lv_at hl 1 rfl) ?_
  refine lv_iload hx hb dX8_isOn_38 (lv_at hl 0 rfl) ?_
  refine lv_iload_n hx hb dX8_isOn_40 rfl (lv_at hl 6 rfl) ?_
  refine lv_iload_n hx hb dX8_isOn_41 rfl (lv_at hl 7 rfl) ?_
  refine yk_i [] (va_runS (As := [.int (f_X8_xOf nw k n), .int (f_X8_yOf nw k n), .int (f_X8_xOf nw (k + 1) n), .int (f_X8_yOf nw (k + 1) n), .int px, .int py]) (rest := []) ⟨hx, hb, hml, hown, hts⟩ (c_X8_turn l D cy (f_X8_xOf nw k n) (f_X8_yOf nw k n) (f_X8_xOf nw (k + 1) n) (f_X8_yOf nw (k + 1) n) px py H.size) (va_cwS 6 hts gX8_isOn_X8_turn rfl rfl rfl hs_X8_turn (yk_room hRf hRl rfl rfl)) (yk_ps hG hA hS hK hP hD [] (by decide +kernel) rfl) rfl rfl hl.1 rfl (lv_room (Nat.le_of_ble_eq_true rfl)) dX8_isOn_42 ⟨Nat.zero_le _, Nat.zero_le _⟩) hP hD hS hA rfl rfl (fun H locs hP9 hD9 hS9 => ?_)
  replace hP : va_P D vwCl [(ta, .inr (8, [.ref m_now, .ref m_undone, .ref m_slots, .ref m_slotKind, .ref m_hasSlot, .ref m_sheetBits, .ref m_sheetSize, .ref m_sheets, .int (nI u), .int fi, .ref m_fresh, .long aa, .long bb, .long dd, .int (nI ro), .ref m_rootWhich, .int db, .ref m_signs, .ref m_atNought, .int (nI mn), .ref m_change, .ref m_table, .ref m_carried])), (m_now, .inl (cy 0, 29, .inl nw))] H := hP9
  replace hD : va_D A [(ta, .inr (8, [.ref m_now, .ref m_undone, .ref m_slots, .ref m_slotKind, .ref m_hasSlot, .ref m_sheetBits, .ref m_sheetSize, .ref m_sheets, .int (nI u), .int fi, .ref m_fresh, .long aa, .long bb, .long dd, .int (nI ro), .ref m_rootWhich, .int db, .ref m_signs, .ref m_atNought, .int (nI mn), .ref m_change, .ref m_table, .ref m_carried])), (m_now, .inl (cy 0, 29, .inl nw))] := hD9
  replace hS := hS9
  clear hP9 hD9 hS9
  refine lv_if_eq (tgt := 50) hx hb dX8_isOn_45 (by decide) (fun hc1 => ?_) (fun hc1 => ?_)
  · replace hF := hF.trans (if_pos hc1)
    refine lv_iload_n hx hb dX8_isOn_50 rfl (lv_at hl 6 rfl) ?_
    refine lv_iload hx hb dX8_isOn_51 (lv_at hl 3 rfl) ?_
    refine lv_iload hx hb dX8_isOn_53 (lv_at hl 1 rfl) ?_
    have J4 : ∀ (v3 : Int32) (H : Heap) (locs : List Loc) (ls : Array Slot), v3 = (if (f_X8_xOf nw (k + 1) n) ≤ (f_X8_xOf nw k n) then (f_X8_xOf nw (k + 1) n) else (f_X8_xOf nw k n)) → va_P D vwCl [(ta, .inr (8, [.ref m_now, .ref m_undone, .ref m_slots, .ref m_slotKind, .ref m_hasSlot, .ref m_sheetBits, .ref m_sheetSize, .ref m_sheets, .int (nI u), .int fi, .ref m_fresh, .long aa, .long bb, .long dd, .int (nI ro), .ref m_rootWhich, .int db, .ref m_signs, .ref m_atNought, .int (nI mn), .ref m_change, .ref m_table, .ref m_carried])), (m_now, .inl (cy 0, 29, .inl nw))] H → va_D A [(ta, .inr (8, [.ref m_now, .ref m_undone, .ref m_slots, .ref m_slotKind, .ref m_hasSlot, .ref m_sheetBits, .ref m_sheetSize, .ref m_sheets, .int (nI u), .int fi, .ref m_fresh, .long aa, .long bb, .long dd, .int (nI ro), .ref m_rootWhich, .int db, .ref m_signs, .ref m_atNought, .int (nI mn), .ref m_change, .ref m_table, .ref m_carried])), (m_now, .inl (cy 0, 29, .inl nw))] → va_S A s.heap H locs → lv_has ls 8 [(0, .ref ta), (1, .int (nI k)), (2, .int px), (3, .int py), (4, .int (f_X8_xOf nw k n)), (5, .int (f_X8_yOf nw k n)), (6, .int (f_X8_xOf nw (k + 1) n)), (7, .int (f_X8_yOf nw (k + 1) n))] → W p l e R s m args below meth c H locs 0 0 Q (F0 m 65 ls [.int v3, .int px]) := by
      clear hP hD hS hl
      intro v3 H locs ls ev3 hP hD hS hl
      subst ev3
      have J19 : ∀ (v18 : Int32) (H : Heap) (locs : List Loc) (ls : Array Slot), v18 = (if px < (if (f_X8_xOf nw (k + 1) n) ≤ (f_X8_xOf nw k n) then (f_X8_xOf nw (k + 1) n) else (f_X8_xOf nw k n)) then 0 else (if (if (f_X8_xOf nw k n) ≤ (f_X8_xOf nw (k + 1) n) then (f_X8_xOf nw (k + 1) n) else (f_X8_xOf nw k n)) < px then 0 else (if py < (if (f_X8_yOf nw (k + 1) n) ≤ (f_X8_yOf nw k n) then (f_X8_yOf nw (k + 1) n) else (f_X8_yOf nw k n)) then 0 else (if (if (f_X8_yOf nw k n) ≤ (f_X8_yOf nw (k + 1) n) then (f_X8_yOf nw (k + 1) n) else (f_X8_yOf nw k n)) < py then 0 else 1)))) → va_P D vwCl [(ta, .inr (8, [.ref m_now, .ref m_undone, .ref m_slots, .ref m_slotKind, .ref m_hasSlot, .ref m_sheetBits, .ref m_sheetSize, .ref m_sheets, .int (nI u), .int fi, .ref m_fresh, .long aa, .long bb, .long dd, .int (nI ro), .ref m_rootWhich, .int db, .ref m_signs, .ref m_atNought, .int (nI mn), .ref m_change, .ref m_table, .ref m_carried])), (m_now, .inl (cy 0, 29, .inl nw))] H → va_D A [(ta, .inr (8, [.ref m_now, .ref m_undone, .ref m_slots, .ref m_slotKind, .ref m_hasSlot, .ref m_sheetBits, .ref m_sheetSize, .ref m_sheets, .int (nI u), .int fi, .ref m_fresh, .long aa, .long bb, .long dd, .int (nI ro), .ref m_rootWhich, .int db, .ref m_signs, .ref m_atNought, .int (nI mn), .ref m_change, .ref m_table, .ref m_carried])), (m_now, .inl (cy 0, 29, .inl nw))] → va_S A s.heap H locs → lv_has ls 8 [(0, .ref ta), (1, .int (nI k)), (2, .int px), (3, .int py), (4, .int (f_X8_xOf nw k n)), (5, .int (f_X8_yOf nw k n)), (6, .int (f_X8_xOf nw (k + 1) n)), (7, .int (f_X8_yOf nw (k + 1) n))] → W p l e R s m args below meth c H locs 0 0 Q (F0 m 127 ls [.int v18]) := by
        clear hP hD hS hl
        intro v18 H locs ls ev18 hP hD hS hl
        subst ev18
        have hF : f_X8_isOn nw k px py n = (if px < (if (f_X8_xOf nw (k + 1) n) ≤ (f_X8_xOf nw k n) then (f_X8_xOf nw (k + 1) n) else (f_X8_xOf nw k n)) then 0 else (if (if (f_X8_xOf nw k n) ≤ (f_X8_xOf nw (k + 1) n) then (f_X8_xOf nw (k + 1) n) else (f_X8_xOf nw k n)) < px then 0 else (if py < (if (f_X8_yOf nw (k + 1) n) ≤ (f_X8_yOf nw k n) then (f_X8_yOf nw (k + 1) n) else (f_X8_yOf nw k n)) then 0 else (if (if (f_X8_yOf nw k n) ≤ (f_X8_yOf nw (k + 1) n) then (f_X8_yOf nw (k + 1) n) else (f_X8_yOf nw k n)) < py then 0 else 1)))) := hF
        rw [hF] at hQ
        exact hQ _ _ _ _ dX8_isOn_127 hP hS
      refine lv_icmp_lt (tgt := 126) hx hb dX8_isOn_65 (by decide) (fun hc5 => ?_) (fun hc5 => ?_)
      · refine lv_iconst (v := 0) hx hb dX8_isOn_126 (by decide) ?_
        exact J19 _ _ _ _ ((if_pos hc5).symm) hP hD hS (lv_sub hl [0, 1, 2, 3, 4, 5, 6, 7] rfl)
      · refine lv_iload_n hx hb dX8_isOn_68 rfl (lv_at hl 2 rfl) ?_
        refine lv_iload hx hb dX8_isOn_69 (lv_at hl 4 rfl) ?_
        refine lv_iload hx hb dX8_isOn_71 (lv_at hl 6 rfl) ?_
        have J8 : ∀ (v7 : Int32) (H : Heap) (locs : List Loc) (ls : Array Slot), v7 = (if (f_X8_xOf nw k n) ≤ (f_X8_xOf nw (k + 1) n) then (f_X8_xOf nw (k + 1) n) else (f_X8_xOf nw k n)) → va_P D vwCl [(ta, .inr (8, [.ref m_now, .ref m_undone, .ref m_slots, .ref m_slotKind, .ref m_hasSlot, .ref m_sheetBits, .ref m_sheetSize, .ref m_sheets, .int (nI u), .int fi, .ref m_fresh, .long aa, .long bb, .long dd, .int (nI ro), .ref m_rootWhich, .int db, .ref m_signs, .ref m_atNought, .int (nI mn), .ref m_change, .ref m_table, .ref m_carried])), (m_now, .inl (cy 0, 29, .inl nw))] H → va_D A [(ta, .inr (8, [.ref m_now, .ref m_undone, .ref m_slots, .ref m_slotKind, .ref m_hasSlot, .ref m_sheetBits, .ref m_sheetSize, .ref m_sheets, .int (nI u), .int fi, .ref m_fresh, .long aa, .long bb, .long dd, .int (nI ro), .ref m_rootWhich, .int db, .ref m_signs, .ref m_atNought, .int (nI mn), .ref m_change, .ref m_table, .ref m_carried])), (m_now, .inl (cy 0, 29, .inl nw))] → va_S A s.heap H locs → lv_has ls 8 [(0, .ref ta), (1, .int (nI k)), (2, .int px), (3, .int py), (4, .int (f_X8_xOf nw k n)), (5, .int (f_X8_yOf nw k n)), (6, .int (f_X8_xOf nw (k + 1) n)), (7, .int (f_X8_yOf nw (k + 1) n))] → W p l e R s m args below meth c H locs 0 0 Q (F0 m 83 ls [.int v7, .int px]) := by
          clear hP hD hS hl
          intro v7 H locs ls ev7 hP hD hS hl
          subst ev7
          refine lv_icmp_gt (tgt := 126) hx hb dX8_isOn_83 (by decide) (fun hc9 => ?_) (fun hc9 => ?_)
          · refine lv_iconst (v := 0) hx hb dX8_isOn_126 (by decide) ?_
            exact J19 _ _ _ _ (((if_neg hc5).trans (if_pos hc9)).symm) hP hD hS (lv_sub hl [0, 1, 2, 3, 4, 5, 6, 7] rfl)
          · refine lv_iload_n hx hb dX8_isOn_86 rfl (lv_at hl 3 rfl) ?_
            refine lv_iload hx hb dX8_isOn_87 (lv_at hl 5 rfl) ?_
            refine lv_iload hx hb dX8_isOn_89 (lv_at hl 7 rfl) ?_
            have J12 : ∀ (v11 : Int32) (H : Heap) (locs : List Loc) (ls : Array Slot), v11 = (if (f_X8_yOf nw (k + 1) n) ≤ (f_X8_yOf nw k n) then (f_X8_yOf nw (k + 1) n) else (f_X8_yOf nw k n)) → va_P D vwCl [(ta, .inr (8, [.ref m_now, .ref m_undone, .ref m_slots, .ref m_slotKind, .ref m_hasSlot, .ref m_sheetBits, .ref m_sheetSize, .ref m_sheets, .int (nI u), .int fi, .ref m_fresh, .long aa, .long bb, .long dd, .int (nI ro), .ref m_rootWhich, .int db, .ref m_signs, .ref m_atNought, .int (nI mn), .ref m_change, .ref m_table, .ref m_carried])), (m_now, .inl (cy 0, 29, .inl nw))] H → va_D A [(ta, .inr (8, [.ref m_now, .ref m_undone, .ref m_slots, .ref m_slotKind, .ref m_hasSlot, .ref m_sheetBits, .ref m_sheetSize, .ref m_sheets, .int (nI u), .int fi, .ref m_fresh, .long aa, .long bb, .long dd, .int (nI ro), .ref m_rootWhich, .int db, .ref m_signs, .ref m_atNought, .int (nI mn), .ref m_change, .ref m_table, .ref m_carried])), (m_now, .inl (cy 0, 29, .inl nw))] → va_S A s.heap H locs → lv_has ls 8 [(0, .ref ta), (1, .int (nI k)), (2, .int px), (3, .int py), (4, .int (f_X8_xOf nw k n)), (5, .int (f_X8_yOf nw k n)), (6, .int (f_X8_xOf nw (k + 1) n)), (7, .int (f_X8_yOf nw (k + 1) n))] → W p l e R s m args below meth c H locs 0 0 Q (F0 m 101 ls [.int v11, .int py]) := by
              clear hP hD hS hl
              intro v11 H locs ls ev11 hP hD hS hl
              subst ev11
              refine lv_icmp_lt (tgt := 126) hx hb dX8_isOn_101 (by decide) (fun hc13 => ?_) (fun hc13 => ?_)
              · refine lv_iconst (v := 0) hx hb dX8_isOn_126 (by decide) ?_
                exact J19 _ _ _ _ (((if_neg hc5).trans ((if_neg hc9).trans (if_pos hc13))).symm) hP hD hS (lv_sub hl [0, 1, 2, 3, 4, 5, 6, 7] rfl)
              · refine lv_iload_n hx hb dX8_isOn_104 rfl (lv_at hl 3 rfl) ?_
                refine lv_iload hx hb dX8_isOn_105 (lv_at hl 5 rfl) ?_
                refine lv_iload hx hb dX8_isOn_107 (lv_at hl 7 rfl) ?_
                have J16 : ∀ (v15 : Int32) (H : Heap) (locs : List Loc) (ls : Array Slot), v15 = (if (f_X8_yOf nw k n) ≤ (f_X8_yOf nw (k + 1) n) then (f_X8_yOf nw (k + 1) n) else (f_X8_yOf nw k n)) → va_P D vwCl [(ta, .inr (8, [.ref m_now, .ref m_undone, .ref m_slots, .ref m_slotKind, .ref m_hasSlot, .ref m_sheetBits, .ref m_sheetSize, .ref m_sheets, .int (nI u), .int fi, .ref m_fresh, .long aa, .long bb, .long dd, .int (nI ro), .ref m_rootWhich, .int db, .ref m_signs, .ref m_atNought, .int (nI mn), .ref m_change, .ref m_table, .ref m_carried])), (m_now, .inl (cy 0, 29, .inl nw))] H → va_D A [(ta, .inr (8, [.ref m_now, .ref m_undone, .ref m_slots, .ref m_slotKind, .ref m_hasSlot, .ref m_sheetBits, .ref m_sheetSize, .ref m_sheets, .int (nI u), .int fi, .ref m_fresh, .long aa, .long bb, .long dd, .int (nI ro), .ref m_rootWhich, .int db, .ref m_signs, .ref m_atNought, .int (nI mn), .ref m_change, .ref m_table, .ref m_carried])), (m_now, .inl (cy 0, 29, .inl nw))] → va_S A s.heap H locs → lv_has ls 8 [(0, .ref ta), (1, .int (nI k)), (2, .int px), (3, .int py), (4, .int (f_X8_xOf nw k n)), (5, .int (f_X8_yOf nw k n)), (6, .int (f_X8_xOf nw (k + 1) n)), (7, .int (f_X8_yOf nw (k + 1) n))] → W p l e R s m args below meth c H locs 0 0 Q (F0 m 119 ls [.int v15, .int py]) := by
                  clear hP hD hS hl
                  intro v15 H locs ls ev15 hP hD hS hl
                  subst ev15
                  refine lv_icmp_gt (tgt := 126) hx hb dX8_isOn_119 (by decide) (fun hc17 => ?_) (fun hc17 => ?_)
                  · refine lv_iconst (v := 0) hx hb dX8_isOn_126 (by decide) ?_
                    exact J19 _ _ _ _ (((if_neg hc5).trans ((if_neg hc9).trans ((if_neg hc13).trans (if_pos hc17)))).symm) hP hD hS (lv_sub hl [0, 1, 2, 3, 4, 5, 6, 7] rfl)
                  · refine lv_iconst (v := 1) hx hb dX8_isOn_122 (by decide) ?_
                    refine lv_goto (tgt := 127) hx hb dX8_isOn_123 (by decide) ?_
                    exact J19 _ _ _ _ (((if_neg hc5).trans ((if_neg hc9).trans ((if_neg hc13).trans (if_neg hc17)))).symm) hP hD hS (lv_sub hl [0, 1, 2, 3, 4, 5, 6, 7] rfl)
                refine lv_icmp_le (tgt := 117) hx hb dX8_isOn_109 (by decide) (fun hc14 => ?_) (fun hc14 => ?_)
                · refine lv_iload hx hb dX8_isOn_117 (lv_at hl 7 rfl) ?_
                  exact J16 _ _ _ _ ((if_pos hc14).symm) hP hD hS (lv_sub hl [0, 1, 2, 3, 4, 5, 6, 7] rfl)
                · refine lv_iload hx hb dX8_isOn_112 (lv_at hl 5 rfl) ?_
                  refine lv_goto (tgt := 119) hx hb dX8_isOn_114 (by decide) ?_
                  exact J16 _ _ _ _ ((if_neg hc14).symm) hP hD hS (lv_sub hl [0, 1, 2, 3, 4, 5, 6, 7] rfl)
            refine lv_icmp_ge (tgt := 99) hx hb dX8_isOn_91 (by decide) (fun hc10 => ?_) (fun hc10 => ?_)
            · refine lv_iload hx hb dX8_isOn_99 (lv_at hl 7 rfl) ?_
              exact J12 _ _ _ _ ((if_pos hc10).symm) hP hD hS (lv_sub hl [0, 1, 2, 3, 4, 5, 6, 7] rfl)
            · refine lv_iload hx hb dX8_isOn_94 (lv_at hl 5 rfl) ?_
              refine lv_goto (tgt := 101) hx hb dX8_isOn_96 (by decide) ?_
              exact J12 _ _ _ _ ((if_neg hc10).symm) hP hD hS (lv_sub hl [0, 1, 2, 3, 4, 5, 6, 7] rfl)
        refine lv_icmp_le (tgt := 81) hx hb dX8_isOn_73 (by decide) (fun hc6 => ?_) (fun hc6 => ?_)
        · refine lv_iload hx hb dX8_isOn_81 (lv_at hl 6 rfl) ?_
          exact J8 _ _ _ _ ((if_pos hc6).symm) hP hD hS (lv_sub hl [0, 1, 2, 3, 4, 5, 6, 7] rfl)
        · refine lv_iload hx hb dX8_isOn_76 (lv_at hl 4 rfl) ?_
          refine lv_goto (tgt := 83) hx hb dX8_isOn_78 (by decide) ?_
          exact J8 _ _ _ _ ((if_neg hc6).symm) hP hD hS (lv_sub hl [0, 1, 2, 3, 4, 5, 6, 7] rfl)
    refine lv_icmp_ge (tgt := 63) hx hb dX8_isOn_55 (by decide) (fun hc2 => ?_) (fun hc2 => ?_)
    · refine lv_iload hx hb dX8_isOn_63 (lv_at hl 1 rfl) ?_
      exact J4 _ _ _ _ ((if_pos hc2).symm) hP hD hS (lv_sub hl [4, 5, 6, 7, 3, 2, 1, 0] rfl)
    · refine lv_iload hx hb dX8_isOn_58 (lv_at hl 3 rfl) ?_
      refine lv_goto (tgt := 65) hx hb dX8_isOn_60 (by decide) ?_
      exact J4 _ _ _ _ ((if_neg hc2).symm) hP hD hS (lv_sub hl [4, 5, 6, 7, 3, 2, 1, 0] rfl)
  · replace hF := hF.trans (if_neg hc1)
    refine lv_iconst (v := 0) hx hb dX8_isOn_48 (by decide) ?_
    have hF : f_X8_isOn nw k px py n = 0 := hF
    rw [hF] at hQ
    exact hQ _ _ _ _ dX8_isOn_49 hP hS

def f_X8_doMeet (nw : Nat → Int32) (j : Nat) (k : Nat) (n : Nat) : Int32 := (if (f_X8_isOn nw j (f_X8_xOf nw k n) (f_X8_yOf nw k n) n) = 0 then (if (f_X8_isOn nw j (f_X8_xOf nw (k + 1) n) (f_X8_yOf nw (k + 1) n) n) = 0 then (if (f_X8_isOn nw k (f_X8_xOf nw j n) (f_X8_yOf nw j n) n) = 0 then (if (f_X8_isOn nw k (f_X8_xOf nw (j + 1) n) (f_X8_yOf nw (j + 1) n) n) = 0 then (if 0 ≤ ((f_X8_turn (f_X8_xOf nw j n) (f_X8_yOf nw j n) (f_X8_xOf nw (j + 1) n) (f_X8_yOf nw (j + 1) n) (f_X8_xOf nw k n) (f_X8_yOf nw k n)) * (f_X8_turn (f_X8_xOf nw j n) (f_X8_yOf nw j n) (f_X8_xOf nw (j + 1) n) (f_X8_yOf nw (j + 1) n) (f_X8_xOf nw (k + 1) n) (f_X8_yOf nw (k + 1) n))) then 0 else (if 0 ≤ ((f_X8_turn (f_X8_xOf nw k n) (f_X8_yOf nw k n) (f_X8_xOf nw (k + 1) n) (f_X8_yOf nw (k + 1) n) (f_X8_xOf nw j n) (f_X8_yOf nw j n)) * (f_X8_turn (f_X8_xOf nw k n) (f_X8_yOf nw k n) (f_X8_xOf nw (k + 1) n) (f_X8_yOf nw (k + 1) n) (f_X8_xOf nw (j + 1) n) (f_X8_yOf nw (j + 1) n))) then 0 else 1)) else 1) else 1) else 1) else 1)
theorem b_X8_doMeet (nw : Nat → Int32) (j : Nat) (k : Nat) (n : Nat) : (f_X8_doMeet nw j k n) = 0 ∨ (f_X8_doMeet nw j k n) = 1 := by
  unfold f_X8_doMeet; (repeat' split) <;> first | exact Or.inl (by with_reducible rfl) | exact Or.inr (by with_reducible rfl) | with_reducible exact b_X8_isOn _ _ _ _ _
set_option maxHeartbeats 400000000 in
set_option maxRecDepth 100000 in
theorem c_X8_doMeet (l : Launch) (D : va_G) (cy : Nat → ClassId) (ta : Nat) (m_now : Nat) (m_undone : Nat) (m_slots : Nat) (m_slotKind : Nat) (m_hasSlot : Nat) (m_sheetBits : Nat) (m_sheetSize : Nat) (m_sheets : Nat) (m_fresh : Nat) (m_rootWhich : Nat) (m_signs : Nat) (m_atNought : Nat) (m_change : Nat) (m_table : Nat) (m_carried : Nat) (nw : Nat → Int32) (u : Nat) (fi : Int32) (aa : Int64) (bb : Int64) (dd : Int64) (ro : Nat) (db : Int32) (mn : Nat) (j : Nat) (k : Nat) (n : Nat) (hn12 : nw 12 = nI n) (hn : n ≤ 8) (hn0 : 0 < n) (hj : j < 62) (hk : k < 62) : yk_Ci l D vwCl (yk_ty cy) yX8_doMeet wsX8_doMeet 3 68 [.ref ta, .int (nI j), .int (nI k)] [(ta, .inr (8, [.ref m_now, .ref m_undone, .ref m_slots, .ref m_slotKind, .ref m_hasSlot, .ref m_sheetBits, .ref m_sheetSize, .ref m_sheets, .int (nI u), .int fi, .ref m_fresh, .long aa, .long bb, .long dd, .int (nI ro), .ref m_rootWhich, .int db, .ref m_signs, .ref m_atNought, .int (nI mn), .ref m_change, .ref m_table, .ref m_carried])), (m_now, .inl (cy 0, 29, .inl nw))] (f_X8_doMeet nw j k n) [(ta, .inr (8, [.ref m_now, .ref m_undone, .ref m_slots, .ref m_slotKind, .ref m_hasSlot, .ref m_sheetBits, .ref m_sheetSize, .ref m_sheets, .int (nI u), .int fi, .ref m_fresh, .long aa, .long bb, .long dd, .int (nI ro), .ref m_rootWhich, .int db, .ref m_signs, .ref m_atNought, .int (nI mn), .ref m_change, .ref m_table, .ref m_carried])), (m_now, .inl (cy 0, 29, .inl nw))] := by
  refine yk_eI (cc := cX8_doMeet) (maxL := 7) (by decide) rfl (Nat.le_of_ble_eq_true rfl) (yk_nb (b_X8_doMeet nw j k n)) ?_
  intro p e R s m args below meth c A Q ls H locs hx hb hml hown hts hRf hRl hA hK hG hP hD hS hl hQ
  have hP : va_P D vwCl [(ta, .inr (8, [.ref m_now, .ref m_undone, .ref m_slots, .ref m_slotKind, .ref m_hasSlot, .ref m_sheetBits, .ref m_sheetSize, .ref m_sheets, .int (nI u), .int fi, .ref m_fresh, .long aa, .long bb, .long dd, .int (nI ro), .ref m_rootWhich, .int db, .ref m_signs, .ref m_atNought, .int (nI mn), .ref m_change, .ref m_table, .ref m_carried])), (m_now, .inl (cy 0, 29, .inl nw))] H := hP
  have hl : lv_has ls 7 [(0, .ref ta), (1, .int (nI j)), (2, .int (nI k))] := hl
  have hown : s.vm.findClass RX8 = some m.cls := hown
  have hF : (f_X8_doMeet nw j k n) = (f_X8_doMeet nw j k n) := rfl
  refine lv_aload_n hx hb dX8_doMeet_0 rfl (lv_at hl 0 rfl) ?_
  refine lv_iload_n hx hb dX8_doMeet_1 rfl (lv_at hl 1 rfl) ?_
  refine lv_aload_n hx hb dX8_doMeet_2 rfl (lv_at hl 0 rfl) ?_
  refine lv_iload_n hx hb dX8_doMeet_3 rfl (lv_at hl 2 rfl) ?_
  refine yk_i [0, 1] (va_runV (As := [.int (nI k)]) (rest := [.int (nI j), .ref ta]) ⟨hx, hb, hml, hown, hts⟩ (c_X8_xOf l D cy ta m_now m_undone m_slots m_slotKind m_hasSlot m_sheetBits m_sheetSize m_sheets m_fresh m_rootWhich m_signs m_atNought m_change m_table m_carried nw u fi aa bb dd ro db mn k n (by first | assumption | omega) (by first | assumption | omega) (by first | assumption | omega) (by first | assumption | omega) H.size) (cwV 1 hts gX8_doMeet_X8_xOf rfl rfl rfl hv_X8_xOf (yk_room hRf hRl rfl rfl)) (yk_pv (q := (RX8, TX8, 23)) hG hA hS hK hP hD [0, 1] (by decide +kernel) rfl rfl rfl) rfl rfl hl.1 rfl (lv_room (Nat.le_of_ble_eq_true rfl)) dX8_doMeet_4 ⟨Nat.zero_le _, Nat.zero_le _⟩) hP hD hS hA rfl rfl (fun H locs hP9 hD9 hS9 => ?_)
  replace hP : va_P D vwCl [(ta, .inr (8, [.ref m_now, .ref m_undone, .ref m_slots, .ref m_slotKind, .ref m_hasSlot, .ref m_sheetBits, .ref m_sheetSize, .ref m_sheets, .int (nI u), .int fi, .ref m_fresh, .long aa, .long bb, .long dd, .int (nI ro), .ref m_rootWhich, .int db, .ref m_signs, .ref m_atNought, .int (nI mn), .ref m_change, .ref m_table, .ref m_carried])), (m_now, .inl (cy 0, 29, .inl nw))] H := hP9
  replace hD : va_D A [(ta, .inr (8, [.ref m_now, .ref m_undone, .ref m_slots, .ref m_slotKind, .ref m_hasSlot, .ref m_sheetBits, .ref m_sheetSize, .ref m_sheets, .int (nI u), .int fi, .ref m_fresh, .long aa, .long bb, .long dd, .int (nI ro), .ref m_rootWhich, .int db, .ref m_signs, .ref m_atNought, .int (nI mn), .ref m_change, .ref m_table, .ref m_carried])), (m_now, .inl (cy 0, 29, .inl nw))] := hD9
  replace hS := hS9
  clear hP9 hD9 hS9
  refine lv_aload_n hx hb dX8_doMeet_7 rfl (lv_at hl 0 rfl) ?_
  refine lv_iload_n hx hb dX8_doMeet_8 rfl (lv_at hl 2 rfl) ?_
  refine yk_i [0, 1] (va_runV (As := [.int (nI k)]) (rest := [.int (f_X8_xOf nw k n), .int (nI j), .ref ta]) ⟨hx, hb, hml, hown, hts⟩ (c_X8_yOf l D cy ta m_now m_undone m_slots m_slotKind m_hasSlot m_sheetBits m_sheetSize m_sheets m_fresh m_rootWhich m_signs m_atNought m_change m_table m_carried nw u fi aa bb dd ro db mn k n (by first | assumption | omega) (by first | assumption | omega) (by first | assumption | omega) (by first | assumption | omega) H.size) (cwV 1 hts gX8_doMeet_X8_yOf rfl rfl rfl hv_X8_yOf (yk_room hRf hRl rfl rfl)) (yk_pv (q := (RX8, TX8, 23)) hG hA hS hK hP hD [0, 1] (by decide +kernel) rfl rfl rfl) rfl rfl hl.1 rfl (lv_room (Nat.le_of_ble_eq_true rfl)) dX8_doMeet_9 ⟨Nat.zero_le _, Nat.zero_le _⟩) hP hD hS hA rfl rfl (fun H locs hP9 hD9 hS9 => ?_)
  replace hP : va_P D vwCl [(ta, .inr (8, [.ref m_now, .ref m_undone, .ref m_slots, .ref m_slotKind, .ref m_hasSlot, .ref m_sheetBits, .ref m_sheetSize, .ref m_sheets, .int (nI u), .int fi, .ref m_fresh, .long aa, .long bb, .long dd, .int (nI ro), .ref m_rootWhich, .int db, .ref m_signs, .ref m_atNought, .int (nI mn), .ref m_change, .ref m_table, .ref m_carried])), (m_now, .inl (cy 0, 29, .inl nw))] H := hP9
  replace hD : va_D A [(ta, .inr (8, [.ref m_now, .ref m_undone, .ref m_slots, .ref m_slotKind, .ref m_hasSlot, .ref m_sheetBits, .ref m_sheetSize, .ref m_sheets, .int (nI u), .int fi, .ref m_fresh, .long aa, .long bb, .long dd, .int (nI ro), .ref m_rootWhich, .int db, .ref m_signs, .ref m_atNought, .int (nI mn), .ref m_change, .ref m_table, .ref m_carried])), (m_now, .inl (cy 0, 29, .inl nw))] := hD9
  replace hS := hS9
  clear hP9 hD9 hS9
  refine yk_i [0, 1] (va_runV (As := [.int (nI j), .int (f_X8_xOf nw k n), .int (f_X8_yOf nw k n)]) (rest := []) ⟨hx, hb, hml, hown, hts⟩ (c_X8_isOn l D cy ta m_now m_undone m_slots m_slotKind m_hasSlot m_sheetBits m_sheetSize m_sheets m_fresh m_rootWhich m_signs m_atNought m_change m_table m_carried nw u fi aa bb dd ro db mn j (f_X8_xOf nw k n) (f_X8_yOf nw k n) n (by first | assumption | omega) (by first | assumption | omega) (by first | assumption | omega) (by first | assumption | omega) H.size) (cwV 3 hts gX8_doMeet_X8_isOn rfl rfl rfl hv_X8_isOn (yk_room hRf hRl rfl rfl)) (yk_pv (q := (RX8, TX8, 23)) hG hA hS hK hP hD [0, 1] (by decide +kernel) rfl rfl rfl) rfl rfl hl.1 rfl (lv_room (Nat.le_of_ble_eq_true rfl)) dX8_doMeet_12 ⟨Nat.zero_le _, Nat.zero_le _⟩) hP hD hS hA rfl rfl (fun H locs hP9 hD9 hS9 => ?_)
  replace hP : va_P D vwCl [(ta, .inr (8, [.ref m_now, .ref m_undone, .ref m_slots, .ref m_slotKind, .ref m_hasSlot, .ref m_sheetBits, .ref m_sheetSize, .ref m_sheets, .int (nI u), .int fi, .ref m_fresh, .long aa, .long bb, .long dd, .int (nI ro), .ref m_rootWhich, .int db, .ref m_signs, .ref m_atNought, .int (nI mn), .ref m_change, .ref m_table, .ref m_carried])), (m_now, .inl (cy 0, 29, .inl nw))] H := hP9
  replace hD : va_D A [(ta, .inr (8, [.ref m_now, .ref m_undone, .ref m_slots, .ref m_slotKind, .ref m_hasSlot, .ref m_sheetBits, .ref m_sheetSize, .ref m_sheets, .int (nI u), .int fi, .ref m_fresh, .long aa, .long bb, .long dd, .int (nI ro), .ref m_rootWhich, .int db, .ref m_signs, .ref m_atNought, .int (nI mn), .ref m_change, .ref m_table, .ref m_carried])), (m_now, .inl (cy 0, 29, .inl nw))] := hD9
  replace hS := hS9
  clear hP9 hD9 hS9
  refine lv_if_ne (tgt := 80) hx hb dX8_doMeet_15 (by decide) (fun hc1 => ?_) (fun hc1 => ?_)
  · replace hF := hF.trans (if_neg hc1)
    refine lv_iconst (v := 1) hx hb dX8_doMeet_80 (by decide) ?_
    have hF : f_X8_doMeet nw j k n = 1 := hF
    rw [hF] at hQ
    exact hQ _ _ _ _ dX8_doMeet_81 hP hS
  · replace hF := hF.trans (if_pos hc1)
    refine lv_aload_n hx hb dX8_doMeet_18 rfl (lv_at hl 0 rfl) ?_
    refine lv_iload_n hx hb dX8_doMeet_19 rfl (lv_at hl 1 rfl) ?_
    refine lv_aload_n hx hb dX8_doMeet_20 rfl (lv_at hl 0 rfl) ?_
    refine lv_iload_n hx hb dX8_doMeet_21 rfl (lv_at hl 2 rfl) ?_
    refine lv_iconst (v := 1) hx hb dX8_doMeet_22 (by decide) ?_
    refine lv_iadd hx hb dX8_doMeet_23 ?_
    refine yk_ti (y := nI (k + 1)) (nI_add k 1) ?_
    refine yk_i [0, 1] (va_runV (As := [.int (nI (k + 1))]) (rest := [.int (nI j), .ref ta]) ⟨hx, hb, hml, hown, hts⟩ (c_X8_xOf l D cy ta m_now m_undone m_slots m_slotKind m_hasSlot m_sheetBits m_sheetSize m_sheets m_fresh m_rootWhich m_signs m_atNought m_change m_table m_carried nw u fi aa bb dd ro db mn (k + 1) n (by first | assumption | omega) (by first | assumption | omega) (by first | assumption | omega) (by first | assumption | omega) H.size) (cwV 1 hts gX8_doMeet_X8_xOf rfl rfl rfl hv_X8_xOf (yk_room hRf hRl rfl rfl)) (yk_pv (q := (RX8, TX8, 23)) hG hA hS hK hP hD [0, 1] (by decide +kernel) rfl rfl rfl) rfl rfl hl.1 rfl (lv_room (Nat.le_of_ble_eq_true rfl)) dX8_doMeet_24 ⟨Nat.zero_le _, Nat.zero_le _⟩) hP hD hS hA rfl rfl (fun H locs hP9 hD9 hS9 => ?_)
    replace hP : va_P D vwCl [(ta, .inr (8, [.ref m_now, .ref m_undone, .ref m_slots, .ref m_slotKind, .ref m_hasSlot, .ref m_sheetBits, .ref m_sheetSize, .ref m_sheets, .int (nI u), .int fi, .ref m_fresh, .long aa, .long bb, .long dd, .int (nI ro), .ref m_rootWhich, .int db, .ref m_signs, .ref m_atNought, .int (nI mn), .ref m_change, .ref m_table, .ref m_carried])), (m_now, .inl (cy 0, 29, .inl nw))] H := hP9
    replace hD : va_D A [(ta, .inr (8, [.ref m_now, .ref m_undone, .ref m_slots, .ref m_slotKind, .ref m_hasSlot, .ref m_sheetBits, .ref m_sheetSize, .ref m_sheets, .int (nI u), .int fi, .ref m_fresh, .long aa, .long bb, .long dd, .int (nI ro), .ref m_rootWhich, .int db, .ref m_signs, .ref m_atNought, .int (nI mn), .ref m_change, .ref m_table, .ref m_carried])), (m_now, .inl (cy 0, 29, .inl nw))] := hD9
    replace hS := hS9
    clear hP9 hD9 hS9
    refine lv_aload_n hx hb dX8_doMeet_27 rfl (lv_at hl 0 rfl) ?_
    refine lv_iload_n hx hb dX8_doMeet_28 rfl (lv_at hl 2 rfl) ?_
    refine lv_iconst (v := 1) hx hb dX8_doMeet_29 (by decide) ?_
    refine lv_iadd hx hb dX8_doMeet_30 ?_
    refine yk_ti (y := nI (k + 1)) (nI_add k 1) ?_
    refine yk_i [0, 1] (va_runV (As := [.int (nI (k + 1))]) (rest := [.int (f_X8_xOf nw (k + 1) n), .int (nI j), .ref ta]) ⟨hx, hb, hml, hown, hts⟩ (c_X8_yOf l D cy ta m_now m_undone m_slots m_slotKind m_hasSlot m_sheetBits m_sheetSize m_sheets m_fresh m_rootWhich m_signs m_atNought m_change m_table m_carried nw u fi aa bb dd ro db mn (k + 1) n (by first | assumption | omega) (by first | assumption | omega) (by first | assumption | omega) (by first | assumption | omega) H.size) (cwV 1 hts gX8_doMeet_X8_yOf rfl rfl rfl hv_X8_yOf (yk_room hRf hRl rfl rfl)) (yk_pv (q := (RX8, TX8, 23)) hG hA hS hK hP hD [0, 1] (by decide +kernel) rfl rfl rfl) rfl rfl hl.1 rfl (lv_room (Nat.le_of_ble_eq_true rfl)) dX8_doMeet_31 ⟨Nat.zero_le _, Nat.zero_le _⟩) hP hD hS hA rfl rfl (fun H locs hP9 hD9 hS9 => ?_)
    replace hP : va_P D vwCl [(ta, .inr (8, [.ref m_now, .ref m_undone, .ref m_slots, .ref m_slotKind, .ref m_hasSlot, .ref m_sheetBits, .ref m_sheetSize, .ref m_sheets, .int (nI u), .int fi, .ref m_fresh, .long aa, .long bb, .long dd, .int (nI ro), .ref m_rootWhich, .int db, .ref m_signs, .ref m_atNought, .int (nI mn), .ref m_change, .ref m_table, .ref m_carried])), (m_now, .inl (cy 0, 29, .inl nw))] H := hP9
    replace hD : va_D A [(ta, .inr (8, [.ref m_now, .ref m_undone, .ref m_slots, .ref m_slotKind, .ref m_hasSlot, .ref m_sheetBits, .ref m_sheetSize, .ref m_sheets, .int (nI u), .int fi, .ref m_fresh, .long aa, .long bb, .long dd, .int (nI ro), .ref m_rootWhich, .int db, .ref m_signs, .ref m_atNought, .int (nI mn), .ref m_change, .ref m_table, .ref m_carried])), (m_now, .inl (cy 0, 29, .inl nw))] := hD9
    replace hS := hS9
    clear hP9 hD9 hS9
    refine yk_i [0, 1] (va_runV (As := [.int (nI j), .int (f_X8_xOf nw (k + 1) n), .int (f_X8_yOf nw (k + 1) n)]) (rest := []) ⟨hx, hb, hml, hown, hts⟩ (c_X8_isOn l D cy ta m_now m_undone m_slots m_slotKind m_hasSlot m_sheetBits m_sheetSize m_sheets m_fresh m_rootWhich m_signs m_atNought m_change m_table m_carried nw u fi aa bb dd ro db mn j (f_X8_xOf nw (k + 1) n) (f_X8_yOf nw (k + 1) n) n (by first | assumption | omega) (by first | assumption | omega) (by first | assumption | omega) (by first | assumption | omega) H.size) (cwV 3 hts gX8_doMeet_X8_isOn rfl rfl rfl hv_X8_isOn (yk_room hRf hRl rfl rfl)) (yk_pv (q := (RX8, TX8, 23)) hG hA hS hK hP hD [0, 1] (by decide +kernel) rfl rfl rfl) rfl rfl hl.1 rfl (lv_room (Nat.le_of_ble_eq_true rfl)) dX8_doMeet_34 ⟨Nat.zero_le _, Nat.zero_le _⟩) hP hD hS hA rfl rfl (fun H locs hP9 hD9 hS9 => ?_)
    replace hP : va_P D vwCl [(ta, .inr (8, [.ref m_now, .ref m_undone, .ref m_slots, .ref m_slotKind, .ref m_hasSlot, .ref m_sheetBits, .ref m_sheetSize, .ref m_sheets, .int (nI u), .int fi, .ref m_fresh, .long aa, .long bb, .long dd, .int (nI ro), .ref m_rootWhich, .int db, .ref m_signs, .ref m_atNought, .int (nI mn), .ref m_change, .ref m_table, .ref m_carried])), (m_now, .inl (cy 0, 29, .inl nw))] H := hP9
    replace hD : va_D A [(ta, .inr (8, [.ref m_now, .ref m_undone, .ref m_slots, .ref m_slotKind, .ref m_hasSlot, .ref m_sheetBits, .ref m_sheetSize, .ref m_sheets, .int (nI u), .int fi, .ref m_fresh, .long aa, .long bb, .long dd, .int (nI ro), .ref m_rootWhich, .int db, .ref m_signs, .ref m_atNought, .int (nI mn), .ref m_change, .ref m_table, .ref m_carried])), (m_now, .inl (cy 0, 29, .inl nw))] := hD9
    replace hS := hS9
    clear hP9 hD9 hS9
    refine lv_if_ne (tgt := 80) hx hb dX8_doMeet_37 (by decide) (fun hc2 => ?_) (fun hc2 => ?_)
    · replace hF := hF.trans (if_neg hc2)
      refine lv_iconst (v := 1) hx hb dX8_doMeet_80 (by decide) ?_
      have hF : f_X8_doMeet nw j k n = 1 := hF
      rw [hF] at hQ
      exact hQ _ _ _ _ dX8_doMeet_81 hP hS
    · replace hF := hF.trans (if_pos hc2)
      refine lv_aload_n hx hb dX8_doMeet_40 rfl (lv_at hl 0 rfl) ?_
      refine lv_iload_n hx hb dX8_doMeet_41 rfl (lv_at hl 2 rfl) ?_
      refine lv_aload_n hx hb dX8_doMeet_42 rfl (lv_at hl 0 rfl) ?_
      refine lv_iload_n hx hb dX8_doMeet_43 rfl (lv_at hl 1 rfl) ?_
      refine yk_i [0, 1] (va_runV (As := [.int (nI j)]) (rest := [.int (nI k), .ref ta]) ⟨hx, hb, hml, hown, hts⟩ (c_X8_xOf l D cy ta m_now m_undone m_slots m_slotKind m_hasSlot m_sheetBits m_sheetSize m_sheets m_fresh m_rootWhich m_signs m_atNought m_change m_table m_carried nw u fi aa bb dd ro db mn j n (by first | assumption | omega) (by first | assumption | omega) (by first | assumption | omega) (by first | assumption | omega) H.size) (cwV 1 hts gX8_doMeet_X8_xOf rfl rfl rfl hv_X8_xOf (yk_room hRf hRl rfl rfl)) (yk_pv (q := (RX8, TX8, 23)) hG hA hS hK hP hD [0, 1] (by decide +kernel) rfl rfl rfl) rfl rfl hl.1 rfl (lv_room (Nat.le_of_ble_eq_true rfl)) dX8_doMeet_44 ⟨Nat.zero_le _, Nat.zero_le _⟩) hP hD hS hA rfl rfl (fun H locs hP9 hD9 hS9 => ?_)
      replace hP : va_P D vwCl [(ta, .inr (8, [.ref m_now, .ref m_undone, .ref m_slots, .ref m_slotKind, .ref m_hasSlot, .ref m_sheetBits, .ref m_sheetSize, .ref m_sheets, .int (nI u), .int fi, .ref m_fresh, .long aa, .long bb, .long dd, .int (nI ro), .ref m_rootWhich, .int db, .ref m_signs, .ref m_atNought, .int (nI mn), .ref m_change, .ref m_table, .ref m_carried])), (m_now, .inl (cy 0, 29, .inl nw))] H := hP9
      replace hD : va_D A [(ta, .inr (8, [.ref m_now, .ref m_undone, .ref m_slots, .ref m_slotKind, .ref m_hasSlot, .ref m_sheetBits, .ref m_sheetSize, .ref m_sheets, .int (nI u), .int fi, .ref m_fresh, .long aa, .long bb, .long dd, .int (nI ro), .ref m_rootWhich, .int db, .ref m_signs, .ref m_atNought, .int (nI mn), .ref m_change, .ref m_table, .ref m_carried])), (m_now, .inl (cy 0, 29, .inl nw))] := hD9
      replace hS := hS9
      clear hP9 hD9 hS9
      refine lv_aload_n hx hb dX8_doMeet_47 rfl (lv_at hl 0 rfl) ?_
      refine lv_iload_n hx hb dX8_doMeet_48 rfl (lv_at hl 1 rfl) ?_
      refine yk_i [0, 1] (va_runV (As := [.int (nI j)]) (rest := [.int (f_X8_xOf nw j n), .int (nI k), .ref ta]) ⟨hx, hb, hml, hown, hts⟩ (c_X8_yOf l D cy ta m_now m_undone m_slots m_slotKind m_hasSlot m_sheetBits m_sheetSize m_sheets m_fresh m_rootWhich m_signs m_atNought m_change m_table m_carried nw u fi aa bb dd ro db mn j n (by first | assumption | omega) (by first | assumption | omega) (by first | assumption | omega) (by first | assumption | omega) H.size) (cwV 1 hts gX8_doMeet_X8_yOf rfl rfl rfl hv_X8_yOf (yk_room hRf hRl rfl rfl)) (yk_pv (q := (RX8, TX8, 23)) hG hA hS hK hP hD [0, 1] (by decide +kernel) rfl rfl rfl) rfl rfl hl.1 rfl (lv_room (Nat.le_of_ble_eq_true rfl)) dX8_doMeet_49 ⟨Nat.zero_le _, Nat.zero_le _⟩) hP hD hS hA rfl rfl (fun H locs hP9 hD9 hS9 => ?_)
      replace hP : va_P D vwCl [(ta, .inr (8, [.ref m_now, .ref m_undone, .ref m_slots, .ref m_slotKind, .ref m_hasSlot, .ref m_sheetBits, .ref m_sheetSize, .ref m_sheets, .int (nI u), .int fi, .ref m_fresh, .long aa, .long bb, .long dd, .int (nI ro), .ref m_rootWhich, .int db, .ref m_signs, .ref m_atNought, .int (nI mn), .ref m_change, .ref m_table, .ref m_carried])), (m_now, .inl (cy 0, 29, .inl nw))] H := hP9
      replace hD : va_D A [(ta, .inr (8, [.ref m_now, .ref m_undone, .ref m_slots, .ref m_slotKind, .ref m_hasSlot, .ref m_sheetBits, .ref m_sheetSize, .ref m_sheets, .int (nI u), .int fi, .ref m_fresh, .long aa, .long bb, .long dd, .int (nI ro), .ref m_rootWhich, .int db, .ref m_signs, .ref m_atNought, .int (nI mn), .ref m_change, .ref m_table, .ref m_carried])), (m_now, .inl (cy 0, 29, .inl nw))] := hD9
      replace hS := hS9
      clear hP9 hD9 hS9
      refine yk_i [0, 1] (va_runV (As := [.int (nI k), .int (f_X8_xOf nw j n), .int (f_X8_yOf nw j n)]) (rest := []) ⟨hx, hb, hml, hown, hts⟩ (c_X8_isOn l D cy ta m_now m_undone m_slots m_slotKind m_hasSlot m_sheetBits m_sheetSize m_sheets m_fresh m_rootWhich m_signs m_atNought m_change m_table m_carried nw u fi aa bb dd ro db mn k (f_X8_xOf nw j n) (f_X8_yOf nw j n) n (by first | assumption | omega) (by first | assumption | omega) (by first | assumption | omega) (by first | assumption | omega) H.size) (cwV 3 hts gX8_doMeet_X8_isOn rfl rfl rfl hv_X8_isOn (yk_room hRf hRl rfl rfl)) (yk_pv (q := (RX8, TX8, 23)) hG hA hS hK hP hD [0, 1] (by decide +kernel) rfl rfl rfl) rfl rfl hl.1 rfl (lv_room (Nat.le_of_ble_eq_true rfl)) dX8_doMeet_52 ⟨Nat.zero_le _, Nat.zero_le _⟩) hP hD hS hA rfl rfl (fun H locs hP9 hD9 hS9 => ?_)
      replace hP : va_P D vwCl [(ta, .inr (8, [.ref m_now, .ref m_undone, .ref m_slots, .ref m_slotKind, .ref m_hasSlot, .ref m_sheetBits, .ref m_sheetSize, .ref m_sheets, .int (nI u), .int fi, .ref m_fresh, .long aa, .long bb, .long dd, .int (nI ro), .ref m_rootWhich, .int db, .ref m_signs, .ref m_atNought, .int (nI mn), .ref m_change, .ref m_table, .ref m_carried])), (m_now, .inl (cy 0, 29, .inl nw))] H := hP9
      replace hD : va_D A [(ta, .inr (8, [.ref m_now, .ref m_undone, .ref m_slots, .ref m_slotKind, .ref m_hasSlot, .ref m_sheetBits, .ref m_sheetSize, .ref m_sheets, .int (nI u), .int fi, .ref m_fresh, .long aa, .long bb, .long dd, .int (nI ro), .ref m_rootWhich, .int db, .ref m_signs, .ref m_atNought, .int (nI mn), .ref m_change, .ref m_table, .ref m_carried])), (m_now, .inl (cy 0, 29, .inl nw))] := hD9
      replace hS := hS9
      clear hP9 hD9 hS9
      refine lv_if_ne (tgt := 80) hx hb dX8_doMeet_55 (by decide) (fun hc3 => ?_) (fun hc3 => ?_)
      · replace hF := hF.trans (if_neg hc3)
        refine lv_iconst (v := 1) hx hb dX8_doMeet_80 (by decide) ?_
        have hF : f_X8_doMeet nw j k n = 1 := hF
        rw [hF] at hQ
        exact hQ _ _ _ _ dX8_doMeet_81 hP hS
      · replace hF := hF.trans (if_pos hc3)
        refine lv_aload_n hx hb dX8_doMeet_58 rfl (lv_at hl 0 rfl) ?_
        refine lv_iload_n hx hb dX8_doMeet_59 rfl (lv_at hl 2 rfl) ?_
        refine lv_aload_n hx hb dX8_doMeet_60 rfl (lv_at hl 0 rfl) ?_
        refine lv_iload_n hx hb dX8_doMeet_61 rfl (lv_at hl 1 rfl) ?_
        refine lv_iconst (v := 1) hx hb dX8_doMeet_62 (by decide) ?_
        refine lv_iadd hx hb dX8_doMeet_63 ?_
        refine yk_ti (y := nI (j + 1)) (nI_add j 1) ?_
        refine yk_i [0, 1] (va_runV (As := [.int (nI (j + 1))]) (rest := [.int (nI k), .ref ta]) ⟨hx, hb, hml, hown, hts⟩ (c_X8_xOf l D cy ta m_now m_undone m_slots m_slotKind m_hasSlot m_sheetBits m_sheetSize m_sheets m_fresh m_rootWhich m_signs m_atNought m_change m_table m_carried nw u fi aa bb dd ro db mn (j + 1) n (by first | assumption | omega) (by first | assumption | omega) (by first | assumption | omega) (by first | assumption | omega) H.size) (cwV 1 hts gX8_doMeet_X8_xOf rfl rfl rfl hv_X8_xOf (yk_room hRf hRl rfl rfl)) (yk_pv (q := (RX8, TX8, 23)) hG hA hS hK hP hD [0, 1] (by decide +kernel) rfl rfl rfl) rfl rfl hl.1 rfl (lv_room (Nat.le_of_ble_eq_true rfl)) dX8_doMeet_64 ⟨Nat.zero_le _, Nat.zero_le _⟩) hP hD hS hA rfl rfl (fun H locs hP9 hD9 hS9 => ?_)
        replace hP : va_P D vwCl [(ta, .inr (8, [.ref m_now, .ref m_undone, .ref m_slots, .ref m_slotKind, .ref m_hasSlot, .ref m_sheetBits, .ref m_sheetSize, .ref m_sheets, .int (nI u), .int fi, .ref m_fresh, .long aa, .long bb, .long dd, .int (nI ro), .ref m_rootWhich, .int db, .ref m_signs, .ref m_atNought, .int (nI mn), .ref m_change, .ref m_table, .ref m_carried])), (m_now, .inl (cy 0, 29, .inl nw))] H := hP9
        replace hD : va_D A [(ta, .inr (8, [.ref m_now, .ref m_undone, .ref m_slots, .ref m_slotKind, .ref m_hasSlot, .ref m_sheetBits, .ref m_sheetSize, .ref m_sheets, .int (nI u), .int fi, .ref m_fresh, .long aa, .long bb, .long dd, .int (nI ro), .ref m_rootWhich, .int db, .ref m_signs, .ref m_atNought, .int (nI mn), .ref m_change, .ref m_table, .ref m_carried])), (m_now, .inl (cy 0, 29, .inl nw))] := hD9
        replace hS := hS9
        clear hP9 hD9 hS9
        refine lv_aload_n hx hb dX8_doMeet_67 rfl (lv_at hl 0 rfl) ?_
        refine lv_iload_n hx hb dX8_doMeet_68 rfl (lv_at hl 1 rfl) ?_
        refine lv_iconst (v := 1) hx hb dX8_doMeet_69 (by decide) ?_
        refine lv_iadd hx hb dX8_doMeet_70 ?_
        refine yk_ti (y := nI (j + 1)) (nI_add j 1) ?_
        refine yk_i [0, 1] (va_runV (As := [.int (nI (j + 1))]) (rest := [.int (f_X8_xOf nw (j + 1) n), .int (nI k), .ref ta]) ⟨hx, hb, hml, hown, hts⟩ (c_X8_yOf l D cy ta m_now m_undone m_slots m_slotKind m_hasSlot m_sheetBits m_sheetSize m_sheets m_fresh m_rootWhich m_signs m_atNought m_change m_table m_carried nw u fi aa bb dd ro db mn (j + 1) n (by first | assumption | omega) (by first | assumption | omega) (by first | assumption | omega) (by first | assumption | omega) H.size) (cwV 1 hts gX8_doMeet_X8_yOf rfl rfl rfl hv_X8_yOf (yk_room hRf hRl rfl rfl)) (yk_pv (q := (RX8, TX8, 23)) hG hA hS hK hP hD [0, 1] (by decide +kernel) rfl rfl rfl) rfl rfl hl.1 rfl (lv_room (Nat.le_of_ble_eq_true rfl)) dX8_doMeet_71 ⟨Nat.zero_le _, Nat.zero_le _⟩) hP hD hS hA rfl rfl (fun H locs hP9 hD9 hS9 => ?_)
        replace hP : va_P D vwCl [(ta, .inr (8, [.ref m_now, .ref m_undone, .ref m_slots, .ref m_slotKind, .ref m_hasSlot, .ref m_sheetBits, .ref m_sheetSize, .ref m_sheets, .int (nI u), .int fi, .ref m_fresh, .long aa, .long bb, .long dd, .int (nI ro), .ref m_rootWhich, .int db, .ref m_signs, .ref m_atNought, .int (nI mn), .ref m_change, .ref m_table, .ref m_carried])), (m_now, .inl (cy 0, 29, .inl nw))] H := hP9
        replace hD : va_D A [(ta, .inr (8, [.ref m_now, .ref m_undone, .ref m_slots, .ref m_slotKind, .ref m_hasSlot, .ref m_sheetBits, .ref m_sheetSize, .ref m_sheets, .int (nI u), .int fi, .ref m_fresh, .long aa, .long bb, .long dd, .int (nI ro), .ref m_rootWhich, .int db, .ref m_signs, .ref m_atNought, .int (nI mn), .ref m_change, .ref m_table, .ref m_carried])), (m_now, .inl (cy 0, 29, .inl nw))] := hD9
        replace hS := hS9
        clear hP9 hD9 hS9
        refine yk_i [0, 1] (va_runV (As := [.int (nI k), .int (f_X8_xOf nw (j + 1) n), .int (f_X8_yOf nw (j + 1) n)]) (rest := []) ⟨hx, hb, hml, hown, hts⟩ (c_X8_isOn l D cy ta m_now m_undone m_slots m_slotKind m_hasSlot m_sheetBits m_sheetSize m_sheets m_fresh m_rootWhich m_signs m_atNought m_change m_table m_carried nw u fi aa bb dd ro db mn k (f_X8_xOf nw (j + 1) n) (f_X8_yOf nw (j + 1) n) n (by first | assumption | omega) (by first | assumption | omega) (by first | assumption | omega) (by first | assumption | omega) H.size) (cwV 3 hts gX8_doMeet_X8_isOn rfl rfl rfl hv_X8_isOn (yk_room hRf hRl rfl rfl)) (yk_pv (q := (RX8, TX8, 23)) hG hA hS hK hP hD [0, 1] (by decide +kernel) rfl rfl rfl) rfl rfl hl.1 rfl (lv_room (Nat.le_of_ble_eq_true rfl)) dX8_doMeet_74 ⟨Nat.zero_le _, Nat.zero_le _⟩) hP hD hS hA rfl rfl (fun H locs hP9 hD9 hS9 => ?_)
        replace hP : va_P D vwCl [(ta, .inr (8, [.ref m_now, .ref m_undone, .ref m_slots, .ref m_slotKind, .ref m_hasSlot, .ref m_sheetBits, .ref m_sheetSize, .ref m_sheets, .int (nI u), .int fi, .ref m_fresh, .long aa, .long bb, .long dd, .int (nI ro), .ref m_rootWhich, .int db, .ref m_signs, .ref m_atNought, .int (nI mn), .ref m_change, .ref m_table, .ref m_carried])), (m_now, .inl (cy 0, 29, .inl nw))] H := hP9
        replace hD : va_D A [(ta, .inr (8, [.ref m_now, .ref m_undone, .ref m_slots, .ref m_slotKind, .ref m_hasSlot, .ref m_sheetBits, .ref m_sheetSize, .ref m_sheets, .int (nI u), .int fi, .ref m_fresh, .long aa, .long bb, .long dd, .int (nI ro), .ref m_rootWhich, .int db, .ref m_signs, .ref m_atNought, .int (nI mn), .ref m_change, .ref m_table, .ref m_carried])), (m_now, .inl (cy 0, 29, .inl nw))] := hD9
        replace hS := hS9
        clear hP9 hD9 hS9
        refine lv_if_eq (tgt := 82) hx hb dX8_doMeet_77 (by decide) (fun hc4 => ?_) (fun hc4 => ?_)
        · replace hF := hF.trans (if_pos hc4)
          refine lv_aload_n hx hb dX8_doMeet_82 rfl (lv_at hl 0 rfl) ?_
          refine lv_iload_n hx hb dX8_doMeet_83 rfl (lv_at hl 1 rfl) ?_
          refine yk_i [0, 1] (va_runV (As := [.int (nI j)]) (rest := []) ⟨hx, hb, hml, hown, hts⟩ (c_X8_xOf l D cy ta m_now m_undone m_slots m_slotKind m_hasSlot m_sheetBits m_sheetSize m_sheets m_fresh m_rootWhich m_signs m_atNought m_change m_table m_carried nw u fi aa bb dd ro db mn j n (by first | assumption | omega) (by first | assumption | omega) (by first | assumption | omega) (by first | assumption | omega) H.size) (cwV 1 hts gX8_doMeet_X8_xOf rfl rfl rfl hv_X8_xOf (yk_room hRf hRl rfl rfl)) (yk_pv (q := (RX8, TX8, 23)) hG hA hS hK hP hD [0, 1] (by decide +kernel) rfl rfl rfl) rfl rfl hl.1 rfl (lv_room (Nat.le_of_ble_eq_true rfl)) dX8_doMeet_84 ⟨Nat.zero_le _, Nat.zero_le _⟩) hP hD hS hA rfl rfl (fun H locs hP9 hD9 hS9 => ?_)
          replace hP : va_P D vwCl [(ta, .inr (8, [.ref m_now, .ref m_undone, .ref m_slots, .ref m_slotKind, .ref m_hasSlot, .ref m_sheetBits, .ref m_sheetSize, .ref m_sheets, .int (nI u), .int fi, .ref m_fresh, .long aa, .long bb, .long dd, .int (nI ro), .ref m_rootWhich, .int db, .ref m_signs, .ref m_atNought, .int (nI mn), .ref m_change, .ref m_table, .ref m_carried])), (m_now, .inl (cy 0, 29, .inl nw))] H := hP9
          replace hD : va_D A [(ta, .inr (8, [.ref m_now, .ref m_undone, .ref m_slots, .ref m_slotKind, .ref m_hasSlot, .ref m_sheetBits, .ref m_sheetSize, .ref m_sheets, .int (nI u), .int fi, .ref m_fresh, .long aa, .long bb, .long dd, .int (nI ro), .ref m_rootWhich, .int db, .ref m_signs, .ref m_atNought, .int (nI mn), .ref m_change, .ref m_table, .ref m_carried])), (m_now, .inl (cy 0, 29, .inl nw))] := hD9
          replace hS := hS9
          clear hP9 hD9 hS9
          refine lv_aload_n hx hb dX8_doMeet_87 rfl (lv_at hl 0 rfl) ?_
          refine lv_iload_n hx hb dX8_doMeet_88 rfl (lv_at hl 1 rfl) ?_
          refine yk_i [0, 1] (va_runV (As := [.int (nI j)]) (rest := [.int (f_X8_xOf nw j n)]) ⟨hx, hb, hml, hown, hts⟩ (c_X8_yOf l D cy ta m_now m_undone m_slots m_slotKind m_hasSlot m_sheetBits m_sheetSize m_sheets m_fresh m_rootWhich m_signs m_atNought m_change m_table m_carried nw u fi aa bb dd ro db mn j n (by first | assumption | omega) (by first | assumption | omega) (by first | assumption | omega) (by first | assumption | omega) H.size) (cwV 1 hts gX8_doMeet_X8_yOf rfl rfl rfl hv_X8_yOf (yk_room hRf hRl rfl rfl)) (yk_pv (q := (RX8, TX8, 23)) hG hA hS hK hP hD [0, 1] (by decide +kernel) rfl rfl rfl) rfl rfl hl.1 rfl (lv_room (Nat.le_of_ble_eq_true rfl)) dX8_doMeet_89 ⟨Nat.zero_le _, Nat.zero_le _⟩) hP hD hS hA rfl rfl (fun H locs hP9 hD9 hS9 => ?_)
          replace hP : va_P D vwCl [(ta, .inr (8, [.ref m_now, .ref m_undone, .ref m_slots, .ref m_slotKind, .ref m_hasSlot, .ref m_sheetBits, .ref m_sheetSize, .ref m_sheets, .int (nI u), .int fi, .ref m_fresh, .long aa, .long bb, .long dd, .int (nI ro), .ref m_rootWhich, .int db, .ref m_signs, .ref m_atNought, .int (nI mn), .ref m_change, .ref m_table, .ref m_carried])), (m_now, .inl (cy 0, 29, .inl nw))] H := hP9
          replace hD : va_D A [(ta, .inr (8, [.ref m_now, .ref m_undone, .ref m_slots, .ref m_slotKind, .ref m_hasSlot, .ref m_sheetBits, .ref m_sheetSize, .ref m_sheets, .int (nI u), .int fi, .ref m_fresh, .long aa, .long bb, .long dd, .int (nI ro), .ref m_rootWhich, .int db, .ref m_signs, .ref m_atNought, .int (nI mn), .ref m_change, .ref m_table, .ref m_carried])), (m_now, .inl (cy 0, 29, .inl nw))] := hD9
          replace hS := hS9
          clear hP9 hD9 hS9
          refine lv_aload_n hx hb dX8_doMeet_92 rfl (lv_at hl 0 rfl) ?_
          refine lv_iload_n hx hb dX8_doMeet_93 rfl (lv_at hl 1 rfl) ?_
          refine lv_iconst (v := 1) hx hb dX8_doMeet_94 (by decide) ?_
          refine lv_iadd hx hb dX8_doMeet_95 ?_
          refine yk_ti (y := nI (j + 1)) (nI_add j 1) ?_
          refine yk_i [0, 1] (va_runV (As := [.int (nI (j + 1))]) (rest := [.int (f_X8_yOf nw j n), .int (f_X8_xOf nw j n)]) ⟨hx, hb, hml, hown, hts⟩ (c_X8_xOf l D cy ta m_now m_undone m_slots m_slotKind m_hasSlot m_sheetBits m_sheetSize m_sheets m_fresh m_rootWhich m_signs m_atNought m_change m_table m_carried nw u fi aa bb dd ro db mn (j + 1) n (by first | assumption | omega) (by first | assumption | omega) (by first | assumption | omega) (by first | assumption | omega) H.size) (cwV 1 hts gX8_doMeet_X8_xOf rfl rfl rfl hv_X8_xOf (yk_room hRf hRl rfl rfl)) (yk_pv (q := (RX8, TX8, 23)) hG hA hS hK hP hD [0, 1] (by decide +kernel) rfl rfl rfl) rfl rfl hl.1 rfl (lv_room (Nat.le_of_ble_eq_true rfl)) dX8_doMeet_96 ⟨Nat.zero_le _, Nat.zero_le _⟩) hP hD hS hA rfl rfl (fun H locs hP9 hD9 hS9 => ?_)
          replace hP : va_P D vwCl [(ta, .inr (8, [.ref m_now, .ref m_undone, .ref m_slots, .ref m_slotKind, .ref m_hasSlot, .ref m_sheetBits, .ref m_sheetSize, .ref m_sheets, .int (nI u), .int fi, .ref m_fresh, .long aa, .long bb, .long dd, .int (nI ro), .ref m_rootWhich, .int db, .ref m_signs, .ref m_atNought, .int (nI mn), .ref m_change, .ref m_table, .ref m_carried])), (m_now, .inl (cy 0, 29, .inl nw))] H := hP9
          replace hD : va_D A [(ta, .inr (8, [.ref m_now, .ref m_undone, .ref m_slots, .ref m_slotKind, .ref m_hasSlot, .ref m_sheetBits, .ref m_sheetSize, .ref m_sheets, .int (nI u), .int fi, .ref m_fresh, .long aa, .long bb, .long dd, .int (nI ro), .ref m_rootWhich, .int db, .ref m_signs, .ref m_atNought, .int (nI mn), .ref m_change, .ref m_table, .ref m_carried])), (m_now, .inl (cy 0, 29, .inl nw))] := hD9
          replace hS := hS9
          clear hP9 hD9 hS9
          refine lv_aload_n hx hb dX8_doMeet_99 rfl (lv_at hl 0 rfl) ?_
          refine lv_iload_n hx hb dX8_doMeet_100 rfl (lv_at hl 1 rfl) ?_
          refine lv_iconst (v := 1) hx hb dX8_doMeet_101 (by decide) ?_
          refine lv_iadd hx hb dX8_doMeet_102 ?_
          refine yk_ti (y := nI (j + 1)) (nI_add j 1) ?_
          refine yk_i [0, 1] (va_runV (As := [.int (nI (j + 1))]) (rest := [.int (f_X8_xOf nw (j + 1) n), .int (f_X8_yOf nw j n), .int (f_X8_xOf nw j n)]) ⟨hx, hb, hml, hown, hts⟩ (c_X8_yOf l D cy ta m_now m_undone m_slots m_slotKind m_hasSlot m_sheetBits m_sheetSize m_sheets m_fresh m_rootWhich m_signs m_atNought m_change m_table m_carried nw u fi aa bb dd ro db mn (j + 1) n (by first | assumption | omega) (by first | assumption | omega) (by first | assumption | omega) (by first | assumption | omega) H.size) (cwV 1 hts gX8_doMeet_X8_yOf rfl rfl rfl hv_X8_yOf (yk_room hRf hRl rfl rfl)) (yk_pv (q := (RX8, TX8, 23)) hG hA hS hK hP hD [0, 1] (by decide +kernel) rfl rfl rfl) rfl rfl hl.1 rfl (lv_room (Nat.le_of_ble_eq_true rfl)) dX8_doMeet_103 ⟨Nat.zero_le _, Nat.zero_le _⟩) hP hD hS hA rfl rfl (fun H locs hP9 hD9 hS9 => ?_)
          replace hP : va_P D vwCl [(ta, .inr (8, [.ref m_now, .ref m_undone, .ref m_slots, .ref m_slotKind, .ref m_hasSlot, .ref m_sheetBits, .ref m_sheetSize, .ref m_sheets, .int (nI u), .int fi, .ref m_fresh, .long aa, .long bb, .long dd, .int (nI ro), .ref m_rootWhich, .int db, .ref m_signs, .ref m_atNought, .int (nI mn), .ref m_change, .ref m_table, .ref m_carried])), (m_now, .inl (cy 0, 29, .inl nw))] H := hP9
          replace hD : va_D A [(ta, .inr (8, [.ref m_now, .ref m_undone, .ref m_slots, .ref m_slotKind, .ref m_hasSlot, .ref m_sheetBits, .ref m_sheetSize, .ref m_sheets, .int (nI u), .int fi, .ref m_fresh, .long aa, .long bb, .long dd, .int (nI ro), .ref m_rootWhich, .int db, .ref m_signs, .ref m_atNought, .int (nI mn), .ref m_change, .ref m_table, .ref m_carried])), (m_now, .inl (cy 0, 29, .inl nw))] := hD9
          replace hS := hS9
          clear hP9 hD9 hS9
          refine lv_aload_n hx hb dX8_doMeet_106 rfl (lv_at hl 0 rfl) ?_
          refine lv_iload_n hx hb dX8_doMeet_107 rfl (lv_at hl 2 rfl) ?_
          refine yk_i [0, 1] (va_runV (As := [.int (nI k)]) (rest := [.int (f_X8_yOf nw (j + 1) n), .int (f_X8_xOf nw (j + 1) n), .int (f_X8_yOf nw j n), .int (f_X8_xOf nw j n)]) ⟨hx, hb, hml, hown, hts⟩ (c_X8_xOf l D cy ta m_now m_undone m_slots m_slotKind m_hasSlot m_sheetBits m_sheetSize m_sheets m_fresh m_rootWhich m_signs m_atNought m_change m_table m_carried nw u fi aa bb dd ro db mn k n (by first | assumption | omega) (by first | assumption | omega) (by first | assumption | omega) (by first | assumption | omega) H.size) (cwV 1 hts gX8_doMeet_X8_xOf rfl rfl rfl hv_X8_xOf (yk_room hRf hRl rfl rfl)) (yk_pv (q := (RX8, TX8, 23)) hG hA hS hK hP hD [0, 1] (by decide +kernel) rfl rfl rfl) rfl rfl hl.1 rfl (lv_room (Nat.le_of_ble_eq_true rfl)) dX8_doMeet_108 ⟨Nat.zero_le _, Nat.zero_le _⟩) hP hD hS hA rfl rfl (fun H locs hP9 hD9 hS9 => ?_)
          replace hP : va_P D vwCl [(ta, .inr (8, [.ref m_now, .ref m_undone, .ref m_slots, .ref m_slotKind, .ref m_hasSlot, .ref m_sheetBits, .ref m_sheetSize, .ref m_sheets, .int (nI u), .int fi, .ref m_fresh, .long aa, .long bb, .long dd, .int (nI ro), .ref m_rootWhich, .int db, .ref m_signs, .ref m_atNought, .int (nI mn), .ref m_change, .ref m_table, .ref m_carried])), (m_now, .inl (cy 0, 29, .inl nw))] H := hP9
          replace hD : va_D A [(ta, .inr (8, [.ref m_now, .ref m_undone, .ref m_slots, .ref m_slotKind, .ref m_hasSlot, .ref m_sheetBits, .ref m_sheetSize, .ref m_sheets, .int (nI u), .int fi, .ref m_fresh, .long aa, .long bb, .long dd, .int (nI ro), .ref m_rootWhich, .int db, .ref m_signs, .ref m_atNought, .int (nI mn), .ref m_change, .ref m_table, .ref m_carried])), (m_now, .inl (cy 0, 29, .inl nw))] := hD9
          replace hS := hS9
          clear hP9 hD9 hS9
          refine lv_aload_n hx hb dX8_doMeet_111 rfl (lv_at hl 0 rfl) ?_
          refine lv_iload_n hx hb dX8_doMeet_112 rfl (lv_at hl 2 rfl) ?_
          refine yk_i [0, 1] (va_runV (As := [.int (nI k)]) (rest := [.int (f_X8_xOf nw k n), .int (f_X8_yOf nw (j + 1) n), .int (f_X8_xOf nw (j + 1) n), .int (f_X8_yOf nw j n), .int (f_X8_xOf nw j n)]) ⟨hx, hb, hml, hown, hts⟩ (c_X8_yOf l D cy ta m_now m_undone m_slots m_slotKind m_hasSlot m_sheetBits m_sheetSize m_sheets m_fresh m_rootWhich m_signs m_atNought m_change m_table m_carried nw u fi aa bb dd ro db mn k n (by first | assumption | omega) (by first | assumption | omega) (by first | assumption | omega) (by first | assumption | omega) H.size) (cwV 1 hts gX8_doMeet_X8_yOf rfl rfl rfl hv_X8_yOf (yk_room hRf hRl rfl rfl)) (yk_pv (q := (RX8, TX8, 23)) hG hA hS hK hP hD [0, 1] (by decide +kernel) rfl rfl rfl) rfl rfl hl.1 rfl (lv_room (Nat.le_of_ble_eq_true rfl)) dX8_doMeet_113 ⟨Nat.zero_le _, Nat.zero_le _⟩) hP hD hS hA rfl rfl (fun H locs hP9 hD9 hS9 => ?_)
          replace hP : va_P D vwCl [(ta, .inr (8, [.ref m_now, .ref m_undone, .ref m_slots, .ref m_slotKind, .ref m_hasSlot, .ref m_sheetBits, .ref m_sheetSize, .ref m_sheets, .int (nI u), .int fi, .ref m_fresh, .long aa, .long bb, .long dd, .int (nI ro), .ref m_rootWhich, .int db, .ref m_signs, .ref m_atNought, .int (nI mn), .ref m_change, .ref m_table, .ref m_carried])), (m_now, .inl (cy 0, 29, .inl nw))] H := hP9
          replace hD : va_D A [(ta, .inr (8, [.ref m_now, .ref m_undone, .ref m_slots, .ref m_slotKind, .ref m_hasSlot, .ref m_sheetBits, .ref m_sheetSize, .ref m_sheets, .int (nI u), .int fi, .ref m_fresh, .long aa, .long bb, .long dd, .int (nI ro), .ref m_rootWhich, .int db, .ref m_signs, .ref m_atNought, .int (nI mn), .ref m_change, .ref m_table, .ref m_carried])), (m_now, .inl (cy 0, 29, .inl nw))] := hD9
          replace hS := hS9
          clear hP9 hD9 hS9
          refine yk_i [] (va_runS (As := [.int (f_X8_xOf nw j n), .int (f_X8_yOf nw j n), .int (f_X8_xOf nw (j + 1) n), .int (f_X8_yOf nw (j + 1) n), .int (f_X8_xOf nw k n), .int (f_X8_yOf nw k n)]) (rest := []) ⟨hx, hb, hml, hown, hts⟩ (c_X8_turn l D cy (f_X8_xOf nw j n) (f_X8_yOf nw j n) (f_X8_xOf nw (j + 1) n) (f_X8_yOf nw (j + 1) n) (f_X8_xOf nw k n) (f_X8_yOf nw k n) H.size) (va_cwS 6 hts gX8_doMeet_X8_turn rfl rfl rfl hs_X8_turn (yk_room hRf hRl rfl rfl)) (yk_ps hG hA hS hK hP hD [] (by decide +kernel) rfl) rfl rfl hl.1 rfl (lv_room (Nat.le_of_ble_eq_true rfl)) dX8_doMeet_116 ⟨Nat.zero_le _, Nat.zero_le _⟩) hP hD hS hA rfl rfl (fun H locs hP9 hD9 hS9 => ?_)
          replace hP : va_P D vwCl [(ta, .inr (8, [.ref m_now, .ref m_undone, .ref m_slots, .ref m_slotKind, .ref m_hasSlot, .ref m_sheetBits, .ref m_sheetSize, .ref m_sheets, .int (nI u), .int fi, .ref m_fresh, .long aa, .long bb, .long dd, .int (nI ro), .ref m_rootWhich, .int db, .ref m_signs, .ref m_atNought, .int (nI mn), .ref m_change, .ref m_table, .ref m_carried])), (m_now, .inl (cy 0, 29, .inl nw))] H := hP9
          replace hD : va_D A [(ta, .inr (8, [.ref m_now, .ref m_undone, .ref m_slots, .ref m_slotKind, .ref m_hasSlot, .ref m_sheetBits, .ref m_sheetSize, .ref m_sheets, .int (nI u), .int fi, .ref m_fresh, .long aa, .long bb, .long dd, .int (nI ro), .ref m_rootWhich, .int db, .ref m_signs, .ref m_atNought, .int (nI mn), .ref m_change, .ref m_table, .ref m_carried])), (m_now, .inl (cy 0, 29, .inl nw))] := hD9
          replace hS := hS9
          clear hP9 hD9 hS9
          refine lv_istore_n (lv' := [(3, .int (f_X8_turn (f_X8_xOf nw j n) (f_X8_yOf nw j n) (f_X8_xOf nw (j + 1) n) (f_X8_yOf nw (j + 1) n) (f_X8_xOf nw k n) (f_X8_yOf nw k n))), (0, .ref ta), (1, .int (nI j)), (2, .int (nI k))]) hx hb dX8_doMeet_119 rfl hl (by decide) rfl (fun ls hl9 => ?_)
          replace hl := hl9
          clear hl9
          refine lv_aload_n hx hb dX8_doMeet_120 rfl (lv_at hl 1 rfl) ?_
          refine lv_iload_n hx hb dX8_doMeet_121 rfl (lv_at hl 2 rfl) ?_
          refine yk_i [0, 1] (va_runV (As := [.int (nI j)]) (rest := []) ⟨hx, hb, hml, hown, hts⟩ (c_X8_xOf l D cy ta m_now m_undone m_slots m_slotKind m_hasSlot m_sheetBits m_sheetSize m_sheets m_fresh m_rootWhich m_signs m_atNought m_change m_table m_carried nw u fi aa bb dd ro db mn j n (by first | assumption | omega) (by first | assumption | omega) (by first | assumption | omega) (by first | assumption | omega) H.size) (cwV 1 hts gX8_doMeet_X8_xOf rfl rfl rfl hv_X8_xOf (yk_room hRf hRl rfl rfl)) (yk_pv (q := (RX8, TX8, 23)) hG hA hS hK hP hD [0, 1] (by decide +kernel) rfl rfl rfl) rfl rfl hl.1 rfl (lv_room (Nat.le_of_ble_eq_true rfl)) dX8_doMeet_122 ⟨Nat.zero_le _, Nat.zero_le _⟩) hP hD hS hA rfl rfl (fun H locs hP9 hD9 hS9 => ?_)
          replace hP : va_P D vwCl [(ta, .inr (8, [.ref m_now, .ref m_undone, .ref m_slots, .ref m_slotKind, .ref m_hasSlot, .ref m_sheetBits, .ref m_sheetSize, .ref m_sheets, .int (nI u), .int fi, .ref m_fresh, .long aa, .long bb, .long dd, .int (nI ro), .ref m_rootWhich, .int db, .ref m_signs, .ref m_atNought, .int (nI mn), .ref m_change, .ref m_table, .ref m_carried])), (m_now, .inl (cy 0, 29, .inl nw))] H := hP9
          replace hD : va_D A [(ta, .inr (8, [.ref m_now, .ref m_undone, .ref m_slots, .ref m_slotKind, .ref m_hasSlot, .ref m_sheetBits, .ref m_sheetSize, .ref m_sheets, .int (nI u), .int fi, .ref m_fresh, .long aa, .long bb, .long dd, .int (nI ro), .ref m_rootWhich, .int db, .ref m_signs, .ref m_atNought, .int (nI mn), .ref m_change, .ref m_table, .ref m_carried])), (m_now, .inl (cy 0, 29, .inl nw))] := hD9
          replace hS := hS9
          clear hP9 hD9 hS9
          refine lv_aload_n hx hb dX8_doMeet_125 rfl (lv_at hl 1 rfl) ?_
          refine lv_iload_n hx hb dX8_doMeet_126 rfl (lv_at hl 2 rfl) ?_
          refine yk_i [0, 1] (va_runV (As := [.int (nI j)]) (rest := [.int (f_X8_xOf nw j n)]) ⟨hx, hb, hml, hown, hts⟩ (c_X8_yOf l D cy ta m_now m_undone m_slots m_slotKind m_hasSlot m_sheetBits m_sheetSize m_sheets m_fresh m_rootWhich m_signs m_atNought m_change m_table m_carried nw u fi aa bb dd ro db mn j n (by first | assumption | omega) (by first | assumption | omega) (by first | assumption | omega) (by first | assumption | omega) H.size) (cwV 1 hts gX8_doMeet_X8_yOf rfl rfl rfl hv_X8_yOf (yk_room hRf hRl rfl rfl)) (yk_pv (q := (RX8, TX8, 23)) hG hA hS hK hP hD [0, 1] (by decide +kernel) rfl rfl rfl) rfl rfl hl.1 rfl (lv_room (Nat.le_of_ble_eq_true rfl)) dX8_doMeet_127 ⟨Nat.zero_le _, Nat.zero_le _⟩) hP hD hS hA rfl rfl (fun H locs hP9 hD9 hS9 => ?_)
          replace hP : va_P D vwCl [(ta, .inr (8, [.ref m_now, .ref m_undone, .ref m_slots, .ref m_slotKind, .ref m_hasSlot, .ref m_sheetBits, .ref m_sheetSize, .ref m_sheets, .int (nI u), .int fi, .ref m_fresh, .long aa, .long bb, .long dd, .int (nI ro), .ref m_rootWhich, .int db, .ref m_signs, .ref m_atNought, .int (nI mn), .ref m_change, .ref m_table, .ref m_carried])), (m_now, .inl (cy 0, 29, .inl nw))] H := hP9
          replace hD : va_D A [(ta, .inr (8, [.ref m_now, .ref m_undone, .ref m_slots, .ref m_slotKind, .ref m_hasSlot, .ref m_sheetBits, .ref m_sheetSize, .ref m_sheets, .int (nI u), .int fi, .ref m_fresh, .long aa, .long bb, .long dd, .int (nI ro), .ref m_rootWhich, .int db, .ref m_signs, .ref m_atNought, .int (nI mn), .ref m_change, .ref m_table, .ref m_carried])), (m_now, .inl (cy 0, 29, .inl nw))] := hD9
          replace hS := hS9
          clear hP9 hD9 hS9
          refine lv_aload_n hx hb dX8_doMeet_130 rfl (lv_at hl 1 rfl) ?_
          refine lv_iload_n hx hb dX8_doMeet_131 rfl (lv_at hl 2 rfl) ?_
          refine lv_iconst (v := 1) hx hb dX8_doMeet_132 (by decide) ?_
          refine lv_iadd hx hb dX8_doMeet_133 ?_
          refine yk_ti (y := nI (j + 1)) (nI_add j 1) ?_
          refine yk_i [0, 1] (va_runV (As := [.int (nI (j + 1))]) (rest := [.int (f_X8_yOf nw j n), .int (f_X8_xOf nw j n)]) ⟨hx, hb, hml, hown, hts⟩ (c_X8_xOf l D cy ta m_now m_undone m_slots m_slotKind m_hasSlot m_sheetBits m_sheetSize m_sheets m_fresh m_rootWhich m_signs m_atNought m_change m_table m_carried nw u fi aa bb dd ro db mn (j + 1) n (by first | assumption | omega) (by first | assumption | omega) (by first | assumption | omega) (by first | assumption | omega) H.size) (cwV 1 hts gX8_doMeet_X8_xOf rfl rfl rfl hv_X8_xOf (yk_room hRf hRl rfl rfl)) (yk_pv (q := (RX8, TX8, 23)) hG hA hS hK hP hD [0, 1] (by decide +kernel) rfl rfl rfl) rfl rfl hl.1 rfl (lv_room (Nat.le_of_ble_eq_true rfl)) dX8_doMeet_134 ⟨Nat.zero_le _, Nat.zero_le _⟩) hP hD hS hA rfl rfl (fun H locs hP9 hD9 hS9 => ?_)
          replace hP : va_P D vwCl [(ta, .inr (8, [.ref m_now, .ref m_undone, .ref m_slots, .ref m_slotKind, .ref m_hasSlot, .ref m_sheetBits, .ref m_sheetSize, .ref m_sheets, .int (nI u), .int fi, .ref m_fresh, .long aa, .long bb, .long dd, .int (nI ro), .ref m_rootWhich, .int db, .ref m_signs, .ref m_atNought, .int (nI mn), .ref m_change, .ref m_table, .ref m_carried])), (m_now, .inl (cy 0, 29, .inl nw))] H := hP9
          replace hD : va_D A [(ta, .inr (8, [.ref m_now, .ref m_undone, .ref m_slots, .ref m_slotKind, .ref m_hasSlot, .ref m_sheetBits, .ref m_sheetSize, .ref m_sheets, .int (nI u), .int fi, .ref m_fresh, .long aa, .long bb, .long dd, .int (nI ro), .ref m_rootWhich, .int db, .ref m_signs, .ref m_atNought, .int (nI mn), .ref m_change, .ref m_table, .ref m_carried])), (m_now, .inl (cy 0, 29, .inl nw))] := hD9
          replace hS := hS9
          clear hP9 hD9 hS9
          refine lv_aload_n hx hb dX8_doMeet_137 rfl (lv_at hl 1 rfl) ?_
          refine lv_iload_n hx hb dX8_doMeet_138 rfl (lv_at hl 2 rfl) ?_
          refine lv_iconst (v := 1) hx hb dX8_doMeet_139 (by decide) ?_
          refine lv_iadd hx hb dX8_doMeet_140 ?_
          refine yk_ti (y := nI (j + 1)) (nI_add j 1) ?_
          refine yk_i [0, 1] (va_runV (As := [.int (nI (j + 1))]) (rest := [.int (f_X8_xOf nw (j + 1) n), .int (f_X8_yOf nw j n), .int (f_X8_xOf nw j n)]) ⟨hx, hb, hml, hown, hts⟩ (c_X8_yOf l D cy ta m_now m_undone m_slots m_slotKind m_hasSlot m_sheetBits m_sheetSize m_sheets m_fresh m_rootWhich m_signs m_atNought m_change m_table m_carried nw u fi aa bb dd ro db mn (j + 1) n (by first | assumption | omega) (by first | assumption | omega) (by first | assumption | omega) (by first | assumption | omega) H.size) (cwV 1 hts gX8_doMeet_X8_yOf rfl rfl rfl hv_X8_yOf (yk_room hRf hRl rfl rfl)) (yk_pv (q := (RX8, TX8, 23)) hG hA hS hK hP hD [0, 1] (by decide +kernel) rfl rfl rfl) rfl rfl hl.1 rfl (lv_room (Nat.le_of_ble_eq_true rfl)) dX8_doMeet_141 ⟨Nat.zero_le _, Nat.zero_le _⟩) hP hD hS hA rfl rfl (fun H locs hP9 hD9 hS9 => ?_)
          replace hP : va_P D vwCl [(ta, .inr (8, [.ref m_now, .ref m_undone, .ref m_slots, .ref m_slotKind, .ref m_hasSlot, .ref m_sheetBits, .ref m_sheetSize, .ref m_sheets, .int (nI u), .int fi, .ref m_fresh, .long aa, .long bb, .long dd, .int (nI ro), .ref m_rootWhich, .int db, .ref m_signs, .ref m_atNought, .int (nI mn), .ref m_change, .ref m_table, .ref m_carried])), (m_now, .inl (cy 0, 29, .inl nw))] H := hP9
          replace hD : va_D A [(ta, .inr (8, [.ref m_now, .ref m_undone, .ref m_slots, .ref m_slotKind, .ref m_hasSlot, .ref m_sheetBits, .ref m_sheetSize, .ref m_sheets, .int (nI u), .int fi, .ref m_fresh, .long aa, .long bb, .long dd, .int (nI ro), .ref m_rootWhich, .int db, .ref m_signs, .ref m_atNought, .int (nI mn), .ref m_change, .ref m_table, .ref m_carried])), (m_now, .inl (cy 0, 29, .inl nw))] := hD9
          replace hS := hS9
          clear hP9 hD9 hS9
          refine lv_aload_n hx hb dX8_doMeet_144 rfl (lv_at hl 1 rfl) ?_
          refine lv_iload_n hx hb dX8_doMeet_145 rfl (lv_at hl 3 rfl) ?_
          refine lv_iconst (v := 1) hx hb dX8_doMeet_146 (by decide) ?_
          refine lv_iadd hx hb dX8_doMeet_147 ?_
          refine yk_ti (y := nI (k + 1)) (nI_add k 1) ?_
          refine yk_i [0, 1] (va_runV (As := [.int (nI (k + 1))]) (rest := [.int (f_X8_yOf nw (j + 1) n), .int (f_X8_xOf nw (j + 1) n), .int (f_X8_yOf nw j n), .int (f_X8_xOf nw j n)]) ⟨hx, hb, hml, hown, hts⟩ (c_X8_xOf l D cy ta m_now m_undone m_slots m_slotKind m_hasSlot m_sheetBits m_sheetSize m_sheets m_fresh m_rootWhich m_signs m_atNought m_change m_table m_carried nw u fi aa bb dd ro db mn (k + 1) n (by first | assumption | omega) (by first | assumption | omega) (by first | assumption | omega) (by first | assumption | omega) H.size) (cwV 1 hts gX8_doMeet_X8_xOf rfl rfl rfl hv_X8_xOf (yk_room hRf hRl rfl rfl)) (yk_pv (q := (RX8, TX8, 23)) hG hA hS hK hP hD [0, 1] (by decide +kernel) rfl rfl rfl) rfl rfl hl.1 rfl (lv_room (Nat.le_of_ble_eq_true rfl)) dX8_doMeet_148 ⟨Nat.zero_le _, Nat.zero_le _⟩) hP hD hS hA rfl rfl (fun H locs hP9 hD9 hS9 => ?_)
          replace hP : va_P D vwCl [(ta, .inr (8, [.ref m_now, .ref m_undone, .ref m_slots, .ref m_slotKind, .ref m_hasSlot, .ref m_sheetBits, .ref m_sheetSize, .ref m_sheets, .int (nI u), .int fi, .ref m_fresh, .long aa, .long bb, .long dd, .int (nI ro), .ref m_rootWhich, .int db, .ref m_signs, .ref m_atNought, .int (nI mn), .ref m_change, .ref m_table, .ref m_carried])), (m_now, .inl (cy 0, 29, .inl nw))] H := hP9
          replace hD : va_D A [(ta, .inr (8, [.ref m_now, .ref m_undone, .ref m_slots, .ref m_slotKind, .ref m_hasSlot, .ref m_sheetBits, .ref m_sheetSize, .ref m_sheets, .int (nI u), .int fi, .ref m_fresh, .long aa, .long bb, .long dd, .int (nI ro), .ref m_rootWhich, .int db, .ref m_signs, .ref m_atNought, .int (nI mn), .ref m_change, .ref m_table, .ref m_carried])), (m_now, .inl (cy 0, 29, .inl nw))] := hD9
          replace hS := hS9
          clear hP9 hD9 hS9
          refine lv_aload_n hx hb dX8_doMeet_151 rfl (lv_at hl 1 rfl) ?_
          refine lv_iload_n hx hb dX8_doMeet_152 rfl (lv_at hl 3 rfl) ?_
          refine lv_iconst (v := 1) hx hb dX8_doMeet_153 (by decide) ?_
          refine lv_iadd hx hb dX8_doMeet_154 ?_
          refine yk_ti (y := nI (k + 1)) (nI_add k 1) ?_
          refine yk_i [0, 1] (va_runV (As := [.int (nI (k + 1))]) (rest := [.int (f_X8_xOf nw (k + 1) n), .int (f_X8_yOf nw (j + 1) n), .int (f_X8_xOf nw (j + 1) n), .int (f_X8_yOf nw j n), .int (f_X8_xOf nw j n)]) ⟨hx, hb, hml, hown, hts⟩ (c_X8_yOf l D cy ta m_now m_undone m_slots m_slotKind m_hasSlot m_sheetBits m_sheetSize m_sheets m_fresh m_rootWhich m_signs m_atNought m_change m_table m_carried nw u fi aa bb dd ro db mn (k + 1) n (by first | assumption | omega) (by first | assumption | omega) (by first | assumption | omega) (by first | assumption | omega) H.size) (cwV 1 hts gX8_doMeet_X8_yOf rfl rfl rfl hv_X8_yOf (yk_room hRf hRl rfl rfl)) (yk_pv (q := (RX8, TX8, 23)) hG hA hS hK hP hD [0, 1] (by decide +kernel) rfl rfl rfl) rfl rfl hl.1 rfl (lv_room (Nat.le_of_ble_eq_true rfl)) dX8_doMeet_155 ⟨Nat.zero_le _, Nat.zero_le _⟩) hP hD hS hA rfl rfl (fun H locs hP9 hD9 hS9 => ?_)
          replace hP : va_P D vwCl [(ta, .inr (8, [.ref m_now, .ref m_undone, .ref m_slots, .ref m_slotKind, .ref m_hasSlot, .ref m_sheetBits, .ref m_sheetSize, .ref m_sheets, .int (nI u), .int fi, .ref m_fresh, .long aa, .long bb, .long dd, .int (nI ro), .ref m_rootWhich, .int db, .ref m_signs, .ref m_atNought, .int (nI mn), .ref m_change, .ref m_table, .ref m_carried])), (m_now, .inl (cy 0, 29, .inl nw))] H := hP9
          replace hD : va_D A [(ta, .inr (8, [.ref m_now, .ref m_undone, .ref m_slots, .ref m_slotKind, .ref m_hasSlot, .ref m_sheetBits, .ref m_sheetSize, .ref m_sheets, .int (nI u), .int fi, .ref m_fresh, .long aa, .long bb, .long dd, .int (nI ro), .ref m_rootWhich, .int db, .ref m_signs, .ref m_atNought, .int (nI mn), .ref m_change, .ref m_table, .ref m_carried])), (m_now, .inl (cy 0, 29, .inl nw))] := hD9
          replace hS := hS9
          clear hP9 hD9 hS9
          refine yk_i [] (va_runS (As := [.int (f_X8_xOf nw j n), .int (f_X8_yOf nw j n), .int (f_X8_xOf nw (j + 1) n), .int (f_X8_yOf nw (j + 1) n), .int (f_X8_xOf nw (k + 1) n), .int (f_X8_yOf nw (k + 1) n)]) (rest := []) ⟨hx, hb, hml, hown, hts⟩ (c_X8_turn l D cy (f_X8_xOf nw j n) (f_X8_yOf nw j n) (f_X8_xOf nw (j + 1) n) (f_X8_yOf nw (j + 1) n) (f_X8_xOf nw (k + 1) n) (f_X8_yOf nw (k + 1) n) H.size) (va_cwS 6 hts gX8_doMeet_X8_turn rfl rfl rfl hs_X8_turn (yk_room hRf hRl rfl rfl)) (yk_ps hG hA hS hK hP hD [] (by decide +kernel) rfl) rfl rfl hl.1 rfl (lv_room (Nat.le_of_ble_eq_true rfl)) dX8_doMeet_158 ⟨Nat.zero_le _, Nat.zero_le _⟩) hP hD hS hA rfl rfl (fun H locs hP9 hD9 hS9 => ?_)
          replace hP : va_P D vwCl [(ta, .inr (8, [.ref m_now, .ref m_undone, .ref m_slots, .ref m_slotKind, .ref m_hasSlot, .ref m_sheetBits, .ref m_sheetSize, .ref m_sheets, .int (nI u), .int fi, .ref m_fresh, .long aa, .long bb, .long dd, .int (nI ro), .ref m_rootWhich, .int db, .ref m_signs, .ref m_atNought, .int (nI mn), .ref m_change, .ref m_table, .ref m_carried])), (m_now, .inl (cy 0, 29, .inl nw))] H := hP9
          replace hD : va_D A [(ta, .inr (8, [.ref m_now, .ref m_undone, .ref m_slots, .ref m_slotKind, .ref m_hasSlot, .ref m_sheetBits, .ref m_sheetSize, .ref m_sheets, .int (nI u), .int fi, .ref m_fresh, .long aa, .long bb, .long dd, .int (nI ro), .ref m_rootWhich, .int db, .ref m_signs, .ref m_atNought, .int (nI mn), .ref m_change, .ref m_table, .ref m_carried])), (m_now, .inl (cy 0, 29, .inl nw))] := hD9
          replace hS := hS9
          clear hP9 hD9 hS9
          refine lv_istore (lv' := [(4, .int (f_X8_turn (f_X8_xOf nw j n) (f_X8_yOf nw j n) (f_X8_xOf nw (j + 1) n) (f_X8_yOf nw (j + 1) n) (f_X8_xOf nw (k + 1) n) (f_X8_yOf nw (k + 1) n))), (3, .int (f_X8_turn (f_X8_xOf nw j n) (f_X8_yOf nw j n) (f_X8_xOf nw (j + 1) n) (f_X8_yOf nw (j + 1) n) (f_X8_xOf nw k n) (f_X8_yOf nw k n))), (0, .ref ta), (1, .int (nI j)), (2, .int (nI k))]) hx hb dX8_doMeet_161 hl (by decide) rfl (fun ls hl9 => ?_)
          replace hl := hl9
          clear hl9
          refine lv_aload_n hx hb dX8_doMeet_163 rfl (lv_at hl 2 rfl) ?_
          refine lv_iload_n hx hb dX8_doMeet_164 rfl (lv_at hl 4 rfl) ?_
          refine yk_i [0, 1] (va_runV (As := [.int (nI k)]) (rest := []) ⟨hx, hb, hml, hown, hts⟩ (c_X8_xOf l D cy ta m_now m_undone m_slots m_slotKind m_hasSlot m_sheetBits m_sheetSize m_sheets m_fresh m_rootWhich m_signs m_atNought m_change m_table m_carried nw u fi aa bb dd ro db mn k n (by first | assumption | omega) (by first | assumption | omega) (by first | assumption | omega) (by first | assumption | omega) H.size) (cwV 1 hts gX8_doMeet_X8_xOf rfl rfl rfl hv_X8_xOf (yk_room hRf hRl rfl rfl)) (yk_pv (q := (RX8, TX8, 23)) hG hA hS hK hP hD [0, 1] (by decide +kernel) rfl rfl rfl) rfl rfl hl.1 rfl (lv_room (Nat.le_of_ble_eq_true rfl)) dX8_doMeet_165 ⟨Nat.zero_le _, Nat.zero_le _⟩) hP hD hS hA rfl rfl (fun H locs hP9 hD9 hS9 => ?_)
          replace hP : va_P D vwCl [(ta, .inr (8, [.ref m_now, .ref m_undone, .ref m_slots, .ref m_slotKind, .ref m_hasSlot, .ref m_sheetBits, .ref m_sheetSize, .ref m_sheets, .int (nI u), .int fi, .ref m_fresh, .long aa, .long bb, .long dd, .int (nI ro), .ref m_rootWhich, .int db, .ref m_signs, .ref m_atNought, .int (nI mn), .ref m_change, .ref m_table, .ref m_carried])), (m_now, .inl (cy 0, 29, .inl nw))] H := hP9
          replace hD : va_D A [(ta, .inr (8, [.ref m_now, .ref m_undone, .ref m_slots, .ref m_slotKind, .ref m_hasSlot, .ref m_sheetBits, .ref m_sheetSize, .ref m_sheets, .int (nI u), .int fi, .ref m_fresh, .long aa, .long bb, .long dd, .int (nI ro), .ref m_rootWhich, .int db, .ref m_signs, .ref m_atNought, .int (nI mn), .ref m_change, .ref m_table, .ref m_carried])), (m_now, .inl (cy 0, 29, .inl nw))] := hD9
          replace hS := hS9
          clear hP9 hD9 hS9
          refine lv_aload_n hx hb dX8_doMeet_168 rfl (lv_at hl 2 rfl) ?_
          refine lv_iload_n hx hb dX8_doMeet_169 rfl (lv_at hl 4 rfl) ?_
          refine yk_i [0, 1] (va_runV (As := [.int (nI k)]) (rest := [.int (f_X8_xOf nw k n)]) ⟨hx, hb, hml, hown, hts⟩ (c_X8_yOf l D cy ta m_now m_undone m_slots m_slotKind m_hasSlot m_sheetBits m_sheetSize m_sheets m_fresh m_rootWhich m_signs m_atNought m_change m_table m_carried nw u fi aa bb dd ro db mn k n (by first | assumption | omega) (by first | assumption | omega) (by first | assumption | omega) (by first | assumption | omega) H.size) (cwV 1 hts gX8_doMeet_X8_yOf rfl rfl rfl hv_X8_yOf (yk_room hRf hRl rfl rfl)) (yk_pv (q := (RX8, TX8, 23)) hG hA hS hK hP hD [0, 1] (by decide +kernel) rfl rfl rfl) rfl rfl hl.1 rfl (lv_room (Nat.le_of_ble_eq_true rfl)) dX8_doMeet_170 ⟨Nat.zero_le _, Nat.zero_le _⟩) hP hD hS hA rfl rfl (fun H locs hP9 hD9 hS9 => ?_)
          replace hP : va_P D vwCl [(ta, .inr (8, [.ref m_now, .ref m_undone, .ref m_slots, .ref m_slotKind, .ref m_hasSlot, .ref m_sheetBits, .ref m_sheetSize, .ref m_sheets, .int (nI u), .int fi, .ref m_fresh, .long aa, .long bb, .long dd, .int (nI ro), .ref m_rootWhich, .int db, .ref m_signs, .ref m_atNought, .int (nI mn), .ref m_change, .ref m_table, .ref m_carried])), (m_now, .inl (cy 0, 29, .inl nw))] H := hP9
          replace hD : va_D A [(ta, .inr (8, [.ref m_now, .ref m_undone, .ref m_slots, .ref m_slotKind, .ref m_hasSlot, .ref m_sheetBits, .ref m_sheetSize, .ref m_sheets, .int (nI u), .int fi, .ref m_fresh, .long aa, .long bb, .long dd, .int (nI ro), .ref m_rootWhich, .int db, .ref m_signs, .ref m_atNought, .int (nI mn), .ref m_change, .ref m_table, .ref m_carried])), (m_now, .inl (cy 0, 29, .inl nw))] := hD9
          replace hS := hS9
          clear hP9 hD9 hS9
          refine lv_aload_n hx hb dX8_doMeet_173 rfl (lv_at hl 2 rfl) ?_
          refine lv_iload_n hx hb dX8_doMeet_174 rfl (lv_at hl 4 rfl) ?_
          refine lv_iconst (v := 1) hx hb dX8_doMeet_175 (by decide) ?_
          refine lv_iadd hx hb dX8_doMeet_176 ?_
          refine yk_ti (y := nI (k + 1)) (nI_add k 1) ?_
          refine yk_i [0, 1] (va_runV (As := [.int (nI (k + 1))]) (rest := [.int (f_X8_yOf nw k n), .int (f_X8_xOf nw k n)]) ⟨hx, hb, hml, hown, hts⟩ (c_X8_xOf l D cy ta m_now m_undone m_slots m_slotKind m_hasSlot m_sheetBits m_sheetSize m_sheets m_fresh m_rootWhich m_signs m_atNought m_change m_table m_carried nw u fi aa bb dd ro db mn (k + 1) n (by first | assumption | omega) (by first | assumption | omega) (by first | assumption | omega) (by first | assumption | omega) H.size) (cwV 1 hts gX8_doMeet_X8_xOf rfl rfl rfl hv_X8_xOf (yk_room hRf hRl rfl rfl)) (yk_pv (q := (RX8, TX8, 23)) hG hA hS hK hP hD [0, 1] (by decide +kernel) rfl rfl rfl) rfl rfl hl.1 rfl (lv_room (Nat.le_of_ble_eq_true rfl)) dX8_doMeet_177 ⟨Nat.zero_le _, Nat.zero_le _⟩) hP hD hS hA rfl rfl (fun H locs hP9 hD9 hS9 => ?_)
          replace hP : va_P D vwCl [(ta, .inr (8, [.ref m_now, .ref m_undone, .ref m_slots, .ref m_slotKind, .ref m_hasSlot, .ref m_sheetBits, .ref m_sheetSize, .ref m_sheets, .int (nI u), .int fi, .ref m_fresh, .long aa, .long bb, .long dd, .int (nI ro), .ref m_rootWhich, .int db, .ref m_signs, .ref m_atNought, .int (nI mn), .ref m_change, .ref m_table, .ref m_carried])), (m_now, .inl (cy 0, 29, .inl nw))] H := hP9
          replace hD : va_D A [(ta, .inr (8, [.ref m_now, .ref m_undone, .ref m_slots, .ref m_slotKind, .ref m_hasSlot, .ref m_sheetBits, .ref m_sheetSize, .ref m_sheets, .int (nI u), .int fi, .ref m_fresh, .long aa, .long bb, .long dd, .int (nI ro), .ref m_rootWhich, .int db, .ref m_signs, .ref m_atNought, .int (nI mn), .ref m_change, .ref m_table, .ref m_carried])), (m_now, .inl (cy 0, 29, .inl nw))] := hD9
          replace hS := hS9
          clear hP9 hD9 hS9
          refine lv_aload_n hx hb dX8_doMeet_180 rfl (lv_at hl 2 rfl) ?_
          refine lv_iload_n hx hb dX8_doMeet_181 rfl (lv_at hl 4 rfl) ?_
          refine lv_iconst (v := 1) hx hb dX8_doMeet_182 (by decide) ?_
          refine lv_iadd hx hb dX8_doMeet_183 ?_
          refine yk_ti (y := nI (k + 1)) (nI_add k 1) ?_
          refine yk_i [0, 1] (va_runV (As := [.int (nI (k + 1))]) (rest := [.int (f_X8_xOf nw (k + 1) n), .int (f_X8_yOf nw k n), .int (f_X8_xOf nw k n)]) ⟨hx, hb, hml, hown, hts⟩ (c_X8_yOf l D cy ta m_now m_undone m_slots m_slotKind m_hasSlot m_sheetBits m_sheetSize m_sheets m_fresh m_rootWhich m_signs m_atNought m_change m_table m_carried nw u fi aa bb dd ro db mn (k + 1) n (by first | assumption | omega) (by first | assumption | omega) (by first | assumption | omega) (by first | assumption | omega) H.size) (cwV 1 hts gX8_doMeet_X8_yOf rfl rfl rfl hv_X8_yOf (yk_room hRf hRl rfl rfl)) (yk_pv (q := (RX8, TX8, 23)) hG hA hS hK hP hD [0, 1] (by decide +kernel) rfl rfl rfl) rfl rfl hl.1 rfl (lv_room (Nat.le_of_ble_eq_true rfl)) dX8_doMeet_184 ⟨Nat.zero_le _, Nat.zero_le _⟩) hP hD hS hA rfl rfl (fun H locs hP9 hD9 hS9 => ?_)
          replace hP : va_P D vwCl [(ta, .inr (8, [.ref m_now, .ref m_undone, .ref m_slots, .ref m_slotKind, .ref m_hasSlot, .ref m_sheetBits, .ref m_sheetSize, .ref m_sheets, .int (nI u), .int fi, .ref m_fresh, .long aa, .long bb, .long dd, .int (nI ro), .ref m_rootWhich, .int db, .ref m_signs, .ref m_atNought, .int (nI mn), .ref m_change, .ref m_table, .ref m_carried])), (m_now, .inl (cy 0, 29, .inl nw))] H := hP9
          replace hD : va_D A [(ta, .inr (8, [.ref m_now, .ref m_undone, .ref m_slots, .ref m_slotKind, .ref m_hasSlot, .ref m_sheetBits, .ref m_sheetSize, .ref m_sheets, .int (nI u), .int fi, .ref m_fresh, .long aa, .long bb, .long dd, .int (nI ro), .ref m_rootWhich, .int db, .ref m_signs, .ref m_atNought, .int (nI mn), .ref m_change, .ref m_table, .ref m_carried])), (m_now, .inl (cy 0, 29, .inl nw))] := hD9
          replace hS := hS9
          clear hP9 hD9 hS9
          refine lv_aload_n hx hb dX8_doMeet_187 rfl (lv_at hl 2 rfl) ?_
          refine lv_iload_n hx hb dX8_doMeet_188 rfl (lv_at hl 3 rfl) ?_
          refine yk_i [0, 1] (va_runV (As := [.int (nI j)]) (rest := [.int (f_X8_yOf nw (k + 1) n), .int (f_X8_xOf nw (k + 1) n), .int (f_X8_yOf nw k n), .int (f_X8_xOf nw k n)]) ⟨hx, hb, hml, hown, hts⟩ (c_X8_xOf l D cy ta m_now m_undone m_slots m_slotKind m_hasSlot m_sheetBits m_sheetSize m_sheets m_fresh m_rootWhich m_signs m_atNought m_change m_table m_carried nw u fi aa bb dd ro db mn j n (by first | assumption | omega) (by first | assumption | omega) (by first | assumption | omega) (by first | assumption | omega) H.size) (cwV 1 hts gX8_doMeet_X8_xOf rfl rfl rfl hv_X8_xOf (yk_room hRf hRl rfl rfl)) (yk_pv (q := (RX8, TX8, 23)) hG hA hS hK hP hD [0, 1] (by decide +kernel) rfl rfl rfl) rfl rfl hl.1 rfl (lv_room (Nat.le_of_ble_eq_true rfl)) dX8_doMeet_189 ⟨Nat.zero_le _, Nat.zero_le _⟩) hP hD hS hA rfl rfl (fun H locs hP9 hD9 hS9 => ?_)
          replace hP : va_P D vwCl [(ta, .inr (8, [.ref m_now, .ref m_undone, .ref m_slots, .ref m_slotKind, .ref m_hasSlot, .ref m_sheetBits, .ref m_sheetSize, .ref m_sheets, .int (nI u), .int fi, .ref m_fresh, .long aa, .long bb, .long dd, .int (nI ro), .ref m_rootWhich, .int db, .ref m_signs, .ref m_atNought, .int (nI mn), .ref m_change, .ref m_table, .ref m_carried])), (m_now, .inl (cy 0, 29, .inl nw))] H := hP9
          replace hD : va_D A [(ta, .inr (8, [.ref m_now, .ref m_undone, .ref m_slots, .ref m_slotKind, .ref m_hasSlot, .ref m_sheetBits, .ref m_sheetSize, .ref m_sheets, .int (nI u), .int fi, .ref m_fresh, .long aa, .long bb, .long dd, .int (nI ro), .ref m_rootWhich, .int db, .ref m_signs, .ref m_atNought, .int (nI mn), .ref m_change, .ref m_table, .ref m_carried])), (m_now, .inl (cy 0, 29, .inl nw))] := hD9
          replace hS := hS9
          clear hP9 hD9 hS9
          refine lv_aload_n hx hb dX8_doMeet_192 rfl (lv_at hl 2 rfl) ?_
          refine lv_iload_n hx hb dX8_doMeet_193 rfl (lv_at hl 3 rfl) ?_
          refine yk_i [0, 1] (va_runV (As := [.int (nI j)]) (rest := [.int (f_X8_xOf nw j n), .int (f_X8_yOf nw (k + 1) n), .int (f_X8_xOf nw (k + 1) n), .int (f_X8_yOf nw k n), .int (f_X8_xOf nw k n)]) ⟨hx, hb, hml, hown, hts⟩ (c_X8_yOf l D cy ta m_now m_undone m_slots m_slotKind m_hasSlot m_sheetBits m_sheetSize m_sheets m_fresh m_rootWhich m_signs m_atNought m_change m_table m_carried nw u fi aa bb dd ro db mn j n (by first | assumption | omega) (by first | assumption | omega) (by first | assumption | omega) (by first | assumption | omega) H.size) (cwV 1 hts gX8_doMeet_X8_yOf rfl rfl rfl hv_X8_yOf (yk_room hRf hRl rfl rfl)) (yk_pv (q := (RX8, TX8, 23)) hG hA hS hK hP hD [0, 1] (by decide +kernel) rfl rfl rfl) rfl rfl hl.1 rfl (lv_room (Nat.le_of_ble_eq_true rfl)) dX8_doMeet_194 ⟨Nat.zero_le _, Nat.zero_le _⟩) hP hD hS hA rfl rfl (fun H locs hP9 hD9 hS9 => ?_)
          replace hP : va_P D vwCl [(ta, .inr (8, [.ref m_now, .ref m_undone, .ref m_slots, .ref m_slotKind, .ref m_hasSlot, .ref m_sheetBits, .ref m_sheetSize, .ref m_sheets, .int (nI u), .int fi, .ref m_fresh, .long aa, .long bb, .long dd, .int (nI ro), .ref m_rootWhich, .int db, .ref m_signs, .ref m_atNought, .int (nI mn), .ref m_change, .ref m_table, .ref m_carried])), (m_now, .inl (cy 0, 29, .inl nw))] H := hP9
          replace hD : va_D A [(ta, .inr (8, [.ref m_now, .ref m_undone, .ref m_slots, .ref m_slotKind, .ref m_hasSlot, .ref m_sheetBits, .ref m_sheetSize, .ref m_sheets, .int (nI u), .int fi, .ref m_fresh, .long aa, .long bb, .long dd, .int (nI ro), .ref m_rootWhich, .int db, .ref m_signs, .ref m_atNought, .int (nI mn), .ref m_change, .ref m_table, .ref m_carried])), (m_now, .inl (cy 0, 29, .inl nw))] := hD9
          replace hS := hS9
          clear hP9 hD9 hS9
          refine yk_i [] (va_runS (As := [.int (f_X8_xOf nw k n), .int (f_X8_yOf nw k n), .int (f_X8_xOf nw (k + 1) n), .int (f_X8_yOf nw (k + 1) n), .int (f_X8_xOf nw j n), .int (f_X8_yOf nw j n)]) (rest := []) ⟨hx, hb, hml, hown, hts⟩ (c_X8_turn l D cy (f_X8_xOf nw k n) (f_X8_yOf nw k n) (f_X8_xOf nw (k + 1) n) (f_X8_yOf nw (k + 1) n) (f_X8_xOf nw j n) (f_X8_yOf nw j n) H.size) (va_cwS 6 hts gX8_doMeet_X8_turn rfl rfl rfl hs_X8_turn (yk_room hRf hRl rfl rfl)) (yk_ps hG hA hS hK hP hD [] (by decide +kernel) rfl) rfl rfl hl.1 rfl (lv_room (Nat.le_of_ble_eq_true rfl)) dX8_doMeet_197 ⟨Nat.zero_le _, Nat.zero_le _⟩) hP hD hS hA rfl rfl (fun H locs hP9 hD9 hS9 => ?_)
          replace hP : va_P D vwCl [(ta, .inr (8, [.ref m_now, .ref m_undone, .ref m_slots, .ref m_slotKind, .ref m_hasSlot, .ref m_sheetBits, .ref m_sheetSize, .ref m_sheets, .int (nI u), .int fi, .ref m_fresh, .long aa, .long bb, .long dd, .int (nI ro), .ref m_rootWhich, .int db, .ref m_signs, .ref m_atNought, .int (nI mn), .ref m_change, .ref m_table, .ref m_carried])), (m_now, .inl (cy 0, 29, .inl nw))] H := hP9
          replace hD : va_D A [(ta, .inr (8, [.ref m_now, .ref m_undone, .ref m_slots, .ref m_slotKind, .ref m_hasSlot, .ref m_sheetBits, .ref m_sheetSize, .ref m_sheets, .int (nI u), .int fi, .ref m_fresh, .long aa, .long bb, .long dd, .int (nI ro), .ref m_rootWhich, .int db, .ref m_signs, .ref m_atNought, .int (nI mn), .ref m_change, .ref m_table, .ref m_carried])), (m_now, .inl (cy 0, 29, .inl nw))] := hD9
          replace hS := hS9
          clear hP9 hD9 hS9
          refine lv_istore (lv' := [(5, .int (f_X8_turn (f_X8_xOf nw k n) (f_X8_yOf nw k n) (f_X8_xOf nw (k + 1) n) (f_X8_yOf nw (k + 1) n) (f_X8_xOf nw j n) (f_X8_yOf nw j n))), (4, .int (f_X8_turn (f_X8_xOf nw j n) (f_X8_yOf nw j n) (f_X8_xOf nw (j + 1) n) (f_X8_yOf nw (j + 1) n) (f_X8_xOf nw (k + 1) n) (f_X8_yOf nw (k + 1) n))), (3, .int (f_X8_turn (f_X8_xOf nw j n) (f_X8_yOf nw j n) (f_X8_xOf nw (j + 1) n) (f_X8_yOf nw (j + 1) n) (f_X8_xOf nw k n) (f_X8_yOf nw k n))), (0, .ref ta), (1, .int (nI j)), (2, .int (nI k))]) hx hb dX8_doMeet_200 hl (by decide) rfl (fun ls hl9 => ?_)
          replace hl := hl9
          clear hl9
          refine lv_aload_n hx hb dX8_doMeet_202 rfl (lv_at hl 3 rfl) ?_
          refine lv_iload_n hx hb dX8_doMeet_203 rfl (lv_at hl 5 rfl) ?_
          refine yk_i [0, 1] (va_runV (As := [.int (nI k)]) (rest := []) ⟨hx, hb, hml, hown, hts⟩ (c_X8_xOf l D cy ta m_now m_undone m_slots m_slotKind m_hasSlot m_sheetBits m_sheetSize m_sheets m_fresh m_rootWhich m_signs m_atNought m_change m_table m_carried nw u fi aa bb dd ro db mn k n (by first | assumption | omega) (by first | assumption | omega) (by first | assumption | omega) (by first | assumption | omega) H.size) (cwV 1 hts gX8_doMeet_X8_xOf rfl rfl rfl hv_X8_xOf (yk_room hRf hRl rfl rfl)) (yk_pv (q := (RX8, TX8, 23)) hG hA hS hK hP hD [0, 1] (by decide +kernel) rfl rfl rfl) rfl rfl hl.1 rfl (lv_room (Nat.le_of_ble_eq_true rfl)) dX8_doMeet_204 ⟨Nat.zero_le _, Nat.zero_le _⟩) hP hD hS hA rfl rfl (fun H locs hP9 hD9 hS9 => ?_)
          replace hP : va_P D vwCl [(ta, .inr (8, [.ref m_now, .ref m_undone, .ref m_slots, .ref m_slotKind, .ref m_hasSlot, .ref m_sheetBits, .ref m_sheetSize, .ref m_sheets, .int (nI u), .int fi, .ref m_fresh, .long aa, .long bb, .long dd, .int (nI ro), .ref m_rootWhich, .int db, .ref m_signs, .ref m_atNought, .int (nI mn), .ref m_change, .ref m_table, .ref m_carried])), (m_now, .inl (cy 0, 29, .inl nw))] H := hP9
          replace hD : va_D A [(ta, .inr (8, [.ref m_now, .ref m_undone, .ref m_slots, .ref m_slotKind, .ref m_hasSlot, .ref m_sheetBits, .ref m_sheetSize, .ref m_sheets, .int (nI u), .int fi, .ref m_fresh, .long aa, .long bb, .long dd, .int (nI ro), .ref m_rootWhich, .int db, .ref m_signs, .ref m_atNought, .int (nI mn), .ref m_change, .ref m_table, .ref m_carried])), (m_now, .inl (cy 0, 29, .inl nw))] := hD9
          replace hS := hS9
          clear hP9 hD9 hS9
          refine lv_aload_n hx hb dX8_doMeet_207 rfl (lv_at hl 3 rfl) ?_
          refine lv_iload_n hx hb dX8_doMeet_208 rfl (lv_at hl 5 rfl) ?_
          refine yk_i [0, 1] (va_runV (As := [.int (nI k)]) (rest := [.int (f_X8_xOf nw k n)]) ⟨hx, hb, hml, hown, hts⟩ (c_X8_yOf l D cy ta m_now m_undone m_slots m_slotKind m_hasSlot m_sheetBits m_sheetSize m_sheets m_fresh m_rootWhich m_signs m_atNought m_change m_table m_carried nw u fi aa bb dd ro db mn k n (by first | assumption | omega) (by first | assumption | omega) (by first | assumption | omega) (by first | assumption | omega) H.size) (cwV 1 hts gX8_doMeet_X8_yOf rfl rfl rfl hv_X8_yOf (yk_room hRf hRl rfl rfl)) (yk_pv (q := (RX8, TX8, 23)) hG hA hS hK hP hD [0, 1] (by decide +kernel) rfl rfl rfl) rfl rfl hl.1 rfl (lv_room (Nat.le_of_ble_eq_true rfl)) dX8_doMeet_209 ⟨Nat.zero_le _, Nat.zero_le _⟩) hP hD hS hA rfl rfl (fun H locs hP9 hD9 hS9 => ?_)
          replace hP : va_P D vwCl [(ta, .inr (8, [.ref m_now, .ref m_undone, .ref m_slots, .ref m_slotKind, .ref m_hasSlot, .ref m_sheetBits, .ref m_sheetSize, .ref m_sheets, .int (nI u), .int fi, .ref m_fresh, .long aa, .long bb, .long dd, .int (nI ro), .ref m_rootWhich, .int db, .ref m_signs, .ref m_atNought, .int (nI mn), .ref m_change, .ref m_table, .ref m_carried])), (m_now, .inl (cy 0, 29, .inl nw))] H := hP9
          replace hD : va_D A [(ta, .inr (8, [.ref m_now, .ref m_undone, .ref m_slots, .ref m_slotKind, .ref m_hasSlot, .ref m_sheetBits, .ref m_sheetSize, .ref m_sheets, .int (nI u), .int fi, .ref m_fresh, .long aa, .long bb, .long dd, .int (nI ro), .ref m_rootWhich, .int db, .ref m_signs, .ref m_atNought, .int (nI mn), .ref m_change, .ref m_table, .ref m_carried])), (m_now, .inl (cy 0, 29, .inl nw))] := hD9
          replace hS := hS9
          clear hP9 hD9 hS9
          refine lv_aload_n hx hb dX8_doMeet_212 rfl (lv_at hl 3 rfl) ?_
          refine lv_iload_n hx hb dX8_doMeet_213 rfl (lv_at hl 5 rfl) ?_
          refine lv_iconst (v := 1) hx hb dX8_doMeet_214 (by decide) ?_
          refine lv_iadd hx hb dX8_doMeet_215 ?_
          refine yk_ti (y := nI (k + 1)) (nI_add k 1) ?_
          refine yk_i [0, 1] (va_runV (As := [.int (nI (k + 1))]) (rest := [.int (f_X8_yOf nw k n), .int (f_X8_xOf nw k n)]) ⟨hx, hb, hml, hown, hts⟩ (c_X8_xOf l D cy ta m_now m_undone m_slots m_slotKind m_hasSlot m_sheetBits m_sheetSize m_sheets m_fresh m_rootWhich m_signs m_atNought m_change m_table m_carried nw u fi aa bb dd ro db mn (k + 1) n (by first | assumption | omega) (by first | assumption | omega) (by first | assumption | omega) (by first | assumption | omega) H.size) (cwV 1 hts gX8_doMeet_X8_xOf rfl rfl rfl hv_X8_xOf (yk_room hRf hRl rfl rfl)) (yk_pv (q := (RX8, TX8, 23)) hG hA hS hK hP hD [0, 1] (by decide +kernel) rfl rfl rfl) rfl rfl hl.1 rfl (lv_room (Nat.le_of_ble_eq_true rfl)) dX8_doMeet_216 ⟨Nat.zero_le _, Nat.zero_le _⟩) hP hD hS hA rfl rfl (fun H locs hP9 hD9 hS9 => ?_)
          replace hP : va_P D vwCl [(ta, .inr (8, [.ref m_now, .ref m_undone, .ref m_slots, .ref m_slotKind, .ref m_hasSlot, .ref m_sheetBits, .ref m_sheetSize, .ref m_sheets, .int (nI u), .int fi, .ref m_fresh, .long aa, .long bb, .long dd, .int (nI ro), .ref m_rootWhich, .int db, .ref m_signs, .ref m_atNought, .int (nI mn), .ref m_change, .ref m_table, .ref m_carried])), (m_now, .inl (cy 0, 29, .inl nw))] H := hP9
          replace hD : va_D A [(ta, .inr (8, [.ref m_now, .ref m_undone, .ref m_slots, .ref m_slotKind, .ref m_hasSlot, .ref m_sheetBits, .ref m_sheetSize, .ref m_sheets, .int (nI u), .int fi, .ref m_fresh, .long aa, .long bb, .long dd, .int (nI ro), .ref m_rootWhich, .int db, .ref m_signs, .ref m_atNought, .int (nI mn), .ref m_change, .ref m_table, .ref m_carried])), (m_now, .inl (cy 0, 29, .inl nw))] := hD9
          replace hS := hS9
          clear hP9 hD9 hS9
          refine lv_aload_n hx hb dX8_doMeet_219 rfl (lv_at hl 3 rfl) ?_
          refine lv_iload_n hx hb dX8_doMeet_220 rfl (lv_at hl 5 rfl) ?_
          refine lv_iconst (v := 1) hx hb dX8_doMeet_221 (by decide) ?_
          refine lv_iadd hx hb dX8_doMeet_222 ?_
          refine yk_ti (y := nI (k + 1)) (nI_add k 1) ?_
          refine yk_i [0, 1] (va_runV (As := [.int (nI (k + 1))]) (rest := [.int (f_X8_xOf nw (k + 1) n), .int (f_X8_yOf nw k n), .int (f_X8_xOf nw k n)]) ⟨hx, hb, hml, hown, hts⟩ (c_X8_yOf l D cy ta m_now m_undone m_slots m_slotKind m_hasSlot m_sheetBits m_sheetSize m_sheets m_fresh m_rootWhich m_signs m_atNought m_change m_table m_carried nw u fi aa bb dd ro db mn (k + 1) n (by first | assumption | omega) (by first | assumption | omega) (by first | assumption | omega) (by first | assumption | omega) H.size) (cwV 1 hts gX8_doMeet_X8_yOf rfl rfl rfl hv_X8_yOf (yk_room hRf hRl rfl rfl)) (yk_pv (q := (RX8, TX8, 23)) hG hA hS hK hP hD [0, 1] (by decide +kernel) rfl rfl rfl) rfl rfl hl.1 rfl (lv_room (Nat.le_of_ble_eq_true rfl)) dX8_doMeet_223 ⟨Nat.zero_le _, Nat.zero_le _⟩) hP hD hS hA rfl rfl (fun H locs hP9 hD9 hS9 => ?_)
          replace hP : va_P D vwCl [(ta, .inr (8, [.ref m_now, .ref m_undone, .ref m_slots, .ref m_slotKind, .ref m_hasSlot, .ref m_sheetBits, .ref m_sheetSize, .ref m_sheets, .int (nI u), .int fi, .ref m_fresh, .long aa, .long bb, .long dd, .int (nI ro), .ref m_rootWhich, .int db, .ref m_signs, .ref m_atNought, .int (nI mn), .ref m_change, .ref m_table, .ref m_carried])), (m_now, .inl (cy 0, 29, .inl nw))] H := hP9
          replace hD : va_D A [(ta, .inr (8, [.ref m_now, .ref m_undone, .ref m_slots, .ref m_slotKind, .ref m_hasSlot, .ref m_sheetBits, .ref m_sheetSize, .ref m_sheets, .int (nI u), .int fi, .ref m_fresh, .long aa, .long bb, .long dd, .int (nI ro), .ref m_rootWhich, .int db, .ref m_signs, .ref m_atNought, .int (nI mn), .ref m_change, .ref m_table, .ref m_carried])), (m_now, .inl (cy 0, 29, .inl nw))] := hD9
          replace hS := hS9
          clear hP9 hD9 hS9
          refine lv_aload_n hx hb dX8_doMeet_226 rfl (lv_at hl 3 rfl) ?_
          refine lv_iload_n hx hb dX8_doMeet_227 rfl (lv_at hl 4 rfl) ?_
          refine lv_iconst (v := 1) hx hb dX8_doMeet_228 (by decide) ?_
          refine lv_iadd hx hb dX8_doMeet_229 ?_
          refine yk_ti (y := nI (j + 1)) (nI_add j 1) ?_
          refine yk_i [0, 1] (va_runV (As := [.int (nI (j + 1))]) (rest := [.int (f_X8_yOf nw (k + 1) n), .int (f_X8_xOf nw (k + 1) n), .int (f_X8_yOf nw k n), .int (f_X8_xOf nw k n)]) ⟨hx, hb, hml, hown, hts⟩ (c_X8_xOf l D cy ta m_now m_undone m_slots m_slotKind m_hasSlot m_sheetBits m_sheetSize m_sheets m_fresh m_rootWhich m_signs m_atNought m_change m_table m_carried nw u fi aa bb dd ro db mn (j + 1) n (by first | assumption | omega) (by first | assumption | omega) (by first | assumption | omega) (by first | assumption | omega) H.size) (cwV 1 hts gX8_doMeet_X8_xOf rfl rfl rfl hv_X8_xOf (yk_room hRf hRl rfl rfl)) (yk_pv (q := (RX8, TX8, 23)) hG hA hS hK hP hD [0, 1] (by decide +kernel) rfl rfl rfl) rfl rfl hl.1 rfl (lv_room (Nat.le_of_ble_eq_true rfl)) dX8_doMeet_230 ⟨Nat.zero_le _, Nat.zero_le _⟩) hP hD hS hA rfl rfl (fun H locs hP9 hD9 hS9 => ?_)
          replace hP : va_P D vwCl [(ta, .inr (8, [.ref m_now, .ref m_undone, .ref m_slots, .ref m_slotKind, .ref m_hasSlot, .ref m_sheetBits, .ref m_sheetSize, .ref m_sheets, .int (nI u), .int fi, .ref m_fresh, .long aa, .long bb, .long dd, .int (nI ro), .ref m_rootWhich, .int db, .ref m_signs, .ref m_atNought, .int (nI mn), .ref m_change, .ref m_table, .ref m_carried])), (m_now, .inl (cy 0, 29, .inl nw))] H := hP9
          replace hD : va_D A [(ta, .inr (8, [.ref m_now, .ref m_undone, .ref m_slots, .ref m_slotKind, .ref m_hasSlot, .ref m_sheetBits, .ref m_sheetSize, .ref m_sheets, .int (nI u), .int fi, .ref m_fresh, .long aa, .long bb, .long dd, .int (nI ro), .ref m_rootWhich, .int db, .ref m_signs, .ref m_atNought, .int (nI mn), .ref m_change, .ref m_table, .ref m_carried])), (m_now, .inl (cy 0, 29, .inl nw))] := hD9
          replace hS := hS9
          clear hP9 hD9 hS9
          refine lv_aload_n hx hb dX8_doMeet_233 rfl (lv_at hl 3 rfl) ?_
          refine lv_iload_n hx hb dX8_doMeet_234 rfl (lv_at hl 4 rfl) ?_
          refine lv_iconst (v := 1) hx hb dX8_doMeet_235 (by decide) ?_
          refine lv_iadd hx hb dX8_doMeet_236 ?_
          refine yk_ti (y := nI (j + 1)) (nI_add j 1) ?_
          refine yk_i [0, 1] (va_runV (As := [.int (nI (j + 1))]) (rest := [.int (f_X8_xOf nw (j + 1) n), .int (f_X8_yOf nw (k + 1) n), .int (f_X8_xOf nw (k + 1) n), .int (f_X8_yOf nw k n), .int (f_X8_xOf nw k n)]) ⟨hx, hb, hml, hown, hts⟩ (c_X8_yOf l D cy ta m_now m_undone m_slots m_slotKind m_hasSlot m_sheetBits m_sheetSize m_sheets m_fresh m_rootWhich m_signs m_atNought m_change m_table m_carried nw u fi aa bb dd ro db mn (j + 1) n (by first | assumption | omega) (by first | assumption | omega) (by first | assumption | omega) (by first | assumption | omega) H.size) (cwV 1 hts gX8_doMeet_X8_yOf rfl rfl rfl hv_X8_yOf (yk_room hRf hRl rfl rfl)) (yk_pv (q := (RX8, TX8, 23)) hG hA hS hK hP hD [0, 1] (by decide +kernel) rfl rfl rfl) rfl rfl hl.1 rfl (lv_room (Nat.le_of_ble_eq_true rfl)) dX8_doMeet_237 ⟨Nat.zero_le _, Nat.zero_le _⟩) hP hD hS hA rfl rfl (fun H locs hP9 hD9 hS9 => ?_)
          replace hP : va_P D vwCl [(ta, .inr (8, [.ref m_now, .ref m_undone, .ref m_slots, .ref m_slotKind, .ref m_hasSlot, .ref m_sheetBits, .ref m_sheetSize, .ref m_sheets, .int (nI u), .int fi, .ref m_fresh, .long aa, .long bb, .long dd, .int (nI ro), .ref m_rootWhich, .int db, .ref m_signs, .ref m_atNought, .int (nI mn), .ref m_change, .ref m_table, .ref m_carried])), (m_now, .inl (cy 0, 29, .inl nw))] H := hP9
          replace hD : va_D A [(ta, .inr (8, [.ref m_now, .ref m_undone, .ref m_slots, .ref m_slotKind, .ref m_hasSlot, .ref m_sheetBits, .ref m_sheetSize, .ref m_sheets, .int (nI u), .int fi, .ref m_fresh, .long aa, .long bb, .long dd, .int (nI ro), .ref m_rootWhich, .int db, .ref m_signs, .ref m_atNought, .int (nI mn), .ref m_change, .ref m_table, .ref m_carried])), (m_now, .inl (cy 0, 29, .inl nw))] := hD9
          replace hS := hS9
          clear hP9 hD9 hS9
          refine yk_i [] (va_runS (As := [.int (f_X8_xOf nw k n), .int (f_X8_yOf nw k n), .int (f_X8_xOf nw (k + 1) n), .int (f_X8_yOf nw (k + 1) n), .int (f_X8_xOf nw (j + 1) n), .int (f_X8_yOf nw (j + 1) n)]) (rest := []) ⟨hx, hb, hml, hown, hts⟩ (c_X8_turn l D cy (f_X8_xOf nw k n) (f_X8_yOf nw k n) (f_X8_xOf nw (k + 1) n) (f_X8_yOf nw (k + 1) n) (f_X8_xOf nw (j + 1) n) (f_X8_yOf nw (j + 1) n) H.size) (va_cwS 6 hts gX8_doMeet_X8_turn rfl rfl rfl hs_X8_turn (yk_room hRf hRl rfl rfl)) (yk_ps hG hA hS hK hP hD [] (by decide +kernel) rfl) rfl rfl hl.1 rfl (lv_room (Nat.le_of_ble_eq_true rfl)) dX8_doMeet_240 ⟨Nat.zero_le _, Nat.zero_le _⟩) hP hD hS hA rfl rfl (fun H locs hP9 hD9 hS9 => ?_)
          replace hP : va_P D vwCl [(ta, .inr (8, [.ref m_now, .ref m_undone, .ref m_slots, .ref m_slotKind, .ref m_hasSlot, .ref m_sheetBits, .ref m_sheetSize, .ref m_sheets, .int (nI u), .int fi, .ref m_fresh, .long aa, .long bb, .long dd, .int (nI ro), .ref m_rootWhich, .int db, .ref m_signs, .ref m_atNought, .int (nI mn), .ref m_change, .ref m_table, .ref m_carried])), (m_now, .inl (cy 0, 29, .inl nw))] H := hP9
          replace hD : va_D A [(ta, .inr (8, [.ref m_now, .ref m_undone, .ref m_slots, .ref m_slotKind, .ref m_hasSlot, .ref m_sheetBits, .ref m_sheetSize, .ref m_sheets, .int (nI u), .int fi, .ref m_fresh, .long aa, .long bb, .long dd, .int (nI ro), .ref m_rootWhich, .int db, .ref m_signs, .ref m_atNought, .int (nI mn), .ref m_change, .ref m_table, .ref m_carried])), (m_now, .inl (cy 0, 29, .inl nw))] := hD9
          replace hS := hS9
          clear hP9 hD9 hS9
          refine lv_istore (lv' := [(6, .int (f_X8_turn (f_X8_xOf nw k n) (f_X8_yOf nw k n) (f_X8_xOf nw (k + 1) n) (f_X8_yOf nw (k + 1) n) (f_X8_xOf nw (j + 1) n) (f_X8_yOf nw (j + 1) n))), (5, .int (f_X8_turn (f_X8_xOf nw k n) (f_X8_yOf nw k n) (f_X8_xOf nw (k + 1) n) (f_X8_yOf nw (k + 1) n) (f_X8_xOf nw j n) (f_X8_yOf nw j n))), (4, .int (f_X8_turn (f_X8_xOf nw j n) (f_X8_yOf nw j n) (f_X8_xOf nw (j + 1) n) (f_X8_yOf nw (j + 1) n) (f_X8_xOf nw (k + 1) n) (f_X8_yOf nw (k + 1) n))), (3, .int (f_X8_turn (f_X8_xOf nw j n) (f_X8_yOf nw j n) (f_X8_xOf nw (j + 1) n) (f_X8_yOf nw (j + 1) n) (f_X8_xOf nw k n) (f_X8_yOf nw k n))), (0, .ref ta), (1, .int (nI j)), (2, .int (nI k))]) hx hb dX8_doMeet_243 hl (by decide) rfl (fun ls hl9 => ?_)
          replace hl := hl9
          clear hl9
          refine lv_iload_n hx hb dX8_doMeet_245 rfl (lv_at hl 3 rfl) ?_
          refine lv_iload hx hb dX8_doMeet_246 (lv_at hl 2 rfl) ?_
          refine lv_imul hx hb dX8_doMeet_248 ?_
          have J8 : ∀ (v7 : Int32) (H : Heap) (locs : List Loc) (ls : Array Slot), v7 = (if 0 ≤ ((f_X8_turn (f_X8_xOf nw j n) (f_X8_yOf nw j n) (f_X8_xOf nw (j + 1) n) (f_X8_yOf nw (j + 1) n) (f_X8_xOf nw k n) (f_X8_yOf nw k n)) * (f_X8_turn (f_X8_xOf nw j n) (f_X8_yOf nw j n) (f_X8_xOf nw (j + 1) n) (f_X8_yOf nw (j + 1) n) (f_X8_xOf nw (k + 1) n) (f_X8_yOf nw (k + 1) n))) then 0 else (if 0 ≤ ((f_X8_turn (f_X8_xOf nw k n) (f_X8_yOf nw k n) (f_X8_xOf nw (k + 1) n) (f_X8_yOf nw (k + 1) n) (f_X8_xOf nw j n) (f_X8_yOf nw j n)) * (f_X8_turn (f_X8_xOf nw k n) (f_X8_yOf nw k n) (f_X8_xOf nw (k + 1) n) (f_X8_yOf nw (k + 1) n) (f_X8_xOf nw (j + 1) n) (f_X8_yOf nw (j + 1) n))) then 0 else 1)) → va_P D vwCl [(ta, .inr (8, [.ref m_now, .ref m_undone, .ref m_slots, .ref m_slotKind, .ref m_hasSlot, .ref m_sheetBits, .ref m_sheetSize, .ref m_sheets, .int (nI u), .int fi, .ref m_fresh, .long aa, .long bb, .long dd, .int (nI ro), .ref m_rootWhich, .int db, .ref m_signs, .ref m_atNought, .int (nI mn), .ref m_change, .ref m_table, .ref m_carried])), (m_now, .inl (cy 0, 29, .inl nw))] H → va_D A [(ta, .inr (8, [.ref m_now, .ref m_undone, .ref m_slots, .ref m_slotKind, .ref m_hasSlot, .ref m_sheetBits, .ref m_sheetSize, .ref m_sheets, .int (nI u), .int fi, .ref m_fresh, .long aa, .long bb, .long dd, .int (nI ro), .ref m_rootWhich, .int db, .ref m_signs, .ref m_atNought, .int (nI mn), .ref m_change, .ref m_table, .ref m_carried])), (m_now, .inl (cy 0, 29, .inl nw))] → va_S A s.heap H locs → lv_has ls 7 [(0, .ref ta), (1, .int (nI j)), (2, .int (nI k)), (3, .int (f_X8_turn (f_X8_xOf nw j n) (f_X8_yOf nw j n) (f_X8_xOf nw (j + 1) n) (f_X8_yOf nw (j + 1) n) (f_X8_xOf nw k n) (f_X8_yOf nw k n))), (4, .int (f_X8_turn (f_X8_xOf nw j n) (f_X8_yOf nw j n) (f_X8_xOf nw (j + 1) n) (f_X8_yOf nw (j + 1) n) (f_X8_xOf nw (k + 1) n) (f_X8_yOf nw (k + 1) n))), (5, .int (f_X8_turn (f_X8_xOf nw k n) (f_X8_yOf nw k n) (f_X8_xOf nw (k + 1) n) (f_X8_yOf nw (k + 1) n) (f_X8_xOf nw j n) (f_X8_yOf nw j n))), (6, .int (f_X8_turn (f_X8_xOf nw k n) (f_X8_yOf nw k n) (f_X8_xOf nw (k + 1) n) (f_X8_yOf nw (k + 1) n) (f_X8_xOf nw (j + 1) n) (f_X8_yOf nw (j + 1) n)))] → W p l e R s m args below meth c H locs 0 0 Q (F0 m 265 ls [.int v7]) := by
            clear hP hD hS hl
            intro v7 H locs ls ev7 hP hD hS hl
            subst ev7
            have hF : f_X8_doMeet nw j k n = (if 0 ≤ ((f_X8_turn (f_X8_xOf nw j n) (f_X8_yOf nw j n) (f_X8_xOf nw (j + 1) n) (f_X8_yOf nw (j + 1) n) (f_X8_xOf nw k n) (f_X8_yOf nw k n)) * (f_X8_turn (f_X8_xOf nw j n) (f_X8_yOf nw j n) (f_X8_xOf nw (j + 1) n) (f_X8_yOf nw (j + 1) n) (f_X8_xOf nw (k + 1) n) (f_X8_yOf nw (k + 1) n))) then 0 else (if 0 ≤ ((f_X8_turn (f_X8_xOf nw k n) (f_X8_yOf nw k n) (f_X8_xOf nw (k + 1) n) (f_X8_yOf nw (k + 1) n) (f_X8_xOf nw j n) (f_X8_yOf nw j n)) * (f_X8_turn (f_X8_xOf nw k n) (f_X8_yOf nw k n) (f_X8_xOf nw (k + 1) n) (f_X8_yOf nw (k + 1) n) (f_X8_xOf nw (j + 1) n) (f_X8_yOf nw (j + 1) n))) then 0 else 1)) := hF
            rw [hF] at hQ
            exact hQ _ _ _ _ dX8_doMeet_265 hP hS
          refine lv_if_ge (tgt := 264) hx hb dX8_doMeet_249 (by decide) (fun hc5 => ?_) (fun hc5 => ?_)
          · refine lv_iconst (v := 0) hx hb dX8_doMeet_264 (by decide) ?_
            exact J8 _ _ _ _ ((if_pos hc5).symm) hP hD hS (lv_sub hl [4, 5, 6, 3, 2, 1, 0] rfl)
          · refine lv_iload hx hb dX8_doMeet_252 (lv_at hl 1 rfl) ?_
            refine lv_iload hx hb dX8_doMeet_254 (lv_at hl 0 rfl) ?_
            refine lv_imul hx hb dX8_doMeet_256 ?_
            refine lv_if_ge (tgt := 264) hx hb dX8_doMeet_257 (by decide) (fun hc6 => ?_) (fun hc6 => ?_)
            · refine lv_iconst (v := 0) hx hb dX8_doMeet_264 (by decide) ?_
              exact J8 _ _ _ _ (((if_neg hc5).trans (if_pos hc6)).symm) hP hD hS (lv_sub hl [4, 5, 6, 3, 2, 1, 0] rfl)
            · refine lv_iconst (v := 1) hx hb dX8_doMeet_260 (by decide) ?_
              refine lv_goto (tgt := 265) hx hb dX8_doMeet_261 (by decide) ?_
              exact J8 _ _ _ _ (((if_neg hc5).trans (if_neg hc6)).symm) hP hD hS (lv_sub hl [4, 5, 6, 3, 2, 1, 0] rfl)
        · replace hF := hF.trans (if_neg hc4)
          refine lv_iconst (v := 1) hx hb dX8_doMeet_80 (by decide) ?_
          have hF : f_X8_doMeet nw j k n = 1 := hF
          rw [hF] at hQ
          exact hQ _ _ _ _ dX8_doMeet_81 hP hS

def l_X8_isSimple_129 (nw : Nat → Int32) (n : Nat) (ki2 : Nat) (kc : Nat → Int32) : Nat → Nat → Int32
  | 0, kj2 => 0
  | fu_X8_isSimple_129 + 1, kj2 => (if (nI ki2) ≤ (nI kj2) then (kc (ki2 + 1)) else (if ((if ((nI ki2) - (nI kj2)) = 1 then 1 else (if ((nI ki2) - (nI kj2)) = ((nI n) - 1) then 1 else 0)) : Int32) = 0 then (if (f_X8_doMeet nw ki2 kj2 n) = 0 then (l_X8_isSimple_129 nw n ki2 kc fu_X8_isSimple_129 (kj2 + 1)) else 0) else (l_X8_isSimple_129 nw n ki2 kc fu_X8_isSimple_129 (kj2 + 1))))
def l_X8_isSimple_68 (nw : Nat → Int32) (n : Nat) : Nat → Nat → Int32
  | 0, ki2 => 0
  | fu_X8_isSimple_68 + 1, ki2 => (if (nI n) ≤ (nI ki2) then 1 else (if (f_X8_isOn nw (ki2 + n - 1) (f_X8_xOf nw (ki2 + 1) n) (f_X8_yOf nw (ki2 + 1) n) n) = 0 then (if (f_X8_isOn nw ki2 (f_X8_xOf nw (ki2 + n - 1) n) (f_X8_yOf nw (ki2 + n - 1) n) n) = 0 then (l_X8_isSimple_129 nw n ki2 (fun ki2' => l_X8_isSimple_68 nw n fu_X8_isSimple_68 (ki2')) (ki2 + 1) 0) else 0) else 0))
def l_X8_isSimple_21 (nw : Nat → Int32) (n : Nat) (ki : Nat) (kc : Nat → Int32) : Nat → Nat → Int32
  | 0, kj => 0
  | fu_X8_isSimple_21 + 1, kj => (if (nI ki) ≤ (nI kj) then (kc (ki + 1)) else (if (f_X8_xOf nw ki n) = (f_X8_xOf nw kj n) then (if (f_X8_yOf nw ki n) = (f_X8_yOf nw kj n) then 0 else (l_X8_isSimple_21 nw n ki kc fu_X8_isSimple_21 (kj + 1))) else (l_X8_isSimple_21 nw n ki kc fu_X8_isSimple_21 (kj + 1))))
def l_X8_isSimple_14 (nw : Nat → Int32) (n : Nat) : Nat → Nat → Int32
  | 0, ki => 0
  | fu_X8_isSimple_14 + 1, ki => (if (nI n) ≤ (nI ki) then (l_X8_isSimple_68 nw n (n + 1) 0) else (l_X8_isSimple_21 nw n ki (fun ki' => l_X8_isSimple_14 nw n fu_X8_isSimple_14 (ki')) (ki + 1) 0))
def f_X8_isSimple (nw : Nat → Int32) (n : Nat) : Int32 := (if 3 ≤ (nI n) then (l_X8_isSimple_14 nw n (n + 1) 0) else 0)
theorem bl_X8_isSimple_129 (nw : Nat → Int32) (n : Nat) (ki2 : Nat) (kc : Nat → Int32) (hkc : ∀ (q0 : Nat), (kc q0) = 0 ∨ (kc q0) = 1) : ∀ (fz : Nat) (q0 : Nat), (l_X8_isSimple_129 nw n ki2 kc fz q0) = 0 ∨ (l_X8_isSimple_129 nw n ki2 kc fz q0) = 1
  | 0, _ => Or.inl rfl
  | fz + 1, _ => by
    unfold l_X8_isSimple_129
    (repeat' split) <;> first | exact Or.inl (by with_reducible rfl) | exact Or.inr (by with_reducible rfl) | exact hkc _ | exact bl_X8_isSimple_129 _ _ _ kc hkc fz _ | with_reducible exact b_X8_isOn _ _ _ _ _ | with_reducible exact b_X8_doMeet _ _ _ _
theorem bl_X8_isSimple_68 (nw : Nat → Int32) (n : Nat) : ∀ (fz : Nat) (q0 : Nat), (l_X8_isSimple_68 nw n fz q0) = 0 ∨ (l_X8_isSimple_68 nw n fz q0) = 1
  | 0, _ => Or.inl rfl
  | fz + 1, _ => by
    unfold l_X8_isSimple_68
    (repeat' split) <;> first | exact Or.inl (by with_reducible rfl) | exact Or.inr (by with_reducible rfl) | exact bl_X8_isSimple_68 _ _ fz _ | exact bl_X8_isSimple_129 _ _ _ _ (fun _ => bl_X8_isSimple_68 _ _ fz _) _ _ | with_reducible exact b_X8_isOn _ _ _ _ _ | with_reducible exact b_X8_doMeet _ _ _ _
theorem bl_X8_isSimple_21 (nw : Nat → Int32) (n : Nat) (ki : Nat) (kc : Nat → Int32) (hkc : ∀ (q0 : Nat), (kc q0) = 0 ∨ (kc q0) = 1) : ∀ (fz : Nat) (q0 : Nat), (l_X8_isSimple_21 nw n ki kc fz q0) = 0 ∨ (l_X8_isSimple_21 nw n ki kc fz q0) = 1
  | 0, _ => Or.inl rfl
  | fz + 1, _ => by
    unfold l_X8_isSimple_21
    (repeat' split) <;> first | exact Or.inl (by with_reducible rfl) | exact Or.inr (by with_reducible rfl) | exact hkc _ | exact bl_X8_isSimple_21 _ _ _ kc hkc fz _ | with_reducible exact bl_X8_isSimple_68 _ _ _ _ | with_reducible exact b_X8_isOn _ _ _ _ _ | with_reducible exact b_X8_doMeet _ _ _ _
theorem bl_X8_isSimple_14 (nw : Nat → Int32) (n : Nat) : ∀ (fz : Nat) (q0 : Nat), (l_X8_isSimple_14 nw n fz q0) = 0 ∨ (l_X8_isSimple_14 nw n fz q0) = 1
  | 0, _ => Or.inl rfl
  | fz + 1, _ => by
    unfold l_X8_isSimple_14
    (repeat' split) <;> first | exact Or.inl (by with_reducible rfl) | exact Or.inr (by with_reducible rfl) | exact bl_X8_isSimple_14 _ _ fz _ | exact bl_X8_isSimple_21 _ _ _ _ (fun _ => bl_X8_isSimple_14 _ _ fz _) _ _ | with_reducible exact bl_X8_isSimple_68 _ _ _ _ | with_reducible exact b_X8_isOn _ _ _ _ _ | with_reducible exact b_X8_doMeet _ _ _ _
theorem b_X8_isSimple (nw : Nat → Int32) (n : Nat) : (f_X8_isSimple nw n) = 0 ∨ (f_X8_isSimple nw n) = 1 := by
  unfold f_X8_isSimple; (repeat' split) <;> first | exact Or.inl (by with_reducible rfl) | exact Or.inr (by with_reducible rfl) | with_reducible exact b_X8_isOn _ _ _ _ _ | with_reducible exact b_X8_doMeet _ _ _ _ | with_reducible exact bl_X8_isSimple_68 _ _ _ _ | with_reducible exact bl_X8_isSimple_14 _ _ _ _
set_option maxHeartbeats 400000000 in
set_option maxRecDepth 100000 in
theorem c_X8_isSimple (l : Launch) (D : va_G) (cy : Nat → ClassId) (ta : Nat) (m_now : Nat) (m_undone : Nat) (m_slots : Nat) (m_slotKind : Nat) (m_hasSlot : Nat) (m_sheetBits : Nat) (m_sheetSize : Nat) (m_sheets : Nat) (m_fresh : Nat) (m_rootWhich : Nat) (m_signs : Nat) (m_atNought : Nat) (m_change : Nat) (m_table : Nat) (m_carried : Nat) (nw : Nat → Int32) (u : Nat) (fi : Int32) (aa : Int64) (bb : Int64) (dd : Int64) (ro : Nat) (db : Int32) (mn : Nat) (n : Nat) (hn12 : nw 12 = nI n) (hn : n ≤ 8) : yk_Ci l D vwCl (yk_ty cy) yX8_isSimple wsX8_isSimple 4 94 [.ref ta] [(ta, .inr (8, [.ref m_now, .ref m_undone, .ref m_slots, .ref m_slotKind, .ref m_hasSlot, .ref m_sheetBits, .ref m_sheetSize, .ref m_sheets, .int (nI u), .int fi, .ref m_fresh, .long aa, .long bb, .long dd, .int (nI ro), .ref m_rootWhich, .int db, .ref m_signs, .ref m_atNought, .int (nI mn), .ref m_change, .ref m_table, .ref m_carried])), (m_now, .inl (cy 0, 29, .inl nw))] (f_X8_isSimple nw n) [(ta, .inr (8, [.ref m_now, .ref m_undone, .ref m_slots, .ref m_slotKind, .ref m_hasSlot, .ref m_sheetBits, .ref m_sheetSize, .ref m_sheets, .int (nI u), .int fi, .ref m_fresh, .long aa, .long bb, .long dd, .int (nI ro), .ref m_rootWhich, .int db, .ref m_signs, .ref m_atNought, .int (nI mn), .ref m_change, .ref m_table, .ref m_carried])), (m_now, .inl (cy 0, 29, .inl nw))] := by
  refine yk_eI (cc := cX8_isSimple) (maxL := 5) (by decide) rfl (Nat.le_of_ble_eq_true rfl) (yk_nb (b_X8_isSimple nw n)) ?_
  intro p e R s m args below meth c A Q ls H locs hx hb hml hown hts hRf hRl hA hK hG hP hD hS hl hQ
  have hP : va_P D vwCl [(ta, .inr (8, [.ref m_now, .ref m_undone, .ref m_slots, .ref m_slotKind, .ref m_hasSlot, .ref m_sheetBits, .ref m_sheetSize, .ref m_sheets, .int (nI u), .int fi, .ref m_fresh, .long aa, .long bb, .long dd, .int (nI ro), .ref m_rootWhich, .int db, .ref m_signs, .ref m_atNought, .int (nI mn), .ref m_change, .ref m_table, .ref m_carried])), (m_now, .inl (cy 0, 29, .inl nw))] H := hP
  have hl : lv_has ls 5 [(0, .ref ta)] := hl
  have hown : s.vm.findClass RX8 = some m.cls := hown
  have hF : (f_X8_isSimple nw n) = (f_X8_isSimple nw n) := rfl
  refine lv_aload_n hx hb dX8_isSimple_0 rfl (lv_at hl 0 rfl) ?_
  refine yk_i [0, 1] (va_runV (As := []) (rest := []) ⟨hx, hb, hml, hown, hts⟩ (c_X8_corners l D cy ta m_now m_undone m_slots m_slotKind m_hasSlot m_sheetBits m_sheetSize m_sheets m_fresh m_rootWhich m_signs m_atNought m_change m_table m_carried nw u fi aa bb dd ro db mn H.size) (cwV 0 hts gX8_isSimple_X8_corners rfl rfl rfl hv_X8_corners (yk_room hRf hRl rfl rfl)) (yk_pv (q := (RX8, TX8, 23)) hG hA hS hK hP hD [0, 1] (by decide +kernel) rfl rfl rfl) rfl rfl hl.1 rfl (lv_room (Nat.le_of_ble_eq_true rfl)) dX8_isSimple_1 ⟨Nat.zero_le _, Nat.zero_le _⟩) hP hD hS hA rfl rfl (fun H locs hP9 hD9 hS9 => ?_)
  replace hP : va_P D vwCl [(ta, .inr (8, [.ref m_now, .ref m_undone, .ref m_slots, .ref m_slotKind, .ref m_hasSlot, .ref m_sheetBits, .ref m_sheetSize, .ref m_sheets, .int (nI u), .int fi, .ref m_fresh, .long aa, .long bb, .long dd, .int (nI ro), .ref m_rootWhich, .int db, .ref m_signs, .ref m_atNought, .int (nI mn), .ref m_change, .ref m_table, .ref m_carried])), (m_now, .inl (cy 0, 29, .inl nw))] H := hP9
  replace hD : va_D A [(ta, .inr (8, [.ref m_now, .ref m_undone, .ref m_slots, .ref m_slotKind, .ref m_hasSlot, .ref m_sheetBits, .ref m_sheetSize, .ref m_sheets, .int (nI u), .int fi, .ref m_fresh, .long aa, .long bb, .long dd, .int (nI ro), .ref m_rootWhich, .int db, .ref m_signs, .ref m_atNought, .int (nI mn), .ref m_change, .ref m_table, .ref m_carried])), (m_now, .inl (cy 0, 29, .inl nw))] := hD9
  replace hS := hS9
  clear hP9 hD9 hS9
  refine yk_ti (y := nI n) (hn12) ?_
  refine lv_istore_n (lv' := [(1, .int (nI n)), (0, .ref ta)]) hx hb dX8_isSimple_4 rfl hl (by decide) rfl (fun ls hl9 => ?_)
  replace hl := hl9
  clear hl9
  refine lv_iload_n hx hb dX8_isSimple_5 rfl (lv_at hl 0 rfl) ?_
  refine lv_iconst (v := 3) hx hb dX8_isSimple_6 (by decide) ?_
  refine lv_icmp_ge (tgt := 12) hx hb dX8_isSimple_7 (by decide) (fun hc1 => ?_) (fun hc1 => ?_)
  · replace hF := hF.trans (if_pos hc1)
    refine lv_iconst (v := 0) hx hb dX8_isSimple_12 (by decide) ?_
    refine lv_istore_n (lv' := [(2, .int 0), (1, .int (nI n)), (0, .ref ta)]) hx hb dX8_isSimple_13 rfl hl (by decide) rfl (fun ls hl9 => ?_)
    replace hl := hl9
    clear hl9
    have L14 : ∀ (M9 n14 ki : Nat) (H : Heap) (locs : List Loc) (ls : Array Slot), n14 < M9 → ki + n14 = n → f_X8_isSimple nw n = (l_X8_isSimple_14 nw n (n14 + 1) ki) → va_P D vwCl [(ta, .inr (8, [.ref m_now, .ref m_undone, .ref m_slots, .ref m_slotKind, .ref m_hasSlot, .ref m_sheetBits, .ref m_sheetSize, .ref m_sheets, .int (nI u), .int fi, .ref m_fresh, .long aa, .long bb, .long dd, .int (nI ro), .ref m_rootWhich, .int db, .ref m_signs, .ref m_atNought, .int (nI mn), .ref m_change, .ref m_table, .ref m_carried])), (m_now, .inl (cy 0, 29, .inl nw))] H → va_D A [(ta, .inr (8, [.ref m_now, .ref m_undone, .ref m_slots, .ref m_slotKind, .ref m_hasSlot, .ref m_sheetBits, .ref m_sheetSize, .ref m_sheets, .int (nI u), .int fi, .ref m_fresh, .long aa, .long bb, .long dd, .int (nI ro), .ref m_rootWhich, .int db, .ref m_signs, .ref m_atNought, .int (nI mn), .ref m_change, .ref m_table, .ref m_carried])), (m_now, .inl (cy 0, 29, .inl nw))] → va_S A s.heap H locs → lv_has ls 5 [(0, .ref ta), (1, .int (nI n)), (2, .int (nI ki))] → W p l e R s m args below meth c H locs 0 0 Q (F0 m 14 ls []) := by
      clear hP hD hS hl hF
      intro M9
      induction M9 with
      | zero => intro n14 ki _ _ _ hn; exact absurd hn (Nat.not_lt_zero _)
      | succ M9 ih14 =>
        intro n14 ki H locs ls hn14 hk14 hF hP hD hS hl
        refine lv_iload_n hx hb dX8_isSimple_14 rfl (lv_at hl 2 rfl) ?_
        refine lv_iload_n hx hb dX8_isSimple_15 rfl (lv_at hl 1 rfl) ?_
        refine lv_icmp_ge (tgt := 66) hx hb dX8_isSimple_16 (by decide) (fun hc2 => ?_) (fun hc2 => ?_)
        · replace hF := hF.trans (if_pos hc2)
          refine lv_iconst (v := 0) hx hb dX8_isSimple_66 (by decide) ?_
          refine lv_istore_n (lv' := [(2, .int 0), (0, .ref ta), (1, .int (nI n))]) hx hb dX8_isSimple_67 rfl hl (by decide) rfl (fun ls hl9 => ?_)
          replace hl := hl9
          clear hl9
          have L68 : ∀ (M9 n68 ki2 : Nat) (H : Heap) (locs : List Loc) (ls : Array Slot), n68 < M9 → ki2 + n68 = n → f_X8_isSimple nw n = (l_X8_isSimple_68 nw n (n68 + 1) ki2) → va_P D vwCl [(ta, .inr (8, [.ref m_now, .ref m_undone, .ref m_slots, .ref m_slotKind, .ref m_hasSlot, .ref m_sheetBits, .ref m_sheetSize, .ref m_sheets, .int (nI u), .int fi, .ref m_fresh, .long aa, .long bb, .long dd, .int (nI ro), .ref m_rootWhich, .int db, .ref m_signs, .ref m_atNought, .int (nI mn), .ref m_change, .ref m_table, .ref m_carried])), (m_now, .inl (cy 0, 29, .inl nw))] H → va_D A [(ta, .inr (8, [.ref m_now, .ref m_undone, .ref m_slots, .ref m_slotKind, .ref m_hasSlot, .ref m_sheetBits, .ref m_sheetSize, .ref m_sheets, .int (nI u), .int fi, .ref m_fresh, .long aa, .long bb, .long dd, .int (nI ro), .ref m_rootWhich, .int db, .ref m_signs, .ref m_atNought, .int (nI mn), .ref m_change, .ref m_table, .ref m_carried])), (m_now, .inl (cy 0, 29, .inl nw))] → va_S A s.heap H locs → lv_has ls 5 [(0, .ref ta), (1, .int (nI n)), (2, .int (nI ki2))] → W p l e R s m args below meth c H locs 0 0 Q (F0 m 68 ls []) := by
            clear hP hD hS hl hF
            intro M9
            induction M9 with
            | zero => intro n68 ki2 _ _ _ hn; exact absurd hn (Nat.not_lt_zero _)
            | succ M9 ih68 =>
              intro n68 ki2 H locs ls hn68 hk68 hF hP hD hS hl
              refine lv_iload_n hx hb dX8_isSimple_68 rfl (lv_at hl 2 rfl) ?_
              refine lv_iload_n hx hb dX8_isSimple_69 rfl (lv_at hl 1 rfl) ?_
              refine lv_icmp_ge (tgt := 185) hx hb dX8_isSimple_70 (by decide) (fun hc3 => ?_) (fun hc3 => ?_)
              · replace hF := hF.trans (if_pos hc3)
                refine lv_iconst (v := 1) hx hb dX8_isSimple_185 (by decide) ?_
                have hF : f_X8_isSimple nw n = 1 := hF
                rw [hF] at hQ
                exact hQ _ _ _ _ dX8_isSimple_186 hP hS
              · replace hF := hF.trans (if_neg hc3)
                have hlt68 : ki2 < n := yk_lt hk68 (by omega) hc3
                refine lv_aload_n hx hb dX8_isSimple_73 rfl (lv_at hl 0 rfl) ?_
                refine lv_iload_n hx hb dX8_isSimple_74 rfl (lv_at hl 2 rfl) ?_
                refine lv_iload_n hx hb dX8_isSimple_75 rfl (lv_at hl 1 rfl) ?_
                refine lv_iadd hx hb dX8_isSimple_76 ?_
                refine yk_ti (y := nI (ki2 + n)) (nI_add ki2 n) ?_
                refine lv_iconst (v := 1) hx hb dX8_isSimple_77 (by decide) ?_
                refine lv_isub hx hb dX8_isSimple_78 ?_
                refine yk_ti (y := nI (ki2 + n - 1)) (pk_sub (b := 1) (by omega)) ?_
                refine lv_aload_n hx hb dX8_isSimple_79 rfl (lv_at hl 0 rfl) ?_
                refine lv_iload_n hx hb dX8_isSimple_80 rfl (lv_at hl 2 rfl) ?_
                refine lv_iconst (v := 1) hx hb dX8_isSimple_81 (by decide) ?_
                refine lv_iadd hx hb dX8_isSimple_82 ?_
                refine yk_ti (y := nI (ki2 + 1)) (nI_add ki2 1) ?_
                refine yk_i [0, 1] (va_runV (As := [.int (nI (ki2 + 1))]) (rest := [.int (nI (ki2 + n - 1)), .ref ta]) ⟨hx, hb, hml, hown, hts⟩ (c_X8_xOf l D cy ta m_now m_undone m_slots m_slotKind m_hasSlot m_sheetBits m_sheetSize m_sheets m_fresh m_rootWhich m_signs m_atNought m_change m_table m_carried nw u fi aa bb dd ro db mn (ki2 + 1) n (by first | assumption | omega) (by first | assumption | omega) (by first | assumption | omega) (by first | assumption | omega) H.size) (cwV 1 hts gX8_isSimple_X8_xOf rfl rfl rfl hv_X8_xOf (yk_room hRf hRl rfl rfl)) (yk_pv (q := (RX8, TX8, 23)) hG hA hS hK hP hD [0, 1] (by decide +kernel) rfl rfl rfl) rfl rfl hl.1 rfl (lv_room (Nat.le_of_ble_eq_true rfl)) dX8_isSimple_83 ⟨Nat.zero_le _, Nat.zero_le _⟩) hP hD hS hA rfl rfl (fun H locs hP9 hD9 hS9 => ?_)
                replace hP : va_P D vwCl [(ta, .inr (8, [.ref m_now, .ref m_undone, .ref m_slots, .ref m_slotKind, .ref m_hasSlot, .ref m_sheetBits, .ref m_sheetSize, .ref m_sheets, .int (nI u), .int fi, .ref m_fresh, .long aa, .long bb, .long dd, .int (nI ro), .ref m_rootWhich, .int db, .ref m_signs, .ref m_atNought, .int (nI mn), .ref m_change, .ref m_table, .ref m_carried])), (m_now, .inl (cy 0, 29, .inl nw))] H := hP9
                replace hD : va_D A [(ta, .inr (8, [.ref m_now, .ref m_undone, .ref m_slots, .ref m_slotKind, .ref m_hasSlot, .ref m_sheetBits, .ref m_sheetSize, .ref m_sheets, .int (nI u), .int fi, .ref m_fresh, .long aa, .long bb, .long dd, .int (nI ro), .ref m_rootWhich, .int db, .ref m_signs, .ref m_atNought, .int (nI mn), .ref m_change, .ref m_table, .ref m_carried])), (m_now, .inl (cy 0, 29, .inl nw))] := hD9
                replace hS := hS9
                clear hP9 hD9 hS9
                refine lv_aload_n hx hb dX8_isSimple_86 rfl (lv_at hl 0 rfl) ?_
                refine lv_iload_n hx hb dX8_isSimple_87 rfl (lv_at hl 2 rfl) ?_
                refine lv_iconst (v := 1) hx hb dX8_isSimple_88 (by decide) ?_
                refine lv_iadd hx hb dX8_isSimple_89 ?_
                refine yk_ti (y := nI (ki2 + 1)) (nI_add ki2 1) ?_
                refine yk_i [0, 1] (va_runV (As := [.int (nI (ki2 + 1))]) (rest := [.int (f_X8_xOf nw (ki2 + 1) n), .int (nI (ki2 + n - 1)), .ref ta]) ⟨hx, hb, hml, hown, hts⟩ (c_X8_yOf l D cy ta m_now m_undone m_slots m_slotKind m_hasSlot m_sheetBits m_sheetSize m_sheets m_fresh m_rootWhich m_signs m_atNought m_change m_table m_carried nw u fi aa bb dd ro db mn (ki2 + 1) n (by first | assumption | omega) (by first | assumption | omega) (by first | assumption | omega) (by first | assumption | omega) H.size) (cwV 1 hts gX8_isSimple_X8_yOf rfl rfl rfl hv_X8_yOf (yk_room hRf hRl rfl rfl)) (yk_pv (q := (RX8, TX8, 23)) hG hA hS hK hP hD [0, 1] (by decide +kernel) rfl rfl rfl) rfl rfl hl.1 rfl (lv_room (Nat.le_of_ble_eq_true rfl)) dX8_isSimple_90 ⟨Nat.zero_le _, Nat.zero_le _⟩) hP hD hS hA rfl rfl (fun H locs hP9 hD9 hS9 => ?_)
                replace hP : va_P D vwCl [(ta, .inr (8, [.ref m_now, .ref m_undone, .ref m_slots, .ref m_slotKind, .ref m_hasSlot, .ref m_sheetBits, .ref m_sheetSize, .ref m_sheets, .int (nI u), .int fi, .ref m_fresh, .long aa, .long bb, .long dd, .int (nI ro), .ref m_rootWhich, .int db, .ref m_signs, .ref m_atNought, .int (nI mn), .ref m_change, .ref m_table, .ref m_carried])), (m_now, .inl (cy 0, 29, .inl nw))] H := hP9
                replace hD : va_D A [(ta, .inr (8, [.ref m_now, .ref m_undone, .ref m_slots, .ref m_slotKind, .ref m_hasSlot, .ref m_sheetBits, .ref m_sheetSize, .ref m_sheets, .int (nI u), .int fi, .ref m_fresh, .long aa, .long bb, .long dd, .int (nI ro), .ref m_rootWhich, .int db, .ref m_signs, .ref m_atNought, .int (nI mn), .ref m_change, .ref m_table, .ref m_carried])), (m_now, .inl (cy 0, 29, .inl nw))] := hD9
                replace hS := hS9
                clear hP9 hD9 hS9
                refine yk_i [0, 1] (va_runV (As := [.int (nI (ki2 + n - 1)), .int (f_X8_xOf nw (ki2 + 1) n), .int (f_X8_yOf nw (ki2 + 1) n)]) (rest := []) ⟨hx, hb, hml, hown, hts⟩ (c_X8_isOn l D cy ta m_now m_undone m_slots m_slotKind m_hasSlot m_sheetBits m_sheetSize m_sheets m_fresh m_rootWhich m_signs m_atNought m_change m_table m_carried nw u fi aa bb dd ro db mn (ki2 + n - 1) (f_X8_xOf nw (ki2 + 1) n) (f_X8_yOf nw (ki2 + 1) n) n (by first | assumption | omega) (by first | assumption | omega) (by first | assumption | omega) (by first | assumption | omega) H.size) (cwV 3 hts gX8_isSimple_X8_isOn rfl rfl rfl hv_X8_isOn (yk_room hRf hRl rfl rfl)) (yk_pv (q := (RX8, TX8, 23)) hG hA hS hK hP hD [0, 1] (by decide +kernel) rfl rfl rfl) rfl rfl hl.1 rfl (lv_room (Nat.le_of_ble_eq_true rfl)) dX8_isSimple_93 ⟨Nat.zero_le _, Nat.zero_le _⟩) hP hD hS hA rfl rfl (fun H locs hP9 hD9 hS9 => ?_)
                replace hP : va_P D vwCl [(ta, .inr (8, [.ref m_now, .ref m_undone, .ref m_slots, .ref m_slotKind, .ref m_hasSlot, .ref m_sheetBits, .ref m_sheetSize, .ref m_sheets, .int (nI u), .int fi, .ref m_fresh, .long aa, .long bb, .long dd, .int (nI ro), .ref m_rootWhich, .int db, .ref m_signs, .ref m_atNought, .int (nI mn), .ref m_change, .ref m_table, .ref m_carried])), (m_now, .inl (cy 0, 29, .inl nw))] H := hP9
                replace hD : va_D A [(ta, .inr (8, [.ref m_now, .ref m_undone, .ref m_slots, .ref m_slotKind, .ref m_hasSlot, .ref m_sheetBits, .ref m_sheetSize, .ref m_sheets, .int (nI u), .int fi, .ref m_fresh, .long aa, .long bb, .long dd, .int (nI ro), .ref m_rootWhich, .int db, .ref m_signs, .ref m_atNought, .int (nI mn), .ref m_change, .ref m_table, .ref m_carried])), (m_now, .inl (cy 0, 29, .inl nw))] := hD9
                replace hS := hS9
                clear hP9 hD9 hS9
                refine lv_if_ne (tgt := 125) hx hb dX8_isSimple_96 (by decide) (fun hc4 => ?_) (fun hc4 => ?_)
                · replace hF := hF.trans (if_neg hc4)
                  refine lv_iconst (v := 0) hx hb dX8_isSimple_125 (by decide) ?_
                  have hF : f_X8_isSimple nw n = 0 := hF
                  rw [hF] at hQ
                  exact hQ _ _ _ _ dX8_isSimple_126 hP hS
                · replace hF := hF.trans (if_pos hc4)
                  refine lv_aload_n hx hb dX8_isSimple_99 rfl (lv_at hl 0 rfl) ?_
                  refine lv_iload_n hx hb dX8_isSimple_100 rfl (lv_at hl 2 rfl) ?_
                  refine lv_aload_n hx hb dX8_isSimple_101 rfl (lv_at hl 0 rfl) ?_
                  refine lv_iload_n hx hb dX8_isSimple_102 rfl (lv_at hl 2 rfl) ?_
                  refine lv_iload_n hx hb dX8_isSimple_103 rfl (lv_at hl 1 rfl) ?_
                  refine lv_iadd hx hb dX8_isSimple_104 ?_
                  refine yk_ti (y := nI (ki2 + n)) (nI_add ki2 n) ?_
                  refine lv_iconst (v := 1) hx hb dX8_isSimple_105 (by decide) ?_
                  refine lv_isub hx hb dX8_isSimple_106 ?_
                  refine yk_ti (y := nI (ki2 + n - 1)) (pk_sub (b := 1) (by omega)) ?_
                  refine yk_i [0, 1] (va_runV (As := [.int (nI (ki2 + n - 1))]) (rest := [.int (nI ki2), .ref ta]) ⟨hx, hb, hml, hown, hts⟩ (c_X8_xOf l D cy ta m_now m_undone m_slots m_slotKind m_hasSlot m_sheetBits m_sheetSize m_sheets m_fresh m_rootWhich m_signs m_atNought m_change m_table m_carried nw u fi aa bb dd ro db mn (ki2 + n - 1) n (by first | assumption | omega) (by first | assumption | omega) (by first | assumption | omega) (by first | assumption | omega) H.size) (cwV 1 hts gX8_isSimple_X8_xOf rfl rfl rfl hv_X8_xOf (yk_room hRf hRl rfl rfl)) (yk_pv (q := (RX8, TX8, 23)) hG hA hS hK hP hD [0, 1] (by decide +kernel) rfl rfl rfl) rfl rfl hl.1 rfl (lv_room (Nat.le_of_ble_eq_true rfl)) dX8_isSimple_107 ⟨Nat.zero_le _, Nat.zero_le _⟩) hP hD hS hA rfl rfl (fun H locs hP9 hD9 hS9 => ?_)
                  replace hP : va_P D vwCl [(ta, .inr (8, [.ref m_now, .ref m_undone, .ref m_slots, .ref m_slotKind, .ref m_hasSlot, .ref m_sheetBits, .ref m_sheetSize, .ref m_sheets, .int (nI u), .int fi, .ref m_fresh, .long aa, .long bb, .long dd, .int (nI ro), .ref m_rootWhich, .int db, .ref m_signs, .ref m_atNought, .int (nI mn), .ref m_change, .ref m_table, .ref m_carried])), (m_now, .inl (cy 0, 29, .inl nw))] H := hP9
                  replace hD : va_D A [(ta, .inr (8, [.ref m_now, .ref m_undone, .ref m_slots, .ref m_slotKind, .ref m_hasSlot, .ref m_sheetBits, .ref m_sheetSize, .ref m_sheets, .int (nI u), .int fi, .ref m_fresh, .long aa, .long bb, .long dd, .int (nI ro), .ref m_rootWhich, .int db, .ref m_signs, .ref m_atNought, .int (nI mn), .ref m_change, .ref m_table, .ref m_carried])), (m_now, .inl (cy 0, 29, .inl nw))] := hD9
                  replace hS := hS9
                  clear hP9 hD9 hS9
                  refine lv_aload_n hx hb dX8_isSimple_110 rfl (lv_at hl 0 rfl) ?_
                  refine lv_iload_n hx hb dX8_isSimple_111 rfl (lv_at hl 2 rfl) ?_
                  refine lv_iload_n hx hb dX8_isSimple_112 rfl (lv_at hl 1 rfl) ?_
                  refine lv_iadd hx hb dX8_isSimple_113 ?_
                  refine yk_ti (y := nI (ki2 + n)) (nI_add ki2 n) ?_
                  refine lv_iconst (v := 1) hx hb dX8_isSimple_114 (by decide) ?_
                  refine lv_isub hx hb dX8_isSimple_115 ?_
                  refine yk_ti (y := nI (ki2 + n - 1)) (pk_sub (b := 1) (by omega)) ?_
                  refine yk_i [0, 1] (va_runV (As := [.int (nI (ki2 + n - 1))]) (rest := [.int (f_X8_xOf nw (ki2 + n - 1) n), .int (nI ki2), .ref ta]) ⟨hx, hb, hml, hown, hts⟩ (c_X8_yOf l D cy ta m_now m_undone m_slots m_slotKind m_hasSlot m_sheetBits m_sheetSize m_sheets m_fresh m_rootWhich m_signs m_atNought m_change m_table m_carried nw u fi aa bb dd ro db mn (ki2 + n - 1) n (by first | assumption | omega) (by first | assumption | omega) (by first | assumption | omega) (by first | assumption | omega) H.size) (cwV 1 hts gX8_isSimple_X8_yOf rfl rfl rfl hv_X8_yOf (yk_room hRf hRl rfl rfl)) (yk_pv (q := (RX8, TX8, 23)) hG hA hS hK hP hD [0, 1] (by decide +kernel) rfl rfl rfl) rfl rfl hl.1 rfl (lv_room (Nat.le_of_ble_eq_true rfl)) dX8_isSimple_116 ⟨Nat.zero_le _, Nat.zero_le _⟩) hP hD hS hA rfl rfl (fun H locs hP9 hD9 hS9 => ?_)
                  replace hP : va_P D vwCl [(ta, .inr (8, [.ref m_now, .ref m_undone, .ref m_slots, .ref m_slotKind, .ref m_hasSlot, .ref m_sheetBits, .ref m_sheetSize, .ref m_sheets, .int (nI u), .int fi, .ref m_fresh, .long aa, .long bb, .long dd, .int (nI ro), .ref m_rootWhich, .int db, .ref m_signs, .ref m_atNought, .int (nI mn), .ref m_change, .ref m_table, .ref m_carried])), (m_now, .inl (cy 0, 29, .inl nw))] H := hP9
                  replace hD : va_D A [(ta, .inr (8, [.ref m_now, .ref m_undone, .ref m_slots, .ref m_slotKind, .ref m_hasSlot, .ref m_sheetBits, .ref m_sheetSize, .ref m_sheets, .int (nI u), .int fi, .ref m_fresh, .long aa, .long bb, .long dd, .int (nI ro), .ref m_rootWhich, .int db, .ref m_signs, .ref m_atNought, .int (nI mn), .ref m_change, .ref m_table, .ref m_carried])), (m_now, .inl (cy 0, 29, .inl nw))] := hD9
                  replace hS := hS9
                  clear hP9 hD9 hS9
                  refine yk_i [0, 1] (va_runV (As := [.int (nI ki2), .int (f_X8_xOf nw (ki2 + n - 1) n), .int (f_X8_yOf nw (ki2 + n - 1) n)]) (rest := []) ⟨hx, hb, hml, hown, hts⟩ (c_X8_isOn l D cy ta m_now m_undone m_slots m_slotKind m_hasSlot m_sheetBits m_sheetSize m_sheets m_fresh m_rootWhich m_signs m_atNought m_change m_table m_carried nw u fi aa bb dd ro db mn ki2 (f_X8_xOf nw (ki2 + n - 1) n) (f_X8_yOf nw (ki2 + n - 1) n) n (by first | assumption | omega) (by first | assumption | omega) (by first | assumption | omega) (by first | assumption | omega) H.size) (cwV 3 hts gX8_isSimple_X8_isOn rfl rfl rfl hv_X8_isOn (yk_room hRf hRl rfl rfl)) (yk_pv (q := (RX8, TX8, 23)) hG hA hS hK hP hD [0, 1] (by decide +kernel) rfl rfl rfl) rfl rfl hl.1 rfl (lv_room (Nat.le_of_ble_eq_true rfl)) dX8_isSimple_119 ⟨Nat.zero_le _, Nat.zero_le _⟩) hP hD hS hA rfl rfl (fun H locs hP9 hD9 hS9 => ?_)
                  replace hP : va_P D vwCl [(ta, .inr (8, [.ref m_now, .ref m_undone, .ref m_slots, .ref m_slotKind, .ref m_hasSlot, .ref m_sheetBits, .ref m_sheetSize, .ref m_sheets, .int (nI u), .int fi, .ref m_fresh, .long aa, .long bb, .long dd, .int (nI ro), .ref m_rootWhich, .int db, .ref m_signs, .ref m_atNought, .int (nI mn), .ref m_change, .ref m_table, .ref m_carried])), (m_now, .inl (cy 0, 29, .inl nw))] H := hP9
                  replace hD : va_D A [(ta, .inr (8, [.ref m_now, .ref m_undone, .ref m_slots, .ref m_slotKind, .ref m_hasSlot, .ref m_sheetBits, .ref m_sheetSize, .ref m_sheets, .int (nI u), .int fi, .ref m_fresh, .long aa, .long bb, .long dd, .int (nI ro), .ref m_rootWhich, .int db, .ref m_signs, .ref m_atNought, .int (nI mn), .ref m_change, .ref m_table, .ref m_carried])), (m_now, .inl (cy 0, 29, .inl nw))] := hD9
                  replace hS := hS9
                  clear hP9 hD9 hS9
                  refine lv_if_eq (tgt := 127) hx hb dX8_isSimple_122 (by decide) (fun hc5 => ?_) (fun hc5 => ?_)
                  · replace hF := hF.trans (if_pos hc5)
                    refine lv_iconst (v := 0) hx hb dX8_isSimple_127 (by decide) ?_
                    refine lv_istore_n (lv' := [(3, .int 0), (0, .ref ta), (1, .int (nI n)), (2, .int (nI ki2))]) hx hb dX8_isSimple_128 rfl hl (by decide) rfl (fun ls hl9 => ?_)
                    replace hl := hl9
                    clear hl9
                    have L129 : ∀ (M9 n129 kj2 : Nat) (H : Heap) (locs : List Loc) (ls : Array Slot), n129 < M9 → kj2 + n129 = ki2 → f_X8_isSimple nw n = (l_X8_isSimple_129 nw n ki2 (fun ki2' => l_X8_isSimple_68 nw n n68 ki2') (n129 + 1) kj2) → va_P D vwCl [(ta, .inr (8, [.ref m_now, .ref m_undone, .ref m_slots, .ref m_slotKind, .ref m_hasSlot, .ref m_sheetBits, .ref m_sheetSize, .ref m_sheets, .int (nI u), .int fi, .ref m_fresh, .long aa, .long bb, .long dd, .int (nI ro), .ref m_rootWhich, .int db, .ref m_signs, .ref m_atNought, .int (nI mn), .ref m_change, .ref m_table, .ref m_carried])), (m_now, .inl (cy 0, 29, .inl nw))] H → va_D A [(ta, .inr (8, [.ref m_now, .ref m_undone, .ref m_slots, .ref m_slotKind, .ref m_hasSlot, .ref m_sheetBits, .ref m_sheetSize, .ref m_sheets, .int (nI u), .int fi, .ref m_fresh, .long aa, .long bb, .long dd, .int (nI ro), .ref m_rootWhich, .int db, .ref m_signs, .ref m_atNought, .int (nI mn), .ref m_change, .ref m_table, .ref m_carried])), (m_now, .inl (cy 0, 29, .inl nw))] → va_S A s.heap H locs → lv_has ls 5 [(0, .ref ta), (1, .int (nI n)), (2, .int (nI ki2)), (3, .int (nI kj2))] → W p l e R s m args below meth c H locs 0 0 Q (F0 m 129 ls []) := by
                      clear hP hD hS hl hF
                      intro M9
                      induction M9 with
                      | zero => intro n129 kj2 _ _ _ hn; exact absurd hn (Nat.not_lt_zero _)
                      | succ M9 ih129 =>
                        intro n129 kj2 H locs ls hn129 hk129 hF hP hD hS hl
                        refine lv_iload_n hx hb dX8_isSimple_129 rfl (lv_at hl 3 rfl) ?_
                        refine lv_iload_n hx hb dX8_isSimple_130 rfl (lv_at hl 2 rfl) ?_
                        refine lv_icmp_ge (tgt := 179) hx hb dX8_isSimple_131 (by decide) (fun hc6 => ?_) (fun hc6 => ?_)
                        · replace hF := hF.trans (if_pos hc6)
                          refine lv_iinc (v := nI (ki2 + 1)) (lv' := [(2, .int (nI (ki2 + 1))), (0, .ref ta), (1, .int (nI n)), (3, .int (nI kj2))]) hx hb dX8_isSimple_179 hl (k := 2) rfl (yk_inc ki2) (by decide) rfl (fun ls hl9 => ?_)
                          replace hl := hl9
                          clear hl9
                          refine lv_goto (tgt := 68) hx hb dX8_isSimple_182 (by decide) ?_
                          obtain ⟨n9, rfl⟩ : ∃ n9, n68 = n9 + 1 := ⟨n68 - 1, by omega⟩
                          exact ih68 n9 (ki2 + 1) _ _ _ (by omega) (by omega)  hF hP hD hS (lv_sub hl [1, 2, 0] rfl)
                        · replace hF := hF.trans (if_neg hc6)
                          have hlt129 : kj2 < ki2 := yk_lt hk129 (by omega) hc6
                          refine lv_iload_n hx hb dX8_isSimple_134 rfl (lv_at hl 2 rfl) ?_
                          refine lv_iload_n hx hb dX8_isSimple_135 rfl (lv_at hl 3 rfl) ?_
                          refine lv_isub hx hb dX8_isSimple_136 ?_
                          refine lv_iconst (v := 1) hx hb dX8_isSimple_137 (by decide) ?_
                          have J10 : ∀ (v9 : Int32) (H : Heap) (locs : List Loc) (ls : Array Slot), v9 = (if ((nI ki2) - (nI kj2)) = 1 then 1 else (if ((nI ki2) - (nI kj2)) = ((nI n) - 1) then 1 else 0)) → va_P D vwCl [(ta, .inr (8, [.ref m_now, .ref m_undone, .ref m_slots, .ref m_slotKind, .ref m_hasSlot, .ref m_sheetBits, .ref m_sheetSize, .ref m_sheets, .int (nI u), .int fi, .ref m_fresh, .long aa, .long bb, .long dd, .int (nI ro), .ref m_rootWhich, .int db, .ref m_signs, .ref m_atNought, .int (nI mn), .ref m_change, .ref m_table, .ref m_carried])), (m_now, .inl (cy 0, 29, .inl nw))] H → va_D A [(ta, .inr (8, [.ref m_now, .ref m_undone, .ref m_slots, .ref m_slotKind, .ref m_hasSlot, .ref m_sheetBits, .ref m_sheetSize, .ref m_sheets, .int (nI u), .int fi, .ref m_fresh, .long aa, .long bb, .long dd, .int (nI ro), .ref m_rootWhich, .int db, .ref m_signs, .ref m_atNought, .int (nI mn), .ref m_change, .ref m_table, .ref m_carried])), (m_now, .inl (cy 0, 29, .inl nw))] → va_S A s.heap H locs → lv_has ls 5 [(0, .ref ta), (1, .int (nI n)), (2, .int (nI ki2)), (3, .int (nI kj2))] → W p l e R s m args below meth c H locs 0 0 Q (F0 m 155 ls [.int v9]) := by
                            clear hP hD hS hl
                            intro v9 H locs ls ev9 hP hD hS hl
                            subst ev9
                            refine lv_istore (lv' := [(4, .int (if ((nI ki2) - (nI kj2)) = 1 then 1 else (if ((nI ki2) - (nI kj2)) = ((nI n) - 1) then 1 else 0))), (0, .ref ta), (1, .int (nI n)), (2, .int (nI ki2)), (3, .int (nI kj2))]) hx hb dX8_isSimple_155 hl (by decide) rfl (fun ls hl9 => ?_)
                            replace hl := hl9
                            clear hl9
                            refine lv_iload hx hb dX8_isSimple_157 (lv_at hl 0 rfl) ?_
                            refine lv_if_ne (tgt := 173) hx hb dX8_isSimple_159 (by decide) (fun hc11 => ?_) (fun hc11 => ?_)
                            · replace hF := hF.trans (if_neg hc11)
                              refine lv_iinc (v := nI (kj2 + 1)) (lv' := [(3, .int (nI (kj2 + 1))), (4, .int (if ((nI ki2) - (nI kj2)) = 1 then 1 else (if ((nI ki2) - (nI kj2)) = ((nI n) - 1) then 1 else 0))), (0, .ref ta), (1, .int (nI n)), (2, .int (nI ki2))]) hx hb dX8_isSimple_173 hl (k := 4) rfl (yk_inc kj2) (by decide) rfl (fun ls hl9 => ?_)
                              replace hl := hl9
                              clear hl9
                              refine lv_goto (tgt := 129) hx hb dX8_isSimple_176 (by decide) ?_
                              obtain ⟨n9, rfl⟩ : ∃ n9, n129 = n9 + 1 := ⟨n129 - 1, by omega⟩
                              exact ih129 n9 (kj2 + 1) _ _ _ (by omega) (by omega)  hF hP hD hS (lv_sub hl [2, 3, 4, 0] rfl)
                            · replace hF := hF.trans (if_pos hc11)
                              refine lv_aload_n hx hb dX8_isSimple_162 rfl (lv_at hl 1 rfl) ?_
                              refine lv_iload_n hx hb dX8_isSimple_163 rfl (lv_at hl 3 rfl) ?_
                              refine lv_iload_n hx hb dX8_isSimple_164 rfl (lv_at hl 4 rfl) ?_
                              refine yk_i [0, 1] (va_runV (As := [.int (nI ki2), .int (nI kj2)]) (rest := []) ⟨hx, hb, hml, hown, hts⟩ (c_X8_doMeet l D cy ta m_now m_undone m_slots m_slotKind m_hasSlot m_sheetBits m_sheetSize m_sheets m_fresh m_rootWhich m_signs m_atNought m_change m_table m_carried nw u fi aa bb dd ro db mn ki2 kj2 n (by first | assumption | omega) (by first | assumption | omega) (by first | assumption | omega) (by first | assumption | omega) (by first | assumption | omega) H.size) (cwV 2 hts gX8_isSimple_X8_doMeet rfl rfl rfl hv_X8_doMeet (yk_room hRf hRl rfl rfl)) (yk_pv (q := (RX8, TX8, 23)) hG hA hS hK hP hD [0, 1] (by decide +kernel) rfl rfl rfl) rfl rfl hl.1 rfl (lv_room (Nat.le_of_ble_eq_true rfl)) dX8_isSimple_165 ⟨Nat.zero_le _, Nat.zero_le _⟩) hP hD hS hA rfl rfl (fun H locs hP9 hD9 hS9 => ?_)
                              replace hP : va_P D vwCl [(ta, .inr (8, [.ref m_now, .ref m_undone, .ref m_slots, .ref m_slotKind, .ref m_hasSlot, .ref m_sheetBits, .ref m_sheetSize, .ref m_sheets, .int (nI u), .int fi, .ref m_fresh, .long aa, .long bb, .long dd, .int (nI ro), .ref m_rootWhich, .int db, .ref m_signs, .ref m_atNought, .int (nI mn), .ref m_change, .ref m_table, .ref m_carried])), (m_now, .inl (cy 0, 29, .inl nw))] H := hP9
                              replace hD : va_D A [(ta, .inr (8, [.ref m_now, .ref m_undone, .ref m_slots, .ref m_slotKind, .ref m_hasSlot, .ref m_sheetBits, .ref m_sheetSize, .ref m_sheets, .int (nI u), .int fi, .ref m_fresh, .long aa, .long bb, .long dd, .int (nI ro), .ref m_rootWhich, .int db, .ref m_signs, .ref m_atNought, .int (nI mn), .ref m_change, .ref m_table, .ref m_carried])), (m_now, .inl (cy 0, 29, .inl nw))] := hD9
                              replace hS := hS9
                              clear hP9 hD9 hS9
                              refine lv_if_eq (tgt := 173) hx hb dX8_isSimple_168 (by decide) (fun hc12 => ?_) (fun hc12 => ?_)
                              · replace hF := hF.trans (if_pos hc12)
                                refine lv_iinc (v := nI (kj2 + 1)) (lv' := [(3, .int (nI (kj2 + 1))), (4, .int (if ((nI ki2) - (nI kj2)) = 1 then 1 else (if ((nI ki2) - (nI kj2)) = ((nI n) - 1) then 1 else 0))), (0, .ref ta), (1, .int (nI n)), (2, .int (nI ki2))]) hx hb dX8_isSimple_173 hl (k := 4) rfl (yk_inc kj2) (by decide) rfl (fun ls hl9 => ?_)
                                replace hl := hl9
                                clear hl9
                                refine lv_goto (tgt := 129) hx hb dX8_isSimple_176 (by decide) ?_
                                obtain ⟨n9, rfl⟩ : ∃ n9, n129 = n9 + 1 := ⟨n129 - 1, by omega⟩
                                exact ih129 n9 (kj2 + 1) _ _ _ (by omega) (by omega)  hF hP hD hS (lv_sub hl [2, 3, 4, 0] rfl)
                              · replace hF := hF.trans (if_neg hc12)
                                refine lv_iconst (v := 0) hx hb dX8_isSimple_171 (by decide) ?_
                                have hF : f_X8_isSimple nw n = 0 := hF
                                rw [hF] at hQ
                                exact hQ _ _ _ _ dX8_isSimple_172 hP hS
                          refine lv_icmp_eq (tgt := 150) hx hb dX8_isSimple_138 (by decide) (fun hc7 => ?_) (fun hc7 => ?_)
                          · refine lv_iconst (v := 1) hx hb dX8_isSimple_150 (by decide) ?_
                            refine lv_goto (tgt := 155) hx hb dX8_isSimple_151 (by decide) ?_
                            exact J10 _ _ _ _ ((if_pos hc7).symm) hP hD hS (lv_sub hl [0, 1, 2, 3] rfl)
                          · refine lv_iload_n hx hb dX8_isSimple_141 rfl (lv_at hl 2 rfl) ?_
                            refine lv_iload_n hx hb dX8_isSimple_142 rfl (lv_at hl 3 rfl) ?_
                            refine lv_isub hx hb dX8_isSimple_143 ?_
                            refine lv_iload_n hx hb dX8_isSimple_144 rfl (lv_at hl 1 rfl) ?_
                            refine lv_iconst (v := 1) hx hb dX8_isSimple_145 (by decide) ?_
                            refine lv_isub hx hb dX8_isSimple_146 ?_
                            refine lv_icmp_ne (tgt := 154) hx hb dX8_isSimple_147 (by decide) (fun hc8 => ?_) (fun hc8 => ?_)
                            · refine lv_iconst (v := 0) hx hb dX8_isSimple_154 (by decide) ?_
                              exact J10 _ _ _ _ (((if_neg hc7).trans (if_neg hc8)).symm) hP hD hS (lv_sub hl [0, 1, 2, 3] rfl)
                            · refine lv_iconst (v := 1) hx hb dX8_isSimple_150 (by decide) ?_
                              refine lv_goto (tgt := 155) hx hb dX8_isSimple_151 (by decide) ?_
                              exact J10 _ _ _ _ (((if_neg hc7).trans (if_pos hc8)).symm) hP hD hS (lv_sub hl [0, 1, 2, 3] rfl)
                    exact L129 (ki2 + 1) ki2 0  _ _ _ (Nat.lt_succ_self _) (by omega)  hF hP hD hS (lv_sub hl [1, 2, 3, 0] rfl)
                  · replace hF := hF.trans (if_neg hc5)
                    refine lv_iconst (v := 0) hx hb dX8_isSimple_125 (by decide) ?_
                    have hF : f_X8_isSimple nw n = 0 := hF
                    rw [hF] at hQ
                    exact hQ _ _ _ _ dX8_isSimple_126 hP hS
          exact L68 (n + 1) n 0  _ _ _ (Nat.lt_succ_self _) (by omega)  hF hP hD hS (lv_sub hl [1, 2, 0] rfl)
        · replace hF := hF.trans (if_neg hc2)
          have hlt14 : ki < n := yk_lt hk14 (by omega) hc2
          refine lv_iconst (v := 0) hx hb dX8_isSimple_19 (by decide) ?_
          refine lv_istore_n (lv' := [(3, .int 0), (0, .ref ta), (1, .int (nI n)), (2, .int (nI ki))]) hx hb dX8_isSimple_20 rfl hl (by decide) rfl (fun ls hl9 => ?_)
          replace hl := hl9
          clear hl9
          have L21 : ∀ (M9 n21 kj : Nat) (H : Heap) (locs : List Loc) (ls : Array Slot), n21 < M9 → kj + n21 = ki → f_X8_isSimple nw n = (l_X8_isSimple_21 nw n ki (fun ki' => l_X8_isSimple_14 nw n n14 ki') (n21 + 1) kj) → va_P D vwCl [(ta, .inr (8, [.ref m_now, .ref m_undone, .ref m_slots, .ref m_slotKind, .ref m_hasSlot, .ref m_sheetBits, .ref m_sheetSize, .ref m_sheets, .int (nI u), .int fi, .ref m_fresh, .long aa, .long bb, .long dd, .int (nI ro), .ref m_rootWhich, .int db, .ref m_signs, .ref m_atNought, .int (nI mn), .ref m_change, .ref m_table, .ref m_carried])), (m_now, .inl (cy 0, 29, .inl nw))] H → va_D A [(ta, .inr (8, [.ref m_now, .ref m_undone, .ref m_slots, .ref m_slotKind, .ref m_hasSlot, .ref m_sheetBits, .ref m_sheetSize, .ref m_sheets, .int (nI u), .int fi, .ref m_fresh, .long aa, .long bb, .long dd, .int (nI ro), .ref m_rootWhich, .int db, .ref m_signs, .ref m_atNought, .int (nI mn), .ref m_change, .ref m_table, .ref m_carried])), (m_now, .inl (cy 0, 29, .inl nw))] → va_S A s.heap H locs → lv_has ls 5 [(0, .ref ta), (1, .int (nI n)), (2, .int (nI ki)), (3, .int (nI kj))] → W p l e R s m args below meth c H locs 0 0 Q (F0 m 21 ls []) := by
            clear hP hD hS hl hF
            intro M9
            induction M9 with
            | zero => intro n21 kj _ _ _ hn; exact absurd hn (Nat.not_lt_zero _)
            | succ M9 ih21 =>
              intro n21 kj H locs ls hn21 hk21 hF hP hD hS hl
              refine lv_iload_n hx hb dX8_isSimple_21 rfl (lv_at hl 3 rfl) ?_
              refine lv_iload_n hx hb dX8_isSimple_22 rfl (lv_at hl 2 rfl) ?_
              refine lv_icmp_ge (tgt := 60) hx hb dX8_isSimple_23 (by decide) (fun hc13 => ?_) (fun hc13 => ?_)
              · replace hF := hF.trans (if_pos hc13)
                refine lv_iinc (v := nI (ki + 1)) (lv' := [(2, .int (nI (ki + 1))), (0, .ref ta), (1, .int (nI n)), (3, .int (nI kj))]) hx hb dX8_isSimple_60 hl (k := 2) rfl (yk_inc ki) (by decide) rfl (fun ls hl9 => ?_)
                replace hl := hl9
                clear hl9
                refine lv_goto (tgt := 14) hx hb dX8_isSimple_63 (by decide) ?_
                obtain ⟨n9, rfl⟩ : ∃ n9, n14 = n9 + 1 := ⟨n14 - 1, by omega⟩
                exact ih14 n9 (ki + 1) _ _ _ (by omega) (by omega)  hF hP hD hS (lv_sub hl [1, 2, 0] rfl)
              · replace hF := hF.trans (if_neg hc13)
                have hlt21 : kj < ki := yk_lt hk21 (by omega) hc13
                refine lv_aload_n hx hb dX8_isSimple_26 rfl (lv_at hl 0 rfl) ?_
                refine lv_iload_n hx hb dX8_isSimple_27 rfl (lv_at hl 2 rfl) ?_
                refine yk_i [0, 1] (va_runV (As := [.int (nI ki)]) (rest := []) ⟨hx, hb, hml, hown, hts⟩ (c_X8_xOf l D cy ta m_now m_undone m_slots m_slotKind m_hasSlot m_sheetBits m_sheetSize m_sheets m_fresh m_rootWhich m_signs m_atNought m_change m_table m_carried nw u fi aa bb dd ro db mn ki n (by first | assumption | omega) (by first | assumption | omega) (by first | assumption | omega) (by first | assumption | omega) H.size) (cwV 1 hts gX8_isSimple_X8_xOf rfl rfl rfl hv_X8_xOf (yk_room hRf hRl rfl rfl)) (yk_pv (q := (RX8, TX8, 23)) hG hA hS hK hP hD [0, 1] (by decide +kernel) rfl rfl rfl) rfl rfl hl.1 rfl (lv_room (Nat.le_of_ble_eq_true rfl)) dX8_isSimple_28 ⟨Nat.zero_le _, Nat.zero_le _⟩) hP hD hS hA rfl rfl (fun H locs hP9 hD9 hS9 => ?_)
                replace hP : va_P D vwCl [(ta, .inr (8, [.ref m_now, .ref m_undone, .ref m_slots, .ref m_slotKind, .ref m_hasSlot, .ref m_sheetBits, .ref m_sheetSize, .ref m_sheets, .int (nI u), .int fi, .ref m_fresh, .long aa, .long bb, .long dd, .int (nI ro), .ref m_rootWhich, .int db, .ref m_signs, .ref m_atNought, .int (nI mn), .ref m_change, .ref m_table, .ref m_carried])), (m_now, .inl (cy 0, 29, .inl nw))] H := hP9
                replace hD : va_D A [(ta, .inr (8, [.ref m_now, .ref m_undone, .ref m_slots, .ref m_slotKind, .ref m_hasSlot, .ref m_sheetBits, .ref m_sheetSize, .ref m_sheets, .int (nI u), .int fi, .ref m_fresh, .long aa, .long bb, .long dd, .int (nI ro), .ref m_rootWhich, .int db, .ref m_signs, .ref m_atNought, .int (nI mn), .ref m_change, .ref m_table, .ref m_carried])), (m_now, .inl (cy 0, 29, .inl nw))] := hD9
                replace hS := hS9
                clear hP9 hD9 hS9
                refine lv_aload_n hx hb dX8_isSimple_31 rfl (lv_at hl 0 rfl) ?_
                refine lv_iload_n hx hb dX8_isSimple_32 rfl (lv_at hl 3 rfl) ?_
                refine yk_i [0, 1] (va_runV (As := [.int (nI kj)]) (rest := [.int (f_X8_xOf nw ki n)]) ⟨hx, hb, hml, hown, hts⟩ (c_X8_xOf l D cy ta m_now m_undone m_slots m_slotKind m_hasSlot m_sheetBits m_sheetSize m_sheets m_fresh m_rootWhich m_signs m_atNought m_change m_table m_carried nw u fi aa bb dd ro db mn kj n (by first | assumption | omega) (by first | assumption | omega) (by first | assumption | omega) (by first | assumption | omega) H.size) (cwV 1 hts gX8_isSimple_X8_xOf rfl rfl rfl hv_X8_xOf (yk_room hRf hRl rfl rfl)) (yk_pv (q := (RX8, TX8, 23)) hG hA hS hK hP hD [0, 1] (by decide +kernel) rfl rfl rfl) rfl rfl hl.1 rfl (lv_room (Nat.le_of_ble_eq_true rfl)) dX8_isSimple_33 ⟨Nat.zero_le _, Nat.zero_le _⟩) hP hD hS hA rfl rfl (fun H locs hP9 hD9 hS9 => ?_)
                replace hP : va_P D vwCl [(ta, .inr (8, [.ref m_now, .ref m_undone, .ref m_slots, .ref m_slotKind, .ref m_hasSlot, .ref m_sheetBits, .ref m_sheetSize, .ref m_sheets, .int (nI u), .int fi, .ref m_fresh, .long aa, .long bb, .long dd, .int (nI ro), .ref m_rootWhich, .int db, .ref m_signs, .ref m_atNought, .int (nI mn), .ref m_change, .ref m_table, .ref m_carried])), (m_now, .inl (cy 0, 29, .inl nw))] H := hP9
                replace hD : va_D A [(ta, .inr (8, [.ref m_now, .ref m_undone, .ref m_slots, .ref m_slotKind, .ref m_hasSlot, .ref m_sheetBits, .ref m_sheetSize, .ref m_sheets, .int (nI u), .int fi, .ref m_fresh, .long aa, .long bb, .long dd, .int (nI ro), .ref m_rootWhich, .int db, .ref m_signs, .ref m_atNought, .int (nI mn), .ref m_change, .ref m_table, .ref m_carried])), (m_now, .inl (cy 0, 29, .inl nw))] := hD9
                replace hS := hS9
                clear hP9 hD9 hS9
                refine lv_icmp_ne (tgt := 54) hx hb dX8_isSimple_36 (by decide) (fun hc14 => ?_) (fun hc14 => ?_)
                · replace hF := hF.trans (if_neg hc14)
                  refine lv_iinc (v := nI (kj + 1)) (lv' := [(3, .int (nI (kj + 1))), (0, .ref ta), (1, .int (nI n)), (2, .int (nI ki))]) hx hb dX8_isSimple_54 hl (k := 3) rfl (yk_inc kj) (by decide) rfl (fun ls hl9 => ?_)
                  replace hl := hl9
                  clear hl9
                  refine lv_goto (tgt := 21) hx hb dX8_isSimple_57 (by decide) ?_
                  obtain ⟨n9, rfl⟩ : ∃ n9, n21 = n9 + 1 := ⟨n21 - 1, by omega⟩
                  exact ih21 n9 (kj + 1) _ _ _ (by omega) (by omega)  hF hP hD hS (lv_sub hl [1, 2, 3, 0] rfl)
                · replace hF := hF.trans (if_pos hc14)
                  refine lv_aload_n hx hb dX8_isSimple_39 rfl (lv_at hl 0 rfl) ?_
                  refine lv_iload_n hx hb dX8_isSimple_40 rfl (lv_at hl 2 rfl) ?_
                  refine yk_i [0, 1] (va_runV (As := [.int (nI ki)]) (rest := []) ⟨hx, hb, hml, hown, hts⟩ (c_X8_yOf l D cy ta m_now m_undone m_slots m_slotKind m_hasSlot m_sheetBits m_sheetSize m_sheets m_fresh m_rootWhich m_signs m_atNought m_change m_table m_carried nw u fi aa bb dd ro db mn ki n (by first | assumption | omega) (by first | assumption | omega) (by first | assumption | omega) (by first | assumption | omega) H.size) (cwV 1 hts gX8_isSimple_X8_yOf rfl rfl rfl hv_X8_yOf (yk_room hRf hRl rfl rfl)) (yk_pv (q := (RX8, TX8, 23)) hG hA hS hK hP hD [0, 1] (by decide +kernel) rfl rfl rfl) rfl rfl hl.1 rfl (lv_room (Nat.le_of_ble_eq_true rfl)) dX8_isSimple_41 ⟨Nat.zero_le _, Nat.zero_le _⟩) hP hD hS hA rfl rfl (fun H locs hP9 hD9 hS9 => ?_)
                  replace hP : va_P D vwCl [(ta, .inr (8, [.ref m_now, .ref m_undone, .ref m_slots, .ref m_slotKind, .ref m_hasSlot, .ref m_sheetBits, .ref m_sheetSize, .ref m_sheets, .int (nI u), .int fi, .ref m_fresh, .long aa, .long bb, .long dd, .int (nI ro), .ref m_rootWhich, .int db, .ref m_signs, .ref m_atNought, .int (nI mn), .ref m_change, .ref m_table, .ref m_carried])), (m_now, .inl (cy 0, 29, .inl nw))] H := hP9
                  replace hD : va_D A [(ta, .inr (8, [.ref m_now, .ref m_undone, .ref m_slots, .ref m_slotKind, .ref m_hasSlot, .ref m_sheetBits, .ref m_sheetSize, .ref m_sheets, .int (nI u), .int fi, .ref m_fresh, .long aa, .long bb, .long dd, .int (nI ro), .ref m_rootWhich, .int db, .ref m_signs, .ref m_atNought, .int (nI mn), .ref m_change, .ref m_table, .ref m_carried])), (m_now, .inl (cy 0, 29, .inl nw))] := hD9
                  replace hS := hS9
                  clear hP9 hD9 hS9
                  refine lv_aload_n hx hb dX8_isSimple_44 rfl (lv_at hl 0 rfl) ?_
                  refine lv_iload_n hx hb dX8_isSimple_45 rfl (lv_at hl 3 rfl) ?_
                  refine yk_i [0, 1] (va_runV (As := [.int (nI kj)]) (rest := [.int (f_X8_yOf nw ki n)]) ⟨hx, hb, hml, hown, hts⟩ (c_X8_yOf l D cy ta m_now m_undone m_slots m_slotKind m_hasSlot m_sheetBits m_sheetSize m_sheets m_fresh m_rootWhich m_signs m_atNought m_change m_table m_carried nw u fi aa bb dd ro db mn kj n (by first | assumption | omega) (by first | assumption | omega) (by first | assumption | omega) (by first | assumption | omega) H.size) (cwV 1 hts gX8_isSimple_X8_yOf rfl rfl rfl hv_X8_yOf (yk_room hRf hRl rfl rfl)) (yk_pv (q := (RX8, TX8, 23)) hG hA hS hK hP hD [0, 1] (by decide +kernel) rfl rfl rfl) rfl rfl hl.1 rfl (lv_room (Nat.le_of_ble_eq_true rfl)) dX8_isSimple_46 ⟨Nat.zero_le _, Nat.zero_le _⟩) hP hD hS hA rfl rfl (fun H locs hP9 hD9 hS9 => ?_)
                  replace hP : va_P D vwCl [(ta, .inr (8, [.ref m_now, .ref m_undone, .ref m_slots, .ref m_slotKind, .ref m_hasSlot, .ref m_sheetBits, .ref m_sheetSize, .ref m_sheets, .int (nI u), .int fi, .ref m_fresh, .long aa, .long bb, .long dd, .int (nI ro), .ref m_rootWhich, .int db, .ref m_signs, .ref m_atNought, .int (nI mn), .ref m_change, .ref m_table, .ref m_carried])), (m_now, .inl (cy 0, 29, .inl nw))] H := hP9
                  replace hD : va_D A [(ta, .inr (8, [.ref m_now, .ref m_undone, .ref m_slots, .ref m_slotKind, .ref m_hasSlot, .ref m_sheetBits, .ref m_sheetSize, .ref m_sheets, .int (nI u), .int fi, .ref m_fresh, .long aa, .long bb, .long dd, .int (nI ro), .ref m_rootWhich, .int db, .ref m_signs, .ref m_atNought, .int (nI mn), .ref m_change, .ref m_table, .ref m_carried])), (m_now, .inl (cy 0, 29, .inl nw))] := hD9
                  replace hS := hS9
                  clear hP9 hD9 hS9
                  refine lv_icmp_ne (tgt := 54) hx hb dX8_isSimple_49 (by decide) (fun hc15 => ?_) (fun hc15 => ?_)
                  · replace hF := hF.trans (if_neg hc15)
                    refine lv_iinc (v := nI (kj + 1)) (lv' := [(3, .int (nI (kj + 1))), (0, .ref ta), (1, .int (nI n)), (2, .int (nI ki))]) hx hb dX8_isSimple_54 hl (k := 3) rfl (yk_inc kj) (by decide) rfl (fun ls hl9 => ?_)
                    replace hl := hl9
                    clear hl9
                    refine lv_goto (tgt := 21) hx hb dX8_isSimple_57 (by decide) ?_
                    obtain ⟨n9, rfl⟩ : ∃ n9, n21 = n9 + 1 := ⟨n21 - 1, by omega⟩
                    exact ih21 n9 (kj + 1) _ _ _ (by omega) (by omega)  hF hP hD hS (lv_sub hl [1, 2, 3, 0] rfl)
                  · replace hF := hF.trans (if_pos hc15)
                    refine lv_iconst (v := 0) hx hb dX8_isSimple_52 (by decide) ?_
                    have hF : f_X8_isSimple nw n = 0 := hF
                    rw [hF] at hQ
                    exact hQ _ _ _ _ dX8_isSimple_53 hP hS
          exact L21 (ki + 1) ki 0  _ _ _ (Nat.lt_succ_self _) (by omega)  hF hP hD hS (lv_sub hl [1, 2, 3, 0] rfl)
    exact L14 (n + 1) n 0  _ _ _ (Nat.lt_succ_self _) (by omega)  hF hP hD hS (lv_sub hl [2, 1, 0] rfl)
  · replace hF := hF.trans (if_neg hc1)
    refine lv_iconst (v := 0) hx hb dX8_isSimple_10 (by decide) ?_
    have hF : f_X8_isSimple nw n = 0 := hF
    rw [hF] at hQ
    exact hQ _ _ _ _ dX8_isSimple_11 hP hS

def l_X8_areaOf_4 (nw : Nat → Int32) (n : Nat) : Nat → Nat → Int32 → Int32
  | 0, ki, z1_4 => z1_4
  | fu_X8_areaOf_4 + 1, ki, z1_4 => (if (nI n) ≤ (nI ki) then z1_4 else (l_X8_areaOf_4 nw n fu_X8_areaOf_4 (ki + 1) (z1_4 + (((f_X8_xOf nw ki n) * (f_X8_yOf nw (ki + 1) n)) - ((f_X8_yOf nw ki n) * (f_X8_xOf nw (ki + 1) n))))))
def f_X8_areaOf (nw : Nat → Int32) (n : Nat) : Int32 := (l_X8_areaOf_4 nw n (n + 1) 0 0)
set_option maxHeartbeats 400000000 in
set_option maxRecDepth 100000 in
theorem c_X8_areaOf (l : Launch) (D : va_G) (cy : Nat → ClassId) (ta : Nat) (m_now : Nat) (m_undone : Nat) (m_slots : Nat) (m_slotKind : Nat) (m_hasSlot : Nat) (m_sheetBits : Nat) (m_sheetSize : Nat) (m_sheets : Nat) (m_fresh : Nat) (m_rootWhich : Nat) (m_signs : Nat) (m_atNought : Nat) (m_change : Nat) (m_table : Nat) (m_carried : Nat) (nw : Nat → Int32) (u : Nat) (fi : Int32) (aa : Int64) (bb : Int64) (dd : Int64) (ro : Nat) (db : Int32) (mn : Nat) (n : Nat) (hn12 : nw 12 = nI n) (hn : n ≤ 8) : yk_Ci l D vwCl (yk_ty cy) yX8_areaOf wsX8_areaOf 2 41 [.ref ta] [(ta, .inr (8, [.ref m_now, .ref m_undone, .ref m_slots, .ref m_slotKind, .ref m_hasSlot, .ref m_sheetBits, .ref m_sheetSize, .ref m_sheets, .int (nI u), .int fi, .ref m_fresh, .long aa, .long bb, .long dd, .int (nI ro), .ref m_rootWhich, .int db, .ref m_signs, .ref m_atNought, .int (nI mn), .ref m_change, .ref m_table, .ref m_carried])), (m_now, .inl (cy 0, 29, .inl nw))] (f_X8_areaOf nw n) [(ta, .inr (8, [.ref m_now, .ref m_undone, .ref m_slots, .ref m_slotKind, .ref m_hasSlot, .ref m_sheetBits, .ref m_sheetSize, .ref m_sheets, .int (nI u), .int fi, .ref m_fresh, .long aa, .long bb, .long dd, .int (nI ro), .ref m_rootWhich, .int db, .ref m_signs, .ref m_atNought, .int (nI mn), .ref m_change, .ref m_table, .ref m_carried])), (m_now, .inl (cy 0, 29, .inl nw))] := by
  refine yk_eI (cc := cX8_areaOf) (maxL := 3) (by decide) rfl (Nat.le_of_ble_eq_true rfl) rfl ?_
  intro p e R s m args below meth c A Q ls H locs hx hb hml hown hts hRf hRl hA hK hG hP hD hS hl hQ
  have hP : va_P D vwCl [(ta, .inr (8, [.ref m_now, .ref m_undone, .ref m_slots, .ref m_slotKind, .ref m_hasSlot, .ref m_sheetBits, .ref m_sheetSize, .ref m_sheets, .int (nI u), .int fi, .ref m_fresh, .long aa, .long bb, .long dd, .int (nI ro), .ref m_rootWhich, .int db, .ref m_signs, .ref m_atNought, .int (nI mn), .ref m_change, .ref m_table, .ref m_carried])), (m_now, .inl (cy 0, 29, .inl nw))] H := hP
  have hl : lv_has ls 3 [(0, .ref ta)] := hl
  have hown : s.vm.findClass RX8 = some m.cls := hown
  have hF : (f_X8_areaOf nw n) = (f_X8_areaOf nw n) := rfl
  refine lv_iconst (v := 0) hx hb dX8_areaOf_0 (by decide) ?_
  refine lv_istore_n (lv' := [(1, .int 0), (0, .ref ta)]) hx hb dX8_areaOf_1 rfl hl (by decide) rfl (fun ls hl9 => ?_)
  replace hl := hl9
  clear hl9
  refine lv_iconst (v := 0) hx hb dX8_areaOf_2 (by decide) ?_
  refine lv_istore_n (lv' := [(2, .int 0), (1, .int 0), (0, .ref ta)]) hx hb dX8_areaOf_3 rfl hl (by decide) rfl (fun ls hl9 => ?_)
  replace hl := hl9
  clear hl9
  have J2 : ∀ (H : Heap) (locs : List Loc) (ls : Array Slot), va_P D vwCl [(ta, .inr (8, [.ref m_now, .ref m_undone, .ref m_slots, .ref m_slotKind, .ref m_hasSlot, .ref m_sheetBits, .ref m_sheetSize, .ref m_sheets, .int (nI u), .int fi, .ref m_fresh, .long aa, .long bb, .long dd, .int (nI ro), .ref m_rootWhich, .int db, .ref m_signs, .ref m_atNought, .int (nI mn), .ref m_change, .ref m_table, .ref m_carried])), (m_now, .inl (cy 0, 29, .inl nw))] H → va_D A [(ta, .inr (8, [.ref m_now, .ref m_undone, .ref m_slots, .ref m_slotKind, .ref m_hasSlot, .ref m_sheetBits, .ref m_sheetSize, .ref m_sheets, .int (nI u), .int fi, .ref m_fresh, .long aa, .long bb, .long dd, .int (nI ro), .ref m_rootWhich, .int db, .ref m_signs, .ref m_atNought, .int (nI mn), .ref m_change, .ref m_table, .ref m_carried])), (m_now, .inl (cy 0, 29, .inl nw))] → va_S A s.heap H locs → lv_has ls 3 [(0, .ref ta), (1, .int (l_X8_areaOf_4 nw n (n + 1) 0 0))] → W p l e R s m args below meth c H locs 0 0 Q (F0 m 48 ls []) := by
    clear hP hD hS hl
    intro H locs ls hP hD hS hl
    refine lv_iload_n hx hb dX8_areaOf_48 rfl (lv_at hl 1 rfl) ?_
    have hF : f_X8_areaOf nw n = (l_X8_areaOf_4 nw n (n + 1) 0 0) := hF
    rw [hF] at hQ
    exact hQ _ _ _ _ dX8_areaOf_49 hP hS
  have L4 : ∀ (M9 n4 ki : Nat) (z1_4 : Int32) (H : Heap) (locs : List Loc) (ls : Array Slot), n4 < M9 → ki + n4 = n → (l_X8_areaOf_4 nw n (n + 1) 0 0) = (l_X8_areaOf_4 nw n (n4 + 1) ki z1_4) → va_P D vwCl [(ta, .inr (8, [.ref m_now, .ref m_undone, .ref m_slots, .ref m_slotKind, .ref m_hasSlot, .ref m_sheetBits, .ref m_sheetSize, .ref m_sheets, .int (nI u), .int fi, .ref m_fresh, .long aa, .long bb, .long dd, .int (nI ro), .ref m_rootWhich, .int db, .ref m_signs, .ref m_atNought, .int (nI mn), .ref m_change, .ref m_table, .ref m_carried])), (m_now, .inl (cy 0, 29, .inl nw))] H → va_D A [(ta, .inr (8, [.ref m_now, .ref m_undone, .ref m_slots, .ref m_slotKind, .ref m_hasSlot, .ref m_sheetBits, .ref m_sheetSize, .ref m_sheets, .int (nI u), .int fi, .ref m_fresh, .long aa, .long bb, .long dd, .int (nI ro), .ref m_rootWhich, .int db, .ref m_signs, .ref m_atNought, .int (nI mn), .ref m_change, .ref m_table, .ref m_carried])), (m_now, .inl (cy 0, 29, .inl nw))] → va_S A s.heap H locs → lv_has ls 3 [(0, .ref ta), (1, .int z1_4), (2, .int (nI ki))] → W p l e R s m args below meth c H locs 0 0 Q (F0 m 4 ls []) := by
    clear hP hD hS hl
    intro M9
    induction M9 with
    | zero => intro n4 ki _ _ _ _ hn; exact absurd hn (Nat.not_lt_zero _)
    | succ M9 ih4 =>
      intro n4 ki z1_4 H locs ls hn4 hk4 hV4 hP hD hS hl
      refine lv_iload_n hx hb dX8_areaOf_4 rfl (lv_at hl 2 rfl) ?_
      refine lv_aload_n hx hb dX8_areaOf_5 rfl (lv_at hl 0 rfl) ?_
      refine yk_i [0, 1] (va_runV (As := []) (rest := [.int (nI ki)]) ⟨hx, hb, hml, hown, hts⟩ (c_X8_corners l D cy ta m_now m_undone m_slots m_slotKind m_hasSlot m_sheetBits m_sheetSize m_sheets m_fresh m_rootWhich m_signs m_atNought m_change m_table m_carried nw u fi aa bb dd ro db mn H.size) (cwV 0 hts gX8_areaOf_X8_corners rfl rfl rfl hv_X8_corners (yk_room hRf hRl rfl rfl)) (yk_pv (q := (RX8, TX8, 23)) hG hA hS hK hP hD [0, 1] (by decide +kernel) rfl rfl rfl) rfl rfl hl.1 rfl (lv_room (Nat.le_of_ble_eq_true rfl)) dX8_areaOf_6 ⟨Nat.zero_le _, Nat.zero_le _⟩) hP hD hS hA rfl rfl (fun H locs hP9 hD9 hS9 => ?_)
      replace hP : va_P D vwCl [(ta, .inr (8, [.ref m_now, .ref m_undone, .ref m_slots, .ref m_slotKind, .ref m_hasSlot, .ref m_sheetBits, .ref m_sheetSize, .ref m_sheets, .int (nI u), .int fi, .ref m_fresh, .long aa, .long bb, .long dd, .int (nI ro), .ref m_rootWhich, .int db, .ref m_signs, .ref m_atNought, .int (nI mn), .ref m_change, .ref m_table, .ref m_carried])), (m_now, .inl (cy 0, 29, .inl nw))] H := hP9
      replace hD : va_D A [(ta, .inr (8, [.ref m_now, .ref m_undone, .ref m_slots, .ref m_slotKind, .ref m_hasSlot, .ref m_sheetBits, .ref m_sheetSize, .ref m_sheets, .int (nI u), .int fi, .ref m_fresh, .long aa, .long bb, .long dd, .int (nI ro), .ref m_rootWhich, .int db, .ref m_signs, .ref m_atNought, .int (nI mn), .ref m_change, .ref m_table, .ref m_carried])), (m_now, .inl (cy 0, 29, .inl nw))] := hD9
      replace hS := hS9
      clear hP9 hD9 hS9
      refine yk_ti (y := nI n) (hn12) ?_
      refine lv_icmp_ge (tgt := 48) hx hb dX8_areaOf_9 (by decide) (fun hc1 => ?_) (fun hc1 => ?_)
      · replace hV4 := hV4.trans (if_pos hc1)
        have hV4 : (l_X8_areaOf_4 nw n (n + 1) 0 0) = z1_4 := hV4
        have J2 := J2
        rw [hV4] at J2
        exact J2 _ _ _ hP hD hS (lv_sub hl [0, 1] rfl)
      · replace hV4 := hV4.trans (if_neg hc1)
        have hlt4 : ki < n := yk_lt hk4 (by omega) hc1
        refine lv_iload_n hx hb dX8_areaOf_12 rfl (lv_at hl 1 rfl) ?_
        refine lv_aload_n hx hb dX8_areaOf_13 rfl (lv_at hl 0 rfl) ?_
        refine lv_iload_n hx hb dX8_areaOf_14 rfl (lv_at hl 2 rfl) ?_
        refine yk_i [0, 1] (va_runV (As := [.int (nI ki)]) (rest := [.int z1_4]) ⟨hx, hb, hml, hown, hts⟩ (c_X8_xOf l D cy ta m_now m_undone m_slots m_slotKind m_hasSlot m_sheetBits m_sheetSize m_sheets m_fresh m_rootWhich m_signs m_atNought m_change m_table m_carried nw u fi aa bb dd ro db mn ki n (by first | assumption | omega) (by first | assumption | omega) (by first | assumption | omega) (by first | assumption | omega) H.size) (cwV 1 hts gX8_areaOf_X8_xOf rfl rfl rfl hv_X8_xOf (yk_room hRf hRl rfl rfl)) (yk_pv (q := (RX8, TX8, 23)) hG hA hS hK hP hD [0, 1] (by decide +kernel) rfl rfl rfl) rfl rfl hl.1 rfl (lv_room (Nat.le_of_ble_eq_true rfl)) dX8_areaOf_15 ⟨Nat.zero_le _, Nat.zero_le _⟩) hP hD hS hA rfl rfl (fun H locs hP9 hD9 hS9 => ?_)
        replace hP : va_P D vwCl [(ta, .inr (8, [.ref m_now, .ref m_undone, .ref m_slots, .ref m_slotKind, .ref m_hasSlot, .ref m_sheetBits, .ref m_sheetSize, .ref m_sheets, .int (nI u), .int fi, .ref m_fresh, .long aa, .long bb, .long dd, .int (nI ro), .ref m_rootWhich, .int db, .ref m_signs, .ref m_atNought, .int (nI mn), .ref m_change, .ref m_table, .ref m_carried])), (m_now, .inl (cy 0, 29, .inl nw))] H := hP9
        replace hD : va_D A [(ta, .inr (8, [.ref m_now, .ref m_undone, .ref m_slots, .ref m_slotKind, .ref m_hasSlot, .ref m_sheetBits, .ref m_sheetSize, .ref m_sheets, .int (nI u), .int fi, .ref m_fresh, .long aa, .long bb, .long dd, .int (nI ro), .ref m_rootWhich, .int db, .ref m_signs, .ref m_atNought, .int (nI mn), .ref m_change, .ref m_table, .ref m_carried])), (m_now, .inl (cy 0, 29, .inl nw))] := hD9
        replace hS := hS9
        clear hP9 hD9 hS9
        refine lv_aload_n hx hb dX8_areaOf_18 rfl (lv_at hl 0 rfl) ?_
        refine lv_iload_n hx hb dX8_areaOf_19 rfl (lv_at hl 2 rfl) ?_
        refine lv_iconst (v := 1) hx hb dX8_areaOf_20 (by decide) ?_
        refine lv_iadd hx hb dX8_areaOf_21 ?_
        refine yk_ti (y := nI (ki + 1)) (nI_add ki 1) ?_
        refine yk_i [0, 1] (va_runV (As := [.int (nI (ki + 1))]) (rest := [.int (f_X8_xOf nw ki n), .int z1_4]) ⟨hx, hb, hml, hown, hts⟩ (c_X8_yOf l D cy ta m_now m_undone m_slots m_slotKind m_hasSlot m_sheetBits m_sheetSize m_sheets m_fresh m_rootWhich m_signs m_atNought m_change m_table m_carried nw u fi aa bb dd ro db mn (ki + 1) n (by first | assumption | omega) (by first | assumption | omega) (by first | assumption | omega) (by first | assumption | omega) H.size) (cwV 1 hts gX8_areaOf_X8_yOf rfl rfl rfl hv_X8_yOf (yk_room hRf hRl rfl rfl)) (yk_pv (q := (RX8, TX8, 23)) hG hA hS hK hP hD [0, 1] (by decide +kernel) rfl rfl rfl) rfl rfl hl.1 rfl (lv_room (Nat.le_of_ble_eq_true rfl)) dX8_areaOf_22 ⟨Nat.zero_le _, Nat.zero_le _⟩) hP hD hS hA rfl rfl (fun H locs hP9 hD9 hS9 => ?_)
        replace hP : va_P D vwCl [(ta, .inr (8, [.ref m_now, .ref m_undone, .ref m_slots, .ref m_slotKind, .ref m_hasSlot, .ref m_sheetBits, .ref m_sheetSize, .ref m_sheets, .int (nI u), .int fi, .ref m_fresh, .long aa, .long bb, .long dd, .int (nI ro), .ref m_rootWhich, .int db, .ref m_signs, .ref m_atNought, .int (nI mn), .ref m_change, .ref m_table, .ref m_carried])), (m_now, .inl (cy 0, 29, .inl nw))] H := hP9
        replace hD : va_D A [(ta, .inr (8, [.ref m_now, .ref m_undone, .ref m_slots, .ref m_slotKind, .ref m_hasSlot, .ref m_sheetBits, .ref m_sheetSize, .ref m_sheets, .int (nI u), .int fi, .ref m_fresh, .long aa, .long bb, .long dd, .int (nI ro), .ref m_rootWhich, .int db, .ref m_signs, .ref m_atNought, .int (nI mn), .ref m_change, .ref m_table, .ref m_carried])), (m_now, .inl (cy 0, 29, .inl nw))] := hD9
        replace hS := hS9
        clear hP9 hD9 hS9
        refine lv_imul hx hb dX8_areaOf_25 ?_
        refine lv_aload_n hx hb dX8_areaOf_26 rfl (lv_at hl 0 rfl) ?_
        refine lv_iload_n hx hb dX8_areaOf_27 rfl (lv_at hl 2 rfl) ?_
        refine yk_i [0, 1] (va_runV (As := [.int (nI ki)]) (rest := [.int ((f_X8_xOf nw ki n) * (f_X8_yOf nw (ki + 1) n)), .int z1_4]) ⟨hx, hb, hml, hown, hts⟩ (c_X8_yOf l D cy ta m_now m_undone m_slots m_slotKind m_hasSlot m_sheetBits m_sheetSize m_sheets m_fresh m_rootWhich m_signs m_atNought m_change m_table m_carried nw u fi aa bb dd ro db mn ki n (by first | assumption | omega) (by first | assumption | omega) (by first | assumption | omega) (by first | assumption | omega) H.size) (cwV 1 hts gX8_areaOf_X8_yOf rfl rfl rfl hv_X8_yOf (yk_room hRf hRl rfl rfl)) (yk_pv (q := (RX8, TX8, 23)) hG hA hS hK hP hD [0, 1] (by decide +kernel) rfl rfl rfl) rfl rfl hl.1 rfl (lv_room (Nat.le_of_ble_eq_true rfl)) dX8_areaOf_28 ⟨Nat.zero_le _, Nat.zero_le _⟩) hP hD hS hA rfl rfl (fun H locs hP9 hD9 hS9 => ?_)
        replace hP : va_P D vwCl [(ta, .inr (8, [.ref m_now, .ref m_undone, .ref m_slots, .ref m_slotKind, .ref m_hasSlot, .ref m_sheetBits, .ref m_sheetSize, .ref m_sheets, .int (nI u), .int fi, .ref m_fresh, .long aa, .long bb, .long dd, .int (nI ro), .ref m_rootWhich, .int db, .ref m_signs, .ref m_atNought, .int (nI mn), .ref m_change, .ref m_table, .ref m_carried])), (m_now, .inl (cy 0, 29, .inl nw))] H := hP9
        replace hD : va_D A [(ta, .inr (8, [.ref m_now, .ref m_undone, .ref m_slots, .ref m_slotKind, .ref m_hasSlot, .ref m_sheetBits, .ref m_sheetSize, .ref m_sheets, .int (nI u), .int fi, .ref m_fresh, .long aa, .long bb, .long dd, .int (nI ro), .ref m_rootWhich, .int db, .ref m_signs, .ref m_atNought, .int (nI mn), .ref m_change, .ref m_table, .ref m_carried])), (m_now, .inl (cy 0, 29, .inl nw))] := hD9
        replace hS := hS9
        clear hP9 hD9 hS9
        refine lv_aload_n hx hb dX8_areaOf_31 rfl (lv_at hl 0 rfl) ?_
        refine lv_iload_n hx hb dX8_areaOf_32 rfl (lv_at hl 2 rfl) ?_
        refine lv_iconst (v := 1) hx hb dX8_areaOf_33 (by decide) ?_
        refine lv_iadd hx hb dX8_areaOf_34 ?_
        refine yk_ti (y := nI (ki + 1)) (nI_add ki 1) ?_
        refine yk_i [0, 1] (va_runV (As := [.int (nI (ki + 1))]) (rest := [.int (f_X8_yOf nw ki n), .int ((f_X8_xOf nw ki n) * (f_X8_yOf nw (ki + 1) n)), .int z1_4]) ⟨hx, hb, hml, hown, hts⟩ (c_X8_xOf l D cy ta m_now m_undone m_slots m_slotKind m_hasSlot m_sheetBits m_sheetSize m_sheets m_fresh m_rootWhich m_signs m_atNought m_change m_table m_carried nw u fi aa bb dd ro db mn (ki + 1) n (by first | assumption | omega) (by first | assumption | omega) (by first | assumption | omega) (by first | assumption | omega) H.size) (cwV 1 hts gX8_areaOf_X8_xOf rfl rfl rfl hv_X8_xOf (yk_room hRf hRl rfl rfl)) (yk_pv (q := (RX8, TX8, 23)) hG hA hS hK hP hD [0, 1] (by decide +kernel) rfl rfl rfl) rfl rfl hl.1 rfl (lv_room (Nat.le_of_ble_eq_true rfl)) dX8_areaOf_35 ⟨Nat.zero_le _, Nat.zero_le _⟩) hP hD hS hA rfl rfl (fun H locs hP9 hD9 hS9 => ?_)
        replace hP : va_P D vwCl [(ta, .inr (8, [.ref m_now, .ref m_undone, .ref m_slots, .ref m_slotKind, .ref m_hasSlot, .ref m_sheetBits, .ref m_sheetSize, .ref m_sheets, .int (nI u), .int fi, .ref m_fresh, .long aa, .long bb, .long dd, .int (nI ro), .ref m_rootWhich, .int db, .ref m_signs, .ref m_atNought, .int (nI mn), .ref m_change, .ref m_table, .ref m_carried])), (m_now, .inl (cy 0, 29, .inl nw))] H := hP9
        replace hD : va_D A [(ta, .inr (8, [.ref m_now, .ref m_undone, .ref m_slots, .ref m_slotKind, .ref m_hasSlot, .ref m_sheetBits, .ref m_sheetSize, .ref m_sheets, .int (nI u), .int fi, .ref m_fresh, .long aa, .long bb, .long dd, .int (nI ro), .ref m_rootWhich, .int db, .ref m_signs, .ref m_atNought, .int (nI mn), .ref m_change, .ref m_table, .ref m_carried])), (m_now, .inl (cy 0, 29, .inl nw))] := hD9
        replace hS := hS9
        clear hP9 hD9 hS9
        refine lv_imul hx hb dX8_areaOf_38 ?_
        refine lv_isub hx hb dX8_areaOf_39 ?_
        refine lv_iadd hx hb dX8_areaOf_40 ?_
        refine lv_istore_n (lv' := [(1, .int (z1_4 + (((f_X8_xOf nw ki n) * (f_X8_yOf nw (ki + 1) n)) - ((f_X8_yOf nw ki n) * (f_X8_xOf nw (ki + 1) n))))), (0, .ref ta), (2, .int (nI ki))]) hx hb dX8_areaOf_41 rfl hl (by decide) rfl (fun ls hl9 => ?_)
        replace hl := hl9
        clear hl9
        refine lv_iinc (v := nI (ki + 1)) (lv' := [(2, .int (nI (ki + 1))), (1, .int (z1_4 + (((f_X8_xOf nw ki n) * (f_X8_yOf nw (ki + 1) n)) - ((f_X8_yOf nw ki n) * (f_X8_xOf nw (ki + 1) n))))), (0, .ref ta)]) hx hb dX8_areaOf_42 hl (k := 2) rfl (yk_inc ki) (by decide) rfl (fun ls hl9 => ?_)
        replace hl := hl9
        clear hl9
        refine lv_goto (tgt := 4) hx hb dX8_areaOf_45 (by decide) ?_
        obtain ⟨n9, rfl⟩ : ∃ n9, n4 = n9 + 1 := ⟨n4 - 1, by omega⟩
        exact ih4 n9 (ki + 1) (z1_4 + (((f_X8_xOf nw ki n) * (f_X8_yOf nw (ki + 1) n)) - ((f_X8_yOf nw ki n) * (f_X8_xOf nw (ki + 1) n)))) _ _ _ (by omega) (by omega)  hV4 hP hD hS (lv_sub hl [2, 1, 0] rfl)
  exact L4 (n + 1) n 0 0 _ _ _ (Nat.lt_succ_self _) (by omega)  rfl hP hD hS (lv_sub hl [2, 1, 0] rfl)

def f_X8_simple (nw : Nat → Int32) (bq : Int32) (n : Nat) : Int32 := (if (f_X8_isSimple nw n) = 0 then 0 else (if bq = 0 then 1 else (if (f_X8_areaOf nw n) ≤ 0 then 0 else 1)))
set_option maxHeartbeats 400000000 in
set_option maxRecDepth 100000 in
theorem c_X8_simple (l : Launch) (D : va_G) (cy : Nat → ClassId) (ta : Nat) (m_now : Nat) (m_undone : Nat) (m_slots : Nat) (m_slotKind : Nat) (m_hasSlot : Nat) (m_sheetBits : Nat) (m_sheetSize : Nat) (m_sheets : Nat) (m_fresh : Nat) (m_rootWhich : Nat) (m_signs : Nat) (m_atNought : Nat) (m_change : Nat) (m_table : Nat) (m_carried : Nat) (nw : Nat → Int32) (u : Nat) (fi : Int32) (aa : Int64) (bb : Int64) (dd : Int64) (ro : Nat) (db : Int32) (mn : Nat) (bq : Int32) (n : Nat) (hn12 : nw 12 = nI n) (hn : n ≤ 8) : yk_Ci l D vwCl (yk_ty cy) yX8_simple wsX8_simple 5 118 [.ref ta, .int bq] [(ta, .inr (8, [.ref m_now, .ref m_undone, .ref m_slots, .ref m_slotKind, .ref m_hasSlot, .ref m_sheetBits, .ref m_sheetSize, .ref m_sheets, .int (nI u), .int fi, .ref m_fresh, .long aa, .long bb, .long dd, .int (nI ro), .ref m_rootWhich, .int db, .ref m_signs, .ref m_atNought, .int (nI mn), .ref m_change, .ref m_table, .ref m_carried])), (m_now, .inl (cy 0, 29, .inl nw))] (f_X8_simple nw bq n) [(ta, .inr (8, [.ref m_now, .ref m_undone, .ref m_slots, .ref m_slotKind, .ref m_hasSlot, .ref m_sheetBits, .ref m_sheetSize, .ref m_sheets, .int (nI u), .int fi, .ref m_fresh, .long aa, .long bb, .long dd, .int (nI ro), .ref m_rootWhich, .int db, .ref m_signs, .ref m_atNought, .int (nI mn), .ref m_change, .ref m_table, .ref m_carried])), (m_now, .inl (cy 0, 29, .inl nw))] := by
  refine yk_eI (cc := cX8_simple) (maxL := 2) (by decide) rfl (Nat.le_of_ble_eq_true rfl) rfl ?_
  intro p e R s m args below meth c A Q ls H locs hx hb hml hown hts hRf hRl hA hK hG hP hD hS hl hQ
  have hP : va_P D vwCl [(ta, .inr (8, [.ref m_now, .ref m_undone, .ref m_slots, .ref m_slotKind, .ref m_hasSlot, .ref m_sheetBits, .ref m_sheetSize, .ref m_sheets, .int (nI u), .int fi, .ref m_fresh, .long aa, .long bb, .long dd, .int (nI ro), .ref m_rootWhich, .int db, .ref m_signs, .ref m_atNought, .int (nI mn), .ref m_change, .ref m_table, .ref m_carried])), (m_now, .inl (cy 0, 29, .inl nw))] H := hP
  have hl : lv_has ls 2 [(0, .ref ta), (1, .int bq)] := hl
  have hown : s.vm.findClass RX8 = some m.cls := hown
  have hF : (f_X8_simple nw bq n) = (f_X8_simple nw bq n) := rfl
  refine lv_aload_n hx hb dX8_simple_0 rfl (lv_at hl 0 rfl) ?_
  refine yk_i [0, 1] (va_runV (As := []) (rest := []) ⟨hx, hb, hml, hown, hts⟩ (c_X8_isSimple l D cy ta m_now m_undone m_slots m_slotKind m_hasSlot m_sheetBits m_sheetSize m_sheets m_fresh m_rootWhich m_signs m_atNought m_change m_table m_carried nw u fi aa bb dd ro db mn n (by first | assumption | omega) (by first | assumption | omega) H.size) (cwV 0 hts gX8_simple_X8_isSimple rfl rfl rfl hv_X8_isSimple (yk_room hRf hRl rfl rfl)) (yk_pv (q := (RX8, TX8, 23)) hG hA hS hK hP hD [0, 1] (by decide +kernel) rfl rfl rfl) rfl rfl hl.1 rfl (lv_room (Nat.le_of_ble_eq_true rfl)) dX8_simple_1 ⟨Nat.zero_le _, Nat.zero_le _⟩) hP hD hS hA rfl rfl (fun H locs hP9 hD9 hS9 => ?_)
  replace hP : va_P D vwCl [(ta, .inr (8, [.ref m_now, .ref m_undone, .ref m_slots, .ref m_slotKind, .ref m_hasSlot, .ref m_sheetBits, .ref m_sheetSize, .ref m_sheets, .int (nI u), .int fi, .ref m_fresh, .long aa, .long bb, .long dd, .int (nI ro), .ref m_rootWhich, .int db, .ref m_signs, .ref m_atNought, .int (nI mn), .ref m_change, .ref m_table, .ref m_carried])), (m_now, .inl (cy 0, 29, .inl nw))] H := hP9
  replace hD : va_D A [(ta, .inr (8, [.ref m_now, .ref m_undone, .ref m_slots, .ref m_slotKind, .ref m_hasSlot, .ref m_sheetBits, .ref m_sheetSize, .ref m_sheets, .int (nI u), .int fi, .ref m_fresh, .long aa, .long bb, .long dd, .int (nI ro), .ref m_rootWhich, .int db, .ref m_signs, .ref m_atNought, .int (nI mn), .ref m_change, .ref m_table, .ref m_carried])), (m_now, .inl (cy 0, 29, .inl nw))] := hD9
  replace hS := hS9
  clear hP9 hD9 hS9
  have J5 : ∀ (v4 : Int32) (H : Heap) (locs : List Loc) (ls : Array Slot), v4 = (if (f_X8_isSimple nw n) = 0 then 0 else (if bq = 0 then 1 else (if (f_X8_areaOf nw n) ≤ 0 then 0 else 1))) → va_P D vwCl [(ta, .inr (8, [.ref m_now, .ref m_undone, .ref m_slots, .ref m_slotKind, .ref m_hasSlot, .ref m_sheetBits, .ref m_sheetSize, .ref m_sheets, .int (nI u), .int fi, .ref m_fresh, .long aa, .long bb, .long dd, .int (nI ro), .ref m_rootWhich, .int db, .ref m_signs, .ref m_atNought, .int (nI mn), .ref m_change, .ref m_table, .ref m_carried])), (m_now, .inl (cy 0, 29, .inl nw))] H → va_D A [(ta, .inr (8, [.ref m_now, .ref m_undone, .ref m_slots, .ref m_slotKind, .ref m_hasSlot, .ref m_sheetBits, .ref m_sheetSize, .ref m_sheets, .int (nI u), .int fi, .ref m_fresh, .long aa, .long bb, .long dd, .int (nI ro), .ref m_rootWhich, .int db, .ref m_signs, .ref m_atNought, .int (nI mn), .ref m_change, .ref m_table, .ref m_carried])), (m_now, .inl (cy 0, 29, .inl nw))] → va_S A s.heap H locs → lv_has ls 2 [(0, .ref ta), (1, .int bq)] → W p l e R s m args below meth c H locs 0 0 Q (F0 m 23 ls [.int v4]) := by
    clear hP hD hS hl
    intro v4 H locs ls ev4 hP hD hS hl
    subst ev4
    have hF : f_X8_simple nw bq n = (if (f_X8_isSimple nw n) = 0 then 0 else (if bq = 0 then 1 else (if (f_X8_areaOf nw n) ≤ 0 then 0 else 1))) := hF
    rw [hF] at hQ
    exact hQ _ _ _ _ dX8_simple_23 hP hS
  refine lv_if_eq (tgt := 22) hx hb dX8_simple_4 (by decide) (fun hc1 => ?_) (fun hc1 => ?_)
  · refine lv_iconst (v := 0) hx hb dX8_simple_22 (by decide) ?_
    exact J5 _ _ _ _ ((if_pos hc1).symm) hP hD hS (lv_sub hl [0, 1] rfl)
  · refine lv_iload_n hx hb dX8_simple_7 rfl (lv_at hl 1 rfl) ?_
    refine lv_if_eq (tgt := 18) hx hb dX8_simple_8 (by decide) (fun hc2 => ?_) (fun hc2 => ?_)
    · refine lv_iconst (v := 1) hx hb dX8_simple_18 (by decide) ?_
      refine lv_goto (tgt := 23) hx hb dX8_simple_19 (by decide) ?_
      exact J5 _ _ _ _ (((if_neg hc1).trans (if_pos hc2)).symm) hP hD hS (lv_sub hl [0, 1] rfl)
    · refine lv_aload_n hx hb dX8_simple_11 rfl (lv_at hl 0 rfl) ?_
      refine yk_i [0, 1] (va_runV (As := []) (rest := []) ⟨hx, hb, hml, hown, hts⟩ (c_X8_areaOf l D cy ta m_now m_undone m_slots m_slotKind m_hasSlot m_sheetBits m_sheetSize m_sheets m_fresh m_rootWhich m_signs m_atNought m_change m_table m_carried nw u fi aa bb dd ro db mn n (by first | assumption | omega) (by first | assumption | omega) H.size) (cwV 0 hts gX8_simple_X8_areaOf rfl rfl rfl hv_X8_areaOf (yk_room hRf hRl rfl rfl)) (yk_pv (q := (RX8, TX8, 23)) hG hA hS hK hP hD [0, 1] (by decide +kernel) rfl rfl rfl) rfl rfl hl.1 rfl (lv_room (Nat.le_of_ble_eq_true rfl)) dX8_simple_12 ⟨Nat.zero_le _, Nat.zero_le _⟩) hP hD hS hA rfl rfl (fun H locs hP9 hD9 hS9 => ?_)
      replace hP : va_P D vwCl [(ta, .inr (8, [.ref m_now, .ref m_undone, .ref m_slots, .ref m_slotKind, .ref m_hasSlot, .ref m_sheetBits, .ref m_sheetSize, .ref m_sheets, .int (nI u), .int fi, .ref m_fresh, .long aa, .long bb, .long dd, .int (nI ro), .ref m_rootWhich, .int db, .ref m_signs, .ref m_atNought, .int (nI mn), .ref m_change, .ref m_table, .ref m_carried])), (m_now, .inl (cy 0, 29, .inl nw))] H := hP9
      replace hD : va_D A [(ta, .inr (8, [.ref m_now, .ref m_undone, .ref m_slots, .ref m_slotKind, .ref m_hasSlot, .ref m_sheetBits, .ref m_sheetSize, .ref m_sheets, .int (nI u), .int fi, .ref m_fresh, .long aa, .long bb, .long dd, .int (nI ro), .ref m_rootWhich, .int db, .ref m_signs, .ref m_atNought, .int (nI mn), .ref m_change, .ref m_table, .ref m_carried])), (m_now, .inl (cy 0, 29, .inl nw))] := hD9
      replace hS := hS9
      clear hP9 hD9 hS9
      refine lv_if_le (tgt := 22) hx hb dX8_simple_15 (by decide) (fun hc3 => ?_) (fun hc3 => ?_)
      · refine lv_iconst (v := 0) hx hb dX8_simple_22 (by decide) ?_
        exact J5 _ _ _ _ (((if_neg hc1).trans ((if_neg hc2).trans (if_pos hc3))).symm) hP hD hS (lv_sub hl [0, 1] rfl)
      · refine lv_iconst (v := 1) hx hb dX8_simple_18 (by decide) ?_
        refine lv_goto (tgt := 23) hx hb dX8_simple_19 (by decide) ?_
        exact J5 _ _ _ _ (((if_neg hc1).trans ((if_neg hc2).trans (if_neg hc3))).symm) hP hD hS (lv_sub hl [0, 1] rfl)

def f_X8_area (nw : Nat → Int32) (n : Nat) : Int32 := (f_X8_areaOf nw n)
set_option maxHeartbeats 400000000 in
set_option maxRecDepth 100000 in
theorem c_X8_area (l : Launch) (D : va_G) (cy : Nat → ClassId) (ta : Nat) (m_now : Nat) (m_undone : Nat) (m_slots : Nat) (m_slotKind : Nat) (m_hasSlot : Nat) (m_sheetBits : Nat) (m_sheetSize : Nat) (m_sheets : Nat) (m_fresh : Nat) (m_rootWhich : Nat) (m_signs : Nat) (m_atNought : Nat) (m_change : Nat) (m_table : Nat) (m_carried : Nat) (nw : Nat → Int32) (u : Nat) (fi : Int32) (aa : Int64) (bb : Int64) (dd : Int64) (ro : Nat) (db : Int32) (mn : Nat) (n : Nat) (hn12 : nw 12 = nI n) (hn : n ≤ 8) : yk_Ci l D vwCl (yk_ty cy) yX8_area wsX8_area 3 63 [.ref ta] [(ta, .inr (8, [.ref m_now, .ref m_undone, .ref m_slots, .ref m_slotKind, .ref m_hasSlot, .ref m_sheetBits, .ref m_sheetSize, .ref m_sheets, .int (nI u), .int fi, .ref m_fresh, .long aa, .long bb, .long dd, .int (nI ro), .ref m_rootWhich, .int db, .ref m_signs, .ref m_atNought, .int (nI mn), .ref m_change, .ref m_table, .ref m_carried])), (m_now, .inl (cy 0, 29, .inl nw))] (f_X8_area nw n) [(ta, .inr (8, [.ref m_now, .ref m_undone, .ref m_slots, .ref m_slotKind, .ref m_hasSlot, .ref m_sheetBits, .ref m_sheetSize, .ref m_sheets, .int (nI u), .int fi, .ref m_fresh, .long aa, .long bb, .long dd, .int (nI ro), .ref m_rootWhich, .int db, .ref m_signs, .ref m_atNought, .int (nI mn), .ref m_change, .ref m_table, .ref m_carried])), (m_now, .inl (cy 0, 29, .inl nw))] := by
  refine yk_eI (cc := cX8_area) (maxL := 1) (by decide) rfl (Nat.le_of_ble_eq_true rfl) rfl ?_
  intro p e R s m args below meth c A Q ls H locs hx hb hml hown hts hRf hRl hA hK hG hP hD hS hl hQ
  have hP : va_P D vwCl [(ta, .inr (8, [.ref m_now, .ref m_undone, .ref m_slots, .ref m_slotKind, .ref m_hasSlot, .ref m_sheetBits, .ref m_sheetSize, .ref m_sheets, .int (nI u), .int fi, .ref m_fresh, .long aa, .long bb, .long dd, .int (nI ro), .ref m_rootWhich, .int db, .ref m_signs, .ref m_atNought, .int (nI mn), .ref m_change, .ref m_table, .ref m_carried])), (m_now, .inl (cy 0, 29, .inl nw))] H := hP
  have hl : lv_has ls 1 [(0, .ref ta)] := hl
  have hown : s.vm.findClass RX8 = some m.cls := hown
  have hF : (f_X8_area nw n) = (f_X8_area nw n) := rfl
  refine lv_aload_n hx hb dX8_area_0 rfl (lv_at hl 0 rfl) ?_
  refine yk_i [0, 1] (va_runV (As := []) (rest := []) ⟨hx, hb, hml, hown, hts⟩ (c_X8_areaOf l D cy ta m_now m_undone m_slots m_slotKind m_hasSlot m_sheetBits m_sheetSize m_sheets m_fresh m_rootWhich m_signs m_atNought m_change m_table m_carried nw u fi aa bb dd ro db mn n (by first | assumption | omega) (by first | assumption | omega) H.size) (cwV 0 hts gX8_area_X8_areaOf rfl rfl rfl hv_X8_areaOf (yk_room hRf hRl rfl rfl)) (yk_pv (q := (RX8, TX8, 23)) hG hA hS hK hP hD [0, 1] (by decide +kernel) rfl rfl rfl) rfl rfl hl.1 rfl (lv_room (Nat.le_of_ble_eq_true rfl)) dX8_area_1 ⟨Nat.zero_le _, Nat.zero_le _⟩) hP hD hS hA rfl rfl (fun H locs hP9 hD9 hS9 => ?_)
  replace hP : va_P D vwCl [(ta, .inr (8, [.ref m_now, .ref m_undone, .ref m_slots, .ref m_slotKind, .ref m_hasSlot, .ref m_sheetBits, .ref m_sheetSize, .ref m_sheets, .int (nI u), .int fi, .ref m_fresh, .long aa, .long bb, .long dd, .int (nI ro), .ref m_rootWhich, .int db, .ref m_signs, .ref m_atNought, .int (nI mn), .ref m_change, .ref m_table, .ref m_carried])), (m_now, .inl (cy 0, 29, .inl nw))] H := hP9
  replace hD : va_D A [(ta, .inr (8, [.ref m_now, .ref m_undone, .ref m_slots, .ref m_slotKind, .ref m_hasSlot, .ref m_sheetBits, .ref m_sheetSize, .ref m_sheets, .int (nI u), .int fi, .ref m_fresh, .long aa, .long bb, .long dd, .int (nI ro), .ref m_rootWhich, .int db, .ref m_signs, .ref m_atNought, .int (nI mn), .ref m_change, .ref m_table, .ref m_carried])), (m_now, .inl (cy 0, 29, .inl nw))] := hD9
  replace hS := hS9
  clear hP9 hD9 hS9
  have hF : f_X8_area nw n = (f_X8_areaOf nw n) := hF
  rw [hF] at hQ
  exact hQ _ _ _ _ dX8_area_4 hP hS

def l_X8_where_33 (nw : Nat → Int32) (px : Int32) (py : Int32) (n : Nat) : Nat → Nat → Int32 → Int32
  | 0, kj, z3_33 => z3_33
  | fu_X8_where_33 + 1, kj, z3_33 => (if (nI n) ≤ (nI kj) then z3_33 else (l_X8_where_33 nw px py n fu_X8_where_33 (kj + 1) (if ((if (f_X8_yOf nw kj n) ≤ py then 0 else 1) : Int32) = (if (f_X8_yOf nw (kj + 1) n) ≤ py then 0 else 1) then z3_33 else (if (f_X8_yOf nw (kj + 1) n) ≤ (f_X8_yOf nw kj n) then (if 0 ≤ (f_X8_turn (f_X8_xOf nw kj n) (f_X8_yOf nw kj n) (f_X8_xOf nw (kj + 1) n) (f_X8_yOf nw (kj + 1) n) px py) then z3_33 else (if z3_33 = 0 then 1 else 0)) else (if (f_X8_turn (f_X8_xOf nw kj n) (f_X8_yOf nw kj n) (f_X8_xOf nw (kj + 1) n) (f_X8_yOf nw (kj + 1) n) px py) ≤ 0 then z3_33 else (if z3_33 = 0 then 1 else 0))))))
def l_X8_where_2 (nw : Nat → Int32) (px : Int32) (py : Int32) (n : Nat) : Nat → Nat → Int32
  | 0, ki => 0
  | fu_X8_where_2 + 1, ki => (if (nI n) ≤ (nI ki) then (if (l_X8_where_33 nw px py n (n + 1) 0 0) = 0 then 0 else 2) else (if (f_X8_isOn nw ki px py n) = 0 then (l_X8_where_2 nw px py n fu_X8_where_2 (ki + 1)) else 1))
def f_X8_where (nw : Nat → Int32) (px : Int32) (py : Int32) (n : Nat) : Int32 := (l_X8_where_2 nw px py n (n + 1) 0)
set_option maxHeartbeats 400000000 in
set_option maxRecDepth 100000 in
theorem c_X8_where (l : Launch) (D : va_G) (cy : Nat → ClassId) (ta : Nat) (m_now : Nat) (m_undone : Nat) (m_slots : Nat) (m_slotKind : Nat) (m_hasSlot : Nat) (m_sheetBits : Nat) (m_sheetSize : Nat) (m_sheets : Nat) (m_fresh : Nat) (m_rootWhich : Nat) (m_signs : Nat) (m_atNought : Nat) (m_change : Nat) (m_table : Nat) (m_carried : Nat) (nw : Nat → Int32) (u : Nat) (fi : Int32) (aa : Int64) (bb : Int64) (dd : Int64) (ro : Nat) (db : Int32) (mn : Nat) (px : Int32) (py : Int32) (n : Nat) (hn12 : nw 12 = nI n) (hn : n ≤ 8) : yk_Ci l D vwCl (yk_ty cy) yX8_where wsX8_where 3 68 [.ref ta, .int px, .int py] [(ta, .inr (8, [.ref m_now, .ref m_undone, .ref m_slots, .ref m_slotKind, .ref m_hasSlot, .ref m_sheetBits, .ref m_sheetSize, .ref m_sheets, .int (nI u), .int fi, .ref m_fresh, .long aa, .long bb, .long dd, .int (nI ro), .ref m_rootWhich, .int db, .ref m_signs, .ref m_atNought, .int (nI mn), .ref m_change, .ref m_table, .ref m_carried])), (m_now, .inl (cy 0, 29, .inl nw))] (f_X8_where nw px py n) [(ta, .inr (8, [.ref m_now, .ref m_undone, .ref m_slots, .ref m_slotKind, .ref m_hasSlot, .ref m_sheetBits, .ref m_sheetSize, .ref m_sheets, .int (nI u), .int fi, .ref m_fresh, .long aa, .long bb, .long dd, .int (nI ro), .ref m_rootWhich, .int db, .ref m_signs, .ref m_atNought, .int (nI mn), .ref m_change, .ref m_table, .ref m_carried])), (m_now, .inl (cy 0, 29, .inl nw))] := by
  refine yk_eI (cc := cX8_where) (maxL := 8) (by decide) rfl (Nat.le_of_ble_eq_true rfl) rfl ?_
  intro p e R s m args below meth c A Q ls H locs hx hb hml hown hts hRf hRl hA hK hG hP hD hS hl hQ
  have hP : va_P D vwCl [(ta, .inr (8, [.ref m_now, .ref m_undone, .ref m_slots, .ref m_slotKind, .ref m_hasSlot, .ref m_sheetBits, .ref m_sheetSize, .ref m_sheets, .int (nI u), .int fi, .ref m_fresh, .long aa, .long bb, .long dd, .int (nI ro), .ref m_rootWhich, .int db, .ref m_signs, .ref m_atNought, .int (nI mn), .ref m_change, .ref m_table, .ref m_carried])), (m_now, .inl (cy 0, 29, .inl nw))] H := hP
  have hl : lv_has ls 8 [(0, .ref ta), (1, .int px), (2, .int py)] := hl
  have hown : s.vm.findClass RX8 = some m.cls := hown
  have hF : (f_X8_where nw px py n) = (f_X8_where nw px py n) := rfl
  refine lv_iconst (v := 0) hx hb dX8_where_0 (by decide) ?_
  refine lv_istore_n (lv' := [(3, .int 0), (0, .ref ta), (1, .int px), (2, .int py)]) hx hb dX8_where_1 rfl hl (by decide) rfl (fun ls hl9 => ?_)
  replace hl := hl9
  clear hl9
  have L2 : ∀ (M9 n2 ki : Nat) (H : Heap) (locs : List Loc) (ls : Array Slot), n2 < M9 → ki + n2 = n → f_X8_where nw px py n = (l_X8_where_2 nw px py n (n2 + 1) ki) → va_P D vwCl [(ta, .inr (8, [.ref m_now, .ref m_undone, .ref m_slots, .ref m_slotKind, .ref m_hasSlot, .ref m_sheetBits, .ref m_sheetSize, .ref m_sheets, .int (nI u), .int fi, .ref m_fresh, .long aa, .long bb, .long dd, .int (nI ro), .ref m_rootWhich, .int db, .ref m_signs, .ref m_atNought, .int (nI mn), .ref m_change, .ref m_table, .ref m_carried])), (m_now, .inl (cy 0, 29, .inl nw))] H → va_D A [(ta, .inr (8, [.ref m_now, .ref m_undone, .ref m_slots, .ref m_slotKind, .ref m_hasSlot, .ref m_sheetBits, .ref m_sheetSize, .ref m_sheets, .int (nI u), .int fi, .ref m_fresh, .long aa, .long bb, .long dd, .int (nI ro), .ref m_rootWhich, .int db, .ref m_signs, .ref m_atNought, .int (nI mn), .ref m_change, .ref m_table, .ref m_carried])), (m_now, .inl (cy 0, 29, .inl nw))] → va_S A s.heap H locs → lv_has ls 8 [(0, .ref ta), (1, .int px), (2, .int py), (3, .int (nI ki))] → W p l e R s m args below meth c H locs 0 0 Q (F0 m 2 ls []) := by
    clear hP hD hS hl hF
    intro M9
    induction M9 with
    | zero => intro n2 ki _ _ _ hn; exact absurd hn (Nat.not_lt_zero _)
    | succ M9 ih2 =>
      intro n2 ki H locs ls hn2 hk2 hF hP hD hS hl
      refine lv_iload_n hx hb dX8_where_2 rfl (lv_at hl 3 rfl) ?_
      refine lv_aload_n hx hb dX8_where_3 rfl (lv_at hl 0 rfl) ?_
      refine yk_i [0, 1] (va_runV (As := []) (rest := [.int (nI ki)]) ⟨hx, hb, hml, hown, hts⟩ (c_X8_corners l D cy ta m_now m_undone m_slots m_slotKind m_hasSlot m_sheetBits m_sheetSize m_sheets m_fresh m_rootWhich m_signs m_atNought m_change m_table m_carried nw u fi aa bb dd ro db mn H.size) (cwV 0 hts gX8_where_X8_corners rfl rfl rfl hv_X8_corners (yk_room hRf hRl rfl rfl)) (yk_pv (q := (RX8, TX8, 23)) hG hA hS hK hP hD [0, 1] (by decide +kernel) rfl rfl rfl) rfl rfl hl.1 rfl (lv_room (Nat.le_of_ble_eq_true rfl)) dX8_where_4 ⟨Nat.zero_le _, Nat.zero_le _⟩) hP hD hS hA rfl rfl (fun H locs hP9 hD9 hS9 => ?_)
      replace hP : va_P D vwCl [(ta, .inr (8, [.ref m_now, .ref m_undone, .ref m_slots, .ref m_slotKind, .ref m_hasSlot, .ref m_sheetBits, .ref m_sheetSize, .ref m_sheets, .int (nI u), .int fi, .ref m_fresh, .long aa, .long bb, .long dd, .int (nI ro), .ref m_rootWhich, .int db, .ref m_signs, .ref m_atNought, .int (nI mn), .ref m_change, .ref m_table, .ref m_carried])), (m_now, .inl (cy 0, 29, .inl nw))] H := hP9
      replace hD : va_D A [(ta, .inr (8, [.ref m_now, .ref m_undone, .ref m_slots, .ref m_slotKind, .ref m_hasSlot, .ref m_sheetBits, .ref m_sheetSize, .ref m_sheets, .int (nI u), .int fi, .ref m_fresh, .long aa, .long bb, .long dd, .int (nI ro), .ref m_rootWhich, .int db, .ref m_signs, .ref m_atNought, .int (nI mn), .ref m_change, .ref m_table, .ref m_carried])), (m_now, .inl (cy 0, 29, .inl nw))] := hD9
      replace hS := hS9
      clear hP9 hD9 hS9
      refine yk_ti (y := nI n) (hn12) ?_
      refine lv_icmp_ge (tgt := 28) hx hb dX8_where_7 (by decide) (fun hc1 => ?_) (fun hc1 => ?_)
      · replace hF := hF.trans (if_pos hc1)
        refine lv_iconst (v := 0) hx hb dX8_where_28 (by decide) ?_
        refine lv_istore_n (lv' := [(3, .int 0), (0, .ref ta), (1, .int px), (2, .int py)]) hx hb dX8_where_29 rfl hl (by decide) rfl (fun ls hl9 => ?_)
        replace hl := hl9
        clear hl9
        refine lv_iconst (v := 0) hx hb dX8_where_30 (by decide) ?_
        refine lv_istore (lv' := [(4, .int 0), (3, .int 0), (0, .ref ta), (1, .int px), (2, .int py)]) hx hb dX8_where_31 hl (by decide) rfl (fun ls hl9 => ?_)
        replace hl := hl9
        clear hl9
        have J21 : ∀ (H : Heap) (locs : List Loc) (ls : Array Slot), va_P D vwCl [(ta, .inr (8, [.ref m_now, .ref m_undone, .ref m_slots, .ref m_slotKind, .ref m_hasSlot, .ref m_sheetBits, .ref m_sheetSize, .ref m_sheets, .int (nI u), .int fi, .ref m_fresh, .long aa, .long bb, .long dd, .int (nI ro), .ref m_rootWhich, .int db, .ref m_signs, .ref m_atNought, .int (nI mn), .ref m_change, .ref m_table, .ref m_carried])), (m_now, .inl (cy 0, 29, .inl nw))] H → va_D A [(ta, .inr (8, [.ref m_now, .ref m_undone, .ref m_slots, .ref m_slotKind, .ref m_hasSlot, .ref m_sheetBits, .ref m_sheetSize, .ref m_sheets, .int (nI u), .int fi, .ref m_fresh, .long aa, .long bb, .long dd, .int (nI ro), .ref m_rootWhich, .int db, .ref m_signs, .ref m_atNought, .int (nI mn), .ref m_change, .ref m_table, .ref m_carried])), (m_now, .inl (cy 0, 29, .inl nw))] → va_S A s.heap H locs → lv_has ls 8 [(0, .ref ta), (1, .int px), (2, .int py), (3, .int (l_X8_where_33 nw px py n (n + 1) 0 0))] → W p l e R s m args below meth c H locs 0 0 Q (F0 m 149 ls []) := by
          clear hP hD hS hl
          intro H locs ls hP hD hS hl
          refine lv_iload_n hx hb dX8_where_149 rfl (lv_at hl 3 rfl) ?_
          have J24 : ∀ (v23 : Int32) (H : Heap) (locs : List Loc) (ls : Array Slot), v23 = (if (l_X8_where_33 nw px py n (n + 1) 0 0) = 0 then 0 else 2) → va_P D vwCl [(ta, .inr (8, [.ref m_now, .ref m_undone, .ref m_slots, .ref m_slotKind, .ref m_hasSlot, .ref m_sheetBits, .ref m_sheetSize, .ref m_sheets, .int (nI u), .int fi, .ref m_fresh, .long aa, .long bb, .long dd, .int (nI ro), .ref m_rootWhich, .int db, .ref m_signs, .ref m_atNought, .int (nI mn), .ref m_change, .ref m_table, .ref m_carried])), (m_now, .inl (cy 0, 29, .inl nw))] H → va_D A [(ta, .inr (8, [.ref m_now, .ref m_undone, .ref m_slots, .ref m_slotKind, .ref m_hasSlot, .ref m_sheetBits, .ref m_sheetSize, .ref m_sheets, .int (nI u), .int fi, .ref m_fresh, .long aa, .long bb, .long dd, .int (nI ro), .ref m_rootWhich, .int db, .ref m_signs, .ref m_atNought, .int (nI mn), .ref m_change, .ref m_table, .ref m_carried])), (m_now, .inl (cy 0, 29, .inl nw))] → va_S A s.heap H locs → lv_has ls 8 [(0, .ref ta), (1, .int px), (2, .int py), (3, .int (l_X8_where_33 nw px py n (n + 1) 0 0))] → W p l e R s m args below meth c H locs 0 0 Q (F0 m 158 ls [.int v23]) := by
            clear hP hD hS hl
            intro v23 H locs ls ev23 hP hD hS hl
            subst ev23
            have hF : f_X8_where nw px py n = (if (l_X8_where_33 nw px py n (n + 1) 0 0) = 0 then 0 else 2) := hF
            rw [hF] at hQ
            exact hQ _ _ _ _ dX8_where_158 hP hS
          refine lv_if_eq (tgt := 157) hx hb dX8_where_150 (by decide) (fun hc22 => ?_) (fun hc22 => ?_)
          · refine lv_iconst (v := 0) hx hb dX8_where_157 (by decide) ?_
            exact J24 _ _ _ _ ((if_pos hc22).symm) hP hD hS (lv_sub hl [0, 1, 2, 3] rfl)
          · refine lv_iconst (v := 2) hx hb dX8_where_153 (by decide) ?_
            refine lv_goto (tgt := 158) hx hb dX8_where_154 (by decide) ?_
            exact J24 _ _ _ _ ((if_neg hc22).symm) hP hD hS (lv_sub hl [0, 1, 2, 3] rfl)
        have L33 : ∀ (M9 n33 kj : Nat) (z3_33 : Int32) (H : Heap) (locs : List Loc) (ls : Array Slot), n33 < M9 → kj + n33 = n → (l_X8_where_33 nw px py n (n + 1) 0 0) = (l_X8_where_33 nw px py n (n33 + 1) kj z3_33) → va_P D vwCl [(ta, .inr (8, [.ref m_now, .ref m_undone, .ref m_slots, .ref m_slotKind, .ref m_hasSlot, .ref m_sheetBits, .ref m_sheetSize, .ref m_sheets, .int (nI u), .int fi, .ref m_fresh, .long aa, .long bb, .long dd, .int (nI ro), .ref m_rootWhich, .int db, .ref m_signs, .ref m_atNought, .int (nI mn), .ref m_change, .ref m_table, .ref m_carried])), (m_now, .inl (cy 0, 29, .inl nw))] H → va_D A [(ta, .inr (8, [.ref m_now, .ref m_undone, .ref m_slots, .ref m_slotKind, .ref m_hasSlot, .ref m_sheetBits, .ref m_sheetSize, .ref m_sheets, .int (nI u), .int fi, .ref m_fresh, .long aa, .long bb, .long dd, .int (nI ro), .ref m_rootWhich, .int db, .ref m_signs, .ref m_atNought, .int (nI mn), .ref m_change, .ref m_table, .ref m_carried])), (m_now, .inl (cy 0, 29, .inl nw))] → va_S A s.heap H locs → lv_has ls 8 [(0, .ref ta), (1, .int px), (2, .int py), (3, .int z3_33), (4, .int (nI kj))] → W p l e R s m args below meth c H locs 0 0 Q (F0 m 33 ls []) := by
          clear hP hD hS hl
          intro M9
          induction M9 with
          | zero => intro n33 kj _ _ _ _ hn; exact absurd hn (Nat.not_lt_zero _)
          | succ M9 ih33 =>
            intro n33 kj z3_33 H locs ls hn33 hk33 hV33 hP hD hS hl
            refine lv_iload hx hb dX8_where_33 (lv_at hl 4 rfl) ?_
            refine lv_aload_n hx hb dX8_where_35 rfl (lv_at hl 0 rfl) ?_
            refine yk_i [0, 1] (va_runV (As := []) (rest := [.int (nI kj)]) ⟨hx, hb, hml, hown, hts⟩ (c_X8_corners l D cy ta m_now m_undone m_slots m_slotKind m_hasSlot m_sheetBits m_sheetSize m_sheets m_fresh m_rootWhich m_signs m_atNought m_change m_table m_carried nw u fi aa bb dd ro db mn H.size) (cwV 0 hts gX8_where_X8_corners rfl rfl rfl hv_X8_corners (yk_room hRf hRl rfl rfl)) (yk_pv (q := (RX8, TX8, 23)) hG hA hS hK hP hD [0, 1] (by decide +kernel) rfl rfl rfl) rfl rfl hl.1 rfl (lv_room (Nat.le_of_ble_eq_true rfl)) dX8_where_36 ⟨Nat.zero_le _, Nat.zero_le _⟩) hP hD hS hA rfl rfl (fun H locs hP9 hD9 hS9 => ?_)
            replace hP : va_P D vwCl [(ta, .inr (8, [.ref m_now, .ref m_undone, .ref m_slots, .ref m_slotKind, .ref m_hasSlot, .ref m_sheetBits, .ref m_sheetSize, .ref m_sheets, .int (nI u), .int fi, .ref m_fresh, .long aa, .long bb, .long dd, .int (nI ro), .ref m_rootWhich, .int db, .ref m_signs, .ref m_atNought, .int (nI mn), .ref m_change, .ref m_table, .ref m_carried])), (m_now, .inl (cy 0, 29, .inl nw))] H := hP9
            replace hD : va_D A [(ta, .inr (8, [.ref m_now, .ref m_undone, .ref m_slots, .ref m_slotKind, .ref m_hasSlot, .ref m_sheetBits, .ref m_sheetSize, .ref m_sheets, .int (nI u), .int fi, .ref m_fresh, .long aa, .long bb, .long dd, .int (nI ro), .ref m_rootWhich, .int db, .ref m_signs, .ref m_atNought, .int (nI mn), .ref m_change, .ref m_table, .ref m_carried])), (m_now, .inl (cy 0, 29, .inl nw))] := hD9
            replace hS := hS9
            clear hP9 hD9 hS9
            refine yk_ti (y := nI n) (hn12) ?_
            refine lv_icmp_ge (tgt := 149) hx hb dX8_where_39 (by decide) (fun hc2 => ?_) (fun hc2 => ?_)
            · replace hV33 := hV33.trans (if_pos hc2)
              have hV33 : (l_X8_where_33 nw px py n (n + 1) 0 0) = z3_33 := hV33
              have J21 := J21
              rw [hV33] at J21
              exact J21 _ _ _ hP hD hS (lv_sub hl [0, 1, 2, 3] rfl)
            · replace hV33 := hV33.trans (if_neg hc2)
              have hlt33 : kj < n := yk_lt hk33 (by omega) hc2
              refine lv_aload_n hx hb dX8_where_42 rfl (lv_at hl 0 rfl) ?_
              refine lv_iload hx hb dX8_where_43 (lv_at hl 4 rfl) ?_
              refine yk_i [0, 1] (va_runV (As := [.int (nI kj)]) (rest := []) ⟨hx, hb, hml, hown, hts⟩ (c_X8_yOf l D cy ta m_now m_undone m_slots m_slotKind m_hasSlot m_sheetBits m_sheetSize m_sheets m_fresh m_rootWhich m_signs m_atNought m_change m_table m_carried nw u fi aa bb dd ro db mn kj n (by first | assumption | omega) (by first | assumption | omega) (by first | assumption | omega) (by first | assumption | omega) H.size) (cwV 1 hts gX8_where_X8_yOf rfl rfl rfl hv_X8_yOf (yk_room hRf hRl rfl rfl)) (yk_pv (q := (RX8, TX8, 23)) hG hA hS hK hP hD [0, 1] (by decide +kernel) rfl rfl rfl) rfl rfl hl.1 rfl (lv_room (Nat.le_of_ble_eq_true rfl)) dX8_where_45 ⟨Nat.zero_le _, Nat.zero_le _⟩) hP hD hS hA rfl rfl (fun H locs hP9 hD9 hS9 => ?_)
              replace hP : va_P D vwCl [(ta, .inr (8, [.ref m_now, .ref m_undone, .ref m_slots, .ref m_slotKind, .ref m_hasSlot, .ref m_sheetBits, .ref m_sheetSize, .ref m_sheets, .int (nI u), .int fi, .ref m_fresh, .long aa, .long bb, .long dd, .int (nI ro), .ref m_rootWhich, .int db, .ref m_signs, .ref m_atNought, .int (nI mn), .ref m_change, .ref m_table, .ref m_carried])), (m_now, .inl (cy 0, 29, .inl nw))] H := hP9
              replace hD : va_D A [(ta, .inr (8, [.ref m_now, .ref m_undone, .ref m_slots, .ref m_slotKind, .ref m_hasSlot, .ref m_sheetBits, .ref m_sheetSize, .ref m_sheets, .int (nI u), .int fi, .ref m_fresh, .long aa, .long bb, .long dd, .int (nI ro), .ref m_rootWhich, .int db, .ref m_signs, .ref m_atNought, .int (nI mn), .ref m_change, .ref m_table, .ref m_carried])), (m_now, .inl (cy 0, 29, .inl nw))] := hD9
              replace hS := hS9
              clear hP9 hD9 hS9
              refine lv_istore (lv' := [(5, .int (f_X8_yOf nw kj n)), (0, .ref ta), (1, .int px), (2, .int py), (3, .int z3_33), (4, .int (nI kj))]) hx hb dX8_where_48 hl (by decide) rfl (fun ls hl9 => ?_)
              replace hl := hl9
              clear hl9
              refine lv_aload_n hx hb dX8_where_50 rfl (lv_at hl 1 rfl) ?_
              refine lv_iload hx hb dX8_where_51 (lv_at hl 5 rfl) ?_
              refine lv_iconst (v := 1) hx hb dX8_where_53 (by decide) ?_
              refine lv_iadd hx hb dX8_where_54 ?_
              refine yk_ti (y := nI (kj + 1)) (nI_add kj 1) ?_
              refine yk_i [0, 1] (va_runV (As := [.int (nI (kj + 1))]) (rest := []) ⟨hx, hb, hml, hown, hts⟩ (c_X8_yOf l D cy ta m_now m_undone m_slots m_slotKind m_hasSlot m_sheetBits m_sheetSize m_sheets m_fresh m_rootWhich m_signs m_atNought m_change m_table m_carried nw u fi aa bb dd ro db mn (kj + 1) n (by first | assumption | omega) (by first | assumption | omega) (by first | assumption | omega) (by first | assumption | omega) H.size) (cwV 1 hts gX8_where_X8_yOf rfl rfl rfl hv_X8_yOf (yk_room hRf hRl rfl rfl)) (yk_pv (q := (RX8, TX8, 23)) hG hA hS hK hP hD [0, 1] (by decide +kernel) rfl rfl rfl) rfl rfl hl.1 rfl (lv_room (Nat.le_of_ble_eq_true rfl)) dX8_where_55 ⟨Nat.zero_le _, Nat.zero_le _⟩) hP hD hS hA rfl rfl (fun H locs hP9 hD9 hS9 => ?_)
              replace hP : va_P D vwCl [(ta, .inr (8, [.ref m_now, .ref m_undone, .ref m_slots, .ref m_slotKind, .ref m_hasSlot, .ref m_sheetBits, .ref m_sheetSize, .ref m_sheets, .int (nI u), .int fi, .ref m_fresh, .long aa, .long bb, .long dd, .int (nI ro), .ref m_rootWhich, .int db, .ref m_signs, .ref m_atNought, .int (nI mn), .ref m_change, .ref m_table, .ref m_carried])), (m_now, .inl (cy 0, 29, .inl nw))] H := hP9
              replace hD : va_D A [(ta, .inr (8, [.ref m_now, .ref m_undone, .ref m_slots, .ref m_slotKind, .ref m_hasSlot, .ref m_sheetBits, .ref m_sheetSize, .ref m_sheets, .int (nI u), .int fi, .ref m_fresh, .long aa, .long bb, .long dd, .int (nI ro), .ref m_rootWhich, .int db, .ref m_signs, .ref m_atNought, .int (nI mn), .ref m_change, .ref m_table, .ref m_carried])), (m_now, .inl (cy 0, 29, .inl nw))] := hD9
              replace hS := hS9
              clear hP9 hD9 hS9
              refine lv_istore (lv' := [(6, .int (f_X8_yOf nw (kj + 1) n)), (5, .int (f_X8_yOf nw kj n)), (0, .ref ta), (1, .int px), (2, .int py), (3, .int z3_33), (4, .int (nI kj))]) hx hb dX8_where_58 hl (by decide) rfl (fun ls hl9 => ?_)
              replace hl := hl9
              clear hl9
              refine lv_iload hx hb dX8_where_60 (lv_at hl 1 rfl) ?_
              refine lv_iload_n hx hb dX8_where_62 rfl (lv_at hl 4 rfl) ?_
              have J5 : ∀ (v4 : Int32) (H : Heap) (locs : List Loc) (ls : Array Slot), v4 = (if (f_X8_yOf nw kj n) ≤ py then 0 else 1) → va_P D vwCl [(ta, .inr (8, [.ref m_now, .ref m_undone, .ref m_slots, .ref m_slotKind, .ref m_hasSlot, .ref m_sheetBits, .ref m_sheetSize, .ref m_sheets, .int (nI u), .int fi, .ref m_fresh, .long aa, .long bb, .long dd, .int (nI ro), .ref m_rootWhich, .int db, .ref m_signs, .ref m_atNought, .int (nI mn), .ref m_change, .ref m_table, .ref m_carried])), (m_now, .inl (cy 0, 29, .inl nw))] H → va_D A [(ta, .inr (8, [.ref m_now, .ref m_undone, .ref m_slots, .ref m_slotKind, .ref m_hasSlot, .ref m_sheetBits, .ref m_sheetSize, .ref m_sheets, .int (nI u), .int fi, .ref m_fresh, .long aa, .long bb, .long dd, .int (nI ro), .ref m_rootWhich, .int db, .ref m_signs, .ref m_atNought, .int (nI mn), .ref m_change, .ref m_table, .ref m_carried])), (m_now, .inl (cy 0, 29, .inl nw))] → va_S A s.heap H locs → lv_has ls 8 [(0, .ref ta), (1, .int px), (2, .int py), (3, .int z3_33), (4, .int (nI kj)), (5, .int (f_X8_yOf nw kj n)), (6, .int (f_X8_yOf nw (kj + 1) n))] → W p l e R s m args below meth c H locs 0 0 Q (F0 m 71 ls [.int v4]) := by
                clear hP hD hS hl
                intro v4 H locs ls ev4 hP hD hS hl
                subst ev4
                refine lv_iload hx hb dX8_where_71 (lv_at hl 6 rfl) ?_
                refine lv_iload_n hx hb dX8_where_73 rfl (lv_at hl 2 rfl) ?_
                have J8 : ∀ (v7 : Int32) (H : Heap) (locs : List Loc) (ls : Array Slot), v7 = (if (f_X8_yOf nw (kj + 1) n) ≤ py then 0 else 1) → va_P D vwCl [(ta, .inr (8, [.ref m_now, .ref m_undone, .ref m_slots, .ref m_slotKind, .ref m_hasSlot, .ref m_sheetBits, .ref m_sheetSize, .ref m_sheets, .int (nI u), .int fi, .ref m_fresh, .long aa, .long bb, .long dd, .int (nI ro), .ref m_rootWhich, .int db, .ref m_signs, .ref m_atNought, .int (nI mn), .ref m_change, .ref m_table, .ref m_carried])), (m_now, .inl (cy 0, 29, .inl nw))] H → va_D A [(ta, .inr (8, [.ref m_now, .ref m_undone, .ref m_slots, .ref m_slotKind, .ref m_hasSlot, .ref m_sheetBits, .ref m_sheetSize, .ref m_sheets, .int (nI u), .int fi, .ref m_fresh, .long aa, .long bb, .long dd, .int (nI ro), .ref m_rootWhich, .int db, .ref m_signs, .ref m_atNought, .int (nI mn), .ref m_change, .ref m_table, .ref m_carried])), (m_now, .inl (cy 0, 29, .inl nw))] → va_S A s.heap H locs → lv_has ls 8 [(0, .ref ta), (1, .int px), (2, .int py), (3, .int z3_33), (4, .int (nI kj)), (5, .int (f_X8_yOf nw kj n)), (6, .int (f_X8_yOf nw (kj + 1) n))] → W p l e R s m args below meth c H locs 0 0 Q (F0 m 82 ls [.int v7, .int (if (f_X8_yOf nw kj n) ≤ py then 0 else 1)]) := by
                  clear hP hD hS hl
                  intro v7 H locs ls ev7 hP hD hS hl
                  subst ev7
                  have J20 : ∀ (v19 : Int32) (H : Heap) (locs : List Loc) (ls : Array Slot), v19 = (if ((if (f_X8_yOf nw kj n) ≤ py then 0 else 1) : Int32) = (if (f_X8_yOf nw (kj + 1) n) ≤ py then 0 else 1) then z3_33 else (if (f_X8_yOf nw (kj + 1) n) ≤ (f_X8_yOf nw kj n) then (if 0 ≤ (f_X8_turn (f_X8_xOf nw kj n) (f_X8_yOf nw kj n) (f_X8_xOf nw (kj + 1) n) (f_X8_yOf nw (kj + 1) n) px py) then z3_33 else (if z3_33 = 0 then 1 else 0)) else (if (f_X8_turn (f_X8_xOf nw kj n) (f_X8_yOf nw kj n) (f_X8_xOf nw (kj + 1) n) (f_X8_yOf nw (kj + 1) n) px py) ≤ 0 then z3_33 else (if z3_33 = 0 then 1 else 0)))) → va_P D vwCl [(ta, .inr (8, [.ref m_now, .ref m_undone, .ref m_slots, .ref m_slotKind, .ref m_hasSlot, .ref m_sheetBits, .ref m_sheetSize, .ref m_sheets, .int (nI u), .int fi, .ref m_fresh, .long aa, .long bb, .long dd, .int (nI ro), .ref m_rootWhich, .int db, .ref m_signs, .ref m_atNought, .int (nI mn), .ref m_change, .ref m_table, .ref m_carried])), (m_now, .inl (cy 0, 29, .inl nw))] H → va_D A [(ta, .inr (8, [.ref m_now, .ref m_undone, .ref m_slots, .ref m_slotKind, .ref m_hasSlot, .ref m_sheetBits, .ref m_sheetSize, .ref m_sheets, .int (nI u), .int fi, .ref m_fresh, .long aa, .long bb, .long dd, .int (nI ro), .ref m_rootWhich, .int db, .ref m_signs, .ref m_atNought, .int (nI mn), .ref m_change, .ref m_table, .ref m_carried])), (m_now, .inl (cy 0, 29, .inl nw))] → va_S A s.heap H locs → lv_has ls 8 [(0, .ref ta), (1, .int px), (2, .int py), (3, .int v19), (4, .int (nI kj)), (5, .int (f_X8_yOf nw kj n)), (6, .int (f_X8_yOf nw (kj + 1) n))] → W p l e R s m args below meth c H locs 0 0 Q (F0 m 143 ls []) := by
                    clear hP hD hS hl
                    intro v19 H locs ls ev19 hP hD hS hl
                    subst ev19
                    refine lv_iinc (v := nI (kj + 1)) (lv' := [(4, .int (nI (kj + 1))), (0, .ref ta), (1, .int px), (2, .int py), (3, .int (if ((if (f_X8_yOf nw kj n) ≤ py then 0 else 1) : Int32) = (if (f_X8_yOf nw (kj + 1) n) ≤ py then 0 else 1) then z3_33 else (if (f_X8_yOf nw (kj + 1) n) ≤ (f_X8_yOf nw kj n) then (if 0 ≤ (f_X8_turn (f_X8_xOf nw kj n) (f_X8_yOf nw kj n) (f_X8_xOf nw (kj + 1) n) (f_X8_yOf nw (kj + 1) n) px py) then z3_33 else (if z3_33 = 0 then 1 else 0)) else (if (f_X8_turn (f_X8_xOf nw kj n) (f_X8_yOf nw kj n) (f_X8_xOf nw (kj + 1) n) (f_X8_yOf nw (kj + 1) n) px py) ≤ 0 then z3_33 else (if z3_33 = 0 then 1 else 0))))), (5, .int (f_X8_yOf nw kj n)), (6, .int (f_X8_yOf nw (kj + 1) n))]) hx hb dX8_where_143 hl (k := 4) rfl (yk_inc kj) (by decide) rfl (fun ls hl9 => ?_)
                    replace hl := hl9
                    clear hl9
                    refine lv_goto (tgt := 33) hx hb dX8_where_146 (by decide) ?_
                    obtain ⟨n9, rfl⟩ : ∃ n9, n33 = n9 + 1 := ⟨n33 - 1, by omega⟩
                    exact ih33 n9 (kj + 1) (if ((if (f_X8_yOf nw kj n) ≤ py then 0 else 1) : Int32) = (if (f_X8_yOf nw (kj + 1) n) ≤ py then 0 else 1) then z3_33 else (if (f_X8_yOf nw (kj + 1) n) ≤ (f_X8_yOf nw kj n) then (if 0 ≤ (f_X8_turn (f_X8_xOf nw kj n) (f_X8_yOf nw kj n) (f_X8_xOf nw (kj + 1) n) (f_X8_yOf nw (kj + 1) n) px py) then z3_33 else (if z3_33 = 0 then 1 else 0)) else (if (f_X8_turn (f_X8_xOf nw kj n) (f_X8_yOf nw kj n) (f_X8_xOf nw (kj + 1) n) (f_X8_yOf nw (kj + 1) n) px py) ≤ 0 then z3_33 else (if z3_33 = 0 then 1 else 0)))) _ _ _ (by omega) (by omega)  hV33 hP hD hS (lv_sub hl [1, 2, 3, 4, 0] rfl)
                  refine lv_icmp_ne (tgt := 88) hx hb dX8_where_82 (by decide) (fun hc9 => ?_) (fun hc9 => ?_)
                  · refine lv_aload_n hx hb dX8_where_88 rfl (lv_at hl 0 rfl) ?_
                    refine lv_iload hx hb dX8_where_89 (lv_at hl 4 rfl) ?_
                    refine yk_i [0, 1] (va_runV (As := [.int (nI kj)]) (rest := []) ⟨hx, hb, hml, hown, hts⟩ (c_X8_xOf l D cy ta m_now m_undone m_slots m_slotKind m_hasSlot m_sheetBits m_sheetSize m_sheets m_fresh m_rootWhich m_signs m_atNought m_change m_table m_carried nw u fi aa bb dd ro db mn kj n (by first | assumption | omega) (by first | assumption | omega) (by first | assumption | omega) (by first | assumption | omega) H.size) (cwV 1 hts gX8_where_X8_xOf rfl rfl rfl hv_X8_xOf (yk_room hRf hRl rfl rfl)) (yk_pv (q := (RX8, TX8, 23)) hG hA hS hK hP hD [0, 1] (by decide +kernel) rfl rfl rfl) rfl rfl hl.1 rfl (lv_room (Nat.le_of_ble_eq_true rfl)) dX8_where_91 ⟨Nat.zero_le _, Nat.zero_le _⟩) hP hD hS hA rfl rfl (fun H locs hP9 hD9 hS9 => ?_)
                    replace hP : va_P D vwCl [(ta, .inr (8, [.ref m_now, .ref m_undone, .ref m_slots, .ref m_slotKind, .ref m_hasSlot, .ref m_sheetBits, .ref m_sheetSize, .ref m_sheets, .int (nI u), .int fi, .ref m_fresh, .long aa, .long bb, .long dd, .int (nI ro), .ref m_rootWhich, .int db, .ref m_signs, .ref m_atNought, .int (nI mn), .ref m_change, .ref m_table, .ref m_carried])), (m_now, .inl (cy 0, 29, .inl nw))] H := hP9
                    replace hD : va_D A [(ta, .inr (8, [.ref m_now, .ref m_undone, .ref m_slots, .ref m_slotKind, .ref m_hasSlot, .ref m_sheetBits, .ref m_sheetSize, .ref m_sheets, .int (nI u), .int fi, .ref m_fresh, .long aa, .long bb, .long dd, .int (nI ro), .ref m_rootWhich, .int db, .ref m_signs, .ref m_atNought, .int (nI mn), .ref m_change, .ref m_table, .ref m_carried])), (m_now, .inl (cy 0, 29, .inl nw))] := hD9
                    replace hS := hS9
                    clear hP9 hD9 hS9
                    refine lv_iload hx hb dX8_where_94 (lv_at hl 5 rfl) ?_
                    refine lv_aload_n hx hb dX8_where_96 rfl (lv_at hl 0 rfl) ?_
                    refine lv_iload hx hb dX8_where_97 (lv_at hl 4 rfl) ?_
                    refine lv_iconst (v := 1) hx hb dX8_where_99 (by decide) ?_
                    refine lv_iadd hx hb dX8_where_100 ?_
                    refine yk_ti (y := nI (kj + 1)) (nI_add kj 1) ?_
                    refine yk_i [0, 1] (va_runV (As := [.int (nI (kj + 1))]) (rest := [.int (f_X8_yOf nw kj n), .int (f_X8_xOf nw kj n)]) ⟨hx, hb, hml, hown, hts⟩ (c_X8_xOf l D cy ta m_now m_undone m_slots m_slotKind m_hasSlot m_sheetBits m_sheetSize m_sheets m_fresh m_rootWhich m_signs m_atNought m_change m_table m_carried nw u fi aa bb dd ro db mn (kj + 1) n (by first | assumption | omega) (by first | assumption | omega) (by first | assumption | omega) (by first | assumption | omega) H.size) (cwV 1 hts gX8_where_X8_xOf rfl rfl rfl hv_X8_xOf (yk_room hRf hRl rfl rfl)) (yk_pv (q := (RX8, TX8, 23)) hG hA hS hK hP hD [0, 1] (by decide +kernel) rfl rfl rfl) rfl rfl hl.1 rfl (lv_room (Nat.le_of_ble_eq_true rfl)) dX8_where_101 ⟨Nat.zero_le _, Nat.zero_le _⟩) hP hD hS hA rfl rfl (fun H locs hP9 hD9 hS9 => ?_)
                    replace hP : va_P D vwCl [(ta, .inr (8, [.ref m_now, .ref m_undone, .ref m_slots, .ref m_slotKind, .ref m_hasSlot, .ref m_sheetBits, .ref m_sheetSize, .ref m_sheets, .int (nI u), .int fi, .ref m_fresh, .long aa, .long bb, .long dd, .int (nI ro), .ref m_rootWhich, .int db, .ref m_signs, .ref m_atNought, .int (nI mn), .ref m_change, .ref m_table, .ref m_carried])), (m_now, .inl (cy 0, 29, .inl nw))] H := hP9
                    replace hD : va_D A [(ta, .inr (8, [.ref m_now, .ref m_undone, .ref m_slots, .ref m_slotKind, .ref m_hasSlot, .ref m_sheetBits, .ref m_sheetSize, .ref m_sheets, .int (nI u), .int fi, .ref m_fresh, .long aa, .long bb, .long dd, .int (nI ro), .ref m_rootWhich, .int db, .ref m_signs, .ref m_atNought, .int (nI mn), .ref m_change, .ref m_table, .ref m_carried])), (m_now, .inl (cy 0, 29, .inl nw))] := hD9
                    replace hS := hS9
                    clear hP9 hD9 hS9
                    refine lv_iload hx hb dX8_where_104 (lv_at hl 6 rfl) ?_
                    refine lv_iload_n hx hb dX8_where_106 rfl (lv_at hl 1 rfl) ?_
                    refine lv_iload_n hx hb dX8_where_107 rfl (lv_at hl 2 rfl) ?_
                    refine yk_i [] (va_runS (As := [.int (f_X8_xOf nw kj n), .int (f_X8_yOf nw kj n), .int (f_X8_xOf nw (kj + 1) n), .int (f_X8_yOf nw (kj + 1) n), .int px, .int py]) (rest := []) ⟨hx, hb, hml, hown, hts⟩ (c_X8_turn l D cy (f_X8_xOf nw kj n) (f_X8_yOf nw kj n) (f_X8_xOf nw (kj + 1) n) (f_X8_yOf nw (kj + 1) n) px py H.size) (va_cwS 6 hts gX8_where_X8_turn rfl rfl rfl hs_X8_turn (yk_room hRf hRl rfl rfl)) (yk_ps hG hA hS hK hP hD [] (by decide +kernel) rfl) rfl rfl hl.1 rfl (lv_room (Nat.le_of_ble_eq_true rfl)) dX8_where_108 ⟨Nat.zero_le _, Nat.zero_le _⟩) hP hD hS hA rfl rfl (fun H locs hP9 hD9 hS9 => ?_)
                    replace hP : va_P D vwCl [(ta, .inr (8, [.ref m_now, .ref m_undone, .ref m_slots, .ref m_slotKind, .ref m_hasSlot, .ref m_sheetBits, .ref m_sheetSize, .ref m_sheets, .int (nI u), .int fi, .ref m_fresh, .long aa, .long bb, .long dd, .int (nI ro), .ref m_rootWhich, .int db, .ref m_signs, .ref m_atNought, .int (nI mn), .ref m_change, .ref m_table, .ref m_carried])), (m_now, .inl (cy 0, 29, .inl nw))] H := hP9
                    replace hD : va_D A [(ta, .inr (8, [.ref m_now, .ref m_undone, .ref m_slots, .ref m_slotKind, .ref m_hasSlot, .ref m_sheetBits, .ref m_sheetSize, .ref m_sheets, .int (nI u), .int fi, .ref m_fresh, .long aa, .long bb, .long dd, .int (nI ro), .ref m_rootWhich, .int db, .ref m_signs, .ref m_atNought, .int (nI mn), .ref m_change, .ref m_table, .ref m_carried])), (m_now, .inl (cy 0, 29, .inl nw))] := hD9
                    replace hS := hS9
                    clear hP9 hD9 hS9
                    refine lv_istore (lv' := [(7, .int (f_X8_turn (f_X8_xOf nw kj n) (f_X8_yOf nw kj n) (f_X8_xOf nw (kj + 1) n) (f_X8_yOf nw (kj + 1) n) px py)), (0, .ref ta), (1, .int px), (2, .int py), (3, .int z3_33), (4, .int (nI kj)), (5, .int (f_X8_yOf nw kj n)), (6, .int (f_X8_yOf nw (kj + 1) n))]) hx hb dX8_where_111 hl (by decide) rfl (fun ls hl9 => ?_)
                    replace hl := hl9
                    clear hl9
                    refine lv_iload hx hb dX8_where_113 (lv_at hl 7 rfl) ?_
                    refine lv_iload hx hb dX8_where_115 (lv_at hl 6 rfl) ?_
                    refine lv_icmp_le (tgt := 128) hx hb dX8_where_117 (by decide) (fun hc10 => ?_) (fun hc10 => ?_)
                    · refine lv_iload hx hb dX8_where_128 (lv_at hl 0 rfl) ?_
                      refine lv_if_ge (tgt := 143) hx hb dX8_where_130 (by decide) (fun hc11 => ?_) (fun hc11 => ?_)
                      · exact J20 _ _ _ _ (((if_neg hc9).trans ((if_pos hc10).trans (if_pos hc11))).symm) hP hD hS (lv_sub hl [1, 2, 3, 4, 5, 6, 7] rfl)
                      · refine lv_iload_n hx hb dX8_where_133 rfl (lv_at hl 4 rfl) ?_
                        have J14 : ∀ (v13 : Int32) (H : Heap) (locs : List Loc) (ls : Array Slot), v13 = (if z3_33 = 0 then 1 else 0) → va_P D vwCl [(ta, .inr (8, [.ref m_now, .ref m_undone, .ref m_slots, .ref m_slotKind, .ref m_hasSlot, .ref m_sheetBits, .ref m_sheetSize, .ref m_sheets, .int (nI u), .int fi, .ref m_fresh, .long aa, .long bb, .long dd, .int (nI ro), .ref m_rootWhich, .int db, .ref m_signs, .ref m_atNought, .int (nI mn), .ref m_change, .ref m_table, .ref m_carried])), (m_now, .inl (cy 0, 29, .inl nw))] H → va_D A [(ta, .inr (8, [.ref m_now, .ref m_undone, .ref m_slots, .ref m_slotKind, .ref m_hasSlot, .ref m_sheetBits, .ref m_sheetSize, .ref m_sheets, .int (nI u), .int fi, .ref m_fresh, .long aa, .long bb, .long dd, .int (nI ro), .ref m_rootWhich, .int db, .ref m_signs, .ref m_atNought, .int (nI mn), .ref m_change, .ref m_table, .ref m_carried])), (m_now, .inl (cy 0, 29, .inl nw))] → va_S A s.heap H locs → lv_has ls 8 [(0, .ref ta), (1, .int px), (2, .int py), (3, .int z3_33), (4, .int (nI kj)), (5, .int (f_X8_yOf nw kj n)), (6, .int (f_X8_yOf nw (kj + 1) n)), (7, .int (f_X8_turn (f_X8_xOf nw kj n) (f_X8_yOf nw kj n) (f_X8_xOf nw (kj + 1) n) (f_X8_yOf nw (kj + 1) n) px py))] → W p l e R s m args below meth c H locs 0 0 Q (F0 m 142 ls [.int v13]) := by
                          clear hP hD hS hl
                          intro v13 H locs ls ev13 hP hD hS hl
                          subst ev13
                          refine lv_istore_n (lv' := [(3, .int (if z3_33 = 0 then 1 else 0)), (0, .ref ta), (1, .int px), (2, .int py), (4, .int (nI kj)), (5, .int (f_X8_yOf nw kj n)), (6, .int (f_X8_yOf nw (kj + 1) n)), (7, .int (f_X8_turn (f_X8_xOf nw kj n) (f_X8_yOf nw kj n) (f_X8_xOf nw (kj + 1) n) (f_X8_yOf nw (kj + 1) n) px py))]) hx hb dX8_where_142 rfl hl (by decide) rfl (fun ls hl9 => ?_)
                          replace hl := hl9
                          clear hl9
                          exact J20 _ _ _ _ (((if_neg hc9).trans ((if_pos hc10).trans (if_neg hc11))).symm) hP hD hS (lv_sub hl [1, 2, 3, 0, 4, 5, 6] rfl)
                        refine lv_if_ne (tgt := 141) hx hb dX8_where_134 (by decide) (fun hc12 => ?_) (fun hc12 => ?_)
                        · refine lv_iconst (v := 0) hx hb dX8_where_141 (by decide) ?_
                          exact J14 _ _ _ _ ((if_neg hc12).symm) hP hD hS (lv_sub hl [1, 2, 3, 4, 5, 6, 7, 0] rfl)
                        · refine lv_iconst (v := 1) hx hb dX8_where_137 (by decide) ?_
                          refine lv_goto (tgt := 142) hx hb dX8_where_138 (by decide) ?_
                          exact J14 _ _ _ _ ((if_pos hc12).symm) hP hD hS (lv_sub hl [1, 2, 3, 4, 5, 6, 7, 0] rfl)
                    · refine lv_iload hx hb dX8_where_120 (lv_at hl 0 rfl) ?_
                      refine lv_if_le (tgt := 143) hx hb dX8_where_122 (by decide) (fun hc15 => ?_) (fun hc15 => ?_)
                      · exact J20 _ _ _ _ (((if_neg hc9).trans ((if_neg hc10).trans (if_pos hc15))).symm) hP hD hS (lv_sub hl [1, 2, 3, 4, 5, 6, 7] rfl)
                      · refine lv_goto (tgt := 133) hx hb dX8_where_125 (by decide) ?_
                        refine lv_iload_n hx hb dX8_where_133 rfl (lv_at hl 4 rfl) ?_
                        have J18 : ∀ (v17 : Int32) (H : Heap) (locs : List Loc) (ls : Array Slot), v17 = (if z3_33 = 0 then 1 else 0) → va_P D vwCl [(ta, .inr (8, [.ref m_now, .ref m_undone, .ref m_slots, .ref m_slotKind, .ref m_hasSlot, .ref m_sheetBits, .ref m_sheetSize, .ref m_sheets, .int (nI u), .int fi, .ref m_fresh, .long aa, .long bb, .long dd, .int (nI ro), .ref m_rootWhich, .int db, .ref m_signs, .ref m_atNought, .int (nI mn), .ref m_change, .ref m_table, .ref m_carried])), (m_now, .inl (cy 0, 29, .inl nw))] H → va_D A [(ta, .inr (8, [.ref m_now, .ref m_undone, .ref m_slots, .ref m_slotKind, .ref m_hasSlot, .ref m_sheetBits, .ref m_sheetSize, .ref m_sheets, .int (nI u), .int fi, .ref m_fresh, .long aa, .long bb, .long dd, .int (nI ro), .ref m_rootWhich, .int db, .ref m_signs, .ref m_atNought, .int (nI mn), .ref m_change, .ref m_table, .ref m_carried])), (m_now, .inl (cy 0, 29, .inl nw))] → va_S A s.heap H locs → lv_has ls 8 [(0, .ref ta), (1, .int px), (2, .int py), (3, .int z3_33), (4, .int (nI kj)), (5, .int (f_X8_yOf nw kj n)), (6, .int (f_X8_yOf nw (kj + 1) n)), (7, .int (f_X8_turn (f_X8_xOf nw kj n) (f_X8_yOf nw kj n) (f_X8_xOf nw (kj + 1) n) (f_X8_yOf nw (kj + 1) n) px py))] → W p l e R s m args below meth c H locs 0 0 Q (F0 m 142 ls [.int v17]) := by
                          clear hP hD hS hl
                          intro v17 H locs ls ev17 hP hD hS hl
                          subst ev17
                          refine lv_istore_n (lv' := [(3, .int (if z3_33 = 0 then 1 else 0)), (0, .ref ta), (1, .int px), (2, .int py), (4, .int (nI kj)), (5, .int (f_X8_yOf nw kj n)), (6, .int (f_X8_yOf nw (kj + 1) n)), (7, .int (f_X8_turn (f_X8_xOf nw kj n) (f_X8_yOf nw kj n) (f_X8_xOf nw (kj + 1) n) (f_X8_yOf nw (kj + 1) n) px py))]) hx hb dX8_where_142 rfl hl (by decide) rfl (fun ls hl9 => ?_)
                          replace hl := hl9
                          clear hl9
                          exact J20 _ _ _ _ (((if_neg hc9).trans ((if_neg hc10).trans (if_neg hc15))).symm) hP hD hS (lv_sub hl [1, 2, 3, 0, 4, 5, 6] rfl)
                        refine lv_if_ne (tgt := 141) hx hb dX8_where_134 (by decide) (fun hc16 => ?_) (fun hc16 => ?_)
                        · refine lv_iconst (v := 0) hx hb dX8_where_141 (by decide) ?_
                          exact J18 _ _ _ _ ((if_neg hc16).symm) hP hD hS (lv_sub hl [1, 2, 3, 4, 5, 6, 7, 0] rfl)
                        · refine lv_iconst (v := 1) hx hb dX8_where_137 (by decide) ?_
                          refine lv_goto (tgt := 142) hx hb dX8_where_138 (by decide) ?_
                          exact J18 _ _ _ _ ((if_pos hc16).symm) hP hD hS (lv_sub hl [1, 2, 3, 4, 5, 6, 7, 0] rfl)
                  · refine lv_goto (tgt := 143) hx hb dX8_where_85 (by decide) ?_
                    exact J20 _ _ _ _ ((if_pos hc9).symm) hP hD hS (lv_sub hl [0, 1, 2, 3, 4, 5, 6] rfl)
                refine lv_icmp_le (tgt := 81) hx hb dX8_where_74 (by decide) (fun hc6 => ?_) (fun hc6 => ?_)
                · refine lv_iconst (v := 0) hx hb dX8_where_81 (by decide) ?_
                  exact J8 _ _ _ _ ((if_pos hc6).symm) hP hD hS (lv_sub hl [0, 1, 2, 3, 4, 5, 6] rfl)
                · refine lv_iconst (v := 1) hx hb dX8_where_77 (by decide) ?_
                  refine lv_goto (tgt := 82) hx hb dX8_where_78 (by decide) ?_
                  exact J8 _ _ _ _ ((if_neg hc6).symm) hP hD hS (lv_sub hl [0, 1, 2, 3, 4, 5, 6] rfl)
              refine lv_icmp_le (tgt := 70) hx hb dX8_where_63 (by decide) (fun hc3 => ?_) (fun hc3 => ?_)
              · refine lv_iconst (v := 0) hx hb dX8_where_70 (by decide) ?_
                exact J5 _ _ _ _ ((if_pos hc3).symm) hP hD hS (lv_sub hl [2, 3, 4, 5, 6, 1, 0] rfl)
              · refine lv_iconst (v := 1) hx hb dX8_where_66 (by decide) ?_
                refine lv_goto (tgt := 71) hx hb dX8_where_67 (by decide) ?_
                exact J5 _ _ _ _ ((if_neg hc3).symm) hP hD hS (lv_sub hl [2, 3, 4, 5, 6, 1, 0] rfl)
        exact L33 (n + 1) n 0 0 _ _ _ (Nat.lt_succ_self _) (by omega)  rfl hP hD hS (lv_sub hl [2, 3, 4, 1, 0] rfl)
      · replace hF := hF.trans (if_neg hc1)
        have hlt2 : ki < n := yk_lt hk2 (by omega) hc1
        refine lv_aload_n hx hb dX8_where_10 rfl (lv_at hl 0 rfl) ?_
        refine lv_iload_n hx hb dX8_where_11 rfl (lv_at hl 3 rfl) ?_
        refine lv_iload_n hx hb dX8_where_12 rfl (lv_at hl 1 rfl) ?_
        refine lv_iload_n hx hb dX8_where_13 rfl (lv_at hl 2 rfl) ?_
        refine yk_i [0, 1] (va_runV (As := [.int (nI ki), .int px, .int py]) (rest := []) ⟨hx, hb, hml, hown, hts⟩ (c_X8_isOn l D cy ta m_now m_undone m_slots m_slotKind m_hasSlot m_sheetBits m_sheetSize m_sheets m_fresh m_rootWhich m_signs m_atNought m_change m_table m_carried nw u fi aa bb dd ro db mn ki px py n (by first | assumption | omega) (by first | assumption | omega) (by first | assumption | omega) (by first | assumption | omega) H.size) (cwV 3 hts gX8_where_X8_isOn rfl rfl rfl hv_X8_isOn (yk_room hRf hRl rfl rfl)) (yk_pv (q := (RX8, TX8, 23)) hG hA hS hK hP hD [0, 1] (by decide +kernel) rfl rfl rfl) rfl rfl hl.1 rfl (lv_room (Nat.le_of_ble_eq_true rfl)) dX8_where_14 ⟨Nat.zero_le _, Nat.zero_le _⟩) hP hD hS hA rfl rfl (fun H locs hP9 hD9 hS9 => ?_)
        replace hP : va_P D vwCl [(ta, .inr (8, [.ref m_now, .ref m_undone, .ref m_slots, .ref m_slotKind, .ref m_hasSlot, .ref m_sheetBits, .ref m_sheetSize, .ref m_sheets, .int (nI u), .int fi, .ref m_fresh, .long aa, .long bb, .long dd, .int (nI ro), .ref m_rootWhich, .int db, .ref m_signs, .ref m_atNought, .int (nI mn), .ref m_change, .ref m_table, .ref m_carried])), (m_now, .inl (cy 0, 29, .inl nw))] H := hP9
        replace hD : va_D A [(ta, .inr (8, [.ref m_now, .ref m_undone, .ref m_slots, .ref m_slotKind, .ref m_hasSlot, .ref m_sheetBits, .ref m_sheetSize, .ref m_sheets, .int (nI u), .int fi, .ref m_fresh, .long aa, .long bb, .long dd, .int (nI ro), .ref m_rootWhich, .int db, .ref m_signs, .ref m_atNought, .int (nI mn), .ref m_change, .ref m_table, .ref m_carried])), (m_now, .inl (cy 0, 29, .inl nw))] := hD9
        replace hS := hS9
        clear hP9 hD9 hS9
        refine lv_if_eq (tgt := 22) hx hb dX8_where_17 (by decide) (fun hc25 => ?_) (fun hc25 => ?_)
        · replace hF := hF.trans (if_pos hc25)
          refine lv_iinc (v := nI (ki + 1)) (lv' := [(3, .int (nI (ki + 1))), (0, .ref ta), (1, .int px), (2, .int py)]) hx hb dX8_where_22 hl (k := 3) rfl (yk_inc ki) (by decide) rfl (fun ls hl9 => ?_)
          replace hl := hl9
          clear hl9
          refine lv_goto (tgt := 2) hx hb dX8_where_25 (by decide) ?_
          obtain ⟨n9, rfl⟩ : ∃ n9, n2 = n9 + 1 := ⟨n2 - 1, by omega⟩
          exact ih2 n9 (ki + 1) _ _ _ (by omega) (by omega)  hF hP hD hS (lv_sub hl [1, 2, 3, 0] rfl)
        · replace hF := hF.trans (if_neg hc25)
          refine lv_iconst (v := 1) hx hb dX8_where_20 (by decide) ?_
          have hF : f_X8_where nw px py n = 1 := hF
          rw [hF] at hQ
          exact hQ _ _ _ _ dX8_where_21 hP hS
  exact L2 (n + 1) n 0  _ _ _ (Nat.lt_succ_self _) (by omega)  hF hP hD hS (lv_sub hl [1, 2, 3, 0] rfl)

theorem kX8_within_0 : Cond.constant RX8 138 (-1000004) ∈ wsX8_within := by decide +kernel
theorem kX8_within_1 : Cond.constant RX8 68 (-1000001) ∈ wsX8_within := by decide +kernel
def f_X8_within (nw : Nat → Int32) (fi : Int32) (px : Int32) (py : Int32) (n : Nat) : Int32 × Int32 := (if (f_X8_isPlace px py) = 0 then (((f_X8_found fi (-1000001)).1), ((f_X8_found fi (-1000001)).2)) else ((if (f_X8_isSimple nw n) = 0 then (f_X8_found fi (-1000004)).1 else (f_X8_where nw px py n)), (if (f_X8_isSimple nw n) = 0 then (f_X8_found fi (-1000004)).2 else fi)))
set_option maxHeartbeats 400000000 in
set_option maxRecDepth 100000 in
theorem c_X8_within (l : Launch) (D : va_G) (cy : Nat → ClassId) (ta : Nat) (m_now : Nat) (m_undone : Nat) (m_slots : Nat) (m_slotKind : Nat) (m_hasSlot : Nat) (m_sheetBits : Nat) (m_sheetSize : Nat) (m_sheets : Nat) (m_fresh : Nat) (m_rootWhich : Nat) (m_signs : Nat) (m_atNought : Nat) (m_change : Nat) (m_table : Nat) (m_carried : Nat) (nw : Nat → Int32) (u : Nat) (fi : Int32) (aa : Int64) (bb : Int64) (dd : Int64) (ro : Nat) (db : Int32) (mn : Nat) (px : Int32) (py : Int32) (n : Nat) (hn12 : nw 12 = nI n) (hn : n ≤ 8) : yk_Ci l D vwCl (yk_ty cy) yX8_within wsX8_within 5 118 [.ref ta, .int px, .int py] [(ta, .inr (8, [.ref m_now, .ref m_undone, .ref m_slots, .ref m_slotKind, .ref m_hasSlot, .ref m_sheetBits, .ref m_sheetSize, .ref m_sheets, .int (nI u), .int fi, .ref m_fresh, .long aa, .long bb, .long dd, .int (nI ro), .ref m_rootWhich, .int db, .ref m_signs, .ref m_atNought, .int (nI mn), .ref m_change, .ref m_table, .ref m_carried])), (m_now, .inl (cy 0, 29, .inl nw))] ((f_X8_within nw fi px py n).1) [(ta, .inr (8, [.ref m_now, .ref m_undone, .ref m_slots, .ref m_slotKind, .ref m_hasSlot, .ref m_sheetBits, .ref m_sheetSize, .ref m_sheets, .int (nI u), .int ((f_X8_within nw fi px py n).2), .ref m_fresh, .long aa, .long bb, .long dd, .int (nI ro), .ref m_rootWhich, .int db, .ref m_signs, .ref m_atNought, .int (nI mn), .ref m_change, .ref m_table, .ref m_carried])), (m_now, .inl (cy 0, 29, .inl nw))] := by
  refine yk_eI (cc := cX8_within) (maxL := 3) (by decide) rfl (Nat.le_of_ble_eq_true rfl) rfl ?_
  intro p e R s m args below meth c A Q ls H locs hx hb hml hown hts hRf hRl hA hK hG hP hD hS hl hQ
  have hP : va_P D vwCl [(ta, .inr (8, [.ref m_now, .ref m_undone, .ref m_slots, .ref m_slotKind, .ref m_hasSlot, .ref m_sheetBits, .ref m_sheetSize, .ref m_sheets, .int (nI u), .int fi, .ref m_fresh, .long aa, .long bb, .long dd, .int (nI ro), .ref m_rootWhich, .int db, .ref m_signs, .ref m_atNought, .int (nI mn), .ref m_change, .ref m_table, .ref m_carried])), (m_now, .inl (cy 0, 29, .inl nw))] H := hP
  have hl : lv_has ls 3 [(0, .ref ta), (1, .int px), (2, .int py)] := hl
  have hown : s.vm.findClass RX8 = some m.cls := hown
  have hF : (f_X8_within nw fi px py n) = (f_X8_within nw fi px py n) := rfl
  refine lv_iload_n hx hb dX8_within_0 rfl (lv_at hl 1 rfl) ?_
  refine lv_iload_n hx hb dX8_within_1 rfl (lv_at hl 2 rfl) ?_
  refine yk_i [] (va_runS (As := [.int px, .int py]) (rest := []) ⟨hx, hb, hml, hown, hts⟩ (c_X8_isPlace l D cy px py H.size) (va_cwS 2 hts gX8_within_X8_isPlace rfl rfl rfl hs_X8_isPlace (yk_room hRf hRl rfl rfl)) (yk_ps hG hA hS hK hP hD [] (by decide +kernel) rfl) rfl rfl hl.1 rfl (lv_room (Nat.le_of_ble_eq_true rfl)) dX8_within_2 ⟨Nat.zero_le _, Nat.zero_le _⟩) hP hD hS hA rfl rfl (fun H locs hP9 hD9 hS9 => ?_)
  replace hP : va_P D vwCl [(ta, .inr (8, [.ref m_now, .ref m_undone, .ref m_slots, .ref m_slotKind, .ref m_hasSlot, .ref m_sheetBits, .ref m_sheetSize, .ref m_sheets, .int (nI u), .int fi, .ref m_fresh, .long aa, .long bb, .long dd, .int (nI ro), .ref m_rootWhich, .int db, .ref m_signs, .ref m_atNought, .int (nI mn), .ref m_change, .ref m_table, .ref m_carried])), (m_now, .inl (cy 0, 29, .inl nw))] H := hP9
  replace hD : va_D A [(ta, .inr (8, [.ref m_now, .ref m_undone, .ref m_slots, .ref m_slotKind, .ref m_hasSlot, .ref m_sheetBits, .ref m_sheetSize, .ref m_sheets, .int (nI u), .int fi, .ref m_fresh, .long aa, .long bb, .long dd, .int (nI ro), .ref m_rootWhich, .int db, .ref m_signs, .ref m_atNought, .int (nI mn), .ref m_change, .ref m_table, .ref m_carried])), (m_now, .inl (cy 0, 29, .inl nw))] := hD9
  replace hS := hS9
  clear hP9 hD9 hS9
  refine lv_if_ne (tgt := 15) hx hb dX8_within_5 (by decide) (fun hc1 => ?_) (fun hc1 => ?_)
  · replace hF := hF.trans (if_neg hc1)
    refine lv_aload_n hx hb dX8_within_15 rfl (lv_at hl 0 rfl) ?_
    refine yk_i [0, 1] (va_runV (As := []) (rest := []) ⟨hx, hb, hml, hown, hts⟩ (c_X8_isSimple l D cy ta m_now m_undone m_slots m_slotKind m_hasSlot m_sheetBits m_sheetSize m_sheets m_fresh m_rootWhich m_signs m_atNought m_change m_table m_carried nw u fi aa bb dd ro db mn n (by first | assumption | omega) (by first | assumption | omega) H.size) (cwV 0 hts gX8_within_X8_isSimple rfl rfl rfl hv_X8_isSimple (yk_room hRf hRl rfl rfl)) (yk_pv (q := (RX8, TX8, 23)) hG hA hS hK hP hD [0, 1] (by decide +kernel) rfl rfl rfl) rfl rfl hl.1 rfl (lv_room (Nat.le_of_ble_eq_true rfl)) dX8_within_16 ⟨Nat.zero_le _, Nat.zero_le _⟩) hP hD hS hA rfl rfl (fun H locs hP9 hD9 hS9 => ?_)
    replace hP : va_P D vwCl [(ta, .inr (8, [.ref m_now, .ref m_undone, .ref m_slots, .ref m_slotKind, .ref m_hasSlot, .ref m_sheetBits, .ref m_sheetSize, .ref m_sheets, .int (nI u), .int fi, .ref m_fresh, .long aa, .long bb, .long dd, .int (nI ro), .ref m_rootWhich, .int db, .ref m_signs, .ref m_atNought, .int (nI mn), .ref m_change, .ref m_table, .ref m_carried])), (m_now, .inl (cy 0, 29, .inl nw))] H := hP9
    replace hD : va_D A [(ta, .inr (8, [.ref m_now, .ref m_undone, .ref m_slots, .ref m_slotKind, .ref m_hasSlot, .ref m_sheetBits, .ref m_sheetSize, .ref m_sheets, .int (nI u), .int fi, .ref m_fresh, .long aa, .long bb, .long dd, .int (nI ro), .ref m_rootWhich, .int db, .ref m_signs, .ref m_atNought, .int (nI mn), .ref m_change, .ref m_table, .ref m_carried])), (m_now, .inl (cy 0, 29, .inl nw))] := hD9
    replace hS := hS9
    clear hP9 hD9 hS9
    have J5 : ∀ (v3 : Int32) (v4 : Int32) (H : Heap) (locs : List Loc) (ls : Array Slot), v3 = (if (f_X8_isSimple nw n) = 0 then (f_X8_found fi (-1000004)).2 else fi) → v4 = (if (f_X8_isSimple nw n) = 0 then (f_X8_found fi (-1000004)).1 else (f_X8_where nw px py n)) → va_P D vwCl [(ta, .inr (8, [.ref m_now, .ref m_undone, .ref m_slots, .ref m_slotKind, .ref m_hasSlot, .ref m_sheetBits, .ref m_sheetSize, .ref m_sheets, .int (nI u), .int v3, .ref m_fresh, .long aa, .long bb, .long dd, .int (nI ro), .ref m_rootWhich, .int db, .ref m_signs, .ref m_atNought, .int (nI mn), .ref m_change, .ref m_table, .ref m_carried])), (m_now, .inl (cy 0, 29, .inl nw))] H → va_D A [(ta, .inr (8, [.ref m_now, .ref m_undone, .ref m_slots, .ref m_slotKind, .ref m_hasSlot, .ref m_sheetBits, .ref m_sheetSize, .ref m_sheets, .int (nI u), .int v3, .ref m_fresh, .long aa, .long bb, .long dd, .int (nI ro), .ref m_rootWhich, .int db, .ref m_signs, .ref m_atNought, .int (nI mn), .ref m_change, .ref m_table, .ref m_carried])), (m_now, .inl (cy 0, 29, .inl nw))] → va_S A s.heap H locs → lv_has ls 3 [(0, .ref ta), (1, .int px), (2, .int py)] → W p l e R s m args below meth c H locs 0 0 Q (F0 m 37 ls [.int v4]) := by
      clear hP hD hS hl
      intro v3 v4 H locs ls ev3 ev4 hP hD hS hl
      subst ev3
      subst ev4
      have hF : f_X8_within nw fi px py n = ((if (f_X8_isSimple nw n) = 0 then (f_X8_found fi (-1000004)).1 else (f_X8_where nw px py n)), (if (f_X8_isSimple nw n) = 0 then (f_X8_found fi (-1000004)).2 else fi)) := hF
      have hf0 := yk_fst hF
      have hg0 := yk_snd hF
      rw [hf0, hg0] at hQ
      exact hQ _ _ _ _ dX8_within_37 hP hS
    refine lv_if_eq (tgt := 31) hx hb dX8_within_19 (by decide) (fun hc2 => ?_) (fun hc2 => ?_)
    · refine lv_aload_n hx hb dX8_within_31 rfl (lv_at hl 0 rfl) ?_
      refine lv_ldc (v := (-1000004)) hx hb hown (hts _ kX8_within_0) dX8_within_32 ?_
      refine yk_i [0] (va_runV (As := [.int (-1000004)]) (rest := []) ⟨hx, hb, hml, hown, hts⟩ (c_X8_found l D cy ta m_now m_undone m_slots m_slotKind m_hasSlot m_sheetBits m_sheetSize m_sheets m_fresh m_rootWhich m_signs m_atNought m_change m_table m_carried u fi aa bb dd ro db mn (-1000004) H.size) (cwV 1 hts gX8_within_X8_found rfl rfl rfl hv_X8_found (yk_room hRf hRl rfl rfl)) (yk_pv (q := (RX8, TX8, 23)) hG hA hS hK hP hD [0] (by decide +kernel) rfl rfl rfl) rfl rfl hl.1 rfl (lv_room (Nat.le_of_ble_eq_true rfl)) dX8_within_34 ⟨Nat.zero_le _, Nat.zero_le _⟩) hP hD hS hA rfl rfl (fun H locs hP9 hD9 hS9 => ?_)
      replace hP : va_P D vwCl [(ta, .inr (8, [.ref m_now, .ref m_undone, .ref m_slots, .ref m_slotKind, .ref m_hasSlot, .ref m_sheetBits, .ref m_sheetSize, .ref m_sheets, .int (nI u), .int ((f_X8_found fi (-1000004)).2), .ref m_fresh, .long aa, .long bb, .long dd, .int (nI ro), .ref m_rootWhich, .int db, .ref m_signs, .ref m_atNought, .int (nI mn), .ref m_change, .ref m_table, .ref m_carried])), (m_now, .inl (cy 0, 29, .inl nw))] H := hP9
      replace hD : va_D A [(ta, .inr (8, [.ref m_now, .ref m_undone, .ref m_slots, .ref m_slotKind, .ref m_hasSlot, .ref m_sheetBits, .ref m_sheetSize, .ref m_sheets, .int (nI u), .int ((f_X8_found fi (-1000004)).2), .ref m_fresh, .long aa, .long bb, .long dd, .int (nI ro), .ref m_rootWhich, .int db, .ref m_signs, .ref m_atNought, .int (nI mn), .ref m_change, .ref m_table, .ref m_carried])), (m_now, .inl (cy 0, 29, .inl nw))] := hD9
      replace hS := hS9
      clear hP9 hD9 hS9
      exact J5 _ _ _ _ _ ((if_pos hc2).symm) ((if_pos hc2).symm) hP hD hS (lv_sub hl [0, 1, 2] rfl)
    · refine lv_aload_n hx hb dX8_within_22 rfl (lv_at hl 0 rfl) ?_
      refine lv_iload_n hx hb dX8_within_23 rfl (lv_at hl 1 rfl) ?_
      refine lv_iload_n hx hb dX8_within_24 rfl (lv_at hl 2 rfl) ?_
      refine yk_i [0, 1] (va_runV (As := [.int px, .int py]) (rest := []) ⟨hx, hb, hml, hown, hts⟩ (c_X8_where l D cy ta m_now m_undone m_slots m_slotKind m_hasSlot m_sheetBits m_sheetSize m_sheets m_fresh m_rootWhich m_signs m_atNought m_change m_table m_carried nw u fi aa bb dd ro db mn px py n (by first | assumption | omega) (by first | assumption | omega) H.size) (cwV 2 hts gX8_within_X8_where rfl rfl rfl hv_X8_where (yk_room hRf hRl rfl rfl)) (yk_pv (q := (RX8, TX8, 23)) hG hA hS hK hP hD [0, 1] (by decide +kernel) rfl rfl rfl) rfl rfl hl.1 rfl (lv_room (Nat.le_of_ble_eq_true rfl)) dX8_within_25 ⟨Nat.zero_le _, Nat.zero_le _⟩) hP hD hS hA rfl rfl (fun H locs hP9 hD9 hS9 => ?_)
      replace hP : va_P D vwCl [(ta, .inr (8, [.ref m_now, .ref m_undone, .ref m_slots, .ref m_slotKind, .ref m_hasSlot, .ref m_sheetBits, .ref m_sheetSize, .ref m_sheets, .int (nI u), .int fi, .ref m_fresh, .long aa, .long bb, .long dd, .int (nI ro), .ref m_rootWhich, .int db, .ref m_signs, .ref m_atNought, .int (nI mn), .ref m_change, .ref m_table, .ref m_carried])), (m_now, .inl (cy 0, 29, .inl nw))] H := hP9
      replace hD : va_D A [(ta, .inr (8, [.ref m_now, .ref m_undone, .ref m_slots, .ref m_slotKind, .ref m_hasSlot, .ref m_sheetBits, .ref m_sheetSize, .ref m_sheets, .int (nI u), .int fi, .ref m_fresh, .long aa, .long bb, .long dd, .int (nI ro), .ref m_rootWhich, .int db, .ref m_signs, .ref m_atNought, .int (nI mn), .ref m_change, .ref m_table, .ref m_carried])), (m_now, .inl (cy 0, 29, .inl nw))] := hD9
      replace hS := hS9
      clear hP9 hD9 hS9
      refine lv_goto (tgt := 37) hx hb dX8_within_28 (by decide) ?_
      exact J5 _ _ _ _ _ ((if_neg hc2).symm) ((if_neg hc2).symm) hP hD hS (lv_sub hl [0, 1, 2] rfl)
  · replace hF := hF.trans (if_pos hc1)
    refine lv_aload_n hx hb dX8_within_8 rfl (lv_at hl 0 rfl) ?_
    refine lv_ldc (v := (-1000001)) hx hb hown (hts _ kX8_within_1) dX8_within_9 ?_
    refine yk_i [0] (va_runV (As := [.int (-1000001)]) (rest := []) ⟨hx, hb, hml, hown, hts⟩ (c_X8_found l D cy ta m_now m_undone m_slots m_slotKind m_hasSlot m_sheetBits m_sheetSize m_sheets m_fresh m_rootWhich m_signs m_atNought m_change m_table m_carried u fi aa bb dd ro db mn (-1000001) H.size) (cwV 1 hts gX8_within_X8_found rfl rfl rfl hv_X8_found (yk_room hRf hRl rfl rfl)) (yk_pv (q := (RX8, TX8, 23)) hG hA hS hK hP hD [0] (by decide +kernel) rfl rfl rfl) rfl rfl hl.1 rfl (lv_room (Nat.le_of_ble_eq_true rfl)) dX8_within_11 ⟨Nat.zero_le _, Nat.zero_le _⟩) hP hD hS hA rfl rfl (fun H locs hP9 hD9 hS9 => ?_)
    replace hP : va_P D vwCl [(ta, .inr (8, [.ref m_now, .ref m_undone, .ref m_slots, .ref m_slotKind, .ref m_hasSlot, .ref m_sheetBits, .ref m_sheetSize, .ref m_sheets, .int (nI u), .int ((f_X8_found fi (-1000001)).2), .ref m_fresh, .long aa, .long bb, .long dd, .int (nI ro), .ref m_rootWhich, .int db, .ref m_signs, .ref m_atNought, .int (nI mn), .ref m_change, .ref m_table, .ref m_carried])), (m_now, .inl (cy 0, 29, .inl nw))] H := hP9
    replace hD : va_D A [(ta, .inr (8, [.ref m_now, .ref m_undone, .ref m_slots, .ref m_slotKind, .ref m_hasSlot, .ref m_sheetBits, .ref m_sheetSize, .ref m_sheets, .int (nI u), .int ((f_X8_found fi (-1000001)).2), .ref m_fresh, .long aa, .long bb, .long dd, .int (nI ro), .ref m_rootWhich, .int db, .ref m_signs, .ref m_atNought, .int (nI mn), .ref m_change, .ref m_table, .ref m_carried])), (m_now, .inl (cy 0, 29, .inl nw))] := hD9
    replace hS := hS9
    clear hP9 hD9 hS9
    have hF : f_X8_within nw fi px py n = (((f_X8_found fi (-1000001)).1), ((f_X8_found fi (-1000001)).2)) := hF
    have hf0 := yk_fst hF
    have hg0 := yk_snd hF
    rw [hf0, hg0] at hQ
    exact hQ _ _ _ _ dX8_within_14 hP hS

theorem kX8_follow_0 : Cond.fieldLink RX8 139 "FlowPlaneModel" "a" "J" ∈ wsX8_follow := by decide +kernel
theorem kX8_follow_1 : Cond.fieldLink RX8 143 "FlowPlaneModel" "b" "J" ∈ wsX8_follow := by decide +kernel
theorem kX8_follow_2 : Cond.fieldLink RX8 146 "FlowPlaneModel" "c" "J" ∈ wsX8_follow := by decide +kernel
theorem uX8_follow_X8 : ∀ w ∈ u_ws RX8 TX8 23, w ∈ wsX8_follow := by decide +kernel
def f_X8_follow (nw : Nat → Int32) (k : Nat) (bq : Int32) (n : Nat) : Int64 × Int64 × Int64 := ((((((((f_X8_get nw bq 3) * ((f_X8_xOf nw (k + 1) n) - (f_X8_xOf nw k n))) * ((f_X8_xOf nw (k + 1) n) - (f_X8_xOf nw k n))) + (((f_X8_get nw bq 4) * ((f_X8_xOf nw (k + 1) n) - (f_X8_xOf nw k n))) * ((f_X8_yOf nw (k + 1) n) - (f_X8_yOf nw k n)))) + (((f_X8_get nw bq 5) * ((f_X8_yOf nw (k + 1) n) - (f_X8_yOf nw k n))) * ((f_X8_yOf nw (k + 1) n) - (f_X8_yOf nw k n))))).toInt64), (((((f_X8_slopeAt nw (f_X8_xOf nw k n) (f_X8_yOf nw k n) bq 0) * ((f_X8_xOf nw (k + 1) n) - (f_X8_xOf nw k n))) + ((f_X8_slopeAt nw (f_X8_xOf nw k n) (f_X8_yOf nw k n) bq 1) * ((f_X8_yOf nw (k + 1) n) - (f_X8_yOf nw k n))))).toInt64), (((f_X8_speedAt nw (f_X8_xOf nw k n) (f_X8_yOf nw k n) bq)).toInt64))
set_option maxHeartbeats 400000000 in
set_option maxRecDepth 100000 in
theorem c_X8_follow (l : Launch) (D : va_G) (cy : Nat → ClassId) (ta : Nat) (m_now : Nat) (m_undone : Nat) (m_slots : Nat) (m_slotKind : Nat) (m_hasSlot : Nat) (m_sheetBits : Nat) (m_sheetSize : Nat) (m_sheets : Nat) (m_fresh : Nat) (m_rootWhich : Nat) (m_signs : Nat) (m_atNought : Nat) (m_change : Nat) (m_table : Nat) (m_carried : Nat) (nw : Nat → Int32) (u : Nat) (fi : Int32) (aa : Int64) (bb : Int64) (dd : Int64) (ro : Nat) (db : Int32) (mn : Nat) (k : Nat) (bq : Int32) (n : Nat) (hn12 : nw 12 = nI n) (hn : n ≤ 8) (hn0 : 0 < n) (hk : k < 63) : yk_Cv l D vwCl (yk_ty cy) yX8_follow wsX8_follow 2 46 [.ref ta, .int (nI k), .int bq] [(ta, .inr (8, [.ref m_now, .ref m_undone, .ref m_slots, .ref m_slotKind, .ref m_hasSlot, .ref m_sheetBits, .ref m_sheetSize, .ref m_sheets, .int (nI u), .int fi, .ref m_fresh, .long aa, .long bb, .long dd, .int (nI ro), .ref m_rootWhich, .int db, .ref m_signs, .ref m_atNought, .int (nI mn), .ref m_change, .ref m_table, .ref m_carried])), (m_now, .inl (cy 0, 29, .inl nw))] [(ta, .inr (8, [.ref m_now, .ref m_undone, .ref m_slots, .ref m_slotKind, .ref m_hasSlot, .ref m_sheetBits, .ref m_sheetSize, .ref m_sheets, .int (nI u), .int fi, .ref m_fresh, .long ((f_X8_follow nw k bq n).1), .long ((f_X8_follow nw k bq n).2.1), .long ((f_X8_follow nw k bq n).2.2), .int (nI ro), .ref m_rootWhich, .int db, .ref m_signs, .ref m_atNought, .int (nI mn), .ref m_change, .ref m_table, .ref m_carried])), (m_now, .inl (cy 0, 29, .inl nw))] := by
  refine yk_eV (cc := cX8_follow) (maxL := 7) (by decide) rfl (Nat.le_of_ble_eq_true rfl) ?_
  intro p e R s m args below meth c A Q ls H locs hx hb hml hown hts hRf hRl hA hK hG hP hD hS hl hQ
  have hP : va_P D vwCl [(ta, .inr (8, [.ref m_now, .ref m_undone, .ref m_slots, .ref m_slotKind, .ref m_hasSlot, .ref m_sheetBits, .ref m_sheetSize, .ref m_sheets, .int (nI u), .int fi, .ref m_fresh, .long aa, .long bb, .long dd, .int (nI ro), .ref m_rootWhich, .int db, .ref m_signs, .ref m_atNought, .int (nI mn), .ref m_change, .ref m_table, .ref m_carried])), (m_now, .inl (cy 0, 29, .inl nw))] H := hP
  have hl : lv_has ls 7 [(0, .ref ta), (1, .int (nI k)), (2, .int bq)] := hl
  have hown : s.vm.findClass RX8 = some m.cls := hown
  have hF : (f_X8_follow nw k bq n) = (f_X8_follow nw k bq n) := rfl
  refine lv_aload_n hx hb dX8_follow_0 rfl (lv_at hl 0 rfl) ?_
  refine lv_iload_n hx hb dX8_follow_1 rfl (lv_at hl 1 rfl) ?_
  refine yk_i [0, 1] (va_runV (As := [.int (nI k)]) (rest := []) ⟨hx, hb, hml, hown, hts⟩ (c_X8_xOf l D cy ta m_now m_undone m_slots m_slotKind m_hasSlot m_sheetBits m_sheetSize m_sheets m_fresh m_rootWhich m_signs m_atNought m_change m_table m_carried nw u fi aa bb dd ro db mn k n (by first | assumption | omega) (by first | assumption | omega) (by first | assumption | omega) (by first | assumption | omega) H.size) (cwV 1 hts gX8_follow_X8_xOf rfl rfl rfl hv_X8_xOf (yk_room hRf hRl rfl rfl)) (yk_pv (q := (RX8, TX8, 23)) hG hA hS hK hP hD [0, 1] (by decide +kernel) rfl rfl rfl) rfl rfl hl.1 rfl (lv_room (Nat.le_of_ble_eq_true rfl)) dX8_follow_2 ⟨Nat.zero_le _, Nat.zero_le _⟩) hP hD hS hA rfl rfl (fun H locs hP9 hD9 hS9 => ?_)
  replace hP : va_P D vwCl [(ta, .inr (8, [.ref m_now, .ref m_undone, .ref m_slots, .ref m_slotKind, .ref m_hasSlot, .ref m_sheetBits, .ref m_sheetSize, .ref m_sheets, .int (nI u), .int fi, .ref m_fresh, .long aa, .long bb, .long dd, .int (nI ro), .ref m_rootWhich, .int db, .ref m_signs, .ref m_atNought, .int (nI mn), .ref m_change, .ref m_table, .ref m_carried])), (m_now, .inl (cy 0, 29, .inl nw))] H := hP9
  replace hD : va_D A [(ta, .inr (8, [.ref m_now, .ref m_undone, .ref m_slots, .ref m_slotKind, .ref m_hasSlot, .ref m_sheetBits, .ref m_sheetSize, .ref m_sheets, .int (nI u), .int fi, .ref m_fresh, .long aa, .long bb, .long dd, .int (nI ro), .ref m_rootWhich, .int db, .ref m_signs, .ref m_atNought, .int (nI mn), .ref m_change, .ref m_table, .ref m_carried])), (m_now, .inl (cy 0, 29, .inl nw))] := hD9
  replace hS := hS9
  clear hP9 hD9 hS9
  refine lv_istore_n (lv' := [(3, .int (f_X8_xOf nw k n)), (0, .ref ta), (1, .int (nI k)), (2, .int bq)]) hx hb dX8_follow_5 rfl hl (by decide) rfl (fun ls hl9 => ?_)
  replace hl := hl9
  clear hl9
  refine lv_aload_n hx hb dX8_follow_6 rfl (lv_at hl 1 rfl) ?_
  refine lv_iload_n hx hb dX8_follow_7 rfl (lv_at hl 2 rfl) ?_
  refine yk_i [0, 1] (va_runV (As := [.int (nI k)]) (rest := []) ⟨hx, hb, hml, hown, hts⟩ (c_X8_yOf l D cy ta m_now m_undone m_slots m_slotKind m_hasSlot m_sheetBits m_sheetSize m_sheets m_fresh m_rootWhich m_signs m_atNought m_change m_table m_carried nw u fi aa bb dd ro db mn k n (by first | assumption | omega) (by first | assumption | omega) (by first | assumption | omega) (by first | assumption | omega) H.size) (cwV 1 hts gX8_follow_X8_yOf rfl rfl rfl hv_X8_yOf (yk_room hRf hRl rfl rfl)) (yk_pv (q := (RX8, TX8, 23)) hG hA hS hK hP hD [0, 1] (by decide +kernel) rfl rfl rfl) rfl rfl hl.1 rfl (lv_room (Nat.le_of_ble_eq_true rfl)) dX8_follow_8 ⟨Nat.zero_le _, Nat.zero_le _⟩) hP hD hS hA rfl rfl (fun H locs hP9 hD9 hS9 => ?_)
  replace hP : va_P D vwCl [(ta, .inr (8, [.ref m_now, .ref m_undone, .ref m_slots, .ref m_slotKind, .ref m_hasSlot, .ref m_sheetBits, .ref m_sheetSize, .ref m_sheets, .int (nI u), .int fi, .ref m_fresh, .long aa, .long bb, .long dd, .int (nI ro), .ref m_rootWhich, .int db, .ref m_signs, .ref m_atNought, .int (nI mn), .ref m_change, .ref m_table, .ref m_carried])), (m_now, .inl (cy 0, 29, .inl nw))] H := hP9
  replace hD : va_D A [(ta, .inr (8, [.ref m_now, .ref m_undone, .ref m_slots, .ref m_slotKind, .ref m_hasSlot, .ref m_sheetBits, .ref m_sheetSize, .ref m_sheets, .int (nI u), .int fi, .ref m_fresh, .long aa, .long bb, .long dd, .int (nI ro), .ref m_rootWhich, .int db, .ref m_signs, .ref m_atNought, .int (nI mn), .ref m_change, .ref m_table, .ref m_carried])), (m_now, .inl (cy 0, 29, .inl nw))] := hD9
  replace hS := hS9
  clear hP9 hD9 hS9
  refine lv_istore (lv' := [(4, .int (f_X8_yOf nw k n)), (3, .int (f_X8_xOf nw k n)), (0, .ref ta), (1, .int (nI k)), (2, .int bq)]) hx hb dX8_follow_11 hl (by decide) rfl (fun ls hl9 => ?_)
  replace hl := hl9
  clear hl9
  refine lv_aload_n hx hb dX8_follow_13 rfl (lv_at hl 2 rfl) ?_
  refine lv_iload_n hx hb dX8_follow_14 rfl (lv_at hl 3 rfl) ?_
  refine lv_iconst (v := 1) hx hb dX8_follow_15 (by decide) ?_
  refine lv_iadd hx hb dX8_follow_16 ?_
  refine yk_ti (y := nI (k + 1)) (nI_add k 1) ?_
  refine yk_i [0, 1] (va_runV (As := [.int (nI (k + 1))]) (rest := []) ⟨hx, hb, hml, hown, hts⟩ (c_X8_xOf l D cy ta m_now m_undone m_slots m_slotKind m_hasSlot m_sheetBits m_sheetSize m_sheets m_fresh m_rootWhich m_signs m_atNought m_change m_table m_carried nw u fi aa bb dd ro db mn (k + 1) n (by first | assumption | omega) (by first | assumption | omega) (by first | assumption | omega) (by first | assumption | omega) H.size) (cwV 1 hts gX8_follow_X8_xOf rfl rfl rfl hv_X8_xOf (yk_room hRf hRl rfl rfl)) (yk_pv (q := (RX8, TX8, 23)) hG hA hS hK hP hD [0, 1] (by decide +kernel) rfl rfl rfl) rfl rfl hl.1 rfl (lv_room (Nat.le_of_ble_eq_true rfl)) dX8_follow_17 ⟨Nat.zero_le _, Nat.zero_le _⟩) hP hD hS hA rfl rfl (fun H locs hP9 hD9 hS9 => ?_)
  replace hP : va_P D vwCl [(ta, .inr (8, [.ref m_now, .ref m_undone, .ref m_slots, .ref m_slotKind, .ref m_hasSlot, .ref m_sheetBits, .ref m_sheetSize, .ref m_sheets, .int (nI u), .int fi, .ref m_fresh, .long aa, .long bb, .long dd, .int (nI ro), .ref m_rootWhich, .int db, .ref m_signs, .ref m_atNought, .int (nI mn), .ref m_change, .ref m_table, .ref m_carried])), (m_now, .inl (cy 0, 29, .inl nw))] H := hP9
  replace hD : va_D A [(ta, .inr (8, [.ref m_now, .ref m_undone, .ref m_slots, .ref m_slotKind, .ref m_hasSlot, .ref m_sheetBits, .ref m_sheetSize, .ref m_sheets, .int (nI u), .int fi, .ref m_fresh, .long aa, .long bb, .long dd, .int (nI ro), .ref m_rootWhich, .int db, .ref m_signs, .ref m_atNought, .int (nI mn), .ref m_change, .ref m_table, .ref m_carried])), (m_now, .inl (cy 0, 29, .inl nw))] := hD9
  replace hS := hS9
  clear hP9 hD9 hS9
  refine lv_iload_n hx hb dX8_follow_20 rfl (lv_at hl 1 rfl) ?_
  refine lv_isub hx hb dX8_follow_21 ?_
  refine lv_istore (lv' := [(5, .int ((f_X8_xOf nw (k + 1) n) - (f_X8_xOf nw k n))), (4, .int (f_X8_yOf nw k n)), (3, .int (f_X8_xOf nw k n)), (0, .ref ta), (1, .int (nI k)), (2, .int bq)]) hx hb dX8_follow_22 hl (by decide) rfl (fun ls hl9 => ?_)
  replace hl := hl9
  clear hl9
  refine lv_aload_n hx hb dX8_follow_24 rfl (lv_at hl 3 rfl) ?_
  refine lv_iload_n hx hb dX8_follow_25 rfl (lv_at hl 4 rfl) ?_
  refine lv_iconst (v := 1) hx hb dX8_follow_26 (by decide) ?_
  refine lv_iadd hx hb dX8_follow_27 ?_
  refine yk_ti (y := nI (k + 1)) (nI_add k 1) ?_
  refine yk_i [0, 1] (va_runV (As := [.int (nI (k + 1))]) (rest := []) ⟨hx, hb, hml, hown, hts⟩ (c_X8_yOf l D cy ta m_now m_undone m_slots m_slotKind m_hasSlot m_sheetBits m_sheetSize m_sheets m_fresh m_rootWhich m_signs m_atNought m_change m_table m_carried nw u fi aa bb dd ro db mn (k + 1) n (by first | assumption | omega) (by first | assumption | omega) (by first | assumption | omega) (by first | assumption | omega) H.size) (cwV 1 hts gX8_follow_X8_yOf rfl rfl rfl hv_X8_yOf (yk_room hRf hRl rfl rfl)) (yk_pv (q := (RX8, TX8, 23)) hG hA hS hK hP hD [0, 1] (by decide +kernel) rfl rfl rfl) rfl rfl hl.1 rfl (lv_room (Nat.le_of_ble_eq_true rfl)) dX8_follow_28 ⟨Nat.zero_le _, Nat.zero_le _⟩) hP hD hS hA rfl rfl (fun H locs hP9 hD9 hS9 => ?_)
  replace hP : va_P D vwCl [(ta, .inr (8, [.ref m_now, .ref m_undone, .ref m_slots, .ref m_slotKind, .ref m_hasSlot, .ref m_sheetBits, .ref m_sheetSize, .ref m_sheets, .int (nI u), .int fi, .ref m_fresh, .long aa, .long bb, .long dd, .int (nI ro), .ref m_rootWhich, .int db, .ref m_signs, .ref m_atNought, .int (nI mn), .ref m_change, .ref m_table, .ref m_carried])), (m_now, .inl (cy 0, 29, .inl nw))] H := hP9
  replace hD : va_D A [(ta, .inr (8, [.ref m_now, .ref m_undone, .ref m_slots, .ref m_slotKind, .ref m_hasSlot, .ref m_sheetBits, .ref m_sheetSize, .ref m_sheets, .int (nI u), .int fi, .ref m_fresh, .long aa, .long bb, .long dd, .int (nI ro), .ref m_rootWhich, .int db, .ref m_signs, .ref m_atNought, .int (nI mn), .ref m_change, .ref m_table, .ref m_carried])), (m_now, .inl (cy 0, 29, .inl nw))] := hD9
  replace hS := hS9
  clear hP9 hD9 hS9
  refine lv_iload hx hb dX8_follow_31 (lv_at hl 1 rfl) ?_
  refine lv_isub hx hb dX8_follow_33 ?_
  refine lv_istore (lv' := [(6, .int ((f_X8_yOf nw (k + 1) n) - (f_X8_yOf nw k n))), (5, .int ((f_X8_xOf nw (k + 1) n) - (f_X8_xOf nw k n))), (4, .int (f_X8_yOf nw k n)), (3, .int (f_X8_xOf nw k n)), (0, .ref ta), (1, .int (nI k)), (2, .int bq)]) hx hb dX8_follow_34 hl (by decide) rfl (fun ls hl9 => ?_)
  replace hl := hl9
  clear hl9
  refine lv_aload_n hx hb dX8_follow_36 rfl (lv_at hl 4 rfl) ?_
  refine lv_aload_n hx hb dX8_follow_37 rfl (lv_at hl 4 rfl) ?_
  refine lv_iload_n hx hb dX8_follow_38 rfl (lv_at hl 6 rfl) ?_
  refine lv_iconst (v := 3) hx hb dX8_follow_39 (by decide) ?_
  refine yk_i [0, 1] (va_runV (As := [.int bq, .int 3]) (rest := [.ref ta]) ⟨hx, hb, hml, hown, hts⟩ (c_X8_get l D cy ta m_now m_undone m_slots m_slotKind m_hasSlot m_sheetBits m_sheetSize m_sheets m_fresh m_rootWhich m_signs m_atNought m_change m_table m_carried nw u fi aa bb dd ro db mn bq 3 (by first | assumption | omega) H.size) (cwV 2 hts gX8_follow_X8_get rfl rfl rfl hv_X8_get (yk_room hRf hRl rfl rfl)) (yk_pv (q := (RX8, TX8, 23)) hG hA hS hK hP hD [0, 1] (by decide +kernel) rfl rfl rfl) rfl rfl hl.1 rfl (lv_room (Nat.le_of_ble_eq_true rfl)) dX8_follow_40 ⟨Nat.zero_le _, Nat.zero_le _⟩) hP hD hS hA rfl rfl (fun H locs hP9 hD9 hS9 => ?_)
  replace hP : va_P D vwCl [(ta, .inr (8, [.ref m_now, .ref m_undone, .ref m_slots, .ref m_slotKind, .ref m_hasSlot, .ref m_sheetBits, .ref m_sheetSize, .ref m_sheets, .int (nI u), .int fi, .ref m_fresh, .long aa, .long bb, .long dd, .int (nI ro), .ref m_rootWhich, .int db, .ref m_signs, .ref m_atNought, .int (nI mn), .ref m_change, .ref m_table, .ref m_carried])), (m_now, .inl (cy 0, 29, .inl nw))] H := hP9
  replace hD : va_D A [(ta, .inr (8, [.ref m_now, .ref m_undone, .ref m_slots, .ref m_slotKind, .ref m_hasSlot, .ref m_sheetBits, .ref m_sheetSize, .ref m_sheets, .int (nI u), .int fi, .ref m_fresh, .long aa, .long bb, .long dd, .int (nI ro), .ref m_rootWhich, .int db, .ref m_signs, .ref m_atNought, .int (nI mn), .ref m_change, .ref m_table, .ref m_carried])), (m_now, .inl (cy 0, 29, .inl nw))] := hD9
  replace hS := hS9
  clear hP9 hD9 hS9
  refine lv_iload hx hb dX8_follow_43 (lv_at hl 1 rfl) ?_
  refine lv_imul hx hb dX8_follow_45 ?_
  refine lv_iload hx hb dX8_follow_46 (lv_at hl 1 rfl) ?_
  refine lv_imul hx hb dX8_follow_48 ?_
  refine lv_aload_n hx hb dX8_follow_49 rfl (lv_at hl 4 rfl) ?_
  refine lv_iload_n hx hb dX8_follow_50 rfl (lv_at hl 6 rfl) ?_
  refine lv_iconst (v := 4) hx hb dX8_follow_51 (by decide) ?_
  refine yk_i [0, 1] (va_runV (As := [.int bq, .int 4]) (rest := [.int (((f_X8_get nw bq 3) * ((f_X8_xOf nw (k + 1) n) - (f_X8_xOf nw k n))) * ((f_X8_xOf nw (k + 1) n) - (f_X8_xOf nw k n))), .ref ta]) ⟨hx, hb, hml, hown, hts⟩ (c_X8_get l D cy ta m_now m_undone m_slots m_slotKind m_hasSlot m_sheetBits m_sheetSize m_sheets m_fresh m_rootWhich m_signs m_atNought m_change m_table m_carried nw u fi aa bb dd ro db mn bq 4 (by first | assumption | omega) H.size) (cwV 2 hts gX8_follow_X8_get rfl rfl rfl hv_X8_get (yk_room hRf hRl rfl rfl)) (yk_pv (q := (RX8, TX8, 23)) hG hA hS hK hP hD [0, 1] (by decide +kernel) rfl rfl rfl) rfl rfl hl.1 rfl (lv_room (Nat.le_of_ble_eq_true rfl)) dX8_follow_52 ⟨Nat.zero_le _, Nat.zero_le _⟩) hP hD hS hA rfl rfl (fun H locs hP9 hD9 hS9 => ?_)
  replace hP : va_P D vwCl [(ta, .inr (8, [.ref m_now, .ref m_undone, .ref m_slots, .ref m_slotKind, .ref m_hasSlot, .ref m_sheetBits, .ref m_sheetSize, .ref m_sheets, .int (nI u), .int fi, .ref m_fresh, .long aa, .long bb, .long dd, .int (nI ro), .ref m_rootWhich, .int db, .ref m_signs, .ref m_atNought, .int (nI mn), .ref m_change, .ref m_table, .ref m_carried])), (m_now, .inl (cy 0, 29, .inl nw))] H := hP9
  replace hD : va_D A [(ta, .inr (8, [.ref m_now, .ref m_undone, .ref m_slots, .ref m_slotKind, .ref m_hasSlot, .ref m_sheetBits, .ref m_sheetSize, .ref m_sheets, .int (nI u), .int fi, .ref m_fresh, .long aa, .long bb, .long dd, .int (nI ro), .ref m_rootWhich, .int db, .ref m_signs, .ref m_atNought, .int (nI mn), .ref m_change, .ref m_table, .ref m_carried])), (m_now, .inl (cy 0, 29, .inl nw))] := hD9
  replace hS := hS9
  clear hP9 hD9 hS9
  refine lv_iload hx hb dX8_follow_55 (lv_at hl 1 rfl) ?_
  refine lv_imul hx hb dX8_follow_57 ?_
  refine lv_iload hx hb dX8_follow_58 (lv_at hl 0 rfl) ?_
  refine lv_imul hx hb dX8_follow_60 ?_
  refine lv_iadd hx hb dX8_follow_61 ?_
  refine lv_aload_n hx hb dX8_follow_62 rfl (lv_at hl 4 rfl) ?_
  refine lv_iload_n hx hb dX8_follow_63 rfl (lv_at hl 6 rfl) ?_
  refine lv_iconst (v := 5) hx hb dX8_follow_64 (by decide) ?_
  refine yk_i [0, 1] (va_runV (As := [.int bq, .int 5]) (rest := [.int ((((f_X8_get nw bq 3) * ((f_X8_xOf nw (k + 1) n) - (f_X8_xOf nw k n))) * ((f_X8_xOf nw (k + 1) n) - (f_X8_xOf nw k n))) + (((f_X8_get nw bq 4) * ((f_X8_xOf nw (k + 1) n) - (f_X8_xOf nw k n))) * ((f_X8_yOf nw (k + 1) n) - (f_X8_yOf nw k n)))), .ref ta]) ⟨hx, hb, hml, hown, hts⟩ (c_X8_get l D cy ta m_now m_undone m_slots m_slotKind m_hasSlot m_sheetBits m_sheetSize m_sheets m_fresh m_rootWhich m_signs m_atNought m_change m_table m_carried nw u fi aa bb dd ro db mn bq 5 (by first | assumption | omega) H.size) (cwV 2 hts gX8_follow_X8_get rfl rfl rfl hv_X8_get (yk_room hRf hRl rfl rfl)) (yk_pv (q := (RX8, TX8, 23)) hG hA hS hK hP hD [0, 1] (by decide +kernel) rfl rfl rfl) rfl rfl hl.1 rfl (lv_room (Nat.le_of_ble_eq_true rfl)) dX8_follow_65 ⟨Nat.zero_le _, Nat.zero_le _⟩) hP hD hS hA rfl rfl (fun H locs hP9 hD9 hS9 => ?_)
  replace hP : va_P D vwCl [(ta, .inr (8, [.ref m_now, .ref m_undone, .ref m_slots, .ref m_slotKind, .ref m_hasSlot, .ref m_sheetBits, .ref m_sheetSize, .ref m_sheets, .int (nI u), .int fi, .ref m_fresh, .long aa, .long bb, .long dd, .int (nI ro), .ref m_rootWhich, .int db, .ref m_signs, .ref m_atNought, .int (nI mn), .ref m_change, .ref m_table, .ref m_carried])), (m_now, .inl (cy 0, 29, .inl nw))] H := hP9
  replace hD : va_D A [(ta, .inr (8, [.ref m_now, .ref m_undone, .ref m_slots, .ref m_slotKind, .ref m_hasSlot, .ref m_sheetBits, .ref m_sheetSize, .ref m_sheets, .int (nI u), .int fi, .ref m_fresh, .long aa, .long bb, .long dd, .int (nI ro), .ref m_rootWhich, .int db, .ref m_signs, .ref m_atNought, .int (nI mn), .ref m_change, .ref m_table, .ref m_carried])), (m_now, .inl (cy 0, 29, .inl nw))] := hD9
  replace hS := hS9
  clear hP9 hD9 hS9
  refine lv_iload hx hb dX8_follow_68 (lv_at hl 0 rfl) ?_
  refine lv_imul hx hb dX8_follow_70 ?_
  refine lv_iload hx hb dX8_follow_71 (lv_at hl 0 rfl) ?_
  refine lv_imul hx hb dX8_follow_73 ?_
  refine lv_iadd hx hb dX8_follow_74 ?_
  refine lv_i2l hx hb dX8_follow_75 rfl ?_
  refine va_put (D := D) (ci := 8) (v := .long (((((((f_X8_get nw bq 3) * ((f_X8_xOf nw (k + 1) n) - (f_X8_xOf nw k n))) * ((f_X8_xOf nw (k + 1) n) - (f_X8_xOf nw k n))) + (((f_X8_get nw bq 4) * ((f_X8_xOf nw (k + 1) n) - (f_X8_xOf nw k n))) * ((f_X8_yOf nw (k + 1) n) - (f_X8_yOf nw k n)))) + (((f_X8_get nw bq 5) * ((f_X8_yOf nw (k + 1) n) - (f_X8_yOf nw k n))) * ((f_X8_yOf nw (k + 1) n) - (f_X8_yOf nw k n))))).toInt64)) (ty := .long) (C := RX8) (T := TX8) (N := 23) hx hb hts uX8_follow_X8 tyX8 tyX8_ok nmX8 hown hK hP hD hS 0 rfl rfl 11 (by decide) (hts _ kX8_follow_0) (fun _ h9 => h9) rfl (by decide +kernel) (rfl) (rfl) (Nat.le_of_ble_eq_true rfl) dX8_follow_76 (fun H locs hP9 hD9 hS9 => ?_)
  replace hP : va_P D vwCl [(ta, .inr (8, [.ref m_now, .ref m_undone, .ref m_slots, .ref m_slotKind, .ref m_hasSlot, .ref m_sheetBits, .ref m_sheetSize, .ref m_sheets, .int (nI u), .int fi, .ref m_fresh, .long (((((((f_X8_get nw bq 3) * ((f_X8_xOf nw (k + 1) n) - (f_X8_xOf nw k n))) * ((f_X8_xOf nw (k + 1) n) - (f_X8_xOf nw k n))) + (((f_X8_get nw bq 4) * ((f_X8_xOf nw (k + 1) n) - (f_X8_xOf nw k n))) * ((f_X8_yOf nw (k + 1) n) - (f_X8_yOf nw k n)))) + (((f_X8_get nw bq 5) * ((f_X8_yOf nw (k + 1) n) - (f_X8_yOf nw k n))) * ((f_X8_yOf nw (k + 1) n) - (f_X8_yOf nw k n))))).toInt64), .long bb, .long dd, .int (nI ro), .ref m_rootWhich, .int db, .ref m_signs, .ref m_atNought, .int (nI mn), .ref m_change, .ref m_table, .ref m_carried])), (m_now, .inl (cy 0, 29, .inl nw))] H := hP9
  replace hD : va_D A [(ta, .inr (8, [.ref m_now, .ref m_undone, .ref m_slots, .ref m_slotKind, .ref m_hasSlot, .ref m_sheetBits, .ref m_sheetSize, .ref m_sheets, .int (nI u), .int fi, .ref m_fresh, .long (((((((f_X8_get nw bq 3) * ((f_X8_xOf nw (k + 1) n) - (f_X8_xOf nw k n))) * ((f_X8_xOf nw (k + 1) n) - (f_X8_xOf nw k n))) + (((f_X8_get nw bq 4) * ((f_X8_xOf nw (k + 1) n) - (f_X8_xOf nw k n))) * ((f_X8_yOf nw (k + 1) n) - (f_X8_yOf nw k n)))) + (((f_X8_get nw bq 5) * ((f_X8_yOf nw (k + 1) n) - (f_X8_yOf nw k n))) * ((f_X8_yOf nw (k + 1) n) - (f_X8_yOf nw k n))))).toInt64), .long bb, .long dd, .int (nI ro), .ref m_rootWhich, .int db, .ref m_signs, .ref m_atNought, .int (nI mn), .ref m_change, .ref m_table, .ref m_carried])), (m_now, .inl (cy 0, 29, .inl nw))] := hD9
  replace hS := hS9
  clear hP9 hD9 hS9
  refine lv_aload_n hx hb dX8_follow_79 rfl (lv_at hl 4 rfl) ?_
  refine lv_aload_n hx hb dX8_follow_80 rfl (lv_at hl 4 rfl) ?_
  refine lv_iload_n hx hb dX8_follow_81 rfl (lv_at hl 3 rfl) ?_
  refine lv_iload hx hb dX8_follow_82 (lv_at hl 2 rfl) ?_
  refine lv_iload_n hx hb dX8_follow_84 rfl (lv_at hl 6 rfl) ?_
  refine lv_iconst (v := 0) hx hb dX8_follow_85 (by decide) ?_
  refine yk_i [0, 1] (va_runV (As := [.int (f_X8_xOf nw k n), .int (f_X8_yOf nw k n), .int bq, .int 0]) (rest := [.ref ta]) ⟨hx, hb, hml, hown, hts⟩ (c_X8_slopeAt l D cy ta m_now m_undone m_slots m_slotKind m_hasSlot m_sheetBits m_sheetSize m_sheets m_fresh m_rootWhich m_signs m_atNought m_change m_table m_carried nw u fi (((((((f_X8_get nw bq 3) * ((f_X8_xOf nw (k + 1) n) - (f_X8_xOf nw k n))) * ((f_X8_xOf nw (k + 1) n) - (f_X8_xOf nw k n))) + (((f_X8_get nw bq 4) * ((f_X8_xOf nw (k + 1) n) - (f_X8_xOf nw k n))) * ((f_X8_yOf nw (k + 1) n) - (f_X8_yOf nw k n)))) + (((f_X8_get nw bq 5) * ((f_X8_yOf nw (k + 1) n) - (f_X8_yOf nw k n))) * ((f_X8_yOf nw (k + 1) n) - (f_X8_yOf nw k n))))).toInt64) bb dd ro db mn (f_X8_xOf nw k n) (f_X8_yOf nw k n) bq 0 H.size) (cwV 4 hts gX8_follow_X8_slopeAt rfl rfl rfl hv_X8_slopeAt (yk_room hRf hRl rfl rfl)) (yk_pv (q := (RX8, TX8, 23)) hG hA hS hK hP hD [0, 1] (by decide +kernel) rfl rfl rfl) rfl rfl hl.1 rfl (lv_room (Nat.le_of_ble_eq_true rfl)) dX8_follow_86 ⟨Nat.zero_le _, Nat.zero_le _⟩) hP hD hS hA rfl rfl (fun H locs hP9 hD9 hS9 => ?_)
  replace hP : va_P D vwCl [(ta, .inr (8, [.ref m_now, .ref m_undone, .ref m_slots, .ref m_slotKind, .ref m_hasSlot, .ref m_sheetBits, .ref m_sheetSize, .ref m_sheets, .int (nI u), .int fi, .ref m_fresh, .long (((((((f_X8_get nw bq 3) * ((f_X8_xOf nw (k + 1) n) - (f_X8_xOf nw k n))) * ((f_X8_xOf nw (k + 1) n) - (f_X8_xOf nw k n))) + (((f_X8_get nw bq 4) * ((f_X8_xOf nw (k + 1) n) - (f_X8_xOf nw k n))) * ((f_X8_yOf nw (k + 1) n) - (f_X8_yOf nw k n)))) + (((f_X8_get nw bq 5) * ((f_X8_yOf nw (k + 1) n) - (f_X8_yOf nw k n))) * ((f_X8_yOf nw (k + 1) n) - (f_X8_yOf nw k n))))).toInt64), .long bb, .long dd, .int (nI ro), .ref m_rootWhich, .int db, .ref m_signs, .ref m_atNought, .int (nI mn), .ref m_change, .ref m_table, .ref m_carried])), (m_now, .inl (cy 0, 29, .inl nw))] H := hP9
  replace hD : va_D A [(ta, .inr (8, [.ref m_now, .ref m_undone, .ref m_slots, .ref m_slotKind, .ref m_hasSlot, .ref m_sheetBits, .ref m_sheetSize, .ref m_sheets, .int (nI u), .int fi, .ref m_fresh, .long (((((((f_X8_get nw bq 3) * ((f_X8_xOf nw (k + 1) n) - (f_X8_xOf nw k n))) * ((f_X8_xOf nw (k + 1) n) - (f_X8_xOf nw k n))) + (((f_X8_get nw bq 4) * ((f_X8_xOf nw (k + 1) n) - (f_X8_xOf nw k n))) * ((f_X8_yOf nw (k + 1) n) - (f_X8_yOf nw k n)))) + (((f_X8_get nw bq 5) * ((f_X8_yOf nw (k + 1) n) - (f_X8_yOf nw k n))) * ((f_X8_yOf nw (k + 1) n) - (f_X8_yOf nw k n))))).toInt64), .long bb, .long dd, .int (nI ro), .ref m_rootWhich, .int db, .ref m_signs, .ref m_atNought, .int (nI mn), .ref m_change, .ref m_table, .ref m_carried])), (m_now, .inl (cy 0, 29, .inl nw))] := hD9
  replace hS := hS9
  clear hP9 hD9 hS9
  refine lv_iload hx hb dX8_follow_89 (lv_at hl 1 rfl) ?_
  refine lv_imul hx hb dX8_follow_91 ?_
  refine lv_aload_n hx hb dX8_follow_92 rfl (lv_at hl 4 rfl) ?_
  refine lv_iload_n hx hb dX8_follow_93 rfl (lv_at hl 3 rfl) ?_
  refine lv_iload hx hb dX8_follow_94 (lv_at hl 2 rfl) ?_
  refine lv_iload_n hx hb dX8_follow_96 rfl (lv_at hl 6 rfl) ?_
  refine lv_iconst (v := 1) hx hb dX8_follow_97 (by decide) ?_
  refine yk_i [0, 1] (va_runV (As := [.int (f_X8_xOf nw k n), .int (f_X8_yOf nw k n), .int bq, .int 1]) (rest := [.int ((f_X8_slopeAt nw (f_X8_xOf nw k n) (f_X8_yOf nw k n) bq 0) * ((f_X8_xOf nw (k + 1) n) - (f_X8_xOf nw k n))), .ref ta]) ⟨hx, hb, hml, hown, hts⟩ (c_X8_slopeAt l D cy ta m_now m_undone m_slots m_slotKind m_hasSlot m_sheetBits m_sheetSize m_sheets m_fresh m_rootWhich m_signs m_atNought m_change m_table m_carried nw u fi (((((((f_X8_get nw bq 3) * ((f_X8_xOf nw (k + 1) n) - (f_X8_xOf nw k n))) * ((f_X8_xOf nw (k + 1) n) - (f_X8_xOf nw k n))) + (((f_X8_get nw bq 4) * ((f_X8_xOf nw (k + 1) n) - (f_X8_xOf nw k n))) * ((f_X8_yOf nw (k + 1) n) - (f_X8_yOf nw k n)))) + (((f_X8_get nw bq 5) * ((f_X8_yOf nw (k + 1) n) - (f_X8_yOf nw k n))) * ((f_X8_yOf nw (k + 1) n) - (f_X8_yOf nw k n))))).toInt64) bb dd ro db mn (f_X8_xOf nw k n) (f_X8_yOf nw k n) bq 1 H.size) (cwV 4 hts gX8_follow_X8_slopeAt rfl rfl rfl hv_X8_slopeAt (yk_room hRf hRl rfl rfl)) (yk_pv (q := (RX8, TX8, 23)) hG hA hS hK hP hD [0, 1] (by decide +kernel) rfl rfl rfl) rfl rfl hl.1 rfl (lv_room (Nat.le_of_ble_eq_true rfl)) dX8_follow_98 ⟨Nat.zero_le _, Nat.zero_le _⟩) hP hD hS hA rfl rfl (fun H locs hP9 hD9 hS9 => ?_)
  replace hP : va_P D vwCl [(ta, .inr (8, [.ref m_now, .ref m_undone, .ref m_slots, .ref m_slotKind, .ref m_hasSlot, .ref m_sheetBits, .ref m_sheetSize, .ref m_sheets, .int (nI u), .int fi, .ref m_fresh, .long (((((((f_X8_get nw bq 3) * ((f_X8_xOf nw (k + 1) n) - (f_X8_xOf nw k n))) * ((f_X8_xOf nw (k + 1) n) - (f_X8_xOf nw k n))) + (((f_X8_get nw bq 4) * ((f_X8_xOf nw (k + 1) n) - (f_X8_xOf nw k n))) * ((f_X8_yOf nw (k + 1) n) - (f_X8_yOf nw k n)))) + (((f_X8_get nw bq 5) * ((f_X8_yOf nw (k + 1) n) - (f_X8_yOf nw k n))) * ((f_X8_yOf nw (k + 1) n) - (f_X8_yOf nw k n))))).toInt64), .long bb, .long dd, .int (nI ro), .ref m_rootWhich, .int db, .ref m_signs, .ref m_atNought, .int (nI mn), .ref m_change, .ref m_table, .ref m_carried])), (m_now, .inl (cy 0, 29, .inl nw))] H := hP9
  replace hD : va_D A [(ta, .inr (8, [.ref m_now, .ref m_undone, .ref m_slots, .ref m_slotKind, .ref m_hasSlot, .ref m_sheetBits, .ref m_sheetSize, .ref m_sheets, .int (nI u), .int fi, .ref m_fresh, .long (((((((f_X8_get nw bq 3) * ((f_X8_xOf nw (k + 1) n) - (f_X8_xOf nw k n))) * ((f_X8_xOf nw (k + 1) n) - (f_X8_xOf nw k n))) + (((f_X8_get nw bq 4) * ((f_X8_xOf nw (k + 1) n) - (f_X8_xOf nw k n))) * ((f_X8_yOf nw (k + 1) n) - (f_X8_yOf nw k n)))) + (((f_X8_get nw bq 5) * ((f_X8_yOf nw (k + 1) n) - (f_X8_yOf nw k n))) * ((f_X8_yOf nw (k + 1) n) - (f_X8_yOf nw k n))))).toInt64), .long bb, .long dd, .int (nI ro), .ref m_rootWhich, .int db, .ref m_signs, .ref m_atNought, .int (nI mn), .ref m_change, .ref m_table, .ref m_carried])), (m_now, .inl (cy 0, 29, .inl nw))] := hD9
  replace hS := hS9
  clear hP9 hD9 hS9
  refine lv_iload hx hb dX8_follow_101 (lv_at hl 0 rfl) ?_
  refine lv_imul hx hb dX8_follow_103 ?_
  refine lv_iadd hx hb dX8_follow_104 ?_
  refine lv_i2l hx hb dX8_follow_105 rfl ?_
  refine va_put (D := D) (ci := 8) (v := .long (((((f_X8_slopeAt nw (f_X8_xOf nw k n) (f_X8_yOf nw k n) bq 0) * ((f_X8_xOf nw (k + 1) n) - (f_X8_xOf nw k n))) + ((f_X8_slopeAt nw (f_X8_xOf nw k n) (f_X8_yOf nw k n) bq 1) * ((f_X8_yOf nw (k + 1) n) - (f_X8_yOf nw k n))))).toInt64)) (ty := .long) (C := RX8) (T := TX8) (N := 23) hx hb hts uX8_follow_X8 tyX8 tyX8_ok nmX8 hown hK hP hD hS 0 rfl rfl 12 (by decide) (hts _ kX8_follow_1) (fun _ h9 => h9) rfl (by decide +kernel) (rfl) (rfl) (Nat.le_of_ble_eq_true rfl) dX8_follow_106 (fun H locs hP9 hD9 hS9 => ?_)
  replace hP : va_P D vwCl [(ta, .inr (8, [.ref m_now, .ref m_undone, .ref m_slots, .ref m_slotKind, .ref m_hasSlot, .ref m_sheetBits, .ref m_sheetSize, .ref m_sheets, .int (nI u), .int fi, .ref m_fresh, .long (((((((f_X8_get nw bq 3) * ((f_X8_xOf nw (k + 1) n) - (f_X8_xOf nw k n))) * ((f_X8_xOf nw (k + 1) n) - (f_X8_xOf nw k n))) + (((f_X8_get nw bq 4) * ((f_X8_xOf nw (k + 1) n) - (f_X8_xOf nw k n))) * ((f_X8_yOf nw (k + 1) n) - (f_X8_yOf nw k n)))) + (((f_X8_get nw bq 5) * ((f_X8_yOf nw (k + 1) n) - (f_X8_yOf nw k n))) * ((f_X8_yOf nw (k + 1) n) - (f_X8_yOf nw k n))))).toInt64), .long (((((f_X8_slopeAt nw (f_X8_xOf nw k n) (f_X8_yOf nw k n) bq 0) * ((f_X8_xOf nw (k + 1) n) - (f_X8_xOf nw k n))) + ((f_X8_slopeAt nw (f_X8_xOf nw k n) (f_X8_yOf nw k n) bq 1) * ((f_X8_yOf nw (k + 1) n) - (f_X8_yOf nw k n))))).toInt64), .long dd, .int (nI ro), .ref m_rootWhich, .int db, .ref m_signs, .ref m_atNought, .int (nI mn), .ref m_change, .ref m_table, .ref m_carried])), (m_now, .inl (cy 0, 29, .inl nw))] H := hP9
  replace hD : va_D A [(ta, .inr (8, [.ref m_now, .ref m_undone, .ref m_slots, .ref m_slotKind, .ref m_hasSlot, .ref m_sheetBits, .ref m_sheetSize, .ref m_sheets, .int (nI u), .int fi, .ref m_fresh, .long (((((((f_X8_get nw bq 3) * ((f_X8_xOf nw (k + 1) n) - (f_X8_xOf nw k n))) * ((f_X8_xOf nw (k + 1) n) - (f_X8_xOf nw k n))) + (((f_X8_get nw bq 4) * ((f_X8_xOf nw (k + 1) n) - (f_X8_xOf nw k n))) * ((f_X8_yOf nw (k + 1) n) - (f_X8_yOf nw k n)))) + (((f_X8_get nw bq 5) * ((f_X8_yOf nw (k + 1) n) - (f_X8_yOf nw k n))) * ((f_X8_yOf nw (k + 1) n) - (f_X8_yOf nw k n))))).toInt64), .long (((((f_X8_slopeAt nw (f_X8_xOf nw k n) (f_X8_yOf nw k n) bq 0) * ((f_X8_xOf nw (k + 1) n) - (f_X8_xOf nw k n))) + ((f_X8_slopeAt nw (f_X8_xOf nw k n) (f_X8_yOf nw k n) bq 1) * ((f_X8_yOf nw (k + 1) n) - (f_X8_yOf nw k n))))).toInt64), .long dd, .int (nI ro), .ref m_rootWhich, .int db, .ref m_signs, .ref m_atNought, .int (nI mn), .ref m_change, .ref m_table, .ref m_carried])), (m_now, .inl (cy 0, 29, .inl nw))] := hD9
  replace hS := hS9
  clear hP9 hD9 hS9
  refine lv_aload_n hx hb dX8_follow_109 rfl (lv_at hl 4 rfl) ?_
  refine lv_aload_n hx hb dX8_follow_110 rfl (lv_at hl 4 rfl) ?_
  refine lv_iload_n hx hb dX8_follow_111 rfl (lv_at hl 3 rfl) ?_
  refine lv_iload hx hb dX8_follow_112 (lv_at hl 2 rfl) ?_
  refine lv_iload_n hx hb dX8_follow_114 rfl (lv_at hl 6 rfl) ?_
  refine yk_i [0, 1] (va_runV (As := [.int (f_X8_xOf nw k n), .int (f_X8_yOf nw k n), .int bq]) (rest := [.ref ta]) ⟨hx, hb, hml, hown, hts⟩ (c_X8_speedAt l D cy ta m_now m_undone m_slots m_slotKind m_hasSlot m_sheetBits m_sheetSize m_sheets m_fresh m_rootWhich m_signs m_atNought m_change m_table m_carried nw u fi (((((((f_X8_get nw bq 3) * ((f_X8_xOf nw (k + 1) n) - (f_X8_xOf nw k n))) * ((f_X8_xOf nw (k + 1) n) - (f_X8_xOf nw k n))) + (((f_X8_get nw bq 4) * ((f_X8_xOf nw (k + 1) n) - (f_X8_xOf nw k n))) * ((f_X8_yOf nw (k + 1) n) - (f_X8_yOf nw k n)))) + (((f_X8_get nw bq 5) * ((f_X8_yOf nw (k + 1) n) - (f_X8_yOf nw k n))) * ((f_X8_yOf nw (k + 1) n) - (f_X8_yOf nw k n))))).toInt64) (((((f_X8_slopeAt nw (f_X8_xOf nw k n) (f_X8_yOf nw k n) bq 0) * ((f_X8_xOf nw (k + 1) n) - (f_X8_xOf nw k n))) + ((f_X8_slopeAt nw (f_X8_xOf nw k n) (f_X8_yOf nw k n) bq 1) * ((f_X8_yOf nw (k + 1) n) - (f_X8_yOf nw k n))))).toInt64) dd ro db mn (f_X8_xOf nw k n) (f_X8_yOf nw k n) bq H.size) (cwV 3 hts gX8_follow_X8_speedAt rfl rfl rfl hv_X8_speedAt (yk_room hRf hRl rfl rfl)) (yk_pv (q := (RX8, TX8, 23)) hG hA hS hK hP hD [0, 1] (by decide +kernel) rfl rfl rfl) rfl rfl hl.1 rfl (lv_room (Nat.le_of_ble_eq_true rfl)) dX8_follow_115 ⟨Nat.zero_le _, Nat.zero_le _⟩) hP hD hS hA rfl rfl (fun H locs hP9 hD9 hS9 => ?_)
  replace hP : va_P D vwCl [(ta, .inr (8, [.ref m_now, .ref m_undone, .ref m_slots, .ref m_slotKind, .ref m_hasSlot, .ref m_sheetBits, .ref m_sheetSize, .ref m_sheets, .int (nI u), .int fi, .ref m_fresh, .long (((((((f_X8_get nw bq 3) * ((f_X8_xOf nw (k + 1) n) - (f_X8_xOf nw k n))) * ((f_X8_xOf nw (k + 1) n) - (f_X8_xOf nw k n))) + (((f_X8_get nw bq 4) * ((f_X8_xOf nw (k + 1) n) - (f_X8_xOf nw k n))) * ((f_X8_yOf nw (k + 1) n) - (f_X8_yOf nw k n)))) + (((f_X8_get nw bq 5) * ((f_X8_yOf nw (k + 1) n) - (f_X8_yOf nw k n))) * ((f_X8_yOf nw (k + 1) n) - (f_X8_yOf nw k n))))).toInt64), .long (((((f_X8_slopeAt nw (f_X8_xOf nw k n) (f_X8_yOf nw k n) bq 0) * ((f_X8_xOf nw (k + 1) n) - (f_X8_xOf nw k n))) + ((f_X8_slopeAt nw (f_X8_xOf nw k n) (f_X8_yOf nw k n) bq 1) * ((f_X8_yOf nw (k + 1) n) - (f_X8_yOf nw k n))))).toInt64), .long dd, .int (nI ro), .ref m_rootWhich, .int db, .ref m_signs, .ref m_atNought, .int (nI mn), .ref m_change, .ref m_table, .ref m_carried])), (m_now, .inl (cy 0, 29, .inl nw))] H := hP9
  replace hD : va_D A [(ta, .inr (8, [.ref m_now, .ref m_undone, .ref m_slots, .ref m_slotKind, .ref m_hasSlot, .ref m_sheetBits, .ref m_sheetSize, .ref m_sheets, .int (nI u), .int fi, .ref m_fresh, .long (((((((f_X8_get nw bq 3) * ((f_X8_xOf nw (k + 1) n) - (f_X8_xOf nw k n))) * ((f_X8_xOf nw (k + 1) n) - (f_X8_xOf nw k n))) + (((f_X8_get nw bq 4) * ((f_X8_xOf nw (k + 1) n) - (f_X8_xOf nw k n))) * ((f_X8_yOf nw (k + 1) n) - (f_X8_yOf nw k n)))) + (((f_X8_get nw bq 5) * ((f_X8_yOf nw (k + 1) n) - (f_X8_yOf nw k n))) * ((f_X8_yOf nw (k + 1) n) - (f_X8_yOf nw k n))))).toInt64), .long (((((f_X8_slopeAt nw (f_X8_xOf nw k n) (f_X8_yOf nw k n) bq 0) * ((f_X8_xOf nw (k + 1) n) - (f_X8_xOf nw k n))) + ((f_X8_slopeAt nw (f_X8_xOf nw k n) (f_X8_yOf nw k n) bq 1) * ((f_X8_yOf nw (k + 1) n) - (f_X8_yOf nw k n))))).toInt64), .long dd, .int (nI ro), .ref m_rootWhich, .int db, .ref m_signs, .ref m_atNought, .int (nI mn), .ref m_change, .ref m_table, .ref m_carried])), (m_now, .inl (cy 0, 29, .inl nw))] := hD9
  replace hS := hS9
  clear hP9 hD9 hS9
  refine lv_i2l hx hb dX8_follow_118 rfl ?_
  refine va_put (D := D) (ci := 8) (v := .long (((f_X8_speedAt nw (f_X8_xOf nw k n) (f_X8_yOf nw k n) bq)).toInt64)) (ty := .long) (C := RX8) (T := TX8) (N := 23) hx hb hts uX8_follow_X8 tyX8 tyX8_ok nmX8 hown hK hP hD hS 0 rfl rfl 13 (by decide) (hts _ kX8_follow_2) (fun _ h9 => h9) rfl (by decide +kernel) (rfl) (rfl) (Nat.le_of_ble_eq_true rfl) dX8_follow_119 (fun H locs hP9 hD9 hS9 => ?_)
  replace hP : va_P D vwCl [(ta, .inr (8, [.ref m_now, .ref m_undone, .ref m_slots, .ref m_slotKind, .ref m_hasSlot, .ref m_sheetBits, .ref m_sheetSize, .ref m_sheets, .int (nI u), .int fi, .ref m_fresh, .long (((((((f_X8_get nw bq 3) * ((f_X8_xOf nw (k + 1) n) - (f_X8_xOf nw k n))) * ((f_X8_xOf nw (k + 1) n) - (f_X8_xOf nw k n))) + (((f_X8_get nw bq 4) * ((f_X8_xOf nw (k + 1) n) - (f_X8_xOf nw k n))) * ((f_X8_yOf nw (k + 1) n) - (f_X8_yOf nw k n)))) + (((f_X8_get nw bq 5) * ((f_X8_yOf nw (k + 1) n) - (f_X8_yOf nw k n))) * ((f_X8_yOf nw (k + 1) n) - (f_X8_yOf nw k n))))).toInt64), .long (((((f_X8_slopeAt nw (f_X8_xOf nw k n) (f_X8_yOf nw k n) bq 0) * ((f_X8_xOf nw (k + 1) n) - (f_X8_xOf nw k n))) + ((f_X8_slopeAt nw (f_X8_xOf nw k n) (f_X8_yOf nw k n) bq 1) * ((f_X8_yOf nw (k + 1) n) - (f_X8_yOf nw k n))))).toInt64), .long (((f_X8_speedAt nw (f_X8_xOf nw k n) (f_X8_yOf nw k n) bq)).toInt64), .int (nI ro), .ref m_rootWhich, .int db, .ref m_signs, .ref m_atNought, .int (nI mn), .ref m_change, .ref m_table, .ref m_carried])), (m_now, .inl (cy 0, 29, .inl nw))] H := hP9
  replace hD : va_D A [(ta, .inr (8, [.ref m_now, .ref m_undone, .ref m_slots, .ref m_slotKind, .ref m_hasSlot, .ref m_sheetBits, .ref m_sheetSize, .ref m_sheets, .int (nI u), .int fi, .ref m_fresh, .long (((((((f_X8_get nw bq 3) * ((f_X8_xOf nw (k + 1) n) - (f_X8_xOf nw k n))) * ((f_X8_xOf nw (k + 1) n) - (f_X8_xOf nw k n))) + (((f_X8_get nw bq 4) * ((f_X8_xOf nw (k + 1) n) - (f_X8_xOf nw k n))) * ((f_X8_yOf nw (k + 1) n) - (f_X8_yOf nw k n)))) + (((f_X8_get nw bq 5) * ((f_X8_yOf nw (k + 1) n) - (f_X8_yOf nw k n))) * ((f_X8_yOf nw (k + 1) n) - (f_X8_yOf nw k n))))).toInt64), .long (((((f_X8_slopeAt nw (f_X8_xOf nw k n) (f_X8_yOf nw k n) bq 0) * ((f_X8_xOf nw (k + 1) n) - (f_X8_xOf nw k n))) + ((f_X8_slopeAt nw (f_X8_xOf nw k n) (f_X8_yOf nw k n) bq 1) * ((f_X8_yOf nw (k + 1) n) - (f_X8_yOf nw k n))))).toInt64), .long (((f_X8_speedAt nw (f_X8_xOf nw k n) (f_X8_yOf nw k n) bq)).toInt64), .int (nI ro), .ref m_rootWhich, .int db, .ref m_signs, .ref m_atNought, .int (nI mn), .ref m_change, .ref m_table, .ref m_carried])), (m_now, .inl (cy 0, 29, .inl nw))] := hD9
  replace hS := hS9
  clear hP9 hD9 hS9
  have hF : f_X8_follow nw k bq n = ((((((((f_X8_get nw bq 3) * ((f_X8_xOf nw (k + 1) n) - (f_X8_xOf nw k n))) * ((f_X8_xOf nw (k + 1) n) - (f_X8_xOf nw k n))) + (((f_X8_get nw bq 4) * ((f_X8_xOf nw (k + 1) n) - (f_X8_xOf nw k n))) * ((f_X8_yOf nw (k + 1) n) - (f_X8_yOf nw k n)))) + (((f_X8_get nw bq 5) * ((f_X8_yOf nw (k + 1) n) - (f_X8_yOf nw k n))) * ((f_X8_yOf nw (k + 1) n) - (f_X8_yOf nw k n))))).toInt64), (((((f_X8_slopeAt nw (f_X8_xOf nw k n) (f_X8_yOf nw k n) bq 0) * ((f_X8_xOf nw (k + 1) n) - (f_X8_xOf nw k n))) + ((f_X8_slopeAt nw (f_X8_xOf nw k n) (f_X8_yOf nw k n) bq 1) * ((f_X8_yOf nw (k + 1) n) - (f_X8_yOf nw k n))))).toInt64), (((f_X8_speedAt nw (f_X8_xOf nw k n) (f_X8_yOf nw k n) bq)).toInt64)) := hF
  have hf0 := yk_fst hF
  have hg0 := yk_snd hF
  have hf1 := yk_fst hg0
  have hg1 := yk_snd hg0
  rw [hf0, hf1, hg1] at hQ
  exact hQ _ _ _ _ dX8_follow_122 hP hS

theorem kX8_cross_0 : Cond.fieldLink RX8 139 "FlowPlaneModel" "a" "J" ∈ wsX8_cross := by decide +kernel
theorem kX8_cross_1 : Cond.fieldLink RX8 143 "FlowPlaneModel" "b" "J" ∈ wsX8_cross := by decide +kernel
theorem kX8_cross_2 : Cond.fieldLink RX8 146 "FlowPlaneModel" "c" "J" ∈ wsX8_cross := by decide +kernel
theorem uX8_cross_X8 : ∀ w ∈ u_ws RX8 TX8 23, w ∈ wsX8_cross := by decide +kernel
def f_X8_cross (nw : Nat → Int32) (k : Nat) (n : Nat) : Int64 × Int64 × Int64 := (((((((f_X8_xOf nw (k + 1) n) - (f_X8_xOf nw k n))).toInt64) * ((f_X8_follow nw k 1 n).1)) - (((((f_X8_yOf nw (k + 1) n) - (f_X8_yOf nw k n))).toInt64) * ((f_X8_follow nw k 0 n).1))), ((((((f_X8_xOf nw (k + 1) n) - (f_X8_xOf nw k n))).toInt64) * ((f_X8_follow nw k 1 n).2.1)) - (((((f_X8_yOf nw (k + 1) n) - (f_X8_yOf nw k n))).toInt64) * ((f_X8_follow nw k 0 n).2.1))), ((((((f_X8_xOf nw (k + 1) n) - (f_X8_xOf nw k n))).toInt64) * ((f_X8_follow nw k 1 n).2.2)) - (((((f_X8_yOf nw (k + 1) n) - (f_X8_yOf nw k n))).toInt64) * ((f_X8_follow nw k 0 n).2.2))))
set_option maxHeartbeats 400000000 in
set_option maxRecDepth 100000 in
theorem c_X8_cross (l : Launch) (D : va_G) (cy : Nat → ClassId) (ta : Nat) (m_now : Nat) (m_undone : Nat) (m_slots : Nat) (m_slotKind : Nat) (m_hasSlot : Nat) (m_sheetBits : Nat) (m_sheetSize : Nat) (m_sheets : Nat) (m_fresh : Nat) (m_rootWhich : Nat) (m_signs : Nat) (m_atNought : Nat) (m_change : Nat) (m_table : Nat) (m_carried : Nat) (nw : Nat → Int32) (u : Nat) (fi : Int32) (aa : Int64) (bb : Int64) (dd : Int64) (ro : Nat) (db : Int32) (mn : Nat) (k : Nat) (n : Nat) (hn12 : nw 12 = nI n) (hn : n ≤ 8) (hn0 : 0 < n) (hk : k < 63) : yk_Cv l D vwCl (yk_ty cy) yX8_cross wsX8_cross 3 72 [.ref ta, .int (nI k)] [(ta, .inr (8, [.ref m_now, .ref m_undone, .ref m_slots, .ref m_slotKind, .ref m_hasSlot, .ref m_sheetBits, .ref m_sheetSize, .ref m_sheets, .int (nI u), .int fi, .ref m_fresh, .long aa, .long bb, .long dd, .int (nI ro), .ref m_rootWhich, .int db, .ref m_signs, .ref m_atNought, .int (nI mn), .ref m_change, .ref m_table, .ref m_carried])), (m_now, .inl (cy 0, 29, .inl nw))] [(ta, .inr (8, [.ref m_now, .ref m_undone, .ref m_slots, .ref m_slotKind, .ref m_hasSlot, .ref m_sheetBits, .ref m_sheetSize, .ref m_sheets, .int (nI u), .int fi, .ref m_fresh, .long ((f_X8_cross nw k n).1), .long ((f_X8_cross nw k n).2.1), .long ((f_X8_cross nw k n).2.2), .int (nI ro), .ref m_rootWhich, .int db, .ref m_signs, .ref m_atNought, .int (nI mn), .ref m_change, .ref m_table, .ref m_carried])), (m_now, .inl (cy 0, 29, .inl nw))] := by
  refine yk_eV (cc := cX8_cross) (maxL := 10) (by decide) rfl (Nat.le_of_ble_eq_true rfl) ?_
  intro p e R s m args below meth c A Q ls H locs hx hb hml hown hts hRf hRl hA hK hG hP hD hS hl hQ
  have hP : va_P D vwCl [(ta, .inr (8, [.ref m_now, .ref m_undone, .ref m_slots, .ref m_slotKind, .ref m_hasSlot, .ref m_sheetBits, .ref m_sheetSize, .ref m_sheets, .int (nI u), .int fi, .ref m_fresh, .long aa, .long bb, .long dd, .int (nI ro), .ref m_rootWhich, .int db, .ref m_signs, .ref m_atNought, .int (nI mn), .ref m_change, .ref m_table, .ref m_carried])), (m_now, .inl (cy 0, 29, .inl nw))] H := hP
  have hl : lv_has ls 10 [(0, .ref ta), (1, .int (nI k))] := hl
  have hown : s.vm.findClass RX8 = some m.cls := hown
  have hF : (f_X8_cross nw k n) = (f_X8_cross nw k n) := rfl
  refine lv_aload_n hx hb dX8_cross_0 rfl (lv_at hl 0 rfl) ?_
  refine lv_iload_n hx hb dX8_cross_1 rfl (lv_at hl 1 rfl) ?_
  refine lv_iconst (v := 1) hx hb dX8_cross_2 (by decide) ?_
  refine lv_iadd hx hb dX8_cross_3 ?_
  refine yk_ti (y := nI (k + 1)) (nI_add k 1) ?_
  refine yk_i [0, 1] (va_runV (As := [.int (nI (k + 1))]) (rest := []) ⟨hx, hb, hml, hown, hts⟩ (c_X8_xOf l D cy ta m_now m_undone m_slots m_slotKind m_hasSlot m_sheetBits m_sheetSize m_sheets m_fresh m_rootWhich m_signs m_atNought m_change m_table m_carried nw u fi aa bb dd ro db mn (k + 1) n (by first | assumption | omega) (by first | assumption | omega) (by first | assumption | omega) (by first | assumption | omega) H.size) (cwV 1 hts gX8_cross_X8_xOf rfl rfl rfl hv_X8_xOf (yk_room hRf hRl rfl rfl)) (yk_pv (q := (RX8, TX8, 23)) hG hA hS hK hP hD [0, 1] (by decide +kernel) rfl rfl rfl) rfl rfl hl.1 rfl (lv_room (Nat.le_of_ble_eq_true rfl)) dX8_cross_4 ⟨Nat.zero_le _, Nat.zero_le _⟩) hP hD hS hA rfl rfl (fun H locs hP9 hD9 hS9 => ?_)
  replace hP : va_P D vwCl [(ta, .inr (8, [.ref m_now, .ref m_undone, .ref m_slots, .ref m_slotKind, .ref m_hasSlot, .ref m_sheetBits, .ref m_sheetSize, .ref m_sheets, .int (nI u), .int fi, .ref m_fresh, .long aa, .long bb, .long dd, .int (nI ro), .ref m_rootWhich, .int db, .ref m_signs, .ref m_atNought, .int (nI mn), .ref m_change, .ref m_table, .ref m_carried])), (m_now, .inl (cy 0, 29, .inl nw))] H := hP9
  replace hD : va_D A [(ta, .inr (8, [.ref m_now, .ref m_undone, .ref m_slots, .ref m_slotKind, .ref m_hasSlot, .ref m_sheetBits, .ref m_sheetSize, .ref m_sheets, .int (nI u), .int fi, .ref m_fresh, .long aa, .long bb, .long dd, .int (nI ro), .ref m_rootWhich, .int db, .ref m_signs, .ref m_atNought, .int (nI mn), .ref m_change, .ref m_table, .ref m_carried])), (m_now, .inl (cy 0, 29, .inl nw))] := hD9
  replace hS := hS9
  clear hP9 hD9 hS9
  refine lv_aload_n hx hb dX8_cross_7 rfl (lv_at hl 0 rfl) ?_
  refine lv_iload_n hx hb dX8_cross_8 rfl (lv_at hl 1 rfl) ?_
  refine yk_i [0, 1] (va_runV (As := [.int (nI k)]) (rest := [.int (f_X8_xOf nw (k + 1) n)]) ⟨hx, hb, hml, hown, hts⟩ (c_X8_xOf l D cy ta m_now m_undone m_slots m_slotKind m_hasSlot m_sheetBits m_sheetSize m_sheets m_fresh m_rootWhich m_signs m_atNought m_change m_table m_carried nw u fi aa bb dd ro db mn k n (by first | assumption | omega) (by first | assumption | omega) (by first | assumption | omega) (by first | assumption | omega) H.size) (cwV 1 hts gX8_cross_X8_xOf rfl rfl rfl hv_X8_xOf (yk_room hRf hRl rfl rfl)) (yk_pv (q := (RX8, TX8, 23)) hG hA hS hK hP hD [0, 1] (by decide +kernel) rfl rfl rfl) rfl rfl hl.1 rfl (lv_room (Nat.le_of_ble_eq_true rfl)) dX8_cross_9 ⟨Nat.zero_le _, Nat.zero_le _⟩) hP hD hS hA rfl rfl (fun H locs hP9 hD9 hS9 => ?_)
  replace hP : va_P D vwCl [(ta, .inr (8, [.ref m_now, .ref m_undone, .ref m_slots, .ref m_slotKind, .ref m_hasSlot, .ref m_sheetBits, .ref m_sheetSize, .ref m_sheets, .int (nI u), .int fi, .ref m_fresh, .long aa, .long bb, .long dd, .int (nI ro), .ref m_rootWhich, .int db, .ref m_signs, .ref m_atNought, .int (nI mn), .ref m_change, .ref m_table, .ref m_carried])), (m_now, .inl (cy 0, 29, .inl nw))] H := hP9
  replace hD : va_D A [(ta, .inr (8, [.ref m_now, .ref m_undone, .ref m_slots, .ref m_slotKind, .ref m_hasSlot, .ref m_sheetBits, .ref m_sheetSize, .ref m_sheets, .int (nI u), .int fi, .ref m_fresh, .long aa, .long bb, .long dd, .int (nI ro), .ref m_rootWhich, .int db, .ref m_signs, .ref m_atNought, .int (nI mn), .ref m_change, .ref m_table, .ref m_carried])), (m_now, .inl (cy 0, 29, .inl nw))] := hD9
  replace hS := hS9
  clear hP9 hD9 hS9
  refine lv_isub hx hb dX8_cross_12 ?_
  refine lv_istore_n (lv' := [(2, .int ((f_X8_xOf nw (k + 1) n) - (f_X8_xOf nw k n))), (0, .ref ta), (1, .int (nI k))]) hx hb dX8_cross_13 rfl hl (by decide) rfl (fun ls hl9 => ?_)
  replace hl := hl9
  clear hl9
  refine lv_aload_n hx hb dX8_cross_14 rfl (lv_at hl 1 rfl) ?_
  refine lv_iload_n hx hb dX8_cross_15 rfl (lv_at hl 2 rfl) ?_
  refine lv_iconst (v := 1) hx hb dX8_cross_16 (by decide) ?_
  refine lv_iadd hx hb dX8_cross_17 ?_
  refine yk_ti (y := nI (k + 1)) (nI_add k 1) ?_
  refine yk_i [0, 1] (va_runV (As := [.int (nI (k + 1))]) (rest := []) ⟨hx, hb, hml, hown, hts⟩ (c_X8_yOf l D cy ta m_now m_undone m_slots m_slotKind m_hasSlot m_sheetBits m_sheetSize m_sheets m_fresh m_rootWhich m_signs m_atNought m_change m_table m_carried nw u fi aa bb dd ro db mn (k + 1) n (by first | assumption | omega) (by first | assumption | omega) (by first | assumption | omega) (by first | assumption | omega) H.size) (cwV 1 hts gX8_cross_X8_yOf rfl rfl rfl hv_X8_yOf (yk_room hRf hRl rfl rfl)) (yk_pv (q := (RX8, TX8, 23)) hG hA hS hK hP hD [0, 1] (by decide +kernel) rfl rfl rfl) rfl rfl hl.1 rfl (lv_room (Nat.le_of_ble_eq_true rfl)) dX8_cross_18 ⟨Nat.zero_le _, Nat.zero_le _⟩) hP hD hS hA rfl rfl (fun H locs hP9 hD9 hS9 => ?_)
  replace hP : va_P D vwCl [(ta, .inr (8, [.ref m_now, .ref m_undone, .ref m_slots, .ref m_slotKind, .ref m_hasSlot, .ref m_sheetBits, .ref m_sheetSize, .ref m_sheets, .int (nI u), .int fi, .ref m_fresh, .long aa, .long bb, .long dd, .int (nI ro), .ref m_rootWhich, .int db, .ref m_signs, .ref m_atNought, .int (nI mn), .ref m_change, .ref m_table, .ref m_carried])), (m_now, .inl (cy 0, 29, .inl nw))] H := hP9
  replace hD : va_D A [(ta, .inr (8, [.ref m_now, .ref m_undone, .ref m_slots, .ref m_slotKind, .ref m_hasSlot, .ref m_sheetBits, .ref m_sheetSize, .ref m_sheets, .int (nI u), .int fi, .ref m_fresh, .long aa, .long bb, .long dd, .int (nI ro), .ref m_rootWhich, .int db, .ref m_signs, .ref m_atNought, .int (nI mn), .ref m_change, .ref m_table, .ref m_carried])), (m_now, .inl (cy 0, 29, .inl nw))] := hD9
  replace hS := hS9
  clear hP9 hD9 hS9
  refine lv_aload_n hx hb dX8_cross_21 rfl (lv_at hl 1 rfl) ?_
  refine lv_iload_n hx hb dX8_cross_22 rfl (lv_at hl 2 rfl) ?_
  refine yk_i [0, 1] (va_runV (As := [.int (nI k)]) (rest := [.int (f_X8_yOf nw (k + 1) n)]) ⟨hx, hb, hml, hown, hts⟩ (c_X8_yOf l D cy ta m_now m_undone m_slots m_slotKind m_hasSlot m_sheetBits m_sheetSize m_sheets m_fresh m_rootWhich m_signs m_atNought m_change m_table m_carried nw u fi aa bb dd ro db mn k n (by first | assumption | omega) (by first | assumption | omega) (by first | assumption | omega) (by first | assumption | omega) H.size) (cwV 1 hts gX8_cross_X8_yOf rfl rfl rfl hv_X8_yOf (yk_room hRf hRl rfl rfl)) (yk_pv (q := (RX8, TX8, 23)) hG hA hS hK hP hD [0, 1] (by decide +kernel) rfl rfl rfl) rfl rfl hl.1 rfl (lv_room (Nat.le_of_ble_eq_true rfl)) dX8_cross_23 ⟨Nat.zero_le _, Nat.zero_le _⟩) hP hD hS hA rfl rfl (fun H locs hP9 hD9 hS9 => ?_)
  replace hP : va_P D vwCl [(ta, .inr (8, [.ref m_now, .ref m_undone, .ref m_slots, .ref m_slotKind, .ref m_hasSlot, .ref m_sheetBits, .ref m_sheetSize, .ref m_sheets, .int (nI u), .int fi, .ref m_fresh, .long aa, .long bb, .long dd, .int (nI ro), .ref m_rootWhich, .int db, .ref m_signs, .ref m_atNought, .int (nI mn), .ref m_change, .ref m_table, .ref m_carried])), (m_now, .inl (cy 0, 29, .inl nw))] H := hP9
  replace hD : va_D A [(ta, .inr (8, [.ref m_now, .ref m_undone, .ref m_slots, .ref m_slotKind, .ref m_hasSlot, .ref m_sheetBits, .ref m_sheetSize, .ref m_sheets, .int (nI u), .int fi, .ref m_fresh, .long aa, .long bb, .long dd, .int (nI ro), .ref m_rootWhich, .int db, .ref m_signs, .ref m_atNought, .int (nI mn), .ref m_change, .ref m_table, .ref m_carried])), (m_now, .inl (cy 0, 29, .inl nw))] := hD9
  replace hS := hS9
  clear hP9 hD9 hS9
  refine lv_isub hx hb dX8_cross_26 ?_
  refine lv_istore_n (lv' := [(3, .int ((f_X8_yOf nw (k + 1) n) - (f_X8_yOf nw k n))), (2, .int ((f_X8_xOf nw (k + 1) n) - (f_X8_xOf nw k n))), (0, .ref ta), (1, .int (nI k))]) hx hb dX8_cross_27 rfl hl (by decide) rfl (fun ls hl9 => ?_)
  replace hl := hl9
  clear hl9
  refine lv_aload_n hx hb dX8_cross_28 rfl (lv_at hl 2 rfl) ?_
  refine lv_iload_n hx hb dX8_cross_29 rfl (lv_at hl 3 rfl) ?_
  refine lv_iconst (v := 0) hx hb dX8_cross_30 (by decide) ?_
  refine yk_v [0, 1] (va_runV (As := [.int (nI k), .int 0]) (rest := []) ⟨hx, hb, hml, hown, hts⟩ (c_X8_follow l D cy ta m_now m_undone m_slots m_slotKind m_hasSlot m_sheetBits m_sheetSize m_sheets m_fresh m_rootWhich m_signs m_atNought m_change m_table m_carried nw u fi aa bb dd ro db mn k 0 n (by first | assumption | omega) (by first | assumption | omega) (by first | assumption | omega) (by first | assumption | omega) H.size) (cwV 2 hts gX8_cross_X8_follow rfl rfl rfl hv_X8_follow (yk_room hRf hRl rfl rfl)) (yk_pv (q := (RX8, TX8, 23)) hG hA hS hK hP hD [0, 1] (by decide +kernel) rfl rfl rfl) rfl rfl hl.1 rfl (lv_room (Nat.le_of_ble_eq_true rfl)) dX8_cross_31 ⟨Nat.zero_le _, Nat.zero_le _⟩) hP hD hS hA rfl rfl (fun H locs hP9 hD9 hS9 => ?_)
  replace hP : va_P D vwCl [(ta, .inr (8, [.ref m_now, .ref m_undone, .ref m_slots, .ref m_slotKind, .ref m_hasSlot, .ref m_sheetBits, .ref m_sheetSize, .ref m_sheets, .int (nI u), .int fi, .ref m_fresh, .long ((f_X8_follow nw k 0 n).1), .long ((f_X8_follow nw k 0 n).2.1), .long ((f_X8_follow nw k 0 n).2.2), .int (nI ro), .ref m_rootWhich, .int db, .ref m_signs, .ref m_atNought, .int (nI mn), .ref m_change, .ref m_table, .ref m_carried])), (m_now, .inl (cy 0, 29, .inl nw))] H := hP9
  replace hD : va_D A [(ta, .inr (8, [.ref m_now, .ref m_undone, .ref m_slots, .ref m_slotKind, .ref m_hasSlot, .ref m_sheetBits, .ref m_sheetSize, .ref m_sheets, .int (nI u), .int fi, .ref m_fresh, .long ((f_X8_follow nw k 0 n).1), .long ((f_X8_follow nw k 0 n).2.1), .long ((f_X8_follow nw k 0 n).2.2), .int (nI ro), .ref m_rootWhich, .int db, .ref m_signs, .ref m_atNought, .int (nI mn), .ref m_change, .ref m_table, .ref m_carried])), (m_now, .inl (cy 0, 29, .inl nw))] := hD9
  replace hS := hS9
  clear hP9 hD9 hS9
  refine lv_aload_n hx hb dX8_cross_34 rfl (lv_at hl 2 rfl) ?_
  refine va_get (D := D) (ci := 8) (v := .long ((f_X8_follow nw k 0 n).1)) (C := RX8) (T := TX8) (N := 23) hx hb hts uX8_cross_X8 hown hK hP 0 rfl rfl 11 (by decide) (hts _ kX8_cross_0) (fun _ h9 => h9) rfl dX8_cross_35 ?_
  refine lv_lstore (lv' := [(4, .long ((f_X8_follow nw k 0 n).1)), (3, .int ((f_X8_yOf nw (k + 1) n) - (f_X8_yOf nw k n))), (2, .int ((f_X8_xOf nw (k + 1) n) - (f_X8_xOf nw k n))), (0, .ref ta), (1, .int (nI k))]) hx hb dX8_cross_38 hl (by decide) rfl (fun ls hl9 => ?_)
  replace hl := hl9
  clear hl9
  refine lv_aload_n hx hb dX8_cross_40 rfl (lv_at hl 3 rfl) ?_
  refine va_get (D := D) (ci := 8) (v := .long ((f_X8_follow nw k 0 n).2.1)) (C := RX8) (T := TX8) (N := 23) hx hb hts uX8_cross_X8 hown hK hP 0 rfl rfl 12 (by decide) (hts _ kX8_cross_1) (fun _ h9 => h9) rfl dX8_cross_41 ?_
  refine lv_lstore (lv' := [(6, .long ((f_X8_follow nw k 0 n).2.1)), (4, .long ((f_X8_follow nw k 0 n).1)), (3, .int ((f_X8_yOf nw (k + 1) n) - (f_X8_yOf nw k n))), (2, .int ((f_X8_xOf nw (k + 1) n) - (f_X8_xOf nw k n))), (0, .ref ta), (1, .int (nI k))]) hx hb dX8_cross_44 hl (by decide) rfl (fun ls hl9 => ?_)
  replace hl := hl9
  clear hl9
  refine lv_aload_n hx hb dX8_cross_46 rfl (lv_at hl 4 rfl) ?_
  refine va_get (D := D) (ci := 8) (v := .long ((f_X8_follow nw k 0 n).2.2)) (C := RX8) (T := TX8) (N := 23) hx hb hts uX8_cross_X8 hown hK hP 0 rfl rfl 13 (by decide) (hts _ kX8_cross_2) (fun _ h9 => h9) rfl dX8_cross_47 ?_
  refine lv_lstore (lv' := [(8, .long ((f_X8_follow nw k 0 n).2.2)), (6, .long ((f_X8_follow nw k 0 n).2.1)), (4, .long ((f_X8_follow nw k 0 n).1)), (3, .int ((f_X8_yOf nw (k + 1) n) - (f_X8_yOf nw k n))), (2, .int ((f_X8_xOf nw (k + 1) n) - (f_X8_xOf nw k n))), (0, .ref ta), (1, .int (nI k))]) hx hb dX8_cross_50 hl (by decide) rfl (fun ls hl9 => ?_)
  replace hl := hl9
  clear hl9
  refine lv_aload_n hx hb dX8_cross_52 rfl (lv_at hl 5 rfl) ?_
  refine lv_iload_n hx hb dX8_cross_53 rfl (lv_at hl 6 rfl) ?_
  refine lv_iconst (v := 1) hx hb dX8_cross_54 (by decide) ?_
  refine yk_v [0, 1] (va_runV (As := [.int (nI k), .int 1]) (rest := []) ⟨hx, hb, hml, hown, hts⟩ (c_X8_follow l D cy ta m_now m_undone m_slots m_slotKind m_hasSlot m_sheetBits m_sheetSize m_sheets m_fresh m_rootWhich m_signs m_atNought m_change m_table m_carried nw u fi ((f_X8_follow nw k 0 n).1) ((f_X8_follow nw k 0 n).2.1) ((f_X8_follow nw k 0 n).2.2) ro db mn k 1 n (by first | assumption | omega) (by first | assumption | omega) (by first | assumption | omega) (by first | assumption | omega) H.size) (cwV 2 hts gX8_cross_X8_follow rfl rfl rfl hv_X8_follow (yk_room hRf hRl rfl rfl)) (yk_pv (q := (RX8, TX8, 23)) hG hA hS hK hP hD [0, 1] (by decide +kernel) rfl rfl rfl) rfl rfl hl.1 rfl (lv_room (Nat.le_of_ble_eq_true rfl)) dX8_cross_55 ⟨Nat.zero_le _, Nat.zero_le _⟩) hP hD hS hA rfl rfl (fun H locs hP9 hD9 hS9 => ?_)
  replace hP : va_P D vwCl [(ta, .inr (8, [.ref m_now, .ref m_undone, .ref m_slots, .ref m_slotKind, .ref m_hasSlot, .ref m_sheetBits, .ref m_sheetSize, .ref m_sheets, .int (nI u), .int fi, .ref m_fresh, .long ((f_X8_follow nw k 1 n).1), .long ((f_X8_follow nw k 1 n).2.1), .long ((f_X8_follow nw k 1 n).2.2), .int (nI ro), .ref m_rootWhich, .int db, .ref m_signs, .ref m_atNought, .int (nI mn), .ref m_change, .ref m_table, .ref m_carried])), (m_now, .inl (cy 0, 29, .inl nw))] H := hP9
  replace hD : va_D A [(ta, .inr (8, [.ref m_now, .ref m_undone, .ref m_slots, .ref m_slotKind, .ref m_hasSlot, .ref m_sheetBits, .ref m_sheetSize, .ref m_sheets, .int (nI u), .int fi, .ref m_fresh, .long ((f_X8_follow nw k 1 n).1), .long ((f_X8_follow nw k 1 n).2.1), .long ((f_X8_follow nw k 1 n).2.2), .int (nI ro), .ref m_rootWhich, .int db, .ref m_signs, .ref m_atNought, .int (nI mn), .ref m_change, .ref m_table, .ref m_carried])), (m_now, .inl (cy 0, 29, .inl nw))] := hD9
  replace hS := hS9
  clear hP9 hD9 hS9
  refine lv_aload_n hx hb dX8_cross_58 rfl (lv_at hl 5 rfl) ?_
  refine lv_iload_n hx hb dX8_cross_59 rfl (lv_at hl 4 rfl) ?_
  refine lv_i2l hx hb dX8_cross_60 rfl ?_
  refine lv_aload_n hx hb dX8_cross_61 rfl (lv_at hl 5 rfl) ?_
  refine va_get (D := D) (ci := 8) (v := .long ((f_X8_follow nw k 1 n).1)) (C := RX8) (T := TX8) (N := 23) hx hb hts uX8_cross_X8 hown hK hP 0 rfl rfl 11 (by decide) (hts _ kX8_cross_0) (fun _ h9 => h9) rfl dX8_cross_62 ?_
  refine lv_lmul hx hb dX8_cross_65 ?_
  refine lv_iload_n hx hb dX8_cross_66 rfl (lv_at hl 3 rfl) ?_
  refine lv_i2l hx hb dX8_cross_67 rfl ?_
  refine lv_lload hx hb dX8_cross_68 (lv_at hl 2 rfl) ?_
  refine lv_lmul hx hb dX8_cross_70 ?_
  refine lv_lsub hx hb dX8_cross_71 ?_
  refine va_put (D := D) (ci := 8) (v := .long ((((((f_X8_xOf nw (k + 1) n) - (f_X8_xOf nw k n))).toInt64) * ((f_X8_follow nw k 1 n).1)) - (((((f_X8_yOf nw (k + 1) n) - (f_X8_yOf nw k n))).toInt64) * ((f_X8_follow nw k 0 n).1)))) (ty := .long) (C := RX8) (T := TX8) (N := 23) hx hb hts uX8_cross_X8 tyX8 tyX8_ok nmX8 hown hK hP hD hS 0 rfl rfl 11 (by decide) (hts _ kX8_cross_0) (fun _ h9 => h9) rfl (by decide +kernel) (rfl) (rfl) (Nat.le_of_ble_eq_true rfl) dX8_cross_72 (fun H locs hP9 hD9 hS9 => ?_)
  replace hP : va_P D vwCl [(ta, .inr (8, [.ref m_now, .ref m_undone, .ref m_slots, .ref m_slotKind, .ref m_hasSlot, .ref m_sheetBits, .ref m_sheetSize, .ref m_sheets, .int (nI u), .int fi, .ref m_fresh, .long ((((((f_X8_xOf nw (k + 1) n) - (f_X8_xOf nw k n))).toInt64) * ((f_X8_follow nw k 1 n).1)) - (((((f_X8_yOf nw (k + 1) n) - (f_X8_yOf nw k n))).toInt64) * ((f_X8_follow nw k 0 n).1))), .long ((f_X8_follow nw k 1 n).2.1), .long ((f_X8_follow nw k 1 n).2.2), .int (nI ro), .ref m_rootWhich, .int db, .ref m_signs, .ref m_atNought, .int (nI mn), .ref m_change, .ref m_table, .ref m_carried])), (m_now, .inl (cy 0, 29, .inl nw))] H := hP9
  replace hD : va_D A [(ta, .inr (8, [.ref m_now, .ref m_undone, .ref m_slots, .ref m_slotKind, .ref m_hasSlot, .ref m_sheetBits, .ref m_sheetSize, .ref m_sheets, .int (nI u), .int fi, .ref m_fresh, .long ((((((f_X8_xOf nw (k + 1) n) - (f_X8_xOf nw k n))).toInt64) * ((f_X8_follow nw k 1 n).1)) - (((((f_X8_yOf nw (k + 1) n) - (f_X8_yOf nw k n))).toInt64) * ((f_X8_follow nw k 0 n).1))), .long ((f_X8_follow nw k 1 n).2.1), .long ((f_X8_follow nw k 1 n).2.2), .int (nI ro), .ref m_rootWhich, .int db, .ref m_signs, .ref m_atNought, .int (nI mn), .ref m_change, .ref m_table, .ref m_carried])), (m_now, .inl (cy 0, 29, .inl nw))] := hD9
  replace hS := hS9
  clear hP9 hD9 hS9
  refine lv_aload_n hx hb dX8_cross_75 rfl (lv_at hl 5 rfl) ?_
  refine lv_iload_n hx hb dX8_cross_76 rfl (lv_at hl 4 rfl) ?_
  refine lv_i2l hx hb dX8_cross_77 rfl ?_
  refine lv_aload_n hx hb dX8_cross_78 rfl (lv_at hl 5 rfl) ?_
  refine va_get (D := D) (ci := 8) (v := .long ((f_X8_follow nw k 1 n).2.1)) (C := RX8) (T := TX8) (N := 23) hx hb hts uX8_cross_X8 hown hK hP 0 rfl rfl 12 (by decide) (hts _ kX8_cross_1) (fun _ h9 => h9) rfl dX8_cross_79 ?_
  refine lv_lmul hx hb dX8_cross_82 ?_
  refine lv_iload_n hx hb dX8_cross_83 rfl (lv_at hl 3 rfl) ?_
  refine lv_i2l hx hb dX8_cross_84 rfl ?_
  refine lv_lload hx hb dX8_cross_85 (lv_at hl 1 rfl) ?_
  refine lv_lmul hx hb dX8_cross_87 ?_
  refine lv_lsub hx hb dX8_cross_88 ?_
  refine va_put (D := D) (ci := 8) (v := .long ((((((f_X8_xOf nw (k + 1) n) - (f_X8_xOf nw k n))).toInt64) * ((f_X8_follow nw k 1 n).2.1)) - (((((f_X8_yOf nw (k + 1) n) - (f_X8_yOf nw k n))).toInt64) * ((f_X8_follow nw k 0 n).2.1)))) (ty := .long) (C := RX8) (T := TX8) (N := 23) hx hb hts uX8_cross_X8 tyX8 tyX8_ok nmX8 hown hK hP hD hS 0 rfl rfl 12 (by decide) (hts _ kX8_cross_1) (fun _ h9 => h9) rfl (by decide +kernel) (rfl) (rfl) (Nat.le_of_ble_eq_true rfl) dX8_cross_89 (fun H locs hP9 hD9 hS9 => ?_)
  replace hP : va_P D vwCl [(ta, .inr (8, [.ref m_now, .ref m_undone, .ref m_slots, .ref m_slotKind, .ref m_hasSlot, .ref m_sheetBits, .ref m_sheetSize, .ref m_sheets, .int (nI u), .int fi, .ref m_fresh, .long ((((((f_X8_xOf nw (k + 1) n) - (f_X8_xOf nw k n))).toInt64) * ((f_X8_follow nw k 1 n).1)) - (((((f_X8_yOf nw (k + 1) n) - (f_X8_yOf nw k n))).toInt64) * ((f_X8_follow nw k 0 n).1))), .long ((((((f_X8_xOf nw (k + 1) n) - (f_X8_xOf nw k n))).toInt64) * ((f_X8_follow nw k 1 n).2.1)) - (((((f_X8_yOf nw (k + 1) n) - (f_X8_yOf nw k n))).toInt64) * ((f_X8_follow nw k 0 n).2.1))), .long ((f_X8_follow nw k 1 n).2.2), .int (nI ro), .ref m_rootWhich, .int db, .ref m_signs, .ref m_atNought, .int (nI mn), .ref m_change, .ref m_table, .ref m_carried])), (m_now, .inl (cy 0, 29, .inl nw))] H := hP9
  replace hD : va_D A [(ta, .inr (8, [.ref m_now, .ref m_undone, .ref m_slots, .ref m_slotKind, .ref m_hasSlot, .ref m_sheetBits, .ref m_sheetSize, .ref m_sheets, .int (nI u), .int fi, .ref m_fresh, .long ((((((f_X8_xOf nw (k + 1) n) - (f_X8_xOf nw k n))).toInt64) * ((f_X8_follow nw k 1 n).1)) - (((((f_X8_yOf nw (k + 1) n) - (f_X8_yOf nw k n))).toInt64) * ((f_X8_follow nw k 0 n).1))), .long ((((((f_X8_xOf nw (k + 1) n) - (f_X8_xOf nw k n))).toInt64) * ((f_X8_follow nw k 1 n).2.1)) - (((((f_X8_yOf nw (k + 1) n) - (f_X8_yOf nw k n))).toInt64) * ((f_X8_follow nw k 0 n).2.1))), .long ((f_X8_follow nw k 1 n).2.2), .int (nI ro), .ref m_rootWhich, .int db, .ref m_signs, .ref m_atNought, .int (nI mn), .ref m_change, .ref m_table, .ref m_carried])), (m_now, .inl (cy 0, 29, .inl nw))] := hD9
  replace hS := hS9
  clear hP9 hD9 hS9
  refine lv_aload_n hx hb dX8_cross_92 rfl (lv_at hl 5 rfl) ?_
  refine lv_iload_n hx hb dX8_cross_93 rfl (lv_at hl 4 rfl) ?_
  refine lv_i2l hx hb dX8_cross_94 rfl ?_
  refine lv_aload_n hx hb dX8_cross_95 rfl (lv_at hl 5 rfl) ?_
  refine va_get (D := D) (ci := 8) (v := .long ((f_X8_follow nw k 1 n).2.2)) (C := RX8) (T := TX8) (N := 23) hx hb hts uX8_cross_X8 hown hK hP 0 rfl rfl 13 (by decide) (hts _ kX8_cross_2) (fun _ h9 => h9) rfl dX8_cross_96 ?_
  refine lv_lmul hx hb dX8_cross_99 ?_
  refine lv_iload_n hx hb dX8_cross_100 rfl (lv_at hl 3 rfl) ?_
  refine lv_i2l hx hb dX8_cross_101 rfl ?_
  refine lv_lload hx hb dX8_cross_102 (lv_at hl 0 rfl) ?_
  refine lv_lmul hx hb dX8_cross_104 ?_
  refine lv_lsub hx hb dX8_cross_105 ?_
  refine va_put (D := D) (ci := 8) (v := .long ((((((f_X8_xOf nw (k + 1) n) - (f_X8_xOf nw k n))).toInt64) * ((f_X8_follow nw k 1 n).2.2)) - (((((f_X8_yOf nw (k + 1) n) - (f_X8_yOf nw k n))).toInt64) * ((f_X8_follow nw k 0 n).2.2)))) (ty := .long) (C := RX8) (T := TX8) (N := 23) hx hb hts uX8_cross_X8 tyX8 tyX8_ok nmX8 hown hK hP hD hS 0 rfl rfl 13 (by decide) (hts _ kX8_cross_2) (fun _ h9 => h9) rfl (by decide +kernel) (rfl) (rfl) (Nat.le_of_ble_eq_true rfl) dX8_cross_106 (fun H locs hP9 hD9 hS9 => ?_)
  replace hP : va_P D vwCl [(ta, .inr (8, [.ref m_now, .ref m_undone, .ref m_slots, .ref m_slotKind, .ref m_hasSlot, .ref m_sheetBits, .ref m_sheetSize, .ref m_sheets, .int (nI u), .int fi, .ref m_fresh, .long ((((((f_X8_xOf nw (k + 1) n) - (f_X8_xOf nw k n))).toInt64) * ((f_X8_follow nw k 1 n).1)) - (((((f_X8_yOf nw (k + 1) n) - (f_X8_yOf nw k n))).toInt64) * ((f_X8_follow nw k 0 n).1))), .long ((((((f_X8_xOf nw (k + 1) n) - (f_X8_xOf nw k n))).toInt64) * ((f_X8_follow nw k 1 n).2.1)) - (((((f_X8_yOf nw (k + 1) n) - (f_X8_yOf nw k n))).toInt64) * ((f_X8_follow nw k 0 n).2.1))), .long ((((((f_X8_xOf nw (k + 1) n) - (f_X8_xOf nw k n))).toInt64) * ((f_X8_follow nw k 1 n).2.2)) - (((((f_X8_yOf nw (k + 1) n) - (f_X8_yOf nw k n))).toInt64) * ((f_X8_follow nw k 0 n).2.2))), .int (nI ro), .ref m_rootWhich, .int db, .ref m_signs, .ref m_atNought, .int (nI mn), .ref m_change, .ref m_table, .ref m_carried])), (m_now, .inl (cy 0, 29, .inl nw))] H := hP9
  replace hD : va_D A [(ta, .inr (8, [.ref m_now, .ref m_undone, .ref m_slots, .ref m_slotKind, .ref m_hasSlot, .ref m_sheetBits, .ref m_sheetSize, .ref m_sheets, .int (nI u), .int fi, .ref m_fresh, .long ((((((f_X8_xOf nw (k + 1) n) - (f_X8_xOf nw k n))).toInt64) * ((f_X8_follow nw k 1 n).1)) - (((((f_X8_yOf nw (k + 1) n) - (f_X8_yOf nw k n))).toInt64) * ((f_X8_follow nw k 0 n).1))), .long ((((((f_X8_xOf nw (k + 1) n) - (f_X8_xOf nw k n))).toInt64) * ((f_X8_follow nw k 1 n).2.1)) - (((((f_X8_yOf nw (k + 1) n) - (f_X8_yOf nw k n))).toInt64) * ((f_X8_follow nw k 0 n).2.1))), .long ((((((f_X8_xOf nw (k + 1) n) - (f_X8_xOf nw k n))).toInt64) * ((f_X8_follow nw k 1 n).2.2)) - (((((f_X8_yOf nw (k + 1) n) - (f_X8_yOf nw k n))).toInt64) * ((f_X8_follow nw k 0 n).2.2))), .int (nI ro), .ref m_rootWhich, .int db, .ref m_signs, .ref m_atNought, .int (nI mn), .ref m_change, .ref m_table, .ref m_carried])), (m_now, .inl (cy 0, 29, .inl nw))] := hD9
  replace hS := hS9
  clear hP9 hD9 hS9
  have hF : f_X8_cross nw k n = (((((((f_X8_xOf nw (k + 1) n) - (f_X8_xOf nw k n))).toInt64) * ((f_X8_follow nw k 1 n).1)) - (((((f_X8_yOf nw (k + 1) n) - (f_X8_yOf nw k n))).toInt64) * ((f_X8_follow nw k 0 n).1))), ((((((f_X8_xOf nw (k + 1) n) - (f_X8_xOf nw k n))).toInt64) * ((f_X8_follow nw k 1 n).2.1)) - (((((f_X8_yOf nw (k + 1) n) - (f_X8_yOf nw k n))).toInt64) * ((f_X8_follow nw k 0 n).2.1))), ((((((f_X8_xOf nw (k + 1) n) - (f_X8_xOf nw k n))).toInt64) * ((f_X8_follow nw k 1 n).2.2)) - (((((f_X8_yOf nw (k + 1) n) - (f_X8_yOf nw k n))).toInt64) * ((f_X8_follow nw k 0 n).2.2)))) := hF
  have hf0 := yk_fst hF
  have hg0 := yk_snd hF
  have hf1 := yk_fst hg0
  have hg1 := yk_snd hg0
  rw [hf0, hf1, hg1] at hQ
  exact hQ _ _ _ _ dX8_cross_109 hP hS

def f_X8_sign (x : Int64) : Int32 := (if (lg_cmp x 0) ≤ 0 then (if 0 ≤ (lg_cmp x 0) then 0 else (-1)) else 1)
set_option maxHeartbeats 400000000 in
set_option maxRecDepth 100000 in
theorem c_X8_sign (l : Launch) (D : va_G) (cy : Nat → ClassId) (x : Int64) : yk_Ci l D vwCl (yk_ty cy) yX8_sign wsX8_sign 0 0 [.long x] [] (f_X8_sign x) [] := by
  refine yk_eI (cc := cX8_sign) (maxL := 2) (by decide) rfl (Nat.le_of_ble_eq_true rfl) rfl ?_
  intro p e R s m args below meth c A Q ls H locs hx hb hml hown hts hRf hRl hA hK hG hP hD hS hl hQ
  have hP : va_P D vwCl [] H := hP
  have hl : lv_has ls 2 [(0, .long x)] := hl
  have hown : s.vm.findClass RX8 = some m.cls := hown
  have hF : (f_X8_sign x) = (f_X8_sign x) := rfl
  refine lv_lload_n hx hb dX8_sign_0 rfl (lv_at hl 0 rfl) ?_
  refine lv_lconst (v := 0) hx hb dX8_sign_1 (by decide) ?_
  refine W.lcmp hx hb dX8_sign_2 ?_
  have J4 : ∀ (v3 : Int32) (H : Heap) (locs : List Loc) (ls : Array Slot), v3 = (if (lg_cmp x 0) ≤ 0 then (if 0 ≤ (lg_cmp x 0) then 0 else (-1)) else 1) → va_P D vwCl [] H → va_D A [] → va_S A s.heap H locs → lv_has ls 2 [(0, .long x)] → W p l e R s m args below meth c H locs 0 0 Q (F0 m 21 ls [.int v3]) := by
    clear hP hD hS hl
    intro v3 H locs ls ev3 hP hD hS hl
    subst ev3
    have hF : f_X8_sign x = (if (lg_cmp x 0) ≤ 0 then (if 0 ≤ (lg_cmp x 0) then 0 else (-1)) else 1) := hF
    rw [hF] at hQ
    exact hQ _ _ _ _ dX8_sign_21 hP hS
  refine lv_if_le (tgt := 10) hx hb dX8_sign_3 (by decide) (fun hc1 => ?_) (fun hc1 => ?_)
  · refine lv_lload_n hx hb dX8_sign_10 rfl (lv_at hl 0 rfl) ?_
    refine lv_lconst (v := 0) hx hb dX8_sign_11 (by decide) ?_
    refine W.lcmp hx hb dX8_sign_12 ?_
    refine lv_if_ge (tgt := 20) hx hb dX8_sign_13 (by decide) (fun hc2 => ?_) (fun hc2 => ?_)
    · refine lv_iconst (v := 0) hx hb dX8_sign_20 (by decide) ?_
      exact J4 _ _ _ _ (((if_pos hc1).trans (if_pos hc2)).symm) hP hD hS (lv_sub hl [0] rfl)
    · refine lv_iconst (v := (-1)) hx hb dX8_sign_16 (by decide) ?_
      refine lv_goto (tgt := 21) hx hb dX8_sign_17 (by decide) ?_
      exact J4 _ _ _ _ (((if_pos hc1).trans (if_neg hc2)).symm) hP hD hS (lv_sub hl [0] rfl)
  · refine lv_iconst (v := 1) hx hb dX8_sign_6 (by decide) ?_
    refine lv_goto (tgt := 21) hx hb dX8_sign_7 (by decide) ?_
    exact J4 _ _ _ _ ((if_neg hc1).symm) hP hD hS (lv_sub hl [0] rfl)

theorem kX8_only_0 : Cond.fieldLink RX8 38 "FlowPlaneModel" "rootWhich" "[I" ∈ wsX8_only := by decide +kernel
theorem kX8_only_1 : Cond.fieldLink RX8 153 "FlowPlaneModel" "roots" "I" ∈ wsX8_only := by decide +kernel
theorem uX8_only_X8 : ∀ w ∈ u_ws RX8 TX8 23, w ∈ wsX8_only := by decide +kernel
def f_X8_only (ro : Nat) (rt : Nat → Int32) (px : Int32) : Nat × (Nat → Int32) := ((ro + 1), (upd rt ro px))
set_option maxHeartbeats 400000000 in
set_option maxRecDepth 100000 in
theorem c_X8_only (l : Launch) (D : va_G) (cy : Nat → ClassId) (ta : Nat) (m_rootWhich : Nat) (m_now : Nat) (m_undone : Nat) (m_slots : Nat) (m_slotKind : Nat) (m_hasSlot : Nat) (m_sheetBits : Nat) (m_sheetSize : Nat) (m_sheets : Nat) (m_fresh : Nat) (m_signs : Nat) (m_atNought : Nat) (m_change : Nat) (m_table : Nat) (m_carried : Nat) (u : Nat) (fi : Int32) (aa : Int64) (bb : Int64) (dd : Int64) (ro : Nat) (rt : Nat → Int32) (db : Int32) (mn : Nat) (px : Int32) (hro : ro < 2) : yk_Cv l D vwCl (yk_ty cy) yX8_only wsX8_only 0 0 [.ref ta, .int px] [(ta, .inr (8, [.ref m_now, .ref m_undone, .ref m_slots, .ref m_slotKind, .ref m_hasSlot, .ref m_sheetBits, .ref m_sheetSize, .ref m_sheets, .int (nI u), .int fi, .ref m_fresh, .long aa, .long bb, .long dd, .int (nI ro), .ref m_rootWhich, .int db, .ref m_signs, .ref m_atNought, .int (nI mn), .ref m_change, .ref m_table, .ref m_carried])), (m_rootWhich, .inl (cy 0, 2, .inl rt))] [(ta, .inr (8, [.ref m_now, .ref m_undone, .ref m_slots, .ref m_slotKind, .ref m_hasSlot, .ref m_sheetBits, .ref m_sheetSize, .ref m_sheets, .int (nI u), .int fi, .ref m_fresh, .long aa, .long bb, .long dd, .int (nI ((f_X8_only ro rt px).1)), .ref m_rootWhich, .int db, .ref m_signs, .ref m_atNought, .int (nI mn), .ref m_change, .ref m_table, .ref m_carried])), (m_rootWhich, .inl (cy 0, 2, .inl ((f_X8_only ro rt px).2)))] := by
  refine yk_eV (cc := cX8_only) (maxL := 2) (by decide) rfl (Nat.le_of_ble_eq_true rfl) ?_
  intro p e R s m args below meth c A Q ls H locs hx hb hml hown hts hRf hRl hA hK hG hP hD hS hl hQ
  have hP : va_P D vwCl [(ta, .inr (8, [.ref m_now, .ref m_undone, .ref m_slots, .ref m_slotKind, .ref m_hasSlot, .ref m_sheetBits, .ref m_sheetSize, .ref m_sheets, .int (nI u), .int fi, .ref m_fresh, .long aa, .long bb, .long dd, .int (nI ro), .ref m_rootWhich, .int db, .ref m_signs, .ref m_atNought, .int (nI mn), .ref m_change, .ref m_table, .ref m_carried])), (m_rootWhich, .inl (cy 0, 2, .inl rt))] H := hP
  have hl : lv_has ls 2 [(0, .ref ta), (1, .int px)] := hl
  have hown : s.vm.findClass RX8 = some m.cls := hown
  have hF : (f_X8_only ro rt px) = (f_X8_only ro rt px) := rfl
  refine lv_aload_n hx hb dX8_only_0 rfl (lv_at hl 0 rfl) ?_
  refine va_get (D := D) (ci := 8) (v := .ref m_rootWhich) (C := RX8) (T := TX8) (N := 23) hx hb hts uX8_only_X8 hown hK hP 0 rfl rfl 15 (by decide) (hts _ kX8_only_0) (fun _ h9 => h9) rfl dX8_only_1 ?_
  refine lv_aload_n hx hb dX8_only_4 rfl (lv_at hl 0 rfl) ?_
  refine va_get (D := D) (ci := 8) (v := .int (nI ro)) (C := RX8) (T := TX8) (N := 23) hx hb hts uX8_only_X8 hown hK hP 0 rfl rfl 14 (by decide) (hts _ kX8_only_1) (fun _ h9 => h9) rfl dX8_only_5 ?_
  refine lv_iload_n hx hb dX8_only_8 rfl (lv_at hl 1 rfl) ?_
  refine yk_ist hx hb hK hP hD hS 1 0 rfl rfl ro (by omega) (by decide) dX8_only_9 (fun H locs hP9 hD9 hS9 => ?_)
  replace hP : va_P D vwCl [(ta, .inr (8, [.ref m_now, .ref m_undone, .ref m_slots, .ref m_slotKind, .ref m_hasSlot, .ref m_sheetBits, .ref m_sheetSize, .ref m_sheets, .int (nI u), .int fi, .ref m_fresh, .long aa, .long bb, .long dd, .int (nI ro), .ref m_rootWhich, .int db, .ref m_signs, .ref m_atNought, .int (nI mn), .ref m_change, .ref m_table, .ref m_carried])), (m_rootWhich, .inl (cy 0, 2, .inl (upd rt ro px)))] H := hP9
  replace hD : va_D A [(ta, .inr (8, [.ref m_now, .ref m_undone, .ref m_slots, .ref m_slotKind, .ref m_hasSlot, .ref m_sheetBits, .ref m_sheetSize, .ref m_sheets, .int (nI u), .int fi, .ref m_fresh, .long aa, .long bb, .long dd, .int (nI ro), .ref m_rootWhich, .int db, .ref m_signs, .ref m_atNought, .int (nI mn), .ref m_change, .ref m_table, .ref m_carried])), (m_rootWhich, .inl (cy 0, 2, .inl (upd rt ro px)))] := hD9
  replace hS := hS9
  clear hP9 hD9 hS9
  refine lv_aload_n hx hb dX8_only_10 rfl (lv_at hl 0 rfl) ?_
  refine lv_dup hx hb dX8_only_11 rfl ?_
  refine va_get (D := D) (ci := 8) (v := .int (nI ro)) (C := RX8) (T := TX8) (N := 23) hx hb hts uX8_only_X8 hown hK hP 0 rfl rfl 14 (by decide) (hts _ kX8_only_1) (fun _ h9 => h9) rfl dX8_only_12 ?_
  refine lv_iconst (v := 1) hx hb dX8_only_15 (by decide) ?_
  refine lv_iadd hx hb dX8_only_16 ?_
  refine yk_ti (y := nI (ro + 1)) (nI_add ro 1) ?_
  refine va_put (D := D) (ci := 8) (v := .int (nI (ro + 1))) (ty := .int) (C := RX8) (T := TX8) (N := 23) hx hb hts uX8_only_X8 tyX8 tyX8_ok nmX8 hown hK hP hD hS 0 rfl rfl 14 (by decide) (hts _ kX8_only_1) (fun _ h9 => h9) rfl (by decide +kernel) (rfl) (rfl) (Nat.le_of_ble_eq_true rfl) dX8_only_17 (fun H locs hP9 hD9 hS9 => ?_)
  replace hP : va_P D vwCl [(ta, .inr (8, [.ref m_now, .ref m_undone, .ref m_slots, .ref m_slotKind, .ref m_hasSlot, .ref m_sheetBits, .ref m_sheetSize, .ref m_sheets, .int (nI u), .int fi, .ref m_fresh, .long aa, .long bb, .long dd, .int (nI (ro + 1)), .ref m_rootWhich, .int db, .ref m_signs, .ref m_atNought, .int (nI mn), .ref m_change, .ref m_table, .ref m_carried])), (m_rootWhich, .inl (cy 0, 2, .inl (upd rt ro px)))] H := hP9
  replace hD : va_D A [(ta, .inr (8, [.ref m_now, .ref m_undone, .ref m_slots, .ref m_slotKind, .ref m_hasSlot, .ref m_sheetBits, .ref m_sheetSize, .ref m_sheets, .int (nI u), .int fi, .ref m_fresh, .long aa, .long bb, .long dd, .int (nI (ro + 1)), .ref m_rootWhich, .int db, .ref m_signs, .ref m_atNought, .int (nI mn), .ref m_change, .ref m_table, .ref m_carried])), (m_rootWhich, .inl (cy 0, 2, .inl (upd rt ro px)))] := hD9
  replace hS := hS9
  clear hP9 hD9 hS9
  have hF : f_X8_only ro rt px = ((ro + 1), (upd rt ro px)) := hF
  have hf0 := yk_fst hF
  have hg0 := yk_snd hF
  rw [hf0, hg0] at hQ
  exact hQ _ _ _ _ dX8_only_20 hP hS
