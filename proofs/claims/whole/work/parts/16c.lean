theorem hv_X8_isSmall : yX8_isSmall.cls = RX8 ∧ yX8_isSmall.cls ≠ "java/lang/invoke/MethodHandle" ∧ yX8_isSmall.cls ≠ "java/lang/invoke/VarHandle" ∧ (parseMethodDescriptor yX8_isSmall.desc).map (fun d => d.parameters.length) = some 0 := by decide +kernel
theorem hs_X8_isSmall : yX8_isSmall.cls ≠ "java/lang/invoke/MethodHandle" ∧ yX8_isSmall.cls ≠ "java/lang/invoke/VarHandle" ∧ (parseMethodDescriptor yX8_isSmall.desc).map (fun d => d.parameters.length) = some 0 := by decide +kernel
theorem hv_X8_isRest : yX8_isRest.cls = RX8 ∧ yX8_isRest.cls ≠ "java/lang/invoke/MethodHandle" ∧ yX8_isRest.cls ≠ "java/lang/invoke/VarHandle" ∧ (parseMethodDescriptor yX8_isRest.desc).map (fun d => d.parameters.length) = some 2 := by decide +kernel
theorem hs_X8_isRest : yX8_isRest.cls ≠ "java/lang/invoke/MethodHandle" ∧ yX8_isRest.cls ≠ "java/lang/invoke/VarHandle" ∧ (parseMethodDescriptor yX8_isRest.desc).map (fun d => d.parameters.length) = some 2 := by decide +kernel
theorem kX8_move_0 : Cond.fieldLink RX8 35 "FlowPlaneModel" "fresh" "[I" ∈ wsX8_move := by decide +kernel
theorem kX8_move_1 : Cond.constant RX8 99 (-1000003) ∈ wsX8_move := by decide +kernel
theorem kX8_move_2 : Cond.constant RX8 68 (-1000001) ∈ wsX8_move := by decide +kernel
theorem uX8_move_X8 : ∀ w ∈ u_ws RX8 TX8 23, w ∈ wsX8_move := by decide +kernel
def l_X8_move_37 (nw : Nat → Int32) (un : Nat → Int32) (u : Nat) (fi : Int32) (fr : Nat → Int32) (px : Int32) (py : Int32) (ki : Nat) (zfresh_17 : Nat → Int32) : Nat → Nat → (Nat → Int32) → (Nat → Int32)
  | 0, kj, zfresh_37 => zfresh_37
  | fu_X8_move_37 + 1, kj, zfresh_37 => (if 6 ≤ (nI kj) then zfresh_37 else (l_X8_move_37 nw un u fi fr px py ki zfresh_17 fu_X8_move_37 (kj + 1) (upd zfresh_37 ((6 * ki) + kj) (f_X8_get nw (if (nI ki) = 1 then 1 else 0) kj))))
def l_X8_move_17 (nw : Nat → Int32) (un : Nat → Int32) (u : Nat) (fi : Int32) (fr : Nat → Int32) (px : Int32) (py : Int32) : Nat → Nat → (Nat → Int32) → (Nat → Int32)
  | 0, ki, zfresh_17 => zfresh_17
  | fu_X8_move_17 + 1, ki, zfresh_17 => (if 2 ≤ (nI ki) then zfresh_17 else (l_X8_move_17 nw un u fi fr px py fu_X8_move_17 (ki + 1) (upd (upd (upd (l_X8_move_37 nw un u fi fr px py ki zfresh_17 (6 - 3 + 1) 3 zfresh_17) (6 * ki) (f_X8_speedAt nw px py (if (nI ki) = 1 then 1 else 0))) ((6 * ki) + 1) (f_X8_slopeAt nw px py (if (nI ki) = 1 then 1 else 0) 0)) ((6 * ki) + 2) (f_X8_slopeAt nw px py (if (nI ki) = 1 then 1 else 0) 1))))
def f_X8_move (nw : Nat → Int32) (un : Nat → Int32) (u : Nat) (fi : Int32) (fr : Nat → Int32) (px : Int32) (py : Int32) : Int32 × Nat × Int32 × (Nat → Int32) × (Nat → Int32) × (Nat → Int32) := (if (f_X8_isPlace px py) = 0 then (((f_X8_found fi (-1000001)).1), u, ((f_X8_found fi (-1000001)).2), nw, un, fr) else (if (f_X8_isSmall (l_X8_move_17 nw un u fi fr px py (2 + 1) 0 fr)) = 0 then (((f_X8_found fi (-1000003)).1), u, ((f_X8_found fi (-1000003)).2), nw, un, (l_X8_move_17 nw un u fi fr px py (2 + 1) 0 fr)) else (1, ((f_X8_remember nw un u).1), fi, (f_X8_take nw (l_X8_move_17 nw un u fi fr px py (2 + 1) 0 fr)), ((f_X8_remember nw un u).2), (l_X8_move_17 nw un u fi fr px py (2 + 1) 0 fr))))
set_option maxHeartbeats 400000000 in
set_option maxRecDepth 100000 in
theorem c_X8_move (l : Launch) (D : va_G) (cy : Nat → ClassId) (ta : Nat) (m_now : Nat) (m_undone : Nat) (m_fresh : Nat) (m_slots : Nat) (m_slotKind : Nat) (m_hasSlot : Nat) (m_sheetBits : Nat) (m_sheetSize : Nat) (m_sheets : Nat) (m_rootWhich : Nat) (m_signs : Nat) (m_atNought : Nat) (m_change : Nat) (m_table : Nat) (m_carried : Nat) (nw : Nat → Int32) (un : Nat → Int32) (u : Nat) (fi : Int32) (fr : Nat → Int32) (aa : Int64) (bb : Int64) (dd : Int64) (ro : Nat) (db : Int32) (mn : Nat) (px : Int32) (py : Int32) (hu : u ≤ 25) : yk_Ci l D vwCl (yk_ty cy) yX8_move wsX8_move 2 46 [.ref ta, .int px, .int py] [(ta, .inr (8, [.ref m_now, .ref m_undone, .ref m_slots, .ref m_slotKind, .ref m_hasSlot, .ref m_sheetBits, .ref m_sheetSize, .ref m_sheets, .int (nI u), .int fi, .ref m_fresh, .long aa, .long bb, .long dd, .int (nI ro), .ref m_rootWhich, .int db, .ref m_signs, .ref m_atNought, .int (nI mn), .ref m_change, .ref m_table, .ref m_carried])), (m_now, .inl (cy 0, 29, .inl nw)), (m_undone, .inl (cy 0, 725, .inl un)), (m_fresh, .inl (cy 0, 12, .inl fr))] ((f_X8_move nw un u fi fr px py).1) [(ta, .inr (8, [.ref m_now, .ref m_undone, .ref m_slots, .ref m_slotKind, .ref m_hasSlot, .ref m_sheetBits, .ref m_sheetSize, .ref m_sheets, .int (nI ((f_X8_move nw un u fi fr px py).2.1)), .int ((f_X8_move nw un u fi fr px py).2.2.1), .ref m_fresh, .long aa, .long bb, .long dd, .int (nI ro), .ref m_rootWhich, .int db, .ref m_signs, .ref m_atNought, .int (nI mn), .ref m_change, .ref m_table, .ref m_carried])), (m_now, .inl (cy 0, 29, .inl ((f_X8_move nw un u fi fr px py).2.2.2.1))), (m_undone, .inl (cy 0, 725, .inl ((f_X8_move nw un u fi fr px py).2.2.2.2.1))), (m_fresh, .inl (cy 0, 12, .inl ((f_X8_move nw un u fi fr px py).2.2.2.2.2)))] := by
  refine yk_eI (cc := cX8_move) (maxL := 6) (by decide) rfl (Nat.le_of_ble_eq_true rfl) rfl ?_
  intro p e R s m args below meth c A Q ls H locs hx hb hml hown hts hRf hRl hA hK hG hP hD hS hl hQ
  have hP : va_P D vwCl [(ta, .inr (8, [.ref m_now, .ref m_undone, .ref m_slots, .ref m_slotKind, .ref m_hasSlot, .ref m_sheetBits, .ref m_sheetSize, .ref m_sheets, .int (nI u), .int fi, .ref m_fresh, .long aa, .long bb, .long dd, .int (nI ro), .ref m_rootWhich, .int db, .ref m_signs, .ref m_atNought, .int (nI mn), .ref m_change, .ref m_table, .ref m_carried])), (m_now, .inl (cy 0, 29, .inl nw)), (m_undone, .inl (cy 0, 725, .inl un)), (m_fresh, .inl (cy 0, 12, .inl fr))] H := hP
  have hl : lv_has ls 6 [(0, .ref ta), (1, .int px), (2, .int py)] := hl
  have hown : s.vm.findClass RX8 = some m.cls := hown
  have hF : (f_X8_move nw un u fi fr px py) = (f_X8_move nw un u fi fr px py) := rfl
  refine lv_iload_n hx hb dX8_move_0 rfl (lv_at hl 1 rfl) ?_
  refine lv_iload_n hx hb dX8_move_1 rfl (lv_at hl 2 rfl) ?_
  refine yk_i [] (va_runS (As := [.int px, .int py]) (rest := []) ⟨hx, hb, hml, hown, hts⟩ (c_X8_isPlace l D cy px py H.size) (va_cwS 2 hts gX8_move_X8_isPlace rfl rfl rfl hs_X8_isPlace (yk_room hRf hRl rfl rfl)) (yk_ps hG hA hS hK hP hD [] (by decide +kernel) rfl) rfl rfl hl.1 rfl (lv_room (Nat.le_of_ble_eq_true rfl)) dX8_move_2 ⟨Nat.zero_le _, Nat.zero_le _⟩) hP hD hS hA rfl rfl (fun H locs hP9 hD9 hS9 => ?_)
  replace hP : va_P D vwCl [(ta, .inr (8, [.ref m_now, .ref m_undone, .ref m_slots, .ref m_slotKind, .ref m_hasSlot, .ref m_sheetBits, .ref m_sheetSize, .ref m_sheets, .int (nI u), .int fi, .ref m_fresh, .long aa, .long bb, .long dd, .int (nI ro), .ref m_rootWhich, .int db, .ref m_signs, .ref m_atNought, .int (nI mn), .ref m_change, .ref m_table, .ref m_carried])), (m_now, .inl (cy 0, 29, .inl nw)), (m_undone, .inl (cy 0, 725, .inl un)), (m_fresh, .inl (cy 0, 12, .inl fr))] H := hP9
  replace hD : va_D A [(ta, .inr (8, [.ref m_now, .ref m_undone, .ref m_slots, .ref m_slotKind, .ref m_hasSlot, .ref m_sheetBits, .ref m_sheetSize, .ref m_sheets, .int (nI u), .int fi, .ref m_fresh, .long aa, .long bb, .long dd, .int (nI ro), .ref m_rootWhich, .int db, .ref m_signs, .ref m_atNought, .int (nI mn), .ref m_change, .ref m_table, .ref m_carried])), (m_now, .inl (cy 0, 29, .inl nw)), (m_undone, .inl (cy 0, 725, .inl un)), (m_fresh, .inl (cy 0, 12, .inl fr))] := hD9
  replace hS := hS9
  clear hP9 hD9 hS9
  refine lv_if_ne (tgt := 15) hx hb dX8_move_5 (by decide) (fun hc1 => ?_) (fun hc1 => ?_)
  · replace hF := hF.trans (if_neg hc1)
    refine lv_iconst (v := 0) hx hb dX8_move_15 (by decide) ?_
    refine lv_istore_n (lv' := [(3, .int 0), (0, .ref ta), (1, .int px), (2, .int py)]) hx hb dX8_move_16 rfl hl (by decide) rfl (fun ls hl9 => ?_)
    replace hl := hl9
    clear hl9
    have J16 : ∀ (H : Heap) (locs : List Loc) (ls : Array Slot), va_P D vwCl [(ta, .inr (8, [.ref m_now, .ref m_undone, .ref m_slots, .ref m_slotKind, .ref m_hasSlot, .ref m_sheetBits, .ref m_sheetSize, .ref m_sheets, .int (nI u), .int fi, .ref m_fresh, .long aa, .long bb, .long dd, .int (nI ro), .ref m_rootWhich, .int db, .ref m_signs, .ref m_atNought, .int (nI mn), .ref m_change, .ref m_table, .ref m_carried])), (m_now, .inl (cy 0, 29, .inl nw)), (m_undone, .inl (cy 0, 725, .inl un)), (m_fresh, .inl (cy 0, 12, .inl (l_X8_move_17 nw un u fi fr px py (2 + 1) 0 fr)))] H → va_D A [(ta, .inr (8, [.ref m_now, .ref m_undone, .ref m_slots, .ref m_slotKind, .ref m_hasSlot, .ref m_sheetBits, .ref m_sheetSize, .ref m_sheets, .int (nI u), .int fi, .ref m_fresh, .long aa, .long bb, .long dd, .int (nI ro), .ref m_rootWhich, .int db, .ref m_signs, .ref m_atNought, .int (nI mn), .ref m_change, .ref m_table, .ref m_carried])), (m_now, .inl (cy 0, 29, .inl nw)), (m_undone, .inl (cy 0, 725, .inl un)), (m_fresh, .inl (cy 0, 12, .inl (l_X8_move_17 nw un u fi fr px py (2 + 1) 0 fr)))] → va_S A s.heap H locs → lv_has ls 6 [(0, .ref ta), (1, .int px), (2, .int py)] → W p l e R s m args below meth c H locs 0 0 Q (F0 m 133 ls []) := by
      clear hP hD hS hl
      intro H locs ls hP hD hS hl
      refine lv_aload_n hx hb dX8_move_133 rfl (lv_at hl 0 rfl) ?_
      refine yk_i [0, 3] (va_runV (As := []) (rest := []) ⟨hx, hb, hml, hown, hts⟩ (c_X8_isSmall l D cy ta m_fresh m_now m_undone m_slots m_slotKind m_hasSlot m_sheetBits m_sheetSize m_sheets m_rootWhich m_signs m_atNought m_change m_table m_carried u fi (l_X8_move_17 nw un u fi fr px py (2 + 1) 0 fr) aa bb dd ro db mn H.size) (cwV 0 hts gX8_move_X8_isSmall rfl rfl rfl hv_X8_isSmall (yk_room hRf hRl rfl rfl)) (yk_pv (q := (RX8, TX8, 23)) hG hA hS hK hP hD [0, 3] (by decide +kernel) rfl rfl rfl) rfl rfl hl.1 rfl (lv_room (Nat.le_of_ble_eq_true rfl)) dX8_move_134 ⟨Nat.zero_le _, Nat.zero_le _⟩) hP hD hS hA rfl (Eq.trans (b := [ta, m_fresh]) rfl rfl) (fun H locs hP9 hD9 hS9 => ?_)
      replace hP : va_P D vwCl [(ta, .inr (8, [.ref m_now, .ref m_undone, .ref m_slots, .ref m_slotKind, .ref m_hasSlot, .ref m_sheetBits, .ref m_sheetSize, .ref m_sheets, .int (nI u), .int fi, .ref m_fresh, .long aa, .long bb, .long dd, .int (nI ro), .ref m_rootWhich, .int db, .ref m_signs, .ref m_atNought, .int (nI mn), .ref m_change, .ref m_table, .ref m_carried])), (m_now, .inl (cy 0, 29, .inl nw)), (m_undone, .inl (cy 0, 725, .inl un)), (m_fresh, .inl (cy 0, 12, .inl (l_X8_move_17 nw un u fi fr px py (2 + 1) 0 fr)))] H := hP9
      replace hD : va_D A [(ta, .inr (8, [.ref m_now, .ref m_undone, .ref m_slots, .ref m_slotKind, .ref m_hasSlot, .ref m_sheetBits, .ref m_sheetSize, .ref m_sheets, .int (nI u), .int fi, .ref m_fresh, .long aa, .long bb, .long dd, .int (nI ro), .ref m_rootWhich, .int db, .ref m_signs, .ref m_atNought, .int (nI mn), .ref m_change, .ref m_table, .ref m_carried])), (m_now, .inl (cy 0, 29, .inl nw)), (m_undone, .inl (cy 0, 725, .inl un)), (m_fresh, .inl (cy 0, 12, .inl (l_X8_move_17 nw un u fi fr px py (2 + 1) 0 fr)))] := hD9
      replace hS := hS9
      clear hP9 hD9 hS9
      refine lv_if_ne (tgt := 147) hx hb dX8_move_137 (by decide) (fun hc17 => ?_) (fun hc17 => ?_)
      · replace hF := hF.trans (if_neg hc17)
        refine lv_aload_n hx hb dX8_move_147 rfl (lv_at hl 0 rfl) ?_
        refine yk_v [0, 1, 2] (va_runV (As := []) (rest := []) ⟨hx, hb, hml, hown, hts⟩ (c_X8_remember l D cy ta m_now m_undone m_slots m_slotKind m_hasSlot m_sheetBits m_sheetSize m_sheets m_fresh m_rootWhich m_signs m_atNought m_change m_table m_carried nw un u fi aa bb dd ro db mn hu H.size) (cwV 0 hts gX8_move_X8_remember rfl rfl rfl hv_X8_remember (yk_room hRf hRl rfl rfl)) (yk_pv (q := (RX8, TX8, 23)) hG hA hS hK hP hD [0, 1, 2] (by decide +kernel) rfl rfl rfl) rfl rfl hl.1 rfl (lv_room (Nat.le_of_ble_eq_true rfl)) dX8_move_148 ⟨Nat.zero_le _, Nat.zero_le _⟩) hP hD hS hA rfl (Eq.trans (b := [ta, m_now, m_undone]) rfl rfl) (fun H locs hP9 hD9 hS9 => ?_)
        replace hP : va_P D vwCl [(ta, .inr (8, [.ref m_now, .ref m_undone, .ref m_slots, .ref m_slotKind, .ref m_hasSlot, .ref m_sheetBits, .ref m_sheetSize, .ref m_sheets, .int (nI ((f_X8_remember nw un u).1)), .int fi, .ref m_fresh, .long aa, .long bb, .long dd, .int (nI ro), .ref m_rootWhich, .int db, .ref m_signs, .ref m_atNought, .int (nI mn), .ref m_change, .ref m_table, .ref m_carried])), (m_now, .inl (cy 0, 29, .inl nw)), (m_undone, .inl (cy 0, 725, .inl ((f_X8_remember nw un u).2))), (m_fresh, .inl (cy 0, 12, .inl (l_X8_move_17 nw un u fi fr px py (2 + 1) 0 fr)))] H := hP9
        replace hD : va_D A [(ta, .inr (8, [.ref m_now, .ref m_undone, .ref m_slots, .ref m_slotKind, .ref m_hasSlot, .ref m_sheetBits, .ref m_sheetSize, .ref m_sheets, .int (nI ((f_X8_remember nw un u).1)), .int fi, .ref m_fresh, .long aa, .long bb, .long dd, .int (nI ro), .ref m_rootWhich, .int db, .ref m_signs, .ref m_atNought, .int (nI mn), .ref m_change, .ref m_table, .ref m_carried])), (m_now, .inl (cy 0, 29, .inl nw)), (m_undone, .inl (cy 0, 725, .inl ((f_X8_remember nw un u).2))), (m_fresh, .inl (cy 0, 12, .inl (l_X8_move_17 nw un u fi fr px py (2 + 1) 0 fr)))] := hD9
        replace hS := hS9
        clear hP9 hD9 hS9
        refine lv_aload_n hx hb dX8_move_151 rfl (lv_at hl 0 rfl) ?_
        refine yk_v [0, 1, 3] (va_runV (As := []) (rest := []) ⟨hx, hb, hml, hown, hts⟩ (c_X8_take l D cy ta m_now m_fresh m_undone m_slots m_slotKind m_hasSlot m_sheetBits m_sheetSize m_sheets m_rootWhich m_signs m_atNought m_change m_table m_carried nw ((f_X8_remember nw un u).1) fi (l_X8_move_17 nw un u fi fr px py (2 + 1) 0 fr) aa bb dd ro db mn H.size) (cwV 0 hts gX8_move_X8_take rfl rfl rfl hv_X8_take (yk_room hRf hRl rfl rfl)) (yk_pv (q := (RX8, TX8, 23)) hG hA hS hK hP hD [0, 1, 3] (by decide +kernel) rfl rfl rfl) rfl rfl hl.1 rfl (lv_room (Nat.le_of_ble_eq_true rfl)) dX8_move_152 ⟨Nat.zero_le _, Nat.zero_le _⟩) hP hD hS hA rfl (Eq.trans (b := [ta, m_now, m_fresh]) rfl rfl) (fun H locs hP9 hD9 hS9 => ?_)
        replace hP : va_P D vwCl [(ta, .inr (8, [.ref m_now, .ref m_undone, .ref m_slots, .ref m_slotKind, .ref m_hasSlot, .ref m_sheetBits, .ref m_sheetSize, .ref m_sheets, .int (nI ((f_X8_remember nw un u).1)), .int fi, .ref m_fresh, .long aa, .long bb, .long dd, .int (nI ro), .ref m_rootWhich, .int db, .ref m_signs, .ref m_atNought, .int (nI mn), .ref m_change, .ref m_table, .ref m_carried])), (m_now, .inl (cy 0, 29, .inl (f_X8_take nw (l_X8_move_17 nw un u fi fr px py (2 + 1) 0 fr)))), (m_undone, .inl (cy 0, 725, .inl ((f_X8_remember nw un u).2))), (m_fresh, .inl (cy 0, 12, .inl (l_X8_move_17 nw un u fi fr px py (2 + 1) 0 fr)))] H := hP9
        replace hD : va_D A [(ta, .inr (8, [.ref m_now, .ref m_undone, .ref m_slots, .ref m_slotKind, .ref m_hasSlot, .ref m_sheetBits, .ref m_sheetSize, .ref m_sheets, .int (nI ((f_X8_remember nw un u).1)), .int fi, .ref m_fresh, .long aa, .long bb, .long dd, .int (nI ro), .ref m_rootWhich, .int db, .ref m_signs, .ref m_atNought, .int (nI mn), .ref m_change, .ref m_table, .ref m_carried])), (m_now, .inl (cy 0, 29, .inl (f_X8_take nw (l_X8_move_17 nw un u fi fr px py (2 + 1) 0 fr)))), (m_undone, .inl (cy 0, 725, .inl ((f_X8_remember nw un u).2))), (m_fresh, .inl (cy 0, 12, .inl (l_X8_move_17 nw un u fi fr px py (2 + 1) 0 fr)))] := hD9
        replace hS := hS9
        clear hP9 hD9 hS9
        refine lv_iconst (v := 1) hx hb dX8_move_155 (by decide) ?_
        have hF : f_X8_move nw un u fi fr px py = (1, ((f_X8_remember nw un u).1), fi, (f_X8_take nw (l_X8_move_17 nw un u fi fr px py (2 + 1) 0 fr)), ((f_X8_remember nw un u).2), (l_X8_move_17 nw un u fi fr px py (2 + 1) 0 fr)) := hF
        have hf0 := yk_fst hF
        have hg0 := yk_snd hF
        have hf1 := yk_fst hg0
        have hg1 := yk_snd hg0
        have hf2 := yk_fst hg1
        have hg2 := yk_snd hg1
        have hf3 := yk_fst hg2
        have hg3 := yk_snd hg2
        have hf4 := yk_fst hg3
        have hg4 := yk_snd hg3
        rw [hf0, hf1, hf2, hf3, hf4, hg4] at hQ
        exact hQ _ _ _ _ dX8_move_156 hP hS
      · replace hF := hF.trans (if_pos hc17)
        refine lv_aload_n hx hb dX8_move_140 rfl (lv_at hl 0 rfl) ?_
        refine lv_ldc (v := (-1000003)) hx hb hown (hts _ kX8_move_1) dX8_move_141 ?_
        refine yk_i [0] (va_runV (As := [.int (-1000003)]) (rest := []) ⟨hx, hb, hml, hown, hts⟩ (c_X8_found l D cy ta m_now m_undone m_slots m_slotKind m_hasSlot m_sheetBits m_sheetSize m_sheets m_fresh m_rootWhich m_signs m_atNought m_change m_table m_carried u fi aa bb dd ro db mn (-1000003) H.size) (cwV 1 hts gX8_move_X8_found rfl rfl rfl hv_X8_found (yk_room hRf hRl rfl rfl)) (yk_pv (q := (RX8, TX8, 23)) hG hA hS hK hP hD [0] (by decide +kernel) rfl rfl rfl) rfl rfl hl.1 rfl (lv_room (Nat.le_of_ble_eq_true rfl)) dX8_move_143 ⟨Nat.zero_le _, Nat.zero_le _⟩) hP hD hS hA rfl (Eq.trans (b := [ta]) rfl rfl) (fun H locs hP9 hD9 hS9 => ?_)
        replace hP : va_P D vwCl [(ta, .inr (8, [.ref m_now, .ref m_undone, .ref m_slots, .ref m_slotKind, .ref m_hasSlot, .ref m_sheetBits, .ref m_sheetSize, .ref m_sheets, .int (nI u), .int ((f_X8_found fi (-1000003)).2), .ref m_fresh, .long aa, .long bb, .long dd, .int (nI ro), .ref m_rootWhich, .int db, .ref m_signs, .ref m_atNought, .int (nI mn), .ref m_change, .ref m_table, .ref m_carried])), (m_now, .inl (cy 0, 29, .inl nw)), (m_undone, .inl (cy 0, 725, .inl un)), (m_fresh, .inl (cy 0, 12, .inl (l_X8_move_17 nw un u fi fr px py (2 + 1) 0 fr)))] H := hP9
        replace hD : va_D A [(ta, .inr (8, [.ref m_now, .ref m_undone, .ref m_slots, .ref m_slotKind, .ref m_hasSlot, .ref m_sheetBits, .ref m_sheetSize, .ref m_sheets, .int (nI u), .int ((f_X8_found fi (-1000003)).2), .ref m_fresh, .long aa, .long bb, .long dd, .int (nI ro), .ref m_rootWhich, .int db, .ref m_signs, .ref m_atNought, .int (nI mn), .ref m_change, .ref m_table, .ref m_carried])), (m_now, .inl (cy 0, 29, .inl nw)), (m_undone, .inl (cy 0, 725, .inl un)), (m_fresh, .inl (cy 0, 12, .inl (l_X8_move_17 nw un u fi fr px py (2 + 1) 0 fr)))] := hD9
        replace hS := hS9
        clear hP9 hD9 hS9
        have hF : f_X8_move nw un u fi fr px py = (((f_X8_found fi (-1000003)).1), u, ((f_X8_found fi (-1000003)).2), nw, un, (l_X8_move_17 nw un u fi fr px py (2 + 1) 0 fr)) := hF
        have hf0 := yk_fst hF
        have hg0 := yk_snd hF
        have hf1 := yk_fst hg0
        have hg1 := yk_snd hg0
        have hf2 := yk_fst hg1
        have hg2 := yk_snd hg1
        have hf3 := yk_fst hg2
        have hg3 := yk_snd hg2
        have hf4 := yk_fst hg3
        have hg4 := yk_snd hg3
        rw [hf0, hf1, hf2, hf3, hf4, hg4] at hQ
        exact hQ _ _ _ _ dX8_move_146 hP hS
    have L17 : ∀ (M9 n17 ki : Nat) (zfresh_17 : Nat → Int32) (H : Heap) (locs : List Loc) (ls : Array Slot), n17 < M9 → ki + n17 = 2 → (l_X8_move_17 nw un u fi fr px py (2 + 1) 0 fr) = (l_X8_move_17 nw un u fi fr px py (n17 + 1) ki zfresh_17) → va_P D vwCl [(ta, .inr (8, [.ref m_now, .ref m_undone, .ref m_slots, .ref m_slotKind, .ref m_hasSlot, .ref m_sheetBits, .ref m_sheetSize, .ref m_sheets, .int (nI u), .int fi, .ref m_fresh, .long aa, .long bb, .long dd, .int (nI ro), .ref m_rootWhich, .int db, .ref m_signs, .ref m_atNought, .int (nI mn), .ref m_change, .ref m_table, .ref m_carried])), (m_now, .inl (cy 0, 29, .inl nw)), (m_undone, .inl (cy 0, 725, .inl un)), (m_fresh, .inl (cy 0, 12, .inl zfresh_17))] H → va_D A [(ta, .inr (8, [.ref m_now, .ref m_undone, .ref m_slots, .ref m_slotKind, .ref m_hasSlot, .ref m_sheetBits, .ref m_sheetSize, .ref m_sheets, .int (nI u), .int fi, .ref m_fresh, .long aa, .long bb, .long dd, .int (nI ro), .ref m_rootWhich, .int db, .ref m_signs, .ref m_atNought, .int (nI mn), .ref m_change, .ref m_table, .ref m_carried])), (m_now, .inl (cy 0, 29, .inl nw)), (m_undone, .inl (cy 0, 725, .inl un)), (m_fresh, .inl (cy 0, 12, .inl zfresh_17))] → va_S A s.heap H locs → lv_has ls 6 [(0, .ref ta), (1, .int px), (2, .int py), (3, .int (nI ki))] → W p l e R s m args below meth c H locs 0 0 Q (F0 m 17 ls []) := by
      clear hP hD hS hl
      intro M9
      induction M9 with
      | zero => intro n17 ki _ _ _ _ hn; exact absurd hn (Nat.not_lt_zero _)
      | succ M9 ih17 =>
        intro n17 ki zfresh_17 H locs ls hn17 hk17 hV17 hP hD hS hl
        refine lv_iload_n hx hb dX8_move_17 rfl (lv_at hl 3 rfl) ?_
        refine lv_iconst (v := 2) hx hb dX8_move_18 (by decide) ?_
        refine lv_icmp_ge (tgt := 133) hx hb dX8_move_19 (by decide) (fun hc9 => ?_) (fun hc9 => ?_)
        · replace hV17 := hV17.trans (if_pos hc9)
          have hV17 : (l_X8_move_17 nw un u fi fr px py (2 + 1) 0 fr) = zfresh_17 := hV17
          have J16 := J16
          rw [hV17] at J16
          exact J16 _ _ _ hP hD hS (lv_sub hl [0, 1, 2] rfl)
        · replace hV17 := hV17.trans (if_neg hc9)
          have hlt17 : ki < 2 := yk_lt hk17 (by omega) hc9
          refine lv_iload_n hx hb dX8_move_22 rfl (lv_at hl 3 rfl) ?_
          refine lv_iconst (v := 1) hx hb dX8_move_23 (by decide) ?_
          have J12 : ∀ (v11 : Int32) (H : Heap) (locs : List Loc) (ls : Array Slot), v11 = (if (nI ki) = 1 then 1 else 0) → va_P D vwCl [(ta, .inr (8, [.ref m_now, .ref m_undone, .ref m_slots, .ref m_slotKind, .ref m_hasSlot, .ref m_sheetBits, .ref m_sheetSize, .ref m_sheets, .int (nI u), .int fi, .ref m_fresh, .long aa, .long bb, .long dd, .int (nI ro), .ref m_rootWhich, .int db, .ref m_signs, .ref m_atNought, .int (nI mn), .ref m_change, .ref m_table, .ref m_carried])), (m_now, .inl (cy 0, 29, .inl nw)), (m_undone, .inl (cy 0, 725, .inl un)), (m_fresh, .inl (cy 0, 12, .inl zfresh_17))] H → va_D A [(ta, .inr (8, [.ref m_now, .ref m_undone, .ref m_slots, .ref m_slotKind, .ref m_hasSlot, .ref m_sheetBits, .ref m_sheetSize, .ref m_sheets, .int (nI u), .int fi, .ref m_fresh, .long aa, .long bb, .long dd, .int (nI ro), .ref m_rootWhich, .int db, .ref m_signs, .ref m_atNought, .int (nI mn), .ref m_change, .ref m_table, .ref m_carried])), (m_now, .inl (cy 0, 29, .inl nw)), (m_undone, .inl (cy 0, 725, .inl un)), (m_fresh, .inl (cy 0, 12, .inl zfresh_17))] → va_S A s.heap H locs → lv_has ls 6 [(0, .ref ta), (1, .int px), (2, .int py), (3, .int (nI ki))] → W p l e R s m args below meth c H locs 0 0 Q (F0 m 32 ls [.int v11]) := by
            clear hP hD hS hl
            intro v11 H locs ls ev11
            rw [ev11]
            clear ev11
            intro hP hD hS hl
            refine lv_istore (lv' := [(4, .int (if (nI ki) = 1 then 1 else 0)), (0, .ref ta), (1, .int px), (2, .int py), (3, .int (nI ki))]) hx hb dX8_move_32 hl (by decide) rfl (fun ls hl9 => ?_)
            replace hl := hl9
            clear hl9
            refine lv_iconst (v := 3) hx hb dX8_move_34 (by decide) ?_
            refine lv_istore (lv' := [(5, .int 3), (4, .int (if (nI ki) = 1 then 1 else 0)), (0, .ref ta), (1, .int px), (2, .int py), (3, .int (nI ki))]) hx hb dX8_move_35 hl (by decide) rfl (fun ls hl9 => ?_)
            replace hl := hl9
            clear hl9
            have J15 : ∀ (H : Heap) (locs : List Loc) (ls : Array Slot), va_P D vwCl [(ta, .inr (8, [.ref m_now, .ref m_undone, .ref m_slots, .ref m_slotKind, .ref m_hasSlot, .ref m_sheetBits, .ref m_sheetSize, .ref m_sheets, .int (nI u), .int fi, .ref m_fresh, .long aa, .long bb, .long dd, .int (nI ro), .ref m_rootWhich, .int db, .ref m_signs, .ref m_atNought, .int (nI mn), .ref m_change, .ref m_table, .ref m_carried])), (m_now, .inl (cy 0, 29, .inl nw)), (m_undone, .inl (cy 0, 725, .inl un)), (m_fresh, .inl (cy 0, 12, .inl (l_X8_move_37 nw un u fi fr px py ki zfresh_17 (6 - 3 + 1) 3 zfresh_17)))] H → va_D A [(ta, .inr (8, [.ref m_now, .ref m_undone, .ref m_slots, .ref m_slotKind, .ref m_hasSlot, .ref m_sheetBits, .ref m_sheetSize, .ref m_sheets, .int (nI u), .int fi, .ref m_fresh, .long aa, .long bb, .long dd, .int (nI ro), .ref m_rootWhich, .int db, .ref m_signs, .ref m_atNought, .int (nI mn), .ref m_change, .ref m_table, .ref m_carried])), (m_now, .inl (cy 0, 29, .inl nw)), (m_undone, .inl (cy 0, 725, .inl un)), (m_fresh, .inl (cy 0, 12, .inl (l_X8_move_37 nw un u fi fr px py ki zfresh_17 (6 - 3 + 1) 3 zfresh_17)))] → va_S A s.heap H locs → lv_has ls 6 [(0, .ref ta), (1, .int px), (2, .int py), (3, .int (nI ki)), (4, .int (if (nI ki) = 1 then 1 else 0))] → W p l e R s m args below meth c H locs 0 0 Q (F0 m 70 ls []) := by
              clear hP hD hS hl
              intro H locs ls hP hD hS hl
              refine lv_aload_n hx hb dX8_move_70 rfl (lv_at hl 0 rfl) ?_
              refine va_get (D := D) (ci := 8) (v := .ref m_fresh) (C := RX8) (T := TX8) (N := 23) hx hb hts uX8_move_X8 hown hK hP 0 rfl rfl 10 (by decide) (hts _ kX8_move_0) (fun _ h9 => h9) rfl dX8_move_71 ?_
              refine lv_bipush (v := 6) hx hb dX8_move_74 (by decide) ?_
              refine lv_iload_n hx hb dX8_move_76 rfl (lv_at hl 3 rfl) ?_
              refine lv_imul hx hb dX8_move_77 ?_
              refine yk_ti (y := nI (6 * ki)) (pk_mul 6 ki) ?_
              refine lv_aload_n hx hb dX8_move_78 rfl (lv_at hl 0 rfl) ?_
              refine lv_iload_n hx hb dX8_move_79 rfl (lv_at hl 1 rfl) ?_
              refine lv_iload_n hx hb dX8_move_80 rfl (lv_at hl 2 rfl) ?_
              refine lv_iload hx hb dX8_move_81 (lv_at hl 4 rfl) ?_
              refine yk_i [0, 1] (va_runV (As := [.int px, .int py, .int (if (nI ki) = 1 then 1 else 0)]) (rest := [.int (nI (6 * ki)), .ref m_fresh]) ⟨hx, hb, hml, hown, hts⟩ (c_X8_speedAt l D cy ta m_now m_undone m_slots m_slotKind m_hasSlot m_sheetBits m_sheetSize m_sheets m_fresh m_rootWhich m_signs m_atNought m_change m_table m_carried nw u fi aa bb dd ro db mn px py (if (nI ki) = 1 then 1 else 0) H.size) (cwV 3 hts gX8_move_X8_speedAt rfl rfl rfl hv_X8_speedAt (yk_room hRf hRl rfl rfl)) (yk_pv (q := (RX8, TX8, 23)) hG hA hS hK hP hD [0, 1] (by decide +kernel) rfl rfl rfl) rfl rfl hl.1 rfl (lv_room (Nat.le_of_ble_eq_true rfl)) dX8_move_83 ⟨Nat.zero_le _, Nat.zero_le _⟩) hP hD hS hA rfl (Eq.trans (b := [ta, m_now]) rfl rfl) (fun H locs hP9 hD9 hS9 => ?_)
              replace hP : va_P D vwCl [(ta, .inr (8, [.ref m_now, .ref m_undone, .ref m_slots, .ref m_slotKind, .ref m_hasSlot, .ref m_sheetBits, .ref m_sheetSize, .ref m_sheets, .int (nI u), .int fi, .ref m_fresh, .long aa, .long bb, .long dd, .int (nI ro), .ref m_rootWhich, .int db, .ref m_signs, .ref m_atNought, .int (nI mn), .ref m_change, .ref m_table, .ref m_carried])), (m_now, .inl (cy 0, 29, .inl nw)), (m_undone, .inl (cy 0, 725, .inl un)), (m_fresh, .inl (cy 0, 12, .inl (l_X8_move_37 nw un u fi fr px py ki zfresh_17 (6 - 3 + 1) 3 zfresh_17)))] H := hP9
              replace hD : va_D A [(ta, .inr (8, [.ref m_now, .ref m_undone, .ref m_slots, .ref m_slotKind, .ref m_hasSlot, .ref m_sheetBits, .ref m_sheetSize, .ref m_sheets, .int (nI u), .int fi, .ref m_fresh, .long aa, .long bb, .long dd, .int (nI ro), .ref m_rootWhich, .int db, .ref m_signs, .ref m_atNought, .int (nI mn), .ref m_change, .ref m_table, .ref m_carried])), (m_now, .inl (cy 0, 29, .inl nw)), (m_undone, .inl (cy 0, 725, .inl un)), (m_fresh, .inl (cy 0, 12, .inl (l_X8_move_37 nw un u fi fr px py ki zfresh_17 (6 - 3 + 1) 3 zfresh_17)))] := hD9
              replace hS := hS9
              clear hP9 hD9 hS9
              refine yk_ist hx hb hK hP hD hS 3 0 rfl rfl (6 * ki) (by omega) (by decide) dX8_move_86 (fun H locs hP9 hD9 hS9 => ?_)
              replace hP : va_P D vwCl [(ta, .inr (8, [.ref m_now, .ref m_undone, .ref m_slots, .ref m_slotKind, .ref m_hasSlot, .ref m_sheetBits, .ref m_sheetSize, .ref m_sheets, .int (nI u), .int fi, .ref m_fresh, .long aa, .long bb, .long dd, .int (nI ro), .ref m_rootWhich, .int db, .ref m_signs, .ref m_atNought, .int (nI mn), .ref m_change, .ref m_table, .ref m_carried])), (m_now, .inl (cy 0, 29, .inl nw)), (m_undone, .inl (cy 0, 725, .inl un)), (m_fresh, .inl (cy 0, 12, .inl (upd (l_X8_move_37 nw un u fi fr px py ki zfresh_17 (6 - 3 + 1) 3 zfresh_17) (6 * ki) (f_X8_speedAt nw px py (if (nI ki) = 1 then 1 else 0)))))] H := hP9
              replace hD : va_D A [(ta, .inr (8, [.ref m_now, .ref m_undone, .ref m_slots, .ref m_slotKind, .ref m_hasSlot, .ref m_sheetBits, .ref m_sheetSize, .ref m_sheets, .int (nI u), .int fi, .ref m_fresh, .long aa, .long bb, .long dd, .int (nI ro), .ref m_rootWhich, .int db, .ref m_signs, .ref m_atNought, .int (nI mn), .ref m_change, .ref m_table, .ref m_carried])), (m_now, .inl (cy 0, 29, .inl nw)), (m_undone, .inl (cy 0, 725, .inl un)), (m_fresh, .inl (cy 0, 12, .inl (upd (l_X8_move_37 nw un u fi fr px py ki zfresh_17 (6 - 3 + 1) 3 zfresh_17) (6 * ki) (f_X8_speedAt nw px py (if (nI ki) = 1 then 1 else 0)))))] := hD9
              replace hS := hS9
              clear hP9 hD9 hS9
              refine lv_aload_n hx hb dX8_move_87 rfl (lv_at hl 0 rfl) ?_
              refine va_get (D := D) (ci := 8) (v := .ref m_fresh) (C := RX8) (T := TX8) (N := 23) hx hb hts uX8_move_X8 hown hK hP 0 rfl rfl 10 (by decide) (hts _ kX8_move_0) (fun _ h9 => h9) rfl dX8_move_88 ?_
              refine lv_bipush (v := 6) hx hb dX8_move_91 (by decide) ?_
              refine lv_iload_n hx hb dX8_move_93 rfl (lv_at hl 3 rfl) ?_
              refine lv_imul hx hb dX8_move_94 ?_
              refine yk_ti (y := nI (6 * ki)) (pk_mul 6 ki) ?_
              refine lv_iconst (v := 1) hx hb dX8_move_95 (by decide) ?_
              refine lv_iadd hx hb dX8_move_96 ?_
              refine yk_ti (y := nI ((6 * ki) + 1)) (nI_add (6 * ki) 1) ?_
              refine lv_aload_n hx hb dX8_move_97 rfl (lv_at hl 0 rfl) ?_
              refine lv_iload_n hx hb dX8_move_98 rfl (lv_at hl 1 rfl) ?_
              refine lv_iload_n hx hb dX8_move_99 rfl (lv_at hl 2 rfl) ?_
              refine lv_iload hx hb dX8_move_100 (lv_at hl 4 rfl) ?_
              refine lv_iconst (v := 0) hx hb dX8_move_102 (by decide) ?_
              refine yk_i [0, 1] (va_runV (As := [.int px, .int py, .int (if (nI ki) = 1 then 1 else 0), .int 0]) (rest := [.int (nI ((6 * ki) + 1)), .ref m_fresh]) ⟨hx, hb, hml, hown, hts⟩ (c_X8_slopeAt l D cy ta m_now m_undone m_slots m_slotKind m_hasSlot m_sheetBits m_sheetSize m_sheets m_fresh m_rootWhich m_signs m_atNought m_change m_table m_carried nw u fi aa bb dd ro db mn px py (if (nI ki) = 1 then 1 else 0) 0 H.size) (cwV 4 hts gX8_move_X8_slopeAt rfl rfl rfl hv_X8_slopeAt (yk_room hRf hRl rfl rfl)) (yk_pv (q := (RX8, TX8, 23)) hG hA hS hK hP hD [0, 1] (by decide +kernel) rfl rfl rfl) rfl rfl hl.1 rfl (lv_room (Nat.le_of_ble_eq_true rfl)) dX8_move_103 ⟨Nat.zero_le _, Nat.zero_le _⟩) hP hD hS hA rfl (Eq.trans (b := [ta, m_now]) rfl rfl) (fun H locs hP9 hD9 hS9 => ?_)
              replace hP : va_P D vwCl [(ta, .inr (8, [.ref m_now, .ref m_undone, .ref m_slots, .ref m_slotKind, .ref m_hasSlot, .ref m_sheetBits, .ref m_sheetSize, .ref m_sheets, .int (nI u), .int fi, .ref m_fresh, .long aa, .long bb, .long dd, .int (nI ro), .ref m_rootWhich, .int db, .ref m_signs, .ref m_atNought, .int (nI mn), .ref m_change, .ref m_table, .ref m_carried])), (m_now, .inl (cy 0, 29, .inl nw)), (m_undone, .inl (cy 0, 725, .inl un)), (m_fresh, .inl (cy 0, 12, .inl (upd (l_X8_move_37 nw un u fi fr px py ki zfresh_17 (6 - 3 + 1) 3 zfresh_17) (6 * ki) (f_X8_speedAt nw px py (if (nI ki) = 1 then 1 else 0)))))] H := hP9
              replace hD : va_D A [(ta, .inr (8, [.ref m_now, .ref m_undone, .ref m_slots, .ref m_slotKind, .ref m_hasSlot, .ref m_sheetBits, .ref m_sheetSize, .ref m_sheets, .int (nI u), .int fi, .ref m_fresh, .long aa, .long bb, .long dd, .int (nI ro), .ref m_rootWhich, .int db, .ref m_signs, .ref m_atNought, .int (nI mn), .ref m_change, .ref m_table, .ref m_carried])), (m_now, .inl (cy 0, 29, .inl nw)), (m_undone, .inl (cy 0, 725, .inl un)), (m_fresh, .inl (cy 0, 12, .inl (upd (l_X8_move_37 nw un u fi fr px py ki zfresh_17 (6 - 3 + 1) 3 zfresh_17) (6 * ki) (f_X8_speedAt nw px py (if (nI ki) = 1 then 1 else 0)))))] := hD9
              replace hS := hS9
              clear hP9 hD9 hS9
              refine yk_ist hx hb hK hP hD hS 3 0 rfl rfl ((6 * ki) + 1) (by omega) (by decide) dX8_move_106 (fun H locs hP9 hD9 hS9 => ?_)
              replace hP : va_P D vwCl [(ta, .inr (8, [.ref m_now, .ref m_undone, .ref m_slots, .ref m_slotKind, .ref m_hasSlot, .ref m_sheetBits, .ref m_sheetSize, .ref m_sheets, .int (nI u), .int fi, .ref m_fresh, .long aa, .long bb, .long dd, .int (nI ro), .ref m_rootWhich, .int db, .ref m_signs, .ref m_atNought, .int (nI mn), .ref m_change, .ref m_table, .ref m_carried])), (m_now, .inl (cy 0, 29, .inl nw)), (m_undone, .inl (cy 0, 725, .inl un)), (m_fresh, .inl (cy 0, 12, .inl (upd (upd (l_X8_move_37 nw un u fi fr px py ki zfresh_17 (6 - 3 + 1) 3 zfresh_17) (6 * ki) (f_X8_speedAt nw px py (if (nI ki) = 1 then 1 else 0))) ((6 * ki) + 1) (f_X8_slopeAt nw px py (if (nI ki) = 1 then 1 else 0) 0))))] H := hP9
              replace hD : va_D A [(ta, .inr (8, [.ref m_now, .ref m_undone, .ref m_slots, .ref m_slotKind, .ref m_hasSlot, .ref m_sheetBits, .ref m_sheetSize, .ref m_sheets, .int (nI u), .int fi, .ref m_fresh, .long aa, .long bb, .long dd, .int (nI ro), .ref m_rootWhich, .int db, .ref m_signs, .ref m_atNought, .int (nI mn), .ref m_change, .ref m_table, .ref m_carried])), (m_now, .inl (cy 0, 29, .inl nw)), (m_undone, .inl (cy 0, 725, .inl un)), (m_fresh, .inl (cy 0, 12, .inl (upd (upd (l_X8_move_37 nw un u fi fr px py ki zfresh_17 (6 - 3 + 1) 3 zfresh_17) (6 * ki) (f_X8_speedAt nw px py (if (nI ki) = 1 then 1 else 0))) ((6 * ki) + 1) (f_X8_slopeAt nw px py (if (nI ki) = 1 then 1 else 0) 0))))] := hD9
              replace hS := hS9
              clear hP9 hD9 hS9
              refine lv_aload_n hx hb dX8_move_107 rfl (lv_at hl 0 rfl) ?_
              refine va_get (D := D) (ci := 8) (v := .ref m_fresh) (C := RX8) (T := TX8) (N := 23) hx hb hts uX8_move_X8 hown hK hP 0 rfl rfl 10 (by decide) (hts _ kX8_move_0) (fun _ h9 => h9) rfl dX8_move_108 ?_
              refine lv_bipush (v := 6) hx hb dX8_move_111 (by decide) ?_
              refine lv_iload_n hx hb dX8_move_113 rfl (lv_at hl 3 rfl) ?_
              refine lv_imul hx hb dX8_move_114 ?_
              refine yk_ti (y := nI (6 * ki)) (pk_mul 6 ki) ?_
              refine lv_iconst (v := 2) hx hb dX8_move_115 (by decide) ?_
              refine lv_iadd hx hb dX8_move_116 ?_
              refine yk_ti (y := nI ((6 * ki) + 2)) (nI_add (6 * ki) 2) ?_
              refine lv_aload_n hx hb dX8_move_117 rfl (lv_at hl 0 rfl) ?_
              refine lv_iload_n hx hb dX8_move_118 rfl (lv_at hl 1 rfl) ?_
              refine lv_iload_n hx hb dX8_move_119 rfl (lv_at hl 2 rfl) ?_
              refine lv_iload hx hb dX8_move_120 (lv_at hl 4 rfl) ?_
              refine lv_iconst (v := 1) hx hb dX8_move_122 (by decide) ?_
              refine yk_i [0, 1] (va_runV (As := [.int px, .int py, .int (if (nI ki) = 1 then 1 else 0), .int 1]) (rest := [.int (nI ((6 * ki) + 2)), .ref m_fresh]) ⟨hx, hb, hml, hown, hts⟩ (c_X8_slopeAt l D cy ta m_now m_undone m_slots m_slotKind m_hasSlot m_sheetBits m_sheetSize m_sheets m_fresh m_rootWhich m_signs m_atNought m_change m_table m_carried nw u fi aa bb dd ro db mn px py (if (nI ki) = 1 then 1 else 0) 1 H.size) (cwV 4 hts gX8_move_X8_slopeAt rfl rfl rfl hv_X8_slopeAt (yk_room hRf hRl rfl rfl)) (yk_pv (q := (RX8, TX8, 23)) hG hA hS hK hP hD [0, 1] (by decide +kernel) rfl rfl rfl) rfl rfl hl.1 rfl (lv_room (Nat.le_of_ble_eq_true rfl)) dX8_move_123 ⟨Nat.zero_le _, Nat.zero_le _⟩) hP hD hS hA rfl (Eq.trans (b := [ta, m_now]) rfl rfl) (fun H locs hP9 hD9 hS9 => ?_)
              replace hP : va_P D vwCl [(ta, .inr (8, [.ref m_now, .ref m_undone, .ref m_slots, .ref m_slotKind, .ref m_hasSlot, .ref m_sheetBits, .ref m_sheetSize, .ref m_sheets, .int (nI u), .int fi, .ref m_fresh, .long aa, .long bb, .long dd, .int (nI ro), .ref m_rootWhich, .int db, .ref m_signs, .ref m_atNought, .int (nI mn), .ref m_change, .ref m_table, .ref m_carried])), (m_now, .inl (cy 0, 29, .inl nw)), (m_undone, .inl (cy 0, 725, .inl un)), (m_fresh, .inl (cy 0, 12, .inl (upd (upd (l_X8_move_37 nw un u fi fr px py ki zfresh_17 (6 - 3 + 1) 3 zfresh_17) (6 * ki) (f_X8_speedAt nw px py (if (nI ki) = 1 then 1 else 0))) ((6 * ki) + 1) (f_X8_slopeAt nw px py (if (nI ki) = 1 then 1 else 0) 0))))] H := hP9
              replace hD : va_D A [(ta, .inr (8, [.ref m_now, .ref m_undone, .ref m_slots, .ref m_slotKind, .ref m_hasSlot, .ref m_sheetBits, .ref m_sheetSize, .ref m_sheets, .int (nI u), .int fi, .ref m_fresh, .long aa, .long bb, .long dd, .int (nI ro), .ref m_rootWhich, .int db, .ref m_signs, .ref m_atNought, .int (nI mn), .ref m_change, .ref m_table, .ref m_carried])), (m_now, .inl (cy 0, 29, .inl nw)), (m_undone, .inl (cy 0, 725, .inl un)), (m_fresh, .inl (cy 0, 12, .inl (upd (upd (l_X8_move_37 nw un u fi fr px py ki zfresh_17 (6 - 3 + 1) 3 zfresh_17) (6 * ki) (f_X8_speedAt nw px py (if (nI ki) = 1 then 1 else 0))) ((6 * ki) + 1) (f_X8_slopeAt nw px py (if (nI ki) = 1 then 1 else 0) 0))))] := hD9
              replace hS := hS9
              clear hP9 hD9 hS9
              refine yk_ist hx hb hK hP hD hS 3 0 rfl rfl ((6 * ki) + 2) (by omega) (by decide) dX8_move_126 (fun H locs hP9 hD9 hS9 => ?_)
              replace hP : va_P D vwCl [(ta, .inr (8, [.ref m_now, .ref m_undone, .ref m_slots, .ref m_slotKind, .ref m_hasSlot, .ref m_sheetBits, .ref m_sheetSize, .ref m_sheets, .int (nI u), .int fi, .ref m_fresh, .long aa, .long bb, .long dd, .int (nI ro), .ref m_rootWhich, .int db, .ref m_signs, .ref m_atNought, .int (nI mn), .ref m_change, .ref m_table, .ref m_carried])), (m_now, .inl (cy 0, 29, .inl nw)), (m_undone, .inl (cy 0, 725, .inl un)), (m_fresh, .inl (cy 0, 12, .inl (upd (upd (upd (l_X8_move_37 nw un u fi fr px py ki zfresh_17 (6 - 3 + 1) 3 zfresh_17) (6 * ki) (f_X8_speedAt nw px py (if (nI ki) = 1 then 1 else 0))) ((6 * ki) + 1) (f_X8_slopeAt nw px py (if (nI ki) = 1 then 1 else 0) 0)) ((6 * ki) + 2) (f_X8_slopeAt nw px py (if (nI ki) = 1 then 1 else 0) 1))))] H := hP9
              replace hD : va_D A [(ta, .inr (8, [.ref m_now, .ref m_undone, .ref m_slots, .ref m_slotKind, .ref m_hasSlot, .ref m_sheetBits, .ref m_sheetSize, .ref m_sheets, .int (nI u), .int fi, .ref m_fresh, .long aa, .long bb, .long dd, .int (nI ro), .ref m_rootWhich, .int db, .ref m_signs, .ref m_atNought, .int (nI mn), .ref m_change, .ref m_table, .ref m_carried])), (m_now, .inl (cy 0, 29, .inl nw)), (m_undone, .inl (cy 0, 725, .inl un)), (m_fresh, .inl (cy 0, 12, .inl (upd (upd (upd (l_X8_move_37 nw un u fi fr px py ki zfresh_17 (6 - 3 + 1) 3 zfresh_17) (6 * ki) (f_X8_speedAt nw px py (if (nI ki) = 1 then 1 else 0))) ((6 * ki) + 1) (f_X8_slopeAt nw px py (if (nI ki) = 1 then 1 else 0) 0)) ((6 * ki) + 2) (f_X8_slopeAt nw px py (if (nI ki) = 1 then 1 else 0) 1))))] := hD9
              replace hS := hS9
              clear hP9 hD9 hS9
              refine lv_iinc (v := nI (ki + 1)) (lv' := [(3, .int (nI (ki + 1))), (0, .ref ta), (1, .int px), (2, .int py), (4, .int (if (nI ki) = 1 then 1 else 0))]) hx hb dX8_move_127 hl (k := 3) rfl (yk_inc ki) (by decide) rfl (fun ls hl9 => ?_)
              replace hl := hl9
              clear hl9
              refine lv_goto (tgt := 17) hx hb dX8_move_130 (by decide) ?_
              obtain ⟨n9, rfl⟩ : ∃ n9, n17 = n9 + 1 := ⟨n17 - 1, by omega⟩
              exact ih17 n9 (ki + 1) (upd (upd (upd (l_X8_move_37 nw un u fi fr px py ki zfresh_17 (6 - 3 + 1) 3 zfresh_17) (6 * ki) (f_X8_speedAt nw px py (if (nI ki) = 1 then 1 else 0))) ((6 * ki) + 1) (f_X8_slopeAt nw px py (if (nI ki) = 1 then 1 else 0) 0)) ((6 * ki) + 2) (f_X8_slopeAt nw px py (if (nI ki) = 1 then 1 else 0) 1)) _ _ _ (by omega) (by omega)  hV17 hP hD hS (lv_sub hl [1, 2, 3, 0] rfl)
            have L37 : ∀ (M9 n37 kj : Nat) (zfresh_37 : Nat → Int32) (H : Heap) (locs : List Loc) (ls : Array Slot), n37 < M9 → kj + n37 = 6 → (l_X8_move_37 nw un u fi fr px py ki zfresh_17 (6 - 3 + 1) 3 zfresh_17) = (l_X8_move_37 nw un u fi fr px py ki zfresh_17 (n37 + 1) kj zfresh_37) → va_P D vwCl [(ta, .inr (8, [.ref m_now, .ref m_undone, .ref m_slots, .ref m_slotKind, .ref m_hasSlot, .ref m_sheetBits, .ref m_sheetSize, .ref m_sheets, .int (nI u), .int fi, .ref m_fresh, .long aa, .long bb, .long dd, .int (nI ro), .ref m_rootWhich, .int db, .ref m_signs, .ref m_atNought, .int (nI mn), .ref m_change, .ref m_table, .ref m_carried])), (m_now, .inl (cy 0, 29, .inl nw)), (m_undone, .inl (cy 0, 725, .inl un)), (m_fresh, .inl (cy 0, 12, .inl zfresh_37))] H → va_D A [(ta, .inr (8, [.ref m_now, .ref m_undone, .ref m_slots, .ref m_slotKind, .ref m_hasSlot, .ref m_sheetBits, .ref m_sheetSize, .ref m_sheets, .int (nI u), .int fi, .ref m_fresh, .long aa, .long bb, .long dd, .int (nI ro), .ref m_rootWhich, .int db, .ref m_signs, .ref m_atNought, .int (nI mn), .ref m_change, .ref m_table, .ref m_carried])), (m_now, .inl (cy 0, 29, .inl nw)), (m_undone, .inl (cy 0, 725, .inl un)), (m_fresh, .inl (cy 0, 12, .inl zfresh_37))] → va_S A s.heap H locs → lv_has ls 6 [(0, .ref ta), (1, .int px), (2, .int py), (3, .int (nI ki)), (4, .int (if (nI ki) = 1 then 1 else 0)), (5, .int (nI kj))] → W p l e R s m args below meth c H locs 0 0 Q (F0 m 37 ls []) := by
              clear hP hD hS hl
              intro M9
              induction M9 with
              | zero => intro n37 kj _ _ _ _ hn; exact absurd hn (Nat.not_lt_zero _)
              | succ M9 ih37 =>
                intro n37 kj zfresh_37 H locs ls hn37 hk37 hV37 hP hD hS hl
                refine lv_iload hx hb dX8_move_37 (lv_at hl 5 rfl) ?_
                refine lv_bipush (v := 6) hx hb dX8_move_39 (by decide) ?_
                refine lv_icmp_ge (tgt := 70) hx hb dX8_move_41 (by decide) (fun hc14 => ?_) (fun hc14 => ?_)
                · replace hV37 := hV37.trans (if_pos hc14)
                  have hV37 : (l_X8_move_37 nw un u fi fr px py ki zfresh_17 (6 - 3 + 1) 3 zfresh_17) = zfresh_37 := hV37
                  have J15 := J15
                  rw [hV37] at J15
                  exact J15 _ _ _ hP hD hS (lv_sub hl [0, 1, 2, 3, 4] rfl)
                · replace hV37 := hV37.trans (if_neg hc14)
                  have hlt37 : kj < 6 := yk_lt hk37 (by omega) hc14
                  refine lv_aload_n hx hb dX8_move_44 rfl (lv_at hl 0 rfl) ?_
                  refine va_get (D := D) (ci := 8) (v := .ref m_fresh) (C := RX8) (T := TX8) (N := 23) hx hb hts uX8_move_X8 hown hK hP 0 rfl rfl 10 (by decide) (hts _ kX8_move_0) (fun _ h9 => h9) rfl dX8_move_45 ?_
                  refine lv_bipush (v := 6) hx hb dX8_move_48 (by decide) ?_
                  refine lv_iload_n hx hb dX8_move_50 rfl (lv_at hl 3 rfl) ?_
                  refine lv_imul hx hb dX8_move_51 ?_
                  refine yk_ti (y := nI (6 * ki)) (pk_mul 6 ki) ?_
                  refine lv_iload hx hb dX8_move_52 (lv_at hl 5 rfl) ?_
                  refine lv_iadd hx hb dX8_move_54 ?_
                  refine yk_ti (y := nI ((6 * ki) + kj)) (nI_add (6 * ki) kj) ?_
                  refine lv_aload_n hx hb dX8_move_55 rfl (lv_at hl 0 rfl) ?_
                  refine lv_iload hx hb dX8_move_56 (lv_at hl 4 rfl) ?_
                  refine lv_iload hx hb dX8_move_58 (lv_at hl 5 rfl) ?_
                  refine yk_i [0, 1] (va_runV (As := [.int (if (nI ki) = 1 then 1 else 0), .int (nI kj)]) (rest := [.int (nI ((6 * ki) + kj)), .ref m_fresh]) ⟨hx, hb, hml, hown, hts⟩ (c_X8_get l D cy ta m_now m_undone m_slots m_slotKind m_hasSlot m_sheetBits m_sheetSize m_sheets m_fresh m_rootWhich m_signs m_atNought m_change m_table m_carried nw u fi aa bb dd ro db mn (if (nI ki) = 1 then 1 else 0) kj (by omega) H.size) (cwV 2 hts gX8_move_X8_get rfl rfl rfl hv_X8_get (yk_room hRf hRl rfl rfl)) (yk_pv (q := (RX8, TX8, 23)) hG hA hS hK hP hD [0, 1] (by decide +kernel) rfl rfl rfl) rfl rfl hl.1 rfl (lv_room (Nat.le_of_ble_eq_true rfl)) dX8_move_60 ⟨Nat.zero_le _, Nat.zero_le _⟩) hP hD hS hA rfl (Eq.trans (b := [ta, m_now]) rfl rfl) (fun H locs hP9 hD9 hS9 => ?_)
                  replace hP : va_P D vwCl [(ta, .inr (8, [.ref m_now, .ref m_undone, .ref m_slots, .ref m_slotKind, .ref m_hasSlot, .ref m_sheetBits, .ref m_sheetSize, .ref m_sheets, .int (nI u), .int fi, .ref m_fresh, .long aa, .long bb, .long dd, .int (nI ro), .ref m_rootWhich, .int db, .ref m_signs, .ref m_atNought, .int (nI mn), .ref m_change, .ref m_table, .ref m_carried])), (m_now, .inl (cy 0, 29, .inl nw)), (m_undone, .inl (cy 0, 725, .inl un)), (m_fresh, .inl (cy 0, 12, .inl zfresh_37))] H := hP9
                  replace hD : va_D A [(ta, .inr (8, [.ref m_now, .ref m_undone, .ref m_slots, .ref m_slotKind, .ref m_hasSlot, .ref m_sheetBits, .ref m_sheetSize, .ref m_sheets, .int (nI u), .int fi, .ref m_fresh, .long aa, .long bb, .long dd, .int (nI ro), .ref m_rootWhich, .int db, .ref m_signs, .ref m_atNought, .int (nI mn), .ref m_change, .ref m_table, .ref m_carried])), (m_now, .inl (cy 0, 29, .inl nw)), (m_undone, .inl (cy 0, 725, .inl un)), (m_fresh, .inl (cy 0, 12, .inl zfresh_37))] := hD9
                  replace hS := hS9
                  clear hP9 hD9 hS9
                  refine yk_ist hx hb hK hP hD hS 3 0 rfl rfl ((6 * ki) + kj) (by omega) (by decide) dX8_move_63 (fun H locs hP9 hD9 hS9 => ?_)
                  replace hP : va_P D vwCl [(ta, .inr (8, [.ref m_now, .ref m_undone, .ref m_slots, .ref m_slotKind, .ref m_hasSlot, .ref m_sheetBits, .ref m_sheetSize, .ref m_sheets, .int (nI u), .int fi, .ref m_fresh, .long aa, .long bb, .long dd, .int (nI ro), .ref m_rootWhich, .int db, .ref m_signs, .ref m_atNought, .int (nI mn), .ref m_change, .ref m_table, .ref m_carried])), (m_now, .inl (cy 0, 29, .inl nw)), (m_undone, .inl (cy 0, 725, .inl un)), (m_fresh, .inl (cy 0, 12, .inl (upd zfresh_37 ((6 * ki) + kj) (f_X8_get nw (if (nI ki) = 1 then 1 else 0) kj))))] H := hP9
                  replace hD : va_D A [(ta, .inr (8, [.ref m_now, .ref m_undone, .ref m_slots, .ref m_slotKind, .ref m_hasSlot, .ref m_sheetBits, .ref m_sheetSize, .ref m_sheets, .int (nI u), .int fi, .ref m_fresh, .long aa, .long bb, .long dd, .int (nI ro), .ref m_rootWhich, .int db, .ref m_signs, .ref m_atNought, .int (nI mn), .ref m_change, .ref m_table, .ref m_carried])), (m_now, .inl (cy 0, 29, .inl nw)), (m_undone, .inl (cy 0, 725, .inl un)), (m_fresh, .inl (cy 0, 12, .inl (upd zfresh_37 ((6 * ki) + kj) (f_X8_get nw (if (nI ki) = 1 then 1 else 0) kj))))] := hD9
                  replace hS := hS9
                  clear hP9 hD9 hS9
                  refine lv_iinc (v := nI (kj + 1)) (lv' := [(5, .int (nI (kj + 1))), (0, .ref ta), (1, .int px), (2, .int py), (3, .int (nI ki)), (4, .int (if (nI ki) = 1 then 1 else 0))]) hx hb dX8_move_64 hl (k := 5) rfl (yk_inc kj) (by decide) rfl (fun ls hl9 => ?_)
                  replace hl := hl9
                  clear hl9
                  refine lv_goto (tgt := 37) hx hb dX8_move_67 (by decide) ?_
                  obtain ⟨n9, rfl⟩ : ∃ n9, n37 = n9 + 1 := ⟨n37 - 1, by omega⟩
                  exact ih37 n9 (kj + 1) (upd zfresh_37 ((6 * ki) + kj) (f_X8_get nw (if (nI ki) = 1 then 1 else 0) kj)) _ _ _ (by omega) (by omega)  hV37 hP hD hS (lv_sub hl [1, 2, 3, 4, 5, 0] rfl)
            exact L37 ((6 - 3) + 1) (6 - 3) 3 zfresh_17 _ _ _ (Nat.lt_succ_self _) (by omega)  rfl hP hD hS (lv_sub hl [2, 3, 4, 5, 1, 0] rfl)
          refine lv_icmp_ne (tgt := 31) hx hb dX8_move_24 (by decide) (fun hc10 => ?_) (fun hc10 => ?_)
          · refine lv_iconst (v := 0) hx hb dX8_move_31 (by decide) ?_
            exact J12 _ _ _ _ ((if_neg hc10).symm) hP hD hS (lv_sub hl [0, 1, 2, 3] rfl)
          · refine lv_iconst (v := 1) hx hb dX8_move_27 (by decide) ?_
            refine lv_goto (tgt := 32) hx hb dX8_move_28 (by decide) ?_
            exact J12 _ _ _ _ ((if_pos hc10).symm) hP hD hS (lv_sub hl [0, 1, 2, 3] rfl)
    exact L17 (2 + 1) 2 0 fr _ _ _ (Nat.lt_succ_self _) (by omega)  rfl hP hD hS (lv_sub hl [1, 2, 3, 0] rfl)
  · replace hF := hF.trans (if_pos hc1)
    refine lv_aload_n hx hb dX8_move_8 rfl (lv_at hl 0 rfl) ?_
    refine lv_ldc (v := (-1000001)) hx hb hown (hts _ kX8_move_2) dX8_move_9 ?_
    refine yk_i [0] (va_runV (As := [.int (-1000001)]) (rest := []) ⟨hx, hb, hml, hown, hts⟩ (c_X8_found l D cy ta m_now m_undone m_slots m_slotKind m_hasSlot m_sheetBits m_sheetSize m_sheets m_fresh m_rootWhich m_signs m_atNought m_change m_table m_carried u fi aa bb dd ro db mn (-1000001) H.size) (cwV 1 hts gX8_move_X8_found rfl rfl rfl hv_X8_found (yk_room hRf hRl rfl rfl)) (yk_pv (q := (RX8, TX8, 23)) hG hA hS hK hP hD [0] (by decide +kernel) rfl rfl rfl) rfl rfl hl.1 rfl (lv_room (Nat.le_of_ble_eq_true rfl)) dX8_move_11 ⟨Nat.zero_le _, Nat.zero_le _⟩) hP hD hS hA rfl (Eq.trans (b := [ta]) rfl rfl) (fun H locs hP9 hD9 hS9 => ?_)
    replace hP : va_P D vwCl [(ta, .inr (8, [.ref m_now, .ref m_undone, .ref m_slots, .ref m_slotKind, .ref m_hasSlot, .ref m_sheetBits, .ref m_sheetSize, .ref m_sheets, .int (nI u), .int ((f_X8_found fi (-1000001)).2), .ref m_fresh, .long aa, .long bb, .long dd, .int (nI ro), .ref m_rootWhich, .int db, .ref m_signs, .ref m_atNought, .int (nI mn), .ref m_change, .ref m_table, .ref m_carried])), (m_now, .inl (cy 0, 29, .inl nw)), (m_undone, .inl (cy 0, 725, .inl un)), (m_fresh, .inl (cy 0, 12, .inl fr))] H := hP9
    replace hD : va_D A [(ta, .inr (8, [.ref m_now, .ref m_undone, .ref m_slots, .ref m_slotKind, .ref m_hasSlot, .ref m_sheetBits, .ref m_sheetSize, .ref m_sheets, .int (nI u), .int ((f_X8_found fi (-1000001)).2), .ref m_fresh, .long aa, .long bb, .long dd, .int (nI ro), .ref m_rootWhich, .int db, .ref m_signs, .ref m_atNought, .int (nI mn), .ref m_change, .ref m_table, .ref m_carried])), (m_now, .inl (cy 0, 29, .inl nw)), (m_undone, .inl (cy 0, 725, .inl un)), (m_fresh, .inl (cy 0, 12, .inl fr))] := hD9
    replace hS := hS9
    clear hP9 hD9 hS9
    have hF : f_X8_move nw un u fi fr px py = (((f_X8_found fi (-1000001)).1), u, ((f_X8_found fi (-1000001)).2), nw, un, fr) := hF
    have hf0 := yk_fst hF
    have hg0 := yk_snd hF
    have hf1 := yk_fst hg0
    have hg1 := yk_snd hg0
    have hf2 := yk_fst hg1
    have hg2 := yk_snd hg1
    have hf3 := yk_fst hg2
    have hg3 := yk_snd hg2
    have hf4 := yk_fst hg3
    have hg4 := yk_snd hg3
    rw [hf0, hf1, hf2, hf3, hf4, hg4] at hQ
    exact hQ _ _ _ _ dX8_move_14 hP hS

theorem kX8_add_0 : Cond.constant RX8 68 (-1000001) ∈ wsX8_add := by decide +kernel
theorem kX8_add_1 : Cond.fieldLink RX8 22 "FlowPlaneModel" "hasSlot" "[Z" ∈ wsX8_add := by decide +kernel
theorem kX8_add_2 : Cond.fieldLink RX8 35 "FlowPlaneModel" "fresh" "[I" ∈ wsX8_add := by decide +kernel
theorem kX8_add_3 : Cond.fieldLink RX8 7 "FlowPlaneModel" "now" "[I" ∈ wsX8_add := by decide +kernel
theorem kX8_add_4 : Cond.fieldLink RX8 16 "FlowPlaneModel" "slots" "[I" ∈ wsX8_add := by decide +kernel
theorem kX8_add_5 : Cond.constant RX8 99 (-1000003) ∈ wsX8_add := by decide +kernel
theorem kX8_add_6 : Cond.constant RX8 100 (-1000006) ∈ wsX8_add := by decide +kernel
theorem uX8_add_X8 : ∀ w ∈ u_ws RX8 TX8 23, w ∈ wsX8_add := by decide +kernel
def l_X8_add_44 (nw : Nat → Int32) (un : Nat → Int32) (sl : Nat → Int32) (hs : Nat → Int32) (u : Nat) (fi : Int32) (fr : Nat → Int32) (px : Int32) (py : Int32) : Nat → Nat → (Nat → Int32) → (Nat → Int32)
  | 0, ki, zfresh_44 => zfresh_44
  | fu_X8_add_44 + 1, ki, zfresh_44 => (if 12 ≤ (nI ki) then zfresh_44 else (l_X8_add_44 nw un sl hs u fi fr px py fu_X8_add_44 (ki + 1) (upd zfresh_44 ki ((nw ki) + (py * (sl ((12 * px.toNatClampNeg) + ki)))))))
def f_X8_add (nw : Nat → Int32) (un : Nat → Int32) (sl : Nat → Int32) (hs : Nat → Int32) (u : Nat) (fi : Int32) (fr : Nat → Int32) (px : Int32) (py : Int32) : Int32 × Nat × Int32 × (Nat → Int32) × (Nat → Int32) × (Nat → Int32) := (if (f_X8_in px 0 3) = 0 then (((f_X8_found fi (-1000001)).1), u, ((f_X8_found fi (-1000001)).2), nw, un, fr) else (if (f_X8_in py (-4) 4) = 0 then (((f_X8_found fi (-1000001)).1), u, ((f_X8_found fi (-1000001)).2), nw, un, fr) else (if (hs px.toNatClampNeg) = 0 then (((f_X8_found fi (-1000006)).1), u, ((f_X8_found fi (-1000006)).2), nw, un, fr) else (if (f_X8_isSmall (l_X8_add_44 nw un sl hs u fi fr px py (12 + 1) 0 fr)) = 0 then (((f_X8_found fi (-1000003)).1), u, ((f_X8_found fi (-1000003)).2), nw, un, (l_X8_add_44 nw un sl hs u fi fr px py (12 + 1) 0 fr)) else (1, ((f_X8_remember nw un u).1), fi, (f_X8_take nw (l_X8_add_44 nw un sl hs u fi fr px py (12 + 1) 0 fr)), ((f_X8_remember nw un u).2), (l_X8_add_44 nw un sl hs u fi fr px py (12 + 1) 0 fr))))))
set_option maxHeartbeats 400000000 in
set_option maxRecDepth 100000 in
theorem c_X8_add (l : Launch) (D : va_G) (cy : Nat → ClassId) (ta : Nat) (m_now : Nat) (m_undone : Nat) (m_slots : Nat) (m_hasSlot : Nat) (m_fresh : Nat) (m_slotKind : Nat) (m_sheetBits : Nat) (m_sheetSize : Nat) (m_sheets : Nat) (m_rootWhich : Nat) (m_signs : Nat) (m_atNought : Nat) (m_change : Nat) (m_table : Nat) (m_carried : Nat) (nw : Nat → Int32) (un : Nat → Int32) (sl : Nat → Int32) (hs : Nat → Int32) (u : Nat) (fi : Int32) (fr : Nat → Int32) (aa : Int64) (bb : Int64) (dd : Int64) (ro : Nat) (db : Int32) (mn : Nat) (px : Int32) (py : Int32) (hu : u ≤ 25) : yk_Ci l D vwCl (yk_ty cy) yX8_add wsX8_add 2 43 [.ref ta, .int px, .int py] [(ta, .inr (8, [.ref m_now, .ref m_undone, .ref m_slots, .ref m_slotKind, .ref m_hasSlot, .ref m_sheetBits, .ref m_sheetSize, .ref m_sheets, .int (nI u), .int fi, .ref m_fresh, .long aa, .long bb, .long dd, .int (nI ro), .ref m_rootWhich, .int db, .ref m_signs, .ref m_atNought, .int (nI mn), .ref m_change, .ref m_table, .ref m_carried])), (m_now, .inl (cy 0, 29, .inl nw)), (m_undone, .inl (cy 0, 725, .inl un)), (m_slots, .inl (cy 0, 48, .inl sl)), (m_hasSlot, .inl (cy 2, 4, .inl hs)), (m_fresh, .inl (cy 0, 12, .inl fr))] ((f_X8_add nw un sl hs u fi fr px py).1) [(ta, .inr (8, [.ref m_now, .ref m_undone, .ref m_slots, .ref m_slotKind, .ref m_hasSlot, .ref m_sheetBits, .ref m_sheetSize, .ref m_sheets, .int (nI ((f_X8_add nw un sl hs u fi fr px py).2.1)), .int ((f_X8_add nw un sl hs u fi fr px py).2.2.1), .ref m_fresh, .long aa, .long bb, .long dd, .int (nI ro), .ref m_rootWhich, .int db, .ref m_signs, .ref m_atNought, .int (nI mn), .ref m_change, .ref m_table, .ref m_carried])), (m_now, .inl (cy 0, 29, .inl ((f_X8_add nw un sl hs u fi fr px py).2.2.2.1))), (m_undone, .inl (cy 0, 725, .inl ((f_X8_add nw un sl hs u fi fr px py).2.2.2.2.1))), (m_slots, .inl (cy 0, 48, .inl sl)), (m_hasSlot, .inl (cy 2, 4, .inl hs)), (m_fresh, .inl (cy 0, 12, .inl ((f_X8_add nw un sl hs u fi fr px py).2.2.2.2.2)))] := by
  refine yk_eI (cc := cX8_add) (maxL := 4) (by decide) rfl (Nat.le_of_ble_eq_true rfl) rfl ?_
  intro p e R s m args below meth c A Q ls H locs hx hb hml hown hts hRf hRl hA hK hG hP hD hS hl hQ
  have hP : va_P D vwCl [(ta, .inr (8, [.ref m_now, .ref m_undone, .ref m_slots, .ref m_slotKind, .ref m_hasSlot, .ref m_sheetBits, .ref m_sheetSize, .ref m_sheets, .int (nI u), .int fi, .ref m_fresh, .long aa, .long bb, .long dd, .int (nI ro), .ref m_rootWhich, .int db, .ref m_signs, .ref m_atNought, .int (nI mn), .ref m_change, .ref m_table, .ref m_carried])), (m_now, .inl (cy 0, 29, .inl nw)), (m_undone, .inl (cy 0, 725, .inl un)), (m_slots, .inl (cy 0, 48, .inl sl)), (m_hasSlot, .inl (cy 2, 4, .inl hs)), (m_fresh, .inl (cy 0, 12, .inl fr))] H := hP
  have hl : lv_has ls 4 [(0, .ref ta), (1, .int px), (2, .int py)] := hl
  have hown : s.vm.findClass RX8 = some m.cls := hown
  have hF : (f_X8_add nw un sl hs u fi fr px py) = (f_X8_add nw un sl hs u fi fr px py) := rfl
  refine lv_iload_n hx hb dX8_add_0 rfl (lv_at hl 1 rfl) ?_
  refine lv_iconst (v := 0) hx hb dX8_add_1 (by decide) ?_
  refine lv_iconst (v := 3) hx hb dX8_add_2 (by decide) ?_
  refine yk_i [] (va_runS (As := [.int px, .int 0, .int 3]) (rest := []) ⟨hx, hb, hml, hown, hts⟩ (c_X8_in l D cy px 0 3 H.size) (va_cwS 3 hts gX8_add_X8_in rfl rfl rfl hs_X8_in (yk_room hRf hRl rfl rfl)) (yk_ps hG hA hS hK hP hD [] (by decide +kernel) rfl) rfl rfl hl.1 rfl (lv_room (Nat.le_of_ble_eq_true rfl)) dX8_add_3 ⟨Nat.zero_le _, Nat.zero_le _⟩) hP hD hS hA rfl rfl (fun H locs hP9 hD9 hS9 => ?_)
  replace hP : va_P D vwCl [(ta, .inr (8, [.ref m_now, .ref m_undone, .ref m_slots, .ref m_slotKind, .ref m_hasSlot, .ref m_sheetBits, .ref m_sheetSize, .ref m_sheets, .int (nI u), .int fi, .ref m_fresh, .long aa, .long bb, .long dd, .int (nI ro), .ref m_rootWhich, .int db, .ref m_signs, .ref m_atNought, .int (nI mn), .ref m_change, .ref m_table, .ref m_carried])), (m_now, .inl (cy 0, 29, .inl nw)), (m_undone, .inl (cy 0, 725, .inl un)), (m_slots, .inl (cy 0, 48, .inl sl)), (m_hasSlot, .inl (cy 2, 4, .inl hs)), (m_fresh, .inl (cy 0, 12, .inl fr))] H := hP9
  replace hD : va_D A [(ta, .inr (8, [.ref m_now, .ref m_undone, .ref m_slots, .ref m_slotKind, .ref m_hasSlot, .ref m_sheetBits, .ref m_sheetSize, .ref m_sheets, .int (nI u), .int fi, .ref m_fresh, .long aa, .long bb, .long dd, .int (nI ro), .ref m_rootWhich, .int db, .ref m_signs, .ref m_atNought, .int (nI mn), .ref m_change, .ref m_table, .ref m_carried])), (m_now, .inl (cy 0, 29, .inl nw)), (m_undone, .inl (cy 0, 725, .inl un)), (m_slots, .inl (cy 0, 48, .inl sl)), (m_hasSlot, .inl (cy 2, 4, .inl hs)), (m_fresh, .inl (cy 0, 12, .inl fr))] := hD9
  replace hS := hS9
  clear hP9 hD9 hS9
  refine lv_if_eq (tgt := 19) hx hb dX8_add_6 (by decide) (fun hc1 => ?_) (fun hc1 => ?_)
  · replace hF := hF.trans (if_pos hc1)
    refine lv_aload_n hx hb dX8_add_19 rfl (lv_at hl 0 rfl) ?_
    refine lv_ldc (v := (-1000001)) hx hb hown (hts _ kX8_add_0) dX8_add_20 ?_
    refine yk_i [0] (va_runV (As := [.int (-1000001)]) (rest := []) ⟨hx, hb, hml, hown, hts⟩ (c_X8_found l D cy ta m_now m_undone m_slots m_slotKind m_hasSlot m_sheetBits m_sheetSize m_sheets m_fresh m_rootWhich m_signs m_atNought m_change m_table m_carried u fi aa bb dd ro db mn (-1000001) H.size) (cwV 1 hts gX8_add_X8_found rfl rfl rfl hv_X8_found (yk_room hRf hRl rfl rfl)) (yk_pv (q := (RX8, TX8, 23)) hG hA hS hK hP hD [0] (by decide +kernel) rfl rfl rfl) rfl rfl hl.1 rfl (lv_room (Nat.le_of_ble_eq_true rfl)) dX8_add_22 ⟨Nat.zero_le _, Nat.zero_le _⟩) hP hD hS hA rfl (Eq.trans (b := [ta]) rfl rfl) (fun H locs hP9 hD9 hS9 => ?_)
    replace hP : va_P D vwCl [(ta, .inr (8, [.ref m_now, .ref m_undone, .ref m_slots, .ref m_slotKind, .ref m_hasSlot, .ref m_sheetBits, .ref m_sheetSize, .ref m_sheets, .int (nI u), .int ((f_X8_found fi (-1000001)).2), .ref m_fresh, .long aa, .long bb, .long dd, .int (nI ro), .ref m_rootWhich, .int db, .ref m_signs, .ref m_atNought, .int (nI mn), .ref m_change, .ref m_table, .ref m_carried])), (m_now, .inl (cy 0, 29, .inl nw)), (m_undone, .inl (cy 0, 725, .inl un)), (m_slots, .inl (cy 0, 48, .inl sl)), (m_hasSlot, .inl (cy 2, 4, .inl hs)), (m_fresh, .inl (cy 0, 12, .inl fr))] H := hP9
    replace hD : va_D A [(ta, .inr (8, [.ref m_now, .ref m_undone, .ref m_slots, .ref m_slotKind, .ref m_hasSlot, .ref m_sheetBits, .ref m_sheetSize, .ref m_sheets, .int (nI u), .int ((f_X8_found fi (-1000001)).2), .ref m_fresh, .long aa, .long bb, .long dd, .int (nI ro), .ref m_rootWhich, .int db, .ref m_signs, .ref m_atNought, .int (nI mn), .ref m_change, .ref m_table, .ref m_carried])), (m_now, .inl (cy 0, 29, .inl nw)), (m_undone, .inl (cy 0, 725, .inl un)), (m_slots, .inl (cy 0, 48, .inl sl)), (m_hasSlot, .inl (cy 2, 4, .inl hs)), (m_fresh, .inl (cy 0, 12, .inl fr))] := hD9
    replace hS := hS9
    clear hP9 hD9 hS9
    have hF : f_X8_add nw un sl hs u fi fr px py = (((f_X8_found fi (-1000001)).1), u, ((f_X8_found fi (-1000001)).2), nw, un, fr) := hF
    have hf0 := yk_fst hF
    have hg0 := yk_snd hF
    have hf1 := yk_fst hg0
    have hg1 := yk_snd hg0
    have hf2 := yk_fst hg1
    have hg2 := yk_snd hg1
    have hf3 := yk_fst hg2
    have hg3 := yk_snd hg2
    have hf4 := yk_fst hg3
    have hg4 := yk_snd hg3
    rw [hf0, hf1, hf2, hf3, hf4, hg4] at hQ
    exact hQ _ _ _ _ dX8_add_25 hP hS
  · replace hF := hF.trans (if_neg hc1)
    refine lv_iload_n hx hb dX8_add_9 rfl (lv_at hl 2 rfl) ?_
    refine lv_bipush (v := (-4)) hx hb dX8_add_10 (by decide) ?_
    refine lv_iconst (v := 4) hx hb dX8_add_12 (by decide) ?_
    refine yk_i [] (va_runS (As := [.int py, .int (-4), .int 4]) (rest := []) ⟨hx, hb, hml, hown, hts⟩ (c_X8_in l D cy py (-4) 4 H.size) (va_cwS 3 hts gX8_add_X8_in rfl rfl rfl hs_X8_in (yk_room hRf hRl rfl rfl)) (yk_ps hG hA hS hK hP hD [] (by decide +kernel) rfl) rfl rfl hl.1 rfl (lv_room (Nat.le_of_ble_eq_true rfl)) dX8_add_13 ⟨Nat.zero_le _, Nat.zero_le _⟩) hP hD hS hA rfl rfl (fun H locs hP9 hD9 hS9 => ?_)
    replace hP : va_P D vwCl [(ta, .inr (8, [.ref m_now, .ref m_undone, .ref m_slots, .ref m_slotKind, .ref m_hasSlot, .ref m_sheetBits, .ref m_sheetSize, .ref m_sheets, .int (nI u), .int fi, .ref m_fresh, .long aa, .long bb, .long dd, .int (nI ro), .ref m_rootWhich, .int db, .ref m_signs, .ref m_atNought, .int (nI mn), .ref m_change, .ref m_table, .ref m_carried])), (m_now, .inl (cy 0, 29, .inl nw)), (m_undone, .inl (cy 0, 725, .inl un)), (m_slots, .inl (cy 0, 48, .inl sl)), (m_hasSlot, .inl (cy 2, 4, .inl hs)), (m_fresh, .inl (cy 0, 12, .inl fr))] H := hP9
    replace hD : va_D A [(ta, .inr (8, [.ref m_now, .ref m_undone, .ref m_slots, .ref m_slotKind, .ref m_hasSlot, .ref m_sheetBits, .ref m_sheetSize, .ref m_sheets, .int (nI u), .int fi, .ref m_fresh, .long aa, .long bb, .long dd, .int (nI ro), .ref m_rootWhich, .int db, .ref m_signs, .ref m_atNought, .int (nI mn), .ref m_change, .ref m_table, .ref m_carried])), (m_now, .inl (cy 0, 29, .inl nw)), (m_undone, .inl (cy 0, 725, .inl un)), (m_slots, .inl (cy 0, 48, .inl sl)), (m_hasSlot, .inl (cy 2, 4, .inl hs)), (m_fresh, .inl (cy 0, 12, .inl fr))] := hD9
    replace hS := hS9
    clear hP9 hD9 hS9
    refine lv_if_ne (tgt := 26) hx hb dX8_add_16 (by decide) (fun hc2 => ?_) (fun hc2 => ?_)
    · replace hF := hF.trans (if_neg hc2)
      have hq3 : px = nI px.toNatClampNeg := (ix_in (N := 4) (b := 3) (by decide) rfl (by decide) (by assumption)).1
      have hq3b : px.toNatClampNeg < 4 := (ix_in (N := 4) (b := 3) (by decide) rfl (by decide) (by assumption)).2
      rw [hq3] at hl
      refine lv_aload_n hx hb dX8_add_26 rfl (lv_at hl 0 rfl) ?_
      refine va_get (D := D) (ci := 8) (v := .ref m_hasSlot) (C := RX8) (T := TX8) (N := 23) hx hb hts uX8_add_X8 hown hK hP 0 rfl rfl 4 (by decide) (hts _ kX8_add_1) (fun _ h9 => h9) rfl dX8_add_27 ?_
      refine lv_iload_n hx hb dX8_add_30 rfl (lv_at hl 1 rfl) ?_
      refine yk_zld hx hb hK hP 4 2 rfl rfl px.toNatClampNeg (by omega) (by decide) dX8_add_31 ?_
      refine lv_if_ne (tgt := 42) hx hb dX8_add_32 (by decide) (fun hc4 => ?_) (fun hc4 => ?_)
      · replace hF := hF.trans (if_neg hc4)
        refine lv_iconst (v := 0) hx hb dX8_add_42 (by decide) ?_
        refine lv_istore_n (lv' := [(3, .int 0), (0, .ref ta), (1, .int (nI px.toNatClampNeg)), (2, .int py)]) hx hb dX8_add_43 rfl hl (by decide) rfl (fun ls hl9 => ?_)
        replace hl := hl9
        clear hl9
        have J7 : ∀ (H : Heap) (locs : List Loc) (ls : Array Slot), va_P D vwCl [(ta, .inr (8, [.ref m_now, .ref m_undone, .ref m_slots, .ref m_slotKind, .ref m_hasSlot, .ref m_sheetBits, .ref m_sheetSize, .ref m_sheets, .int (nI u), .int fi, .ref m_fresh, .long aa, .long bb, .long dd, .int (nI ro), .ref m_rootWhich, .int db, .ref m_signs, .ref m_atNought, .int (nI mn), .ref m_change, .ref m_table, .ref m_carried])), (m_now, .inl (cy 0, 29, .inl nw)), (m_undone, .inl (cy 0, 725, .inl un)), (m_slots, .inl (cy 0, 48, .inl sl)), (m_hasSlot, .inl (cy 2, 4, .inl hs)), (m_fresh, .inl (cy 0, 12, .inl (l_X8_add_44 nw un sl hs u fi fr px py (12 + 1) 0 fr)))] H → va_D A [(ta, .inr (8, [.ref m_now, .ref m_undone, .ref m_slots, .ref m_slotKind, .ref m_hasSlot, .ref m_sheetBits, .ref m_sheetSize, .ref m_sheets, .int (nI u), .int fi, .ref m_fresh, .long aa, .long bb, .long dd, .int (nI ro), .ref m_rootWhich, .int db, .ref m_signs, .ref m_atNought, .int (nI mn), .ref m_change, .ref m_table, .ref m_carried])), (m_now, .inl (cy 0, 29, .inl nw)), (m_undone, .inl (cy 0, 725, .inl un)), (m_slots, .inl (cy 0, 48, .inl sl)), (m_hasSlot, .inl (cy 2, 4, .inl hs)), (m_fresh, .inl (cy 0, 12, .inl (l_X8_add_44 nw un sl hs u fi fr px py (12 + 1) 0 fr)))] → va_S A s.heap H locs → lv_has ls 4 [(0, .ref ta), (1, .int (nI px.toNatClampNeg)), (2, .int py)] → W p l e R s m args below meth c H locs 0 0 Q (F0 m 82 ls []) := by
          clear hP hD hS hl
          intro H locs ls hP hD hS hl
          refine lv_aload_n hx hb dX8_add_82 rfl (lv_at hl 0 rfl) ?_
          refine yk_i [0, 5] (va_runV (As := []) (rest := []) ⟨hx, hb, hml, hown, hts⟩ (c_X8_isSmall l D cy ta m_fresh m_now m_undone m_slots m_slotKind m_hasSlot m_sheetBits m_sheetSize m_sheets m_rootWhich m_signs m_atNought m_change m_table m_carried u fi (l_X8_add_44 nw un sl hs u fi fr px py (12 + 1) 0 fr) aa bb dd ro db mn H.size) (cwV 0 hts gX8_add_X8_isSmall rfl rfl rfl hv_X8_isSmall (yk_room hRf hRl rfl rfl)) (yk_pv (q := (RX8, TX8, 23)) hG hA hS hK hP hD [0, 5] (by decide +kernel) rfl rfl rfl) rfl rfl hl.1 rfl (lv_room (Nat.le_of_ble_eq_true rfl)) dX8_add_83 ⟨Nat.zero_le _, Nat.zero_le _⟩) hP hD hS hA rfl (Eq.trans (b := [ta, m_fresh]) rfl rfl) (fun H locs hP9 hD9 hS9 => ?_)
          replace hP : va_P D vwCl [(ta, .inr (8, [.ref m_now, .ref m_undone, .ref m_slots, .ref m_slotKind, .ref m_hasSlot, .ref m_sheetBits, .ref m_sheetSize, .ref m_sheets, .int (nI u), .int fi, .ref m_fresh, .long aa, .long bb, .long dd, .int (nI ro), .ref m_rootWhich, .int db, .ref m_signs, .ref m_atNought, .int (nI mn), .ref m_change, .ref m_table, .ref m_carried])), (m_now, .inl (cy 0, 29, .inl nw)), (m_undone, .inl (cy 0, 725, .inl un)), (m_slots, .inl (cy 0, 48, .inl sl)), (m_hasSlot, .inl (cy 2, 4, .inl hs)), (m_fresh, .inl (cy 0, 12, .inl (l_X8_add_44 nw un sl hs u fi fr px py (12 + 1) 0 fr)))] H := hP9
          replace hD : va_D A [(ta, .inr (8, [.ref m_now, .ref m_undone, .ref m_slots, .ref m_slotKind, .ref m_hasSlot, .ref m_sheetBits, .ref m_sheetSize, .ref m_sheets, .int (nI u), .int fi, .ref m_fresh, .long aa, .long bb, .long dd, .int (nI ro), .ref m_rootWhich, .int db, .ref m_signs, .ref m_atNought, .int (nI mn), .ref m_change, .ref m_table, .ref m_carried])), (m_now, .inl (cy 0, 29, .inl nw)), (m_undone, .inl (cy 0, 725, .inl un)), (m_slots, .inl (cy 0, 48, .inl sl)), (m_hasSlot, .inl (cy 2, 4, .inl hs)), (m_fresh, .inl (cy 0, 12, .inl (l_X8_add_44 nw un sl hs u fi fr px py (12 + 1) 0 fr)))] := hD9
          replace hS := hS9
          clear hP9 hD9 hS9
          refine lv_if_ne (tgt := 96) hx hb dX8_add_86 (by decide) (fun hc8 => ?_) (fun hc8 => ?_)
          · replace hF := hF.trans (if_neg hc8)
            refine lv_aload_n hx hb dX8_add_96 rfl (lv_at hl 0 rfl) ?_
            refine yk_v [0, 1, 2] (va_runV (As := []) (rest := []) ⟨hx, hb, hml, hown, hts⟩ (c_X8_remember l D cy ta m_now m_undone m_slots m_slotKind m_hasSlot m_sheetBits m_sheetSize m_sheets m_fresh m_rootWhich m_signs m_atNought m_change m_table m_carried nw un u fi aa bb dd ro db mn hu H.size) (cwV 0 hts gX8_add_X8_remember rfl rfl rfl hv_X8_remember (yk_room hRf hRl rfl rfl)) (yk_pv (q := (RX8, TX8, 23)) hG hA hS hK hP hD [0, 1, 2] (by decide +kernel) rfl rfl rfl) rfl rfl hl.1 rfl (lv_room (Nat.le_of_ble_eq_true rfl)) dX8_add_97 ⟨Nat.zero_le _, Nat.zero_le _⟩) hP hD hS hA rfl (Eq.trans (b := [ta, m_now, m_undone]) rfl rfl) (fun H locs hP9 hD9 hS9 => ?_)
            replace hP : va_P D vwCl [(ta, .inr (8, [.ref m_now, .ref m_undone, .ref m_slots, .ref m_slotKind, .ref m_hasSlot, .ref m_sheetBits, .ref m_sheetSize, .ref m_sheets, .int (nI ((f_X8_remember nw un u).1)), .int fi, .ref m_fresh, .long aa, .long bb, .long dd, .int (nI ro), .ref m_rootWhich, .int db, .ref m_signs, .ref m_atNought, .int (nI mn), .ref m_change, .ref m_table, .ref m_carried])), (m_now, .inl (cy 0, 29, .inl nw)), (m_undone, .inl (cy 0, 725, .inl ((f_X8_remember nw un u).2))), (m_slots, .inl (cy 0, 48, .inl sl)), (m_hasSlot, .inl (cy 2, 4, .inl hs)), (m_fresh, .inl (cy 0, 12, .inl (l_X8_add_44 nw un sl hs u fi fr px py (12 + 1) 0 fr)))] H := hP9
            replace hD : va_D A [(ta, .inr (8, [.ref m_now, .ref m_undone, .ref m_slots, .ref m_slotKind, .ref m_hasSlot, .ref m_sheetBits, .ref m_sheetSize, .ref m_sheets, .int (nI ((f_X8_remember nw un u).1)), .int fi, .ref m_fresh, .long aa, .long bb, .long dd, .int (nI ro), .ref m_rootWhich, .int db, .ref m_signs, .ref m_atNought, .int (nI mn), .ref m_change, .ref m_table, .ref m_carried])), (m_now, .inl (cy 0, 29, .inl nw)), (m_undone, .inl (cy 0, 725, .inl ((f_X8_remember nw un u).2))), (m_slots, .inl (cy 0, 48, .inl sl)), (m_hasSlot, .inl (cy 2, 4, .inl hs)), (m_fresh, .inl (cy 0, 12, .inl (l_X8_add_44 nw un sl hs u fi fr px py (12 + 1) 0 fr)))] := hD9
            replace hS := hS9
            clear hP9 hD9 hS9
            refine lv_aload_n hx hb dX8_add_100 rfl (lv_at hl 0 rfl) ?_
            refine yk_v [0, 1, 5] (va_runV (As := []) (rest := []) ⟨hx, hb, hml, hown, hts⟩ (c_X8_take l D cy ta m_now m_fresh m_undone m_slots m_slotKind m_hasSlot m_sheetBits m_sheetSize m_sheets m_rootWhich m_signs m_atNought m_change m_table m_carried nw ((f_X8_remember nw un u).1) fi (l_X8_add_44 nw un sl hs u fi fr px py (12 + 1) 0 fr) aa bb dd ro db mn H.size) (cwV 0 hts gX8_add_X8_take rfl rfl rfl hv_X8_take (yk_room hRf hRl rfl rfl)) (yk_pv (q := (RX8, TX8, 23)) hG hA hS hK hP hD [0, 1, 5] (by decide +kernel) rfl rfl rfl) rfl rfl hl.1 rfl (lv_room (Nat.le_of_ble_eq_true rfl)) dX8_add_101 ⟨Nat.zero_le _, Nat.zero_le _⟩) hP hD hS hA rfl (Eq.trans (b := [ta, m_now, m_fresh]) rfl rfl) (fun H locs hP9 hD9 hS9 => ?_)
            replace hP : va_P D vwCl [(ta, .inr (8, [.ref m_now, .ref m_undone, .ref m_slots, .ref m_slotKind, .ref m_hasSlot, .ref m_sheetBits, .ref m_sheetSize, .ref m_sheets, .int (nI ((f_X8_remember nw un u).1)), .int fi, .ref m_fresh, .long aa, .long bb, .long dd, .int (nI ro), .ref m_rootWhich, .int db, .ref m_signs, .ref m_atNought, .int (nI mn), .ref m_change, .ref m_table, .ref m_carried])), (m_now, .inl (cy 0, 29, .inl (f_X8_take nw (l_X8_add_44 nw un sl hs u fi fr px py (12 + 1) 0 fr)))), (m_undone, .inl (cy 0, 725, .inl ((f_X8_remember nw un u).2))), (m_slots, .inl (cy 0, 48, .inl sl)), (m_hasSlot, .inl (cy 2, 4, .inl hs)), (m_fresh, .inl (cy 0, 12, .inl (l_X8_add_44 nw un sl hs u fi fr px py (12 + 1) 0 fr)))] H := hP9
            replace hD : va_D A [(ta, .inr (8, [.ref m_now, .ref m_undone, .ref m_slots, .ref m_slotKind, .ref m_hasSlot, .ref m_sheetBits, .ref m_sheetSize, .ref m_sheets, .int (nI ((f_X8_remember nw un u).1)), .int fi, .ref m_fresh, .long aa, .long bb, .long dd, .int (nI ro), .ref m_rootWhich, .int db, .ref m_signs, .ref m_atNought, .int (nI mn), .ref m_change, .ref m_table, .ref m_carried])), (m_now, .inl (cy 0, 29, .inl (f_X8_take nw (l_X8_add_44 nw un sl hs u fi fr px py (12 + 1) 0 fr)))), (m_undone, .inl (cy 0, 725, .inl ((f_X8_remember nw un u).2))), (m_slots, .inl (cy 0, 48, .inl sl)), (m_hasSlot, .inl (cy 2, 4, .inl hs)), (m_fresh, .inl (cy 0, 12, .inl (l_X8_add_44 nw un sl hs u fi fr px py (12 + 1) 0 fr)))] := hD9
            replace hS := hS9
            clear hP9 hD9 hS9
            refine lv_iconst (v := 1) hx hb dX8_add_104 (by decide) ?_
            have hF : f_X8_add nw un sl hs u fi fr px py = (1, ((f_X8_remember nw un u).1), fi, (f_X8_take nw (l_X8_add_44 nw un sl hs u fi fr px py (12 + 1) 0 fr)), ((f_X8_remember nw un u).2), (l_X8_add_44 nw un sl hs u fi fr px py (12 + 1) 0 fr)) := hF
            have hf0 := yk_fst hF
            have hg0 := yk_snd hF
            have hf1 := yk_fst hg0
            have hg1 := yk_snd hg0
            have hf2 := yk_fst hg1
            have hg2 := yk_snd hg1
            have hf3 := yk_fst hg2
            have hg3 := yk_snd hg2
            have hf4 := yk_fst hg3
            have hg4 := yk_snd hg3
            rw [hf0, hf1, hf2, hf3, hf4, hg4] at hQ
            exact hQ _ _ _ _ dX8_add_105 hP hS
          · replace hF := hF.trans (if_pos hc8)
            refine lv_aload_n hx hb dX8_add_89 rfl (lv_at hl 0 rfl) ?_
            refine lv_ldc (v := (-1000003)) hx hb hown (hts _ kX8_add_5) dX8_add_90 ?_
            refine yk_i [0] (va_runV (As := [.int (-1000003)]) (rest := []) ⟨hx, hb, hml, hown, hts⟩ (c_X8_found l D cy ta m_now m_undone m_slots m_slotKind m_hasSlot m_sheetBits m_sheetSize m_sheets m_fresh m_rootWhich m_signs m_atNought m_change m_table m_carried u fi aa bb dd ro db mn (-1000003) H.size) (cwV 1 hts gX8_add_X8_found rfl rfl rfl hv_X8_found (yk_room hRf hRl rfl rfl)) (yk_pv (q := (RX8, TX8, 23)) hG hA hS hK hP hD [0] (by decide +kernel) rfl rfl rfl) rfl rfl hl.1 rfl (lv_room (Nat.le_of_ble_eq_true rfl)) dX8_add_92 ⟨Nat.zero_le _, Nat.zero_le _⟩) hP hD hS hA rfl (Eq.trans (b := [ta]) rfl rfl) (fun H locs hP9 hD9 hS9 => ?_)
            replace hP : va_P D vwCl [(ta, .inr (8, [.ref m_now, .ref m_undone, .ref m_slots, .ref m_slotKind, .ref m_hasSlot, .ref m_sheetBits, .ref m_sheetSize, .ref m_sheets, .int (nI u), .int ((f_X8_found fi (-1000003)).2), .ref m_fresh, .long aa, .long bb, .long dd, .int (nI ro), .ref m_rootWhich, .int db, .ref m_signs, .ref m_atNought, .int (nI mn), .ref m_change, .ref m_table, .ref m_carried])), (m_now, .inl (cy 0, 29, .inl nw)), (m_undone, .inl (cy 0, 725, .inl un)), (m_slots, .inl (cy 0, 48, .inl sl)), (m_hasSlot, .inl (cy 2, 4, .inl hs)), (m_fresh, .inl (cy 0, 12, .inl (l_X8_add_44 nw un sl hs u fi fr px py (12 + 1) 0 fr)))] H := hP9
            replace hD : va_D A [(ta, .inr (8, [.ref m_now, .ref m_undone, .ref m_slots, .ref m_slotKind, .ref m_hasSlot, .ref m_sheetBits, .ref m_sheetSize, .ref m_sheets, .int (nI u), .int ((f_X8_found fi (-1000003)).2), .ref m_fresh, .long aa, .long bb, .long dd, .int (nI ro), .ref m_rootWhich, .int db, .ref m_signs, .ref m_atNought, .int (nI mn), .ref m_change, .ref m_table, .ref m_carried])), (m_now, .inl (cy 0, 29, .inl nw)), (m_undone, .inl (cy 0, 725, .inl un)), (m_slots, .inl (cy 0, 48, .inl sl)), (m_hasSlot, .inl (cy 2, 4, .inl hs)), (m_fresh, .inl (cy 0, 12, .inl (l_X8_add_44 nw un sl hs u fi fr px py (12 + 1) 0 fr)))] := hD9
            replace hS := hS9
            clear hP9 hD9 hS9
            have hF : f_X8_add nw un sl hs u fi fr px py = (((f_X8_found fi (-1000003)).1), u, ((f_X8_found fi (-1000003)).2), nw, un, (l_X8_add_44 nw un sl hs u fi fr px py (12 + 1) 0 fr)) := hF
            have hf0 := yk_fst hF
            have hg0 := yk_snd hF
            have hf1 := yk_fst hg0
            have hg1 := yk_snd hg0
            have hf2 := yk_fst hg1
            have hg2 := yk_snd hg1
            have hf3 := yk_fst hg2
            have hg3 := yk_snd hg2
            have hf4 := yk_fst hg3
            have hg4 := yk_snd hg3
            rw [hf0, hf1, hf2, hf3, hf4, hg4] at hQ
            exact hQ _ _ _ _ dX8_add_95 hP hS
        have L44 : ∀ (M9 n44 ki : Nat) (zfresh_44 : Nat → Int32) (H : Heap) (locs : List Loc) (ls : Array Slot), n44 < M9 → ki + n44 = 12 → (l_X8_add_44 nw un sl hs u fi fr px py (12 + 1) 0 fr) = (l_X8_add_44 nw un sl hs u fi fr px py (n44 + 1) ki zfresh_44) → va_P D vwCl [(ta, .inr (8, [.ref m_now, .ref m_undone, .ref m_slots, .ref m_slotKind, .ref m_hasSlot, .ref m_sheetBits, .ref m_sheetSize, .ref m_sheets, .int (nI u), .int fi, .ref m_fresh, .long aa, .long bb, .long dd, .int (nI ro), .ref m_rootWhich, .int db, .ref m_signs, .ref m_atNought, .int (nI mn), .ref m_change, .ref m_table, .ref m_carried])), (m_now, .inl (cy 0, 29, .inl nw)), (m_undone, .inl (cy 0, 725, .inl un)), (m_slots, .inl (cy 0, 48, .inl sl)), (m_hasSlot, .inl (cy 2, 4, .inl hs)), (m_fresh, .inl (cy 0, 12, .inl zfresh_44))] H → va_D A [(ta, .inr (8, [.ref m_now, .ref m_undone, .ref m_slots, .ref m_slotKind, .ref m_hasSlot, .ref m_sheetBits, .ref m_sheetSize, .ref m_sheets, .int (nI u), .int fi, .ref m_fresh, .long aa, .long bb, .long dd, .int (nI ro), .ref m_rootWhich, .int db, .ref m_signs, .ref m_atNought, .int (nI mn), .ref m_change, .ref m_table, .ref m_carried])), (m_now, .inl (cy 0, 29, .inl nw)), (m_undone, .inl (cy 0, 725, .inl un)), (m_slots, .inl (cy 0, 48, .inl sl)), (m_hasSlot, .inl (cy 2, 4, .inl hs)), (m_fresh, .inl (cy 0, 12, .inl zfresh_44))] → va_S A s.heap H locs → lv_has ls 4 [(0, .ref ta), (1, .int (nI px.toNatClampNeg)), (2, .int py), (3, .int (nI ki))] → W p l e R s m args below meth c H locs 0 0 Q (F0 m 44 ls []) := by
          clear hP hD hS hl
          intro M9
          induction M9 with
          | zero => intro n44 ki _ _ _ _ hn; exact absurd hn (Nat.not_lt_zero _)
          | succ M9 ih44 =>
            intro n44 ki zfresh_44 H locs ls hn44 hk44 hV44 hP hD hS hl
            refine lv_iload_n hx hb dX8_add_44 rfl (lv_at hl 3 rfl) ?_
            refine lv_bipush (v := 12) hx hb dX8_add_45 (by decide) ?_
            refine lv_icmp_ge (tgt := 82) hx hb dX8_add_47 (by decide) (fun hc6 => ?_) (fun hc6 => ?_)
            · replace hV44 := hV44.trans (if_pos hc6)
              have hV44 : (l_X8_add_44 nw un sl hs u fi fr px py (12 + 1) 0 fr) = zfresh_44 := hV44
              have J7 := J7
              rw [hV44] at J7
              exact J7 _ _ _ hP hD hS (lv_sub hl [0, 1, 2] rfl)
            · replace hV44 := hV44.trans (if_neg hc6)
              have hlt44 : ki < 12 := yk_lt hk44 (by omega) hc6
              refine lv_aload_n hx hb dX8_add_50 rfl (lv_at hl 0 rfl) ?_
              refine va_get (D := D) (ci := 8) (v := .ref m_fresh) (C := RX8) (T := TX8) (N := 23) hx hb hts uX8_add_X8 hown hK hP 0 rfl rfl 10 (by decide) (hts _ kX8_add_2) (fun _ h9 => h9) rfl dX8_add_51 ?_
              refine lv_iload_n hx hb dX8_add_54 rfl (lv_at hl 3 rfl) ?_
              refine lv_aload_n hx hb dX8_add_55 rfl (lv_at hl 0 rfl) ?_
              refine va_get (D := D) (ci := 8) (v := .ref m_now) (C := RX8) (T := TX8) (N := 23) hx hb hts uX8_add_X8 hown hK hP 0 rfl rfl 0 (by decide) (hts _ kX8_add_3) (fun _ h9 => h9) rfl dX8_add_56 ?_
              refine lv_iload_n hx hb dX8_add_59 rfl (lv_at hl 3 rfl) ?_
              refine yk_ild hx hb hK hP 1 0 rfl rfl ki (by omega) (by decide) dX8_add_60 ?_
              refine lv_iload_n hx hb dX8_add_61 rfl (lv_at hl 2 rfl) ?_
              refine lv_aload_n hx hb dX8_add_62 rfl (lv_at hl 0 rfl) ?_
              refine va_get (D := D) (ci := 8) (v := .ref m_slots) (C := RX8) (T := TX8) (N := 23) hx hb hts uX8_add_X8 hown hK hP 0 rfl rfl 2 (by decide) (hts _ kX8_add_4) (fun _ h9 => h9) rfl dX8_add_63 ?_
              refine lv_bipush (v := 12) hx hb dX8_add_66 (by decide) ?_
              refine lv_iload_n hx hb dX8_add_68 rfl (lv_at hl 1 rfl) ?_
              refine lv_imul hx hb dX8_add_69 ?_
              refine yk_ti (y := nI (12 * px.toNatClampNeg)) (pk_mul 12 px.toNatClampNeg) ?_
              refine lv_iload_n hx hb dX8_add_70 rfl (lv_at hl 3 rfl) ?_
              refine lv_iadd hx hb dX8_add_71 ?_
              refine yk_ti (y := nI ((12 * px.toNatClampNeg) + ki)) (nI_add (12 * px.toNatClampNeg) ki) ?_
              refine yk_ild hx hb hK hP 3 0 rfl rfl ((12 * px.toNatClampNeg) + ki) (by omega) (by decide) dX8_add_72 ?_
              refine lv_imul hx hb dX8_add_73 ?_
              refine lv_iadd hx hb dX8_add_74 ?_
              refine yk_ist hx hb hK hP hD hS 5 0 rfl rfl ki (by omega) (by decide) dX8_add_75 (fun H locs hP9 hD9 hS9 => ?_)
              replace hP : va_P D vwCl [(ta, .inr (8, [.ref m_now, .ref m_undone, .ref m_slots, .ref m_slotKind, .ref m_hasSlot, .ref m_sheetBits, .ref m_sheetSize, .ref m_sheets, .int (nI u), .int fi, .ref m_fresh, .long aa, .long bb, .long dd, .int (nI ro), .ref m_rootWhich, .int db, .ref m_signs, .ref m_atNought, .int (nI mn), .ref m_change, .ref m_table, .ref m_carried])), (m_now, .inl (cy 0, 29, .inl nw)), (m_undone, .inl (cy 0, 725, .inl un)), (m_slots, .inl (cy 0, 48, .inl sl)), (m_hasSlot, .inl (cy 2, 4, .inl hs)), (m_fresh, .inl (cy 0, 12, .inl (upd zfresh_44 ki ((nw ki) + (py * (sl ((12 * px.toNatClampNeg) + ki)))))))] H := hP9
              replace hD : va_D A [(ta, .inr (8, [.ref m_now, .ref m_undone, .ref m_slots, .ref m_slotKind, .ref m_hasSlot, .ref m_sheetBits, .ref m_sheetSize, .ref m_sheets, .int (nI u), .int fi, .ref m_fresh, .long aa, .long bb, .long dd, .int (nI ro), .ref m_rootWhich, .int db, .ref m_signs, .ref m_atNought, .int (nI mn), .ref m_change, .ref m_table, .ref m_carried])), (m_now, .inl (cy 0, 29, .inl nw)), (m_undone, .inl (cy 0, 725, .inl un)), (m_slots, .inl (cy 0, 48, .inl sl)), (m_hasSlot, .inl (cy 2, 4, .inl hs)), (m_fresh, .inl (cy 0, 12, .inl (upd zfresh_44 ki ((nw ki) + (py * (sl ((12 * px.toNatClampNeg) + ki)))))))] := hD9
              replace hS := hS9
              clear hP9 hD9 hS9
              refine lv_iinc (v := nI (ki + 1)) (lv' := [(3, .int (nI (ki + 1))), (0, .ref ta), (1, .int (nI px.toNatClampNeg)), (2, .int py)]) hx hb dX8_add_76 hl (k := 3) rfl (yk_inc ki) (by decide) rfl (fun ls hl9 => ?_)
              replace hl := hl9
              clear hl9
              refine lv_goto (tgt := 44) hx hb dX8_add_79 (by decide) ?_
              obtain ⟨n9, rfl⟩ : ∃ n9, n44 = n9 + 1 := ⟨n44 - 1, by omega⟩
              exact ih44 n9 (ki + 1) (upd zfresh_44 ki ((nw ki) + (py * (sl ((12 * px.toNatClampNeg) + ki))))) _ _ _ (by omega) (by omega)  hV44 hP hD hS (lv_sub hl [1, 2, 3, 0] rfl)
        exact L44 (12 + 1) 12 0 fr _ _ _ (Nat.lt_succ_self _) (by omega)  rfl hP hD hS (lv_sub hl [1, 2, 3, 0] rfl)
      · replace hF := hF.trans (if_pos hc4)
        refine lv_aload_n hx hb dX8_add_35 rfl (lv_at hl 0 rfl) ?_
        refine lv_ldc (v := (-1000006)) hx hb hown (hts _ kX8_add_6) dX8_add_36 ?_
        refine yk_i [0] (va_runV (As := [.int (-1000006)]) (rest := []) ⟨hx, hb, hml, hown, hts⟩ (c_X8_found l D cy ta m_now m_undone m_slots m_slotKind m_hasSlot m_sheetBits m_sheetSize m_sheets m_fresh m_rootWhich m_signs m_atNought m_change m_table m_carried u fi aa bb dd ro db mn (-1000006) H.size) (cwV 1 hts gX8_add_X8_found rfl rfl rfl hv_X8_found (yk_room hRf hRl rfl rfl)) (yk_pv (q := (RX8, TX8, 23)) hG hA hS hK hP hD [0] (by decide +kernel) rfl rfl rfl) rfl rfl hl.1 rfl (lv_room (Nat.le_of_ble_eq_true rfl)) dX8_add_38 ⟨Nat.zero_le _, Nat.zero_le _⟩) hP hD hS hA rfl (Eq.trans (b := [ta]) rfl rfl) (fun H locs hP9 hD9 hS9 => ?_)
        replace hP : va_P D vwCl [(ta, .inr (8, [.ref m_now, .ref m_undone, .ref m_slots, .ref m_slotKind, .ref m_hasSlot, .ref m_sheetBits, .ref m_sheetSize, .ref m_sheets, .int (nI u), .int ((f_X8_found fi (-1000006)).2), .ref m_fresh, .long aa, .long bb, .long dd, .int (nI ro), .ref m_rootWhich, .int db, .ref m_signs, .ref m_atNought, .int (nI mn), .ref m_change, .ref m_table, .ref m_carried])), (m_now, .inl (cy 0, 29, .inl nw)), (m_undone, .inl (cy 0, 725, .inl un)), (m_slots, .inl (cy 0, 48, .inl sl)), (m_hasSlot, .inl (cy 2, 4, .inl hs)), (m_fresh, .inl (cy 0, 12, .inl fr))] H := hP9
        replace hD : va_D A [(ta, .inr (8, [.ref m_now, .ref m_undone, .ref m_slots, .ref m_slotKind, .ref m_hasSlot, .ref m_sheetBits, .ref m_sheetSize, .ref m_sheets, .int (nI u), .int ((f_X8_found fi (-1000006)).2), .ref m_fresh, .long aa, .long bb, .long dd, .int (nI ro), .ref m_rootWhich, .int db, .ref m_signs, .ref m_atNought, .int (nI mn), .ref m_change, .ref m_table, .ref m_carried])), (m_now, .inl (cy 0, 29, .inl nw)), (m_undone, .inl (cy 0, 725, .inl un)), (m_slots, .inl (cy 0, 48, .inl sl)), (m_hasSlot, .inl (cy 2, 4, .inl hs)), (m_fresh, .inl (cy 0, 12, .inl fr))] := hD9
        replace hS := hS9
        clear hP9 hD9 hS9
        have hF : f_X8_add nw un sl hs u fi fr px py = (((f_X8_found fi (-1000006)).1), u, ((f_X8_found fi (-1000006)).2), nw, un, fr) := hF
        have hf0 := yk_fst hF
        have hg0 := yk_snd hF
        have hf1 := yk_fst hg0
        have hg1 := yk_snd hg0
        have hf2 := yk_fst hg1
        have hg2 := yk_snd hg1
        have hf3 := yk_fst hg2
        have hg3 := yk_snd hg2
        have hf4 := yk_fst hg3
        have hg4 := yk_snd hg3
        rw [hf0, hf1, hf2, hf3, hf4, hg4] at hQ
        exact hQ _ _ _ _ dX8_add_41 hP hS
    · replace hF := hF.trans (if_pos hc2)
      refine lv_aload_n hx hb dX8_add_19 rfl (lv_at hl 0 rfl) ?_
      refine lv_ldc (v := (-1000001)) hx hb hown (hts _ kX8_add_0) dX8_add_20 ?_
      refine yk_i [0] (va_runV (As := [.int (-1000001)]) (rest := []) ⟨hx, hb, hml, hown, hts⟩ (c_X8_found l D cy ta m_now m_undone m_slots m_slotKind m_hasSlot m_sheetBits m_sheetSize m_sheets m_fresh m_rootWhich m_signs m_atNought m_change m_table m_carried u fi aa bb dd ro db mn (-1000001) H.size) (cwV 1 hts gX8_add_X8_found rfl rfl rfl hv_X8_found (yk_room hRf hRl rfl rfl)) (yk_pv (q := (RX8, TX8, 23)) hG hA hS hK hP hD [0] (by decide +kernel) rfl rfl rfl) rfl rfl hl.1 rfl (lv_room (Nat.le_of_ble_eq_true rfl)) dX8_add_22 ⟨Nat.zero_le _, Nat.zero_le _⟩) hP hD hS hA rfl (Eq.trans (b := [ta]) rfl rfl) (fun H locs hP9 hD9 hS9 => ?_)
      replace hP : va_P D vwCl [(ta, .inr (8, [.ref m_now, .ref m_undone, .ref m_slots, .ref m_slotKind, .ref m_hasSlot, .ref m_sheetBits, .ref m_sheetSize, .ref m_sheets, .int (nI u), .int ((f_X8_found fi (-1000001)).2), .ref m_fresh, .long aa, .long bb, .long dd, .int (nI ro), .ref m_rootWhich, .int db, .ref m_signs, .ref m_atNought, .int (nI mn), .ref m_change, .ref m_table, .ref m_carried])), (m_now, .inl (cy 0, 29, .inl nw)), (m_undone, .inl (cy 0, 725, .inl un)), (m_slots, .inl (cy 0, 48, .inl sl)), (m_hasSlot, .inl (cy 2, 4, .inl hs)), (m_fresh, .inl (cy 0, 12, .inl fr))] H := hP9
      replace hD : va_D A [(ta, .inr (8, [.ref m_now, .ref m_undone, .ref m_slots, .ref m_slotKind, .ref m_hasSlot, .ref m_sheetBits, .ref m_sheetSize, .ref m_sheets, .int (nI u), .int ((f_X8_found fi (-1000001)).2), .ref m_fresh, .long aa, .long bb, .long dd, .int (nI ro), .ref m_rootWhich, .int db, .ref m_signs, .ref m_atNought, .int (nI mn), .ref m_change, .ref m_table, .ref m_carried])), (m_now, .inl (cy 0, 29, .inl nw)), (m_undone, .inl (cy 0, 725, .inl un)), (m_slots, .inl (cy 0, 48, .inl sl)), (m_hasSlot, .inl (cy 2, 4, .inl hs)), (m_fresh, .inl (cy 0, 12, .inl fr))] := hD9
      replace hS := hS9
      clear hP9 hD9 hS9
      have hF : f_X8_add nw un sl hs u fi fr px py = (((f_X8_found fi (-1000001)).1), u, ((f_X8_found fi (-1000001)).2), nw, un, fr) := hF
      have hf0 := yk_fst hF
      have hg0 := yk_snd hF
      have hf1 := yk_fst hg0
      have hg1 := yk_snd hg0
      have hf2 := yk_fst hg1
      have hg2 := yk_snd hg1
      have hf3 := yk_fst hg2
      have hg3 := yk_snd hg2
      have hf4 := yk_fst hg3
      have hg4 := yk_snd hg3
      rw [hf0, hf1, hf2, hf3, hf4, hg4] at hQ
      exact hQ _ _ _ _ dX8_add_25 hP hS

def f_X8_isRest (nw : Nat → Int32) (px : Int32) (py : Int32) : Int32 := (if (f_X8_speedAt nw px py 0) = 0 then (if (f_X8_speedAt nw px py 1) = 0 then 1 else 0) else 0)
theorem b_X8_isRest (nw : Nat → Int32) (px : Int32) (py : Int32) : (f_X8_isRest nw px py) = 0 ∨ (f_X8_isRest nw px py) = 1 := by
  unfold f_X8_isRest; (repeat' split) <;> first | exact Or.inl (by with_reducible rfl) | exact Or.inr (by with_reducible rfl)
set_option maxHeartbeats 400000000 in
set_option maxRecDepth 100000 in
theorem c_X8_isRest (l : Launch) (D : va_G) (cy : Nat → ClassId) (ta : Nat) (m_now : Nat) (m_undone : Nat) (m_slots : Nat) (m_slotKind : Nat) (m_hasSlot : Nat) (m_sheetBits : Nat) (m_sheetSize : Nat) (m_sheets : Nat) (m_fresh : Nat) (m_rootWhich : Nat) (m_signs : Nat) (m_atNought : Nat) (m_change : Nat) (m_table : Nat) (m_carried : Nat) (nw : Nat → Int32) (u : Nat) (fi : Int32) (aa : Int64) (bb : Int64) (dd : Int64) (ro : Nat) (db : Int32) (mn : Nat) (px : Int32) (py : Int32) : yk_Ci l D vwCl (yk_ty cy) yX8_isRest wsX8_isRest 2 45 [.ref ta, .int px, .int py] [(ta, .inr (8, [.ref m_now, .ref m_undone, .ref m_slots, .ref m_slotKind, .ref m_hasSlot, .ref m_sheetBits, .ref m_sheetSize, .ref m_sheets, .int (nI u), .int fi, .ref m_fresh, .long aa, .long bb, .long dd, .int (nI ro), .ref m_rootWhich, .int db, .ref m_signs, .ref m_atNought, .int (nI mn), .ref m_change, .ref m_table, .ref m_carried])), (m_now, .inl (cy 0, 29, .inl nw))] (f_X8_isRest nw px py) [(ta, .inr (8, [.ref m_now, .ref m_undone, .ref m_slots, .ref m_slotKind, .ref m_hasSlot, .ref m_sheetBits, .ref m_sheetSize, .ref m_sheets, .int (nI u), .int fi, .ref m_fresh, .long aa, .long bb, .long dd, .int (nI ro), .ref m_rootWhich, .int db, .ref m_signs, .ref m_atNought, .int (nI mn), .ref m_change, .ref m_table, .ref m_carried])), (m_now, .inl (cy 0, 29, .inl nw))] := by
  refine yk_eI (cc := cX8_isRest) (maxL := 3) (by decide) rfl (Nat.le_of_ble_eq_true rfl) (yk_nb (b_X8_isRest nw px py)) ?_
  intro p e R s m args below meth c A Q ls H locs hx hb hml hown hts hRf hRl hA hK hG hP hD hS hl hQ
  have hP : va_P D vwCl [(ta, .inr (8, [.ref m_now, .ref m_undone, .ref m_slots, .ref m_slotKind, .ref m_hasSlot, .ref m_sheetBits, .ref m_sheetSize, .ref m_sheets, .int (nI u), .int fi, .ref m_fresh, .long aa, .long bb, .long dd, .int (nI ro), .ref m_rootWhich, .int db, .ref m_signs, .ref m_atNought, .int (nI mn), .ref m_change, .ref m_table, .ref m_carried])), (m_now, .inl (cy 0, 29, .inl nw))] H := hP
  have hl : lv_has ls 3 [(0, .ref ta), (1, .int px), (2, .int py)] := hl
  have hown : s.vm.findClass RX8 = some m.cls := hown
  have hF : (f_X8_isRest nw px py) = (f_X8_isRest nw px py) := rfl
  refine lv_aload_n hx hb dX8_isRest_0 rfl (lv_at hl 0 rfl) ?_
  refine lv_iload_n hx hb dX8_isRest_1 rfl (lv_at hl 1 rfl) ?_
  refine lv_iload_n hx hb dX8_isRest_2 rfl (lv_at hl 2 rfl) ?_
  refine lv_iconst (v := 0) hx hb dX8_isRest_3 (by decide) ?_
  refine yk_i [0, 1] (va_runV (As := [.int px, .int py, .int 0]) (rest := []) ⟨hx, hb, hml, hown, hts⟩ (c_X8_speedAt l D cy ta m_now m_undone m_slots m_slotKind m_hasSlot m_sheetBits m_sheetSize m_sheets m_fresh m_rootWhich m_signs m_atNought m_change m_table m_carried nw u fi aa bb dd ro db mn px py 0 H.size) (cwV 3 hts gX8_isRest_X8_speedAt rfl rfl rfl hv_X8_speedAt (yk_room hRf hRl rfl rfl)) (yk_pv (q := (RX8, TX8, 23)) hG hA hS hK hP hD [0, 1] (by decide +kernel) rfl rfl rfl) rfl rfl hl.1 rfl (lv_room (Nat.le_of_ble_eq_true rfl)) dX8_isRest_4 ⟨Nat.zero_le _, Nat.zero_le _⟩) hP hD hS hA rfl (Eq.trans (b := [ta, m_now]) rfl rfl) (fun H locs hP9 hD9 hS9 => ?_)
  replace hP : va_P D vwCl [(ta, .inr (8, [.ref m_now, .ref m_undone, .ref m_slots, .ref m_slotKind, .ref m_hasSlot, .ref m_sheetBits, .ref m_sheetSize, .ref m_sheets, .int (nI u), .int fi, .ref m_fresh, .long aa, .long bb, .long dd, .int (nI ro), .ref m_rootWhich, .int db, .ref m_signs, .ref m_atNought, .int (nI mn), .ref m_change, .ref m_table, .ref m_carried])), (m_now, .inl (cy 0, 29, .inl nw))] H := hP9
  replace hD : va_D A [(ta, .inr (8, [.ref m_now, .ref m_undone, .ref m_slots, .ref m_slotKind, .ref m_hasSlot, .ref m_sheetBits, .ref m_sheetSize, .ref m_sheets, .int (nI u), .int fi, .ref m_fresh, .long aa, .long bb, .long dd, .int (nI ro), .ref m_rootWhich, .int db, .ref m_signs, .ref m_atNought, .int (nI mn), .ref m_change, .ref m_table, .ref m_carried])), (m_now, .inl (cy 0, 29, .inl nw))] := hD9
  replace hS := hS9
  clear hP9 hD9 hS9
  have J4 : ∀ (v3 : Int32) (H : Heap) (locs : List Loc) (ls : Array Slot), v3 = (if (f_X8_speedAt nw px py 0) = 0 then (if (f_X8_speedAt nw px py 1) = 0 then 1 else 0) else 0) → va_P D vwCl [(ta, .inr (8, [.ref m_now, .ref m_undone, .ref m_slots, .ref m_slotKind, .ref m_hasSlot, .ref m_sheetBits, .ref m_sheetSize, .ref m_sheets, .int (nI u), .int fi, .ref m_fresh, .long aa, .long bb, .long dd, .int (nI ro), .ref m_rootWhich, .int db, .ref m_signs, .ref m_atNought, .int (nI mn), .ref m_change, .ref m_table, .ref m_carried])), (m_now, .inl (cy 0, 29, .inl nw))] H → va_D A [(ta, .inr (8, [.ref m_now, .ref m_undone, .ref m_slots, .ref m_slotKind, .ref m_hasSlot, .ref m_sheetBits, .ref m_sheetSize, .ref m_sheets, .int (nI u), .int fi, .ref m_fresh, .long aa, .long bb, .long dd, .int (nI ro), .ref m_rootWhich, .int db, .ref m_signs, .ref m_atNought, .int (nI mn), .ref m_change, .ref m_table, .ref m_carried])), (m_now, .inl (cy 0, 29, .inl nw))] → va_S A s.heap H locs → lv_has ls 3 [(0, .ref ta), (1, .int px), (2, .int py)] → W p l e R s m args below meth c H locs 0 0 Q (F0 m 25 ls [.int v3]) := by
    clear hP hD hS hl
    intro v3 H locs ls ev3
    rw [ev3]
    clear ev3
    intro hP hD hS hl
    have hF : f_X8_isRest nw px py = (if (f_X8_speedAt nw px py 0) = 0 then (if (f_X8_speedAt nw px py 1) = 0 then 1 else 0) else 0) := hF
    rw [hF] at hQ
    exact hQ _ _ _ _ dX8_isRest_25 hP hS
  refine lv_if_ne (tgt := 24) hx hb dX8_isRest_7 (by decide) (fun hc1 => ?_) (fun hc1 => ?_)
  · refine lv_iconst (v := 0) hx hb dX8_isRest_24 (by decide) ?_
    exact J4 _ _ _ _ ((if_neg hc1).symm) hP hD hS (lv_sub hl [0, 1, 2] rfl)
  · refine lv_aload_n hx hb dX8_isRest_10 rfl (lv_at hl 0 rfl) ?_
    refine lv_iload_n hx hb dX8_isRest_11 rfl (lv_at hl 1 rfl) ?_
    refine lv_iload_n hx hb dX8_isRest_12 rfl (lv_at hl 2 rfl) ?_
    refine lv_iconst (v := 1) hx hb dX8_isRest_13 (by decide) ?_
    refine yk_i [0, 1] (va_runV (As := [.int px, .int py, .int 1]) (rest := []) ⟨hx, hb, hml, hown, hts⟩ (c_X8_speedAt l D cy ta m_now m_undone m_slots m_slotKind m_hasSlot m_sheetBits m_sheetSize m_sheets m_fresh m_rootWhich m_signs m_atNought m_change m_table m_carried nw u fi aa bb dd ro db mn px py 1 H.size) (cwV 3 hts gX8_isRest_X8_speedAt rfl rfl rfl hv_X8_speedAt (yk_room hRf hRl rfl rfl)) (yk_pv (q := (RX8, TX8, 23)) hG hA hS hK hP hD [0, 1] (by decide +kernel) rfl rfl rfl) rfl rfl hl.1 rfl (lv_room (Nat.le_of_ble_eq_true rfl)) dX8_isRest_14 ⟨Nat.zero_le _, Nat.zero_le _⟩) hP hD hS hA rfl (Eq.trans (b := [ta, m_now]) rfl rfl) (fun H locs hP9 hD9 hS9 => ?_)
    replace hP : va_P D vwCl [(ta, .inr (8, [.ref m_now, .ref m_undone, .ref m_slots, .ref m_slotKind, .ref m_hasSlot, .ref m_sheetBits, .ref m_sheetSize, .ref m_sheets, .int (nI u), .int fi, .ref m_fresh, .long aa, .long bb, .long dd, .int (nI ro), .ref m_rootWhich, .int db, .ref m_signs, .ref m_atNought, .int (nI mn), .ref m_change, .ref m_table, .ref m_carried])), (m_now, .inl (cy 0, 29, .inl nw))] H := hP9
    replace hD : va_D A [(ta, .inr (8, [.ref m_now, .ref m_undone, .ref m_slots, .ref m_slotKind, .ref m_hasSlot, .ref m_sheetBits, .ref m_sheetSize, .ref m_sheets, .int (nI u), .int fi, .ref m_fresh, .long aa, .long bb, .long dd, .int (nI ro), .ref m_rootWhich, .int db, .ref m_signs, .ref m_atNought, .int (nI mn), .ref m_change, .ref m_table, .ref m_carried])), (m_now, .inl (cy 0, 29, .inl nw))] := hD9
    replace hS := hS9
    clear hP9 hD9 hS9
    refine lv_if_ne (tgt := 24) hx hb dX8_isRest_17 (by decide) (fun hc2 => ?_) (fun hc2 => ?_)
    · refine lv_iconst (v := 0) hx hb dX8_isRest_24 (by decide) ?_
      exact J4 _ _ _ _ (((if_pos hc1).trans (if_neg hc2)).symm) hP hD hS (lv_sub hl [0, 1, 2] rfl)
    · refine lv_iconst (v := 1) hx hb dX8_isRest_20 (by decide) ?_
      refine lv_goto (tgt := 25) hx hb dX8_isRest_21 (by decide) ?_
      exact J4 _ _ _ _ (((if_pos hc1).trans (if_pos hc2)).symm) hP hD hS (lv_sub hl [0, 1, 2] rfl)

def l_X8_rests_14 (nw : Nat → Int32) (ki : Nat) (z1_5 : Int32) : Nat → Nat → Int32 → Int32
  | 0, kj, z1_14 => z1_14
  | fu_X8_rests_14 + 1, kj, z1_14 => (if 6 < (nI kj - 6) then z1_14 else (l_X8_rests_14 nw ki z1_5 fu_X8_rests_14 (kj + 1) (z1_14 + (if (f_X8_isRest nw (nI ki - 6) (nI kj - 6)) = 0 then 0 else 1))))
def l_X8_rests_5 (nw : Nat → Int32) : Nat → Nat → Int32 → Int32
  | 0, ki, z1_5 => z1_5
  | fu_X8_rests_5 + 1, ki, z1_5 => (if 6 < (nI ki - 6) then z1_5 else (l_X8_rests_5 nw fu_X8_rests_5 (ki + 1) (l_X8_rests_14 nw ki z1_5 (13 + 1) 0 z1_5)))
def f_X8_rests (nw : Nat → Int32) : Int32 := (l_X8_rests_5 nw (13 + 1) 0 0)
set_option maxHeartbeats 400000000 in
set_option maxRecDepth 100000 in
theorem c_X8_rests (l : Launch) (D : va_G) (cy : Nat → ClassId) (ta : Nat) (m_now : Nat) (m_undone : Nat) (m_slots : Nat) (m_slotKind : Nat) (m_hasSlot : Nat) (m_sheetBits : Nat) (m_sheetSize : Nat) (m_sheets : Nat) (m_fresh : Nat) (m_rootWhich : Nat) (m_signs : Nat) (m_atNought : Nat) (m_change : Nat) (m_table : Nat) (m_carried : Nat) (nw : Nat → Int32) (u : Nat) (fi : Int32) (aa : Int64) (bb : Int64) (dd : Int64) (ro : Nat) (db : Int32) (mn : Nat) : yk_Ci l D vwCl (yk_ty cy) yX8_rests wsX8_rests 3 67 [.ref ta] [(ta, .inr (8, [.ref m_now, .ref m_undone, .ref m_slots, .ref m_slotKind, .ref m_hasSlot, .ref m_sheetBits, .ref m_sheetSize, .ref m_sheets, .int (nI u), .int fi, .ref m_fresh, .long aa, .long bb, .long dd, .int (nI ro), .ref m_rootWhich, .int db, .ref m_signs, .ref m_atNought, .int (nI mn), .ref m_change, .ref m_table, .ref m_carried])), (m_now, .inl (cy 0, 29, .inl nw))] (f_X8_rests nw) [(ta, .inr (8, [.ref m_now, .ref m_undone, .ref m_slots, .ref m_slotKind, .ref m_hasSlot, .ref m_sheetBits, .ref m_sheetSize, .ref m_sheets, .int (nI u), .int fi, .ref m_fresh, .long aa, .long bb, .long dd, .int (nI ro), .ref m_rootWhich, .int db, .ref m_signs, .ref m_atNought, .int (nI mn), .ref m_change, .ref m_table, .ref m_carried])), (m_now, .inl (cy 0, 29, .inl nw))] := by
  refine yk_eI (cc := cX8_rests) (maxL := 4) (by decide) rfl (Nat.le_of_ble_eq_true rfl) rfl ?_
  intro p e R s m args below meth c A Q ls H locs hx hb hml hown hts hRf hRl hA hK hG hP hD hS hl hQ
  have hP : va_P D vwCl [(ta, .inr (8, [.ref m_now, .ref m_undone, .ref m_slots, .ref m_slotKind, .ref m_hasSlot, .ref m_sheetBits, .ref m_sheetSize, .ref m_sheets, .int (nI u), .int fi, .ref m_fresh, .long aa, .long bb, .long dd, .int (nI ro), .ref m_rootWhich, .int db, .ref m_signs, .ref m_atNought, .int (nI mn), .ref m_change, .ref m_table, .ref m_carried])), (m_now, .inl (cy 0, 29, .inl nw))] H := hP
  have hl : lv_has ls 4 [(0, .ref ta)] := hl
  have hown : s.vm.findClass RX8 = some m.cls := hown
  have hF : (f_X8_rests nw) = (f_X8_rests nw) := rfl
  refine lv_iconst (v := 0) hx hb dX8_rests_0 (by decide) ?_
  refine lv_istore_n (lv' := [(1, .int 0), (0, .ref ta)]) hx hb dX8_rests_1 rfl hl (by decide) rfl (fun ls hl9 => ?_)
  replace hl := hl9
  clear hl9
  refine lv_bipush (v := (-6)) hx hb dX8_rests_2 (by decide) ?_
  refine lv_istore_n (lv' := [(2, .int (-6)), (1, .int 0), (0, .ref ta)]) hx hb dX8_rests_4 rfl hl (by decide) rfl (fun ls hl9 => ?_)
  replace hl := hl9
  clear hl9
  have J7 : ∀ (H : Heap) (locs : List Loc) (ls : Array Slot), va_P D vwCl [(ta, .inr (8, [.ref m_now, .ref m_undone, .ref m_slots, .ref m_slotKind, .ref m_hasSlot, .ref m_sheetBits, .ref m_sheetSize, .ref m_sheets, .int (nI u), .int fi, .ref m_fresh, .long aa, .long bb, .long dd, .int (nI ro), .ref m_rootWhich, .int db, .ref m_signs, .ref m_atNought, .int (nI mn), .ref m_change, .ref m_table, .ref m_carried])), (m_now, .inl (cy 0, 29, .inl nw))] H → va_D A [(ta, .inr (8, [.ref m_now, .ref m_undone, .ref m_slots, .ref m_slotKind, .ref m_hasSlot, .ref m_sheetBits, .ref m_sheetSize, .ref m_sheets, .int (nI u), .int fi, .ref m_fresh, .long aa, .long bb, .long dd, .int (nI ro), .ref m_rootWhich, .int db, .ref m_signs, .ref m_atNought, .int (nI mn), .ref m_change, .ref m_table, .ref m_carried])), (m_now, .inl (cy 0, 29, .inl nw))] → va_S A s.heap H locs → lv_has ls 4 [(0, .ref ta), (1, .int (l_X8_rests_5 nw (13 + 1) 0 0))] → W p l e R s m args below meth c H locs 0 0 Q (F0 m 49 ls []) := by
    clear hP hD hS hl
    intro H locs ls hP hD hS hl
    refine lv_iload_n hx hb dX8_rests_49 rfl (lv_at hl 1 rfl) ?_
    have hF : f_X8_rests nw = (l_X8_rests_5 nw (13 + 1) 0 0) := hF
    rw [hF] at hQ
    exact hQ _ _ _ _ dX8_rests_50 hP hS
  have L5 : ∀ (M9 n5 ki : Nat) (z1_5 : Int32) (H : Heap) (locs : List Loc) (ls : Array Slot), n5 < M9 → ki + n5 = 13 → (l_X8_rests_5 nw (13 + 1) 0 0) = (l_X8_rests_5 nw (n5 + 1) ki z1_5) → va_P D vwCl [(ta, .inr (8, [.ref m_now, .ref m_undone, .ref m_slots, .ref m_slotKind, .ref m_hasSlot, .ref m_sheetBits, .ref m_sheetSize, .ref m_sheets, .int (nI u), .int fi, .ref m_fresh, .long aa, .long bb, .long dd, .int (nI ro), .ref m_rootWhich, .int db, .ref m_signs, .ref m_atNought, .int (nI mn), .ref m_change, .ref m_table, .ref m_carried])), (m_now, .inl (cy 0, 29, .inl nw))] H → va_D A [(ta, .inr (8, [.ref m_now, .ref m_undone, .ref m_slots, .ref m_slotKind, .ref m_hasSlot, .ref m_sheetBits, .ref m_sheetSize, .ref m_sheets, .int (nI u), .int fi, .ref m_fresh, .long aa, .long bb, .long dd, .int (nI ro), .ref m_rootWhich, .int db, .ref m_signs, .ref m_atNought, .int (nI mn), .ref m_change, .ref m_table, .ref m_carried])), (m_now, .inl (cy 0, 29, .inl nw))] → va_S A s.heap H locs → lv_has ls 4 [(0, .ref ta), (1, .int z1_5), (2, .int (nI ki - 6))] → W p l e R s m args below meth c H locs 0 0 Q (F0 m 5 ls []) := by
    clear hP hD hS hl
    intro M9
    induction M9 with
    | zero => intro n5 ki _ _ _ _ hn; exact absurd hn (Nat.not_lt_zero _)
    | succ M9 ih5 =>
      intro n5 ki z1_5 H locs ls hn5 hk5 hV5 hP hD hS hl
      refine lv_iload_n hx hb dX8_rests_5 rfl (lv_at hl 2 rfl) ?_
      refine lv_bipush (v := 6) hx hb dX8_rests_6 (by decide) ?_
      refine lv_icmp_gt (tgt := 49) hx hb dX8_rests_8 (by decide) (fun hc1 => ?_) (fun hc1 => ?_)
      · replace hV5 := hV5.trans (if_pos hc1)
        have hV5 : (l_X8_rests_5 nw (13 + 1) 0 0) = z1_5 := hV5
        have J7 := J7
        rw [hV5] at J7
        exact J7 _ _ _ hP hD hS (lv_sub hl [0, 1] rfl)
      · replace hV5 := hV5.trans (if_neg hc1)
        have hlt5 : ki < 13 := yk_lt6 hk5 hc1
        refine lv_bipush (v := (-6)) hx hb dX8_rests_11 (by decide) ?_
        refine lv_istore_n (lv' := [(3, .int (-6)), (0, .ref ta), (1, .int z1_5), (2, .int (nI ki - 6))]) hx hb dX8_rests_13 rfl hl (by decide) rfl (fun ls hl9 => ?_)
        replace hl := hl9
        clear hl9
        have J6 : ∀ (H : Heap) (locs : List Loc) (ls : Array Slot), va_P D vwCl [(ta, .inr (8, [.ref m_now, .ref m_undone, .ref m_slots, .ref m_slotKind, .ref m_hasSlot, .ref m_sheetBits, .ref m_sheetSize, .ref m_sheets, .int (nI u), .int fi, .ref m_fresh, .long aa, .long bb, .long dd, .int (nI ro), .ref m_rootWhich, .int db, .ref m_signs, .ref m_atNought, .int (nI mn), .ref m_change, .ref m_table, .ref m_carried])), (m_now, .inl (cy 0, 29, .inl nw))] H → va_D A [(ta, .inr (8, [.ref m_now, .ref m_undone, .ref m_slots, .ref m_slotKind, .ref m_hasSlot, .ref m_sheetBits, .ref m_sheetSize, .ref m_sheets, .int (nI u), .int fi, .ref m_fresh, .long aa, .long bb, .long dd, .int (nI ro), .ref m_rootWhich, .int db, .ref m_signs, .ref m_atNought, .int (nI mn), .ref m_change, .ref m_table, .ref m_carried])), (m_now, .inl (cy 0, 29, .inl nw))] → va_S A s.heap H locs → lv_has ls 4 [(0, .ref ta), (1, .int (l_X8_rests_14 nw ki z1_5 (13 + 1) 0 z1_5)), (2, .int (nI ki - 6))] → W p l e R s m args below meth c H locs 0 0 Q (F0 m 43 ls []) := by
          clear hP hD hS hl
          intro H locs ls hP hD hS hl
          refine lv_iinc (v := ((nI ki - 6) + 1)) (lv' := [(2, .int ((nI ki - 6) + 1)), (0, .ref ta), (1, .int (l_X8_rests_14 nw ki z1_5 (13 + 1) 0 z1_5))]) hx hb dX8_rests_43 hl (k := 2) rfl (yk_incg _) (by decide) rfl (fun ls hl9 => ?_)
          replace hl := hl9
          clear hl9
          refine lv_goto (tgt := 5) hx hb dX8_rests_46 (by decide) ?_
          obtain ⟨n9, rfl⟩ : ∃ n9, n5 = n9 + 1 := ⟨n5 - 1, by omega⟩
          rw [yk_off ki 6] at hl
          exact ih5 n9 (ki + 1) (l_X8_rests_14 nw ki z1_5 (13 + 1) 0 z1_5) _ _ _ (by omega) (by omega)  hV5 hP hD hS (lv_sub hl [1, 2, 0] rfl)
        have L14 : ∀ (M9 n14 kj : Nat) (z1_14 : Int32) (H : Heap) (locs : List Loc) (ls : Array Slot), n14 < M9 → kj + n14 = 13 → (l_X8_rests_14 nw ki z1_5 (13 + 1) 0 z1_5) = (l_X8_rests_14 nw ki z1_5 (n14 + 1) kj z1_14) → va_P D vwCl [(ta, .inr (8, [.ref m_now, .ref m_undone, .ref m_slots, .ref m_slotKind, .ref m_hasSlot, .ref m_sheetBits, .ref m_sheetSize, .ref m_sheets, .int (nI u), .int fi, .ref m_fresh, .long aa, .long bb, .long dd, .int (nI ro), .ref m_rootWhich, .int db, .ref m_signs, .ref m_atNought, .int (nI mn), .ref m_change, .ref m_table, .ref m_carried])), (m_now, .inl (cy 0, 29, .inl nw))] H → va_D A [(ta, .inr (8, [.ref m_now, .ref m_undone, .ref m_slots, .ref m_slotKind, .ref m_hasSlot, .ref m_sheetBits, .ref m_sheetSize, .ref m_sheets, .int (nI u), .int fi, .ref m_fresh, .long aa, .long bb, .long dd, .int (nI ro), .ref m_rootWhich, .int db, .ref m_signs, .ref m_atNought, .int (nI mn), .ref m_change, .ref m_table, .ref m_carried])), (m_now, .inl (cy 0, 29, .inl nw))] → va_S A s.heap H locs → lv_has ls 4 [(0, .ref ta), (1, .int z1_14), (2, .int (nI ki - 6)), (3, .int (nI kj - 6))] → W p l e R s m args below meth c H locs 0 0 Q (F0 m 14 ls []) := by
          clear hP hD hS hl
          intro M9
          induction M9 with
          | zero => intro n14 kj _ _ _ _ hn; exact absurd hn (Nat.not_lt_zero _)
          | succ M9 ih14 =>
            intro n14 kj z1_14 H locs ls hn14 hk14 hV14 hP hD hS hl
            refine lv_iload_n hx hb dX8_rests_14 rfl (lv_at hl 3 rfl) ?_
            refine lv_bipush (v := 6) hx hb dX8_rests_15 (by decide) ?_
            refine lv_icmp_gt (tgt := 43) hx hb dX8_rests_17 (by decide) (fun hc2 => ?_) (fun hc2 => ?_)
            · replace hV14 := hV14.trans (if_pos hc2)
              have hV14 : (l_X8_rests_14 nw ki z1_5 (13 + 1) 0 z1_5) = z1_14 := hV14
              have J6 := J6
              rw [hV14] at J6
              exact J6 _ _ _ hP hD hS (lv_sub hl [0, 1, 2] rfl)
            · replace hV14 := hV14.trans (if_neg hc2)
              have hlt14 : kj < 13 := yk_lt6 hk14 hc2
              refine lv_iload_n hx hb dX8_rests_20 rfl (lv_at hl 1 rfl) ?_
              refine lv_aload_n hx hb dX8_rests_21 rfl (lv_at hl 0 rfl) ?_
              refine lv_iload_n hx hb dX8_rests_22 rfl (lv_at hl 2 rfl) ?_
              refine lv_iload_n hx hb dX8_rests_23 rfl (lv_at hl 3 rfl) ?_
              refine yk_i [0, 1] (va_runV (As := [.int (nI ki - 6), .int (nI kj - 6)]) (rest := [.int z1_14]) ⟨hx, hb, hml, hown, hts⟩ (c_X8_isRest l D cy ta m_now m_undone m_slots m_slotKind m_hasSlot m_sheetBits m_sheetSize m_sheets m_fresh m_rootWhich m_signs m_atNought m_change m_table m_carried nw u fi aa bb dd ro db mn (nI ki - 6) (nI kj - 6) H.size) (cwV 2 hts gX8_rests_X8_isRest rfl rfl rfl hv_X8_isRest (yk_room hRf hRl rfl rfl)) (yk_pv (q := (RX8, TX8, 23)) hG hA hS hK hP hD [0, 1] (by decide +kernel) rfl rfl rfl) rfl rfl hl.1 rfl (lv_room (Nat.le_of_ble_eq_true rfl)) dX8_rests_24 ⟨Nat.zero_le _, Nat.zero_le _⟩) hP hD hS hA rfl (Eq.trans (b := [ta, m_now]) rfl rfl) (fun H locs hP9 hD9 hS9 => ?_)
              replace hP : va_P D vwCl [(ta, .inr (8, [.ref m_now, .ref m_undone, .ref m_slots, .ref m_slotKind, .ref m_hasSlot, .ref m_sheetBits, .ref m_sheetSize, .ref m_sheets, .int (nI u), .int fi, .ref m_fresh, .long aa, .long bb, .long dd, .int (nI ro), .ref m_rootWhich, .int db, .ref m_signs, .ref m_atNought, .int (nI mn), .ref m_change, .ref m_table, .ref m_carried])), (m_now, .inl (cy 0, 29, .inl nw))] H := hP9
              replace hD : va_D A [(ta, .inr (8, [.ref m_now, .ref m_undone, .ref m_slots, .ref m_slotKind, .ref m_hasSlot, .ref m_sheetBits, .ref m_sheetSize, .ref m_sheets, .int (nI u), .int fi, .ref m_fresh, .long aa, .long bb, .long dd, .int (nI ro), .ref m_rootWhich, .int db, .ref m_signs, .ref m_atNought, .int (nI mn), .ref m_change, .ref m_table, .ref m_carried])), (m_now, .inl (cy 0, 29, .inl nw))] := hD9
              replace hS := hS9
              clear hP9 hD9 hS9
              have J5 : ∀ (v4 : Int32) (H : Heap) (locs : List Loc) (ls : Array Slot), v4 = (if (f_X8_isRest nw (nI ki - 6) (nI kj - 6)) = 0 then 0 else 1) → va_P D vwCl [(ta, .inr (8, [.ref m_now, .ref m_undone, .ref m_slots, .ref m_slotKind, .ref m_hasSlot, .ref m_sheetBits, .ref m_sheetSize, .ref m_sheets, .int (nI u), .int fi, .ref m_fresh, .long aa, .long bb, .long dd, .int (nI ro), .ref m_rootWhich, .int db, .ref m_signs, .ref m_atNought, .int (nI mn), .ref m_change, .ref m_table, .ref m_carried])), (m_now, .inl (cy 0, 29, .inl nw))] H → va_D A [(ta, .inr (8, [.ref m_now, .ref m_undone, .ref m_slots, .ref m_slotKind, .ref m_hasSlot, .ref m_sheetBits, .ref m_sheetSize, .ref m_sheets, .int (nI u), .int fi, .ref m_fresh, .long aa, .long bb, .long dd, .int (nI ro), .ref m_rootWhich, .int db, .ref m_signs, .ref m_atNought, .int (nI mn), .ref m_change, .ref m_table, .ref m_carried])), (m_now, .inl (cy 0, 29, .inl nw))] → va_S A s.heap H locs → lv_has ls 4 [(0, .ref ta), (1, .int z1_14), (2, .int (nI ki - 6)), (3, .int (nI kj - 6))] → W p l e R s m args below meth c H locs 0 0 Q (F0 m 35 ls [.int v4, .int z1_14]) := by
                clear hP hD hS hl
                intro v4 H locs ls ev4
                rw [ev4]
                clear ev4
                intro hP hD hS hl
                refine lv_iadd hx hb dX8_rests_35 ?_
                refine lv_istore_n (lv' := [(1, .int (z1_14 + (if (f_X8_isRest nw (nI ki - 6) (nI kj - 6)) = 0 then 0 else 1))), (0, .ref ta), (2, .int (nI ki - 6)), (3, .int (nI kj - 6))]) hx hb dX8_rests_36 rfl hl (by decide) rfl (fun ls hl9 => ?_)
                replace hl := hl9
                clear hl9
                refine lv_iinc (v := ((nI kj - 6) + 1)) (lv' := [(3, .int ((nI kj - 6) + 1)), (1, .int (z1_14 + (if (f_X8_isRest nw (nI ki - 6) (nI kj - 6)) = 0 then 0 else 1))), (0, .ref ta), (2, .int (nI ki - 6))]) hx hb dX8_rests_37 hl (k := 3) rfl (yk_incg _) (by decide) rfl (fun ls hl9 => ?_)
                replace hl := hl9
                clear hl9
                refine lv_goto (tgt := 14) hx hb dX8_rests_40 (by decide) ?_
                obtain ⟨n9, rfl⟩ : ∃ n9, n14 = n9 + 1 := ⟨n14 - 1, by omega⟩
                rw [yk_off kj 6] at hl
                exact ih14 n9 (kj + 1) (z1_14 + (if (f_X8_isRest nw (nI ki - 6) (nI kj - 6)) = 0 then 0 else 1)) _ _ _ (by omega) (by omega)  hV14 hP hD hS (lv_sub hl [2, 1, 3, 0] rfl)
              refine lv_if_eq (tgt := 34) hx hb dX8_rests_27 (by decide) (fun hc3 => ?_) (fun hc3 => ?_)
              · refine lv_iconst (v := 0) hx hb dX8_rests_34 (by decide) ?_
                exact J5 _ _ _ _ ((if_pos hc3).symm) hP hD hS (lv_sub hl [0, 1, 2, 3] rfl)
              · refine lv_iconst (v := 1) hx hb dX8_rests_30 (by decide) ?_
                refine lv_goto (tgt := 35) hx hb dX8_rests_31 (by decide) ?_
                exact J5 _ _ _ _ ((if_neg hc3).symm) hP hD hS (lv_sub hl [0, 1, 2, 3] rfl)
        rw [show (-6 : Int32) = nI 0 - 6 from rfl] at hl
        exact L14 (13 + 1) 13 0 z1_5 _ _ _ (Nat.lt_succ_self _) (by omega)  rfl hP hD hS (lv_sub hl [1, 2, 3, 0] rfl)
  rw [show (-6 : Int32) = nI 0 - 6 from rfl] at hl
  exact L5 (13 + 1) 13 0 0 _ _ _ (Nat.lt_succ_self _) (by omega)  rfl hP hD hS (lv_sub hl [2, 1, 0] rfl)

theorem kX8_rest_0 : Cond.constant RX8 100 (-1000006) ∈ wsX8_rest := by decide +kernel
def l_X8_rest_17 (nw : Nat → Int32) (fi : Int32) (px : Int32) (bq : Int32) (ki : Nat) (z3_6 : Int32) (kc : Nat → Int32 → Int32 × Int32) : Nat → Nat → Int32 → Int32 × Int32
  | 0, kj, z3_17 => (0, fi)
  | fu_X8_rest_17 + 1, kj, z3_17 => (if 6 < (nI kj - 6) then (kc (ki + 1) z3_17) else (if (f_X8_isRest nw (nI ki - 6) (nI kj - 6)) = 0 then (l_X8_rest_17 nw fi px bq ki z3_6 kc fu_X8_rest_17 (kj + 1) z3_17) else (if z3_17 = 0 then ((if bq = 0 then (nI ki - 6) else (nI kj - 6)), fi) else (l_X8_rest_17 nw fi px bq ki z3_6 kc fu_X8_rest_17 (kj + 1) (z3_17 - 1)))))
def l_X8_rest_6 (nw : Nat → Int32) (fi : Int32) (px : Int32) (bq : Int32) : Nat → Nat → Int32 → Int32 × Int32
  | 0, ki, z3_6 => (0, fi)
  | fu_X8_rest_6 + 1, ki, z3_6 => (if 6 < (nI ki - 6) then (((f_X8_found fi (-1000006)).1), ((f_X8_found fi (-1000006)).2)) else (l_X8_rest_17 nw fi px bq ki z3_6 (fun ki' z3_6' => l_X8_rest_6 nw fi px bq fu_X8_rest_6 (ki') (z3_6')) (13 + 1) 0 z3_6))
def f_X8_rest (nw : Nat → Int32) (fi : Int32) (px : Int32) (bq : Int32) : Int32 × Int32 := (l_X8_rest_6 nw fi px bq (13 + 1) 0 px)
set_option maxHeartbeats 400000000 in
set_option maxRecDepth 100000 in
theorem c_X8_rest (l : Launch) (D : va_G) (cy : Nat → ClassId) (ta : Nat) (m_now : Nat) (m_undone : Nat) (m_slots : Nat) (m_slotKind : Nat) (m_hasSlot : Nat) (m_sheetBits : Nat) (m_sheetSize : Nat) (m_sheets : Nat) (m_fresh : Nat) (m_rootWhich : Nat) (m_signs : Nat) (m_atNought : Nat) (m_change : Nat) (m_table : Nat) (m_carried : Nat) (nw : Nat → Int32) (u : Nat) (fi : Int32) (aa : Int64) (bb : Int64) (dd : Int64) (ro : Nat) (db : Int32) (mn : Nat) (px : Int32) (bq : Int32) : yk_Ci l D vwCl (yk_ty cy) yX8_rest wsX8_rest 3 67 [.ref ta, .int px, .int bq] [(ta, .inr (8, [.ref m_now, .ref m_undone, .ref m_slots, .ref m_slotKind, .ref m_hasSlot, .ref m_sheetBits, .ref m_sheetSize, .ref m_sheets, .int (nI u), .int fi, .ref m_fresh, .long aa, .long bb, .long dd, .int (nI ro), .ref m_rootWhich, .int db, .ref m_signs, .ref m_atNought, .int (nI mn), .ref m_change, .ref m_table, .ref m_carried])), (m_now, .inl (cy 0, 29, .inl nw))] ((f_X8_rest nw fi px bq).1) [(ta, .inr (8, [.ref m_now, .ref m_undone, .ref m_slots, .ref m_slotKind, .ref m_hasSlot, .ref m_sheetBits, .ref m_sheetSize, .ref m_sheets, .int (nI u), .int ((f_X8_rest nw fi px bq).2), .ref m_fresh, .long aa, .long bb, .long dd, .int (nI ro), .ref m_rootWhich, .int db, .ref m_signs, .ref m_atNought, .int (nI mn), .ref m_change, .ref m_table, .ref m_carried])), (m_now, .inl (cy 0, 29, .inl nw))] := by
  refine yk_eI (cc := cX8_rest) (maxL := 6) (by decide) rfl (Nat.le_of_ble_eq_true rfl) rfl ?_
  intro p e R s m args below meth c A Q ls H locs hx hb hml hown hts hRf hRl hA hK hG hP hD hS hl hQ
  have hP : va_P D vwCl [(ta, .inr (8, [.ref m_now, .ref m_undone, .ref m_slots, .ref m_slotKind, .ref m_hasSlot, .ref m_sheetBits, .ref m_sheetSize, .ref m_sheets, .int (nI u), .int fi, .ref m_fresh, .long aa, .long bb, .long dd, .int (nI ro), .ref m_rootWhich, .int db, .ref m_signs, .ref m_atNought, .int (nI mn), .ref m_change, .ref m_table, .ref m_carried])), (m_now, .inl (cy 0, 29, .inl nw))] H := hP
  have hl : lv_has ls 6 [(0, .ref ta), (1, .int px), (2, .int bq)] := hl
  have hown : s.vm.findClass RX8 = some m.cls := hown
  have hF : (f_X8_rest nw fi px bq) = (f_X8_rest nw fi px bq) := rfl
  refine lv_iload_n hx hb dX8_rest_0 rfl (lv_at hl 1 rfl) ?_
  refine lv_istore_n (lv' := [(3, .int px), (0, .ref ta), (1, .int px), (2, .int bq)]) hx hb dX8_rest_1 rfl hl (by decide) rfl (fun ls hl9 => ?_)
  replace hl := hl9
  clear hl9
  refine lv_bipush (v := (-6)) hx hb dX8_rest_2 (by decide) ?_
  refine lv_istore (lv' := [(4, .int (-6)), (3, .int px), (0, .ref ta), (1, .int px), (2, .int bq)]) hx hb dX8_rest_4 hl (by decide) rfl (fun ls hl9 => ?_)
  replace hl := hl9
  clear hl9
  have L6 : ∀ (M9 n6 ki : Nat) (z3_6 : Int32) (H : Heap) (locs : List Loc) (ls : Array Slot), n6 < M9 → ki + n6 = 13 → f_X8_rest nw fi px bq = (l_X8_rest_6 nw fi px bq (n6 + 1) ki z3_6) → va_P D vwCl [(ta, .inr (8, [.ref m_now, .ref m_undone, .ref m_slots, .ref m_slotKind, .ref m_hasSlot, .ref m_sheetBits, .ref m_sheetSize, .ref m_sheets, .int (nI u), .int fi, .ref m_fresh, .long aa, .long bb, .long dd, .int (nI ro), .ref m_rootWhich, .int db, .ref m_signs, .ref m_atNought, .int (nI mn), .ref m_change, .ref m_table, .ref m_carried])), (m_now, .inl (cy 0, 29, .inl nw))] H → va_D A [(ta, .inr (8, [.ref m_now, .ref m_undone, .ref m_slots, .ref m_slotKind, .ref m_hasSlot, .ref m_sheetBits, .ref m_sheetSize, .ref m_sheets, .int (nI u), .int fi, .ref m_fresh, .long aa, .long bb, .long dd, .int (nI ro), .ref m_rootWhich, .int db, .ref m_signs, .ref m_atNought, .int (nI mn), .ref m_change, .ref m_table, .ref m_carried])), (m_now, .inl (cy 0, 29, .inl nw))] → va_S A s.heap H locs → lv_has ls 6 [(0, .ref ta), (1, .int px), (2, .int bq), (3, .int z3_6), (4, .int (nI ki - 6))] → W p l e R s m args below meth c H locs 0 0 Q (F0 m 6 ls []) := by
    clear hP hD hS hl hF
    intro M9
    induction M9 with
    | zero => intro n6 ki _ _ _ _ hn; exact absurd hn (Nat.not_lt_zero _)
    | succ M9 ih6 =>
      intro n6 ki z3_6 H locs ls hn6 hk6 hF hP hD hS hl
      refine lv_iload hx hb dX8_rest_6 (lv_at hl 4 rfl) ?_
      refine lv_bipush (v := 6) hx hb dX8_rest_8 (by decide) ?_
      refine lv_icmp_gt (tgt := 69) hx hb dX8_rest_10 (by decide) (fun hc1 => ?_) (fun hc1 => ?_)
      · replace hF := hF.trans (if_pos hc1)
        refine lv_aload_n hx hb dX8_rest_69 rfl (lv_at hl 0 rfl) ?_
        refine lv_ldc (v := (-1000006)) hx hb hown (hts _ kX8_rest_0) dX8_rest_70 ?_
        refine yk_i [0] (va_runV (As := [.int (-1000006)]) (rest := []) ⟨hx, hb, hml, hown, hts⟩ (c_X8_found l D cy ta m_now m_undone m_slots m_slotKind m_hasSlot m_sheetBits m_sheetSize m_sheets m_fresh m_rootWhich m_signs m_atNought m_change m_table m_carried u fi aa bb dd ro db mn (-1000006) H.size) (cwV 1 hts gX8_rest_X8_found rfl rfl rfl hv_X8_found (yk_room hRf hRl rfl rfl)) (yk_pv (q := (RX8, TX8, 23)) hG hA hS hK hP hD [0] (by decide +kernel) rfl rfl rfl) rfl rfl hl.1 rfl (lv_room (Nat.le_of_ble_eq_true rfl)) dX8_rest_72 ⟨Nat.zero_le _, Nat.zero_le _⟩) hP hD hS hA rfl (Eq.trans (b := [ta]) rfl rfl) (fun H locs hP9 hD9 hS9 => ?_)
        replace hP : va_P D vwCl [(ta, .inr (8, [.ref m_now, .ref m_undone, .ref m_slots, .ref m_slotKind, .ref m_hasSlot, .ref m_sheetBits, .ref m_sheetSize, .ref m_sheets, .int (nI u), .int ((f_X8_found fi (-1000006)).2), .ref m_fresh, .long aa, .long bb, .long dd, .int (nI ro), .ref m_rootWhich, .int db, .ref m_signs, .ref m_atNought, .int (nI mn), .ref m_change, .ref m_table, .ref m_carried])), (m_now, .inl (cy 0, 29, .inl nw))] H := hP9
        replace hD : va_D A [(ta, .inr (8, [.ref m_now, .ref m_undone, .ref m_slots, .ref m_slotKind, .ref m_hasSlot, .ref m_sheetBits, .ref m_sheetSize, .ref m_sheets, .int (nI u), .int ((f_X8_found fi (-1000006)).2), .ref m_fresh, .long aa, .long bb, .long dd, .int (nI ro), .ref m_rootWhich, .int db, .ref m_signs, .ref m_atNought, .int (nI mn), .ref m_change, .ref m_table, .ref m_carried])), (m_now, .inl (cy 0, 29, .inl nw))] := hD9
        replace hS := hS9
        clear hP9 hD9 hS9
        have hF : f_X8_rest nw fi px bq = (((f_X8_found fi (-1000006)).1), ((f_X8_found fi (-1000006)).2)) := hF
        have hf0 := yk_fst hF
        have hg0 := yk_snd hF
        rw [hf0, hg0] at hQ
        exact hQ _ _ _ _ dX8_rest_75 hP hS
      · replace hF := hF.trans (if_neg hc1)
        have hlt6 : ki < 13 := yk_lt6 hk6 hc1
        refine lv_bipush (v := (-6)) hx hb dX8_rest_13 (by decide) ?_
        refine lv_istore (lv' := [(5, .int (-6)), (0, .ref ta), (1, .int px), (2, .int bq), (3, .int z3_6), (4, .int (nI ki - 6))]) hx hb dX8_rest_15 hl (by decide) rfl (fun ls hl9 => ?_)
        replace hl := hl9
        clear hl9
        have L17 : ∀ (M9 n17 kj : Nat) (z3_17 : Int32) (H : Heap) (locs : List Loc) (ls : Array Slot), n17 < M9 → kj + n17 = 13 → f_X8_rest nw fi px bq = (l_X8_rest_17 nw fi px bq ki z3_6 (fun ki' z3_6' => l_X8_rest_6 nw fi px bq n6 ki' z3_6') (n17 + 1) kj z3_17) → va_P D vwCl [(ta, .inr (8, [.ref m_now, .ref m_undone, .ref m_slots, .ref m_slotKind, .ref m_hasSlot, .ref m_sheetBits, .ref m_sheetSize, .ref m_sheets, .int (nI u), .int fi, .ref m_fresh, .long aa, .long bb, .long dd, .int (nI ro), .ref m_rootWhich, .int db, .ref m_signs, .ref m_atNought, .int (nI mn), .ref m_change, .ref m_table, .ref m_carried])), (m_now, .inl (cy 0, 29, .inl nw))] H → va_D A [(ta, .inr (8, [.ref m_now, .ref m_undone, .ref m_slots, .ref m_slotKind, .ref m_hasSlot, .ref m_sheetBits, .ref m_sheetSize, .ref m_sheets, .int (nI u), .int fi, .ref m_fresh, .long aa, .long bb, .long dd, .int (nI ro), .ref m_rootWhich, .int db, .ref m_signs, .ref m_atNought, .int (nI mn), .ref m_change, .ref m_table, .ref m_carried])), (m_now, .inl (cy 0, 29, .inl nw))] → va_S A s.heap H locs → lv_has ls 6 [(0, .ref ta), (1, .int px), (2, .int bq), (3, .int z3_17), (4, .int (nI ki - 6)), (5, .int (nI kj - 6))] → W p l e R s m args below meth c H locs 0 0 Q (F0 m 17 ls []) := by
          clear hP hD hS hl hF
          intro M9
          induction M9 with
          | zero => intro n17 kj _ _ _ _ hn; exact absurd hn (Nat.not_lt_zero _)
          | succ M9 ih17 =>
            intro n17 kj z3_17 H locs ls hn17 hk17 hF hP hD hS hl
            refine lv_iload hx hb dX8_rest_17 (lv_at hl 5 rfl) ?_
            refine lv_bipush (v := 6) hx hb dX8_rest_19 (by decide) ?_
            refine lv_icmp_gt (tgt := 63) hx hb dX8_rest_21 (by decide) (fun hc2 => ?_) (fun hc2 => ?_)
            · replace hF := hF.trans (if_pos hc2)
              refine lv_iinc (v := ((nI ki - 6) + 1)) (lv' := [(4, .int ((nI ki - 6) + 1)), (0, .ref ta), (1, .int px), (2, .int bq), (3, .int z3_17), (5, .int (nI kj - 6))]) hx hb dX8_rest_63 hl (k := 4) rfl (yk_incg _) (by decide) rfl (fun ls hl9 => ?_)
              replace hl := hl9
              clear hl9
              refine lv_goto (tgt := 6) hx hb dX8_rest_66 (by decide) ?_
              obtain ⟨n9, rfl⟩ : ∃ n9, n6 = n9 + 1 := ⟨n6 - 1, by omega⟩
              rw [yk_off ki 6] at hl
              exact ih6 n9 (ki + 1) z3_17 _ _ _ (by omega) (by omega)  hF hP hD hS (lv_sub hl [1, 2, 3, 4, 0] rfl)
            · replace hF := hF.trans (if_neg hc2)
              have hlt17 : kj < 13 := yk_lt6 hk17 hc2
              refine lv_aload_n hx hb dX8_rest_24 rfl (lv_at hl 0 rfl) ?_
              refine lv_iload hx hb dX8_rest_25 (lv_at hl 4 rfl) ?_
              refine lv_iload hx hb dX8_rest_27 (lv_at hl 5 rfl) ?_
              refine yk_i [0, 1] (va_runV (As := [.int (nI ki - 6), .int (nI kj - 6)]) (rest := []) ⟨hx, hb, hml, hown, hts⟩ (c_X8_isRest l D cy ta m_now m_undone m_slots m_slotKind m_hasSlot m_sheetBits m_sheetSize m_sheets m_fresh m_rootWhich m_signs m_atNought m_change m_table m_carried nw u fi aa bb dd ro db mn (nI ki - 6) (nI kj - 6) H.size) (cwV 2 hts gX8_rest_X8_isRest rfl rfl rfl hv_X8_isRest (yk_room hRf hRl rfl rfl)) (yk_pv (q := (RX8, TX8, 23)) hG hA hS hK hP hD [0, 1] (by decide +kernel) rfl rfl rfl) rfl rfl hl.1 rfl (lv_room (Nat.le_of_ble_eq_true rfl)) dX8_rest_29 ⟨Nat.zero_le _, Nat.zero_le _⟩) hP hD hS hA rfl (Eq.trans (b := [ta, m_now]) rfl rfl) (fun H locs hP9 hD9 hS9 => ?_)
              replace hP : va_P D vwCl [(ta, .inr (8, [.ref m_now, .ref m_undone, .ref m_slots, .ref m_slotKind, .ref m_hasSlot, .ref m_sheetBits, .ref m_sheetSize, .ref m_sheets, .int (nI u), .int fi, .ref m_fresh, .long aa, .long bb, .long dd, .int (nI ro), .ref m_rootWhich, .int db, .ref m_signs, .ref m_atNought, .int (nI mn), .ref m_change, .ref m_table, .ref m_carried])), (m_now, .inl (cy 0, 29, .inl nw))] H := hP9
              replace hD : va_D A [(ta, .inr (8, [.ref m_now, .ref m_undone, .ref m_slots, .ref m_slotKind, .ref m_hasSlot, .ref m_sheetBits, .ref m_sheetSize, .ref m_sheets, .int (nI u), .int fi, .ref m_fresh, .long aa, .long bb, .long dd, .int (nI ro), .ref m_rootWhich, .int db, .ref m_signs, .ref m_atNought, .int (nI mn), .ref m_change, .ref m_table, .ref m_carried])), (m_now, .inl (cy 0, 29, .inl nw))] := hD9
              replace hS := hS9
              clear hP9 hD9 hS9
              refine lv_if_ne (tgt := 38) hx hb dX8_rest_32 (by decide) (fun hc3 => ?_) (fun hc3 => ?_)
              · replace hF := hF.trans (if_neg hc3)
                refine lv_iload_n hx hb dX8_rest_38 rfl (lv_at hl 3 rfl) ?_
                refine lv_if_ne (tgt := 54) hx hb dX8_rest_39 (by decide) (fun hc4 => ?_) (fun hc4 => ?_)
                · replace hF := hF.trans (if_neg hc4)
                  refine lv_iinc (v := (z3_17 - 1)) (lv' := [(3, .int (z3_17 - 1)), (0, .ref ta), (1, .int px), (2, .int bq), (4, .int (nI ki - 6)), (5, .int (nI kj - 6))]) hx hb dX8_rest_54 hl (k := 3) rfl (yk_decg _) (by decide) rfl (fun ls hl9 => ?_)
                  replace hl := hl9
                  clear hl9
                  refine lv_iinc (v := ((nI kj - 6) + 1)) (lv' := [(5, .int ((nI kj - 6) + 1)), (3, .int (z3_17 - 1)), (0, .ref ta), (1, .int px), (2, .int bq), (4, .int (nI ki - 6))]) hx hb dX8_rest_57 hl (k := 5) rfl (yk_incg _) (by decide) rfl (fun ls hl9 => ?_)
                  replace hl := hl9
                  clear hl9
                  refine lv_goto (tgt := 17) hx hb dX8_rest_60 (by decide) ?_
                  obtain ⟨n9, rfl⟩ : ∃ n9, n17 = n9 + 1 := ⟨n17 - 1, by omega⟩
                  rw [yk_off kj 6] at hl
                  exact ih17 n9 (kj + 1) (z3_17 - 1) _ _ _ (by omega) (by omega)  hF hP hD hS (lv_sub hl [2, 3, 4, 1, 5, 0] rfl)
                · replace hF := hF.trans (if_pos hc4)
                  refine lv_iload_n hx hb dX8_rest_42 rfl (lv_at hl 2 rfl) ?_
                  have J7 : ∀ (v6 : Int32) (H : Heap) (locs : List Loc) (ls : Array Slot), v6 = (if bq = 0 then (nI ki - 6) else (nI kj - 6)) → va_P D vwCl [(ta, .inr (8, [.ref m_now, .ref m_undone, .ref m_slots, .ref m_slotKind, .ref m_hasSlot, .ref m_sheetBits, .ref m_sheetSize, .ref m_sheets, .int (nI u), .int fi, .ref m_fresh, .long aa, .long bb, .long dd, .int (nI ro), .ref m_rootWhich, .int db, .ref m_signs, .ref m_atNought, .int (nI mn), .ref m_change, .ref m_table, .ref m_carried])), (m_now, .inl (cy 0, 29, .inl nw))] H → va_D A [(ta, .inr (8, [.ref m_now, .ref m_undone, .ref m_slots, .ref m_slotKind, .ref m_hasSlot, .ref m_sheetBits, .ref m_sheetSize, .ref m_sheets, .int (nI u), .int fi, .ref m_fresh, .long aa, .long bb, .long dd, .int (nI ro), .ref m_rootWhich, .int db, .ref m_signs, .ref m_atNought, .int (nI mn), .ref m_change, .ref m_table, .ref m_carried])), (m_now, .inl (cy 0, 29, .inl nw))] → va_S A s.heap H locs → lv_has ls 6 [(0, .ref ta), (1, .int px), (2, .int bq), (3, .int z3_17), (4, .int (nI ki - 6)), (5, .int (nI kj - 6))] → W p l e R s m args below meth c H locs 0 0 Q (F0 m 53 ls [.int v6]) := by
                    clear hP hD hS hl
                    intro v6 H locs ls ev6
                    rw [ev6]
                    clear ev6
                    intro hP hD hS hl
                    have hF : f_X8_rest nw fi px bq = ((if bq = 0 then (nI ki - 6) else (nI kj - 6)), fi) := hF
                    have hf0 := yk_fst hF
                    have hg0 := yk_snd hF
                    rw [hf0, hg0] at hQ
                    exact hQ _ _ _ _ dX8_rest_53 hP hS
                  refine lv_if_eq (tgt := 51) hx hb dX8_rest_43 (by decide) (fun hc5 => ?_) (fun hc5 => ?_)
                  · refine lv_iload hx hb dX8_rest_51 (lv_at hl 4 rfl) ?_
                    exact J7 _ _ _ _ ((if_pos hc5).symm) hP hD hS (lv_sub hl [0, 1, 2, 3, 4, 5] rfl)
                  · refine lv_iload hx hb dX8_rest_46 (lv_at hl 5 rfl) ?_
                    refine lv_goto (tgt := 53) hx hb dX8_rest_48 (by decide) ?_
                    exact J7 _ _ _ _ ((if_neg hc5).symm) hP hD hS (lv_sub hl [0, 1, 2, 3, 4, 5] rfl)
              · replace hF := hF.trans (if_pos hc3)
                refine lv_goto (tgt := 57) hx hb dX8_rest_35 (by decide) ?_
                refine lv_iinc (v := ((nI kj - 6) + 1)) (lv' := [(5, .int ((nI kj - 6) + 1)), (0, .ref ta), (1, .int px), (2, .int bq), (3, .int z3_17), (4, .int (nI ki - 6))]) hx hb dX8_rest_57 hl (k := 5) rfl (yk_incg _) (by decide) rfl (fun ls hl9 => ?_)
                replace hl := hl9
                clear hl9
                refine lv_goto (tgt := 17) hx hb dX8_rest_60 (by decide) ?_
                obtain ⟨n9, rfl⟩ : ∃ n9, n17 = n9 + 1 := ⟨n17 - 1, by omega⟩
                rw [yk_off kj 6] at hl
                exact ih17 n9 (kj + 1) z3_17 _ _ _ (by omega) (by omega)  hF hP hD hS (lv_sub hl [1, 2, 3, 4, 5, 0] rfl)
        rw [show (-6 : Int32) = nI 0 - 6 from rfl] at hl
        exact L17 (13 + 1) 13 0 z3_6 _ _ _ (Nat.lt_succ_self _) (by omega)  hF hP hD hS (lv_sub hl [1, 2, 3, 4, 5, 0] rfl)
  rw [show (-6 : Int32) = nI 0 - 6 from rfl] at hl
  exact L6 (13 + 1) 13 0 px _ _ _ (Nat.lt_succ_self _) (by omega)  hF hP hD hS (lv_sub hl [2, 3, 4, 1, 0] rfl)
