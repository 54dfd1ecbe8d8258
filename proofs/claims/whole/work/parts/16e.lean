theorem hv_X8_spreadAt : yX8_spreadAt.cls = RX8 ∧ yX8_spreadAt.cls ≠ "java/lang/invoke/MethodHandle" ∧ yX8_spreadAt.cls ≠ "java/lang/invoke/VarHandle" ∧ (parseMethodDescriptor yX8_spreadAt.desc).map (fun d => d.parameters.length) = some 2 := by decide +kernel
theorem hs_X8_spreadAt : yX8_spreadAt.cls ≠ "java/lang/invoke/MethodHandle" ∧ yX8_spreadAt.cls ≠ "java/lang/invoke/VarHandle" ∧ (parseMethodDescriptor yX8_spreadAt.desc).map (fun d => d.parameters.length) = some 2 := by decide +kernel
theorem hv_X8_form : yX8_form.cls = RX8 ∧ yX8_form.cls ≠ "java/lang/invoke/MethodHandle" ∧ yX8_form.cls ≠ "java/lang/invoke/VarHandle" ∧ (parseMethodDescriptor yX8_form.desc).map (fun d => d.parameters.length) = some 1 := by decide +kernel
theorem hs_X8_form : yX8_form.cls ≠ "java/lang/invoke/MethodHandle" ∧ yX8_form.cls ≠ "java/lang/invoke/VarHandle" ∧ (parseMethodDescriptor yX8_form.desc).map (fun d => d.parameters.length) = some 1 := by decide +kernel
theorem hv_X8_isSlot : yX8_isSlot.cls = RX8 ∧ yX8_isSlot.cls ≠ "java/lang/invoke/MethodHandle" ∧ yX8_isSlot.cls ≠ "java/lang/invoke/VarHandle" ∧ (parseMethodDescriptor yX8_isSlot.desc).map (fun d => d.parameters.length) = some 1 := by decide +kernel
theorem hs_X8_isSlot : yX8_isSlot.cls ≠ "java/lang/invoke/MethodHandle" ∧ yX8_isSlot.cls ≠ "java/lang/invoke/VarHandle" ∧ (parseMethodDescriptor yX8_isSlot.desc).map (fun d => d.parameters.length) = some 1 := by decide +kernel
theorem hv_X8_kindOf : yX8_kindOf.cls = RX8 ∧ yX8_kindOf.cls ≠ "java/lang/invoke/MethodHandle" ∧ yX8_kindOf.cls ≠ "java/lang/invoke/VarHandle" ∧ (parseMethodDescriptor yX8_kindOf.desc).map (fun d => d.parameters.length) = some 0 := by decide +kernel
theorem hs_X8_kindOf : yX8_kindOf.cls ≠ "java/lang/invoke/MethodHandle" ∧ yX8_kindOf.cls ≠ "java/lang/invoke/VarHandle" ∧ (parseMethodDescriptor yX8_kindOf.desc).map (fun d => d.parameters.length) = some 0 := by decide +kernel
theorem kX8_none_0 : Cond.constant RX8 68 (-1000001) ∈ wsX8_none := by decide +kernel
def l_X8_none_44 (nw : Nat → Int32) (fi : Int32) (pa : Int32) (pb : Int32) (pc_ : Int32) (pd : Int32) : Nat → Nat → Int32 → Int32 → Int32 × Int32
  | 0, ki, z5_44, z6_44 => (z5_44, z6_44)
  | fu_X8_none_44 + 1, ki, z5_44, z6_44 => (if 4 ≤ (nI ki) then (z5_44, z6_44) else (l_X8_none_44 nw fi pa pb pc_ pd fu_X8_none_44 (ki + 1) (z5_44 + (if ((f_X8_spreadAt nw (if ((nI ki) - (nI ki) / 2 * 2) = 0 then pa else pc_) (if 2 ≤ (nI ki) then pd else pb)) : Int32) ≤ 0 then 0 else 1)) (z6_44 + (if 0 ≤ ((f_X8_spreadAt nw (if ((nI ki) - (nI ki) / 2 * 2) = 0 then pa else pc_) (if 2 ≤ (nI ki) then pd else pb)) : Int32) then 0 else 1))))
def f_X8_none (nw : Nat → Int32) (fi : Int32) (pa : Int32) (pb : Int32) (pc_ : Int32) (pd : Int32) : Int32 × Int32 := (if (f_X8_isPlace pa pb) = 0 then (((f_X8_found fi (-1000001)).1), ((f_X8_found fi (-1000001)).2)) else (if (f_X8_isPlace pc_ pd) = 0 then (((f_X8_found fi (-1000001)).1), ((f_X8_found fi (-1000001)).2)) else (if pc_ ≤ pa then (((f_X8_found fi (-1000001)).1), ((f_X8_found fi (-1000001)).2)) else (if pb < pd then ((if ((l_X8_none_44 nw fi pa pb pc_ pd (4 + 1) 0 0 0).1) ≤ 0 then (if ((l_X8_none_44 nw fi pa pb pc_ pd (4 + 1) 0 0 0).2) ≤ 0 then 0 else (if ((l_X8_none_44 nw fi pa pb pc_ pd (4 + 1) 0 0 0).1) = 0 then (-1) else 0)) else (if ((l_X8_none_44 nw fi pa pb pc_ pd (4 + 1) 0 0 0).2) = 0 then 1 else (if ((l_X8_none_44 nw fi pa pb pc_ pd (4 + 1) 0 0 0).2) ≤ 0 then 0 else (if ((l_X8_none_44 nw fi pa pb pc_ pd (4 + 1) 0 0 0).1) = 0 then (-1) else 0)))), fi) else (((f_X8_found fi (-1000001)).1), ((f_X8_found fi (-1000001)).2))))))
set_option maxHeartbeats 400000000 in
set_option maxRecDepth 100000 in
theorem c_X8_none (l : Launch) (D : va_G) (cy : Nat → ClassId) (ta : Nat) (m_now : Nat) (m_undone : Nat) (m_slots : Nat) (m_slotKind : Nat) (m_hasSlot : Nat) (m_sheetBits : Nat) (m_sheetSize : Nat) (m_sheets : Nat) (m_fresh : Nat) (m_rootWhich : Nat) (m_signs : Nat) (m_atNought : Nat) (m_change : Nat) (m_table : Nat) (m_carried : Nat) (nw : Nat → Int32) (u : Nat) (fi : Int32) (aa : Int64) (bb : Int64) (dd : Int64) (ro : Nat) (db : Int32) (mn : Nat) (pa : Int32) (pb : Int32) (pc_ : Int32) (pd : Int32) : yk_Ci l D vwCl (yk_ty cy) yX8_none wsX8_none 3 68 [.ref ta, .int pa, .int pb, .int pc_, .int pd] [(ta, .inr (8, [.ref m_now, .ref m_undone, .ref m_slots, .ref m_slotKind, .ref m_hasSlot, .ref m_sheetBits, .ref m_sheetSize, .ref m_sheets, .int (nI u), .int fi, .ref m_fresh, .long aa, .long bb, .long dd, .int (nI ro), .ref m_rootWhich, .int db, .ref m_signs, .ref m_atNought, .int (nI mn), .ref m_change, .ref m_table, .ref m_carried])), (m_now, .inl (cy 0, 29, .inl nw))] ((f_X8_none nw fi pa pb pc_ pd).1) [(ta, .inr (8, [.ref m_now, .ref m_undone, .ref m_slots, .ref m_slotKind, .ref m_hasSlot, .ref m_sheetBits, .ref m_sheetSize, .ref m_sheets, .int (nI u), .int ((f_X8_none nw fi pa pb pc_ pd).2), .ref m_fresh, .long aa, .long bb, .long dd, .int (nI ro), .ref m_rootWhich, .int db, .ref m_signs, .ref m_atNought, .int (nI mn), .ref m_change, .ref m_table, .ref m_carried])), (m_now, .inl (cy 0, 29, .inl nw))] := by
  refine yk_eI (cc := cX8_none) (maxL := 9) (by decide) rfl (Nat.le_of_ble_eq_true rfl) rfl ?_
  intro p e R s m args below meth c A Q ls H locs hx hb hml hown hts hRf hRl hA hK hG hP hD hS hl hQ
  have hP : va_P D vwCl [(ta, .inr (8, [.ref m_now, .ref m_undone, .ref m_slots, .ref m_slotKind, .ref m_hasSlot, .ref m_sheetBits, .ref m_sheetSize, .ref m_sheets, .int (nI u), .int fi, .ref m_fresh, .long aa, .long bb, .long dd, .int (nI ro), .ref m_rootWhich, .int db, .ref m_signs, .ref m_atNought, .int (nI mn), .ref m_change, .ref m_table, .ref m_carried])), (m_now, .inl (cy 0, 29, .inl nw))] H := hP
  have hl : lv_has ls 9 [(0, .ref ta), (1, .int pa), (2, .int pb), (3, .int pc_), (4, .int pd)] := hl
  have hown : s.vm.findClass RX8 = some m.cls := hown
  have hF : (f_X8_none nw fi pa pb pc_ pd) = (f_X8_none nw fi pa pb pc_ pd) := rfl
  refine lv_iload_n hx hb dX8_none_0 rfl (lv_at hl 1 rfl) ?_
  refine lv_iload_n hx hb dX8_none_1 rfl (lv_at hl 2 rfl) ?_
  refine yk_i [] (va_runS (As := [.int pa, .int pb]) (rest := []) ⟨hx, hb, hml, hown, hts⟩ (c_X8_isPlace l D cy pa pb H.size) (va_cwS 2 hts gX8_none_X8_isPlace rfl rfl rfl hs_X8_isPlace (yk_room hRf hRl rfl rfl)) (yk_ps hG hA hS hK hP hD [] (by decide +kernel) rfl) rfl rfl hl.1 rfl (lv_room (Nat.le_of_ble_eq_true rfl)) dX8_none_2 ⟨Nat.zero_le _, Nat.zero_le _⟩) hP hD hS hA rfl rfl (fun H locs hP9 hD9 hS9 => ?_)
  replace hP : va_P D vwCl [(ta, .inr (8, [.ref m_now, .ref m_undone, .ref m_slots, .ref m_slotKind, .ref m_hasSlot, .ref m_sheetBits, .ref m_sheetSize, .ref m_sheets, .int (nI u), .int fi, .ref m_fresh, .long aa, .long bb, .long dd, .int (nI ro), .ref m_rootWhich, .int db, .ref m_signs, .ref m_atNought, .int (nI mn), .ref m_change, .ref m_table, .ref m_carried])), (m_now, .inl (cy 0, 29, .inl nw))] H := hP9
  replace hD : va_D A [(ta, .inr (8, [.ref m_now, .ref m_undone, .ref m_slots, .ref m_slotKind, .ref m_hasSlot, .ref m_sheetBits, .ref m_sheetSize, .ref m_sheets, .int (nI u), .int fi, .ref m_fresh, .long aa, .long bb, .long dd, .int (nI ro), .ref m_rootWhich, .int db, .ref m_signs, .ref m_atNought, .int (nI mn), .ref m_change, .ref m_table, .ref m_carried])), (m_now, .inl (cy 0, 29, .inl nw))] := hD9
  replace hS := hS9
  clear hP9 hD9 hS9
  refine lv_if_eq (tgt := 28) hx hb dX8_none_5 (by decide) (fun hc1 => ?_) (fun hc1 => ?_)
  · replace hF := hF.trans (if_pos hc1)
    refine lv_aload_n hx hb dX8_none_28 rfl (lv_at hl 0 rfl) ?_
    refine lv_ldc (v := (-1000001)) hx hb hown (hts _ kX8_none_0) dX8_none_29 ?_
    refine yk_i [0] (va_runV (As := [.int (-1000001)]) (rest := []) ⟨hx, hb, hml, hown, hts⟩ (c_X8_found l D cy ta m_now m_undone m_slots m_slotKind m_hasSlot m_sheetBits m_sheetSize m_sheets m_fresh m_rootWhich m_signs m_atNought m_change m_table m_carried u fi aa bb dd ro db mn (-1000001) H.size) (cwV 1 hts gX8_none_X8_found rfl rfl rfl hv_X8_found (yk_room hRf hRl rfl rfl)) (yk_pv (q := (RX8, TX8, 23)) hG hA hS hK hP hD [0] (by decide +kernel) rfl rfl rfl) rfl rfl hl.1 rfl (lv_room (Nat.le_of_ble_eq_true rfl)) dX8_none_31 ⟨Nat.zero_le _, Nat.zero_le _⟩) hP hD hS hA rfl rfl (fun H locs hP9 hD9 hS9 => ?_)
    replace hP : va_P D vwCl [(ta, .inr (8, [.ref m_now, .ref m_undone, .ref m_slots, .ref m_slotKind, .ref m_hasSlot, .ref m_sheetBits, .ref m_sheetSize, .ref m_sheets, .int (nI u), .int ((f_X8_found fi (-1000001)).2), .ref m_fresh, .long aa, .long bb, .long dd, .int (nI ro), .ref m_rootWhich, .int db, .ref m_signs, .ref m_atNought, .int (nI mn), .ref m_change, .ref m_table, .ref m_carried])), (m_now, .inl (cy 0, 29, .inl nw))] H := hP9
    replace hD : va_D A [(ta, .inr (8, [.ref m_now, .ref m_undone, .ref m_slots, .ref m_slotKind, .ref m_hasSlot, .ref m_sheetBits, .ref m_sheetSize, .ref m_sheets, .int (nI u), .int ((f_X8_found fi (-1000001)).2), .ref m_fresh, .long aa, .long bb, .long dd, .int (nI ro), .ref m_rootWhich, .int db, .ref m_signs, .ref m_atNought, .int (nI mn), .ref m_change, .ref m_table, .ref m_carried])), (m_now, .inl (cy 0, 29, .inl nw))] := hD9
    replace hS := hS9
    clear hP9 hD9 hS9
    have hF : f_X8_none nw fi pa pb pc_ pd = (((f_X8_found fi (-1000001)).1), ((f_X8_found fi (-1000001)).2)) := hF
    have hf0 := yk_fst hF
    have hg0 := yk_snd hF
    rw [hf0, hg0] at hQ
    exact hQ _ _ _ _ dX8_none_34 hP hS
  · replace hF := hF.trans (if_neg hc1)
    refine lv_iload_n hx hb dX8_none_8 rfl (lv_at hl 3 rfl) ?_
    refine lv_iload hx hb dX8_none_9 (lv_at hl 4 rfl) ?_
    refine yk_i [] (va_runS (As := [.int pc_, .int pd]) (rest := []) ⟨hx, hb, hml, hown, hts⟩ (c_X8_isPlace l D cy pc_ pd H.size) (va_cwS 2 hts gX8_none_X8_isPlace rfl rfl rfl hs_X8_isPlace (yk_room hRf hRl rfl rfl)) (yk_ps hG hA hS hK hP hD [] (by decide +kernel) rfl) rfl rfl hl.1 rfl (lv_room (Nat.le_of_ble_eq_true rfl)) dX8_none_11 ⟨Nat.zero_le _, Nat.zero_le _⟩) hP hD hS hA rfl rfl (fun H locs hP9 hD9 hS9 => ?_)
    replace hP : va_P D vwCl [(ta, .inr (8, [.ref m_now, .ref m_undone, .ref m_slots, .ref m_slotKind, .ref m_hasSlot, .ref m_sheetBits, .ref m_sheetSize, .ref m_sheets, .int (nI u), .int fi, .ref m_fresh, .long aa, .long bb, .long dd, .int (nI ro), .ref m_rootWhich, .int db, .ref m_signs, .ref m_atNought, .int (nI mn), .ref m_change, .ref m_table, .ref m_carried])), (m_now, .inl (cy 0, 29, .inl nw))] H := hP9
    replace hD : va_D A [(ta, .inr (8, [.ref m_now, .ref m_undone, .ref m_slots, .ref m_slotKind, .ref m_hasSlot, .ref m_sheetBits, .ref m_sheetSize, .ref m_sheets, .int (nI u), .int fi, .ref m_fresh, .long aa, .long bb, .long dd, .int (nI ro), .ref m_rootWhich, .int db, .ref m_signs, .ref m_atNought, .int (nI mn), .ref m_change, .ref m_table, .ref m_carried])), (m_now, .inl (cy 0, 29, .inl nw))] := hD9
    replace hS := hS9
    clear hP9 hD9 hS9
    refine lv_if_eq (tgt := 28) hx hb dX8_none_14 (by decide) (fun hc2 => ?_) (fun hc2 => ?_)
    · replace hF := hF.trans (if_pos hc2)
      refine lv_aload_n hx hb dX8_none_28 rfl (lv_at hl 0 rfl) ?_
      refine lv_ldc (v := (-1000001)) hx hb hown (hts _ kX8_none_0) dX8_none_29 ?_
      refine yk_i [0] (va_runV (As := [.int (-1000001)]) (rest := []) ⟨hx, hb, hml, hown, hts⟩ (c_X8_found l D cy ta m_now m_undone m_slots m_slotKind m_hasSlot m_sheetBits m_sheetSize m_sheets m_fresh m_rootWhich m_signs m_atNought m_change m_table m_carried u fi aa bb dd ro db mn (-1000001) H.size) (cwV 1 hts gX8_none_X8_found rfl rfl rfl hv_X8_found (yk_room hRf hRl rfl rfl)) (yk_pv (q := (RX8, TX8, 23)) hG hA hS hK hP hD [0] (by decide +kernel) rfl rfl rfl) rfl rfl hl.1 rfl (lv_room (Nat.le_of_ble_eq_true rfl)) dX8_none_31 ⟨Nat.zero_le _, Nat.zero_le _⟩) hP hD hS hA rfl rfl (fun H locs hP9 hD9 hS9 => ?_)
      replace hP : va_P D vwCl [(ta, .inr (8, [.ref m_now, .ref m_undone, .ref m_slots, .ref m_slotKind, .ref m_hasSlot, .ref m_sheetBits, .ref m_sheetSize, .ref m_sheets, .int (nI u), .int ((f_X8_found fi (-1000001)).2), .ref m_fresh, .long aa, .long bb, .long dd, .int (nI ro), .ref m_rootWhich, .int db, .ref m_signs, .ref m_atNought, .int (nI mn), .ref m_change, .ref m_table, .ref m_carried])), (m_now, .inl (cy 0, 29, .inl nw))] H := hP9
      replace hD : va_D A [(ta, .inr (8, [.ref m_now, .ref m_undone, .ref m_slots, .ref m_slotKind, .ref m_hasSlot, .ref m_sheetBits, .ref m_sheetSize, .ref m_sheets, .int (nI u), .int ((f_X8_found fi (-1000001)).2), .ref m_fresh, .long aa, .long bb, .long dd, .int (nI ro), .ref m_rootWhich, .int db, .ref m_signs, .ref m_atNought, .int (nI mn), .ref m_change, .ref m_table, .ref m_carried])), (m_now, .inl (cy 0, 29, .inl nw))] := hD9
      replace hS := hS9
      clear hP9 hD9 hS9
      have hF : f_X8_none nw fi pa pb pc_ pd = (((f_X8_found fi (-1000001)).1), ((f_X8_found fi (-1000001)).2)) := hF
      have hf0 := yk_fst hF
      have hg0 := yk_snd hF
      rw [hf0, hg0] at hQ
      exact hQ _ _ _ _ dX8_none_34 hP hS
    · replace hF := hF.trans (if_neg hc2)
      refine lv_iload_n hx hb dX8_none_17 rfl (lv_at hl 1 rfl) ?_
      refine lv_iload_n hx hb dX8_none_18 rfl (lv_at hl 3 rfl) ?_
      refine lv_icmp_ge (tgt := 28) hx hb dX8_none_19 (by decide) (fun hc3 => ?_) (fun hc3 => ?_)
      · replace hF := hF.trans (if_pos hc3)
        refine lv_aload_n hx hb dX8_none_28 rfl (lv_at hl 0 rfl) ?_
        refine lv_ldc (v := (-1000001)) hx hb hown (hts _ kX8_none_0) dX8_none_29 ?_
        refine yk_i [0] (va_runV (As := [.int (-1000001)]) (rest := []) ⟨hx, hb, hml, hown, hts⟩ (c_X8_found l D cy ta m_now m_undone m_slots m_slotKind m_hasSlot m_sheetBits m_sheetSize m_sheets m_fresh m_rootWhich m_signs m_atNought m_change m_table m_carried u fi aa bb dd ro db mn (-1000001) H.size) (cwV 1 hts gX8_none_X8_found rfl rfl rfl hv_X8_found (yk_room hRf hRl rfl rfl)) (yk_pv (q := (RX8, TX8, 23)) hG hA hS hK hP hD [0] (by decide +kernel) rfl rfl rfl) rfl rfl hl.1 rfl (lv_room (Nat.le_of_ble_eq_true rfl)) dX8_none_31 ⟨Nat.zero_le _, Nat.zero_le _⟩) hP hD hS hA rfl rfl (fun H locs hP9 hD9 hS9 => ?_)
        replace hP : va_P D vwCl [(ta, .inr (8, [.ref m_now, .ref m_undone, .ref m_slots, .ref m_slotKind, .ref m_hasSlot, .ref m_sheetBits, .ref m_sheetSize, .ref m_sheets, .int (nI u), .int ((f_X8_found fi (-1000001)).2), .ref m_fresh, .long aa, .long bb, .long dd, .int (nI ro), .ref m_rootWhich, .int db, .ref m_signs, .ref m_atNought, .int (nI mn), .ref m_change, .ref m_table, .ref m_carried])), (m_now, .inl (cy 0, 29, .inl nw))] H := hP9
        replace hD : va_D A [(ta, .inr (8, [.ref m_now, .ref m_undone, .ref m_slots, .ref m_slotKind, .ref m_hasSlot, .ref m_sheetBits, .ref m_sheetSize, .ref m_sheets, .int (nI u), .int ((f_X8_found fi (-1000001)).2), .ref m_fresh, .long aa, .long bb, .long dd, .int (nI ro), .ref m_rootWhich, .int db, .ref m_signs, .ref m_atNought, .int (nI mn), .ref m_change, .ref m_table, .ref m_carried])), (m_now, .inl (cy 0, 29, .inl nw))] := hD9
        replace hS := hS9
        clear hP9 hD9 hS9
        have hF : f_X8_none nw fi pa pb pc_ pd = (((f_X8_found fi (-1000001)).1), ((f_X8_found fi (-1000001)).2)) := hF
        have hf0 := yk_fst hF
        have hg0 := yk_snd hF
        rw [hf0, hg0] at hQ
        exact hQ _ _ _ _ dX8_none_34 hP hS
      · replace hF := hF.trans (if_neg hc3)
        refine lv_iload_n hx hb dX8_none_22 rfl (lv_at hl 2 rfl) ?_
        refine lv_iload hx hb dX8_none_23 (lv_at hl 4 rfl) ?_
        refine lv_icmp_lt (tgt := 35) hx hb dX8_none_25 (by decide) (fun hc4 => ?_) (fun hc4 => ?_)
        · replace hF := hF.trans (if_pos hc4)
          refine lv_iconst (v := 0) hx hb dX8_none_35 (by decide) ?_
          refine lv_istore (lv' := [(5, .int 0), (0, .ref ta), (1, .int pa), (2, .int pb), (3, .int pc_), (4, .int pd)]) hx hb dX8_none_36 hl (by decide) rfl (fun ls hl9 => ?_)
          replace hl := hl9
          clear hl9
          refine lv_iconst (v := 0) hx hb dX8_none_38 (by decide) ?_
          refine lv_istore (lv' := [(6, .int 0), (5, .int 0), (0, .ref ta), (1, .int pa), (2, .int pb), (3, .int pc_), (4, .int pd)]) hx hb dX8_none_39 hl (by decide) rfl (fun ls hl9 => ?_)
          replace hl := hl9
          clear hl9
          refine lv_iconst (v := 0) hx hb dX8_none_41 (by decide) ?_
          refine lv_istore (lv' := [(7, .int 0), (6, .int 0), (5, .int 0), (0, .ref ta), (1, .int pa), (2, .int pb), (3, .int pc_), (4, .int pd)]) hx hb dX8_none_42 hl (by decide) rfl (fun ls hl9 => ?_)
          replace hl := hl9
          clear hl9
          have J18 : ∀ (H : Heap) (locs : List Loc) (ls : Array Slot), va_P D vwCl [(ta, .inr (8, [.ref m_now, .ref m_undone, .ref m_slots, .ref m_slotKind, .ref m_hasSlot, .ref m_sheetBits, .ref m_sheetSize, .ref m_sheets, .int (nI u), .int fi, .ref m_fresh, .long aa, .long bb, .long dd, .int (nI ro), .ref m_rootWhich, .int db, .ref m_signs, .ref m_atNought, .int (nI mn), .ref m_change, .ref m_table, .ref m_carried])), (m_now, .inl (cy 0, 29, .inl nw))] H → va_D A [(ta, .inr (8, [.ref m_now, .ref m_undone, .ref m_slots, .ref m_slotKind, .ref m_hasSlot, .ref m_sheetBits, .ref m_sheetSize, .ref m_sheets, .int (nI u), .int fi, .ref m_fresh, .long aa, .long bb, .long dd, .int (nI ro), .ref m_rootWhich, .int db, .ref m_signs, .ref m_atNought, .int (nI mn), .ref m_change, .ref m_table, .ref m_carried])), (m_now, .inl (cy 0, 29, .inl nw))] → va_S A s.heap H locs → lv_has ls 9 [(0, .ref ta), (1, .int pa), (2, .int pb), (3, .int pc_), (4, .int pd), (5, .int ((l_X8_none_44 nw fi pa pb pc_ pd (4 + 1) 0 0 0).1)), (6, .int ((l_X8_none_44 nw fi pa pb pc_ pd (4 + 1) 0 0 0).2))] → W p l e R s m args below meth c H locs 0 0 Q (F0 m 116 ls []) := by
            clear hP hD hS hl
            intro H locs ls hP hD hS hl
            refine lv_iload hx hb dX8_none_116 (lv_at hl 5 rfl) ?_
            have J26 : ∀ (v25 : Int32) (H : Heap) (locs : List Loc) (ls : Array Slot), v25 = (if ((l_X8_none_44 nw fi pa pb pc_ pd (4 + 1) 0 0 0).1) ≤ 0 then (if ((l_X8_none_44 nw fi pa pb pc_ pd (4 + 1) 0 0 0).2) ≤ 0 then 0 else (if ((l_X8_none_44 nw fi pa pb pc_ pd (4 + 1) 0 0 0).1) = 0 then (-1) else 0)) else (if ((l_X8_none_44 nw fi pa pb pc_ pd (4 + 1) 0 0 0).2) = 0 then 1 else (if ((l_X8_none_44 nw fi pa pb pc_ pd (4 + 1) 0 0 0).2) ≤ 0 then 0 else (if ((l_X8_none_44 nw fi pa pb pc_ pd (4 + 1) 0 0 0).1) = 0 then (-1) else 0)))) → va_P D vwCl [(ta, .inr (8, [.ref m_now, .ref m_undone, .ref m_slots, .ref m_slotKind, .ref m_hasSlot, .ref m_sheetBits, .ref m_sheetSize, .ref m_sheets, .int (nI u), .int fi, .ref m_fresh, .long aa, .long bb, .long dd, .int (nI ro), .ref m_rootWhich, .int db, .ref m_signs, .ref m_atNought, .int (nI mn), .ref m_change, .ref m_table, .ref m_carried])), (m_now, .inl (cy 0, 29, .inl nw))] H → va_D A [(ta, .inr (8, [.ref m_now, .ref m_undone, .ref m_slots, .ref m_slotKind, .ref m_hasSlot, .ref m_sheetBits, .ref m_sheetSize, .ref m_sheets, .int (nI u), .int fi, .ref m_fresh, .long aa, .long bb, .long dd, .int (nI ro), .ref m_rootWhich, .int db, .ref m_signs, .ref m_atNought, .int (nI mn), .ref m_change, .ref m_table, .ref m_carried])), (m_now, .inl (cy 0, 29, .inl nw))] → va_S A s.heap H locs → lv_has ls 9 [(0, .ref ta), (1, .int pa), (2, .int pb), (3, .int pc_), (4, .int pd), (5, .int ((l_X8_none_44 nw fi pa pb pc_ pd (4 + 1) 0 0 0).1)), (6, .int ((l_X8_none_44 nw fi pa pb pc_ pd (4 + 1) 0 0 0).2))] → W p l e R s m args below meth c H locs 0 0 Q (F0 m 145 ls [.int v25]) := by
              clear hP hD hS hl
              intro v25 H locs ls ev25 hP hD hS hl
              subst ev25
              have hF : f_X8_none nw fi pa pb pc_ pd = ((if ((l_X8_none_44 nw fi pa pb pc_ pd (4 + 1) 0 0 0).1) ≤ 0 then (if ((l_X8_none_44 nw fi pa pb pc_ pd (4 + 1) 0 0 0).2) ≤ 0 then 0 else (if ((l_X8_none_44 nw fi pa pb pc_ pd (4 + 1) 0 0 0).1) = 0 then (-1) else 0)) else (if ((l_X8_none_44 nw fi pa pb pc_ pd (4 + 1) 0 0 0).2) = 0 then 1 else (if ((l_X8_none_44 nw fi pa pb pc_ pd (4 + 1) 0 0 0).2) ≤ 0 then 0 else (if ((l_X8_none_44 nw fi pa pb pc_ pd (4 + 1) 0 0 0).1) = 0 then (-1) else 0)))), fi) := hF
              have hf0 := yk_fst hF
              have hg0 := yk_snd hF
              rw [hf0, hg0] at hQ
              exact hQ _ _ _ _ dX8_none_145 hP hS
            refine lv_if_le (tgt := 130) hx hb dX8_none_118 (by decide) (fun hc19 => ?_) (fun hc19 => ?_)
            · refine lv_iload hx hb dX8_none_130 (lv_at hl 6 rfl) ?_
              refine lv_if_le (tgt := 144) hx hb dX8_none_132 (by decide) (fun hc20 => ?_) (fun hc20 => ?_)
              · refine lv_iconst (v := 0) hx hb dX8_none_144 (by decide) ?_
                exact J26 _ _ _ _ (((if_pos hc19).trans (if_pos hc20)).symm) hP hD hS (lv_sub hl [0, 1, 2, 3, 4, 5, 6] rfl)
              · refine lv_iload hx hb dX8_none_135 (lv_at hl 5 rfl) ?_
                refine lv_if_ne (tgt := 144) hx hb dX8_none_137 (by decide) (fun hc21 => ?_) (fun hc21 => ?_)
                · refine lv_iconst (v := 0) hx hb dX8_none_144 (by decide) ?_
                  exact J26 _ _ _ _ (((if_pos hc19).trans ((if_neg hc20).trans (if_neg hc21))).symm) hP hD hS (lv_sub hl [0, 1, 2, 3, 4, 5, 6] rfl)
                · refine lv_iconst (v := (-1)) hx hb dX8_none_140 (by decide) ?_
                  refine lv_goto (tgt := 145) hx hb dX8_none_141 (by decide) ?_
                  exact J26 _ _ _ _ (((if_pos hc19).trans ((if_neg hc20).trans (if_pos hc21))).symm) hP hD hS (lv_sub hl [0, 1, 2, 3, 4, 5, 6] rfl)
            · refine lv_iload hx hb dX8_none_121 (lv_at hl 6 rfl) ?_
              refine lv_if_ne (tgt := 130) hx hb dX8_none_123 (by decide) (fun hc22 => ?_) (fun hc22 => ?_)
              · refine lv_iload hx hb dX8_none_130 (lv_at hl 6 rfl) ?_
                refine lv_if_le (tgt := 144) hx hb dX8_none_132 (by decide) (fun hc23 => ?_) (fun hc23 => ?_)
                · refine lv_iconst (v := 0) hx hb dX8_none_144 (by decide) ?_
                  exact J26 _ _ _ _ (((if_neg hc19).trans ((if_neg hc22).trans (if_pos hc23))).symm) hP hD hS (lv_sub hl [0, 1, 2, 3, 4, 5, 6] rfl)
                · refine lv_iload hx hb dX8_none_135 (lv_at hl 5 rfl) ?_
                  refine lv_if_ne (tgt := 144) hx hb dX8_none_137 (by decide) (fun hc24 => ?_) (fun hc24 => ?_)
                  · refine lv_iconst (v := 0) hx hb dX8_none_144 (by decide) ?_
                    exact J26 _ _ _ _ (((if_neg hc19).trans ((if_neg hc22).trans ((if_neg hc23).trans (if_neg hc24)))).symm) hP hD hS (lv_sub hl [0, 1, 2, 3, 4, 5, 6] rfl)
                  · refine lv_iconst (v := (-1)) hx hb dX8_none_140 (by decide) ?_
                    refine lv_goto (tgt := 145) hx hb dX8_none_141 (by decide) ?_
                    exact J26 _ _ _ _ (((if_neg hc19).trans ((if_neg hc22).trans ((if_neg hc23).trans (if_pos hc24)))).symm) hP hD hS (lv_sub hl [0, 1, 2, 3, 4, 5, 6] rfl)
              · refine lv_iconst (v := 1) hx hb dX8_none_126 (by decide) ?_
                refine lv_goto (tgt := 145) hx hb dX8_none_127 (by decide) ?_
                exact J26 _ _ _ _ (((if_neg hc19).trans (if_pos hc22)).symm) hP hD hS (lv_sub hl [0, 1, 2, 3, 4, 5, 6] rfl)
          have L44 : ∀ (M9 n44 ki : Nat) (z5_44 : Int32) (z6_44 : Int32) (H : Heap) (locs : List Loc) (ls : Array Slot), n44 < M9 → ki + n44 = 4 → (l_X8_none_44 nw fi pa pb pc_ pd (4 + 1) 0 0 0) = (l_X8_none_44 nw fi pa pb pc_ pd (n44 + 1) ki z5_44 z6_44) → va_P D vwCl [(ta, .inr (8, [.ref m_now, .ref m_undone, .ref m_slots, .ref m_slotKind, .ref m_hasSlot, .ref m_sheetBits, .ref m_sheetSize, .ref m_sheets, .int (nI u), .int fi, .ref m_fresh, .long aa, .long bb, .long dd, .int (nI ro), .ref m_rootWhich, .int db, .ref m_signs, .ref m_atNought, .int (nI mn), .ref m_change, .ref m_table, .ref m_carried])), (m_now, .inl (cy 0, 29, .inl nw))] H → va_D A [(ta, .inr (8, [.ref m_now, .ref m_undone, .ref m_slots, .ref m_slotKind, .ref m_hasSlot, .ref m_sheetBits, .ref m_sheetSize, .ref m_sheets, .int (nI u), .int fi, .ref m_fresh, .long aa, .long bb, .long dd, .int (nI ro), .ref m_rootWhich, .int db, .ref m_signs, .ref m_atNought, .int (nI mn), .ref m_change, .ref m_table, .ref m_carried])), (m_now, .inl (cy 0, 29, .inl nw))] → va_S A s.heap H locs → lv_has ls 9 [(0, .ref ta), (1, .int pa), (2, .int pb), (3, .int pc_), (4, .int pd), (5, .int z5_44), (6, .int z6_44), (7, .int (nI ki))] → W p l e R s m args below meth c H locs 0 0 Q (F0 m 44 ls []) := by
            clear hP hD hS hl
            intro M9
            induction M9 with
            | zero => intro n44 ki _ _ _ _ _ hn; exact absurd hn (Nat.not_lt_zero _)
            | succ M9 ih44 =>
              intro n44 ki z5_44 z6_44 H locs ls hn44 hk44 hV44 hP hD hS hl
              refine lv_iload hx hb dX8_none_44 (lv_at hl 7 rfl) ?_
              refine lv_iconst (v := 4) hx hb dX8_none_46 (by decide) ?_
              refine lv_icmp_ge (tgt := 116) hx hb dX8_none_47 (by decide) (fun hc5 => ?_) (fun hc5 => ?_)
              · replace hV44 := hV44.trans (if_pos hc5)
                have hV44 : (l_X8_none_44 nw fi pa pb pc_ pd (4 + 1) 0 0 0) = (z5_44, z6_44) := hV44
                have J18 := J18
                rw [hV44] at J18
                exact J18 _ _ _ hP hD hS (lv_sub hl [0, 1, 2, 3, 4, 5, 6] rfl)
              · replace hV44 := hV44.trans (if_neg hc5)
                have hlt44 : ki < 4 := yk_lt hk44 (by omega) hc5
                refine lv_aload_n hx hb dX8_none_50 rfl (lv_at hl 0 rfl) ?_
                refine lv_iload hx hb dX8_none_51 (lv_at hl 7 rfl) ?_
                refine lv_iconst (v := 2) hx hb dX8_none_53 (by decide) ?_
                refine lv_irem hx hb dX8_none_54 (by decide) ?_
                have J8 : ∀ (v7 : Int32) (H : Heap) (locs : List Loc) (ls : Array Slot), v7 = (if ((nI ki) - (nI ki) / 2 * 2) = 0 then pa else pc_) → va_P D vwCl [(ta, .inr (8, [.ref m_now, .ref m_undone, .ref m_slots, .ref m_slotKind, .ref m_hasSlot, .ref m_sheetBits, .ref m_sheetSize, .ref m_sheets, .int (nI u), .int fi, .ref m_fresh, .long aa, .long bb, .long dd, .int (nI ro), .ref m_rootWhich, .int db, .ref m_signs, .ref m_atNought, .int (nI mn), .ref m_change, .ref m_table, .ref m_carried])), (m_now, .inl (cy 0, 29, .inl nw))] H → va_D A [(ta, .inr (8, [.ref m_now, .ref m_undone, .ref m_slots, .ref m_slotKind, .ref m_hasSlot, .ref m_sheetBits, .ref m_sheetSize, .ref m_sheets, .int (nI u), .int fi, .ref m_fresh, .long aa, .long bb, .long dd, .int (nI ro), .ref m_rootWhich, .int db, .ref m_signs, .ref m_atNought, .int (nI mn), .ref m_change, .ref m_table, .ref m_carried])), (m_now, .inl (cy 0, 29, .inl nw))] → va_S A s.heap H locs → lv_has ls 9 [(0, .ref ta), (1, .int pa), (2, .int pb), (3, .int pc_), (4, .int pd), (5, .int z5_44), (6, .int z6_44), (7, .int (nI ki))] → W p l e R s m args below meth c H locs 0 0 Q (F0 m 63 ls [.int v7, .ref ta]) := by
                  clear hP hD hS hl
                  intro v7 H locs ls ev7 hP hD hS hl
                  subst ev7
                  refine lv_iload hx hb dX8_none_63 (lv_at hl 7 rfl) ?_
                  refine lv_iconst (v := 2) hx hb dX8_none_65 (by decide) ?_
                  have J11 : ∀ (v10 : Int32) (H : Heap) (locs : List Loc) (ls : Array Slot), v10 = (if 2 ≤ (nI ki) then pd else pb) → va_P D vwCl [(ta, .inr (8, [.ref m_now, .ref m_undone, .ref m_slots, .ref m_slotKind, .ref m_hasSlot, .ref m_sheetBits, .ref m_sheetSize, .ref m_sheets, .int (nI u), .int fi, .ref m_fresh, .long aa, .long bb, .long dd, .int (nI ro), .ref m_rootWhich, .int db, .ref m_signs, .ref m_atNought, .int (nI mn), .ref m_change, .ref m_table, .ref m_carried])), (m_now, .inl (cy 0, 29, .inl nw))] H → va_D A [(ta, .inr (8, [.ref m_now, .ref m_undone, .ref m_slots, .ref m_slotKind, .ref m_hasSlot, .ref m_sheetBits, .ref m_sheetSize, .ref m_sheets, .int (nI u), .int fi, .ref m_fresh, .long aa, .long bb, .long dd, .int (nI ro), .ref m_rootWhich, .int db, .ref m_signs, .ref m_atNought, .int (nI mn), .ref m_change, .ref m_table, .ref m_carried])), (m_now, .inl (cy 0, 29, .inl nw))] → va_S A s.heap H locs → lv_has ls 9 [(0, .ref ta), (1, .int pa), (2, .int pb), (3, .int pc_), (4, .int pd), (5, .int z5_44), (6, .int z6_44), (7, .int (nI ki))] → W p l e R s m args below meth c H locs 0 0 Q (F0 m 75 ls [.int v10, .int (if ((nI ki) - (nI ki) / 2 * 2) = 0 then pa else pc_), .ref ta]) := by
                    clear hP hD hS hl
                    intro v10 H locs ls ev10 hP hD hS hl
                    subst ev10
                    refine yk_i [0, 1] (va_runV (As := [.int (if ((nI ki) - (nI ki) / 2 * 2) = 0 then pa else pc_), .int (if 2 ≤ (nI ki) then pd else pb)]) (rest := []) ⟨hx, hb, hml, hown, hts⟩ (c_X8_spreadAt l D cy ta m_now m_undone m_slots m_slotKind m_hasSlot m_sheetBits m_sheetSize m_sheets m_fresh m_rootWhich m_signs m_atNought m_change m_table m_carried nw u fi aa bb dd ro db mn (if ((nI ki) - (nI ki) / 2 * 2) = 0 then pa else pc_) (if 2 ≤ (nI ki) then pd else pb) H.size) (cwV 2 hts gX8_none_X8_spreadAt rfl rfl rfl hv_X8_spreadAt (yk_room hRf hRl rfl rfl)) (yk_pv (q := (RX8, TX8, 23)) hG hA hS hK hP hD [0, 1] (by decide +kernel) rfl rfl rfl) rfl rfl hl.1 rfl (lv_room (Nat.le_of_ble_eq_true rfl)) dX8_none_75 ⟨Nat.zero_le _, Nat.zero_le _⟩) hP hD hS hA rfl rfl (fun H locs hP9 hD9 hS9 => ?_)
                    replace hP : va_P D vwCl [(ta, .inr (8, [.ref m_now, .ref m_undone, .ref m_slots, .ref m_slotKind, .ref m_hasSlot, .ref m_sheetBits, .ref m_sheetSize, .ref m_sheets, .int (nI u), .int fi, .ref m_fresh, .long aa, .long bb, .long dd, .int (nI ro), .ref m_rootWhich, .int db, .ref m_signs, .ref m_atNought, .int (nI mn), .ref m_change, .ref m_table, .ref m_carried])), (m_now, .inl (cy 0, 29, .inl nw))] H := hP9
                    replace hD : va_D A [(ta, .inr (8, [.ref m_now, .ref m_undone, .ref m_slots, .ref m_slotKind, .ref m_hasSlot, .ref m_sheetBits, .ref m_sheetSize, .ref m_sheets, .int (nI u), .int fi, .ref m_fresh, .long aa, .long bb, .long dd, .int (nI ro), .ref m_rootWhich, .int db, .ref m_signs, .ref m_atNought, .int (nI mn), .ref m_change, .ref m_table, .ref m_carried])), (m_now, .inl (cy 0, 29, .inl nw))] := hD9
                    replace hS := hS9
                    clear hP9 hD9 hS9
                    refine lv_istore (lv' := [(8, .int (f_X8_spreadAt nw (if ((nI ki) - (nI ki) / 2 * 2) = 0 then pa else pc_) (if 2 ≤ (nI ki) then pd else pb))), (0, .ref ta), (1, .int pa), (2, .int pb), (3, .int pc_), (4, .int pd), (5, .int z5_44), (6, .int z6_44), (7, .int (nI ki))]) hx hb dX8_none_78 hl (by decide) rfl (fun ls hl9 => ?_)
                    replace hl := hl9
                    clear hl9
                    refine lv_iload hx hb dX8_none_80 (lv_at hl 6 rfl) ?_
                    refine lv_iload hx hb dX8_none_82 (lv_at hl 0 rfl) ?_
                    have J14 : ∀ (v13 : Int32) (H : Heap) (locs : List Loc) (ls : Array Slot), v13 = (if ((f_X8_spreadAt nw (if ((nI ki) - (nI ki) / 2 * 2) = 0 then pa else pc_) (if 2 ≤ (nI ki) then pd else pb)) : Int32) ≤ 0 then 0 else 1) → va_P D vwCl [(ta, .inr (8, [.ref m_now, .ref m_undone, .ref m_slots, .ref m_slotKind, .ref m_hasSlot, .ref m_sheetBits, .ref m_sheetSize, .ref m_sheets, .int (nI u), .int fi, .ref m_fresh, .long aa, .long bb, .long dd, .int (nI ro), .ref m_rootWhich, .int db, .ref m_signs, .ref m_atNought, .int (nI mn), .ref m_change, .ref m_table, .ref m_carried])), (m_now, .inl (cy 0, 29, .inl nw))] H → va_D A [(ta, .inr (8, [.ref m_now, .ref m_undone, .ref m_slots, .ref m_slotKind, .ref m_hasSlot, .ref m_sheetBits, .ref m_sheetSize, .ref m_sheets, .int (nI u), .int fi, .ref m_fresh, .long aa, .long bb, .long dd, .int (nI ro), .ref m_rootWhich, .int db, .ref m_signs, .ref m_atNought, .int (nI mn), .ref m_change, .ref m_table, .ref m_carried])), (m_now, .inl (cy 0, 29, .inl nw))] → va_S A s.heap H locs → lv_has ls 9 [(0, .ref ta), (1, .int pa), (2, .int pb), (3, .int pc_), (4, .int pd), (5, .int z5_44), (6, .int z6_44), (7, .int (nI ki)), (8, .int (f_X8_spreadAt nw (if ((nI ki) - (nI ki) / 2 * 2) = 0 then pa else pc_) (if 2 ≤ (nI ki) then pd else pb)))] → W p l e R s m args below meth c H locs 0 0 Q (F0 m 92 ls [.int v13, .int z5_44]) := by
                      clear hP hD hS hl
                      intro v13 H locs ls ev13 hP hD hS hl
                      subst ev13
                      refine lv_iadd hx hb dX8_none_92 ?_
                      refine lv_istore (lv' := [(5, .int (z5_44 + (if ((f_X8_spreadAt nw (if ((nI ki) - (nI ki) / 2 * 2) = 0 then pa else pc_) (if 2 ≤ (nI ki) then pd else pb)) : Int32) ≤ 0 then 0 else 1))), (0, .ref ta), (1, .int pa), (2, .int pb), (3, .int pc_), (4, .int pd), (6, .int z6_44), (7, .int (nI ki)), (8, .int (f_X8_spreadAt nw (if ((nI ki) - (nI ki) / 2 * 2) = 0 then pa else pc_) (if 2 ≤ (nI ki) then pd else pb)))]) hx hb dX8_none_93 hl (by decide) rfl (fun ls hl9 => ?_)
                      replace hl := hl9
                      clear hl9
                      refine lv_iload hx hb dX8_none_95 (lv_at hl 6 rfl) ?_
                      refine lv_iload hx hb dX8_none_97 (lv_at hl 8 rfl) ?_
                      have J17 : ∀ (v16 : Int32) (H : Heap) (locs : List Loc) (ls : Array Slot), v16 = (if 0 ≤ ((f_X8_spreadAt nw (if ((nI ki) - (nI ki) / 2 * 2) = 0 then pa else pc_) (if 2 ≤ (nI ki) then pd else pb)) : Int32) then 0 else 1) → va_P D vwCl [(ta, .inr (8, [.ref m_now, .ref m_undone, .ref m_slots, .ref m_slotKind, .ref m_hasSlot, .ref m_sheetBits, .ref m_sheetSize, .ref m_sheets, .int (nI u), .int fi, .ref m_fresh, .long aa, .long bb, .long dd, .int (nI ro), .ref m_rootWhich, .int db, .ref m_signs, .ref m_atNought, .int (nI mn), .ref m_change, .ref m_table, .ref m_carried])), (m_now, .inl (cy 0, 29, .inl nw))] H → va_D A [(ta, .inr (8, [.ref m_now, .ref m_undone, .ref m_slots, .ref m_slotKind, .ref m_hasSlot, .ref m_sheetBits, .ref m_sheetSize, .ref m_sheets, .int (nI u), .int fi, .ref m_fresh, .long aa, .long bb, .long dd, .int (nI ro), .ref m_rootWhich, .int db, .ref m_signs, .ref m_atNought, .int (nI mn), .ref m_change, .ref m_table, .ref m_carried])), (m_now, .inl (cy 0, 29, .inl nw))] → va_S A s.heap H locs → lv_has ls 9 [(0, .ref ta), (1, .int pa), (2, .int pb), (3, .int pc_), (4, .int pd), (5, .int (z5_44 + (if ((f_X8_spreadAt nw (if ((nI ki) - (nI ki) / 2 * 2) = 0 then pa else pc_) (if 2 ≤ (nI ki) then pd else pb)) : Int32) ≤ 0 then 0 else 1))), (6, .int z6_44), (7, .int (nI ki)), (8, .int (f_X8_spreadAt nw (if ((nI ki) - (nI ki) / 2 * 2) = 0 then pa else pc_) (if 2 ≤ (nI ki) then pd else pb)))] → W p l e R s m args below meth c H locs 0 0 Q (F0 m 107 ls [.int v16, .int z6_44]) := by
                        clear hP hD hS hl
                        intro v16 H locs ls ev16 hP hD hS hl
                        subst ev16
                        refine lv_iadd hx hb dX8_none_107 ?_
                        refine lv_istore (lv' := [(6, .int (z6_44 + (if 0 ≤ ((f_X8_spreadAt nw (if ((nI ki) - (nI ki) / 2 * 2) = 0 then pa else pc_) (if 2 ≤ (nI ki) then pd else pb)) : Int32) then 0 else 1))), (0, .ref ta), (1, .int pa), (2, .int pb), (3, .int pc_), (4, .int pd), (5, .int (z5_44 + (if ((f_X8_spreadAt nw (if ((nI ki) - (nI ki) / 2 * 2) = 0 then pa else pc_) (if 2 ≤ (nI ki) then pd else pb)) : Int32) ≤ 0 then 0 else 1))), (7, .int (nI ki)), (8, .int (f_X8_spreadAt nw (if ((nI ki) - (nI ki) / 2 * 2) = 0 then pa else pc_) (if 2 ≤ (nI ki) then pd else pb)))]) hx hb dX8_none_108 hl (by decide) rfl (fun ls hl9 => ?_)
                        replace hl := hl9
                        clear hl9
                        refine lv_iinc (v := nI (ki + 1)) (lv' := [(7, .int (nI (ki + 1))), (6, .int (z6_44 + (if 0 ≤ ((f_X8_spreadAt nw (if ((nI ki) - (nI ki) / 2 * 2) = 0 then pa else pc_) (if 2 ≤ (nI ki) then pd else pb)) : Int32) then 0 else 1))), (0, .ref ta), (1, .int pa), (2, .int pb), (3, .int pc_), (4, .int pd), (5, .int (z5_44 + (if ((f_X8_spreadAt nw (if ((nI ki) - (nI ki) / 2 * 2) = 0 then pa else pc_) (if 2 ≤ (nI ki) then pd else pb)) : Int32) ≤ 0 then 0 else 1))), (8, .int (f_X8_spreadAt nw (if ((nI ki) - (nI ki) / 2 * 2) = 0 then pa else pc_) (if 2 ≤ (nI ki) then pd else pb)))]) hx hb dX8_none_110 hl (k := 7) rfl (yk_inc ki) (by decide) rfl (fun ls hl9 => ?_)
                        replace hl := hl9
                        clear hl9
                        refine lv_goto (tgt := 44) hx hb dX8_none_113 (by decide) ?_
                        obtain ⟨n9, rfl⟩ : ∃ n9, n44 = n9 + 1 := ⟨n44 - 1, by omega⟩
                        exact ih44 n9 (ki + 1) (z5_44 + (if ((f_X8_spreadAt nw (if ((nI ki) - (nI ki) / 2 * 2) = 0 then pa else pc_) (if 2 ≤ (nI ki) then pd else pb)) : Int32) ≤ 0 then 0 else 1)) (z6_44 + (if 0 ≤ ((f_X8_spreadAt nw (if ((nI ki) - (nI ki) / 2 * 2) = 0 then pa else pc_) (if 2 ≤ (nI ki) then pd else pb)) : Int32) then 0 else 1)) _ _ _ (by omega) (by omega)  hV44 hP hD hS (lv_sub hl [2, 3, 4, 5, 6, 7, 1, 0] rfl)
                      refine lv_if_ge (tgt := 106) hx hb dX8_none_99 (by decide) (fun hc15 => ?_) (fun hc15 => ?_)
                      · refine lv_iconst (v := 0) hx hb dX8_none_106 (by decide) ?_
                        exact J17 _ _ _ _ ((if_pos hc15).symm) hP hD hS (lv_sub hl [1, 2, 3, 4, 5, 0, 6, 7, 8] rfl)
                      · refine lv_iconst (v := 1) hx hb dX8_none_102 (by decide) ?_
                        refine lv_goto (tgt := 107) hx hb dX8_none_103 (by decide) ?_
                        exact J17 _ _ _ _ ((if_neg hc15).symm) hP hD hS (lv_sub hl [1, 2, 3, 4, 5, 0, 6, 7, 8] rfl)
                    refine lv_if_le (tgt := 91) hx hb dX8_none_84 (by decide) (fun hc12 => ?_) (fun hc12 => ?_)
                    · refine lv_iconst (v := 0) hx hb dX8_none_91 (by decide) ?_
                      exact J14 _ _ _ _ ((if_pos hc12).symm) hP hD hS (lv_sub hl [1, 2, 3, 4, 5, 6, 7, 8, 0] rfl)
                    · refine lv_iconst (v := 1) hx hb dX8_none_87 (by decide) ?_
                      refine lv_goto (tgt := 92) hx hb dX8_none_88 (by decide) ?_
                      exact J14 _ _ _ _ ((if_neg hc12).symm) hP hD hS (lv_sub hl [1, 2, 3, 4, 5, 6, 7, 8, 0] rfl)
                  refine lv_icmp_ge (tgt := 73) hx hb dX8_none_66 (by decide) (fun hc9 => ?_) (fun hc9 => ?_)
                  · refine lv_iload hx hb dX8_none_73 (lv_at hl 4 rfl) ?_
                    exact J11 _ _ _ _ ((if_pos hc9).symm) hP hD hS (lv_sub hl [0, 1, 2, 3, 4, 5, 6, 7] rfl)
                  · refine lv_iload_n hx hb dX8_none_69 rfl (lv_at hl 2 rfl) ?_
                    refine lv_goto (tgt := 75) hx hb dX8_none_70 (by decide) ?_
                    exact J11 _ _ _ _ ((if_neg hc9).symm) hP hD hS (lv_sub hl [0, 1, 2, 3, 4, 5, 6, 7] rfl)
                refine lv_if_ne (tgt := 62) hx hb dX8_none_55 (by decide) (fun hc6 => ?_) (fun hc6 => ?_)
                · refine lv_iload_n hx hb dX8_none_62 rfl (lv_at hl 3 rfl) ?_
                  exact J8 _ _ _ _ ((if_neg hc6).symm) hP hD hS (lv_sub hl [0, 1, 2, 3, 4, 5, 6, 7] rfl)
                · refine lv_iload_n hx hb dX8_none_58 rfl (lv_at hl 1 rfl) ?_
                  refine lv_goto (tgt := 63) hx hb dX8_none_59 (by decide) ?_
                  exact J8 _ _ _ _ ((if_pos hc6).symm) hP hD hS (lv_sub hl [0, 1, 2, 3, 4, 5, 6, 7] rfl)
          exact L44 (4 + 1) 4 0 0 0 _ _ _ (Nat.lt_succ_self _) (by omega)  rfl hP hD hS (lv_sub hl [3, 4, 5, 6, 7, 2, 1, 0] rfl)
        · replace hF := hF.trans (if_neg hc4)
          refine lv_aload_n hx hb dX8_none_28 rfl (lv_at hl 0 rfl) ?_
          refine lv_ldc (v := (-1000001)) hx hb hown (hts _ kX8_none_0) dX8_none_29 ?_
          refine yk_i [0] (va_runV (As := [.int (-1000001)]) (rest := []) ⟨hx, hb, hml, hown, hts⟩ (c_X8_found l D cy ta m_now m_undone m_slots m_slotKind m_hasSlot m_sheetBits m_sheetSize m_sheets m_fresh m_rootWhich m_signs m_atNought m_change m_table m_carried u fi aa bb dd ro db mn (-1000001) H.size) (cwV 1 hts gX8_none_X8_found rfl rfl rfl hv_X8_found (yk_room hRf hRl rfl rfl)) (yk_pv (q := (RX8, TX8, 23)) hG hA hS hK hP hD [0] (by decide +kernel) rfl rfl rfl) rfl rfl hl.1 rfl (lv_room (Nat.le_of_ble_eq_true rfl)) dX8_none_31 ⟨Nat.zero_le _, Nat.zero_le _⟩) hP hD hS hA rfl rfl (fun H locs hP9 hD9 hS9 => ?_)
          replace hP : va_P D vwCl [(ta, .inr (8, [.ref m_now, .ref m_undone, .ref m_slots, .ref m_slotKind, .ref m_hasSlot, .ref m_sheetBits, .ref m_sheetSize, .ref m_sheets, .int (nI u), .int ((f_X8_found fi (-1000001)).2), .ref m_fresh, .long aa, .long bb, .long dd, .int (nI ro), .ref m_rootWhich, .int db, .ref m_signs, .ref m_atNought, .int (nI mn), .ref m_change, .ref m_table, .ref m_carried])), (m_now, .inl (cy 0, 29, .inl nw))] H := hP9
          replace hD : va_D A [(ta, .inr (8, [.ref m_now, .ref m_undone, .ref m_slots, .ref m_slotKind, .ref m_hasSlot, .ref m_sheetBits, .ref m_sheetSize, .ref m_sheets, .int (nI u), .int ((f_X8_found fi (-1000001)).2), .ref m_fresh, .long aa, .long bb, .long dd, .int (nI ro), .ref m_rootWhich, .int db, .ref m_signs, .ref m_atNought, .int (nI mn), .ref m_change, .ref m_table, .ref m_carried])), (m_now, .inl (cy 0, 29, .inl nw))] := hD9
          replace hS := hS9
          clear hP9 hD9 hS9
          have hF : f_X8_none nw fi pa pb pc_ pd = (((f_X8_found fi (-1000001)).1), ((f_X8_found fi (-1000001)).2)) := hF
          have hf0 := yk_fst hF
          have hg0 := yk_snd hF
          rw [hf0, hg0] at hQ
          exact hQ _ _ _ _ dX8_none_34 hP hS

def f_X8_form (nw : Nat → Int32) (px : Int32) : Int64 := (if px = 0 then ((f_X8_get nw 1 3)).toInt64 else (if px = 1 then (((f_X8_get nw 1 4) - (f_X8_get nw 0 3))).toInt64 else (if px = 2 then (((f_X8_get nw 1 5) - (f_X8_get nw 0 4))).toInt64 else ((-(f_X8_get nw 0 5))).toInt64)))
set_option maxHeartbeats 400000000 in
set_option maxRecDepth 100000 in
theorem c_X8_form (l : Launch) (D : va_G) (cy : Nat → ClassId) (ta : Nat) (m_now : Nat) (m_undone : Nat) (m_slots : Nat) (m_slotKind : Nat) (m_hasSlot : Nat) (m_sheetBits : Nat) (m_sheetSize : Nat) (m_sheets : Nat) (m_fresh : Nat) (m_rootWhich : Nat) (m_signs : Nat) (m_atNought : Nat) (m_change : Nat) (m_table : Nat) (m_carried : Nat) (nw : Nat → Int32) (u : Nat) (fi : Int32) (aa : Int64) (bb : Int64) (dd : Int64) (ro : Nat) (db : Int32) (mn : Nat) (px : Int32) : yk_Cl l D vwCl (yk_ty cy) yX8_form wsX8_form 1 22 [.ref ta, .int px] [(ta, .inr (8, [.ref m_now, .ref m_undone, .ref m_slots, .ref m_slotKind, .ref m_hasSlot, .ref m_sheetBits, .ref m_sheetSize, .ref m_sheets, .int (nI u), .int fi, .ref m_fresh, .long aa, .long bb, .long dd, .int (nI ro), .ref m_rootWhich, .int db, .ref m_signs, .ref m_atNought, .int (nI mn), .ref m_change, .ref m_table, .ref m_carried])), (m_now, .inl (cy 0, 29, .inl nw))] (f_X8_form nw px) [(ta, .inr (8, [.ref m_now, .ref m_undone, .ref m_slots, .ref m_slotKind, .ref m_hasSlot, .ref m_sheetBits, .ref m_sheetSize, .ref m_sheets, .int (nI u), .int fi, .ref m_fresh, .long aa, .long bb, .long dd, .int (nI ro), .ref m_rootWhich, .int db, .ref m_signs, .ref m_atNought, .int (nI mn), .ref m_change, .ref m_table, .ref m_carried])), (m_now, .inl (cy 0, 29, .inl nw))] := by
  refine yk_eL (cc := cX8_form) (maxL := 2) (by decide) rfl (Nat.le_of_ble_eq_true rfl) ?_
  intro p e R s m args below meth c A Q ls H locs hx hb hml hown hts hRf hRl hA hK hG hP hD hS hl hQ
  have hP : va_P D vwCl [(ta, .inr (8, [.ref m_now, .ref m_undone, .ref m_slots, .ref m_slotKind, .ref m_hasSlot, .ref m_sheetBits, .ref m_sheetSize, .ref m_sheets, .int (nI u), .int fi, .ref m_fresh, .long aa, .long bb, .long dd, .int (nI ro), .ref m_rootWhich, .int db, .ref m_signs, .ref m_atNought, .int (nI mn), .ref m_change, .ref m_table, .ref m_carried])), (m_now, .inl (cy 0, 29, .inl nw))] H := hP
  have hl : lv_has ls 2 [(0, .ref ta), (1, .int px)] := hl
  have hown : s.vm.findClass RX8 = some m.cls := hown
  have hF : (f_X8_form nw px) = (f_X8_form nw px) := rfl
  refine lv_iload_n hx hb dX8_form_0 rfl (lv_at hl 1 rfl) ?_
  have J5 : ∀ (v4 : Int64) (H : Heap) (locs : List Loc) (ls : Array Slot), v4 = (if px = 0 then ((f_X8_get nw 1 3)).toInt64 else (if px = 1 then (((f_X8_get nw 1 4) - (f_X8_get nw 0 3))).toInt64 else (if px = 2 then (((f_X8_get nw 1 5) - (f_X8_get nw 0 4))).toInt64 else ((-(f_X8_get nw 0 5))).toInt64))) → va_P D vwCl [(ta, .inr (8, [.ref m_now, .ref m_undone, .ref m_slots, .ref m_slotKind, .ref m_hasSlot, .ref m_sheetBits, .ref m_sheetSize, .ref m_sheets, .int (nI u), .int fi, .ref m_fresh, .long aa, .long bb, .long dd, .int (nI ro), .ref m_rootWhich, .int db, .ref m_signs, .ref m_atNought, .int (nI mn), .ref m_change, .ref m_table, .ref m_carried])), (m_now, .inl (cy 0, 29, .inl nw))] H → va_D A [(ta, .inr (8, [.ref m_now, .ref m_undone, .ref m_slots, .ref m_slotKind, .ref m_hasSlot, .ref m_sheetBits, .ref m_sheetSize, .ref m_sheets, .int (nI u), .int fi, .ref m_fresh, .long aa, .long bb, .long dd, .int (nI ro), .ref m_rootWhich, .int db, .ref m_signs, .ref m_atNought, .int (nI mn), .ref m_change, .ref m_table, .ref m_carried])), (m_now, .inl (cy 0, 29, .inl nw))] → va_S A s.heap H locs → lv_has ls 2 [(0, .ref ta), (1, .int px)] → W p l e R s m args below meth c H locs 0 0 Q (F0 m 66 ls [.long v4]) := by
    clear hP hD hS hl
    intro v4 H locs ls ev4 hP hD hS hl
    subst ev4
    have hF : f_X8_form nw px = (if px = 0 then ((f_X8_get nw 1 3)).toInt64 else (if px = 1 then (((f_X8_get nw 1 4) - (f_X8_get nw 0 3))).toInt64 else (if px = 2 then (((f_X8_get nw 1 5) - (f_X8_get nw 0 4))).toInt64 else ((-(f_X8_get nw 0 5))).toInt64))) := hF
    rw [hF] at hQ
    exact hQ _ _ _ _ dX8_form_66 hP hS
  refine lv_if_ne (tgt := 14) hx hb dX8_form_1 (by decide) (fun hc1 => ?_) (fun hc1 => ?_)
  · refine lv_iload_n hx hb dX8_form_14 rfl (lv_at hl 1 rfl) ?_
    refine lv_iconst (v := 1) hx hb dX8_form_15 (by decide) ?_
    refine lv_icmp_ne (tgt := 36) hx hb dX8_form_16 (by decide) (fun hc2 => ?_) (fun hc2 => ?_)
    · refine lv_iload_n hx hb dX8_form_36 rfl (lv_at hl 1 rfl) ?_
      refine lv_iconst (v := 2) hx hb dX8_form_37 (by decide) ?_
      refine lv_icmp_ne (tgt := 58) hx hb dX8_form_38 (by decide) (fun hc3 => ?_) (fun hc3 => ?_)
      · refine lv_aload_n hx hb dX8_form_58 rfl (lv_at hl 0 rfl) ?_
        refine lv_iconst (v := 0) hx hb dX8_form_59 (by decide) ?_
        refine lv_iconst (v := 5) hx hb dX8_form_60 (by decide) ?_
        refine yk_i [0, 1] (va_runV (As := [.int 0, .int 5]) (rest := []) ⟨hx, hb, hml, hown, hts⟩ (c_X8_get l D cy ta m_now m_undone m_slots m_slotKind m_hasSlot m_sheetBits m_sheetSize m_sheets m_fresh m_rootWhich m_signs m_atNought m_change m_table m_carried nw u fi aa bb dd ro db mn 0 5 (by first | assumption | omega) H.size) (cwV 2 hts gX8_form_X8_get rfl rfl rfl hv_X8_get (yk_room hRf hRl rfl rfl)) (yk_pv (q := (RX8, TX8, 23)) hG hA hS hK hP hD [0, 1] (by decide +kernel) rfl rfl rfl) rfl rfl hl.1 rfl (lv_room (Nat.le_of_ble_eq_true rfl)) dX8_form_61 ⟨Nat.zero_le _, Nat.zero_le _⟩) hP hD hS hA rfl rfl (fun H locs hP9 hD9 hS9 => ?_)
        replace hP : va_P D vwCl [(ta, .inr (8, [.ref m_now, .ref m_undone, .ref m_slots, .ref m_slotKind, .ref m_hasSlot, .ref m_sheetBits, .ref m_sheetSize, .ref m_sheets, .int (nI u), .int fi, .ref m_fresh, .long aa, .long bb, .long dd, .int (nI ro), .ref m_rootWhich, .int db, .ref m_signs, .ref m_atNought, .int (nI mn), .ref m_change, .ref m_table, .ref m_carried])), (m_now, .inl (cy 0, 29, .inl nw))] H := hP9
        replace hD : va_D A [(ta, .inr (8, [.ref m_now, .ref m_undone, .ref m_slots, .ref m_slotKind, .ref m_hasSlot, .ref m_sheetBits, .ref m_sheetSize, .ref m_sheets, .int (nI u), .int fi, .ref m_fresh, .long aa, .long bb, .long dd, .int (nI ro), .ref m_rootWhich, .int db, .ref m_signs, .ref m_atNought, .int (nI mn), .ref m_change, .ref m_table, .ref m_carried])), (m_now, .inl (cy 0, 29, .inl nw))] := hD9
        replace hS := hS9
        clear hP9 hD9 hS9
        refine lv_ineg hx hb dX8_form_64 ?_
        refine lv_i2l hx hb dX8_form_65 rfl ?_
        exact J5 _ _ _ _ (((if_neg hc1).trans ((if_neg hc2).trans (if_neg hc3))).symm) hP hD hS (lv_sub hl [0, 1] rfl)
      · refine lv_aload_n hx hb dX8_form_41 rfl (lv_at hl 0 rfl) ?_
        refine lv_iconst (v := 1) hx hb dX8_form_42 (by decide) ?_
        refine lv_iconst (v := 5) hx hb dX8_form_43 (by decide) ?_
        refine yk_i [0, 1] (va_runV (As := [.int 1, .int 5]) (rest := []) ⟨hx, hb, hml, hown, hts⟩ (c_X8_get l D cy ta m_now m_undone m_slots m_slotKind m_hasSlot m_sheetBits m_sheetSize m_sheets m_fresh m_rootWhich m_signs m_atNought m_change m_table m_carried nw u fi aa bb dd ro db mn 1 5 (by first | assumption | omega) H.size) (cwV 2 hts gX8_form_X8_get rfl rfl rfl hv_X8_get (yk_room hRf hRl rfl rfl)) (yk_pv (q := (RX8, TX8, 23)) hG hA hS hK hP hD [0, 1] (by decide +kernel) rfl rfl rfl) rfl rfl hl.1 rfl (lv_room (Nat.le_of_ble_eq_true rfl)) dX8_form_44 ⟨Nat.zero_le _, Nat.zero_le _⟩) hP hD hS hA rfl rfl (fun H locs hP9 hD9 hS9 => ?_)
        replace hP : va_P D vwCl [(ta, .inr (8, [.ref m_now, .ref m_undone, .ref m_slots, .ref m_slotKind, .ref m_hasSlot, .ref m_sheetBits, .ref m_sheetSize, .ref m_sheets, .int (nI u), .int fi, .ref m_fresh, .long aa, .long bb, .long dd, .int (nI ro), .ref m_rootWhich, .int db, .ref m_signs, .ref m_atNought, .int (nI mn), .ref m_change, .ref m_table, .ref m_carried])), (m_now, .inl (cy 0, 29, .inl nw))] H := hP9
        replace hD : va_D A [(ta, .inr (8, [.ref m_now, .ref m_undone, .ref m_slots, .ref m_slotKind, .ref m_hasSlot, .ref m_sheetBits, .ref m_sheetSize, .ref m_sheets, .int (nI u), .int fi, .ref m_fresh, .long aa, .long bb, .long dd, .int (nI ro), .ref m_rootWhich, .int db, .ref m_signs, .ref m_atNought, .int (nI mn), .ref m_change, .ref m_table, .ref m_carried])), (m_now, .inl (cy 0, 29, .inl nw))] := hD9
        replace hS := hS9
        clear hP9 hD9 hS9
        refine lv_aload_n hx hb dX8_form_47 rfl (lv_at hl 0 rfl) ?_
        refine lv_iconst (v := 0) hx hb dX8_form_48 (by decide) ?_
        refine lv_iconst (v := 4) hx hb dX8_form_49 (by decide) ?_
        refine yk_i [0, 1] (va_runV (As := [.int 0, .int 4]) (rest := [.int (f_X8_get nw 1 5)]) ⟨hx, hb, hml, hown, hts⟩ (c_X8_get l D cy ta m_now m_undone m_slots m_slotKind m_hasSlot m_sheetBits m_sheetSize m_sheets m_fresh m_rootWhich m_signs m_atNought m_change m_table m_carried nw u fi aa bb dd ro db mn 0 4 (by first | assumption | omega) H.size) (cwV 2 hts gX8_form_X8_get rfl rfl rfl hv_X8_get (yk_room hRf hRl rfl rfl)) (yk_pv (q := (RX8, TX8, 23)) hG hA hS hK hP hD [0, 1] (by decide +kernel) rfl rfl rfl) rfl rfl hl.1 rfl (lv_room (Nat.le_of_ble_eq_true rfl)) dX8_form_50 ⟨Nat.zero_le _, Nat.zero_le _⟩) hP hD hS hA rfl rfl (fun H locs hP9 hD9 hS9 => ?_)
        replace hP : va_P D vwCl [(ta, .inr (8, [.ref m_now, .ref m_undone, .ref m_slots, .ref m_slotKind, .ref m_hasSlot, .ref m_sheetBits, .ref m_sheetSize, .ref m_sheets, .int (nI u), .int fi, .ref m_fresh, .long aa, .long bb, .long dd, .int (nI ro), .ref m_rootWhich, .int db, .ref m_signs, .ref m_atNought, .int (nI mn), .ref m_change, .ref m_table, .ref m_carried])), (m_now, .inl (cy 0, 29, .inl nw))] H := hP9
        replace hD : va_D A [(ta, .inr (8, [.ref m_now, .ref m_undone, .ref m_slots, .ref m_slotKind, .ref m_hasSlot, .ref m_sheetBits, .ref m_sheetSize, .ref m_sheets, .int (nI u), .int fi, .ref m_fresh, .long aa, .long bb, .long dd, .int (nI ro), .ref m_rootWhich, .int db, .ref m_signs, .ref m_atNought, .int (nI mn), .ref m_change, .ref m_table, .ref m_carried])), (m_now, .inl (cy 0, 29, .inl nw))] := hD9
        replace hS := hS9
        clear hP9 hD9 hS9
        refine lv_isub hx hb dX8_form_53 ?_
        refine lv_i2l hx hb dX8_form_54 rfl ?_
        refine lv_goto (tgt := 66) hx hb dX8_form_55 (by decide) ?_
        exact J5 _ _ _ _ (((if_neg hc1).trans ((if_neg hc2).trans (if_pos hc3))).symm) hP hD hS (lv_sub hl [0, 1] rfl)
    · refine lv_aload_n hx hb dX8_form_19 rfl (lv_at hl 0 rfl) ?_
      refine lv_iconst (v := 1) hx hb dX8_form_20 (by decide) ?_
      refine lv_iconst (v := 4) hx hb dX8_form_21 (by decide) ?_
      refine yk_i [0, 1] (va_runV (As := [.int 1, .int 4]) (rest := []) ⟨hx, hb, hml, hown, hts⟩ (c_X8_get l D cy ta m_now m_undone m_slots m_slotKind m_hasSlot m_sheetBits m_sheetSize m_sheets m_fresh m_rootWhich m_signs m_atNought m_change m_table m_carried nw u fi aa bb dd ro db mn 1 4 (by first | assumption | omega) H.size) (cwV 2 hts gX8_form_X8_get rfl rfl rfl hv_X8_get (yk_room hRf hRl rfl rfl)) (yk_pv (q := (RX8, TX8, 23)) hG hA hS hK hP hD [0, 1] (by decide +kernel) rfl rfl rfl) rfl rfl hl.1 rfl (lv_room (Nat.le_of_ble_eq_true rfl)) dX8_form_22 ⟨Nat.zero_le _, Nat.zero_le _⟩) hP hD hS hA rfl rfl (fun H locs hP9 hD9 hS9 => ?_)
      replace hP : va_P D vwCl [(ta, .inr (8, [.ref m_now, .ref m_undone, .ref m_slots, .ref m_slotKind, .ref m_hasSlot, .ref m_sheetBits, .ref m_sheetSize, .ref m_sheets, .int (nI u), .int fi, .ref m_fresh, .long aa, .long bb, .long dd, .int (nI ro), .ref m_rootWhich, .int db, .ref m_signs, .ref m_atNought, .int (nI mn), .ref m_change, .ref m_table, .ref m_carried])), (m_now, .inl (cy 0, 29, .inl nw))] H := hP9
      replace hD : va_D A [(ta, .inr (8, [.ref m_now, .ref m_undone, .ref m_slots, .ref m_slotKind, .ref m_hasSlot, .ref m_sheetBits, .ref m_sheetSize, .ref m_sheets, .int (nI u), .int fi, .ref m_fresh, .long aa, .long bb, .long dd, .int (nI ro), .ref m_rootWhich, .int db, .ref m_signs, .ref m_atNought, .int (nI mn), .ref m_change, .ref m_table, .ref m_carried])), (m_now, .inl (cy 0, 29, .inl nw))] := hD9
      replace hS := hS9
      clear hP9 hD9 hS9
      refine lv_aload_n hx hb dX8_form_25 rfl (lv_at hl 0 rfl) ?_
      refine lv_iconst (v := 0) hx hb dX8_form_26 (by decide) ?_
      refine lv_iconst (v := 3) hx hb dX8_form_27 (by decide) ?_
      refine yk_i [0, 1] (va_runV (As := [.int 0, .int 3]) (rest := [.int (f_X8_get nw 1 4)]) ⟨hx, hb, hml, hown, hts⟩ (c_X8_get l D cy ta m_now m_undone m_slots m_slotKind m_hasSlot m_sheetBits m_sheetSize m_sheets m_fresh m_rootWhich m_signs m_atNought m_change m_table m_carried nw u fi aa bb dd ro db mn 0 3 (by first | assumption | omega) H.size) (cwV 2 hts gX8_form_X8_get rfl rfl rfl hv_X8_get (yk_room hRf hRl rfl rfl)) (yk_pv (q := (RX8, TX8, 23)) hG hA hS hK hP hD [0, 1] (by decide +kernel) rfl rfl rfl) rfl rfl hl.1 rfl (lv_room (Nat.le_of_ble_eq_true rfl)) dX8_form_28 ⟨Nat.zero_le _, Nat.zero_le _⟩) hP hD hS hA rfl rfl (fun H locs hP9 hD9 hS9 => ?_)
      replace hP : va_P D vwCl [(ta, .inr (8, [.ref m_now, .ref m_undone, .ref m_slots, .ref m_slotKind, .ref m_hasSlot, .ref m_sheetBits, .ref m_sheetSize, .ref m_sheets, .int (nI u), .int fi, .ref m_fresh, .long aa, .long bb, .long dd, .int (nI ro), .ref m_rootWhich, .int db, .ref m_signs, .ref m_atNought, .int (nI mn), .ref m_change, .ref m_table, .ref m_carried])), (m_now, .inl (cy 0, 29, .inl nw))] H := hP9
      replace hD : va_D A [(ta, .inr (8, [.ref m_now, .ref m_undone, .ref m_slots, .ref m_slotKind, .ref m_hasSlot, .ref m_sheetBits, .ref m_sheetSize, .ref m_sheets, .int (nI u), .int fi, .ref m_fresh, .long aa, .long bb, .long dd, .int (nI ro), .ref m_rootWhich, .int db, .ref m_signs, .ref m_atNought, .int (nI mn), .ref m_change, .ref m_table, .ref m_carried])), (m_now, .inl (cy 0, 29, .inl nw))] := hD9
      replace hS := hS9
      clear hP9 hD9 hS9
      refine lv_isub hx hb dX8_form_31 ?_
      refine lv_i2l hx hb dX8_form_32 rfl ?_
      refine lv_goto (tgt := 66) hx hb dX8_form_33 (by decide) ?_
      exact J5 _ _ _ _ (((if_neg hc1).trans (if_pos hc2)).symm) hP hD hS (lv_sub hl [0, 1] rfl)
  · refine lv_aload_n hx hb dX8_form_4 rfl (lv_at hl 0 rfl) ?_
    refine lv_iconst (v := 1) hx hb dX8_form_5 (by decide) ?_
    refine lv_iconst (v := 3) hx hb dX8_form_6 (by decide) ?_
    refine yk_i [0, 1] (va_runV (As := [.int 1, .int 3]) (rest := []) ⟨hx, hb, hml, hown, hts⟩ (c_X8_get l D cy ta m_now m_undone m_slots m_slotKind m_hasSlot m_sheetBits m_sheetSize m_sheets m_fresh m_rootWhich m_signs m_atNought m_change m_table m_carried nw u fi aa bb dd ro db mn 1 3 (by first | assumption | omega) H.size) (cwV 2 hts gX8_form_X8_get rfl rfl rfl hv_X8_get (yk_room hRf hRl rfl rfl)) (yk_pv (q := (RX8, TX8, 23)) hG hA hS hK hP hD [0, 1] (by decide +kernel) rfl rfl rfl) rfl rfl hl.1 rfl (lv_room (Nat.le_of_ble_eq_true rfl)) dX8_form_7 ⟨Nat.zero_le _, Nat.zero_le _⟩) hP hD hS hA rfl rfl (fun H locs hP9 hD9 hS9 => ?_)
    replace hP : va_P D vwCl [(ta, .inr (8, [.ref m_now, .ref m_undone, .ref m_slots, .ref m_slotKind, .ref m_hasSlot, .ref m_sheetBits, .ref m_sheetSize, .ref m_sheets, .int (nI u), .int fi, .ref m_fresh, .long aa, .long bb, .long dd, .int (nI ro), .ref m_rootWhich, .int db, .ref m_signs, .ref m_atNought, .int (nI mn), .ref m_change, .ref m_table, .ref m_carried])), (m_now, .inl (cy 0, 29, .inl nw))] H := hP9
    replace hD : va_D A [(ta, .inr (8, [.ref m_now, .ref m_undone, .ref m_slots, .ref m_slotKind, .ref m_hasSlot, .ref m_sheetBits, .ref m_sheetSize, .ref m_sheets, .int (nI u), .int fi, .ref m_fresh, .long aa, .long bb, .long dd, .int (nI ro), .ref m_rootWhich, .int db, .ref m_signs, .ref m_atNought, .int (nI mn), .ref m_change, .ref m_table, .ref m_carried])), (m_now, .inl (cy 0, 29, .inl nw))] := hD9
    replace hS := hS9
    clear hP9 hD9 hS9
    refine lv_i2l hx hb dX8_form_10 rfl ?_
    refine lv_goto (tgt := 66) hx hb dX8_form_11 (by decide) ?_
    exact J5 _ _ _ _ ((if_pos hc1).symm) hP hD hS (lv_sub hl [0, 1] rfl)

theorem kX8_edge_0 : Cond.constantLong RX8 231 18 ∈ wsX8_edge := by decide +kernel
theorem kX8_edge_1 : Cond.constantLong RX8 168 4 ∈ wsX8_edge := by decide +kernel
theorem kX8_edge_2 : Cond.constantLong RX8 233 27 ∈ wsX8_edge := by decide +kernel
theorem kX8_edge_3 : Cond.constantLong RX8 235 3 ∈ wsX8_edge := by decide +kernel
theorem kX8_edge_4 : Cond.constantLong RX8 237 9 ∈ wsX8_edge := by decide +kernel
def f_X8_edge (nw : Nat → Int32) : Int32 := (if (lg_cmp (f_X8_form nw 0) 0) = 0 then (if (lg_cmp (f_X8_form nw 1) 0) = 0 then (if (lg_cmp (f_X8_form nw 2) 0) = 0 then (if (lg_cmp (f_X8_form nw 3) 0) = 0 then 4 else (if (lg_cmp ((((((((18 * (f_X8_form nw 0)) * (f_X8_form nw 1)) * (f_X8_form nw 2)) * (f_X8_form nw 3)) - ((((4 * (f_X8_form nw 1)) * (f_X8_form nw 1)) * (f_X8_form nw 1)) * (f_X8_form nw 3))) + ((((f_X8_form nw 1) * (f_X8_form nw 1)) * (f_X8_form nw 2)) * (f_X8_form nw 2))) - ((((4 * (f_X8_form nw 0)) * (f_X8_form nw 2)) * (f_X8_form nw 2)) * (f_X8_form nw 2))) - ((((27 * (f_X8_form nw 0)) * (f_X8_form nw 0)) * (f_X8_form nw 3)) * (f_X8_form nw 3))) 0) = 0 then (if (lg_cmp ((f_X8_form nw 1) * (f_X8_form nw 1)) ((3 * (f_X8_form nw 0)) * (f_X8_form nw 2))) = 0 then (if (lg_cmp ((f_X8_form nw 1) * (f_X8_form nw 2)) ((9 * (f_X8_form nw 0)) * (f_X8_form nw 3))) = 0 then (if (lg_cmp ((f_X8_form nw 2) * (f_X8_form nw 2)) ((3 * (f_X8_form nw 1)) * (f_X8_form nw 3))) = 0 then 1 else 2) else 2) else 2) else (if (lg_cmp ((((((((18 * (f_X8_form nw 0)) * (f_X8_form nw 1)) * (f_X8_form nw 2)) * (f_X8_form nw 3)) - ((((4 * (f_X8_form nw 1)) * (f_X8_form nw 1)) * (f_X8_form nw 1)) * (f_X8_form nw 3))) + ((((f_X8_form nw 1) * (f_X8_form nw 1)) * (f_X8_form nw 2)) * (f_X8_form nw 2))) - ((((4 * (f_X8_form nw 0)) * (f_X8_form nw 2)) * (f_X8_form nw 2)) * (f_X8_form nw 2))) - ((((27 * (f_X8_form nw 0)) * (f_X8_form nw 0)) * (f_X8_form nw 3)) * (f_X8_form nw 3))) 0) ≤ 0 then 1 else 3))) else (if (lg_cmp ((((((((18 * (f_X8_form nw 0)) * (f_X8_form nw 1)) * (f_X8_form nw 2)) * (f_X8_form nw 3)) - ((((4 * (f_X8_form nw 1)) * (f_X8_form nw 1)) * (f_X8_form nw 1)) * (f_X8_form nw 3))) + ((((f_X8_form nw 1) * (f_X8_form nw 1)) * (f_X8_form nw 2)) * (f_X8_form nw 2))) - ((((4 * (f_X8_form nw 0)) * (f_X8_form nw 2)) * (f_X8_form nw 2)) * (f_X8_form nw 2))) - ((((27 * (f_X8_form nw 0)) * (f_X8_form nw 0)) * (f_X8_form nw 3)) * (f_X8_form nw 3))) 0) = 0 then (if (lg_cmp ((f_X8_form nw 1) * (f_X8_form nw 1)) ((3 * (f_X8_form nw 0)) * (f_X8_form nw 2))) = 0 then (if (lg_cmp ((f_X8_form nw 1) * (f_X8_form nw 2)) ((9 * (f_X8_form nw 0)) * (f_X8_form nw 3))) = 0 then (if (lg_cmp ((f_X8_form nw 2) * (f_X8_form nw 2)) ((3 * (f_X8_form nw 1)) * (f_X8_form nw 3))) = 0 then 1 else 2) else 2) else 2) else (if (lg_cmp ((((((((18 * (f_X8_form nw 0)) * (f_X8_form nw 1)) * (f_X8_form nw 2)) * (f_X8_form nw 3)) - ((((4 * (f_X8_form nw 1)) * (f_X8_form nw 1)) * (f_X8_form nw 1)) * (f_X8_form nw 3))) + ((((f_X8_form nw 1) * (f_X8_form nw 1)) * (f_X8_form nw 2)) * (f_X8_form nw 2))) - ((((4 * (f_X8_form nw 0)) * (f_X8_form nw 2)) * (f_X8_form nw 2)) * (f_X8_form nw 2))) - ((((27 * (f_X8_form nw 0)) * (f_X8_form nw 0)) * (f_X8_form nw 3)) * (f_X8_form nw 3))) 0) ≤ 0 then 1 else 3))) else (if (lg_cmp ((((((((18 * (f_X8_form nw 0)) * (f_X8_form nw 1)) * (f_X8_form nw 2)) * (f_X8_form nw 3)) - ((((4 * (f_X8_form nw 1)) * (f_X8_form nw 1)) * (f_X8_form nw 1)) * (f_X8_form nw 3))) + ((((f_X8_form nw 1) * (f_X8_form nw 1)) * (f_X8_form nw 2)) * (f_X8_form nw 2))) - ((((4 * (f_X8_form nw 0)) * (f_X8_form nw 2)) * (f_X8_form nw 2)) * (f_X8_form nw 2))) - ((((27 * (f_X8_form nw 0)) * (f_X8_form nw 0)) * (f_X8_form nw 3)) * (f_X8_form nw 3))) 0) = 0 then (if (lg_cmp ((f_X8_form nw 1) * (f_X8_form nw 1)) ((3 * (f_X8_form nw 0)) * (f_X8_form nw 2))) = 0 then (if (lg_cmp ((f_X8_form nw 1) * (f_X8_form nw 2)) ((9 * (f_X8_form nw 0)) * (f_X8_form nw 3))) = 0 then (if (lg_cmp ((f_X8_form nw 2) * (f_X8_form nw 2)) ((3 * (f_X8_form nw 1)) * (f_X8_form nw 3))) = 0 then 1 else 2) else 2) else 2) else (if (lg_cmp ((((((((18 * (f_X8_form nw 0)) * (f_X8_form nw 1)) * (f_X8_form nw 2)) * (f_X8_form nw 3)) - ((((4 * (f_X8_form nw 1)) * (f_X8_form nw 1)) * (f_X8_form nw 1)) * (f_X8_form nw 3))) + ((((f_X8_form nw 1) * (f_X8_form nw 1)) * (f_X8_form nw 2)) * (f_X8_form nw 2))) - ((((4 * (f_X8_form nw 0)) * (f_X8_form nw 2)) * (f_X8_form nw 2)) * (f_X8_form nw 2))) - ((((27 * (f_X8_form nw 0)) * (f_X8_form nw 0)) * (f_X8_form nw 3)) * (f_X8_form nw 3))) 0) ≤ 0 then 1 else 3))) else (if (lg_cmp ((((((((18 * (f_X8_form nw 0)) * (f_X8_form nw 1)) * (f_X8_form nw 2)) * (f_X8_form nw 3)) - ((((4 * (f_X8_form nw 1)) * (f_X8_form nw 1)) * (f_X8_form nw 1)) * (f_X8_form nw 3))) + ((((f_X8_form nw 1) * (f_X8_form nw 1)) * (f_X8_form nw 2)) * (f_X8_form nw 2))) - ((((4 * (f_X8_form nw 0)) * (f_X8_form nw 2)) * (f_X8_form nw 2)) * (f_X8_form nw 2))) - ((((27 * (f_X8_form nw 0)) * (f_X8_form nw 0)) * (f_X8_form nw 3)) * (f_X8_form nw 3))) 0) = 0 then (if (lg_cmp ((f_X8_form nw 1) * (f_X8_form nw 1)) ((3 * (f_X8_form nw 0)) * (f_X8_form nw 2))) = 0 then (if (lg_cmp ((f_X8_form nw 1) * (f_X8_form nw 2)) ((9 * (f_X8_form nw 0)) * (f_X8_form nw 3))) = 0 then (if (lg_cmp ((f_X8_form nw 2) * (f_X8_form nw 2)) ((3 * (f_X8_form nw 1)) * (f_X8_form nw 3))) = 0 then 1 else 2) else 2) else 2) else (if (lg_cmp ((((((((18 * (f_X8_form nw 0)) * (f_X8_form nw 1)) * (f_X8_form nw 2)) * (f_X8_form nw 3)) - ((((4 * (f_X8_form nw 1)) * (f_X8_form nw 1)) * (f_X8_form nw 1)) * (f_X8_form nw 3))) + ((((f_X8_form nw 1) * (f_X8_form nw 1)) * (f_X8_form nw 2)) * (f_X8_form nw 2))) - ((((4 * (f_X8_form nw 0)) * (f_X8_form nw 2)) * (f_X8_form nw 2)) * (f_X8_form nw 2))) - ((((27 * (f_X8_form nw 0)) * (f_X8_form nw 0)) * (f_X8_form nw 3)) * (f_X8_form nw 3))) 0) ≤ 0 then 1 else 3)))
set_option maxHeartbeats 400000000 in
set_option maxRecDepth 100000 in
theorem c_X8_edge (l : Launch) (D : va_G) (cy : Nat → ClassId) (ta : Nat) (m_now : Nat) (m_undone : Nat) (m_slots : Nat) (m_slotKind : Nat) (m_hasSlot : Nat) (m_sheetBits : Nat) (m_sheetSize : Nat) (m_sheets : Nat) (m_fresh : Nat) (m_rootWhich : Nat) (m_signs : Nat) (m_atNought : Nat) (m_change : Nat) (m_table : Nat) (m_carried : Nat) (nw : Nat → Int32) (u : Nat) (fi : Int32) (aa : Int64) (bb : Int64) (dd : Int64) (ro : Nat) (db : Int32) (mn : Nat) : yk_Ci l D vwCl (yk_ty cy) yX8_edge wsX8_edge 2 43 [.ref ta] [(ta, .inr (8, [.ref m_now, .ref m_undone, .ref m_slots, .ref m_slotKind, .ref m_hasSlot, .ref m_sheetBits, .ref m_sheetSize, .ref m_sheets, .int (nI u), .int fi, .ref m_fresh, .long aa, .long bb, .long dd, .int (nI ro), .ref m_rootWhich, .int db, .ref m_signs, .ref m_atNought, .int (nI mn), .ref m_change, .ref m_table, .ref m_carried])), (m_now, .inl (cy 0, 29, .inl nw))] (f_X8_edge nw) [(ta, .inr (8, [.ref m_now, .ref m_undone, .ref m_slots, .ref m_slotKind, .ref m_hasSlot, .ref m_sheetBits, .ref m_sheetSize, .ref m_sheets, .int (nI u), .int fi, .ref m_fresh, .long aa, .long bb, .long dd, .int (nI ro), .ref m_rootWhich, .int db, .ref m_signs, .ref m_atNought, .int (nI mn), .ref m_change, .ref m_table, .ref m_carried])), (m_now, .inl (cy 0, 29, .inl nw))] := by
  refine yk_eI (cc := cX8_edge) (maxL := 11) (by decide) rfl (Nat.le_of_ble_eq_true rfl) rfl ?_
  intro p e R s m args below meth c A Q ls H locs hx hb hml hown hts hRf hRl hA hK hG hP hD hS hl hQ
  have hP : va_P D vwCl [(ta, .inr (8, [.ref m_now, .ref m_undone, .ref m_slots, .ref m_slotKind, .ref m_hasSlot, .ref m_sheetBits, .ref m_sheetSize, .ref m_sheets, .int (nI u), .int fi, .ref m_fresh, .long aa, .long bb, .long dd, .int (nI ro), .ref m_rootWhich, .int db, .ref m_signs, .ref m_atNought, .int (nI mn), .ref m_change, .ref m_table, .ref m_carried])), (m_now, .inl (cy 0, 29, .inl nw))] H := hP
  have hl : lv_has ls 11 [(0, .ref ta)] := hl
  have hown : s.vm.findClass RX8 = some m.cls := hown
  have hF : (f_X8_edge nw) = (f_X8_edge nw) := rfl
  refine lv_aload_n hx hb dX8_edge_0 rfl (lv_at hl 0 rfl) ?_
  refine lv_iconst (v := 0) hx hb dX8_edge_1 (by decide) ?_
  refine yk_l [0, 1] (va_runV (As := [.int 0]) (rest := []) ⟨hx, hb, hml, hown, hts⟩ (c_X8_form l D cy ta m_now m_undone m_slots m_slotKind m_hasSlot m_sheetBits m_sheetSize m_sheets m_fresh m_rootWhich m_signs m_atNought m_change m_table m_carried nw u fi aa bb dd ro db mn 0 H.size) (cwV 1 hts gX8_edge_X8_form rfl rfl rfl hv_X8_form (yk_room hRf hRl rfl rfl)) (yk_pv (q := (RX8, TX8, 23)) hG hA hS hK hP hD [0, 1] (by decide +kernel) rfl rfl rfl) rfl rfl hl.1 rfl (lv_room (Nat.le_of_ble_eq_true rfl)) dX8_edge_2 ⟨Nat.zero_le _, Nat.zero_le _⟩) hP hD hS hA rfl rfl (fun H locs hP9 hD9 hS9 => ?_)
  replace hP : va_P D vwCl [(ta, .inr (8, [.ref m_now, .ref m_undone, .ref m_slots, .ref m_slotKind, .ref m_hasSlot, .ref m_sheetBits, .ref m_sheetSize, .ref m_sheets, .int (nI u), .int fi, .ref m_fresh, .long aa, .long bb, .long dd, .int (nI ro), .ref m_rootWhich, .int db, .ref m_signs, .ref m_atNought, .int (nI mn), .ref m_change, .ref m_table, .ref m_carried])), (m_now, .inl (cy 0, 29, .inl nw))] H := hP9
  replace hD : va_D A [(ta, .inr (8, [.ref m_now, .ref m_undone, .ref m_slots, .ref m_slotKind, .ref m_hasSlot, .ref m_sheetBits, .ref m_sheetSize, .ref m_sheets, .int (nI u), .int fi, .ref m_fresh, .long aa, .long bb, .long dd, .int (nI ro), .ref m_rootWhich, .int db, .ref m_signs, .ref m_atNought, .int (nI mn), .ref m_change, .ref m_table, .ref m_carried])), (m_now, .inl (cy 0, 29, .inl nw))] := hD9
  replace hS := hS9
  clear hP9 hD9 hS9
  refine lv_lstore_n (lv' := [(1, .long (f_X8_form nw 0)), (0, .ref ta)]) hx hb dX8_edge_5 rfl hl (by decide) rfl (fun ls hl9 => ?_)
  replace hl := hl9
  clear hl9
  refine lv_aload_n hx hb dX8_edge_6 rfl (lv_at hl 1 rfl) ?_
  refine lv_iconst (v := 1) hx hb dX8_edge_7 (by decide) ?_
  refine yk_l [0, 1] (va_runV (As := [.int 1]) (rest := []) ⟨hx, hb, hml, hown, hts⟩ (c_X8_form l D cy ta m_now m_undone m_slots m_slotKind m_hasSlot m_sheetBits m_sheetSize m_sheets m_fresh m_rootWhich m_signs m_atNought m_change m_table m_carried nw u fi aa bb dd ro db mn 1 H.size) (cwV 1 hts gX8_edge_X8_form rfl rfl rfl hv_X8_form (yk_room hRf hRl rfl rfl)) (yk_pv (q := (RX8, TX8, 23)) hG hA hS hK hP hD [0, 1] (by decide +kernel) rfl rfl rfl) rfl rfl hl.1 rfl (lv_room (Nat.le_of_ble_eq_true rfl)) dX8_edge_8 ⟨Nat.zero_le _, Nat.zero_le _⟩) hP hD hS hA rfl rfl (fun H locs hP9 hD9 hS9 => ?_)
  replace hP : va_P D vwCl [(ta, .inr (8, [.ref m_now, .ref m_undone, .ref m_slots, .ref m_slotKind, .ref m_hasSlot, .ref m_sheetBits, .ref m_sheetSize, .ref m_sheets, .int (nI u), .int fi, .ref m_fresh, .long aa, .long bb, .long dd, .int (nI ro), .ref m_rootWhich, .int db, .ref m_signs, .ref m_atNought, .int (nI mn), .ref m_change, .ref m_table, .ref m_carried])), (m_now, .inl (cy 0, 29, .inl nw))] H := hP9
  replace hD : va_D A [(ta, .inr (8, [.ref m_now, .ref m_undone, .ref m_slots, .ref m_slotKind, .ref m_hasSlot, .ref m_sheetBits, .ref m_sheetSize, .ref m_sheets, .int (nI u), .int fi, .ref m_fresh, .long aa, .long bb, .long dd, .int (nI ro), .ref m_rootWhich, .int db, .ref m_signs, .ref m_atNought, .int (nI mn), .ref m_change, .ref m_table, .ref m_carried])), (m_now, .inl (cy 0, 29, .inl nw))] := hD9
  replace hS := hS9
  clear hP9 hD9 hS9
  refine lv_lstore_n (lv' := [(3, .long (f_X8_form nw 1)), (1, .long (f_X8_form nw 0)), (0, .ref ta)]) hx hb dX8_edge_11 rfl hl (by decide) rfl (fun ls hl9 => ?_)
  replace hl := hl9
  clear hl9
  refine lv_aload_n hx hb dX8_edge_12 rfl (lv_at hl 2 rfl) ?_
  refine lv_iconst (v := 2) hx hb dX8_edge_13 (by decide) ?_
  refine yk_l [0, 1] (va_runV (As := [.int 2]) (rest := []) ⟨hx, hb, hml, hown, hts⟩ (c_X8_form l D cy ta m_now m_undone m_slots m_slotKind m_hasSlot m_sheetBits m_sheetSize m_sheets m_fresh m_rootWhich m_signs m_atNought m_change m_table m_carried nw u fi aa bb dd ro db mn 2 H.size) (cwV 1 hts gX8_edge_X8_form rfl rfl rfl hv_X8_form (yk_room hRf hRl rfl rfl)) (yk_pv (q := (RX8, TX8, 23)) hG hA hS hK hP hD [0, 1] (by decide +kernel) rfl rfl rfl) rfl rfl hl.1 rfl (lv_room (Nat.le_of_ble_eq_true rfl)) dX8_edge_14 ⟨Nat.zero_le _, Nat.zero_le _⟩) hP hD hS hA rfl rfl (fun H locs hP9 hD9 hS9 => ?_)
  replace hP : va_P D vwCl [(ta, .inr (8, [.ref m_now, .ref m_undone, .ref m_slots, .ref m_slotKind, .ref m_hasSlot, .ref m_sheetBits, .ref m_sheetSize, .ref m_sheets, .int (nI u), .int fi, .ref m_fresh, .long aa, .long bb, .long dd, .int (nI ro), .ref m_rootWhich, .int db, .ref m_signs, .ref m_atNought, .int (nI mn), .ref m_change, .ref m_table, .ref m_carried])), (m_now, .inl (cy 0, 29, .inl nw))] H := hP9
  replace hD : va_D A [(ta, .inr (8, [.ref m_now, .ref m_undone, .ref m_slots, .ref m_slotKind, .ref m_hasSlot, .ref m_sheetBits, .ref m_sheetSize, .ref m_sheets, .int (nI u), .int fi, .ref m_fresh, .long aa, .long bb, .long dd, .int (nI ro), .ref m_rootWhich, .int db, .ref m_signs, .ref m_atNought, .int (nI mn), .ref m_change, .ref m_table, .ref m_carried])), (m_now, .inl (cy 0, 29, .inl nw))] := hD9
  replace hS := hS9
  clear hP9 hD9 hS9
  refine lv_lstore (lv' := [(5, .long (f_X8_form nw 2)), (3, .long (f_X8_form nw 1)), (1, .long (f_X8_form nw 0)), (0, .ref ta)]) hx hb dX8_edge_17 hl (by decide) rfl (fun ls hl9 => ?_)
  replace hl := hl9
  clear hl9
  refine lv_aload_n hx hb dX8_edge_19 rfl (lv_at hl 3 rfl) ?_
  refine lv_iconst (v := 3) hx hb dX8_edge_20 (by decide) ?_
  refine yk_l [0, 1] (va_runV (As := [.int 3]) (rest := []) ⟨hx, hb, hml, hown, hts⟩ (c_X8_form l D cy ta m_now m_undone m_slots m_slotKind m_hasSlot m_sheetBits m_sheetSize m_sheets m_fresh m_rootWhich m_signs m_atNought m_change m_table m_carried nw u fi aa bb dd ro db mn 3 H.size) (cwV 1 hts gX8_edge_X8_form rfl rfl rfl hv_X8_form (yk_room hRf hRl rfl rfl)) (yk_pv (q := (RX8, TX8, 23)) hG hA hS hK hP hD [0, 1] (by decide +kernel) rfl rfl rfl) rfl rfl hl.1 rfl (lv_room (Nat.le_of_ble_eq_true rfl)) dX8_edge_21 ⟨Nat.zero_le _, Nat.zero_le _⟩) hP hD hS hA rfl rfl (fun H locs hP9 hD9 hS9 => ?_)
  replace hP : va_P D vwCl [(ta, .inr (8, [.ref m_now, .ref m_undone, .ref m_slots, .ref m_slotKind, .ref m_hasSlot, .ref m_sheetBits, .ref m_sheetSize, .ref m_sheets, .int (nI u), .int fi, .ref m_fresh, .long aa, .long bb, .long dd, .int (nI ro), .ref m_rootWhich, .int db, .ref m_signs, .ref m_atNought, .int (nI mn), .ref m_change, .ref m_table, .ref m_carried])), (m_now, .inl (cy 0, 29, .inl nw))] H := hP9
  replace hD : va_D A [(ta, .inr (8, [.ref m_now, .ref m_undone, .ref m_slots, .ref m_slotKind, .ref m_hasSlot, .ref m_sheetBits, .ref m_sheetSize, .ref m_sheets, .int (nI u), .int fi, .ref m_fresh, .long aa, .long bb, .long dd, .int (nI ro), .ref m_rootWhich, .int db, .ref m_signs, .ref m_atNought, .int (nI mn), .ref m_change, .ref m_table, .ref m_carried])), (m_now, .inl (cy 0, 29, .inl nw))] := hD9
  replace hS := hS9
  clear hP9 hD9 hS9
  refine lv_lstore (lv' := [(7, .long (f_X8_form nw 3)), (5, .long (f_X8_form nw 2)), (3, .long (f_X8_form nw 1)), (1, .long (f_X8_form nw 0)), (0, .ref ta)]) hx hb dX8_edge_24 hl (by decide) rfl (fun ls hl9 => ?_)
  replace hl := hl9
  clear hl9
  refine lv_lload_n hx hb dX8_edge_26 rfl (lv_at hl 3 rfl) ?_
  refine lv_lconst (v := 0) hx hb dX8_edge_27 (by decide) ?_
  refine W.lcmp hx hb dX8_edge_28 ?_
  refine lv_if_ne (tgt := 54) hx hb dX8_edge_29 (by decide) (fun hc1 => ?_) (fun hc1 => ?_)
  · replace hF := hF.trans (if_neg hc1)
    refine lv_ldc2 (v := 18) hx hb hown (hts _ kX8_edge_0) dX8_edge_54 ?_
    refine lv_lload_n hx hb dX8_edge_57 rfl (lv_at hl 3 rfl) ?_
    refine lv_lmul hx hb dX8_edge_58 ?_
    refine lv_lload_n hx hb dX8_edge_59 rfl (lv_at hl 2 rfl) ?_
    refine lv_lmul hx hb dX8_edge_60 ?_
    refine lv_lload hx hb dX8_edge_61 (lv_at hl 1 rfl) ?_
    refine lv_lmul hx hb dX8_edge_63 ?_
    refine lv_lload hx hb dX8_edge_64 (lv_at hl 0 rfl) ?_
    refine lv_lmul hx hb dX8_edge_66 ?_
    refine lv_ldc2 (v := 4) hx hb hown (hts _ kX8_edge_1) dX8_edge_67 ?_
    refine lv_lload_n hx hb dX8_edge_70 rfl (lv_at hl 2 rfl) ?_
    refine lv_lmul hx hb dX8_edge_71 ?_
    refine lv_lload_n hx hb dX8_edge_72 rfl (lv_at hl 2 rfl) ?_
    refine lv_lmul hx hb dX8_edge_73 ?_
    refine lv_lload_n hx hb dX8_edge_74 rfl (lv_at hl 2 rfl) ?_
    refine lv_lmul hx hb dX8_edge_75 ?_
    refine lv_lload hx hb dX8_edge_76 (lv_at hl 0 rfl) ?_
    refine lv_lmul hx hb dX8_edge_78 ?_
    refine lv_lsub hx hb dX8_edge_79 ?_
    refine lv_lload_n hx hb dX8_edge_80 rfl (lv_at hl 2 rfl) ?_
    refine lv_lload_n hx hb dX8_edge_81 rfl (lv_at hl 2 rfl) ?_
    refine lv_lmul hx hb dX8_edge_82 ?_
    refine lv_lload hx hb dX8_edge_83 (lv_at hl 1 rfl) ?_
    refine lv_lmul hx hb dX8_edge_85 ?_
    refine lv_lload hx hb dX8_edge_86 (lv_at hl 1 rfl) ?_
    refine lv_lmul hx hb dX8_edge_88 ?_
    refine lv_ladd hx hb dX8_edge_89 ?_
    refine lv_ldc2 (v := 4) hx hb hown (hts _ kX8_edge_1) dX8_edge_90 ?_
    refine lv_lload_n hx hb dX8_edge_93 rfl (lv_at hl 3 rfl) ?_
    refine lv_lmul hx hb dX8_edge_94 ?_
    refine lv_lload hx hb dX8_edge_95 (lv_at hl 1 rfl) ?_
    refine lv_lmul hx hb dX8_edge_97 ?_
    refine lv_lload hx hb dX8_edge_98 (lv_at hl 1 rfl) ?_
    refine lv_lmul hx hb dX8_edge_100 ?_
    refine lv_lload hx hb dX8_edge_101 (lv_at hl 1 rfl) ?_
    refine lv_lmul hx hb dX8_edge_103 ?_
    refine lv_lsub hx hb dX8_edge_104 ?_
    refine lv_ldc2 (v := 27) hx hb hown (hts _ kX8_edge_2) dX8_edge_105 ?_
    refine lv_lload_n hx hb dX8_edge_108 rfl (lv_at hl 3 rfl) ?_
    refine lv_lmul hx hb dX8_edge_109 ?_
    refine lv_lload_n hx hb dX8_edge_110 rfl (lv_at hl 3 rfl) ?_
    refine lv_lmul hx hb dX8_edge_111 ?_
    refine lv_lload hx hb dX8_edge_112 (lv_at hl 0 rfl) ?_
    refine lv_lmul hx hb dX8_edge_114 ?_
    refine lv_lload hx hb dX8_edge_115 (lv_at hl 0 rfl) ?_
    refine lv_lmul hx hb dX8_edge_117 ?_
    refine lv_lsub hx hb dX8_edge_118 ?_
    refine lv_lstore (lv' := [(9, .long ((((((((18 * (f_X8_form nw 0)) * (f_X8_form nw 1)) * (f_X8_form nw 2)) * (f_X8_form nw 3)) - ((((4 * (f_X8_form nw 1)) * (f_X8_form nw 1)) * (f_X8_form nw 1)) * (f_X8_form nw 3))) + ((((f_X8_form nw 1) * (f_X8_form nw 1)) * (f_X8_form nw 2)) * (f_X8_form nw 2))) - ((((4 * (f_X8_form nw 0)) * (f_X8_form nw 2)) * (f_X8_form nw 2)) * (f_X8_form nw 2))) - ((((27 * (f_X8_form nw 0)) * (f_X8_form nw 0)) * (f_X8_form nw 3)) * (f_X8_form nw 3)))), (7, .long (f_X8_form nw 3)), (5, .long (f_X8_form nw 2)), (3, .long (f_X8_form nw 1)), (1, .long (f_X8_form nw 0)), (0, .ref ta)]) hx hb dX8_edge_119 hl (by decide) rfl (fun ls hl9 => ?_)
    replace hl := hl9
    clear hl9
    refine lv_lload hx hb dX8_edge_121 (lv_at hl 0 rfl) ?_
    refine lv_lconst (v := 0) hx hb dX8_edge_123 (by decide) ?_
    refine W.lcmp hx hb dX8_edge_124 ?_
    refine lv_if_eq (tgt := 141) hx hb dX8_edge_125 (by decide) (fun hc2 => ?_) (fun hc2 => ?_)
    · replace hF := hF.trans (if_pos hc2)
      refine lv_lload_n hx hb dX8_edge_141 rfl (lv_at hl 3 rfl) ?_
      refine lv_lload_n hx hb dX8_edge_142 rfl (lv_at hl 3 rfl) ?_
      refine lv_lmul hx hb dX8_edge_143 ?_
      refine lv_ldc2 (v := 3) hx hb hown (hts _ kX8_edge_3) dX8_edge_144 ?_
      refine lv_lload_n hx hb dX8_edge_147 rfl (lv_at hl 4 rfl) ?_
      refine lv_lmul hx hb dX8_edge_148 ?_
      refine lv_lload hx hb dX8_edge_149 (lv_at hl 2 rfl) ?_
      refine lv_lmul hx hb dX8_edge_151 ?_
      refine W.lcmp hx hb dX8_edge_152 ?_
      have J7 : ∀ (v6 : Int32) (H : Heap) (locs : List Loc) (ls : Array Slot), v6 = (if (lg_cmp ((f_X8_form nw 1) * (f_X8_form nw 1)) ((3 * (f_X8_form nw 0)) * (f_X8_form nw 2))) = 0 then (if (lg_cmp ((f_X8_form nw 1) * (f_X8_form nw 2)) ((9 * (f_X8_form nw 0)) * (f_X8_form nw 3))) = 0 then (if (lg_cmp ((f_X8_form nw 2) * (f_X8_form nw 2)) ((3 * (f_X8_form nw 1)) * (f_X8_form nw 3))) = 0 then 1 else 2) else 2) else 2) → va_P D vwCl [(ta, .inr (8, [.ref m_now, .ref m_undone, .ref m_slots, .ref m_slotKind, .ref m_hasSlot, .ref m_sheetBits, .ref m_sheetSize, .ref m_sheets, .int (nI u), .int fi, .ref m_fresh, .long aa, .long bb, .long dd, .int (nI ro), .ref m_rootWhich, .int db, .ref m_signs, .ref m_atNought, .int (nI mn), .ref m_change, .ref m_table, .ref m_carried])), (m_now, .inl (cy 0, 29, .inl nw))] H → va_D A [(ta, .inr (8, [.ref m_now, .ref m_undone, .ref m_slots, .ref m_slotKind, .ref m_hasSlot, .ref m_sheetBits, .ref m_sheetSize, .ref m_sheets, .int (nI u), .int fi, .ref m_fresh, .long aa, .long bb, .long dd, .int (nI ro), .ref m_rootWhich, .int db, .ref m_signs, .ref m_atNought, .int (nI mn), .ref m_change, .ref m_table, .ref m_carried])), (m_now, .inl (cy 0, 29, .inl nw))] → va_S A s.heap H locs → lv_has ls 11 [(0, .ref ta), (1, .long (f_X8_form nw 0)), (3, .long (f_X8_form nw 1)), (5, .long (f_X8_form nw 2)), (7, .long (f_X8_form nw 3)), (9, .long ((((((((18 * (f_X8_form nw 0)) * (f_X8_form nw 1)) * (f_X8_form nw 2)) * (f_X8_form nw 3)) - ((((4 * (f_X8_form nw 1)) * (f_X8_form nw 1)) * (f_X8_form nw 1)) * (f_X8_form nw 3))) + ((((f_X8_form nw 1) * (f_X8_form nw 1)) * (f_X8_form nw 2)) * (f_X8_form nw 2))) - ((((4 * (f_X8_form nw 0)) * (f_X8_form nw 2)) * (f_X8_form nw 2)) * (f_X8_form nw 2))) - ((((27 * (f_X8_form nw 0)) * (f_X8_form nw 0)) * (f_X8_form nw 3)) * (f_X8_form nw 3))))] → W p l e R s m args below meth c H locs 0 0 Q (F0 m 194 ls [.int v6]) := by
        clear hP hD hS hl
        intro v6 H locs ls ev6 hP hD hS hl
        subst ev6
        have hF : f_X8_edge nw = (if (lg_cmp ((f_X8_form nw 1) * (f_X8_form nw 1)) ((3 * (f_X8_form nw 0)) * (f_X8_form nw 2))) = 0 then (if (lg_cmp ((f_X8_form nw 1) * (f_X8_form nw 2)) ((9 * (f_X8_form nw 0)) * (f_X8_form nw 3))) = 0 then (if (lg_cmp ((f_X8_form nw 2) * (f_X8_form nw 2)) ((3 * (f_X8_form nw 1)) * (f_X8_form nw 3))) = 0 then 1 else 2) else 2) else 2) := hF
        rw [hF] at hQ
        exact hQ _ _ _ _ dX8_edge_194 hP hS
      refine lv_if_ne (tgt := 193) hx hb dX8_edge_153 (by decide) (fun hc3 => ?_) (fun hc3 => ?_)
      · refine lv_iconst (v := 2) hx hb dX8_edge_193 (by decide) ?_
        exact J7 _ _ _ _ ((if_neg hc3).symm) hP hD hS (lv_sub hl [5, 4, 3, 2, 1, 0] rfl)
      · refine lv_lload_n hx hb dX8_edge_156 rfl (lv_at hl 3 rfl) ?_
        refine lv_lload hx hb dX8_edge_157 (lv_at hl 2 rfl) ?_
        refine lv_lmul hx hb dX8_edge_159 ?_
        refine lv_ldc2 (v := 9) hx hb hown (hts _ kX8_edge_4) dX8_edge_160 ?_
        refine lv_lload_n hx hb dX8_edge_163 rfl (lv_at hl 4 rfl) ?_
        refine lv_lmul hx hb dX8_edge_164 ?_
        refine lv_lload hx hb dX8_edge_165 (lv_at hl 1 rfl) ?_
        refine lv_lmul hx hb dX8_edge_167 ?_
        refine W.lcmp hx hb dX8_edge_168 ?_
        refine lv_if_ne (tgt := 193) hx hb dX8_edge_169 (by decide) (fun hc4 => ?_) (fun hc4 => ?_)
        · refine lv_iconst (v := 2) hx hb dX8_edge_193 (by decide) ?_
          exact J7 _ _ _ _ (((if_pos hc3).trans (if_neg hc4)).symm) hP hD hS (lv_sub hl [5, 4, 3, 2, 1, 0] rfl)
        · refine lv_lload hx hb dX8_edge_172 (lv_at hl 2 rfl) ?_
          refine lv_lload hx hb dX8_edge_174 (lv_at hl 2 rfl) ?_
          refine lv_lmul hx hb dX8_edge_176 ?_
          refine lv_ldc2 (v := 3) hx hb hown (hts _ kX8_edge_3) dX8_edge_177 ?_
          refine lv_lload_n hx hb dX8_edge_180 rfl (lv_at hl 3 rfl) ?_
          refine lv_lmul hx hb dX8_edge_181 ?_
          refine lv_lload hx hb dX8_edge_182 (lv_at hl 1 rfl) ?_
          refine lv_lmul hx hb dX8_edge_184 ?_
          refine W.lcmp hx hb dX8_edge_185 ?_
          refine lv_if_ne (tgt := 193) hx hb dX8_edge_186 (by decide) (fun hc5 => ?_) (fun hc5 => ?_)
          · refine lv_iconst (v := 2) hx hb dX8_edge_193 (by decide) ?_
            exact J7 _ _ _ _ (((if_pos hc3).trans ((if_pos hc4).trans (if_neg hc5))).symm) hP hD hS (lv_sub hl [5, 4, 3, 2, 1, 0] rfl)
          · refine lv_iconst (v := 1) hx hb dX8_edge_189 (by decide) ?_
            refine lv_goto (tgt := 194) hx hb dX8_edge_190 (by decide) ?_
            exact J7 _ _ _ _ (((if_pos hc3).trans ((if_pos hc4).trans (if_pos hc5))).symm) hP hD hS (lv_sub hl [5, 4, 3, 2, 1, 0] rfl)
    · replace hF := hF.trans (if_neg hc2)
      refine lv_lload hx hb dX8_edge_128 (lv_at hl 0 rfl) ?_
      refine lv_lconst (v := 0) hx hb dX8_edge_130 (by decide) ?_
      refine W.lcmp hx hb dX8_edge_131 ?_
      have J10 : ∀ (v9 : Int32) (H : Heap) (locs : List Loc) (ls : Array Slot), v9 = (if (lg_cmp ((((((((18 * (f_X8_form nw 0)) * (f_X8_form nw 1)) * (f_X8_form nw 2)) * (f_X8_form nw 3)) - ((((4 * (f_X8_form nw 1)) * (f_X8_form nw 1)) * (f_X8_form nw 1)) * (f_X8_form nw 3))) + ((((f_X8_form nw 1) * (f_X8_form nw 1)) * (f_X8_form nw 2)) * (f_X8_form nw 2))) - ((((4 * (f_X8_form nw 0)) * (f_X8_form nw 2)) * (f_X8_form nw 2)) * (f_X8_form nw 2))) - ((((27 * (f_X8_form nw 0)) * (f_X8_form nw 0)) * (f_X8_form nw 3)) * (f_X8_form nw 3))) 0) ≤ 0 then 1 else 3) → va_P D vwCl [(ta, .inr (8, [.ref m_now, .ref m_undone, .ref m_slots, .ref m_slotKind, .ref m_hasSlot, .ref m_sheetBits, .ref m_sheetSize, .ref m_sheets, .int (nI u), .int fi, .ref m_fresh, .long aa, .long bb, .long dd, .int (nI ro), .ref m_rootWhich, .int db, .ref m_signs, .ref m_atNought, .int (nI mn), .ref m_change, .ref m_table, .ref m_carried])), (m_now, .inl (cy 0, 29, .inl nw))] H → va_D A [(ta, .inr (8, [.ref m_now, .ref m_undone, .ref m_slots, .ref m_slotKind, .ref m_hasSlot, .ref m_sheetBits, .ref m_sheetSize, .ref m_sheets, .int (nI u), .int fi, .ref m_fresh, .long aa, .long bb, .long dd, .int (nI ro), .ref m_rootWhich, .int db, .ref m_signs, .ref m_atNought, .int (nI mn), .ref m_change, .ref m_table, .ref m_carried])), (m_now, .inl (cy 0, 29, .inl nw))] → va_S A s.heap H locs → lv_has ls 11 [(0, .ref ta), (1, .long (f_X8_form nw 0)), (3, .long (f_X8_form nw 1)), (5, .long (f_X8_form nw 2)), (7, .long (f_X8_form nw 3)), (9, .long ((((((((18 * (f_X8_form nw 0)) * (f_X8_form nw 1)) * (f_X8_form nw 2)) * (f_X8_form nw 3)) - ((((4 * (f_X8_form nw 1)) * (f_X8_form nw 1)) * (f_X8_form nw 1)) * (f_X8_form nw 3))) + ((((f_X8_form nw 1) * (f_X8_form nw 1)) * (f_X8_form nw 2)) * (f_X8_form nw 2))) - ((((4 * (f_X8_form nw 0)) * (f_X8_form nw 2)) * (f_X8_form nw 2)) * (f_X8_form nw 2))) - ((((27 * (f_X8_form nw 0)) * (f_X8_form nw 0)) * (f_X8_form nw 3)) * (f_X8_form nw 3))))] → W p l e R s m args below meth c H locs 0 0 Q (F0 m 140 ls [.int v9]) := by
        clear hP hD hS hl
        intro v9 H locs ls ev9 hP hD hS hl
        subst ev9
        have hF : f_X8_edge nw = (if (lg_cmp ((((((((18 * (f_X8_form nw 0)) * (f_X8_form nw 1)) * (f_X8_form nw 2)) * (f_X8_form nw 3)) - ((((4 * (f_X8_form nw 1)) * (f_X8_form nw 1)) * (f_X8_form nw 1)) * (f_X8_form nw 3))) + ((((f_X8_form nw 1) * (f_X8_form nw 1)) * (f_X8_form nw 2)) * (f_X8_form nw 2))) - ((((4 * (f_X8_form nw 0)) * (f_X8_form nw 2)) * (f_X8_form nw 2)) * (f_X8_form nw 2))) - ((((27 * (f_X8_form nw 0)) * (f_X8_form nw 0)) * (f_X8_form nw 3)) * (f_X8_form nw 3))) 0) ≤ 0 then 1 else 3) := hF
        rw [hF] at hQ
        exact hQ _ _ _ _ dX8_edge_140 hP hS
      refine lv_if_le (tgt := 139) hx hb dX8_edge_132 (by decide) (fun hc8 => ?_) (fun hc8 => ?_)
      · refine lv_iconst (v := 1) hx hb dX8_edge_139 (by decide) ?_
        exact J10 _ _ _ _ ((if_pos hc8).symm) hP hD hS (lv_sub hl [5, 4, 3, 2, 1, 0] rfl)
      · refine lv_iconst (v := 3) hx hb dX8_edge_135 (by decide) ?_
        refine lv_goto (tgt := 140) hx hb dX8_edge_136 (by decide) ?_
        exact J10 _ _ _ _ ((if_neg hc8).symm) hP hD hS (lv_sub hl [5, 4, 3, 2, 1, 0] rfl)
  · replace hF := hF.trans (if_pos hc1)
    refine lv_lload_n hx hb dX8_edge_32 rfl (lv_at hl 2 rfl) ?_
    refine lv_lconst (v := 0) hx hb dX8_edge_33 (by decide) ?_
    refine W.lcmp hx hb dX8_edge_34 ?_
    refine lv_if_ne (tgt := 54) hx hb dX8_edge_35 (by decide) (fun hc11 => ?_) (fun hc11 => ?_)
    · replace hF := hF.trans (if_neg hc11)
      refine lv_ldc2 (v := 18) hx hb hown (hts _ kX8_edge_0) dX8_edge_54 ?_
      refine lv_lload_n hx hb dX8_edge_57 rfl (lv_at hl 3 rfl) ?_
      refine lv_lmul hx hb dX8_edge_58 ?_
      refine lv_lload_n hx hb dX8_edge_59 rfl (lv_at hl 2 rfl) ?_
      refine lv_lmul hx hb dX8_edge_60 ?_
      refine lv_lload hx hb dX8_edge_61 (lv_at hl 1 rfl) ?_
      refine lv_lmul hx hb dX8_edge_63 ?_
      refine lv_lload hx hb dX8_edge_64 (lv_at hl 0 rfl) ?_
      refine lv_lmul hx hb dX8_edge_66 ?_
      refine lv_ldc2 (v := 4) hx hb hown (hts _ kX8_edge_1) dX8_edge_67 ?_
      refine lv_lload_n hx hb dX8_edge_70 rfl (lv_at hl 2 rfl) ?_
      refine lv_lmul hx hb dX8_edge_71 ?_
      refine lv_lload_n hx hb dX8_edge_72 rfl (lv_at hl 2 rfl) ?_
      refine lv_lmul hx hb dX8_edge_73 ?_
      refine lv_lload_n hx hb dX8_edge_74 rfl (lv_at hl 2 rfl) ?_
      refine lv_lmul hx hb dX8_edge_75 ?_
      refine lv_lload hx hb dX8_edge_76 (lv_at hl 0 rfl) ?_
      refine lv_lmul hx hb dX8_edge_78 ?_
      refine lv_lsub hx hb dX8_edge_79 ?_
      refine lv_lload_n hx hb dX8_edge_80 rfl (lv_at hl 2 rfl) ?_
      refine lv_lload_n hx hb dX8_edge_81 rfl (lv_at hl 2 rfl) ?_
      refine lv_lmul hx hb dX8_edge_82 ?_
      refine lv_lload hx hb dX8_edge_83 (lv_at hl 1 rfl) ?_
      refine lv_lmul hx hb dX8_edge_85 ?_
      refine lv_lload hx hb dX8_edge_86 (lv_at hl 1 rfl) ?_
      refine lv_lmul hx hb dX8_edge_88 ?_
      refine lv_ladd hx hb dX8_edge_89 ?_
      refine lv_ldc2 (v := 4) hx hb hown (hts _ kX8_edge_1) dX8_edge_90 ?_
      refine lv_lload_n hx hb dX8_edge_93 rfl (lv_at hl 3 rfl) ?_
      refine lv_lmul hx hb dX8_edge_94 ?_
      refine lv_lload hx hb dX8_edge_95 (lv_at hl 1 rfl) ?_
      refine lv_lmul hx hb dX8_edge_97 ?_
      refine lv_lload hx hb dX8_edge_98 (lv_at hl 1 rfl) ?_
      refine lv_lmul hx hb dX8_edge_100 ?_
      refine lv_lload hx hb dX8_edge_101 (lv_at hl 1 rfl) ?_
      refine lv_lmul hx hb dX8_edge_103 ?_
      refine lv_lsub hx hb dX8_edge_104 ?_
      refine lv_ldc2 (v := 27) hx hb hown (hts _ kX8_edge_2) dX8_edge_105 ?_
      refine lv_lload_n hx hb dX8_edge_108 rfl (lv_at hl 3 rfl) ?_
      refine lv_lmul hx hb dX8_edge_109 ?_
      refine lv_lload_n hx hb dX8_edge_110 rfl (lv_at hl 3 rfl) ?_
      refine lv_lmul hx hb dX8_edge_111 ?_
      refine lv_lload hx hb dX8_edge_112 (lv_at hl 0 rfl) ?_
      refine lv_lmul hx hb dX8_edge_114 ?_
      refine lv_lload hx hb dX8_edge_115 (lv_at hl 0 rfl) ?_
      refine lv_lmul hx hb dX8_edge_117 ?_
      refine lv_lsub hx hb dX8_edge_118 ?_
      refine lv_lstore (lv' := [(9, .long ((((((((18 * (f_X8_form nw 0)) * (f_X8_form nw 1)) * (f_X8_form nw 2)) * (f_X8_form nw 3)) - ((((4 * (f_X8_form nw 1)) * (f_X8_form nw 1)) * (f_X8_form nw 1)) * (f_X8_form nw 3))) + ((((f_X8_form nw 1) * (f_X8_form nw 1)) * (f_X8_form nw 2)) * (f_X8_form nw 2))) - ((((4 * (f_X8_form nw 0)) * (f_X8_form nw 2)) * (f_X8_form nw 2)) * (f_X8_form nw 2))) - ((((27 * (f_X8_form nw 0)) * (f_X8_form nw 0)) * (f_X8_form nw 3)) * (f_X8_form nw 3)))), (7, .long (f_X8_form nw 3)), (5, .long (f_X8_form nw 2)), (3, .long (f_X8_form nw 1)), (1, .long (f_X8_form nw 0)), (0, .ref ta)]) hx hb dX8_edge_119 hl (by decide) rfl (fun ls hl9 => ?_)
      replace hl := hl9
      clear hl9
      refine lv_lload hx hb dX8_edge_121 (lv_at hl 0 rfl) ?_
      refine lv_lconst (v := 0) hx hb dX8_edge_123 (by decide) ?_
      refine W.lcmp hx hb dX8_edge_124 ?_
      refine lv_if_eq (tgt := 141) hx hb dX8_edge_125 (by decide) (fun hc12 => ?_) (fun hc12 => ?_)
      · replace hF := hF.trans (if_pos hc12)
        refine lv_lload_n hx hb dX8_edge_141 rfl (lv_at hl 3 rfl) ?_
        refine lv_lload_n hx hb dX8_edge_142 rfl (lv_at hl 3 rfl) ?_
        refine lv_lmul hx hb dX8_edge_143 ?_
        refine lv_ldc2 (v := 3) hx hb hown (hts _ kX8_edge_3) dX8_edge_144 ?_
        refine lv_lload_n hx hb dX8_edge_147 rfl (lv_at hl 4 rfl) ?_
        refine lv_lmul hx hb dX8_edge_148 ?_
        refine lv_lload hx hb dX8_edge_149 (lv_at hl 2 rfl) ?_
        refine lv_lmul hx hb dX8_edge_151 ?_
        refine W.lcmp hx hb dX8_edge_152 ?_
        have J17 : ∀ (v16 : Int32) (H : Heap) (locs : List Loc) (ls : Array Slot), v16 = (if (lg_cmp ((f_X8_form nw 1) * (f_X8_form nw 1)) ((3 * (f_X8_form nw 0)) * (f_X8_form nw 2))) = 0 then (if (lg_cmp ((f_X8_form nw 1) * (f_X8_form nw 2)) ((9 * (f_X8_form nw 0)) * (f_X8_form nw 3))) = 0 then (if (lg_cmp ((f_X8_form nw 2) * (f_X8_form nw 2)) ((3 * (f_X8_form nw 1)) * (f_X8_form nw 3))) = 0 then 1 else 2) else 2) else 2) → va_P D vwCl [(ta, .inr (8, [.ref m_now, .ref m_undone, .ref m_slots, .ref m_slotKind, .ref m_hasSlot, .ref m_sheetBits, .ref m_sheetSize, .ref m_sheets, .int (nI u), .int fi, .ref m_fresh, .long aa, .long bb, .long dd, .int (nI ro), .ref m_rootWhich, .int db, .ref m_signs, .ref m_atNought, .int (nI mn), .ref m_change, .ref m_table, .ref m_carried])), (m_now, .inl (cy 0, 29, .inl nw))] H → va_D A [(ta, .inr (8, [.ref m_now, .ref m_undone, .ref m_slots, .ref m_slotKind, .ref m_hasSlot, .ref m_sheetBits, .ref m_sheetSize, .ref m_sheets, .int (nI u), .int fi, .ref m_fresh, .long aa, .long bb, .long dd, .int (nI ro), .ref m_rootWhich, .int db, .ref m_signs, .ref m_atNought, .int (nI mn), .ref m_change, .ref m_table, .ref m_carried])), (m_now, .inl (cy 0, 29, .inl nw))] → va_S A s.heap H locs → lv_has ls 11 [(0, .ref ta), (1, .long (f_X8_form nw 0)), (3, .long (f_X8_form nw 1)), (5, .long (f_X8_form nw 2)), (7, .long (f_X8_form nw 3)), (9, .long ((((((((18 * (f_X8_form nw 0)) * (f_X8_form nw 1)) * (f_X8_form nw 2)) * (f_X8_form nw 3)) - ((((4 * (f_X8_form nw 1)) * (f_X8_form nw 1)) * (f_X8_form nw 1)) * (f_X8_form nw 3))) + ((((f_X8_form nw 1) * (f_X8_form nw 1)) * (f_X8_form nw 2)) * (f_X8_form nw 2))) - ((((4 * (f_X8_form nw 0)) * (f_X8_form nw 2)) * (f_X8_form nw 2)) * (f_X8_form nw 2))) - ((((27 * (f_X8_form nw 0)) * (f_X8_form nw 0)) * (f_X8_form nw 3)) * (f_X8_form nw 3))))] → W p l e R s m args below meth c H locs 0 0 Q (F0 m 194 ls [.int v16]) := by
          clear hP hD hS hl
          intro v16 H locs ls ev16 hP hD hS hl
          subst ev16
          have hF : f_X8_edge nw = (if (lg_cmp ((f_X8_form nw 1) * (f_X8_form nw 1)) ((3 * (f_X8_form nw 0)) * (f_X8_form nw 2))) = 0 then (if (lg_cmp ((f_X8_form nw 1) * (f_X8_form nw 2)) ((9 * (f_X8_form nw 0)) * (f_X8_form nw 3))) = 0 then (if (lg_cmp ((f_X8_form nw 2) * (f_X8_form nw 2)) ((3 * (f_X8_form nw 1)) * (f_X8_form nw 3))) = 0 then 1 else 2) else 2) else 2) := hF
          rw [hF] at hQ
          exact hQ _ _ _ _ dX8_edge_194 hP hS
        refine lv_if_ne (tgt := 193) hx hb dX8_edge_153 (by decide) (fun hc13 => ?_) (fun hc13 => ?_)
        · refine lv_iconst (v := 2) hx hb dX8_edge_193 (by decide) ?_
          exact J17 _ _ _ _ ((if_neg hc13).symm) hP hD hS (lv_sub hl [5, 4, 3, 2, 1, 0] rfl)
        · refine lv_lload_n hx hb dX8_edge_156 rfl (lv_at hl 3 rfl) ?_
          refine lv_lload hx hb dX8_edge_157 (lv_at hl 2 rfl) ?_
          refine lv_lmul hx hb dX8_edge_159 ?_
          refine lv_ldc2 (v := 9) hx hb hown (hts _ kX8_edge_4) dX8_edge_160 ?_
          refine lv_lload_n hx hb dX8_edge_163 rfl (lv_at hl 4 rfl) ?_
          refine lv_lmul hx hb dX8_edge_164 ?_
          refine lv_lload hx hb dX8_edge_165 (lv_at hl 1 rfl) ?_
          refine lv_lmul hx hb dX8_edge_167 ?_
          refine W.lcmp hx hb dX8_edge_168 ?_
          refine lv_if_ne (tgt := 193) hx hb dX8_edge_169 (by decide) (fun hc14 => ?_) (fun hc14 => ?_)
          · refine lv_iconst (v := 2) hx hb dX8_edge_193 (by decide) ?_
            exact J17 _ _ _ _ (((if_pos hc13).trans (if_neg hc14)).symm) hP hD hS (lv_sub hl [5, 4, 3, 2, 1, 0] rfl)
          · refine lv_lload hx hb dX8_edge_172 (lv_at hl 2 rfl) ?_
            refine lv_lload hx hb dX8_edge_174 (lv_at hl 2 rfl) ?_
            refine lv_lmul hx hb dX8_edge_176 ?_
            refine lv_ldc2 (v := 3) hx hb hown (hts _ kX8_edge_3) dX8_edge_177 ?_
            refine lv_lload_n hx hb dX8_edge_180 rfl (lv_at hl 3 rfl) ?_
            refine lv_lmul hx hb dX8_edge_181 ?_
            refine lv_lload hx hb dX8_edge_182 (lv_at hl 1 rfl) ?_
            refine lv_lmul hx hb dX8_edge_184 ?_
            refine W.lcmp hx hb dX8_edge_185 ?_
            refine lv_if_ne (tgt := 193) hx hb dX8_edge_186 (by decide) (fun hc15 => ?_) (fun hc15 => ?_)
            · refine lv_iconst (v := 2) hx hb dX8_edge_193 (by decide) ?_
              exact J17 _ _ _ _ (((if_pos hc13).trans ((if_pos hc14).trans (if_neg hc15))).symm) hP hD hS (lv_sub hl [5, 4, 3, 2, 1, 0] rfl)
            · refine lv_iconst (v := 1) hx hb dX8_edge_189 (by decide) ?_
              refine lv_goto (tgt := 194) hx hb dX8_edge_190 (by decide) ?_
              exact J17 _ _ _ _ (((if_pos hc13).trans ((if_pos hc14).trans (if_pos hc15))).symm) hP hD hS (lv_sub hl [5, 4, 3, 2, 1, 0] rfl)
      · replace hF := hF.trans (if_neg hc12)
        refine lv_lload hx hb dX8_edge_128 (lv_at hl 0 rfl) ?_
        refine lv_lconst (v := 0) hx hb dX8_edge_130 (by decide) ?_
        refine W.lcmp hx hb dX8_edge_131 ?_
        have J20 : ∀ (v19 : Int32) (H : Heap) (locs : List Loc) (ls : Array Slot), v19 = (if (lg_cmp ((((((((18 * (f_X8_form nw 0)) * (f_X8_form nw 1)) * (f_X8_form nw 2)) * (f_X8_form nw 3)) - ((((4 * (f_X8_form nw 1)) * (f_X8_form nw 1)) * (f_X8_form nw 1)) * (f_X8_form nw 3))) + ((((f_X8_form nw 1) * (f_X8_form nw 1)) * (f_X8_form nw 2)) * (f_X8_form nw 2))) - ((((4 * (f_X8_form nw 0)) * (f_X8_form nw 2)) * (f_X8_form nw 2)) * (f_X8_form nw 2))) - ((((27 * (f_X8_form nw 0)) * (f_X8_form nw 0)) * (f_X8_form nw 3)) * (f_X8_form nw 3))) 0) ≤ 0 then 1 else 3) → va_P D vwCl [(ta, .inr (8, [.ref m_now, .ref m_undone, .ref m_slots, .ref m_slotKind, .ref m_hasSlot, .ref m_sheetBits, .ref m_sheetSize, .ref m_sheets, .int (nI u), .int fi, .ref m_fresh, .long aa, .long bb, .long dd, .int (nI ro), .ref m_rootWhich, .int db, .ref m_signs, .ref m_atNought, .int (nI mn), .ref m_change, .ref m_table, .ref m_carried])), (m_now, .inl (cy 0, 29, .inl nw))] H → va_D A [(ta, .inr (8, [.ref m_now, .ref m_undone, .ref m_slots, .ref m_slotKind, .ref m_hasSlot, .ref m_sheetBits, .ref m_sheetSize, .ref m_sheets, .int (nI u), .int fi, .ref m_fresh, .long aa, .long bb, .long dd, .int (nI ro), .ref m_rootWhich, .int db, .ref m_signs, .ref m_atNought, .int (nI mn), .ref m_change, .ref m_table, .ref m_carried])), (m_now, .inl (cy 0, 29, .inl nw))] → va_S A s.heap H locs → lv_has ls 11 [(0, .ref ta), (1, .long (f_X8_form nw 0)), (3, .long (f_X8_form nw 1)), (5, .long (f_X8_form nw 2)), (7, .long (f_X8_form nw 3)), (9, .long ((((((((18 * (f_X8_form nw 0)) * (f_X8_form nw 1)) * (f_X8_form nw 2)) * (f_X8_form nw 3)) - ((((4 * (f_X8_form nw 1)) * (f_X8_form nw 1)) * (f_X8_form nw 1)) * (f_X8_form nw 3))) + ((((f_X8_form nw 1) * (f_X8_form nw 1)) * (f_X8_form nw 2)) * (f_X8_form nw 2))) - ((((4 * (f_X8_form nw 0)) * (f_X8_form nw 2)) * (f_X8_form nw 2)) * (f_X8_form nw 2))) - ((((27 * (f_X8_form nw 0)) * (f_X8_form nw 0)) * (f_X8_form nw 3)) * (f_X8_form nw 3))))] → W p l e R s m args below meth c H locs 0 0 Q (F0 m 140 ls [.int v19]) := by
          clear hP hD hS hl
          intro v19 H locs ls ev19 hP hD hS hl
          subst ev19
          have hF : f_X8_edge nw = (if (lg_cmp ((((((((18 * (f_X8_form nw 0)) * (f_X8_form nw 1)) * (f_X8_form nw 2)) * (f_X8_form nw 3)) - ((((4 * (f_X8_form nw 1)) * (f_X8_form nw 1)) * (f_X8_form nw 1)) * (f_X8_form nw 3))) + ((((f_X8_form nw 1) * (f_X8_form nw 1)) * (f_X8_form nw 2)) * (f_X8_form nw 2))) - ((((4 * (f_X8_form nw 0)) * (f_X8_form nw 2)) * (f_X8_form nw 2)) * (f_X8_form nw 2))) - ((((27 * (f_X8_form nw 0)) * (f_X8_form nw 0)) * (f_X8_form nw 3)) * (f_X8_form nw 3))) 0) ≤ 0 then 1 else 3) := hF
          rw [hF] at hQ
          exact hQ _ _ _ _ dX8_edge_140 hP hS
        refine lv_if_le (tgt := 139) hx hb dX8_edge_132 (by decide) (fun hc18 => ?_) (fun hc18 => ?_)
        · refine lv_iconst (v := 1) hx hb dX8_edge_139 (by decide) ?_
          exact J20 _ _ _ _ ((if_pos hc18).symm) hP hD hS (lv_sub hl [5, 4, 3, 2, 1, 0] rfl)
        · refine lv_iconst (v := 3) hx hb dX8_edge_135 (by decide) ?_
          refine lv_goto (tgt := 140) hx hb dX8_edge_136 (by decide) ?_
          exact J20 _ _ _ _ ((if_neg hc18).symm) hP hD hS (lv_sub hl [5, 4, 3, 2, 1, 0] rfl)
    · replace hF := hF.trans (if_pos hc11)
      refine lv_lload hx hb dX8_edge_38 (lv_at hl 1 rfl) ?_
      refine lv_lconst (v := 0) hx hb dX8_edge_40 (by decide) ?_
      refine W.lcmp hx hb dX8_edge_41 ?_
      refine lv_if_ne (tgt := 54) hx hb dX8_edge_42 (by decide) (fun hc21 => ?_) (fun hc21 => ?_)
      · replace hF := hF.trans (if_neg hc21)
        refine lv_ldc2 (v := 18) hx hb hown (hts _ kX8_edge_0) dX8_edge_54 ?_
        refine lv_lload_n hx hb dX8_edge_57 rfl (lv_at hl 3 rfl) ?_
        refine lv_lmul hx hb dX8_edge_58 ?_
        refine lv_lload_n hx hb dX8_edge_59 rfl (lv_at hl 2 rfl) ?_
        refine lv_lmul hx hb dX8_edge_60 ?_
        refine lv_lload hx hb dX8_edge_61 (lv_at hl 1 rfl) ?_
        refine lv_lmul hx hb dX8_edge_63 ?_
        refine lv_lload hx hb dX8_edge_64 (lv_at hl 0 rfl) ?_
        refine lv_lmul hx hb dX8_edge_66 ?_
        refine lv_ldc2 (v := 4) hx hb hown (hts _ kX8_edge_1) dX8_edge_67 ?_
        refine lv_lload_n hx hb dX8_edge_70 rfl (lv_at hl 2 rfl) ?_
        refine lv_lmul hx hb dX8_edge_71 ?_
        refine lv_lload_n hx hb dX8_edge_72 rfl (lv_at hl 2 rfl) ?_
        refine lv_lmul hx hb dX8_edge_73 ?_
        refine lv_lload_n hx hb dX8_edge_74 rfl (lv_at hl 2 rfl) ?_
        refine lv_lmul hx hb dX8_edge_75 ?_
        refine lv_lload hx hb dX8_edge_76 (lv_at hl 0 rfl) ?_
        refine lv_lmul hx hb dX8_edge_78 ?_
        refine lv_lsub hx hb dX8_edge_79 ?_
        refine lv_lload_n hx hb dX8_edge_80 rfl (lv_at hl 2 rfl) ?_
        refine lv_lload_n hx hb dX8_edge_81 rfl (lv_at hl 2 rfl) ?_
        refine lv_lmul hx hb dX8_edge_82 ?_
        refine lv_lload hx hb dX8_edge_83 (lv_at hl 1 rfl) ?_
        refine lv_lmul hx hb dX8_edge_85 ?_
        refine lv_lload hx hb dX8_edge_86 (lv_at hl 1 rfl) ?_
        refine lv_lmul hx hb dX8_edge_88 ?_
        refine lv_ladd hx hb dX8_edge_89 ?_
        refine lv_ldc2 (v := 4) hx hb hown (hts _ kX8_edge_1) dX8_edge_90 ?_
        refine lv_lload_n hx hb dX8_edge_93 rfl (lv_at hl 3 rfl) ?_
        refine lv_lmul hx hb dX8_edge_94 ?_
        refine lv_lload hx hb dX8_edge_95 (lv_at hl 1 rfl) ?_
        refine lv_lmul hx hb dX8_edge_97 ?_
        refine lv_lload hx hb dX8_edge_98 (lv_at hl 1 rfl) ?_
        refine lv_lmul hx hb dX8_edge_100 ?_
        refine lv_lload hx hb dX8_edge_101 (lv_at hl 1 rfl) ?_
        refine lv_lmul hx hb dX8_edge_103 ?_
        refine lv_lsub hx hb dX8_edge_104 ?_
        refine lv_ldc2 (v := 27) hx hb hown (hts _ kX8_edge_2) dX8_edge_105 ?_
        refine lv_lload_n hx hb dX8_edge_108 rfl (lv_at hl 3 rfl) ?_
        refine lv_lmul hx hb dX8_edge_109 ?_
        refine lv_lload_n hx hb dX8_edge_110 rfl (lv_at hl 3 rfl) ?_
        refine lv_lmul hx hb dX8_edge_111 ?_
        refine lv_lload hx hb dX8_edge_112 (lv_at hl 0 rfl) ?_
        refine lv_lmul hx hb dX8_edge_114 ?_
        refine lv_lload hx hb dX8_edge_115 (lv_at hl 0 rfl) ?_
        refine lv_lmul hx hb dX8_edge_117 ?_
        refine lv_lsub hx hb dX8_edge_118 ?_
        refine lv_lstore (lv' := [(9, .long ((((((((18 * (f_X8_form nw 0)) * (f_X8_form nw 1)) * (f_X8_form nw 2)) * (f_X8_form nw 3)) - ((((4 * (f_X8_form nw 1)) * (f_X8_form nw 1)) * (f_X8_form nw 1)) * (f_X8_form nw 3))) + ((((f_X8_form nw 1) * (f_X8_form nw 1)) * (f_X8_form nw 2)) * (f_X8_form nw 2))) - ((((4 * (f_X8_form nw 0)) * (f_X8_form nw 2)) * (f_X8_form nw 2)) * (f_X8_form nw 2))) - ((((27 * (f_X8_form nw 0)) * (f_X8_form nw 0)) * (f_X8_form nw 3)) * (f_X8_form nw 3)))), (7, .long (f_X8_form nw 3)), (5, .long (f_X8_form nw 2)), (3, .long (f_X8_form nw 1)), (1, .long (f_X8_form nw 0)), (0, .ref ta)]) hx hb dX8_edge_119 hl (by decide) rfl (fun ls hl9 => ?_)
        replace hl := hl9
        clear hl9
        refine lv_lload hx hb dX8_edge_121 (lv_at hl 0 rfl) ?_
        refine lv_lconst (v := 0) hx hb dX8_edge_123 (by decide) ?_
        refine W.lcmp hx hb dX8_edge_124 ?_
        refine lv_if_eq (tgt := 141) hx hb dX8_edge_125 (by decide) (fun hc22 => ?_) (fun hc22 => ?_)
        · replace hF := hF.trans (if_pos hc22)
          refine lv_lload_n hx hb dX8_edge_141 rfl (lv_at hl 3 rfl) ?_
          refine lv_lload_n hx hb dX8_edge_142 rfl (lv_at hl 3 rfl) ?_
          refine lv_lmul hx hb dX8_edge_143 ?_
          refine lv_ldc2 (v := 3) hx hb hown (hts _ kX8_edge_3) dX8_edge_144 ?_
          refine lv_lload_n hx hb dX8_edge_147 rfl (lv_at hl 4 rfl) ?_
          refine lv_lmul hx hb dX8_edge_148 ?_
          refine lv_lload hx hb dX8_edge_149 (lv_at hl 2 rfl) ?_
          refine lv_lmul hx hb dX8_edge_151 ?_
          refine W.lcmp hx hb dX8_edge_152 ?_
          have J27 : ∀ (v26 : Int32) (H : Heap) (locs : List Loc) (ls : Array Slot), v26 = (if (lg_cmp ((f_X8_form nw 1) * (f_X8_form nw 1)) ((3 * (f_X8_form nw 0)) * (f_X8_form nw 2))) = 0 then (if (lg_cmp ((f_X8_form nw 1) * (f_X8_form nw 2)) ((9 * (f_X8_form nw 0)) * (f_X8_form nw 3))) = 0 then (if (lg_cmp ((f_X8_form nw 2) * (f_X8_form nw 2)) ((3 * (f_X8_form nw 1)) * (f_X8_form nw 3))) = 0 then 1 else 2) else 2) else 2) → va_P D vwCl [(ta, .inr (8, [.ref m_now, .ref m_undone, .ref m_slots, .ref m_slotKind, .ref m_hasSlot, .ref m_sheetBits, .ref m_sheetSize, .ref m_sheets, .int (nI u), .int fi, .ref m_fresh, .long aa, .long bb, .long dd, .int (nI ro), .ref m_rootWhich, .int db, .ref m_signs, .ref m_atNought, .int (nI mn), .ref m_change, .ref m_table, .ref m_carried])), (m_now, .inl (cy 0, 29, .inl nw))] H → va_D A [(ta, .inr (8, [.ref m_now, .ref m_undone, .ref m_slots, .ref m_slotKind, .ref m_hasSlot, .ref m_sheetBits, .ref m_sheetSize, .ref m_sheets, .int (nI u), .int fi, .ref m_fresh, .long aa, .long bb, .long dd, .int (nI ro), .ref m_rootWhich, .int db, .ref m_signs, .ref m_atNought, .int (nI mn), .ref m_change, .ref m_table, .ref m_carried])), (m_now, .inl (cy 0, 29, .inl nw))] → va_S A s.heap H locs → lv_has ls 11 [(0, .ref ta), (1, .long (f_X8_form nw 0)), (3, .long (f_X8_form nw 1)), (5, .long (f_X8_form nw 2)), (7, .long (f_X8_form nw 3)), (9, .long ((((((((18 * (f_X8_form nw 0)) * (f_X8_form nw 1)) * (f_X8_form nw 2)) * (f_X8_form nw 3)) - ((((4 * (f_X8_form nw 1)) * (f_X8_form nw 1)) * (f_X8_form nw 1)) * (f_X8_form nw 3))) + ((((f_X8_form nw 1) * (f_X8_form nw 1)) * (f_X8_form nw 2)) * (f_X8_form nw 2))) - ((((4 * (f_X8_form nw 0)) * (f_X8_form nw 2)) * (f_X8_form nw 2)) * (f_X8_form nw 2))) - ((((27 * (f_X8_form nw 0)) * (f_X8_form nw 0)) * (f_X8_form nw 3)) * (f_X8_form nw 3))))] → W p l e R s m args below meth c H locs 0 0 Q (F0 m 194 ls [.int v26]) := by
            clear hP hD hS hl
            intro v26 H locs ls ev26 hP hD hS hl
            subst ev26
            have hF : f_X8_edge nw = (if (lg_cmp ((f_X8_form nw 1) * (f_X8_form nw 1)) ((3 * (f_X8_form nw 0)) * (f_X8_form nw 2))) = 0 then (if (lg_cmp ((f_X8_form nw 1) * (f_X8_form nw 2)) ((9 * (f_X8_form nw 0)) * (f_X8_form nw 3))) = 0 then (if (lg_cmp ((f_X8_form nw 2) * (f_X8_form nw 2)) ((3 * (f_X8_form nw 1)) * (f_X8_form nw 3))) = 0 then 1 else 2) else 2) else 2) := hF
            rw [hF] at hQ
            exact hQ _ _ _ _ dX8_edge_194 hP hS
          refine lv_if_ne (tgt := 193) hx hb dX8_edge_153 (by decide) (fun hc23 => ?_) (fun hc23 => ?_)
          · refine lv_iconst (v := 2) hx hb dX8_edge_193 (by decide) ?_
            exact J27 _ _ _ _ ((if_neg hc23).symm) hP hD hS (lv_sub hl [5, 4, 3, 2, 1, 0] rfl)
          · refine lv_lload_n hx hb dX8_edge_156 rfl (lv_at hl 3 rfl) ?_
            refine lv_lload hx hb dX8_edge_157 (lv_at hl 2 rfl) ?_
            refine lv_lmul hx hb dX8_edge_159 ?_
            refine lv_ldc2 (v := 9) hx hb hown (hts _ kX8_edge_4) dX8_edge_160 ?_
            refine lv_lload_n hx hb dX8_edge_163 rfl (lv_at hl 4 rfl) ?_
            refine lv_lmul hx hb dX8_edge_164 ?_
            refine lv_lload hx hb dX8_edge_165 (lv_at hl 1 rfl) ?_
            refine lv_lmul hx hb dX8_edge_167 ?_
            refine W.lcmp hx hb dX8_edge_168 ?_
            refine lv_if_ne (tgt := 193) hx hb dX8_edge_169 (by decide) (fun hc24 => ?_) (fun hc24 => ?_)
            · refine lv_iconst (v := 2) hx hb dX8_edge_193 (by decide) ?_
              exact J27 _ _ _ _ (((if_pos hc23).trans (if_neg hc24)).symm) hP hD hS (lv_sub hl [5, 4, 3, 2, 1, 0] rfl)
            · refine lv_lload hx hb dX8_edge_172 (lv_at hl 2 rfl) ?_
              refine lv_lload hx hb dX8_edge_174 (lv_at hl 2 rfl) ?_
              refine lv_lmul hx hb dX8_edge_176 ?_
              refine lv_ldc2 (v := 3) hx hb hown (hts _ kX8_edge_3) dX8_edge_177 ?_
              refine lv_lload_n hx hb dX8_edge_180 rfl (lv_at hl 3 rfl) ?_
              refine lv_lmul hx hb dX8_edge_181 ?_
              refine lv_lload hx hb dX8_edge_182 (lv_at hl 1 rfl) ?_
              refine lv_lmul hx hb dX8_edge_184 ?_
              refine W.lcmp hx hb dX8_edge_185 ?_
              refine lv_if_ne (tgt := 193) hx hb dX8_edge_186 (by decide) (fun hc25 => ?_) (fun hc25 => ?_)
              · refine lv_iconst (v := 2) hx hb dX8_edge_193 (by decide) ?_
                exact J27 _ _ _ _ (((if_pos hc23).trans ((if_pos hc24).trans (if_neg hc25))).symm) hP hD hS (lv_sub hl [5, 4, 3, 2, 1, 0] rfl)
              · refine lv_iconst (v := 1) hx hb dX8_edge_189 (by decide) ?_
                refine lv_goto (tgt := 194) hx hb dX8_edge_190 (by decide) ?_
                exact J27 _ _ _ _ (((if_pos hc23).trans ((if_pos hc24).trans (if_pos hc25))).symm) hP hD hS (lv_sub hl [5, 4, 3, 2, 1, 0] rfl)
        · replace hF := hF.trans (if_neg hc22)
          refine lv_lload hx hb dX8_edge_128 (lv_at hl 0 rfl) ?_
          refine lv_lconst (v := 0) hx hb dX8_edge_130 (by decide) ?_
          refine W.lcmp hx hb dX8_edge_131 ?_
          have J30 : ∀ (v29 : Int32) (H : Heap) (locs : List Loc) (ls : Array Slot), v29 = (if (lg_cmp ((((((((18 * (f_X8_form nw 0)) * (f_X8_form nw 1)) * (f_X8_form nw 2)) * (f_X8_form nw 3)) - ((((4 * (f_X8_form nw 1)) * (f_X8_form nw 1)) * (f_X8_form nw 1)) * (f_X8_form nw 3))) + ((((f_X8_form nw 1) * (f_X8_form nw 1)) * (f_X8_form nw 2)) * (f_X8_form nw 2))) - ((((4 * (f_X8_form nw 0)) * (f_X8_form nw 2)) * (f_X8_form nw 2)) * (f_X8_form nw 2))) - ((((27 * (f_X8_form nw 0)) * (f_X8_form nw 0)) * (f_X8_form nw 3)) * (f_X8_form nw 3))) 0) ≤ 0 then 1 else 3) → va_P D vwCl [(ta, .inr (8, [.ref m_now, .ref m_undone, .ref m_slots, .ref m_slotKind, .ref m_hasSlot, .ref m_sheetBits, .ref m_sheetSize, .ref m_sheets, .int (nI u), .int fi, .ref m_fresh, .long aa, .long bb, .long dd, .int (nI ro), .ref m_rootWhich, .int db, .ref m_signs, .ref m_atNought, .int (nI mn), .ref m_change, .ref m_table, .ref m_carried])), (m_now, .inl (cy 0, 29, .inl nw))] H → va_D A [(ta, .inr (8, [.ref m_now, .ref m_undone, .ref m_slots, .ref m_slotKind, .ref m_hasSlot, .ref m_sheetBits, .ref m_sheetSize, .ref m_sheets, .int (nI u), .int fi, .ref m_fresh, .long aa, .long bb, .long dd, .int (nI ro), .ref m_rootWhich, .int db, .ref m_signs, .ref m_atNought, .int (nI mn), .ref m_change, .ref m_table, .ref m_carried])), (m_now, .inl (cy 0, 29, .inl nw))] → va_S A s.heap H locs → lv_has ls 11 [(0, .ref ta), (1, .long (f_X8_form nw 0)), (3, .long (f_X8_form nw 1)), (5, .long (f_X8_form nw 2)), (7, .long (f_X8_form nw 3)), (9, .long ((((((((18 * (f_X8_form nw 0)) * (f_X8_form nw 1)) * (f_X8_form nw 2)) * (f_X8_form nw 3)) - ((((4 * (f_X8_form nw 1)) * (f_X8_form nw 1)) * (f_X8_form nw 1)) * (f_X8_form nw 3))) + ((((f_X8_form nw 1) * (f_X8_form nw 1)) * (f_X8_form nw 2)) * (f_X8_form nw 2))) - ((((4 * (f_X8_form nw 0)) * (f_X8_form nw 2)) * (f_X8_form nw 2)) * (f_X8_form nw 2))) - ((((27 * (f_X8_form nw 0)) * (f_X8_form nw 0)) * (f_X8_form nw 3)) * (f_X8_form nw 3))))] → W p l e R s m args below meth c H locs 0 0 Q (F0 m 140 ls [.int v29]) := by
            clear hP hD hS hl
            intro v29 H locs ls ev29 hP hD hS hl
            subst ev29
            have hF : f_X8_edge nw = (if (lg_cmp ((((((((18 * (f_X8_form nw 0)) * (f_X8_form nw 1)) * (f_X8_form nw 2)) * (f_X8_form nw 3)) - ((((4 * (f_X8_form nw 1)) * (f_X8_form nw 1)) * (f_X8_form nw 1)) * (f_X8_form nw 3))) + ((((f_X8_form nw 1) * (f_X8_form nw 1)) * (f_X8_form nw 2)) * (f_X8_form nw 2))) - ((((4 * (f_X8_form nw 0)) * (f_X8_form nw 2)) * (f_X8_form nw 2)) * (f_X8_form nw 2))) - ((((27 * (f_X8_form nw 0)) * (f_X8_form nw 0)) * (f_X8_form nw 3)) * (f_X8_form nw 3))) 0) ≤ 0 then 1 else 3) := hF
            rw [hF] at hQ
            exact hQ _ _ _ _ dX8_edge_140 hP hS
          refine lv_if_le (tgt := 139) hx hb dX8_edge_132 (by decide) (fun hc28 => ?_) (fun hc28 => ?_)
          · refine lv_iconst (v := 1) hx hb dX8_edge_139 (by decide) ?_
            exact J30 _ _ _ _ ((if_pos hc28).symm) hP hD hS (lv_sub hl [5, 4, 3, 2, 1, 0] rfl)
          · refine lv_iconst (v := 3) hx hb dX8_edge_135 (by decide) ?_
            refine lv_goto (tgt := 140) hx hb dX8_edge_136 (by decide) ?_
            exact J30 _ _ _ _ ((if_neg hc28).symm) hP hD hS (lv_sub hl [5, 4, 3, 2, 1, 0] rfl)
      · replace hF := hF.trans (if_pos hc21)
        refine lv_lload hx hb dX8_edge_45 (lv_at hl 0 rfl) ?_
        refine lv_lconst (v := 0) hx hb dX8_edge_47 (by decide) ?_
        refine W.lcmp hx hb dX8_edge_48 ?_
        refine lv_if_ne (tgt := 54) hx hb dX8_edge_49 (by decide) (fun hc31 => ?_) (fun hc31 => ?_)
        · replace hF := hF.trans (if_neg hc31)
          refine lv_ldc2 (v := 18) hx hb hown (hts _ kX8_edge_0) dX8_edge_54 ?_
          refine lv_lload_n hx hb dX8_edge_57 rfl (lv_at hl 3 rfl) ?_
          refine lv_lmul hx hb dX8_edge_58 ?_
          refine lv_lload_n hx hb dX8_edge_59 rfl (lv_at hl 2 rfl) ?_
          refine lv_lmul hx hb dX8_edge_60 ?_
          refine lv_lload hx hb dX8_edge_61 (lv_at hl 1 rfl) ?_
          refine lv_lmul hx hb dX8_edge_63 ?_
          refine lv_lload hx hb dX8_edge_64 (lv_at hl 0 rfl) ?_
          refine lv_lmul hx hb dX8_edge_66 ?_
          refine lv_ldc2 (v := 4) hx hb hown (hts _ kX8_edge_1) dX8_edge_67 ?_
          refine lv_lload_n hx hb dX8_edge_70 rfl (lv_at hl 2 rfl) ?_
          refine lv_lmul hx hb dX8_edge_71 ?_
          refine lv_lload_n hx hb dX8_edge_72 rfl (lv_at hl 2 rfl) ?_
          refine lv_lmul hx hb dX8_edge_73 ?_
          refine lv_lload_n hx hb dX8_edge_74 rfl (lv_at hl 2 rfl) ?_
          refine lv_lmul hx hb dX8_edge_75 ?_
          refine lv_lload hx hb dX8_edge_76 (lv_at hl 0 rfl) ?_
          refine lv_lmul hx hb dX8_edge_78 ?_
          refine lv_lsub hx hb dX8_edge_79 ?_
          refine lv_lload_n hx hb dX8_edge_80 rfl (lv_at hl 2 rfl) ?_
          refine lv_lload_n hx hb dX8_edge_81 rfl (lv_at hl 2 rfl) ?_
          refine lv_lmul hx hb dX8_edge_82 ?_
          refine lv_lload hx hb dX8_edge_83 (lv_at hl 1 rfl) ?_
          refine lv_lmul hx hb dX8_edge_85 ?_
          refine lv_lload hx hb dX8_edge_86 (lv_at hl 1 rfl) ?_
          refine lv_lmul hx hb dX8_edge_88 ?_
          refine lv_ladd hx hb dX8_edge_89 ?_
          refine lv_ldc2 (v := 4) hx hb hown (hts _ kX8_edge_1) dX8_edge_90 ?_
          refine lv_lload_n hx hb dX8_edge_93 rfl (lv_at hl 3 rfl) ?_
          refine lv_lmul hx hb dX8_edge_94 ?_
          refine lv_lload hx hb dX8_edge_95 (lv_at hl 1 rfl) ?_
          refine lv_lmul hx hb dX8_edge_97 ?_
          refine lv_lload hx hb dX8_edge_98 (lv_at hl 1 rfl) ?_
          refine lv_lmul hx hb dX8_edge_100 ?_
          refine lv_lload hx hb dX8_edge_101 (lv_at hl 1 rfl) ?_
          refine lv_lmul hx hb dX8_edge_103 ?_
          refine lv_lsub hx hb dX8_edge_104 ?_
          refine lv_ldc2 (v := 27) hx hb hown (hts _ kX8_edge_2) dX8_edge_105 ?_
          refine lv_lload_n hx hb dX8_edge_108 rfl (lv_at hl 3 rfl) ?_
          refine lv_lmul hx hb dX8_edge_109 ?_
          refine lv_lload_n hx hb dX8_edge_110 rfl (lv_at hl 3 rfl) ?_
          refine lv_lmul hx hb dX8_edge_111 ?_
          refine lv_lload hx hb dX8_edge_112 (lv_at hl 0 rfl) ?_
          refine lv_lmul hx hb dX8_edge_114 ?_
          refine lv_lload hx hb dX8_edge_115 (lv_at hl 0 rfl) ?_
          refine lv_lmul hx hb dX8_edge_117 ?_
          refine lv_lsub hx hb dX8_edge_118 ?_
          refine lv_lstore (lv' := [(9, .long ((((((((18 * (f_X8_form nw 0)) * (f_X8_form nw 1)) * (f_X8_form nw 2)) * (f_X8_form nw 3)) - ((((4 * (f_X8_form nw 1)) * (f_X8_form nw 1)) * (f_X8_form nw 1)) * (f_X8_form nw 3))) + ((((f_X8_form nw 1) * (f_X8_form nw 1)) * (f_X8_form nw 2)) * (f_X8_form nw 2))) - ((((4 * (f_X8_form nw 0)) * (f_X8_form nw 2)) * (f_X8_form nw 2)) * (f_X8_form nw 2))) - ((((27 * (f_X8_form nw 0)) * (f_X8_form nw 0)) * (f_X8_form nw 3)) * (f_X8_form nw 3)))), (7, .long (f_X8_form nw 3)), (5, .long (f_X8_form nw 2)), (3, .long (f_X8_form nw 1)), (1, .long (f_X8_form nw 0)), (0, .ref ta)]) hx hb dX8_edge_119 hl (by decide) rfl (fun ls hl9 => ?_)
          replace hl := hl9
          clear hl9
          refine lv_lload hx hb dX8_edge_121 (lv_at hl 0 rfl) ?_
          refine lv_lconst (v := 0) hx hb dX8_edge_123 (by decide) ?_
          refine W.lcmp hx hb dX8_edge_124 ?_
          refine lv_if_eq (tgt := 141) hx hb dX8_edge_125 (by decide) (fun hc32 => ?_) (fun hc32 => ?_)
          · replace hF := hF.trans (if_pos hc32)
            refine lv_lload_n hx hb dX8_edge_141 rfl (lv_at hl 3 rfl) ?_
            refine lv_lload_n hx hb dX8_edge_142 rfl (lv_at hl 3 rfl) ?_
            refine lv_lmul hx hb dX8_edge_143 ?_
            refine lv_ldc2 (v := 3) hx hb hown (hts _ kX8_edge_3) dX8_edge_144 ?_
            refine lv_lload_n hx hb dX8_edge_147 rfl (lv_at hl 4 rfl) ?_
            refine lv_lmul hx hb dX8_edge_148 ?_
            refine lv_lload hx hb dX8_edge_149 (lv_at hl 2 rfl) ?_
            refine lv_lmul hx hb dX8_edge_151 ?_
            refine W.lcmp hx hb dX8_edge_152 ?_
            have J37 : ∀ (v36 : Int32) (H : Heap) (locs : List Loc) (ls : Array Slot), v36 = (if (lg_cmp ((f_X8_form nw 1) * (f_X8_form nw 1)) ((3 * (f_X8_form nw 0)) * (f_X8_form nw 2))) = 0 then (if (lg_cmp ((f_X8_form nw 1) * (f_X8_form nw 2)) ((9 * (f_X8_form nw 0)) * (f_X8_form nw 3))) = 0 then (if (lg_cmp ((f_X8_form nw 2) * (f_X8_form nw 2)) ((3 * (f_X8_form nw 1)) * (f_X8_form nw 3))) = 0 then 1 else 2) else 2) else 2) → va_P D vwCl [(ta, .inr (8, [.ref m_now, .ref m_undone, .ref m_slots, .ref m_slotKind, .ref m_hasSlot, .ref m_sheetBits, .ref m_sheetSize, .ref m_sheets, .int (nI u), .int fi, .ref m_fresh, .long aa, .long bb, .long dd, .int (nI ro), .ref m_rootWhich, .int db, .ref m_signs, .ref m_atNought, .int (nI mn), .ref m_change, .ref m_table, .ref m_carried])), (m_now, .inl (cy 0, 29, .inl nw))] H → va_D A [(ta, .inr (8, [.ref m_now, .ref m_undone, .ref m_slots, .ref m_slotKind, .ref m_hasSlot, .ref m_sheetBits, .ref m_sheetSize, .ref m_sheets, .int (nI u), .int fi, .ref m_fresh, .long aa, .long bb, .long dd, .int (nI ro), .ref m_rootWhich, .int db, .ref m_signs, .ref m_atNought, .int (nI mn), .ref m_change, .ref m_table, .ref m_carried])), (m_now, .inl (cy 0, 29, .inl nw))] → va_S A s.heap H locs → lv_has ls 11 [(0, .ref ta), (1, .long (f_X8_form nw 0)), (3, .long (f_X8_form nw 1)), (5, .long (f_X8_form nw 2)), (7, .long (f_X8_form nw 3)), (9, .long ((((((((18 * (f_X8_form nw 0)) * (f_X8_form nw 1)) * (f_X8_form nw 2)) * (f_X8_form nw 3)) - ((((4 * (f_X8_form nw 1)) * (f_X8_form nw 1)) * (f_X8_form nw 1)) * (f_X8_form nw 3))) + ((((f_X8_form nw 1) * (f_X8_form nw 1)) * (f_X8_form nw 2)) * (f_X8_form nw 2))) - ((((4 * (f_X8_form nw 0)) * (f_X8_form nw 2)) * (f_X8_form nw 2)) * (f_X8_form nw 2))) - ((((27 * (f_X8_form nw 0)) * (f_X8_form nw 0)) * (f_X8_form nw 3)) * (f_X8_form nw 3))))] → W p l e R s m args below meth c H locs 0 0 Q (F0 m 194 ls [.int v36]) := by
              clear hP hD hS hl
              intro v36 H locs ls ev36 hP hD hS hl
              subst ev36
              have hF : f_X8_edge nw = (if (lg_cmp ((f_X8_form nw 1) * (f_X8_form nw 1)) ((3 * (f_X8_form nw 0)) * (f_X8_form nw 2))) = 0 then (if (lg_cmp ((f_X8_form nw 1) * (f_X8_form nw 2)) ((9 * (f_X8_form nw 0)) * (f_X8_form nw 3))) = 0 then (if (lg_cmp ((f_X8_form nw 2) * (f_X8_form nw 2)) ((3 * (f_X8_form nw 1)) * (f_X8_form nw 3))) = 0 then 1 else 2) else 2) else 2) := hF
              rw [hF] at hQ
              exact hQ _ _ _ _ dX8_edge_194 hP hS
            refine lv_if_ne (tgt := 193) hx hb dX8_edge_153 (by decide) (fun hc33 => ?_) (fun hc33 => ?_)
            · refine lv_iconst (v := 2) hx hb dX8_edge_193 (by decide) ?_
              exact J37 _ _ _ _ ((if_neg hc33).symm) hP hD hS (lv_sub hl [5, 4, 3, 2, 1, 0] rfl)
            · refine lv_lload_n hx hb dX8_edge_156 rfl (lv_at hl 3 rfl) ?_
              refine lv_lload hx hb dX8_edge_157 (lv_at hl 2 rfl) ?_
              refine lv_lmul hx hb dX8_edge_159 ?_
              refine lv_ldc2 (v := 9) hx hb hown (hts _ kX8_edge_4) dX8_edge_160 ?_
              refine lv_lload_n hx hb dX8_edge_163 rfl (lv_at hl 4 rfl) ?_
              refine lv_lmul hx hb dX8_edge_164 ?_
              refine lv_lload hx hb dX8_edge_165 (lv_at hl 1 rfl) ?_
              refine lv_lmul hx hb dX8_edge_167 ?_
              refine W.lcmp hx hb dX8_edge_168 ?_
              refine lv_if_ne (tgt := 193) hx hb dX8_edge_169 (by decide) (fun hc34 => ?_) (fun hc34 => ?_)
              · refine lv_iconst (v := 2) hx hb dX8_edge_193 (by decide) ?_
                exact J37 _ _ _ _ (((if_pos hc33).trans (if_neg hc34)).symm) hP hD hS (lv_sub hl [5, 4, 3, 2, 1, 0] rfl)
              · refine lv_lload hx hb dX8_edge_172 (lv_at hl 2 rfl) ?_
                refine lv_lload hx hb dX8_edge_174 (lv_at hl 2 rfl) ?_
                refine lv_lmul hx hb dX8_edge_176 ?_
                refine lv_ldc2 (v := 3) hx hb hown (hts _ kX8_edge_3) dX8_edge_177 ?_
                refine lv_lload_n hx hb dX8_edge_180 rfl (lv_at hl 3 rfl) ?_
                refine lv_lmul hx hb dX8_edge_181 ?_
                refine lv_lload hx hb dX8_edge_182 (lv_at hl 1 rfl) ?_
                refine lv_lmul hx hb dX8_edge_184 ?_
                refine W.lcmp hx hb dX8_edge_185 ?_
                refine lv_if_ne (tgt := 193) hx hb dX8_edge_186 (by decide) (fun hc35 => ?_) (fun hc35 => ?_)
                · refine lv_iconst (v := 2) hx hb dX8_edge_193 (by decide) ?_
                  exact J37 _ _ _ _ (((if_pos hc33).trans ((if_pos hc34).trans (if_neg hc35))).symm) hP hD hS (lv_sub hl [5, 4, 3, 2, 1, 0] rfl)
                · refine lv_iconst (v := 1) hx hb dX8_edge_189 (by decide) ?_
                  refine lv_goto (tgt := 194) hx hb dX8_edge_190 (by decide) ?_
                  exact J37 _ _ _ _ (((if_pos hc33).trans ((if_pos hc34).trans (if_pos hc35))).symm) hP hD hS (lv_sub hl [5, 4, 3, 2, 1, 0] rfl)
          · replace hF := hF.trans (if_neg hc32)
            refine lv_lload hx hb dX8_edge_128 (lv_at hl 0 rfl) ?_
            refine lv_lconst (v := 0) hx hb dX8_edge_130 (by decide) ?_
            refine W.lcmp hx hb dX8_edge_131 ?_
            have J40 : ∀ (v39 : Int32) (H : Heap) (locs : List Loc) (ls : Array Slot), v39 = (if (lg_cmp ((((((((18 * (f_X8_form nw 0)) * (f_X8_form nw 1)) * (f_X8_form nw 2)) * (f_X8_form nw 3)) - ((((4 * (f_X8_form nw 1)) * (f_X8_form nw 1)) * (f_X8_form nw 1)) * (f_X8_form nw 3))) + ((((f_X8_form nw 1) * (f_X8_form nw 1)) * (f_X8_form nw 2)) * (f_X8_form nw 2))) - ((((4 * (f_X8_form nw 0)) * (f_X8_form nw 2)) * (f_X8_form nw 2)) * (f_X8_form nw 2))) - ((((27 * (f_X8_form nw 0)) * (f_X8_form nw 0)) * (f_X8_form nw 3)) * (f_X8_form nw 3))) 0) ≤ 0 then 1 else 3) → va_P D vwCl [(ta, .inr (8, [.ref m_now, .ref m_undone, .ref m_slots, .ref m_slotKind, .ref m_hasSlot, .ref m_sheetBits, .ref m_sheetSize, .ref m_sheets, .int (nI u), .int fi, .ref m_fresh, .long aa, .long bb, .long dd, .int (nI ro), .ref m_rootWhich, .int db, .ref m_signs, .ref m_atNought, .int (nI mn), .ref m_change, .ref m_table, .ref m_carried])), (m_now, .inl (cy 0, 29, .inl nw))] H → va_D A [(ta, .inr (8, [.ref m_now, .ref m_undone, .ref m_slots, .ref m_slotKind, .ref m_hasSlot, .ref m_sheetBits, .ref m_sheetSize, .ref m_sheets, .int (nI u), .int fi, .ref m_fresh, .long aa, .long bb, .long dd, .int (nI ro), .ref m_rootWhich, .int db, .ref m_signs, .ref m_atNought, .int (nI mn), .ref m_change, .ref m_table, .ref m_carried])), (m_now, .inl (cy 0, 29, .inl nw))] → va_S A s.heap H locs → lv_has ls 11 [(0, .ref ta), (1, .long (f_X8_form nw 0)), (3, .long (f_X8_form nw 1)), (5, .long (f_X8_form nw 2)), (7, .long (f_X8_form nw 3)), (9, .long ((((((((18 * (f_X8_form nw 0)) * (f_X8_form nw 1)) * (f_X8_form nw 2)) * (f_X8_form nw 3)) - ((((4 * (f_X8_form nw 1)) * (f_X8_form nw 1)) * (f_X8_form nw 1)) * (f_X8_form nw 3))) + ((((f_X8_form nw 1) * (f_X8_form nw 1)) * (f_X8_form nw 2)) * (f_X8_form nw 2))) - ((((4 * (f_X8_form nw 0)) * (f_X8_form nw 2)) * (f_X8_form nw 2)) * (f_X8_form nw 2))) - ((((27 * (f_X8_form nw 0)) * (f_X8_form nw 0)) * (f_X8_form nw 3)) * (f_X8_form nw 3))))] → W p l e R s m args below meth c H locs 0 0 Q (F0 m 140 ls [.int v39]) := by
              clear hP hD hS hl
              intro v39 H locs ls ev39 hP hD hS hl
              subst ev39
              have hF : f_X8_edge nw = (if (lg_cmp ((((((((18 * (f_X8_form nw 0)) * (f_X8_form nw 1)) * (f_X8_form nw 2)) * (f_X8_form nw 3)) - ((((4 * (f_X8_form nw 1)) * (f_X8_form nw 1)) * (f_X8_form nw 1)) * (f_X8_form nw 3))) + ((((f_X8_form nw 1) * (f_X8_form nw 1)) * (f_X8_form nw 2)) * (f_X8_form nw 2))) - ((((4 * (f_X8_form nw 0)) * (f_X8_form nw 2)) * (f_X8_form nw 2)) * (f_X8_form nw 2))) - ((((27 * (f_X8_form nw 0)) * (f_X8_form nw 0)) * (f_X8_form nw 3)) * (f_X8_form nw 3))) 0) ≤ 0 then 1 else 3) := hF
              rw [hF] at hQ
              exact hQ _ _ _ _ dX8_edge_140 hP hS
            refine lv_if_le (tgt := 139) hx hb dX8_edge_132 (by decide) (fun hc38 => ?_) (fun hc38 => ?_)
            · refine lv_iconst (v := 1) hx hb dX8_edge_139 (by decide) ?_
              exact J40 _ _ _ _ ((if_pos hc38).symm) hP hD hS (lv_sub hl [5, 4, 3, 2, 1, 0] rfl)
            · refine lv_iconst (v := 3) hx hb dX8_edge_135 (by decide) ?_
              refine lv_goto (tgt := 140) hx hb dX8_edge_136 (by decide) ?_
              exact J40 _ _ _ _ ((if_neg hc38).symm) hP hD hS (lv_sub hl [5, 4, 3, 2, 1, 0] rfl)
        · replace hF := hF.trans (if_pos hc31)
          refine lv_iconst (v := 4) hx hb dX8_edge_52 (by decide) ?_
          have hF : f_X8_edge nw = 4 := hF
          rw [hF] at hQ
          exact hQ _ _ _ _ dX8_edge_53 hP hS

theorem kX8_far_0 : Cond.constant RX8 68 (-1000001) ∈ wsX8_far := by decide +kernel
def f_X8_far (nw : Nat → Int32) (fi : Int32) (px : Int32) (py : Int32) : Int32 × Int32 := (if (f_X8_isPlace px py) = 0 then (((f_X8_found fi (-1000001)).1), ((f_X8_found fi (-1000001)).2)) else (if px = 0 then (if py = 0 then (((f_X8_found fi (-1000001)).1), ((f_X8_found fi (-1000001)).2)) else ((if (lg_cmp (((((((f_X8_form nw 0) * ((px).toInt64)) * ((px).toInt64)) * ((px).toInt64)) + ((((f_X8_form nw 1) * ((px).toInt64)) * ((px).toInt64)) * ((py).toInt64))) + ((((f_X8_form nw 2) * ((px).toInt64)) * ((py).toInt64)) * ((py).toInt64))) + ((((f_X8_form nw 3) * ((py).toInt64)) * ((py).toInt64)) * ((py).toInt64))) 0) = 0 then 1 else 0), fi)) else ((if (lg_cmp (((((((f_X8_form nw 0) * ((px).toInt64)) * ((px).toInt64)) * ((px).toInt64)) + ((((f_X8_form nw 1) * ((px).toInt64)) * ((px).toInt64)) * ((py).toInt64))) + ((((f_X8_form nw 2) * ((px).toInt64)) * ((py).toInt64)) * ((py).toInt64))) + ((((f_X8_form nw 3) * ((py).toInt64)) * ((py).toInt64)) * ((py).toInt64))) 0) = 0 then 1 else 0), fi)))
set_option maxHeartbeats 400000000 in
set_option maxRecDepth 100000 in
theorem c_X8_far (l : Launch) (D : va_G) (cy : Nat → ClassId) (ta : Nat) (m_now : Nat) (m_undone : Nat) (m_slots : Nat) (m_slotKind : Nat) (m_hasSlot : Nat) (m_sheetBits : Nat) (m_sheetSize : Nat) (m_sheets : Nat) (m_fresh : Nat) (m_rootWhich : Nat) (m_signs : Nat) (m_atNought : Nat) (m_change : Nat) (m_table : Nat) (m_carried : Nat) (nw : Nat → Int32) (u : Nat) (fi : Int32) (aa : Int64) (bb : Int64) (dd : Int64) (ro : Nat) (db : Int32) (mn : Nat) (px : Int32) (py : Int32) : yk_Ci l D vwCl (yk_ty cy) yX8_far wsX8_far 2 43 [.ref ta, .int px, .int py] [(ta, .inr (8, [.ref m_now, .ref m_undone, .ref m_slots, .ref m_slotKind, .ref m_hasSlot, .ref m_sheetBits, .ref m_sheetSize, .ref m_sheets, .int (nI u), .int fi, .ref m_fresh, .long aa, .long bb, .long dd, .int (nI ro), .ref m_rootWhich, .int db, .ref m_signs, .ref m_atNought, .int (nI mn), .ref m_change, .ref m_table, .ref m_carried])), (m_now, .inl (cy 0, 29, .inl nw))] ((f_X8_far nw fi px py).1) [(ta, .inr (8, [.ref m_now, .ref m_undone, .ref m_slots, .ref m_slotKind, .ref m_hasSlot, .ref m_sheetBits, .ref m_sheetSize, .ref m_sheets, .int (nI u), .int ((f_X8_far nw fi px py).2), .ref m_fresh, .long aa, .long bb, .long dd, .int (nI ro), .ref m_rootWhich, .int db, .ref m_signs, .ref m_atNought, .int (nI mn), .ref m_change, .ref m_table, .ref m_carried])), (m_now, .inl (cy 0, 29, .inl nw))] := by
  refine yk_eI (cc := cX8_far) (maxL := 3) (by decide) rfl (Nat.le_of_ble_eq_true rfl) rfl ?_
  intro p e R s m args below meth c A Q ls H locs hx hb hml hown hts hRf hRl hA hK hG hP hD hS hl hQ
  have hP : va_P D vwCl [(ta, .inr (8, [.ref m_now, .ref m_undone, .ref m_slots, .ref m_slotKind, .ref m_hasSlot, .ref m_sheetBits, .ref m_sheetSize, .ref m_sheets, .int (nI u), .int fi, .ref m_fresh, .long aa, .long bb, .long dd, .int (nI ro), .ref m_rootWhich, .int db, .ref m_signs, .ref m_atNought, .int (nI mn), .ref m_change, .ref m_table, .ref m_carried])), (m_now, .inl (cy 0, 29, .inl nw))] H := hP
  have hl : lv_has ls 3 [(0, .ref ta), (1, .int px), (2, .int py)] := hl
  have hown : s.vm.findClass RX8 = some m.cls := hown
  have hF : (f_X8_far nw fi px py) = (f_X8_far nw fi px py) := rfl
  refine lv_iload_n hx hb dX8_far_0 rfl (lv_at hl 1 rfl) ?_
  refine lv_iload_n hx hb dX8_far_1 rfl (lv_at hl 2 rfl) ?_
  refine yk_i [] (va_runS (As := [.int px, .int py]) (rest := []) ⟨hx, hb, hml, hown, hts⟩ (c_X8_isPlace l D cy px py H.size) (va_cwS 2 hts gX8_far_X8_isPlace rfl rfl rfl hs_X8_isPlace (yk_room hRf hRl rfl rfl)) (yk_ps hG hA hS hK hP hD [] (by decide +kernel) rfl) rfl rfl hl.1 rfl (lv_room (Nat.le_of_ble_eq_true rfl)) dX8_far_2 ⟨Nat.zero_le _, Nat.zero_le _⟩) hP hD hS hA rfl rfl (fun H locs hP9 hD9 hS9 => ?_)
  replace hP : va_P D vwCl [(ta, .inr (8, [.ref m_now, .ref m_undone, .ref m_slots, .ref m_slotKind, .ref m_hasSlot, .ref m_sheetBits, .ref m_sheetSize, .ref m_sheets, .int (nI u), .int fi, .ref m_fresh, .long aa, .long bb, .long dd, .int (nI ro), .ref m_rootWhich, .int db, .ref m_signs, .ref m_atNought, .int (nI mn), .ref m_change, .ref m_table, .ref m_carried])), (m_now, .inl (cy 0, 29, .inl nw))] H := hP9
  replace hD : va_D A [(ta, .inr (8, [.ref m_now, .ref m_undone, .ref m_slots, .ref m_slotKind, .ref m_hasSlot, .ref m_sheetBits, .ref m_sheetSize, .ref m_sheets, .int (nI u), .int fi, .ref m_fresh, .long aa, .long bb, .long dd, .int (nI ro), .ref m_rootWhich, .int db, .ref m_signs, .ref m_atNought, .int (nI mn), .ref m_change, .ref m_table, .ref m_carried])), (m_now, .inl (cy 0, 29, .inl nw))] := hD9
  replace hS := hS9
  clear hP9 hD9 hS9
  refine lv_if_eq (tgt := 16) hx hb dX8_far_5 (by decide) (fun hc1 => ?_) (fun hc1 => ?_)
  · replace hF := hF.trans (if_pos hc1)
    refine lv_aload_n hx hb dX8_far_16 rfl (lv_at hl 0 rfl) ?_
    refine lv_ldc (v := (-1000001)) hx hb hown (hts _ kX8_far_0) dX8_far_17 ?_
    refine yk_i [0] (va_runV (As := [.int (-1000001)]) (rest := []) ⟨hx, hb, hml, hown, hts⟩ (c_X8_found l D cy ta m_now m_undone m_slots m_slotKind m_hasSlot m_sheetBits m_sheetSize m_sheets m_fresh m_rootWhich m_signs m_atNought m_change m_table m_carried u fi aa bb dd ro db mn (-1000001) H.size) (cwV 1 hts gX8_far_X8_found rfl rfl rfl hv_X8_found (yk_room hRf hRl rfl rfl)) (yk_pv (q := (RX8, TX8, 23)) hG hA hS hK hP hD [0] (by decide +kernel) rfl rfl rfl) rfl rfl hl.1 rfl (lv_room (Nat.le_of_ble_eq_true rfl)) dX8_far_19 ⟨Nat.zero_le _, Nat.zero_le _⟩) hP hD hS hA rfl rfl (fun H locs hP9 hD9 hS9 => ?_)
    replace hP : va_P D vwCl [(ta, .inr (8, [.ref m_now, .ref m_undone, .ref m_slots, .ref m_slotKind, .ref m_hasSlot, .ref m_sheetBits, .ref m_sheetSize, .ref m_sheets, .int (nI u), .int ((f_X8_found fi (-1000001)).2), .ref m_fresh, .long aa, .long bb, .long dd, .int (nI ro), .ref m_rootWhich, .int db, .ref m_signs, .ref m_atNought, .int (nI mn), .ref m_change, .ref m_table, .ref m_carried])), (m_now, .inl (cy 0, 29, .inl nw))] H := hP9
    replace hD : va_D A [(ta, .inr (8, [.ref m_now, .ref m_undone, .ref m_slots, .ref m_slotKind, .ref m_hasSlot, .ref m_sheetBits, .ref m_sheetSize, .ref m_sheets, .int (nI u), .int ((f_X8_found fi (-1000001)).2), .ref m_fresh, .long aa, .long bb, .long dd, .int (nI ro), .ref m_rootWhich, .int db, .ref m_signs, .ref m_atNought, .int (nI mn), .ref m_change, .ref m_table, .ref m_carried])), (m_now, .inl (cy 0, 29, .inl nw))] := hD9
    replace hS := hS9
    clear hP9 hD9 hS9
    have hF : f_X8_far nw fi px py = (((f_X8_found fi (-1000001)).1), ((f_X8_found fi (-1000001)).2)) := hF
    have hf0 := yk_fst hF
    have hg0 := yk_snd hF
    rw [hf0, hg0] at hQ
    exact hQ _ _ _ _ dX8_far_22 hP hS
  · replace hF := hF.trans (if_neg hc1)
    refine lv_iload_n hx hb dX8_far_8 rfl (lv_at hl 1 rfl) ?_
    refine lv_if_ne (tgt := 23) hx hb dX8_far_9 (by decide) (fun hc2 => ?_) (fun hc2 => ?_)
    · replace hF := hF.trans (if_neg hc2)
      refine lv_aload_n hx hb dX8_far_23 rfl (lv_at hl 0 rfl) ?_
      refine lv_iconst (v := 0) hx hb dX8_far_24 (by decide) ?_
      refine yk_l [0, 1] (va_runV (As := [.int 0]) (rest := []) ⟨hx, hb, hml, hown, hts⟩ (c_X8_form l D cy ta m_now m_undone m_slots m_slotKind m_hasSlot m_sheetBits m_sheetSize m_sheets m_fresh m_rootWhich m_signs m_atNought m_change m_table m_carried nw u fi aa bb dd ro db mn 0 H.size) (cwV 1 hts gX8_far_X8_form rfl rfl rfl hv_X8_form (yk_room hRf hRl rfl rfl)) (yk_pv (q := (RX8, TX8, 23)) hG hA hS hK hP hD [0, 1] (by decide +kernel) rfl rfl rfl) rfl rfl hl.1 rfl (lv_room (Nat.le_of_ble_eq_true rfl)) dX8_far_25 ⟨Nat.zero_le _, Nat.zero_le _⟩) hP hD hS hA rfl rfl (fun H locs hP9 hD9 hS9 => ?_)
      replace hP : va_P D vwCl [(ta, .inr (8, [.ref m_now, .ref m_undone, .ref m_slots, .ref m_slotKind, .ref m_hasSlot, .ref m_sheetBits, .ref m_sheetSize, .ref m_sheets, .int (nI u), .int fi, .ref m_fresh, .long aa, .long bb, .long dd, .int (nI ro), .ref m_rootWhich, .int db, .ref m_signs, .ref m_atNought, .int (nI mn), .ref m_change, .ref m_table, .ref m_carried])), (m_now, .inl (cy 0, 29, .inl nw))] H := hP9
      replace hD : va_D A [(ta, .inr (8, [.ref m_now, .ref m_undone, .ref m_slots, .ref m_slotKind, .ref m_hasSlot, .ref m_sheetBits, .ref m_sheetSize, .ref m_sheets, .int (nI u), .int fi, .ref m_fresh, .long aa, .long bb, .long dd, .int (nI ro), .ref m_rootWhich, .int db, .ref m_signs, .ref m_atNought, .int (nI mn), .ref m_change, .ref m_table, .ref m_carried])), (m_now, .inl (cy 0, 29, .inl nw))] := hD9
      replace hS := hS9
      clear hP9 hD9 hS9
      refine lv_iload_n hx hb dX8_far_28 rfl (lv_at hl 1 rfl) ?_
      refine lv_i2l hx hb dX8_far_29 rfl ?_
      refine lv_lmul hx hb dX8_far_30 ?_
      refine lv_iload_n hx hb dX8_far_31 rfl (lv_at hl 1 rfl) ?_
      refine lv_i2l hx hb dX8_far_32 rfl ?_
      refine lv_lmul hx hb dX8_far_33 ?_
      refine lv_iload_n hx hb dX8_far_34 rfl (lv_at hl 1 rfl) ?_
      refine lv_i2l hx hb dX8_far_35 rfl ?_
      refine lv_lmul hx hb dX8_far_36 ?_
      refine lv_aload_n hx hb dX8_far_37 rfl (lv_at hl 0 rfl) ?_
      refine lv_iconst (v := 1) hx hb dX8_far_38 (by decide) ?_
      refine yk_l [0, 1] (va_runV (As := [.int 1]) (rest := [.long ((((f_X8_form nw 0) * ((px).toInt64)) * ((px).toInt64)) * ((px).toInt64))]) ⟨hx, hb, hml, hown, hts⟩ (c_X8_form l D cy ta m_now m_undone m_slots m_slotKind m_hasSlot m_sheetBits m_sheetSize m_sheets m_fresh m_rootWhich m_signs m_atNought m_change m_table m_carried nw u fi aa bb dd ro db mn 1 H.size) (cwV 1 hts gX8_far_X8_form rfl rfl rfl hv_X8_form (yk_room hRf hRl rfl rfl)) (yk_pv (q := (RX8, TX8, 23)) hG hA hS hK hP hD [0, 1] (by decide +kernel) rfl rfl rfl) rfl rfl hl.1 rfl (lv_room (Nat.le_of_ble_eq_true rfl)) dX8_far_39 ⟨Nat.zero_le _, Nat.zero_le _⟩) hP hD hS hA rfl rfl (fun H locs hP9 hD9 hS9 => ?_)
      replace hP : va_P D vwCl [(ta, .inr (8, [.ref m_now, .ref m_undone, .ref m_slots, .ref m_slotKind, .ref m_hasSlot, .ref m_sheetBits, .ref m_sheetSize, .ref m_sheets, .int (nI u), .int fi, .ref m_fresh, .long aa, .long bb, .long dd, .int (nI ro), .ref m_rootWhich, .int db, .ref m_signs, .ref m_atNought, .int (nI mn), .ref m_change, .ref m_table, .ref m_carried])), (m_now, .inl (cy 0, 29, .inl nw))] H := hP9
      replace hD : va_D A [(ta, .inr (8, [.ref m_now, .ref m_undone, .ref m_slots, .ref m_slotKind, .ref m_hasSlot, .ref m_sheetBits, .ref m_sheetSize, .ref m_sheets, .int (nI u), .int fi, .ref m_fresh, .long aa, .long bb, .long dd, .int (nI ro), .ref m_rootWhich, .int db, .ref m_signs, .ref m_atNought, .int (nI mn), .ref m_change, .ref m_table, .ref m_carried])), (m_now, .inl (cy 0, 29, .inl nw))] := hD9
      replace hS := hS9
      clear hP9 hD9 hS9
      refine lv_iload_n hx hb dX8_far_42 rfl (lv_at hl 1 rfl) ?_
      refine lv_i2l hx hb dX8_far_43 rfl ?_
      refine lv_lmul hx hb dX8_far_44 ?_
      refine lv_iload_n hx hb dX8_far_45 rfl (lv_at hl 1 rfl) ?_
      refine lv_i2l hx hb dX8_far_46 rfl ?_
      refine lv_lmul hx hb dX8_far_47 ?_
      refine lv_iload_n hx hb dX8_far_48 rfl (lv_at hl 2 rfl) ?_
      refine lv_i2l hx hb dX8_far_49 rfl ?_
      refine lv_lmul hx hb dX8_far_50 ?_
      refine lv_ladd hx hb dX8_far_51 ?_
      refine lv_aload_n hx hb dX8_far_52 rfl (lv_at hl 0 rfl) ?_
      refine lv_iconst (v := 2) hx hb dX8_far_53 (by decide) ?_
      refine yk_l [0, 1] (va_runV (As := [.int 2]) (rest := [.long (((((f_X8_form nw 0) * ((px).toInt64)) * ((px).toInt64)) * ((px).toInt64)) + ((((f_X8_form nw 1) * ((px).toInt64)) * ((px).toInt64)) * ((py).toInt64)))]) ⟨hx, hb, hml, hown, hts⟩ (c_X8_form l D cy ta m_now m_undone m_slots m_slotKind m_hasSlot m_sheetBits m_sheetSize m_sheets m_fresh m_rootWhich m_signs m_atNought m_change m_table m_carried nw u fi aa bb dd ro db mn 2 H.size) (cwV 1 hts gX8_far_X8_form rfl rfl rfl hv_X8_form (yk_room hRf hRl rfl rfl)) (yk_pv (q := (RX8, TX8, 23)) hG hA hS hK hP hD [0, 1] (by decide +kernel) rfl rfl rfl) rfl rfl hl.1 rfl (lv_room (Nat.le_of_ble_eq_true rfl)) dX8_far_54 ⟨Nat.zero_le _, Nat.zero_le _⟩) hP hD hS hA rfl rfl (fun H locs hP9 hD9 hS9 => ?_)
      replace hP : va_P D vwCl [(ta, .inr (8, [.ref m_now, .ref m_undone, .ref m_slots, .ref m_slotKind, .ref m_hasSlot, .ref m_sheetBits, .ref m_sheetSize, .ref m_sheets, .int (nI u), .int fi, .ref m_fresh, .long aa, .long bb, .long dd, .int (nI ro), .ref m_rootWhich, .int db, .ref m_signs, .ref m_atNought, .int (nI mn), .ref m_change, .ref m_table, .ref m_carried])), (m_now, .inl (cy 0, 29, .inl nw))] H := hP9
      replace hD : va_D A [(ta, .inr (8, [.ref m_now, .ref m_undone, .ref m_slots, .ref m_slotKind, .ref m_hasSlot, .ref m_sheetBits, .ref m_sheetSize, .ref m_sheets, .int (nI u), .int fi, .ref m_fresh, .long aa, .long bb, .long dd, .int (nI ro), .ref m_rootWhich, .int db, .ref m_signs, .ref m_atNought, .int (nI mn), .ref m_change, .ref m_table, .ref m_carried])), (m_now, .inl (cy 0, 29, .inl nw))] := hD9
      replace hS := hS9
      clear hP9 hD9 hS9
      refine lv_iload_n hx hb dX8_far_57 rfl (lv_at hl 1 rfl) ?_
      refine lv_i2l hx hb dX8_far_58 rfl ?_
      refine lv_lmul hx hb dX8_far_59 ?_
      refine lv_iload_n hx hb dX8_far_60 rfl (lv_at hl 2 rfl) ?_
      refine lv_i2l hx hb dX8_far_61 rfl ?_
      refine lv_lmul hx hb dX8_far_62 ?_
      refine lv_iload_n hx hb dX8_far_63 rfl (lv_at hl 2 rfl) ?_
      refine lv_i2l hx hb dX8_far_64 rfl ?_
      refine lv_lmul hx hb dX8_far_65 ?_
      refine lv_ladd hx hb dX8_far_66 ?_
      refine lv_aload_n hx hb dX8_far_67 rfl (lv_at hl 0 rfl) ?_
      refine lv_iconst (v := 3) hx hb dX8_far_68 (by decide) ?_
      refine yk_l [0, 1] (va_runV (As := [.int 3]) (rest := [.long ((((((f_X8_form nw 0) * ((px).toInt64)) * ((px).toInt64)) * ((px).toInt64)) + ((((f_X8_form nw 1) * ((px).toInt64)) * ((px).toInt64)) * ((py).toInt64))) + ((((f_X8_form nw 2) * ((px).toInt64)) * ((py).toInt64)) * ((py).toInt64)))]) ⟨hx, hb, hml, hown, hts⟩ (c_X8_form l D cy ta m_now m_undone m_slots m_slotKind m_hasSlot m_sheetBits m_sheetSize m_sheets m_fresh m_rootWhich m_signs m_atNought m_change m_table m_carried nw u fi aa bb dd ro db mn 3 H.size) (cwV 1 hts gX8_far_X8_form rfl rfl rfl hv_X8_form (yk_room hRf hRl rfl rfl)) (yk_pv (q := (RX8, TX8, 23)) hG hA hS hK hP hD [0, 1] (by decide +kernel) rfl rfl rfl) rfl rfl hl.1 rfl (lv_room (Nat.le_of_ble_eq_true rfl)) dX8_far_69 ⟨Nat.zero_le _, Nat.zero_le _⟩) hP hD hS hA rfl rfl (fun H locs hP9 hD9 hS9 => ?_)
      replace hP : va_P D vwCl [(ta, .inr (8, [.ref m_now, .ref m_undone, .ref m_slots, .ref m_slotKind, .ref m_hasSlot, .ref m_sheetBits, .ref m_sheetSize, .ref m_sheets, .int (nI u), .int fi, .ref m_fresh, .long aa, .long bb, .long dd, .int (nI ro), .ref m_rootWhich, .int db, .ref m_signs, .ref m_atNought, .int (nI mn), .ref m_change, .ref m_table, .ref m_carried])), (m_now, .inl (cy 0, 29, .inl nw))] H := hP9
      replace hD : va_D A [(ta, .inr (8, [.ref m_now, .ref m_undone, .ref m_slots, .ref m_slotKind, .ref m_hasSlot, .ref m_sheetBits, .ref m_sheetSize, .ref m_sheets, .int (nI u), .int fi, .ref m_fresh, .long aa, .long bb, .long dd, .int (nI ro), .ref m_rootWhich, .int db, .ref m_signs, .ref m_atNought, .int (nI mn), .ref m_change, .ref m_table, .ref m_carried])), (m_now, .inl (cy 0, 29, .inl nw))] := hD9
      replace hS := hS9
      clear hP9 hD9 hS9
      refine lv_iload_n hx hb dX8_far_72 rfl (lv_at hl 2 rfl) ?_
      refine lv_i2l hx hb dX8_far_73 rfl ?_
      refine lv_lmul hx hb dX8_far_74 ?_
      refine lv_iload_n hx hb dX8_far_75 rfl (lv_at hl 2 rfl) ?_
      refine lv_i2l hx hb dX8_far_76 rfl ?_
      refine lv_lmul hx hb dX8_far_77 ?_
      refine lv_iload_n hx hb dX8_far_78 rfl (lv_at hl 2 rfl) ?_
      refine lv_i2l hx hb dX8_far_79 rfl ?_
      refine lv_lmul hx hb dX8_far_80 ?_
      refine lv_ladd hx hb dX8_far_81 ?_
      refine lv_lconst (v := 0) hx hb dX8_far_82 (by decide) ?_
      refine W.lcmp hx hb dX8_far_83 ?_
      have J5 : ∀ (v4 : Int32) (H : Heap) (locs : List Loc) (ls : Array Slot), v4 = (if (lg_cmp (((((((f_X8_form nw 0) * ((px).toInt64)) * ((px).toInt64)) * ((px).toInt64)) + ((((f_X8_form nw 1) * ((px).toInt64)) * ((px).toInt64)) * ((py).toInt64))) + ((((f_X8_form nw 2) * ((px).toInt64)) * ((py).toInt64)) * ((py).toInt64))) + ((((f_X8_form nw 3) * ((py).toInt64)) * ((py).toInt64)) * ((py).toInt64))) 0) = 0 then 1 else 0) → va_P D vwCl [(ta, .inr (8, [.ref m_now, .ref m_undone, .ref m_slots, .ref m_slotKind, .ref m_hasSlot, .ref m_sheetBits, .ref m_sheetSize, .ref m_sheets, .int (nI u), .int fi, .ref m_fresh, .long aa, .long bb, .long dd, .int (nI ro), .ref m_rootWhich, .int db, .ref m_signs, .ref m_atNought, .int (nI mn), .ref m_change, .ref m_table, .ref m_carried])), (m_now, .inl (cy 0, 29, .inl nw))] H → va_D A [(ta, .inr (8, [.ref m_now, .ref m_undone, .ref m_slots, .ref m_slotKind, .ref m_hasSlot, .ref m_sheetBits, .ref m_sheetSize, .ref m_sheets, .int (nI u), .int fi, .ref m_fresh, .long aa, .long bb, .long dd, .int (nI ro), .ref m_rootWhich, .int db, .ref m_signs, .ref m_atNought, .int (nI mn), .ref m_change, .ref m_table, .ref m_carried])), (m_now, .inl (cy 0, 29, .inl nw))] → va_S A s.heap H locs → lv_has ls 3 [(0, .ref ta), (1, .int px), (2, .int py)] → W p l e R s m args below meth c H locs 0 0 Q (F0 m 92 ls [.int v4]) := by
        clear hP hD hS hl
        intro v4 H locs ls ev4 hP hD hS hl
        subst ev4
        have hF : f_X8_far nw fi px py = ((if (lg_cmp (((((((f_X8_form nw 0) * ((px).toInt64)) * ((px).toInt64)) * ((px).toInt64)) + ((((f_X8_form nw 1) * ((px).toInt64)) * ((px).toInt64)) * ((py).toInt64))) + ((((f_X8_form nw 2) * ((px).toInt64)) * ((py).toInt64)) * ((py).toInt64))) + ((((f_X8_form nw 3) * ((py).toInt64)) * ((py).toInt64)) * ((py).toInt64))) 0) = 0 then 1 else 0), fi) := hF
        have hf0 := yk_fst hF
        have hg0 := yk_snd hF
        rw [hf0, hg0] at hQ
        exact hQ _ _ _ _ dX8_far_92 hP hS
      refine lv_if_ne (tgt := 91) hx hb dX8_far_84 (by decide) (fun hc3 => ?_) (fun hc3 => ?_)
      · refine lv_iconst (v := 0) hx hb dX8_far_91 (by decide) ?_
        exact J5 _ _ _ _ ((if_neg hc3).symm) hP hD hS (lv_sub hl [0, 1, 2] rfl)
      · refine lv_iconst (v := 1) hx hb dX8_far_87 (by decide) ?_
        refine lv_goto (tgt := 92) hx hb dX8_far_88 (by decide) ?_
        exact J5 _ _ _ _ ((if_pos hc3).symm) hP hD hS (lv_sub hl [0, 1, 2] rfl)
    · replace hF := hF.trans (if_pos hc2)
      refine lv_iload_n hx hb dX8_far_12 rfl (lv_at hl 2 rfl) ?_
      refine lv_if_ne (tgt := 23) hx hb dX8_far_13 (by decide) (fun hc6 => ?_) (fun hc6 => ?_)
      · replace hF := hF.trans (if_neg hc6)
        refine lv_aload_n hx hb dX8_far_23 rfl (lv_at hl 0 rfl) ?_
        refine lv_iconst (v := 0) hx hb dX8_far_24 (by decide) ?_
        refine yk_l [0, 1] (va_runV (As := [.int 0]) (rest := []) ⟨hx, hb, hml, hown, hts⟩ (c_X8_form l D cy ta m_now m_undone m_slots m_slotKind m_hasSlot m_sheetBits m_sheetSize m_sheets m_fresh m_rootWhich m_signs m_atNought m_change m_table m_carried nw u fi aa bb dd ro db mn 0 H.size) (cwV 1 hts gX8_far_X8_form rfl rfl rfl hv_X8_form (yk_room hRf hRl rfl rfl)) (yk_pv (q := (RX8, TX8, 23)) hG hA hS hK hP hD [0, 1] (by decide +kernel) rfl rfl rfl) rfl rfl hl.1 rfl (lv_room (Nat.le_of_ble_eq_true rfl)) dX8_far_25 ⟨Nat.zero_le _, Nat.zero_le _⟩) hP hD hS hA rfl rfl (fun H locs hP9 hD9 hS9 => ?_)
        replace hP : va_P D vwCl [(ta, .inr (8, [.ref m_now, .ref m_undone, .ref m_slots, .ref m_slotKind, .ref m_hasSlot, .ref m_sheetBits, .ref m_sheetSize, .ref m_sheets, .int (nI u), .int fi, .ref m_fresh, .long aa, .long bb, .long dd, .int (nI ro), .ref m_rootWhich, .int db, .ref m_signs, .ref m_atNought, .int (nI mn), .ref m_change, .ref m_table, .ref m_carried])), (m_now, .inl (cy 0, 29, .inl nw))] H := hP9
        replace hD : va_D A [(ta, .inr (8, [.ref m_now, .ref m_undone, .ref m_slots, .ref m_slotKind, .ref m_hasSlot, .ref m_sheetBits, .ref m_sheetSize, .ref m_sheets, .int (nI u), .int fi, .ref m_fresh, .long aa, .long bb, .long dd, .int (nI ro), .ref m_rootWhich, .int db, .ref m_signs, .ref m_atNought, .int (nI mn), .ref m_change, .ref m_table, .ref m_carried])), (m_now, .inl (cy 0, 29, .inl nw))] := hD9
        replace hS := hS9
        clear hP9 hD9 hS9
        refine lv_iload_n hx hb dX8_far_28 rfl (lv_at hl 1 rfl) ?_
        refine lv_i2l hx hb dX8_far_29 rfl ?_
        refine lv_lmul hx hb dX8_far_30 ?_
        refine lv_iload_n hx hb dX8_far_31 rfl (lv_at hl 1 rfl) ?_
        refine lv_i2l hx hb dX8_far_32 rfl ?_
        refine lv_lmul hx hb dX8_far_33 ?_
        refine lv_iload_n hx hb dX8_far_34 rfl (lv_at hl 1 rfl) ?_
        refine lv_i2l hx hb dX8_far_35 rfl ?_
        refine lv_lmul hx hb dX8_far_36 ?_
        refine lv_aload_n hx hb dX8_far_37 rfl (lv_at hl 0 rfl) ?_
        refine lv_iconst (v := 1) hx hb dX8_far_38 (by decide) ?_
        refine yk_l [0, 1] (va_runV (As := [.int 1]) (rest := [.long ((((f_X8_form nw 0) * ((px).toInt64)) * ((px).toInt64)) * ((px).toInt64))]) ⟨hx, hb, hml, hown, hts⟩ (c_X8_form l D cy ta m_now m_undone m_slots m_slotKind m_hasSlot m_sheetBits m_sheetSize m_sheets m_fresh m_rootWhich m_signs m_atNought m_change m_table m_carried nw u fi aa bb dd ro db mn 1 H.size) (cwV 1 hts gX8_far_X8_form rfl rfl rfl hv_X8_form (yk_room hRf hRl rfl rfl)) (yk_pv (q := (RX8, TX8, 23)) hG hA hS hK hP hD [0, 1] (by decide +kernel) rfl rfl rfl) rfl rfl hl.1 rfl (lv_room (Nat.le_of_ble_eq_true rfl)) dX8_far_39 ⟨Nat.zero_le _, Nat.zero_le _⟩) hP hD hS hA rfl rfl (fun H locs hP9 hD9 hS9 => ?_)
        replace hP : va_P D vwCl [(ta, .inr (8, [.ref m_now, .ref m_undone, .ref m_slots, .ref m_slotKind, .ref m_hasSlot, .ref m_sheetBits, .ref m_sheetSize, .ref m_sheets, .int (nI u), .int fi, .ref m_fresh, .long aa, .long bb, .long dd, .int (nI ro), .ref m_rootWhich, .int db, .ref m_signs, .ref m_atNought, .int (nI mn), .ref m_change, .ref m_table, .ref m_carried])), (m_now, .inl (cy 0, 29, .inl nw))] H := hP9
        replace hD : va_D A [(ta, .inr (8, [.ref m_now, .ref m_undone, .ref m_slots, .ref m_slotKind, .ref m_hasSlot, .ref m_sheetBits, .ref m_sheetSize, .ref m_sheets, .int (nI u), .int fi, .ref m_fresh, .long aa, .long bb, .long dd, .int (nI ro), .ref m_rootWhich, .int db, .ref m_signs, .ref m_atNought, .int (nI mn), .ref m_change, .ref m_table, .ref m_carried])), (m_now, .inl (cy 0, 29, .inl nw))] := hD9
        replace hS := hS9
        clear hP9 hD9 hS9
        refine lv_iload_n hx hb dX8_far_42 rfl (lv_at hl 1 rfl) ?_
        refine lv_i2l hx hb dX8_far_43 rfl ?_
        refine lv_lmul hx hb dX8_far_44 ?_
        refine lv_iload_n hx hb dX8_far_45 rfl (lv_at hl 1 rfl) ?_
        refine lv_i2l hx hb dX8_far_46 rfl ?_
        refine lv_lmul hx hb dX8_far_47 ?_
        refine lv_iload_n hx hb dX8_far_48 rfl (lv_at hl 2 rfl) ?_
        refine lv_i2l hx hb dX8_far_49 rfl ?_
        refine lv_lmul hx hb dX8_far_50 ?_
        refine lv_ladd hx hb dX8_far_51 ?_
        refine lv_aload_n hx hb dX8_far_52 rfl (lv_at hl 0 rfl) ?_
        refine lv_iconst (v := 2) hx hb dX8_far_53 (by decide) ?_
        refine yk_l [0, 1] (va_runV (As := [.int 2]) (rest := [.long (((((f_X8_form nw 0) * ((px).toInt64)) * ((px).toInt64)) * ((px).toInt64)) + ((((f_X8_form nw 1) * ((px).toInt64)) * ((px).toInt64)) * ((py).toInt64)))]) ⟨hx, hb, hml, hown, hts⟩ (c_X8_form l D cy ta m_now m_undone m_slots m_slotKind m_hasSlot m_sheetBits m_sheetSize m_sheets m_fresh m_rootWhich m_signs m_atNought m_change m_table m_carried nw u fi aa bb dd ro db mn 2 H.size) (cwV 1 hts gX8_far_X8_form rfl rfl rfl hv_X8_form (yk_room hRf hRl rfl rfl)) (yk_pv (q := (RX8, TX8, 23)) hG hA hS hK hP hD [0, 1] (by decide +kernel) rfl rfl rfl) rfl rfl hl.1 rfl (lv_room (Nat.le_of_ble_eq_true rfl)) dX8_far_54 ⟨Nat.zero_le _, Nat.zero_le _⟩) hP hD hS hA rfl rfl (fun H locs hP9 hD9 hS9 => ?_)
        replace hP : va_P D vwCl [(ta, .inr (8, [.ref m_now, .ref m_undone, .ref m_slots, .ref m_slotKind, .ref m_hasSlot, .ref m_sheetBits, .ref m_sheetSize, .ref m_sheets, .int (nI u), .int fi, .ref m_fresh, .long aa, .long bb, .long dd, .int (nI ro), .ref m_rootWhich, .int db, .ref m_signs, .ref m_atNought, .int (nI mn), .ref m_change, .ref m_table, .ref m_carried])), (m_now, .inl (cy 0, 29, .inl nw))] H := hP9
        replace hD : va_D A [(ta, .inr (8, [.ref m_now, .ref m_undone, .ref m_slots, .ref m_slotKind, .ref m_hasSlot, .ref m_sheetBits, .ref m_sheetSize, .ref m_sheets, .int (nI u), .int fi, .ref m_fresh, .long aa, .long bb, .long dd, .int (nI ro), .ref m_rootWhich, .int db, .ref m_signs, .ref m_atNought, .int (nI mn), .ref m_change, .ref m_table, .ref m_carried])), (m_now, .inl (cy 0, 29, .inl nw))] := hD9
        replace hS := hS9
        clear hP9 hD9 hS9
        refine lv_iload_n hx hb dX8_far_57 rfl (lv_at hl 1 rfl) ?_
        refine lv_i2l hx hb dX8_far_58 rfl ?_
        refine lv_lmul hx hb dX8_far_59 ?_
        refine lv_iload_n hx hb dX8_far_60 rfl (lv_at hl 2 rfl) ?_
        refine lv_i2l hx hb dX8_far_61 rfl ?_
        refine lv_lmul hx hb dX8_far_62 ?_
        refine lv_iload_n hx hb dX8_far_63 rfl (lv_at hl 2 rfl) ?_
        refine lv_i2l hx hb dX8_far_64 rfl ?_
        refine lv_lmul hx hb dX8_far_65 ?_
        refine lv_ladd hx hb dX8_far_66 ?_
        refine lv_aload_n hx hb dX8_far_67 rfl (lv_at hl 0 rfl) ?_
        refine lv_iconst (v := 3) hx hb dX8_far_68 (by decide) ?_
        refine yk_l [0, 1] (va_runV (As := [.int 3]) (rest := [.long ((((((f_X8_form nw 0) * ((px).toInt64)) * ((px).toInt64)) * ((px).toInt64)) + ((((f_X8_form nw 1) * ((px).toInt64)) * ((px).toInt64)) * ((py).toInt64))) + ((((f_X8_form nw 2) * ((px).toInt64)) * ((py).toInt64)) * ((py).toInt64)))]) ⟨hx, hb, hml, hown, hts⟩ (c_X8_form l D cy ta m_now m_undone m_slots m_slotKind m_hasSlot m_sheetBits m_sheetSize m_sheets m_fresh m_rootWhich m_signs m_atNought m_change m_table m_carried nw u fi aa bb dd ro db mn 3 H.size) (cwV 1 hts gX8_far_X8_form rfl rfl rfl hv_X8_form (yk_room hRf hRl rfl rfl)) (yk_pv (q := (RX8, TX8, 23)) hG hA hS hK hP hD [0, 1] (by decide +kernel) rfl rfl rfl) rfl rfl hl.1 rfl (lv_room (Nat.le_of_ble_eq_true rfl)) dX8_far_69 ⟨Nat.zero_le _, Nat.zero_le _⟩) hP hD hS hA rfl rfl (fun H locs hP9 hD9 hS9 => ?_)
        replace hP : va_P D vwCl [(ta, .inr (8, [.ref m_now, .ref m_undone, .ref m_slots, .ref m_slotKind, .ref m_hasSlot, .ref m_sheetBits, .ref m_sheetSize, .ref m_sheets, .int (nI u), .int fi, .ref m_fresh, .long aa, .long bb, .long dd, .int (nI ro), .ref m_rootWhich, .int db, .ref m_signs, .ref m_atNought, .int (nI mn), .ref m_change, .ref m_table, .ref m_carried])), (m_now, .inl (cy 0, 29, .inl nw))] H := hP9
        replace hD : va_D A [(ta, .inr (8, [.ref m_now, .ref m_undone, .ref m_slots, .ref m_slotKind, .ref m_hasSlot, .ref m_sheetBits, .ref m_sheetSize, .ref m_sheets, .int (nI u), .int fi, .ref m_fresh, .long aa, .long bb, .long dd, .int (nI ro), .ref m_rootWhich, .int db, .ref m_signs, .ref m_atNought, .int (nI mn), .ref m_change, .ref m_table, .ref m_carried])), (m_now, .inl (cy 0, 29, .inl nw))] := hD9
        replace hS := hS9
        clear hP9 hD9 hS9
        refine lv_iload_n hx hb dX8_far_72 rfl (lv_at hl 2 rfl) ?_
        refine lv_i2l hx hb dX8_far_73 rfl ?_
        refine lv_lmul hx hb dX8_far_74 ?_
        refine lv_iload_n hx hb dX8_far_75 rfl (lv_at hl 2 rfl) ?_
        refine lv_i2l hx hb dX8_far_76 rfl ?_
        refine lv_lmul hx hb dX8_far_77 ?_
        refine lv_iload_n hx hb dX8_far_78 rfl (lv_at hl 2 rfl) ?_
        refine lv_i2l hx hb dX8_far_79 rfl ?_
        refine lv_lmul hx hb dX8_far_80 ?_
        refine lv_ladd hx hb dX8_far_81 ?_
        refine lv_lconst (v := 0) hx hb dX8_far_82 (by decide) ?_
        refine W.lcmp hx hb dX8_far_83 ?_
        have J9 : ∀ (v8 : Int32) (H : Heap) (locs : List Loc) (ls : Array Slot), v8 = (if (lg_cmp (((((((f_X8_form nw 0) * ((px).toInt64)) * ((px).toInt64)) * ((px).toInt64)) + ((((f_X8_form nw 1) * ((px).toInt64)) * ((px).toInt64)) * ((py).toInt64))) + ((((f_X8_form nw 2) * ((px).toInt64)) * ((py).toInt64)) * ((py).toInt64))) + ((((f_X8_form nw 3) * ((py).toInt64)) * ((py).toInt64)) * ((py).toInt64))) 0) = 0 then 1 else 0) → va_P D vwCl [(ta, .inr (8, [.ref m_now, .ref m_undone, .ref m_slots, .ref m_slotKind, .ref m_hasSlot, .ref m_sheetBits, .ref m_sheetSize, .ref m_sheets, .int (nI u), .int fi, .ref m_fresh, .long aa, .long bb, .long dd, .int (nI ro), .ref m_rootWhich, .int db, .ref m_signs, .ref m_atNought, .int (nI mn), .ref m_change, .ref m_table, .ref m_carried])), (m_now, .inl (cy 0, 29, .inl nw))] H → va_D A [(ta, .inr (8, [.ref m_now, .ref m_undone, .ref m_slots, .ref m_slotKind, .ref m_hasSlot, .ref m_sheetBits, .ref m_sheetSize, .ref m_sheets, .int (nI u), .int fi, .ref m_fresh, .long aa, .long bb, .long dd, .int (nI ro), .ref m_rootWhich, .int db, .ref m_signs, .ref m_atNought, .int (nI mn), .ref m_change, .ref m_table, .ref m_carried])), (m_now, .inl (cy 0, 29, .inl nw))] → va_S A s.heap H locs → lv_has ls 3 [(0, .ref ta), (1, .int px), (2, .int py)] → W p l e R s m args below meth c H locs 0 0 Q (F0 m 92 ls [.int v8]) := by
          clear hP hD hS hl
          intro v8 H locs ls ev8 hP hD hS hl
          subst ev8
          have hF : f_X8_far nw fi px py = ((if (lg_cmp (((((((f_X8_form nw 0) * ((px).toInt64)) * ((px).toInt64)) * ((px).toInt64)) + ((((f_X8_form nw 1) * ((px).toInt64)) * ((px).toInt64)) * ((py).toInt64))) + ((((f_X8_form nw 2) * ((px).toInt64)) * ((py).toInt64)) * ((py).toInt64))) + ((((f_X8_form nw 3) * ((py).toInt64)) * ((py).toInt64)) * ((py).toInt64))) 0) = 0 then 1 else 0), fi) := hF
          have hf0 := yk_fst hF
          have hg0 := yk_snd hF
          rw [hf0, hg0] at hQ
          exact hQ _ _ _ _ dX8_far_92 hP hS
        refine lv_if_ne (tgt := 91) hx hb dX8_far_84 (by decide) (fun hc7 => ?_) (fun hc7 => ?_)
        · refine lv_iconst (v := 0) hx hb dX8_far_91 (by decide) ?_
          exact J9 _ _ _ _ ((if_neg hc7).symm) hP hD hS (lv_sub hl [0, 1, 2] rfl)
        · refine lv_iconst (v := 1) hx hb dX8_far_87 (by decide) ?_
          refine lv_goto (tgt := 92) hx hb dX8_far_88 (by decide) ?_
          exact J9 _ _ _ _ ((if_pos hc7).symm) hP hD hS (lv_sub hl [0, 1, 2] rfl)
      · replace hF := hF.trans (if_pos hc6)
        refine lv_aload_n hx hb dX8_far_16 rfl (lv_at hl 0 rfl) ?_
        refine lv_ldc (v := (-1000001)) hx hb hown (hts _ kX8_far_0) dX8_far_17 ?_
        refine yk_i [0] (va_runV (As := [.int (-1000001)]) (rest := []) ⟨hx, hb, hml, hown, hts⟩ (c_X8_found l D cy ta m_now m_undone m_slots m_slotKind m_hasSlot m_sheetBits m_sheetSize m_sheets m_fresh m_rootWhich m_signs m_atNought m_change m_table m_carried u fi aa bb dd ro db mn (-1000001) H.size) (cwV 1 hts gX8_far_X8_found rfl rfl rfl hv_X8_found (yk_room hRf hRl rfl rfl)) (yk_pv (q := (RX8, TX8, 23)) hG hA hS hK hP hD [0] (by decide +kernel) rfl rfl rfl) rfl rfl hl.1 rfl (lv_room (Nat.le_of_ble_eq_true rfl)) dX8_far_19 ⟨Nat.zero_le _, Nat.zero_le _⟩) hP hD hS hA rfl rfl (fun H locs hP9 hD9 hS9 => ?_)
        replace hP : va_P D vwCl [(ta, .inr (8, [.ref m_now, .ref m_undone, .ref m_slots, .ref m_slotKind, .ref m_hasSlot, .ref m_sheetBits, .ref m_sheetSize, .ref m_sheets, .int (nI u), .int ((f_X8_found fi (-1000001)).2), .ref m_fresh, .long aa, .long bb, .long dd, .int (nI ro), .ref m_rootWhich, .int db, .ref m_signs, .ref m_atNought, .int (nI mn), .ref m_change, .ref m_table, .ref m_carried])), (m_now, .inl (cy 0, 29, .inl nw))] H := hP9
        replace hD : va_D A [(ta, .inr (8, [.ref m_now, .ref m_undone, .ref m_slots, .ref m_slotKind, .ref m_hasSlot, .ref m_sheetBits, .ref m_sheetSize, .ref m_sheets, .int (nI u), .int ((f_X8_found fi (-1000001)).2), .ref m_fresh, .long aa, .long bb, .long dd, .int (nI ro), .ref m_rootWhich, .int db, .ref m_signs, .ref m_atNought, .int (nI mn), .ref m_change, .ref m_table, .ref m_carried])), (m_now, .inl (cy 0, 29, .inl nw))] := hD9
        replace hS := hS9
        clear hP9 hD9 hS9
        have hF : f_X8_far nw fi px py = (((f_X8_found fi (-1000001)).1), ((f_X8_found fi (-1000001)).2)) := hF
        have hf0 := yk_fst hF
        have hg0 := yk_snd hF
        rw [hf0, hg0] at hQ
        exact hQ _ _ _ _ dX8_far_22 hP hS

def l_X8_kindOf_33 (nw : Nat → Int32) : Nat → Nat → Int32 → Int32
  | 0, ki, z1_33 => z1_33
  | fu_X8_kindOf_33 + 1, ki, z1_33 => (if 6 ≤ (nI ki) then z1_33 else (l_X8_kindOf_33 nw fu_X8_kindOf_33 (ki + 1) (if z1_33 = 0 then 0 else (if (f_X8_get nw 0 ki) = 0 then (if (f_X8_get nw 1 ki) = 0 then 1 else 0) else 0))))
def f_X8_kindOf (nw : Nat → Int32) : Int32 := (if (f_X8_spreadAt nw 0 0) = 0 then (if (f_X8_spreadAt nw 1 0) = 0 then (if (f_X8_spreadAt nw 0 1) = 0 then 3 else (if (l_X8_kindOf_33 nw (6 - 3 + 1) 3 1) = 0 then 0 else (if (f_X8_get nw 0 0) = 0 then (if (f_X8_get nw 1 0) = 0 then 2 else 1) else 1))) else (if (l_X8_kindOf_33 nw (6 - 3 + 1) 3 1) = 0 then 0 else (if (f_X8_get nw 0 0) = 0 then (if (f_X8_get nw 1 0) = 0 then 2 else 1) else 1))) else (if (l_X8_kindOf_33 nw (6 - 3 + 1) 3 1) = 0 then 0 else (if (f_X8_get nw 0 0) = 0 then (if (f_X8_get nw 1 0) = 0 then 2 else 1) else 1)))
set_option maxHeartbeats 400000000 in
set_option maxRecDepth 100000 in
theorem c_X8_kindOf (l : Launch) (D : va_G) (cy : Nat → ClassId) (ta : Nat) (m_now : Nat) (m_undone : Nat) (m_slots : Nat) (m_slotKind : Nat) (m_hasSlot : Nat) (m_sheetBits : Nat) (m_sheetSize : Nat) (m_sheets : Nat) (m_fresh : Nat) (m_rootWhich : Nat) (m_signs : Nat) (m_atNought : Nat) (m_change : Nat) (m_table : Nat) (m_carried : Nat) (nw : Nat → Int32) (u : Nat) (fi : Int32) (aa : Int64) (bb : Int64) (dd : Int64) (ro : Nat) (db : Int32) (mn : Nat) : yk_Ci l D vwCl (yk_ty cy) yX8_kindOf wsX8_kindOf 3 68 [.ref ta] [(ta, .inr (8, [.ref m_now, .ref m_undone, .ref m_slots, .ref m_slotKind, .ref m_hasSlot, .ref m_sheetBits, .ref m_sheetSize, .ref m_sheets, .int (nI u), .int fi, .ref m_fresh, .long aa, .long bb, .long dd, .int (nI ro), .ref m_rootWhich, .int db, .ref m_signs, .ref m_atNought, .int (nI mn), .ref m_change, .ref m_table, .ref m_carried])), (m_now, .inl (cy 0, 29, .inl nw))] (f_X8_kindOf nw) [(ta, .inr (8, [.ref m_now, .ref m_undone, .ref m_slots, .ref m_slotKind, .ref m_hasSlot, .ref m_sheetBits, .ref m_sheetSize, .ref m_sheets, .int (nI u), .int fi, .ref m_fresh, .long aa, .long bb, .long dd, .int (nI ro), .ref m_rootWhich, .int db, .ref m_signs, .ref m_atNought, .int (nI mn), .ref m_change, .ref m_table, .ref m_carried])), (m_now, .inl (cy 0, 29, .inl nw))] := by
  refine yk_eI (cc := cX8_kindOf) (maxL := 3) (by decide) rfl (Nat.le_of_ble_eq_true rfl) rfl ?_
  intro p e R s m args below meth c A Q ls H locs hx hb hml hown hts hRf hRl hA hK hG hP hD hS hl hQ
  have hP : va_P D vwCl [(ta, .inr (8, [.ref m_now, .ref m_undone, .ref m_slots, .ref m_slotKind, .ref m_hasSlot, .ref m_sheetBits, .ref m_sheetSize, .ref m_sheets, .int (nI u), .int fi, .ref m_fresh, .long aa, .long bb, .long dd, .int (nI ro), .ref m_rootWhich, .int db, .ref m_signs, .ref m_atNought, .int (nI mn), .ref m_change, .ref m_table, .ref m_carried])), (m_now, .inl (cy 0, 29, .inl nw))] H := hP
  have hl : lv_has ls 3 [(0, .ref ta)] := hl
  have hown : s.vm.findClass RX8 = some m.cls := hown
  have hF : (f_X8_kindOf nw) = (f_X8_kindOf nw) := rfl
  refine lv_aload_n hx hb dX8_kindOf_0 rfl (lv_at hl 0 rfl) ?_
  refine lv_iconst (v := 0) hx hb dX8_kindOf_1 (by decide) ?_
  refine lv_iconst (v := 0) hx hb dX8_kindOf_2 (by decide) ?_
  refine yk_i [0, 1] (va_runV (As := [.int 0, .int 0]) (rest := []) ⟨hx, hb, hml, hown, hts⟩ (c_X8_spreadAt l D cy ta m_now m_undone m_slots m_slotKind m_hasSlot m_sheetBits m_sheetSize m_sheets m_fresh m_rootWhich m_signs m_atNought m_change m_table m_carried nw u fi aa bb dd ro db mn 0 0 H.size) (cwV 2 hts gX8_kindOf_X8_spreadAt rfl rfl rfl hv_X8_spreadAt (yk_room hRf hRl rfl rfl)) (yk_pv (q := (RX8, TX8, 23)) hG hA hS hK hP hD [0, 1] (by decide +kernel) rfl rfl rfl) rfl rfl hl.1 rfl (lv_room (Nat.le_of_ble_eq_true rfl)) dX8_kindOf_3 ⟨Nat.zero_le _, Nat.zero_le _⟩) hP hD hS hA rfl rfl (fun H locs hP9 hD9 hS9 => ?_)
  replace hP : va_P D vwCl [(ta, .inr (8, [.ref m_now, .ref m_undone, .ref m_slots, .ref m_slotKind, .ref m_hasSlot, .ref m_sheetBits, .ref m_sheetSize, .ref m_sheets, .int (nI u), .int fi, .ref m_fresh, .long aa, .long bb, .long dd, .int (nI ro), .ref m_rootWhich, .int db, .ref m_signs, .ref m_atNought, .int (nI mn), .ref m_change, .ref m_table, .ref m_carried])), (m_now, .inl (cy 0, 29, .inl nw))] H := hP9
  replace hD : va_D A [(ta, .inr (8, [.ref m_now, .ref m_undone, .ref m_slots, .ref m_slotKind, .ref m_hasSlot, .ref m_sheetBits, .ref m_sheetSize, .ref m_sheets, .int (nI u), .int fi, .ref m_fresh, .long aa, .long bb, .long dd, .int (nI ro), .ref m_rootWhich, .int db, .ref m_signs, .ref m_atNought, .int (nI mn), .ref m_change, .ref m_table, .ref m_carried])), (m_now, .inl (cy 0, 29, .inl nw))] := hD9
  replace hS := hS9
  clear hP9 hD9 hS9
  refine lv_if_ne (tgt := 29) hx hb dX8_kindOf_6 (by decide) (fun hc1 => ?_) (fun hc1 => ?_)
  · replace hF := hF.trans (if_neg hc1)
    refine lv_iconst (v := 1) hx hb dX8_kindOf_29 (by decide) ?_
    refine lv_istore_n (lv' := [(1, .int 1), (0, .ref ta)]) hx hb dX8_kindOf_30 rfl hl (by decide) rfl (fun ls hl9 => ?_)
    replace hl := hl9
    clear hl9
    refine lv_iconst (v := 3) hx hb dX8_kindOf_31 (by decide) ?_
    refine lv_istore_n (lv' := [(2, .int 3), (1, .int 1), (0, .ref ta)]) hx hb dX8_kindOf_32 rfl hl (by decide) rfl (fun ls hl9 => ?_)
    replace hl := hl9
    clear hl9
    have J8 : ∀ (H : Heap) (locs : List Loc) (ls : Array Slot), va_P D vwCl [(ta, .inr (8, [.ref m_now, .ref m_undone, .ref m_slots, .ref m_slotKind, .ref m_hasSlot, .ref m_sheetBits, .ref m_sheetSize, .ref m_sheets, .int (nI u), .int fi, .ref m_fresh, .long aa, .long bb, .long dd, .int (nI ro), .ref m_rootWhich, .int db, .ref m_signs, .ref m_atNought, .int (nI mn), .ref m_change, .ref m_table, .ref m_carried])), (m_now, .inl (cy 0, 29, .inl nw))] H → va_D A [(ta, .inr (8, [.ref m_now, .ref m_undone, .ref m_slots, .ref m_slotKind, .ref m_hasSlot, .ref m_sheetBits, .ref m_sheetSize, .ref m_sheets, .int (nI u), .int fi, .ref m_fresh, .long aa, .long bb, .long dd, .int (nI ro), .ref m_rootWhich, .int db, .ref m_signs, .ref m_atNought, .int (nI mn), .ref m_change, .ref m_table, .ref m_carried])), (m_now, .inl (cy 0, 29, .inl nw))] → va_S A s.heap H locs → lv_has ls 3 [(0, .ref ta), (1, .int (l_X8_kindOf_33 nw (6 - 3 + 1) 3 1))] → W p l e R s m args below meth c H locs 0 0 Q (F0 m 73 ls []) := by
      clear hP hD hS hl
      intro H locs ls hP hD hS hl
      refine lv_iload_n hx hb dX8_kindOf_73 rfl (lv_at hl 1 rfl) ?_
      have J13 : ∀ (v12 : Int32) (H : Heap) (locs : List Loc) (ls : Array Slot), v12 = (if (l_X8_kindOf_33 nw (6 - 3 + 1) 3 1) = 0 then 0 else (if (f_X8_get nw 0 0) = 0 then (if (f_X8_get nw 1 0) = 0 then 2 else 1) else 1)) → va_P D vwCl [(ta, .inr (8, [.ref m_now, .ref m_undone, .ref m_slots, .ref m_slotKind, .ref m_hasSlot, .ref m_sheetBits, .ref m_sheetSize, .ref m_sheets, .int (nI u), .int fi, .ref m_fresh, .long aa, .long bb, .long dd, .int (nI ro), .ref m_rootWhich, .int db, .ref m_signs, .ref m_atNought, .int (nI mn), .ref m_change, .ref m_table, .ref m_carried])), (m_now, .inl (cy 0, 29, .inl nw))] H → va_D A [(ta, .inr (8, [.ref m_now, .ref m_undone, .ref m_slots, .ref m_slotKind, .ref m_hasSlot, .ref m_sheetBits, .ref m_sheetSize, .ref m_sheets, .int (nI u), .int fi, .ref m_fresh, .long aa, .long bb, .long dd, .int (nI ro), .ref m_rootWhich, .int db, .ref m_signs, .ref m_atNought, .int (nI mn), .ref m_change, .ref m_table, .ref m_carried])), (m_now, .inl (cy 0, 29, .inl nw))] → va_S A s.heap H locs → lv_has ls 3 [(0, .ref ta), (1, .int (l_X8_kindOf_33 nw (6 - 3 + 1) 3 1))] → W p l e R s m args below meth c H locs 0 0 Q (F0 m 104 ls [.int v12]) := by
        clear hP hD hS hl
        intro v12 H locs ls ev12 hP hD hS hl
        subst ev12
        have hF : f_X8_kindOf nw = (if (l_X8_kindOf_33 nw (6 - 3 + 1) 3 1) = 0 then 0 else (if (f_X8_get nw 0 0) = 0 then (if (f_X8_get nw 1 0) = 0 then 2 else 1) else 1)) := hF
        rw [hF] at hQ
        exact hQ _ _ _ _ dX8_kindOf_104 hP hS
      refine lv_if_ne (tgt := 81) hx hb dX8_kindOf_74 (by decide) (fun hc9 => ?_) (fun hc9 => ?_)
      · refine lv_aload_n hx hb dX8_kindOf_81 rfl (lv_at hl 0 rfl) ?_
        refine lv_iconst (v := 0) hx hb dX8_kindOf_82 (by decide) ?_
        refine lv_iconst (v := 0) hx hb dX8_kindOf_83 (by decide) ?_
        refine yk_i [0, 1] (va_runV (As := [.int 0, .int 0]) (rest := []) ⟨hx, hb, hml, hown, hts⟩ (c_X8_get l D cy ta m_now m_undone m_slots m_slotKind m_hasSlot m_sheetBits m_sheetSize m_sheets m_fresh m_rootWhich m_signs m_atNought m_change m_table m_carried nw u fi aa bb dd ro db mn 0 0 (by first | assumption | omega) H.size) (cwV 2 hts gX8_kindOf_X8_get rfl rfl rfl hv_X8_get (yk_room hRf hRl rfl rfl)) (yk_pv (q := (RX8, TX8, 23)) hG hA hS hK hP hD [0, 1] (by decide +kernel) rfl rfl rfl) rfl rfl hl.1 rfl (lv_room (Nat.le_of_ble_eq_true rfl)) dX8_kindOf_84 ⟨Nat.zero_le _, Nat.zero_le _⟩) hP hD hS hA rfl rfl (fun H locs hP9 hD9 hS9 => ?_)
        replace hP : va_P D vwCl [(ta, .inr (8, [.ref m_now, .ref m_undone, .ref m_slots, .ref m_slotKind, .ref m_hasSlot, .ref m_sheetBits, .ref m_sheetSize, .ref m_sheets, .int (nI u), .int fi, .ref m_fresh, .long aa, .long bb, .long dd, .int (nI ro), .ref m_rootWhich, .int db, .ref m_signs, .ref m_atNought, .int (nI mn), .ref m_change, .ref m_table, .ref m_carried])), (m_now, .inl (cy 0, 29, .inl nw))] H := hP9
        replace hD : va_D A [(ta, .inr (8, [.ref m_now, .ref m_undone, .ref m_slots, .ref m_slotKind, .ref m_hasSlot, .ref m_sheetBits, .ref m_sheetSize, .ref m_sheets, .int (nI u), .int fi, .ref m_fresh, .long aa, .long bb, .long dd, .int (nI ro), .ref m_rootWhich, .int db, .ref m_signs, .ref m_atNought, .int (nI mn), .ref m_change, .ref m_table, .ref m_carried])), (m_now, .inl (cy 0, 29, .inl nw))] := hD9
        replace hS := hS9
        clear hP9 hD9 hS9
        refine lv_if_ne (tgt := 103) hx hb dX8_kindOf_87 (by decide) (fun hc10 => ?_) (fun hc10 => ?_)
        · refine lv_iconst (v := 1) hx hb dX8_kindOf_103 (by decide) ?_
          exact J13 _ _ _ _ (((if_neg hc9).trans (if_neg hc10)).symm) hP hD hS (lv_sub hl [0, 1] rfl)
        · refine lv_aload_n hx hb dX8_kindOf_90 rfl (lv_at hl 0 rfl) ?_
          refine lv_iconst (v := 1) hx hb dX8_kindOf_91 (by decide) ?_
          refine lv_iconst (v := 0) hx hb dX8_kindOf_92 (by decide) ?_
          refine yk_i [0, 1] (va_runV (As := [.int 1, .int 0]) (rest := []) ⟨hx, hb, hml, hown, hts⟩ (c_X8_get l D cy ta m_now m_undone m_slots m_slotKind m_hasSlot m_sheetBits m_sheetSize m_sheets m_fresh m_rootWhich m_signs m_atNought m_change m_table m_carried nw u fi aa bb dd ro db mn 1 0 (by first | assumption | omega) H.size) (cwV 2 hts gX8_kindOf_X8_get rfl rfl rfl hv_X8_get (yk_room hRf hRl rfl rfl)) (yk_pv (q := (RX8, TX8, 23)) hG hA hS hK hP hD [0, 1] (by decide +kernel) rfl rfl rfl) rfl rfl hl.1 rfl (lv_room (Nat.le_of_ble_eq_true rfl)) dX8_kindOf_93 ⟨Nat.zero_le _, Nat.zero_le _⟩) hP hD hS hA rfl rfl (fun H locs hP9 hD9 hS9 => ?_)
          replace hP : va_P D vwCl [(ta, .inr (8, [.ref m_now, .ref m_undone, .ref m_slots, .ref m_slotKind, .ref m_hasSlot, .ref m_sheetBits, .ref m_sheetSize, .ref m_sheets, .int (nI u), .int fi, .ref m_fresh, .long aa, .long bb, .long dd, .int (nI ro), .ref m_rootWhich, .int db, .ref m_signs, .ref m_atNought, .int (nI mn), .ref m_change, .ref m_table, .ref m_carried])), (m_now, .inl (cy 0, 29, .inl nw))] H := hP9
          replace hD : va_D A [(ta, .inr (8, [.ref m_now, .ref m_undone, .ref m_slots, .ref m_slotKind, .ref m_hasSlot, .ref m_sheetBits, .ref m_sheetSize, .ref m_sheets, .int (nI u), .int fi, .ref m_fresh, .long aa, .long bb, .long dd, .int (nI ro), .ref m_rootWhich, .int db, .ref m_signs, .ref m_atNought, .int (nI mn), .ref m_change, .ref m_table, .ref m_carried])), (m_now, .inl (cy 0, 29, .inl nw))] := hD9
          replace hS := hS9
          clear hP9 hD9 hS9
          refine lv_if_ne (tgt := 103) hx hb dX8_kindOf_96 (by decide) (fun hc11 => ?_) (fun hc11 => ?_)
          · refine lv_iconst (v := 1) hx hb dX8_kindOf_103 (by decide) ?_
            exact J13 _ _ _ _ (((if_neg hc9).trans ((if_pos hc10).trans (if_neg hc11))).symm) hP hD hS (lv_sub hl [0, 1] rfl)
          · refine lv_iconst (v := 2) hx hb dX8_kindOf_99 (by decide) ?_
            refine lv_goto (tgt := 104) hx hb dX8_kindOf_100 (by decide) ?_
            exact J13 _ _ _ _ (((if_neg hc9).trans ((if_pos hc10).trans (if_pos hc11))).symm) hP hD hS (lv_sub hl [0, 1] rfl)
      · refine lv_iconst (v := 0) hx hb dX8_kindOf_77 (by decide) ?_
        refine lv_goto (tgt := 104) hx hb dX8_kindOf_78 (by decide) ?_
        exact J13 _ _ _ _ ((if_pos hc9).symm) hP hD hS (lv_sub hl [0, 1] rfl)
    have L33 : ∀ (M9 n33 ki : Nat) (z1_33 : Int32) (H : Heap) (locs : List Loc) (ls : Array Slot), n33 < M9 → ki + n33 = 6 → (l_X8_kindOf_33 nw (6 - 3 + 1) 3 1) = (l_X8_kindOf_33 nw (n33 + 1) ki z1_33) → va_P D vwCl [(ta, .inr (8, [.ref m_now, .ref m_undone, .ref m_slots, .ref m_slotKind, .ref m_hasSlot, .ref m_sheetBits, .ref m_sheetSize, .ref m_sheets, .int (nI u), .int fi, .ref m_fresh, .long aa, .long bb, .long dd, .int (nI ro), .ref m_rootWhich, .int db, .ref m_signs, .ref m_atNought, .int (nI mn), .ref m_change, .ref m_table, .ref m_carried])), (m_now, .inl (cy 0, 29, .inl nw))] H → va_D A [(ta, .inr (8, [.ref m_now, .ref m_undone, .ref m_slots, .ref m_slotKind, .ref m_hasSlot, .ref m_sheetBits, .ref m_sheetSize, .ref m_sheets, .int (nI u), .int fi, .ref m_fresh, .long aa, .long bb, .long dd, .int (nI ro), .ref m_rootWhich, .int db, .ref m_signs, .ref m_atNought, .int (nI mn), .ref m_change, .ref m_table, .ref m_carried])), (m_now, .inl (cy 0, 29, .inl nw))] → va_S A s.heap H locs → lv_has ls 3 [(0, .ref ta), (1, .int z1_33), (2, .int (nI ki))] → W p l e R s m args below meth c H locs 0 0 Q (F0 m 33 ls []) := by
      clear hP hD hS hl
      intro M9
      induction M9 with
      | zero => intro n33 ki _ _ _ _ hn; exact absurd hn (Nat.not_lt_zero _)
      | succ M9 ih33 =>
        intro n33 ki z1_33 H locs ls hn33 hk33 hV33 hP hD hS hl
        refine lv_iload_n hx hb dX8_kindOf_33 rfl (lv_at hl 2 rfl) ?_
        refine lv_bipush (v := 6) hx hb dX8_kindOf_34 (by decide) ?_
        refine lv_icmp_ge (tgt := 73) hx hb dX8_kindOf_36 (by decide) (fun hc2 => ?_) (fun hc2 => ?_)
        · replace hV33 := hV33.trans (if_pos hc2)
          have hV33 : (l_X8_kindOf_33 nw (6 - 3 + 1) 3 1) = z1_33 := hV33
          have J8 := J8
          rw [hV33] at J8
          exact J8 _ _ _ hP hD hS (lv_sub hl [0, 1] rfl)
        · replace hV33 := hV33.trans (if_neg hc2)
          have hlt33 : ki < 6 := yk_lt hk33 (by omega) hc2
          refine lv_iload_n hx hb dX8_kindOf_39 rfl (lv_at hl 1 rfl) ?_
          have J7 : ∀ (v6 : Int32) (H : Heap) (locs : List Loc) (ls : Array Slot), v6 = (if z1_33 = 0 then 0 else (if (f_X8_get nw 0 ki) = 0 then (if (f_X8_get nw 1 ki) = 0 then 1 else 0) else 0)) → va_P D vwCl [(ta, .inr (8, [.ref m_now, .ref m_undone, .ref m_slots, .ref m_slotKind, .ref m_hasSlot, .ref m_sheetBits, .ref m_sheetSize, .ref m_sheets, .int (nI u), .int fi, .ref m_fresh, .long aa, .long bb, .long dd, .int (nI ro), .ref m_rootWhich, .int db, .ref m_signs, .ref m_atNought, .int (nI mn), .ref m_change, .ref m_table, .ref m_carried])), (m_now, .inl (cy 0, 29, .inl nw))] H → va_D A [(ta, .inr (8, [.ref m_now, .ref m_undone, .ref m_slots, .ref m_slotKind, .ref m_hasSlot, .ref m_sheetBits, .ref m_sheetSize, .ref m_sheets, .int (nI u), .int fi, .ref m_fresh, .long aa, .long bb, .long dd, .int (nI ro), .ref m_rootWhich, .int db, .ref m_signs, .ref m_atNought, .int (nI mn), .ref m_change, .ref m_table, .ref m_carried])), (m_now, .inl (cy 0, 29, .inl nw))] → va_S A s.heap H locs → lv_has ls 3 [(0, .ref ta), (1, .int z1_33), (2, .int (nI ki))] → W p l e R s m args below meth c H locs 0 0 Q (F0 m 66 ls [.int v6]) := by
            clear hP hD hS hl
            intro v6 H locs ls ev6 hP hD hS hl
            subst ev6
            refine lv_istore_n (lv' := [(1, .int (if z1_33 = 0 then 0 else (if (f_X8_get nw 0 ki) = 0 then (if (f_X8_get nw 1 ki) = 0 then 1 else 0) else 0))), (0, .ref ta), (2, .int (nI ki))]) hx hb dX8_kindOf_66 rfl hl (by decide) rfl (fun ls hl9 => ?_)
            replace hl := hl9
            clear hl9
            refine lv_iinc (v := nI (ki + 1)) (lv' := [(2, .int (nI (ki + 1))), (1, .int (if z1_33 = 0 then 0 else (if (f_X8_get nw 0 ki) = 0 then (if (f_X8_get nw 1 ki) = 0 then 1 else 0) else 0))), (0, .ref ta)]) hx hb dX8_kindOf_67 hl (k := 2) rfl (yk_inc ki) (by decide) rfl (fun ls hl9 => ?_)
            replace hl := hl9
            clear hl9
            refine lv_goto (tgt := 33) hx hb dX8_kindOf_70 (by decide) ?_
            obtain ⟨n9, rfl⟩ : ∃ n9, n33 = n9 + 1 := ⟨n33 - 1, by omega⟩
            exact ih33 n9 (ki + 1) (if z1_33 = 0 then 0 else (if (f_X8_get nw 0 ki) = 0 then (if (f_X8_get nw 1 ki) = 0 then 1 else 0) else 0)) _ _ _ (by omega) (by omega)  hV33 hP hD hS (lv_sub hl [2, 1, 0] rfl)
          refine lv_if_eq (tgt := 65) hx hb dX8_kindOf_40 (by decide) (fun hc3 => ?_) (fun hc3 => ?_)
          · refine lv_iconst (v := 0) hx hb dX8_kindOf_65 (by decide) ?_
            exact J7 _ _ _ _ ((if_pos hc3).symm) hP hD hS (lv_sub hl [0, 1, 2] rfl)
          · refine lv_aload_n hx hb dX8_kindOf_43 rfl (lv_at hl 0 rfl) ?_
            refine lv_iconst (v := 0) hx hb dX8_kindOf_44 (by decide) ?_
            refine lv_iload_n hx hb dX8_kindOf_45 rfl (lv_at hl 2 rfl) ?_
            refine yk_i [0, 1] (va_runV (As := [.int 0, .int (nI ki)]) (rest := []) ⟨hx, hb, hml, hown, hts⟩ (c_X8_get l D cy ta m_now m_undone m_slots m_slotKind m_hasSlot m_sheetBits m_sheetSize m_sheets m_fresh m_rootWhich m_signs m_atNought m_change m_table m_carried nw u fi aa bb dd ro db mn 0 ki (by first | assumption | omega) H.size) (cwV 2 hts gX8_kindOf_X8_get rfl rfl rfl hv_X8_get (yk_room hRf hRl rfl rfl)) (yk_pv (q := (RX8, TX8, 23)) hG hA hS hK hP hD [0, 1] (by decide +kernel) rfl rfl rfl) rfl rfl hl.1 rfl (lv_room (Nat.le_of_ble_eq_true rfl)) dX8_kindOf_46 ⟨Nat.zero_le _, Nat.zero_le _⟩) hP hD hS hA rfl rfl (fun H locs hP9 hD9 hS9 => ?_)
            replace hP : va_P D vwCl [(ta, .inr (8, [.ref m_now, .ref m_undone, .ref m_slots, .ref m_slotKind, .ref m_hasSlot, .ref m_sheetBits, .ref m_sheetSize, .ref m_sheets, .int (nI u), .int fi, .ref m_fresh, .long aa, .long bb, .long dd, .int (nI ro), .ref m_rootWhich, .int db, .ref m_signs, .ref m_atNought, .int (nI mn), .ref m_change, .ref m_table, .ref m_carried])), (m_now, .inl (cy 0, 29, .inl nw))] H := hP9
            replace hD : va_D A [(ta, .inr (8, [.ref m_now, .ref m_undone, .ref m_slots, .ref m_slotKind, .ref m_hasSlot, .ref m_sheetBits, .ref m_sheetSize, .ref m_sheets, .int (nI u), .int fi, .ref m_fresh, .long aa, .long bb, .long dd, .int (nI ro), .ref m_rootWhich, .int db, .ref m_signs, .ref m_atNought, .int (nI mn), .ref m_change, .ref m_table, .ref m_carried])), (m_now, .inl (cy 0, 29, .inl nw))] := hD9
            replace hS := hS9
            clear hP9 hD9 hS9
            refine lv_if_ne (tgt := 65) hx hb dX8_kindOf_49 (by decide) (fun hc4 => ?_) (fun hc4 => ?_)
            · refine lv_iconst (v := 0) hx hb dX8_kindOf_65 (by decide) ?_
              exact J7 _ _ _ _ (((if_neg hc3).trans (if_neg hc4)).symm) hP hD hS (lv_sub hl [0, 1, 2] rfl)
            · refine lv_aload_n hx hb dX8_kindOf_52 rfl (lv_at hl 0 rfl) ?_
              refine lv_iconst (v := 1) hx hb dX8_kindOf_53 (by decide) ?_
              refine lv_iload_n hx hb dX8_kindOf_54 rfl (lv_at hl 2 rfl) ?_
              refine yk_i [0, 1] (va_runV (As := [.int 1, .int (nI ki)]) (rest := []) ⟨hx, hb, hml, hown, hts⟩ (c_X8_get l D cy ta m_now m_undone m_slots m_slotKind m_hasSlot m_sheetBits m_sheetSize m_sheets m_fresh m_rootWhich m_signs m_atNought m_change m_table m_carried nw u fi aa bb dd ro db mn 1 ki (by first | assumption | omega) H.size) (cwV 2 hts gX8_kindOf_X8_get rfl rfl rfl hv_X8_get (yk_room hRf hRl rfl rfl)) (yk_pv (q := (RX8, TX8, 23)) hG hA hS hK hP hD [0, 1] (by decide +kernel) rfl rfl rfl) rfl rfl hl.1 rfl (lv_room (Nat.le_of_ble_eq_true rfl)) dX8_kindOf_55 ⟨Nat.zero_le _, Nat.zero_le _⟩) hP hD hS hA rfl rfl (fun H locs hP9 hD9 hS9 => ?_)
              replace hP : va_P D vwCl [(ta, .inr (8, [.ref m_now, .ref m_undone, .ref m_slots, .ref m_slotKind, .ref m_hasSlot, .ref m_sheetBits, .ref m_sheetSize, .ref m_sheets, .int (nI u), .int fi, .ref m_fresh, .long aa, .long bb, .long dd, .int (nI ro), .ref m_rootWhich, .int db, .ref m_signs, .ref m_atNought, .int (nI mn), .ref m_change, .ref m_table, .ref m_carried])), (m_now, .inl (cy 0, 29, .inl nw))] H := hP9
              replace hD : va_D A [(ta, .inr (8, [.ref m_now, .ref m_undone, .ref m_slots, .ref m_slotKind, .ref m_hasSlot, .ref m_sheetBits, .ref m_sheetSize, .ref m_sheets, .int (nI u), .int fi, .ref m_fresh, .long aa, .long bb, .long dd, .int (nI ro), .ref m_rootWhich, .int db, .ref m_signs, .ref m_atNought, .int (nI mn), .ref m_change, .ref m_table, .ref m_carried])), (m_now, .inl (cy 0, 29, .inl nw))] := hD9
              replace hS := hS9
              clear hP9 hD9 hS9
              refine lv_if_ne (tgt := 65) hx hb dX8_kindOf_58 (by decide) (fun hc5 => ?_) (fun hc5 => ?_)
              · refine lv_iconst (v := 0) hx hb dX8_kindOf_65 (by decide) ?_
                exact J7 _ _ _ _ (((if_neg hc3).trans ((if_pos hc4).trans (if_neg hc5))).symm) hP hD hS (lv_sub hl [0, 1, 2] rfl)
              · refine lv_iconst (v := 1) hx hb dX8_kindOf_61 (by decide) ?_
                refine lv_goto (tgt := 66) hx hb dX8_kindOf_62 (by decide) ?_
                exact J7 _ _ _ _ (((if_neg hc3).trans ((if_pos hc4).trans (if_pos hc5))).symm) hP hD hS (lv_sub hl [0, 1, 2] rfl)
    exact L33 ((6 - 3) + 1) (6 - 3) 3 1 _ _ _ (Nat.lt_succ_self _) (by omega)  rfl hP hD hS (lv_sub hl [2, 1, 0] rfl)
  · replace hF := hF.trans (if_pos hc1)
    refine lv_aload_n hx hb dX8_kindOf_9 rfl (lv_at hl 0 rfl) ?_
    refine lv_iconst (v := 1) hx hb dX8_kindOf_10 (by decide) ?_
    refine lv_iconst (v := 0) hx hb dX8_kindOf_11 (by decide) ?_
    refine yk_i [0, 1] (va_runV (As := [.int 1, .int 0]) (rest := []) ⟨hx, hb, hml, hown, hts⟩ (c_X8_spreadAt l D cy ta m_now m_undone m_slots m_slotKind m_hasSlot m_sheetBits m_sheetSize m_sheets m_fresh m_rootWhich m_signs m_atNought m_change m_table m_carried nw u fi aa bb dd ro db mn 1 0 H.size) (cwV 2 hts gX8_kindOf_X8_spreadAt rfl rfl rfl hv_X8_spreadAt (yk_room hRf hRl rfl rfl)) (yk_pv (q := (RX8, TX8, 23)) hG hA hS hK hP hD [0, 1] (by decide +kernel) rfl rfl rfl) rfl rfl hl.1 rfl (lv_room (Nat.le_of_ble_eq_true rfl)) dX8_kindOf_12 ⟨Nat.zero_le _, Nat.zero_le _⟩) hP hD hS hA rfl rfl (fun H locs hP9 hD9 hS9 => ?_)
    replace hP : va_P D vwCl [(ta, .inr (8, [.ref m_now, .ref m_undone, .ref m_slots, .ref m_slotKind, .ref m_hasSlot, .ref m_sheetBits, .ref m_sheetSize, .ref m_sheets, .int (nI u), .int fi, .ref m_fresh, .long aa, .long bb, .long dd, .int (nI ro), .ref m_rootWhich, .int db, .ref m_signs, .ref m_atNought, .int (nI mn), .ref m_change, .ref m_table, .ref m_carried])), (m_now, .inl (cy 0, 29, .inl nw))] H := hP9
    replace hD : va_D A [(ta, .inr (8, [.ref m_now, .ref m_undone, .ref m_slots, .ref m_slotKind, .ref m_hasSlot, .ref m_sheetBits, .ref m_sheetSize, .ref m_sheets, .int (nI u), .int fi, .ref m_fresh, .long aa, .long bb, .long dd, .int (nI ro), .ref m_rootWhich, .int db, .ref m_signs, .ref m_atNought, .int (nI mn), .ref m_change, .ref m_table, .ref m_carried])), (m_now, .inl (cy 0, 29, .inl nw))] := hD9
    replace hS := hS9
    clear hP9 hD9 hS9
    refine lv_if_ne (tgt := 29) hx hb dX8_kindOf_15 (by decide) (fun hc14 => ?_) (fun hc14 => ?_)
    · replace hF := hF.trans (if_neg hc14)
      refine lv_iconst (v := 1) hx hb dX8_kindOf_29 (by decide) ?_
      refine lv_istore_n (lv' := [(1, .int 1), (0, .ref ta)]) hx hb dX8_kindOf_30 rfl hl (by decide) rfl (fun ls hl9 => ?_)
      replace hl := hl9
      clear hl9
      refine lv_iconst (v := 3) hx hb dX8_kindOf_31 (by decide) ?_
      refine lv_istore_n (lv' := [(2, .int 3), (1, .int 1), (0, .ref ta)]) hx hb dX8_kindOf_32 rfl hl (by decide) rfl (fun ls hl9 => ?_)
      replace hl := hl9
      clear hl9
      have J21 : ∀ (H : Heap) (locs : List Loc) (ls : Array Slot), va_P D vwCl [(ta, .inr (8, [.ref m_now, .ref m_undone, .ref m_slots, .ref m_slotKind, .ref m_hasSlot, .ref m_sheetBits, .ref m_sheetSize, .ref m_sheets, .int (nI u), .int fi, .ref m_fresh, .long aa, .long bb, .long dd, .int (nI ro), .ref m_rootWhich, .int db, .ref m_signs, .ref m_atNought, .int (nI mn), .ref m_change, .ref m_table, .ref m_carried])), (m_now, .inl (cy 0, 29, .inl nw))] H → va_D A [(ta, .inr (8, [.ref m_now, .ref m_undone, .ref m_slots, .ref m_slotKind, .ref m_hasSlot, .ref m_sheetBits, .ref m_sheetSize, .ref m_sheets, .int (nI u), .int fi, .ref m_fresh, .long aa, .long bb, .long dd, .int (nI ro), .ref m_rootWhich, .int db, .ref m_signs, .ref m_atNought, .int (nI mn), .ref m_change, .ref m_table, .ref m_carried])), (m_now, .inl (cy 0, 29, .inl nw))] → va_S A s.heap H locs → lv_has ls 3 [(0, .ref ta), (1, .int (l_X8_kindOf_33 nw (6 - 3 + 1) 3 1))] → W p l e R s m args below meth c H locs 0 0 Q (F0 m 73 ls []) := by
        clear hP hD hS hl
        intro H locs ls hP hD hS hl
        refine lv_iload_n hx hb dX8_kindOf_73 rfl (lv_at hl 1 rfl) ?_
        have J26 : ∀ (v25 : Int32) (H : Heap) (locs : List Loc) (ls : Array Slot), v25 = (if (l_X8_kindOf_33 nw (6 - 3 + 1) 3 1) = 0 then 0 else (if (f_X8_get nw 0 0) = 0 then (if (f_X8_get nw 1 0) = 0 then 2 else 1) else 1)) → va_P D vwCl [(ta, .inr (8, [.ref m_now, .ref m_undone, .ref m_slots, .ref m_slotKind, .ref m_hasSlot, .ref m_sheetBits, .ref m_sheetSize, .ref m_sheets, .int (nI u), .int fi, .ref m_fresh, .long aa, .long bb, .long dd, .int (nI ro), .ref m_rootWhich, .int db, .ref m_signs, .ref m_atNought, .int (nI mn), .ref m_change, .ref m_table, .ref m_carried])), (m_now, .inl (cy 0, 29, .inl nw))] H → va_D A [(ta, .inr (8, [.ref m_now, .ref m_undone, .ref m_slots, .ref m_slotKind, .ref m_hasSlot, .ref m_sheetBits, .ref m_sheetSize, .ref m_sheets, .int (nI u), .int fi, .ref m_fresh, .long aa, .long bb, .long dd, .int (nI ro), .ref m_rootWhich, .int db, .ref m_signs, .ref m_atNought, .int (nI mn), .ref m_change, .ref m_table, .ref m_carried])), (m_now, .inl (cy 0, 29, .inl nw))] → va_S A s.heap H locs → lv_has ls 3 [(0, .ref ta), (1, .int (l_X8_kindOf_33 nw (6 - 3 + 1) 3 1))] → W p l e R s m args below meth c H locs 0 0 Q (F0 m 104 ls [.int v25]) := by
          clear hP hD hS hl
          intro v25 H locs ls ev25 hP hD hS hl
          subst ev25
          have hF : f_X8_kindOf nw = (if (l_X8_kindOf_33 nw (6 - 3 + 1) 3 1) = 0 then 0 else (if (f_X8_get nw 0 0) = 0 then (if (f_X8_get nw 1 0) = 0 then 2 else 1) else 1)) := hF
          rw [hF] at hQ
          exact hQ _ _ _ _ dX8_kindOf_104 hP hS
        refine lv_if_ne (tgt := 81) hx hb dX8_kindOf_74 (by decide) (fun hc22 => ?_) (fun hc22 => ?_)
        · refine lv_aload_n hx hb dX8_kindOf_81 rfl (lv_at hl 0 rfl) ?_
          refine lv_iconst (v := 0) hx hb dX8_kindOf_82 (by decide) ?_
          refine lv_iconst (v := 0) hx hb dX8_kindOf_83 (by decide) ?_
          refine yk_i [0, 1] (va_runV (As := [.int 0, .int 0]) (rest := []) ⟨hx, hb, hml, hown, hts⟩ (c_X8_get l D cy ta m_now m_undone m_slots m_slotKind m_hasSlot m_sheetBits m_sheetSize m_sheets m_fresh m_rootWhich m_signs m_atNought m_change m_table m_carried nw u fi aa bb dd ro db mn 0 0 (by first | assumption | omega) H.size) (cwV 2 hts gX8_kindOf_X8_get rfl rfl rfl hv_X8_get (yk_room hRf hRl rfl rfl)) (yk_pv (q := (RX8, TX8, 23)) hG hA hS hK hP hD [0, 1] (by decide +kernel) rfl rfl rfl) rfl rfl hl.1 rfl (lv_room (Nat.le_of_ble_eq_true rfl)) dX8_kindOf_84 ⟨Nat.zero_le _, Nat.zero_le _⟩) hP hD hS hA rfl rfl (fun H locs hP9 hD9 hS9 => ?_)
          replace hP : va_P D vwCl [(ta, .inr (8, [.ref m_now, .ref m_undone, .ref m_slots, .ref m_slotKind, .ref m_hasSlot, .ref m_sheetBits, .ref m_sheetSize, .ref m_sheets, .int (nI u), .int fi, .ref m_fresh, .long aa, .long bb, .long dd, .int (nI ro), .ref m_rootWhich, .int db, .ref m_signs, .ref m_atNought, .int (nI mn), .ref m_change, .ref m_table, .ref m_carried])), (m_now, .inl (cy 0, 29, .inl nw))] H := hP9
          replace hD : va_D A [(ta, .inr (8, [.ref m_now, .ref m_undone, .ref m_slots, .ref m_slotKind, .ref m_hasSlot, .ref m_sheetBits, .ref m_sheetSize, .ref m_sheets, .int (nI u), .int fi, .ref m_fresh, .long aa, .long bb, .long dd, .int (nI ro), .ref m_rootWhich, .int db, .ref m_signs, .ref m_atNought, .int (nI mn), .ref m_change, .ref m_table, .ref m_carried])), (m_now, .inl (cy 0, 29, .inl nw))] := hD9
          replace hS := hS9
          clear hP9 hD9 hS9
          refine lv_if_ne (tgt := 103) hx hb dX8_kindOf_87 (by decide) (fun hc23 => ?_) (fun hc23 => ?_)
          · refine lv_iconst (v := 1) hx hb dX8_kindOf_103 (by decide) ?_
            exact J26 _ _ _ _ (((if_neg hc22).trans (if_neg hc23)).symm) hP hD hS (lv_sub hl [0, 1] rfl)
          · refine lv_aload_n hx hb dX8_kindOf_90 rfl (lv_at hl 0 rfl) ?_
            refine lv_iconst (v := 1) hx hb dX8_kindOf_91 (by decide) ?_
            refine lv_iconst (v := 0) hx hb dX8_kindOf_92 (by decide) ?_
            refine yk_i [0, 1] (va_runV (As := [.int 1, .int 0]) (rest := []) ⟨hx, hb, hml, hown, hts⟩ (c_X8_get l D cy ta m_now m_undone m_slots m_slotKind m_hasSlot m_sheetBits m_sheetSize m_sheets m_fresh m_rootWhich m_signs m_atNought m_change m_table m_carried nw u fi aa bb dd ro db mn 1 0 (by first | assumption | omega) H.size) (cwV 2 hts gX8_kindOf_X8_get rfl rfl rfl hv_X8_get (yk_room hRf hRl rfl rfl)) (yk_pv (q := (RX8, TX8, 23)) hG hA hS hK hP hD [0, 1] (by decide +kernel) rfl rfl rfl) rfl rfl hl.1 rfl (lv_room (Nat.le_of_ble_eq_true rfl)) dX8_kindOf_93 ⟨Nat.zero_le _, Nat.zero_le _⟩) hP hD hS hA rfl rfl (fun H locs hP9 hD9 hS9 => ?_)
            replace hP : va_P D vwCl [(ta, .inr (8, [.ref m_now, .ref m_undone, .ref m_slots, .ref m_slotKind, .ref m_hasSlot, .ref m_sheetBits, .ref m_sheetSize, .ref m_sheets, .int (nI u), .int fi, .ref m_fresh, .long aa, .long bb, .long dd, .int (nI ro), .ref m_rootWhich, .int db, .ref m_signs, .ref m_atNought, .int (nI mn), .ref m_change, .ref m_table, .ref m_carried])), (m_now, .inl (cy 0, 29, .inl nw))] H := hP9
            replace hD : va_D A [(ta, .inr (8, [.ref m_now, .ref m_undone, .ref m_slots, .ref m_slotKind, .ref m_hasSlot, .ref m_sheetBits, .ref m_sheetSize, .ref m_sheets, .int (nI u), .int fi, .ref m_fresh, .long aa, .long bb, .long dd, .int (nI ro), .ref m_rootWhich, .int db, .ref m_signs, .ref m_atNought, .int (nI mn), .ref m_change, .ref m_table, .ref m_carried])), (m_now, .inl (cy 0, 29, .inl nw))] := hD9
            replace hS := hS9
            clear hP9 hD9 hS9
            refine lv_if_ne (tgt := 103) hx hb dX8_kindOf_96 (by decide) (fun hc24 => ?_) (fun hc24 => ?_)
            · refine lv_iconst (v := 1) hx hb dX8_kindOf_103 (by decide) ?_
              exact J26 _ _ _ _ (((if_neg hc22).trans ((if_pos hc23).trans (if_neg hc24))).symm) hP hD hS (lv_sub hl [0, 1] rfl)
            · refine lv_iconst (v := 2) hx hb dX8_kindOf_99 (by decide) ?_
              refine lv_goto (tgt := 104) hx hb dX8_kindOf_100 (by decide) ?_
              exact J26 _ _ _ _ (((if_neg hc22).trans ((if_pos hc23).trans (if_pos hc24))).symm) hP hD hS (lv_sub hl [0, 1] rfl)
        · refine lv_iconst (v := 0) hx hb dX8_kindOf_77 (by decide) ?_
          refine lv_goto (tgt := 104) hx hb dX8_kindOf_78 (by decide) ?_
          exact J26 _ _ _ _ ((if_pos hc22).symm) hP hD hS (lv_sub hl [0, 1] rfl)
      have L33 : ∀ (M9 n33 ki : Nat) (z1_33 : Int32) (H : Heap) (locs : List Loc) (ls : Array Slot), n33 < M9 → ki + n33 = 6 → (l_X8_kindOf_33 nw (6 - 3 + 1) 3 1) = (l_X8_kindOf_33 nw (n33 + 1) ki z1_33) → va_P D vwCl [(ta, .inr (8, [.ref m_now, .ref m_undone, .ref m_slots, .ref m_slotKind, .ref m_hasSlot, .ref m_sheetBits, .ref m_sheetSize, .ref m_sheets, .int (nI u), .int fi, .ref m_fresh, .long aa, .long bb, .long dd, .int (nI ro), .ref m_rootWhich, .int db, .ref m_signs, .ref m_atNought, .int (nI mn), .ref m_change, .ref m_table, .ref m_carried])), (m_now, .inl (cy 0, 29, .inl nw))] H → va_D A [(ta, .inr (8, [.ref m_now, .ref m_undone, .ref m_slots, .ref m_slotKind, .ref m_hasSlot, .ref m_sheetBits, .ref m_sheetSize, .ref m_sheets, .int (nI u), .int fi, .ref m_fresh, .long aa, .long bb, .long dd, .int (nI ro), .ref m_rootWhich, .int db, .ref m_signs, .ref m_atNought, .int (nI mn), .ref m_change, .ref m_table, .ref m_carried])), (m_now, .inl (cy 0, 29, .inl nw))] → va_S A s.heap H locs → lv_has ls 3 [(0, .ref ta), (1, .int z1_33), (2, .int (nI ki))] → W p l e R s m args below meth c H locs 0 0 Q (F0 m 33 ls []) := by
        clear hP hD hS hl
        intro M9
        induction M9 with
        | zero => intro n33 ki _ _ _ _ hn; exact absurd hn (Nat.not_lt_zero _)
        | succ M9 ih33 =>
          intro n33 ki z1_33 H locs ls hn33 hk33 hV33 hP hD hS hl
          refine lv_iload_n hx hb dX8_kindOf_33 rfl (lv_at hl 2 rfl) ?_
          refine lv_bipush (v := 6) hx hb dX8_kindOf_34 (by decide) ?_
          refine lv_icmp_ge (tgt := 73) hx hb dX8_kindOf_36 (by decide) (fun hc15 => ?_) (fun hc15 => ?_)
          · replace hV33 := hV33.trans (if_pos hc15)
            have hV33 : (l_X8_kindOf_33 nw (6 - 3 + 1) 3 1) = z1_33 := hV33
            have J21 := J21
            rw [hV33] at J21
            exact J21 _ _ _ hP hD hS (lv_sub hl [0, 1] rfl)
          · replace hV33 := hV33.trans (if_neg hc15)
            have hlt33 : ki < 6 := yk_lt hk33 (by omega) hc15
            refine lv_iload_n hx hb dX8_kindOf_39 rfl (lv_at hl 1 rfl) ?_
            have J20 : ∀ (v19 : Int32) (H : Heap) (locs : List Loc) (ls : Array Slot), v19 = (if z1_33 = 0 then 0 else (if (f_X8_get nw 0 ki) = 0 then (if (f_X8_get nw 1 ki) = 0 then 1 else 0) else 0)) → va_P D vwCl [(ta, .inr (8, [.ref m_now, .ref m_undone, .ref m_slots, .ref m_slotKind, .ref m_hasSlot, .ref m_sheetBits, .ref m_sheetSize, .ref m_sheets, .int (nI u), .int fi, .ref m_fresh, .long aa, .long bb, .long dd, .int (nI ro), .ref m_rootWhich, .int db, .ref m_signs, .ref m_atNought, .int (nI mn), .ref m_change, .ref m_table, .ref m_carried])), (m_now, .inl (cy 0, 29, .inl nw))] H → va_D A [(ta, .inr (8, [.ref m_now, .ref m_undone, .ref m_slots, .ref m_slotKind, .ref m_hasSlot, .ref m_sheetBits, .ref m_sheetSize, .ref m_sheets, .int (nI u), .int fi, .ref m_fresh, .long aa, .long bb, .long dd, .int (nI ro), .ref m_rootWhich, .int db, .ref m_signs, .ref m_atNought, .int (nI mn), .ref m_change, .ref m_table, .ref m_carried])), (m_now, .inl (cy 0, 29, .inl nw))] → va_S A s.heap H locs → lv_has ls 3 [(0, .ref ta), (1, .int z1_33), (2, .int (nI ki))] → W p l e R s m args below meth c H locs 0 0 Q (F0 m 66 ls [.int v19]) := by
              clear hP hD hS hl
              intro v19 H locs ls ev19 hP hD hS hl
              subst ev19
              refine lv_istore_n (lv' := [(1, .int (if z1_33 = 0 then 0 else (if (f_X8_get nw 0 ki) = 0 then (if (f_X8_get nw 1 ki) = 0 then 1 else 0) else 0))), (0, .ref ta), (2, .int (nI ki))]) hx hb dX8_kindOf_66 rfl hl (by decide) rfl (fun ls hl9 => ?_)
              replace hl := hl9
              clear hl9
              refine lv_iinc (v := nI (ki + 1)) (lv' := [(2, .int (nI (ki + 1))), (1, .int (if z1_33 = 0 then 0 else (if (f_X8_get nw 0 ki) = 0 then (if (f_X8_get nw 1 ki) = 0 then 1 else 0) else 0))), (0, .ref ta)]) hx hb dX8_kindOf_67 hl (k := 2) rfl (yk_inc ki) (by decide) rfl (fun ls hl9 => ?_)
              replace hl := hl9
              clear hl9
              refine lv_goto (tgt := 33) hx hb dX8_kindOf_70 (by decide) ?_
              obtain ⟨n9, rfl⟩ : ∃ n9, n33 = n9 + 1 := ⟨n33 - 1, by omega⟩
              exact ih33 n9 (ki + 1) (if z1_33 = 0 then 0 else (if (f_X8_get nw 0 ki) = 0 then (if (f_X8_get nw 1 ki) = 0 then 1 else 0) else 0)) _ _ _ (by omega) (by omega)  hV33 hP hD hS (lv_sub hl [2, 1, 0] rfl)
            refine lv_if_eq (tgt := 65) hx hb dX8_kindOf_40 (by decide) (fun hc16 => ?_) (fun hc16 => ?_)
            · refine lv_iconst (v := 0) hx hb dX8_kindOf_65 (by decide) ?_
              exact J20 _ _ _ _ ((if_pos hc16).symm) hP hD hS (lv_sub hl [0, 1, 2] rfl)
            · refine lv_aload_n hx hb dX8_kindOf_43 rfl (lv_at hl 0 rfl) ?_
              refine lv_iconst (v := 0) hx hb dX8_kindOf_44 (by decide) ?_
              refine lv_iload_n hx hb dX8_kindOf_45 rfl (lv_at hl 2 rfl) ?_
              refine yk_i [0, 1] (va_runV (As := [.int 0, .int (nI ki)]) (rest := []) ⟨hx, hb, hml, hown, hts⟩ (c_X8_get l D cy ta m_now m_undone m_slots m_slotKind m_hasSlot m_sheetBits m_sheetSize m_sheets m_fresh m_rootWhich m_signs m_atNought m_change m_table m_carried nw u fi aa bb dd ro db mn 0 ki (by first | assumption | omega) H.size) (cwV 2 hts gX8_kindOf_X8_get rfl rfl rfl hv_X8_get (yk_room hRf hRl rfl rfl)) (yk_pv (q := (RX8, TX8, 23)) hG hA hS hK hP hD [0, 1] (by decide +kernel) rfl rfl rfl) rfl rfl hl.1 rfl (lv_room (Nat.le_of_ble_eq_true rfl)) dX8_kindOf_46 ⟨Nat.zero_le _, Nat.zero_le _⟩) hP hD hS hA rfl rfl (fun H locs hP9 hD9 hS9 => ?_)
              replace hP : va_P D vwCl [(ta, .inr (8, [.ref m_now, .ref m_undone, .ref m_slots, .ref m_slotKind, .ref m_hasSlot, .ref m_sheetBits, .ref m_sheetSize, .ref m_sheets, .int (nI u), .int fi, .ref m_fresh, .long aa, .long bb, .long dd, .int (nI ro), .ref m_rootWhich, .int db, .ref m_signs, .ref m_atNought, .int (nI mn), .ref m_change, .ref m_table, .ref m_carried])), (m_now, .inl (cy 0, 29, .inl nw))] H := hP9
              replace hD : va_D A [(ta, .inr (8, [.ref m_now, .ref m_undone, .ref m_slots, .ref m_slotKind, .ref m_hasSlot, .ref m_sheetBits, .ref m_sheetSize, .ref m_sheets, .int (nI u), .int fi, .ref m_fresh, .long aa, .long bb, .long dd, .int (nI ro), .ref m_rootWhich, .int db, .ref m_signs, .ref m_atNought, .int (nI mn), .ref m_change, .ref m_table, .ref m_carried])), (m_now, .inl (cy 0, 29, .inl nw))] := hD9
              replace hS := hS9
              clear hP9 hD9 hS9
              refine lv_if_ne (tgt := 65) hx hb dX8_kindOf_49 (by decide) (fun hc17 => ?_) (fun hc17 => ?_)
              · refine lv_iconst (v := 0) hx hb dX8_kindOf_65 (by decide) ?_
                exact J20 _ _ _ _ (((if_neg hc16).trans (if_neg hc17)).symm) hP hD hS (lv_sub hl [0, 1, 2] rfl)
              · refine lv_aload_n hx hb dX8_kindOf_52 rfl (lv_at hl 0 rfl) ?_
                refine lv_iconst (v := 1) hx hb dX8_kindOf_53 (by decide) ?_
                refine lv_iload_n hx hb dX8_kindOf_54 rfl (lv_at hl 2 rfl) ?_
                refine yk_i [0, 1] (va_runV (As := [.int 1, .int (nI ki)]) (rest := []) ⟨hx, hb, hml, hown, hts⟩ (c_X8_get l D cy ta m_now m_undone m_slots m_slotKind m_hasSlot m_sheetBits m_sheetSize m_sheets m_fresh m_rootWhich m_signs m_atNought m_change m_table m_carried nw u fi aa bb dd ro db mn 1 ki (by first | assumption | omega) H.size) (cwV 2 hts gX8_kindOf_X8_get rfl rfl rfl hv_X8_get (yk_room hRf hRl rfl rfl)) (yk_pv (q := (RX8, TX8, 23)) hG hA hS hK hP hD [0, 1] (by decide +kernel) rfl rfl rfl) rfl rfl hl.1 rfl (lv_room (Nat.le_of_ble_eq_true rfl)) dX8_kindOf_55 ⟨Nat.zero_le _, Nat.zero_le _⟩) hP hD hS hA rfl rfl (fun H locs hP9 hD9 hS9 => ?_)
                replace hP : va_P D vwCl [(ta, .inr (8, [.ref m_now, .ref m_undone, .ref m_slots, .ref m_slotKind, .ref m_hasSlot, .ref m_sheetBits, .ref m_sheetSize, .ref m_sheets, .int (nI u), .int fi, .ref m_fresh, .long aa, .long bb, .long dd, .int (nI ro), .ref m_rootWhich, .int db, .ref m_signs, .ref m_atNought, .int (nI mn), .ref m_change, .ref m_table, .ref m_carried])), (m_now, .inl (cy 0, 29, .inl nw))] H := hP9
                replace hD : va_D A [(ta, .inr (8, [.ref m_now, .ref m_undone, .ref m_slots, .ref m_slotKind, .ref m_hasSlot, .ref m_sheetBits, .ref m_sheetSize, .ref m_sheets, .int (nI u), .int fi, .ref m_fresh, .long aa, .long bb, .long dd, .int (nI ro), .ref m_rootWhich, .int db, .ref m_signs, .ref m_atNought, .int (nI mn), .ref m_change, .ref m_table, .ref m_carried])), (m_now, .inl (cy 0, 29, .inl nw))] := hD9
                replace hS := hS9
                clear hP9 hD9 hS9
                refine lv_if_ne (tgt := 65) hx hb dX8_kindOf_58 (by decide) (fun hc18 => ?_) (fun hc18 => ?_)
                · refine lv_iconst (v := 0) hx hb dX8_kindOf_65 (by decide) ?_
                  exact J20 _ _ _ _ (((if_neg hc16).trans ((if_pos hc17).trans (if_neg hc18))).symm) hP hD hS (lv_sub hl [0, 1, 2] rfl)
                · refine lv_iconst (v := 1) hx hb dX8_kindOf_61 (by decide) ?_
                  refine lv_goto (tgt := 66) hx hb dX8_kindOf_62 (by decide) ?_
                  exact J20 _ _ _ _ (((if_neg hc16).trans ((if_pos hc17).trans (if_pos hc18))).symm) hP hD hS (lv_sub hl [0, 1, 2] rfl)
      exact L33 ((6 - 3) + 1) (6 - 3) 3 1 _ _ _ (Nat.lt_succ_self _) (by omega)  rfl hP hD hS (lv_sub hl [2, 1, 0] rfl)
    · replace hF := hF.trans (if_pos hc14)
      refine lv_aload_n hx hb dX8_kindOf_18 rfl (lv_at hl 0 rfl) ?_
      refine lv_iconst (v := 0) hx hb dX8_kindOf_19 (by decide) ?_
      refine lv_iconst (v := 1) hx hb dX8_kindOf_20 (by decide) ?_
      refine yk_i [0, 1] (va_runV (As := [.int 0, .int 1]) (rest := []) ⟨hx, hb, hml, hown, hts⟩ (c_X8_spreadAt l D cy ta m_now m_undone m_slots m_slotKind m_hasSlot m_sheetBits m_sheetSize m_sheets m_fresh m_rootWhich m_signs m_atNought m_change m_table m_carried nw u fi aa bb dd ro db mn 0 1 H.size) (cwV 2 hts gX8_kindOf_X8_spreadAt rfl rfl rfl hv_X8_spreadAt (yk_room hRf hRl rfl rfl)) (yk_pv (q := (RX8, TX8, 23)) hG hA hS hK hP hD [0, 1] (by decide +kernel) rfl rfl rfl) rfl rfl hl.1 rfl (lv_room (Nat.le_of_ble_eq_true rfl)) dX8_kindOf_21 ⟨Nat.zero_le _, Nat.zero_le _⟩) hP hD hS hA rfl rfl (fun H locs hP9 hD9 hS9 => ?_)
      replace hP : va_P D vwCl [(ta, .inr (8, [.ref m_now, .ref m_undone, .ref m_slots, .ref m_slotKind, .ref m_hasSlot, .ref m_sheetBits, .ref m_sheetSize, .ref m_sheets, .int (nI u), .int fi, .ref m_fresh, .long aa, .long bb, .long dd, .int (nI ro), .ref m_rootWhich, .int db, .ref m_signs, .ref m_atNought, .int (nI mn), .ref m_change, .ref m_table, .ref m_carried])), (m_now, .inl (cy 0, 29, .inl nw))] H := hP9
      replace hD : va_D A [(ta, .inr (8, [.ref m_now, .ref m_undone, .ref m_slots, .ref m_slotKind, .ref m_hasSlot, .ref m_sheetBits, .ref m_sheetSize, .ref m_sheets, .int (nI u), .int fi, .ref m_fresh, .long aa, .long bb, .long dd, .int (nI ro), .ref m_rootWhich, .int db, .ref m_signs, .ref m_atNought, .int (nI mn), .ref m_change, .ref m_table, .ref m_carried])), (m_now, .inl (cy 0, 29, .inl nw))] := hD9
      replace hS := hS9
      clear hP9 hD9 hS9
      refine lv_if_ne (tgt := 29) hx hb dX8_kindOf_24 (by decide) (fun hc27 => ?_) (fun hc27 => ?_)
      · replace hF := hF.trans (if_neg hc27)
        refine lv_iconst (v := 1) hx hb dX8_kindOf_29 (by decide) ?_
        refine lv_istore_n (lv' := [(1, .int 1), (0, .ref ta)]) hx hb dX8_kindOf_30 rfl hl (by decide) rfl (fun ls hl9 => ?_)
        replace hl := hl9
        clear hl9
        refine lv_iconst (v := 3) hx hb dX8_kindOf_31 (by decide) ?_
        refine lv_istore_n (lv' := [(2, .int 3), (1, .int 1), (0, .ref ta)]) hx hb dX8_kindOf_32 rfl hl (by decide) rfl (fun ls hl9 => ?_)
        replace hl := hl9
        clear hl9
        have J34 : ∀ (H : Heap) (locs : List Loc) (ls : Array Slot), va_P D vwCl [(ta, .inr (8, [.ref m_now, .ref m_undone, .ref m_slots, .ref m_slotKind, .ref m_hasSlot, .ref m_sheetBits, .ref m_sheetSize, .ref m_sheets, .int (nI u), .int fi, .ref m_fresh, .long aa, .long bb, .long dd, .int (nI ro), .ref m_rootWhich, .int db, .ref m_signs, .ref m_atNought, .int (nI mn), .ref m_change, .ref m_table, .ref m_carried])), (m_now, .inl (cy 0, 29, .inl nw))] H → va_D A [(ta, .inr (8, [.ref m_now, .ref m_undone, .ref m_slots, .ref m_slotKind, .ref m_hasSlot, .ref m_sheetBits, .ref m_sheetSize, .ref m_sheets, .int (nI u), .int fi, .ref m_fresh, .long aa, .long bb, .long dd, .int (nI ro), .ref m_rootWhich, .int db, .ref m_signs, .ref m_atNought, .int (nI mn), .ref m_change, .ref m_table, .ref m_carried])), (m_now, .inl (cy 0, 29, .inl nw))] → va_S A s.heap H locs → lv_has ls 3 [(0, .ref ta), (1, .int (l_X8_kindOf_33 nw (6 - 3 + 1) 3 1))] → W p l e R s m args below meth c H locs 0 0 Q (F0 m 73 ls []) := by
          clear hP hD hS hl
          intro H locs ls hP hD hS hl
          refine lv_iload_n hx hb dX8_kindOf_73 rfl (lv_at hl 1 rfl) ?_
          have J39 : ∀ (v38 : Int32) (H : Heap) (locs : List Loc) (ls : Array Slot), v38 = (if (l_X8_kindOf_33 nw (6 - 3 + 1) 3 1) = 0 then 0 else (if (f_X8_get nw 0 0) = 0 then (if (f_X8_get nw 1 0) = 0 then 2 else 1) else 1)) → va_P D vwCl [(ta, .inr (8, [.ref m_now, .ref m_undone, .ref m_slots, .ref m_slotKind, .ref m_hasSlot, .ref m_sheetBits, .ref m_sheetSize, .ref m_sheets, .int (nI u), .int fi, .ref m_fresh, .long aa, .long bb, .long dd, .int (nI ro), .ref m_rootWhich, .int db, .ref m_signs, .ref m_atNought, .int (nI mn), .ref m_change, .ref m_table, .ref m_carried])), (m_now, .inl (cy 0, 29, .inl nw))] H → va_D A [(ta, .inr (8, [.ref m_now, .ref m_undone, .ref m_slots, .ref m_slotKind, .ref m_hasSlot, .ref m_sheetBits, .ref m_sheetSize, .ref m_sheets, .int (nI u), .int fi, .ref m_fresh, .long aa, .long bb, .long dd, .int (nI ro), .ref m_rootWhich, .int db, .ref m_signs, .ref m_atNought, .int (nI mn), .ref m_change, .ref m_table, .ref m_carried])), (m_now, .inl (cy 0, 29, .inl nw))] → va_S A s.heap H locs → lv_has ls 3 [(0, .ref ta), (1, .int (l_X8_kindOf_33 nw (6 - 3 + 1) 3 1))] → W p l e R s m args below meth c H locs 0 0 Q (F0 m 104 ls [.int v38]) := by
            clear hP hD hS hl
            intro v38 H locs ls ev38 hP hD hS hl
            subst ev38
            have hF : f_X8_kindOf nw = (if (l_X8_kindOf_33 nw (6 - 3 + 1) 3 1) = 0 then 0 else (if (f_X8_get nw 0 0) = 0 then (if (f_X8_get nw 1 0) = 0 then 2 else 1) else 1)) := hF
            rw [hF] at hQ
            exact hQ _ _ _ _ dX8_kindOf_104 hP hS
          refine lv_if_ne (tgt := 81) hx hb dX8_kindOf_74 (by decide) (fun hc35 => ?_) (fun hc35 => ?_)
          · refine lv_aload_n hx hb dX8_kindOf_81 rfl (lv_at hl 0 rfl) ?_
            refine lv_iconst (v := 0) hx hb dX8_kindOf_82 (by decide) ?_
            refine lv_iconst (v := 0) hx hb dX8_kindOf_83 (by decide) ?_
            refine yk_i [0, 1] (va_runV (As := [.int 0, .int 0]) (rest := []) ⟨hx, hb, hml, hown, hts⟩ (c_X8_get l D cy ta m_now m_undone m_slots m_slotKind m_hasSlot m_sheetBits m_sheetSize m_sheets m_fresh m_rootWhich m_signs m_atNought m_change m_table m_carried nw u fi aa bb dd ro db mn 0 0 (by first | assumption | omega) H.size) (cwV 2 hts gX8_kindOf_X8_get rfl rfl rfl hv_X8_get (yk_room hRf hRl rfl rfl)) (yk_pv (q := (RX8, TX8, 23)) hG hA hS hK hP hD [0, 1] (by decide +kernel) rfl rfl rfl) rfl rfl hl.1 rfl (lv_room (Nat.le_of_ble_eq_true rfl)) dX8_kindOf_84 ⟨Nat.zero_le _, Nat.zero_le _⟩) hP hD hS hA rfl rfl (fun H locs hP9 hD9 hS9 => ?_)
            replace hP : va_P D vwCl [(ta, .inr (8, [.ref m_now, .ref m_undone, .ref m_slots, .ref m_slotKind, .ref m_hasSlot, .ref m_sheetBits, .ref m_sheetSize, .ref m_sheets, .int (nI u), .int fi, .ref m_fresh, .long aa, .long bb, .long dd, .int (nI ro), .ref m_rootWhich, .int db, .ref m_signs, .ref m_atNought, .int (nI mn), .ref m_change, .ref m_table, .ref m_carried])), (m_now, .inl (cy 0, 29, .inl nw))] H := hP9
            replace hD : va_D A [(ta, .inr (8, [.ref m_now, .ref m_undone, .ref m_slots, .ref m_slotKind, .ref m_hasSlot, .ref m_sheetBits, .ref m_sheetSize, .ref m_sheets, .int (nI u), .int fi, .ref m_fresh, .long aa, .long bb, .long dd, .int (nI ro), .ref m_rootWhich, .int db, .ref m_signs, .ref m_atNought, .int (nI mn), .ref m_change, .ref m_table, .ref m_carried])), (m_now, .inl (cy 0, 29, .inl nw))] := hD9
            replace hS := hS9
            clear hP9 hD9 hS9
            refine lv_if_ne (tgt := 103) hx hb dX8_kindOf_87 (by decide) (fun hc36 => ?_) (fun hc36 => ?_)
            · refine lv_iconst (v := 1) hx hb dX8_kindOf_103 (by decide) ?_
              exact J39 _ _ _ _ (((if_neg hc35).trans (if_neg hc36)).symm) hP hD hS (lv_sub hl [0, 1] rfl)
            · refine lv_aload_n hx hb dX8_kindOf_90 rfl (lv_at hl 0 rfl) ?_
              refine lv_iconst (v := 1) hx hb dX8_kindOf_91 (by decide) ?_
              refine lv_iconst (v := 0) hx hb dX8_kindOf_92 (by decide) ?_
              refine yk_i [0, 1] (va_runV (As := [.int 1, .int 0]) (rest := []) ⟨hx, hb, hml, hown, hts⟩ (c_X8_get l D cy ta m_now m_undone m_slots m_slotKind m_hasSlot m_sheetBits m_sheetSize m_sheets m_fresh m_rootWhich m_signs m_atNought m_change m_table m_carried nw u fi aa bb dd ro db mn 1 0 (by first | assumption | omega) H.size) (cwV 2 hts gX8_kindOf_X8_get rfl rfl rfl hv_X8_get (yk_room hRf hRl rfl rfl)) (yk_pv (q := (RX8, TX8, 23)) hG hA hS hK hP hD [0, 1] (by decide +kernel) rfl rfl rfl) rfl rfl hl.1 rfl (lv_room (Nat.le_of_ble_eq_true rfl)) dX8_kindOf_93 ⟨Nat.zero_le _, Nat.zero_le _⟩) hP hD hS hA rfl rfl (fun H locs hP9 hD9 hS9 => ?_)
              replace hP : va_P D vwCl [(ta, .inr (8, [.ref m_now, .ref m_undone, .ref m_slots, .ref m_slotKind, .ref m_hasSlot, .ref m_sheetBits, .ref m_sheetSize, .ref m_sheets, .int (nI u), .int fi, .ref m_fresh, .long aa, .long bb, .long dd, .int (nI ro), .ref m_rootWhich, .int db, .ref m_signs, .ref m_atNought, .int (nI mn), .ref m_change, .ref m_table, .ref m_carried])), (m_now, .inl (cy 0, 29, .inl nw))] H := hP9
              replace hD : va_D A [(ta, .inr (8, [.ref m_now, .ref m_undone, .ref m_slots, .ref m_slotKind, .ref m_hasSlot, .ref m_sheetBits, .ref m_sheetSize, .ref m_sheets, .int (nI u), .int fi, .ref m_fresh, .long aa, .long bb, .long dd, .int (nI ro), .ref m_rootWhich, .int db, .ref m_signs, .ref m_atNought, .int (nI mn), .ref m_change, .ref m_table, .ref m_carried])), (m_now, .inl (cy 0, 29, .inl nw))] := hD9
              replace hS := hS9
              clear hP9 hD9 hS9
              refine lv_if_ne (tgt := 103) hx hb dX8_kindOf_96 (by decide) (fun hc37 => ?_) (fun hc37 => ?_)
              · refine lv_iconst (v := 1) hx hb dX8_kindOf_103 (by decide) ?_
                exact J39 _ _ _ _ (((if_neg hc35).trans ((if_pos hc36).trans (if_neg hc37))).symm) hP hD hS (lv_sub hl [0, 1] rfl)
              · refine lv_iconst (v := 2) hx hb dX8_kindOf_99 (by decide) ?_
                refine lv_goto (tgt := 104) hx hb dX8_kindOf_100 (by decide) ?_
                exact J39 _ _ _ _ (((if_neg hc35).trans ((if_pos hc36).trans (if_pos hc37))).symm) hP hD hS (lv_sub hl [0, 1] rfl)
          · refine lv_iconst (v := 0) hx hb dX8_kindOf_77 (by decide) ?_
            refine lv_goto (tgt := 104) hx hb dX8_kindOf_78 (by decide) ?_
            exact J39 _ _ _ _ ((if_pos hc35).symm) hP hD hS (lv_sub hl [0, 1] rfl)
        have L33 : ∀ (M9 n33 ki : Nat) (z1_33 : Int32) (H : Heap) (locs : List Loc) (ls : Array Slot), n33 < M9 → ki + n33 = 6 → (l_X8_kindOf_33 nw (6 - 3 + 1) 3 1) = (l_X8_kindOf_33 nw (n33 + 1) ki z1_33) → va_P D vwCl [(ta, .inr (8, [.ref m_now, .ref m_undone, .ref m_slots, .ref m_slotKind, .ref m_hasSlot, .ref m_sheetBits, .ref m_sheetSize, .ref m_sheets, .int (nI u), .int fi, .ref m_fresh, .long aa, .long bb, .long dd, .int (nI ro), .ref m_rootWhich, .int db, .ref m_signs, .ref m_atNought, .int (nI mn), .ref m_change, .ref m_table, .ref m_carried])), (m_now, .inl (cy 0, 29, .inl nw))] H → va_D A [(ta, .inr (8, [.ref m_now, .ref m_undone, .ref m_slots, .ref m_slotKind, .ref m_hasSlot, .ref m_sheetBits, .ref m_sheetSize, .ref m_sheets, .int (nI u), .int fi, .ref m_fresh, .long aa, .long bb, .long dd, .int (nI ro), .ref m_rootWhich, .int db, .ref m_signs, .ref m_atNought, .int (nI mn), .ref m_change, .ref m_table, .ref m_carried])), (m_now, .inl (cy 0, 29, .inl nw))] → va_S A s.heap H locs → lv_has ls 3 [(0, .ref ta), (1, .int z1_33), (2, .int (nI ki))] → W p l e R s m args below meth c H locs 0 0 Q (F0 m 33 ls []) := by
          clear hP hD hS hl
          intro M9
          induction M9 with
          | zero => intro n33 ki _ _ _ _ hn; exact absurd hn (Nat.not_lt_zero _)
          | succ M9 ih33 =>
            intro n33 ki z1_33 H locs ls hn33 hk33 hV33 hP hD hS hl
            refine lv_iload_n hx hb dX8_kindOf_33 rfl (lv_at hl 2 rfl) ?_
            refine lv_bipush (v := 6) hx hb dX8_kindOf_34 (by decide) ?_
            refine lv_icmp_ge (tgt := 73) hx hb dX8_kindOf_36 (by decide) (fun hc28 => ?_) (fun hc28 => ?_)
            · replace hV33 := hV33.trans (if_pos hc28)
              have hV33 : (l_X8_kindOf_33 nw (6 - 3 + 1) 3 1) = z1_33 := hV33
              have J34 := J34
              rw [hV33] at J34
              exact J34 _ _ _ hP hD hS (lv_sub hl [0, 1] rfl)
            · replace hV33 := hV33.trans (if_neg hc28)
              have hlt33 : ki < 6 := yk_lt hk33 (by omega) hc28
              refine lv_iload_n hx hb dX8_kindOf_39 rfl (lv_at hl 1 rfl) ?_
              have J33 : ∀ (v32 : Int32) (H : Heap) (locs : List Loc) (ls : Array Slot), v32 = (if z1_33 = 0 then 0 else (if (f_X8_get nw 0 ki) = 0 then (if (f_X8_get nw 1 ki) = 0 then 1 else 0) else 0)) → va_P D vwCl [(ta, .inr (8, [.ref m_now, .ref m_undone, .ref m_slots, .ref m_slotKind, .ref m_hasSlot, .ref m_sheetBits, .ref m_sheetSize, .ref m_sheets, .int (nI u), .int fi, .ref m_fresh, .long aa, .long bb, .long dd, .int (nI ro), .ref m_rootWhich, .int db, .ref m_signs, .ref m_atNought, .int (nI mn), .ref m_change, .ref m_table, .ref m_carried])), (m_now, .inl (cy 0, 29, .inl nw))] H → va_D A [(ta, .inr (8, [.ref m_now, .ref m_undone, .ref m_slots, .ref m_slotKind, .ref m_hasSlot, .ref m_sheetBits, .ref m_sheetSize, .ref m_sheets, .int (nI u), .int fi, .ref m_fresh, .long aa, .long bb, .long dd, .int (nI ro), .ref m_rootWhich, .int db, .ref m_signs, .ref m_atNought, .int (nI mn), .ref m_change, .ref m_table, .ref m_carried])), (m_now, .inl (cy 0, 29, .inl nw))] → va_S A s.heap H locs → lv_has ls 3 [(0, .ref ta), (1, .int z1_33), (2, .int (nI ki))] → W p l e R s m args below meth c H locs 0 0 Q (F0 m 66 ls [.int v32]) := by
                clear hP hD hS hl
                intro v32 H locs ls ev32 hP hD hS hl
                subst ev32
                refine lv_istore_n (lv' := [(1, .int (if z1_33 = 0 then 0 else (if (f_X8_get nw 0 ki) = 0 then (if (f_X8_get nw 1 ki) = 0 then 1 else 0) else 0))), (0, .ref ta), (2, .int (nI ki))]) hx hb dX8_kindOf_66 rfl hl (by decide) rfl (fun ls hl9 => ?_)
                replace hl := hl9
                clear hl9
                refine lv_iinc (v := nI (ki + 1)) (lv' := [(2, .int (nI (ki + 1))), (1, .int (if z1_33 = 0 then 0 else (if (f_X8_get nw 0 ki) = 0 then (if (f_X8_get nw 1 ki) = 0 then 1 else 0) else 0))), (0, .ref ta)]) hx hb dX8_kindOf_67 hl (k := 2) rfl (yk_inc ki) (by decide) rfl (fun ls hl9 => ?_)
                replace hl := hl9
                clear hl9
                refine lv_goto (tgt := 33) hx hb dX8_kindOf_70 (by decide) ?_
                obtain ⟨n9, rfl⟩ : ∃ n9, n33 = n9 + 1 := ⟨n33 - 1, by omega⟩
                exact ih33 n9 (ki + 1) (if z1_33 = 0 then 0 else (if (f_X8_get nw 0 ki) = 0 then (if (f_X8_get nw 1 ki) = 0 then 1 else 0) else 0)) _ _ _ (by omega) (by omega)  hV33 hP hD hS (lv_sub hl [2, 1, 0] rfl)
              refine lv_if_eq (tgt := 65) hx hb dX8_kindOf_40 (by decide) (fun hc29 => ?_) (fun hc29 => ?_)
              · refine lv_iconst (v := 0) hx hb dX8_kindOf_65 (by decide) ?_
                exact J33 _ _ _ _ ((if_pos hc29).symm) hP hD hS (lv_sub hl [0, 1, 2] rfl)
              · refine lv_aload_n hx hb dX8_kindOf_43 rfl (lv_at hl 0 rfl) ?_
                refine lv_iconst (v := 0) hx hb dX8_kindOf_44 (by decide) ?_
                refine lv_iload_n hx hb dX8_kindOf_45 rfl (lv_at hl 2 rfl) ?_
                refine yk_i [0, 1] (va_runV (As := [.int 0, .int (nI ki)]) (rest := []) ⟨hx, hb, hml, hown, hts⟩ (c_X8_get l D cy ta m_now m_undone m_slots m_slotKind m_hasSlot m_sheetBits m_sheetSize m_sheets m_fresh m_rootWhich m_signs m_atNought m_change m_table m_carried nw u fi aa bb dd ro db mn 0 ki (by first | assumption | omega) H.size) (cwV 2 hts gX8_kindOf_X8_get rfl rfl rfl hv_X8_get (yk_room hRf hRl rfl rfl)) (yk_pv (q := (RX8, TX8, 23)) hG hA hS hK hP hD [0, 1] (by decide +kernel) rfl rfl rfl) rfl rfl hl.1 rfl (lv_room (Nat.le_of_ble_eq_true rfl)) dX8_kindOf_46 ⟨Nat.zero_le _, Nat.zero_le _⟩) hP hD hS hA rfl rfl (fun H locs hP9 hD9 hS9 => ?_)
                replace hP : va_P D vwCl [(ta, .inr (8, [.ref m_now, .ref m_undone, .ref m_slots, .ref m_slotKind, .ref m_hasSlot, .ref m_sheetBits, .ref m_sheetSize, .ref m_sheets, .int (nI u), .int fi, .ref m_fresh, .long aa, .long bb, .long dd, .int (nI ro), .ref m_rootWhich, .int db, .ref m_signs, .ref m_atNought, .int (nI mn), .ref m_change, .ref m_table, .ref m_carried])), (m_now, .inl (cy 0, 29, .inl nw))] H := hP9
                replace hD : va_D A [(ta, .inr (8, [.ref m_now, .ref m_undone, .ref m_slots, .ref m_slotKind, .ref m_hasSlot, .ref m_sheetBits, .ref m_sheetSize, .ref m_sheets, .int (nI u), .int fi, .ref m_fresh, .long aa, .long bb, .long dd, .int (nI ro), .ref m_rootWhich, .int db, .ref m_signs, .ref m_atNought, .int (nI mn), .ref m_change, .ref m_table, .ref m_carried])), (m_now, .inl (cy 0, 29, .inl nw))] := hD9
                replace hS := hS9
                clear hP9 hD9 hS9
                refine lv_if_ne (tgt := 65) hx hb dX8_kindOf_49 (by decide) (fun hc30 => ?_) (fun hc30 => ?_)
                · refine lv_iconst (v := 0) hx hb dX8_kindOf_65 (by decide) ?_
                  exact J33 _ _ _ _ (((if_neg hc29).trans (if_neg hc30)).symm) hP hD hS (lv_sub hl [0, 1, 2] rfl)
                · refine lv_aload_n hx hb dX8_kindOf_52 rfl (lv_at hl 0 rfl) ?_
                  refine lv_iconst (v := 1) hx hb dX8_kindOf_53 (by decide) ?_
                  refine lv_iload_n hx hb dX8_kindOf_54 rfl (lv_at hl 2 rfl) ?_
                  refine yk_i [0, 1] (va_runV (As := [.int 1, .int (nI ki)]) (rest := []) ⟨hx, hb, hml, hown, hts⟩ (c_X8_get l D cy ta m_now m_undone m_slots m_slotKind m_hasSlot m_sheetBits m_sheetSize m_sheets m_fresh m_rootWhich m_signs m_atNought m_change m_table m_carried nw u fi aa bb dd ro db mn 1 ki (by first | assumption | omega) H.size) (cwV 2 hts gX8_kindOf_X8_get rfl rfl rfl hv_X8_get (yk_room hRf hRl rfl rfl)) (yk_pv (q := (RX8, TX8, 23)) hG hA hS hK hP hD [0, 1] (by decide +kernel) rfl rfl rfl) rfl rfl hl.1 rfl (lv_room (Nat.le_of_ble_eq_true rfl)) dX8_kindOf_55 ⟨Nat.zero_le _, Nat.zero_le _⟩) hP hD hS hA rfl rfl (fun H locs hP9 hD9 hS9 => ?_)
                  replace hP : va_P D vwCl [(ta, .inr (8, [.ref m_now, .ref m_undone, .ref m_slots, .ref m_slotKind, .ref m_hasSlot, .ref m_sheetBits, .ref m_sheetSize, .ref m_sheets, .int (nI u), .int fi, .ref m_fresh, .long aa, .long bb, .long dd, .int (nI ro), .ref m_rootWhich, .int db, .ref m_signs, .ref m_atNought, .int (nI mn), .ref m_change, .ref m_table, .ref m_carried])), (m_now, .inl (cy 0, 29, .inl nw))] H := hP9
                  replace hD : va_D A [(ta, .inr (8, [.ref m_now, .ref m_undone, .ref m_slots, .ref m_slotKind, .ref m_hasSlot, .ref m_sheetBits, .ref m_sheetSize, .ref m_sheets, .int (nI u), .int fi, .ref m_fresh, .long aa, .long bb, .long dd, .int (nI ro), .ref m_rootWhich, .int db, .ref m_signs, .ref m_atNought, .int (nI mn), .ref m_change, .ref m_table, .ref m_carried])), (m_now, .inl (cy 0, 29, .inl nw))] := hD9
                  replace hS := hS9
                  clear hP9 hD9 hS9
                  refine lv_if_ne (tgt := 65) hx hb dX8_kindOf_58 (by decide) (fun hc31 => ?_) (fun hc31 => ?_)
                  · refine lv_iconst (v := 0) hx hb dX8_kindOf_65 (by decide) ?_
                    exact J33 _ _ _ _ (((if_neg hc29).trans ((if_pos hc30).trans (if_neg hc31))).symm) hP hD hS (lv_sub hl [0, 1, 2] rfl)
                  · refine lv_iconst (v := 1) hx hb dX8_kindOf_61 (by decide) ?_
                    refine lv_goto (tgt := 66) hx hb dX8_kindOf_62 (by decide) ?_
                    exact J33 _ _ _ _ (((if_neg hc29).trans ((if_pos hc30).trans (if_pos hc31))).symm) hP hD hS (lv_sub hl [0, 1, 2] rfl)
        exact L33 ((6 - 3) + 1) (6 - 3) 3 1 _ _ _ (Nat.lt_succ_self _) (by omega)  rfl hP hD hS (lv_sub hl [2, 1, 0] rfl)
      · replace hF := hF.trans (if_pos hc27)
        refine lv_iconst (v := 3) hx hb dX8_kindOf_27 (by decide) ?_
        have hF : f_X8_kindOf nw = 3 := hF
        rw [hF] at hQ
        exact hQ _ _ _ _ dX8_kindOf_28 hP hS

theorem kX8_keep_0 : Cond.fieldLink RX8 16 "FlowPlaneModel" "slots" "[I" ∈ wsX8_keep := by decide +kernel
theorem kX8_keep_1 : Cond.fieldLink RX8 7 "FlowPlaneModel" "now" "[I" ∈ wsX8_keep := by decide +kernel
theorem kX8_keep_2 : Cond.fieldLink RX8 22 "FlowPlaneModel" "hasSlot" "[Z" ∈ wsX8_keep := by decide +kernel
theorem kX8_keep_3 : Cond.fieldLink RX8 19 "FlowPlaneModel" "slotKind" "[I" ∈ wsX8_keep := by decide +kernel
theorem kX8_keep_4 : Cond.constant RX8 68 (-1000001) ∈ wsX8_keep := by decide +kernel
theorem uX8_keep_X8 : ∀ w ∈ u_ws RX8 TX8 23, w ∈ wsX8_keep := by decide +kernel
def l_X8_keep_16 (nw : Nat → Int32) (sl : Nat → Int32) (sk : Nat → Int32) (hs : Nat → Int32) (fi : Int32) (px : Int32) : Nat → Nat → (Nat → Int32) → (Nat → Int32)
  | 0, ki, zslots_16 => zslots_16
  | fu_X8_keep_16 + 1, ki, zslots_16 => (if 12 ≤ (nI ki) then zslots_16 else (l_X8_keep_16 nw sl sk hs fi px fu_X8_keep_16 (ki + 1) (upd zslots_16 ((12 * px.toNatClampNeg) + ki) (nw ki))))
def f_X8_keep (nw : Nat → Int32) (sl : Nat → Int32) (sk : Nat → Int32) (hs : Nat → Int32) (fi : Int32) (px : Int32) : Int32 × Int32 × (Nat → Int32) × (Nat → Int32) × (Nat → Int32) := (if (f_X8_isSlot px) = 0 then (((f_X8_found fi (-1000001)).1), ((f_X8_found fi (-1000001)).2), sl, sk, hs) else (((upd sk px.toNatClampNeg (f_X8_kindOf nw)) px.toNatClampNeg), fi, (l_X8_keep_16 nw sl sk hs fi px (12 + 1) 0 sl), (upd sk px.toNatClampNeg (f_X8_kindOf nw)), (upd hs px.toNatClampNeg 1)))
set_option maxHeartbeats 400000000 in
set_option maxRecDepth 100000 in
theorem c_X8_keep (l : Launch) (D : va_G) (cy : Nat → ClassId) (ta : Nat) (m_now : Nat) (m_slots : Nat) (m_slotKind : Nat) (m_hasSlot : Nat) (m_undone : Nat) (m_sheetBits : Nat) (m_sheetSize : Nat) (m_sheets : Nat) (m_fresh : Nat) (m_rootWhich : Nat) (m_signs : Nat) (m_atNought : Nat) (m_change : Nat) (m_table : Nat) (m_carried : Nat) (nw : Nat → Int32) (sl : Nat → Int32) (sk : Nat → Int32) (hs : Nat → Int32) (u : Nat) (fi : Int32) (aa : Int64) (bb : Int64) (dd : Int64) (ro : Nat) (db : Int32) (mn : Nat) (px : Int32) : yk_Ci l D vwCl (yk_ty cy) yX8_keep wsX8_keep 4 90 [.ref ta, .int px] [(ta, .inr (8, [.ref m_now, .ref m_undone, .ref m_slots, .ref m_slotKind, .ref m_hasSlot, .ref m_sheetBits, .ref m_sheetSize, .ref m_sheets, .int (nI u), .int fi, .ref m_fresh, .long aa, .long bb, .long dd, .int (nI ro), .ref m_rootWhich, .int db, .ref m_signs, .ref m_atNought, .int (nI mn), .ref m_change, .ref m_table, .ref m_carried])), (m_now, .inl (cy 0, 29, .inl nw)), (m_slots, .inl (cy 0, 48, .inl sl)), (m_slotKind, .inl (cy 0, 4, .inl sk)), (m_hasSlot, .inl (cy 2, 4, .inl hs))] ((f_X8_keep nw sl sk hs fi px).1) [(ta, .inr (8, [.ref m_now, .ref m_undone, .ref m_slots, .ref m_slotKind, .ref m_hasSlot, .ref m_sheetBits, .ref m_sheetSize, .ref m_sheets, .int (nI u), .int ((f_X8_keep nw sl sk hs fi px).2.1), .ref m_fresh, .long aa, .long bb, .long dd, .int (nI ro), .ref m_rootWhich, .int db, .ref m_signs, .ref m_atNought, .int (nI mn), .ref m_change, .ref m_table, .ref m_carried])), (m_now, .inl (cy 0, 29, .inl nw)), (m_slots, .inl (cy 0, 48, .inl ((f_X8_keep nw sl sk hs fi px).2.2.1))), (m_slotKind, .inl (cy 0, 4, .inl ((f_X8_keep nw sl sk hs fi px).2.2.2.1))), (m_hasSlot, .inl (cy 2, 4, .inl ((f_X8_keep nw sl sk hs fi px).2.2.2.2)))] := by
  refine yk_eI (cc := cX8_keep) (maxL := 3) (by decide) rfl (Nat.le_of_ble_eq_true rfl) rfl ?_
  intro p e R s m args below meth c A Q ls H locs hx hb hml hown hts hRf hRl hA hK hG hP hD hS hl hQ
  have hP : va_P D vwCl [(ta, .inr (8, [.ref m_now, .ref m_undone, .ref m_slots, .ref m_slotKind, .ref m_hasSlot, .ref m_sheetBits, .ref m_sheetSize, .ref m_sheets, .int (nI u), .int fi, .ref m_fresh, .long aa, .long bb, .long dd, .int (nI ro), .ref m_rootWhich, .int db, .ref m_signs, .ref m_atNought, .int (nI mn), .ref m_change, .ref m_table, .ref m_carried])), (m_now, .inl (cy 0, 29, .inl nw)), (m_slots, .inl (cy 0, 48, .inl sl)), (m_slotKind, .inl (cy 0, 4, .inl sk)), (m_hasSlot, .inl (cy 2, 4, .inl hs))] H := hP
  have hl : lv_has ls 3 [(0, .ref ta), (1, .int px)] := hl
  have hown : s.vm.findClass RX8 = some m.cls := hown
  have hF : (f_X8_keep nw sl sk hs fi px) = (f_X8_keep nw sl sk hs fi px) := rfl
  refine lv_iload_n hx hb dX8_keep_0 rfl (lv_at hl 1 rfl) ?_
  refine yk_i [] (va_runS (As := [.int px]) (rest := []) ⟨hx, hb, hml, hown, hts⟩ (c_X8_isSlot l D cy px H.size) (va_cwS 1 hts gX8_keep_X8_isSlot rfl rfl rfl hs_X8_isSlot (yk_room hRf hRl rfl rfl)) (yk_ps hG hA hS hK hP hD [] (by decide +kernel) rfl) rfl rfl hl.1 rfl (lv_room (Nat.le_of_ble_eq_true rfl)) dX8_keep_1 ⟨Nat.zero_le _, Nat.zero_le _⟩) hP hD hS hA rfl rfl (fun H locs hP9 hD9 hS9 => ?_)
  replace hP : va_P D vwCl [(ta, .inr (8, [.ref m_now, .ref m_undone, .ref m_slots, .ref m_slotKind, .ref m_hasSlot, .ref m_sheetBits, .ref m_sheetSize, .ref m_sheets, .int (nI u), .int fi, .ref m_fresh, .long aa, .long bb, .long dd, .int (nI ro), .ref m_rootWhich, .int db, .ref m_signs, .ref m_atNought, .int (nI mn), .ref m_change, .ref m_table, .ref m_carried])), (m_now, .inl (cy 0, 29, .inl nw)), (m_slots, .inl (cy 0, 48, .inl sl)), (m_slotKind, .inl (cy 0, 4, .inl sk)), (m_hasSlot, .inl (cy 2, 4, .inl hs))] H := hP9
  replace hD : va_D A [(ta, .inr (8, [.ref m_now, .ref m_undone, .ref m_slots, .ref m_slotKind, .ref m_hasSlot, .ref m_sheetBits, .ref m_sheetSize, .ref m_sheets, .int (nI u), .int fi, .ref m_fresh, .long aa, .long bb, .long dd, .int (nI ro), .ref m_rootWhich, .int db, .ref m_signs, .ref m_atNought, .int (nI mn), .ref m_change, .ref m_table, .ref m_carried])), (m_now, .inl (cy 0, 29, .inl nw)), (m_slots, .inl (cy 0, 48, .inl sl)), (m_slotKind, .inl (cy 0, 4, .inl sk)), (m_hasSlot, .inl (cy 2, 4, .inl hs))] := hD9
  replace hS := hS9
  clear hP9 hD9 hS9
  refine lv_if_ne (tgt := 14) hx hb dX8_keep_4 (by decide) (fun hc1 => ?_) (fun hc1 => ?_)
  · replace hF := hF.trans (if_neg hc1)
    have hq2 : px = nI px.toNatClampNeg := (ix_sl (by assumption)).1
    have hq2b : px.toNatClampNeg < 4 := (ix_sl (by assumption)).2
    rw [hq2] at hl
    refine lv_iconst (v := 0) hx hb dX8_keep_14 (by decide) ?_
    refine lv_istore_n (lv' := [(2, .int 0), (0, .ref ta), (1, .int (nI px.toNatClampNeg))]) hx hb dX8_keep_15 rfl hl (by decide) rfl (fun ls hl9 => ?_)
    replace hl := hl9
    clear hl9
    have J5 : ∀ (H : Heap) (locs : List Loc) (ls : Array Slot), va_P D vwCl [(ta, .inr (8, [.ref m_now, .ref m_undone, .ref m_slots, .ref m_slotKind, .ref m_hasSlot, .ref m_sheetBits, .ref m_sheetSize, .ref m_sheets, .int (nI u), .int fi, .ref m_fresh, .long aa, .long bb, .long dd, .int (nI ro), .ref m_rootWhich, .int db, .ref m_signs, .ref m_atNought, .int (nI mn), .ref m_change, .ref m_table, .ref m_carried])), (m_now, .inl (cy 0, 29, .inl nw)), (m_slots, .inl (cy 0, 48, .inl (l_X8_keep_16 nw sl sk hs fi px (12 + 1) 0 sl))), (m_slotKind, .inl (cy 0, 4, .inl sk)), (m_hasSlot, .inl (cy 2, 4, .inl hs))] H → va_D A [(ta, .inr (8, [.ref m_now, .ref m_undone, .ref m_slots, .ref m_slotKind, .ref m_hasSlot, .ref m_sheetBits, .ref m_sheetSize, .ref m_sheets, .int (nI u), .int fi, .ref m_fresh, .long aa, .long bb, .long dd, .int (nI ro), .ref m_rootWhich, .int db, .ref m_signs, .ref m_atNought, .int (nI mn), .ref m_change, .ref m_table, .ref m_carried])), (m_now, .inl (cy 0, 29, .inl nw)), (m_slots, .inl (cy 0, 48, .inl (l_X8_keep_16 nw sl sk hs fi px (12 + 1) 0 sl))), (m_slotKind, .inl (cy 0, 4, .inl sk)), (m_hasSlot, .inl (cy 2, 4, .inl hs))] → va_S A s.heap H locs → lv_has ls 3 [(0, .ref ta), (1, .int (nI px.toNatClampNeg))] → W p l e R s m args below meth c H locs 0 0 Q (F0 m 45 ls []) := by
      clear hP hD hS hl
      intro H locs ls hP hD hS hl
      refine lv_aload_n hx hb dX8_keep_45 rfl (lv_at hl 0 rfl) ?_
      refine va_get (D := D) (ci := 8) (v := .ref m_hasSlot) (C := RX8) (T := TX8) (N := 23) hx hb hts uX8_keep_X8 hown hK hP 0 rfl rfl 4 (by decide) (hts _ kX8_keep_2) (fun _ h9 => h9) rfl dX8_keep_46 ?_
      refine lv_iload_n hx hb dX8_keep_49 rfl (lv_at hl 1 rfl) ?_
      refine lv_iconst (v := 1) hx hb dX8_keep_50 (by decide) ?_
      refine yk_zst hx hb hK hP hD hS 4 2 rfl rfl px.toNatClampNeg (x := 1) (by omega) (by decide) (Or.inr rfl) dX8_keep_51 (fun H locs hP9 hD9 hS9 => ?_)
      replace hP : va_P D vwCl [(ta, .inr (8, [.ref m_now, .ref m_undone, .ref m_slots, .ref m_slotKind, .ref m_hasSlot, .ref m_sheetBits, .ref m_sheetSize, .ref m_sheets, .int (nI u), .int fi, .ref m_fresh, .long aa, .long bb, .long dd, .int (nI ro), .ref m_rootWhich, .int db, .ref m_signs, .ref m_atNought, .int (nI mn), .ref m_change, .ref m_table, .ref m_carried])), (m_now, .inl (cy 0, 29, .inl nw)), (m_slots, .inl (cy 0, 48, .inl (l_X8_keep_16 nw sl sk hs fi px (12 + 1) 0 sl))), (m_slotKind, .inl (cy 0, 4, .inl sk)), (m_hasSlot, .inl (cy 2, 4, .inl (upd hs px.toNatClampNeg 1)))] H := hP9
      replace hD : va_D A [(ta, .inr (8, [.ref m_now, .ref m_undone, .ref m_slots, .ref m_slotKind, .ref m_hasSlot, .ref m_sheetBits, .ref m_sheetSize, .ref m_sheets, .int (nI u), .int fi, .ref m_fresh, .long aa, .long bb, .long dd, .int (nI ro), .ref m_rootWhich, .int db, .ref m_signs, .ref m_atNought, .int (nI mn), .ref m_change, .ref m_table, .ref m_carried])), (m_now, .inl (cy 0, 29, .inl nw)), (m_slots, .inl (cy 0, 48, .inl (l_X8_keep_16 nw sl sk hs fi px (12 + 1) 0 sl))), (m_slotKind, .inl (cy 0, 4, .inl sk)), (m_hasSlot, .inl (cy 2, 4, .inl (upd hs px.toNatClampNeg 1)))] := hD9
      replace hS := hS9
      clear hP9 hD9 hS9
      refine lv_aload_n hx hb dX8_keep_52 rfl (lv_at hl 0 rfl) ?_
      refine va_get (D := D) (ci := 8) (v := .ref m_slotKind) (C := RX8) (T := TX8) (N := 23) hx hb hts uX8_keep_X8 hown hK hP 0 rfl rfl 3 (by decide) (hts _ kX8_keep_3) (fun _ h9 => h9) rfl dX8_keep_53 ?_
      refine lv_iload_n hx hb dX8_keep_56 rfl (lv_at hl 1 rfl) ?_
      refine lv_aload_n hx hb dX8_keep_57 rfl (lv_at hl 0 rfl) ?_
      refine yk_i [0, 1] (va_runV (As := []) (rest := [.int (nI px.toNatClampNeg), .ref m_slotKind]) ⟨hx, hb, hml, hown, hts⟩ (c_X8_kindOf l D cy ta m_now m_undone m_slots m_slotKind m_hasSlot m_sheetBits m_sheetSize m_sheets m_fresh m_rootWhich m_signs m_atNought m_change m_table m_carried nw u fi aa bb dd ro db mn H.size) (cwV 0 hts gX8_keep_X8_kindOf rfl rfl rfl hv_X8_kindOf (yk_room hRf hRl rfl rfl)) (yk_pv (q := (RX8, TX8, 23)) hG hA hS hK hP hD [0, 1] (by decide +kernel) rfl rfl rfl) rfl rfl hl.1 rfl (lv_room (Nat.le_of_ble_eq_true rfl)) dX8_keep_58 ⟨Nat.zero_le _, Nat.zero_le _⟩) hP hD hS hA rfl rfl (fun H locs hP9 hD9 hS9 => ?_)
      replace hP : va_P D vwCl [(ta, .inr (8, [.ref m_now, .ref m_undone, .ref m_slots, .ref m_slotKind, .ref m_hasSlot, .ref m_sheetBits, .ref m_sheetSize, .ref m_sheets, .int (nI u), .int fi, .ref m_fresh, .long aa, .long bb, .long dd, .int (nI ro), .ref m_rootWhich, .int db, .ref m_signs, .ref m_atNought, .int (nI mn), .ref m_change, .ref m_table, .ref m_carried])), (m_now, .inl (cy 0, 29, .inl nw)), (m_slots, .inl (cy 0, 48, .inl (l_X8_keep_16 nw sl sk hs fi px (12 + 1) 0 sl))), (m_slotKind, .inl (cy 0, 4, .inl sk)), (m_hasSlot, .inl (cy 2, 4, .inl (upd hs px.toNatClampNeg 1)))] H := hP9
      replace hD : va_D A [(ta, .inr (8, [.ref m_now, .ref m_undone, .ref m_slots, .ref m_slotKind, .ref m_hasSlot, .ref m_sheetBits, .ref m_sheetSize, .ref m_sheets, .int (nI u), .int fi, .ref m_fresh, .long aa, .long bb, .long dd, .int (nI ro), .ref m_rootWhich, .int db, .ref m_signs, .ref m_atNought, .int (nI mn), .ref m_change, .ref m_table, .ref m_carried])), (m_now, .inl (cy 0, 29, .inl nw)), (m_slots, .inl (cy 0, 48, .inl (l_X8_keep_16 nw sl sk hs fi px (12 + 1) 0 sl))), (m_slotKind, .inl (cy 0, 4, .inl sk)), (m_hasSlot, .inl (cy 2, 4, .inl (upd hs px.toNatClampNeg 1)))] := hD9
      replace hS := hS9
      clear hP9 hD9 hS9
      refine yk_ist hx hb hK hP hD hS 3 0 rfl rfl px.toNatClampNeg (by omega) (by decide) dX8_keep_61 (fun H locs hP9 hD9 hS9 => ?_)
      replace hP : va_P D vwCl [(ta, .inr (8, [.ref m_now, .ref m_undone, .ref m_slots, .ref m_slotKind, .ref m_hasSlot, .ref m_sheetBits, .ref m_sheetSize, .ref m_sheets, .int (nI u), .int fi, .ref m_fresh, .long aa, .long bb, .long dd, .int (nI ro), .ref m_rootWhich, .int db, .ref m_signs, .ref m_atNought, .int (nI mn), .ref m_change, .ref m_table, .ref m_carried])), (m_now, .inl (cy 0, 29, .inl nw)), (m_slots, .inl (cy 0, 48, .inl (l_X8_keep_16 nw sl sk hs fi px (12 + 1) 0 sl))), (m_slotKind, .inl (cy 0, 4, .inl (upd sk px.toNatClampNeg (f_X8_kindOf nw)))), (m_hasSlot, .inl (cy 2, 4, .inl (upd hs px.toNatClampNeg 1)))] H := hP9
      replace hD : va_D A [(ta, .inr (8, [.ref m_now, .ref m_undone, .ref m_slots, .ref m_slotKind, .ref m_hasSlot, .ref m_sheetBits, .ref m_sheetSize, .ref m_sheets, .int (nI u), .int fi, .ref m_fresh, .long aa, .long bb, .long dd, .int (nI ro), .ref m_rootWhich, .int db, .ref m_signs, .ref m_atNought, .int (nI mn), .ref m_change, .ref m_table, .ref m_carried])), (m_now, .inl (cy 0, 29, .inl nw)), (m_slots, .inl (cy 0, 48, .inl (l_X8_keep_16 nw sl sk hs fi px (12 + 1) 0 sl))), (m_slotKind, .inl (cy 0, 4, .inl (upd sk px.toNatClampNeg (f_X8_kindOf nw)))), (m_hasSlot, .inl (cy 2, 4, .inl (upd hs px.toNatClampNeg 1)))] := hD9
      replace hS := hS9
      clear hP9 hD9 hS9
      refine lv_aload_n hx hb dX8_keep_62 rfl (lv_at hl 0 rfl) ?_
      refine va_get (D := D) (ci := 8) (v := .ref m_slotKind) (C := RX8) (T := TX8) (N := 23) hx hb hts uX8_keep_X8 hown hK hP 0 rfl rfl 3 (by decide) (hts _ kX8_keep_3) (fun _ h9 => h9) rfl dX8_keep_63 ?_
      refine lv_iload_n hx hb dX8_keep_66 rfl (lv_at hl 1 rfl) ?_
      refine yk_ild hx hb hK hP 3 0 rfl rfl px.toNatClampNeg (by omega) (by decide) dX8_keep_67 ?_
      have hF : f_X8_keep nw sl sk hs fi px = (((upd sk px.toNatClampNeg (f_X8_kindOf nw)) px.toNatClampNeg), fi, (l_X8_keep_16 nw sl sk hs fi px (12 + 1) 0 sl), (upd sk px.toNatClampNeg (f_X8_kindOf nw)), (upd hs px.toNatClampNeg 1)) := hF
      have hf0 := yk_fst hF
      have hg0 := yk_snd hF
      have hf1 := yk_fst hg0
      have hg1 := yk_snd hg0
      have hf2 := yk_fst hg1
      have hg2 := yk_snd hg1
      have hf3 := yk_fst hg2
      have hg3 := yk_snd hg2
      rw [hf0, hf1, hf2, hf3, hg3] at hQ
      exact hQ _ _ _ _ dX8_keep_68 hP hS
    have L16 : ∀ (M9 n16 ki : Nat) (zslots_16 : Nat → Int32) (H : Heap) (locs : List Loc) (ls : Array Slot), n16 < M9 → ki + n16 = 12 → (l_X8_keep_16 nw sl sk hs fi px (12 + 1) 0 sl) = (l_X8_keep_16 nw sl sk hs fi px (n16 + 1) ki zslots_16) → va_P D vwCl [(ta, .inr (8, [.ref m_now, .ref m_undone, .ref m_slots, .ref m_slotKind, .ref m_hasSlot, .ref m_sheetBits, .ref m_sheetSize, .ref m_sheets, .int (nI u), .int fi, .ref m_fresh, .long aa, .long bb, .long dd, .int (nI ro), .ref m_rootWhich, .int db, .ref m_signs, .ref m_atNought, .int (nI mn), .ref m_change, .ref m_table, .ref m_carried])), (m_now, .inl (cy 0, 29, .inl nw)), (m_slots, .inl (cy 0, 48, .inl zslots_16)), (m_slotKind, .inl (cy 0, 4, .inl sk)), (m_hasSlot, .inl (cy 2, 4, .inl hs))] H → va_D A [(ta, .inr (8, [.ref m_now, .ref m_undone, .ref m_slots, .ref m_slotKind, .ref m_hasSlot, .ref m_sheetBits, .ref m_sheetSize, .ref m_sheets, .int (nI u), .int fi, .ref m_fresh, .long aa, .long bb, .long dd, .int (nI ro), .ref m_rootWhich, .int db, .ref m_signs, .ref m_atNought, .int (nI mn), .ref m_change, .ref m_table, .ref m_carried])), (m_now, .inl (cy 0, 29, .inl nw)), (m_slots, .inl (cy 0, 48, .inl zslots_16)), (m_slotKind, .inl (cy 0, 4, .inl sk)), (m_hasSlot, .inl (cy 2, 4, .inl hs))] → va_S A s.heap H locs → lv_has ls 3 [(0, .ref ta), (1, .int (nI px.toNatClampNeg)), (2, .int (nI ki))] → W p l e R s m args below meth c H locs 0 0 Q (F0 m 16 ls []) := by
      clear hP hD hS hl
      intro M9
      induction M9 with
      | zero => intro n16 ki _ _ _ _ hn; exact absurd hn (Nat.not_lt_zero _)
      | succ M9 ih16 =>
        intro n16 ki zslots_16 H locs ls hn16 hk16 hV16 hP hD hS hl
        refine lv_iload_n hx hb dX8_keep_16 rfl (lv_at hl 2 rfl) ?_
        refine lv_bipush (v := 12) hx hb dX8_keep_17 (by decide) ?_
        refine lv_icmp_ge (tgt := 45) hx hb dX8_keep_19 (by decide) (fun hc4 => ?_) (fun hc4 => ?_)
        · replace hV16 := hV16.trans (if_pos hc4)
          have hV16 : (l_X8_keep_16 nw sl sk hs fi px (12 + 1) 0 sl) = zslots_16 := hV16
          have J5 := J5
          rw [hV16] at J5
          exact J5 _ _ _ hP hD hS (lv_sub hl [0, 1] rfl)
        · replace hV16 := hV16.trans (if_neg hc4)
          have hlt16 : ki < 12 := yk_lt hk16 (by omega) hc4
          refine lv_aload_n hx hb dX8_keep_22 rfl (lv_at hl 0 rfl) ?_
          refine va_get (D := D) (ci := 8) (v := .ref m_slots) (C := RX8) (T := TX8) (N := 23) hx hb hts uX8_keep_X8 hown hK hP 0 rfl rfl 2 (by decide) (hts _ kX8_keep_0) (fun _ h9 => h9) rfl dX8_keep_23 ?_
          refine lv_bipush (v := 12) hx hb dX8_keep_26 (by decide) ?_
          refine lv_iload_n hx hb dX8_keep_28 rfl (lv_at hl 1 rfl) ?_
          refine lv_imul hx hb dX8_keep_29 ?_
          refine yk_ti (y := nI (12 * px.toNatClampNeg)) (pk_mul 12 px.toNatClampNeg) ?_
          refine lv_iload_n hx hb dX8_keep_30 rfl (lv_at hl 2 rfl) ?_
          refine lv_iadd hx hb dX8_keep_31 ?_
          refine yk_ti (y := nI ((12 * px.toNatClampNeg) + ki)) (nI_add (12 * px.toNatClampNeg) ki) ?_
          refine lv_aload_n hx hb dX8_keep_32 rfl (lv_at hl 0 rfl) ?_
          refine va_get (D := D) (ci := 8) (v := .ref m_now) (C := RX8) (T := TX8) (N := 23) hx hb hts uX8_keep_X8 hown hK hP 0 rfl rfl 0 (by decide) (hts _ kX8_keep_1) (fun _ h9 => h9) rfl dX8_keep_33 ?_
          refine lv_iload_n hx hb dX8_keep_36 rfl (lv_at hl 2 rfl) ?_
          refine yk_ild hx hb hK hP 1 0 rfl rfl ki (by omega) (by decide) dX8_keep_37 ?_
          refine yk_ist hx hb hK hP hD hS 2 0 rfl rfl ((12 * px.toNatClampNeg) + ki) (by omega) (by decide) dX8_keep_38 (fun H locs hP9 hD9 hS9 => ?_)
          replace hP : va_P D vwCl [(ta, .inr (8, [.ref m_now, .ref m_undone, .ref m_slots, .ref m_slotKind, .ref m_hasSlot, .ref m_sheetBits, .ref m_sheetSize, .ref m_sheets, .int (nI u), .int fi, .ref m_fresh, .long aa, .long bb, .long dd, .int (nI ro), .ref m_rootWhich, .int db, .ref m_signs, .ref m_atNought, .int (nI mn), .ref m_change, .ref m_table, .ref m_carried])), (m_now, .inl (cy 0, 29, .inl nw)), (m_slots, .inl (cy 0, 48, .inl (upd zslots_16 ((12 * px.toNatClampNeg) + ki) (nw ki)))), (m_slotKind, .inl (cy 0, 4, .inl sk)), (m_hasSlot, .inl (cy 2, 4, .inl hs))] H := hP9
          replace hD : va_D A [(ta, .inr (8, [.ref m_now, .ref m_undone, .ref m_slots, .ref m_slotKind, .ref m_hasSlot, .ref m_sheetBits, .ref m_sheetSize, .ref m_sheets, .int (nI u), .int fi, .ref m_fresh, .long aa, .long bb, .long dd, .int (nI ro), .ref m_rootWhich, .int db, .ref m_signs, .ref m_atNought, .int (nI mn), .ref m_change, .ref m_table, .ref m_carried])), (m_now, .inl (cy 0, 29, .inl nw)), (m_slots, .inl (cy 0, 48, .inl (upd zslots_16 ((12 * px.toNatClampNeg) + ki) (nw ki)))), (m_slotKind, .inl (cy 0, 4, .inl sk)), (m_hasSlot, .inl (cy 2, 4, .inl hs))] := hD9
          replace hS := hS9
          clear hP9 hD9 hS9
          refine lv_iinc (v := nI (ki + 1)) (lv' := [(2, .int (nI (ki + 1))), (0, .ref ta), (1, .int (nI px.toNatClampNeg))]) hx hb dX8_keep_39 hl (k := 2) rfl (yk_inc ki) (by decide) rfl (fun ls hl9 => ?_)
          replace hl := hl9
          clear hl9
          refine lv_goto (tgt := 16) hx hb dX8_keep_42 (by decide) ?_
          obtain ⟨n9, rfl⟩ : ∃ n9, n16 = n9 + 1 := ⟨n16 - 1, by omega⟩
          exact ih16 n9 (ki + 1) (upd zslots_16 ((12 * px.toNatClampNeg) + ki) (nw ki)) _ _ _ (by omega) (by omega)  hV16 hP hD hS (lv_sub hl [1, 2, 0] rfl)
    exact L16 (12 + 1) 12 0 sl _ _ _ (Nat.lt_succ_self _) (by omega)  rfl hP hD hS (lv_sub hl [1, 2, 0] rfl)
  · replace hF := hF.trans (if_pos hc1)
    refine lv_aload_n hx hb dX8_keep_7 rfl (lv_at hl 0 rfl) ?_
    refine lv_ldc (v := (-1000001)) hx hb hown (hts _ kX8_keep_4) dX8_keep_8 ?_
    refine yk_i [0] (va_runV (As := [.int (-1000001)]) (rest := []) ⟨hx, hb, hml, hown, hts⟩ (c_X8_found l D cy ta m_now m_undone m_slots m_slotKind m_hasSlot m_sheetBits m_sheetSize m_sheets m_fresh m_rootWhich m_signs m_atNought m_change m_table m_carried u fi aa bb dd ro db mn (-1000001) H.size) (cwV 1 hts gX8_keep_X8_found rfl rfl rfl hv_X8_found (yk_room hRf hRl rfl rfl)) (yk_pv (q := (RX8, TX8, 23)) hG hA hS hK hP hD [0] (by decide +kernel) rfl rfl rfl) rfl rfl hl.1 rfl (lv_room (Nat.le_of_ble_eq_true rfl)) dX8_keep_10 ⟨Nat.zero_le _, Nat.zero_le _⟩) hP hD hS hA rfl rfl (fun H locs hP9 hD9 hS9 => ?_)
    replace hP : va_P D vwCl [(ta, .inr (8, [.ref m_now, .ref m_undone, .ref m_slots, .ref m_slotKind, .ref m_hasSlot, .ref m_sheetBits, .ref m_sheetSize, .ref m_sheets, .int (nI u), .int ((f_X8_found fi (-1000001)).2), .ref m_fresh, .long aa, .long bb, .long dd, .int (nI ro), .ref m_rootWhich, .int db, .ref m_signs, .ref m_atNought, .int (nI mn), .ref m_change, .ref m_table, .ref m_carried])), (m_now, .inl (cy 0, 29, .inl nw)), (m_slots, .inl (cy 0, 48, .inl sl)), (m_slotKind, .inl (cy 0, 4, .inl sk)), (m_hasSlot, .inl (cy 2, 4, .inl hs))] H := hP9
    replace hD : va_D A [(ta, .inr (8, [.ref m_now, .ref m_undone, .ref m_slots, .ref m_slotKind, .ref m_hasSlot, .ref m_sheetBits, .ref m_sheetSize, .ref m_sheets, .int (nI u), .int ((f_X8_found fi (-1000001)).2), .ref m_fresh, .long aa, .long bb, .long dd, .int (nI ro), .ref m_rootWhich, .int db, .ref m_signs, .ref m_atNought, .int (nI mn), .ref m_change, .ref m_table, .ref m_carried])), (m_now, .inl (cy 0, 29, .inl nw)), (m_slots, .inl (cy 0, 48, .inl sl)), (m_slotKind, .inl (cy 0, 4, .inl sk)), (m_hasSlot, .inl (cy 2, 4, .inl hs))] := hD9
    replace hS := hS9
    clear hP9 hD9 hS9
    have hF : f_X8_keep nw sl sk hs fi px = (((f_X8_found fi (-1000001)).1), ((f_X8_found fi (-1000001)).2), sl, sk, hs) := hF
    have hf0 := yk_fst hF
    have hg0 := yk_snd hF
    have hf1 := yk_fst hg0
    have hg1 := yk_snd hg0
    have hf2 := yk_fst hg1
    have hg2 := yk_snd hg1
    have hf3 := yk_fst hg2
    have hg3 := yk_snd hg2
    rw [hf0, hf1, hf2, hf3, hg3] at hQ
    exact hQ _ _ _ _ dX8_keep_13 hP hS

theorem kX8_bring_0 : Cond.fieldLink RX8 22 "FlowPlaneModel" "hasSlot" "[Z" ∈ wsX8_bring := by decide +kernel
theorem kX8_bring_1 : Cond.fieldLink RX8 7 "FlowPlaneModel" "now" "[I" ∈ wsX8_bring := by decide +kernel
theorem kX8_bring_2 : Cond.fieldLink RX8 16 "FlowPlaneModel" "slots" "[I" ∈ wsX8_bring := by decide +kernel
theorem kX8_bring_3 : Cond.fieldLink RX8 19 "FlowPlaneModel" "slotKind" "[I" ∈ wsX8_bring := by decide +kernel
theorem kX8_bring_4 : Cond.constant RX8 100 (-1000006) ∈ wsX8_bring := by decide +kernel
theorem kX8_bring_5 : Cond.constant RX8 68 (-1000001) ∈ wsX8_bring := by decide +kernel
theorem uX8_bring_X8 : ∀ w ∈ u_ws RX8 TX8 23, w ∈ wsX8_bring := by decide +kernel
def l_X8_bring_36 (nw : Nat → Int32) (un : Nat → Int32) (sl : Nat → Int32) (sk : Nat → Int32) (hs : Nat → Int32) (u : Nat) (fi : Int32) (px : Int32) : Nat → Nat → (Nat → Int32) → (Nat → Int32)
  | 0, ki, znow_36 => znow_36
  | fu_X8_bring_36 + 1, ki, znow_36 => (if 12 ≤ (nI ki) then znow_36 else (l_X8_bring_36 nw un sl sk hs u fi px fu_X8_bring_36 (ki + 1) (upd znow_36 ki (sl ((12 * px.toNatClampNeg) + ki)))))
def f_X8_bring (nw : Nat → Int32) (un : Nat → Int32) (sl : Nat → Int32) (sk : Nat → Int32) (hs : Nat → Int32) (u : Nat) (fi : Int32) (px : Int32) : Int32 × Nat × Int32 × (Nat → Int32) × (Nat → Int32) := (if (f_X8_isSlot px) = 0 then (((f_X8_found fi (-1000001)).1), u, ((f_X8_found fi (-1000001)).2), nw, un) else (if (hs px.toNatClampNeg) = 0 then (((f_X8_found fi (-1000006)).1), u, ((f_X8_found fi (-1000006)).2), nw, un) else ((sk px.toNatClampNeg), ((f_X8_remember nw un u).1), fi, (l_X8_bring_36 nw un sl sk hs u fi px (12 + 1) 0 nw), ((f_X8_remember nw un u).2))))
set_option maxHeartbeats 400000000 in
set_option maxRecDepth 100000 in
theorem c_X8_bring (l : Launch) (D : va_G) (cy : Nat → ClassId) (ta : Nat) (m_now : Nat) (m_undone : Nat) (m_slots : Nat) (m_slotKind : Nat) (m_hasSlot : Nat) (m_sheetBits : Nat) (m_sheetSize : Nat) (m_sheets : Nat) (m_fresh : Nat) (m_rootWhich : Nat) (m_signs : Nat) (m_atNought : Nat) (m_change : Nat) (m_table : Nat) (m_carried : Nat) (nw : Nat → Int32) (un : Nat → Int32) (sl : Nat → Int32) (sk : Nat → Int32) (hs : Nat → Int32) (u : Nat) (fi : Int32) (aa : Int64) (bb : Int64) (dd : Int64) (ro : Nat) (db : Int32) (mn : Nat) (px : Int32) (hu : u ≤ 25) : yk_Ci l D vwCl (yk_ty cy) yX8_bring wsX8_bring 2 42 [.ref ta, .int px] [(ta, .inr (8, [.ref m_now, .ref m_undone, .ref m_slots, .ref m_slotKind, .ref m_hasSlot, .ref m_sheetBits, .ref m_sheetSize, .ref m_sheets, .int (nI u), .int fi, .ref m_fresh, .long aa, .long bb, .long dd, .int (nI ro), .ref m_rootWhich, .int db, .ref m_signs, .ref m_atNought, .int (nI mn), .ref m_change, .ref m_table, .ref m_carried])), (m_now, .inl (cy 0, 29, .inl nw)), (m_undone, .inl (cy 0, 725, .inl un)), (m_slots, .inl (cy 0, 48, .inl sl)), (m_slotKind, .inl (cy 0, 4, .inl sk)), (m_hasSlot, .inl (cy 2, 4, .inl hs))] ((f_X8_bring nw un sl sk hs u fi px).1) [(ta, .inr (8, [.ref m_now, .ref m_undone, .ref m_slots, .ref m_slotKind, .ref m_hasSlot, .ref m_sheetBits, .ref m_sheetSize, .ref m_sheets, .int (nI ((f_X8_bring nw un sl sk hs u fi px).2.1)), .int ((f_X8_bring nw un sl sk hs u fi px).2.2.1), .ref m_fresh, .long aa, .long bb, .long dd, .int (nI ro), .ref m_rootWhich, .int db, .ref m_signs, .ref m_atNought, .int (nI mn), .ref m_change, .ref m_table, .ref m_carried])), (m_now, .inl (cy 0, 29, .inl ((f_X8_bring nw un sl sk hs u fi px).2.2.2.1))), (m_undone, .inl (cy 0, 725, .inl ((f_X8_bring nw un sl sk hs u fi px).2.2.2.2))), (m_slots, .inl (cy 0, 48, .inl sl)), (m_slotKind, .inl (cy 0, 4, .inl sk)), (m_hasSlot, .inl (cy 2, 4, .inl hs))] := by
  refine yk_eI (cc := cX8_bring) (maxL := 3) (by decide) rfl (Nat.le_of_ble_eq_true rfl) rfl ?_
  intro p e R s m args below meth c A Q ls H locs hx hb hml hown hts hRf hRl hA hK hG hP hD hS hl hQ
  have hP : va_P D vwCl [(ta, .inr (8, [.ref m_now, .ref m_undone, .ref m_slots, .ref m_slotKind, .ref m_hasSlot, .ref m_sheetBits, .ref m_sheetSize, .ref m_sheets, .int (nI u), .int fi, .ref m_fresh, .long aa, .long bb, .long dd, .int (nI ro), .ref m_rootWhich, .int db, .ref m_signs, .ref m_atNought, .int (nI mn), .ref m_change, .ref m_table, .ref m_carried])), (m_now, .inl (cy 0, 29, .inl nw)), (m_undone, .inl (cy 0, 725, .inl un)), (m_slots, .inl (cy 0, 48, .inl sl)), (m_slotKind, .inl (cy 0, 4, .inl sk)), (m_hasSlot, .inl (cy 2, 4, .inl hs))] H := hP
  have hl : lv_has ls 3 [(0, .ref ta), (1, .int px)] := hl
  have hown : s.vm.findClass RX8 = some m.cls := hown
  have hF : (f_X8_bring nw un sl sk hs u fi px) = (f_X8_bring nw un sl sk hs u fi px) := rfl
  refine lv_iload_n hx hb dX8_bring_0 rfl (lv_at hl 1 rfl) ?_
  refine yk_i [] (va_runS (As := [.int px]) (rest := []) ⟨hx, hb, hml, hown, hts⟩ (c_X8_isSlot l D cy px H.size) (va_cwS 1 hts gX8_bring_X8_isSlot rfl rfl rfl hs_X8_isSlot (yk_room hRf hRl rfl rfl)) (yk_ps hG hA hS hK hP hD [] (by decide +kernel) rfl) rfl rfl hl.1 rfl (lv_room (Nat.le_of_ble_eq_true rfl)) dX8_bring_1 ⟨Nat.zero_le _, Nat.zero_le _⟩) hP hD hS hA rfl rfl (fun H locs hP9 hD9 hS9 => ?_)
  replace hP : va_P D vwCl [(ta, .inr (8, [.ref m_now, .ref m_undone, .ref m_slots, .ref m_slotKind, .ref m_hasSlot, .ref m_sheetBits, .ref m_sheetSize, .ref m_sheets, .int (nI u), .int fi, .ref m_fresh, .long aa, .long bb, .long dd, .int (nI ro), .ref m_rootWhich, .int db, .ref m_signs, .ref m_atNought, .int (nI mn), .ref m_change, .ref m_table, .ref m_carried])), (m_now, .inl (cy 0, 29, .inl nw)), (m_undone, .inl (cy 0, 725, .inl un)), (m_slots, .inl (cy 0, 48, .inl sl)), (m_slotKind, .inl (cy 0, 4, .inl sk)), (m_hasSlot, .inl (cy 2, 4, .inl hs))] H := hP9
  replace hD : va_D A [(ta, .inr (8, [.ref m_now, .ref m_undone, .ref m_slots, .ref m_slotKind, .ref m_hasSlot, .ref m_sheetBits, .ref m_sheetSize, .ref m_sheets, .int (nI u), .int fi, .ref m_fresh, .long aa, .long bb, .long dd, .int (nI ro), .ref m_rootWhich, .int db, .ref m_signs, .ref m_atNought, .int (nI mn), .ref m_change, .ref m_table, .ref m_carried])), (m_now, .inl (cy 0, 29, .inl nw)), (m_undone, .inl (cy 0, 725, .inl un)), (m_slots, .inl (cy 0, 48, .inl sl)), (m_slotKind, .inl (cy 0, 4, .inl sk)), (m_hasSlot, .inl (cy 2, 4, .inl hs))] := hD9
  replace hS := hS9
  clear hP9 hD9 hS9
  refine lv_if_ne (tgt := 14) hx hb dX8_bring_4 (by decide) (fun hc1 => ?_) (fun hc1 => ?_)
  · replace hF := hF.trans (if_neg hc1)
    have hq2 : px = nI px.toNatClampNeg := (ix_sl (by assumption)).1
    have hq2b : px.toNatClampNeg < 4 := (ix_sl (by assumption)).2
    rw [hq2] at hl
    refine lv_aload_n hx hb dX8_bring_14 rfl (lv_at hl 0 rfl) ?_
    refine va_get (D := D) (ci := 8) (v := .ref m_hasSlot) (C := RX8) (T := TX8) (N := 23) hx hb hts uX8_bring_X8 hown hK hP 0 rfl rfl 4 (by decide) (hts _ kX8_bring_0) (fun _ h9 => h9) rfl dX8_bring_15 ?_
    refine lv_iload_n hx hb dX8_bring_18 rfl (lv_at hl 1 rfl) ?_
    refine yk_zld hx hb hK hP 5 2 rfl rfl px.toNatClampNeg (by omega) (by decide) dX8_bring_19 ?_
    refine lv_if_ne (tgt := 30) hx hb dX8_bring_20 (by decide) (fun hc3 => ?_) (fun hc3 => ?_)
    · replace hF := hF.trans (if_neg hc3)
      refine lv_aload_n hx hb dX8_bring_30 rfl (lv_at hl 0 rfl) ?_
      refine yk_v [0, 1, 2] (va_runV (As := []) (rest := []) ⟨hx, hb, hml, hown, hts⟩ (c_X8_remember l D cy ta m_now m_undone m_slots m_slotKind m_hasSlot m_sheetBits m_sheetSize m_sheets m_fresh m_rootWhich m_signs m_atNought m_change m_table m_carried nw un u fi aa bb dd ro db mn (by first | assumption | omega) H.size) (cwV 0 hts gX8_bring_X8_remember rfl rfl rfl hv_X8_remember (yk_room hRf hRl rfl rfl)) (yk_pv (q := (RX8, TX8, 23)) hG hA hS hK hP hD [0, 1, 2] (by decide +kernel) rfl rfl rfl) rfl rfl hl.1 rfl (lv_room (Nat.le_of_ble_eq_true rfl)) dX8_bring_31 ⟨Nat.zero_le _, Nat.zero_le _⟩) hP hD hS hA rfl rfl (fun H locs hP9 hD9 hS9 => ?_)
      replace hP : va_P D vwCl [(ta, .inr (8, [.ref m_now, .ref m_undone, .ref m_slots, .ref m_slotKind, .ref m_hasSlot, .ref m_sheetBits, .ref m_sheetSize, .ref m_sheets, .int (nI ((f_X8_remember nw un u).1)), .int fi, .ref m_fresh, .long aa, .long bb, .long dd, .int (nI ro), .ref m_rootWhich, .int db, .ref m_signs, .ref m_atNought, .int (nI mn), .ref m_change, .ref m_table, .ref m_carried])), (m_now, .inl (cy 0, 29, .inl nw)), (m_undone, .inl (cy 0, 725, .inl ((f_X8_remember nw un u).2))), (m_slots, .inl (cy 0, 48, .inl sl)), (m_slotKind, .inl (cy 0, 4, .inl sk)), (m_hasSlot, .inl (cy 2, 4, .inl hs))] H := hP9
      replace hD : va_D A [(ta, .inr (8, [.ref m_now, .ref m_undone, .ref m_slots, .ref m_slotKind, .ref m_hasSlot, .ref m_sheetBits, .ref m_sheetSize, .ref m_sheets, .int (nI ((f_X8_remember nw un u).1)), .int fi, .ref m_fresh, .long aa, .long bb, .long dd, .int (nI ro), .ref m_rootWhich, .int db, .ref m_signs, .ref m_atNought, .int (nI mn), .ref m_change, .ref m_table, .ref m_carried])), (m_now, .inl (cy 0, 29, .inl nw)), (m_undone, .inl (cy 0, 725, .inl ((f_X8_remember nw un u).2))), (m_slots, .inl (cy 0, 48, .inl sl)), (m_slotKind, .inl (cy 0, 4, .inl sk)), (m_hasSlot, .inl (cy 2, 4, .inl hs))] := hD9
      replace hS := hS9
      clear hP9 hD9 hS9
      refine lv_iconst (v := 0) hx hb dX8_bring_34 (by decide) ?_
      refine lv_istore_n (lv' := [(2, .int 0), (0, .ref ta), (1, .int (nI px.toNatClampNeg))]) hx hb dX8_bring_35 rfl hl (by decide) rfl (fun ls hl9 => ?_)
      replace hl := hl9
      clear hl9
      have J6 : ∀ (H : Heap) (locs : List Loc) (ls : Array Slot), va_P D vwCl [(ta, .inr (8, [.ref m_now, .ref m_undone, .ref m_slots, .ref m_slotKind, .ref m_hasSlot, .ref m_sheetBits, .ref m_sheetSize, .ref m_sheets, .int (nI ((f_X8_remember nw un u).1)), .int fi, .ref m_fresh, .long aa, .long bb, .long dd, .int (nI ro), .ref m_rootWhich, .int db, .ref m_signs, .ref m_atNought, .int (nI mn), .ref m_change, .ref m_table, .ref m_carried])), (m_now, .inl (cy 0, 29, .inl (l_X8_bring_36 nw un sl sk hs u fi px (12 + 1) 0 nw))), (m_undone, .inl (cy 0, 725, .inl ((f_X8_remember nw un u).2))), (m_slots, .inl (cy 0, 48, .inl sl)), (m_slotKind, .inl (cy 0, 4, .inl sk)), (m_hasSlot, .inl (cy 2, 4, .inl hs))] H → va_D A [(ta, .inr (8, [.ref m_now, .ref m_undone, .ref m_slots, .ref m_slotKind, .ref m_hasSlot, .ref m_sheetBits, .ref m_sheetSize, .ref m_sheets, .int (nI ((f_X8_remember nw un u).1)), .int fi, .ref m_fresh, .long aa, .long bb, .long dd, .int (nI ro), .ref m_rootWhich, .int db, .ref m_signs, .ref m_atNought, .int (nI mn), .ref m_change, .ref m_table, .ref m_carried])), (m_now, .inl (cy 0, 29, .inl (l_X8_bring_36 nw un sl sk hs u fi px (12 + 1) 0 nw))), (m_undone, .inl (cy 0, 725, .inl ((f_X8_remember nw un u).2))), (m_slots, .inl (cy 0, 48, .inl sl)), (m_slotKind, .inl (cy 0, 4, .inl sk)), (m_hasSlot, .inl (cy 2, 4, .inl hs))] → va_S A s.heap H locs → lv_has ls 3 [(0, .ref ta), (1, .int (nI px.toNatClampNeg))] → W p l e R s m args below meth c H locs 0 0 Q (F0 m 65 ls []) := by
        clear hP hD hS hl
        intro H locs ls hP hD hS hl
        refine lv_aload_n hx hb dX8_bring_65 rfl (lv_at hl 0 rfl) ?_
        refine va_get (D := D) (ci := 8) (v := .ref m_slotKind) (C := RX8) (T := TX8) (N := 23) hx hb hts uX8_bring_X8 hown hK hP 0 rfl rfl 3 (by decide) (hts _ kX8_bring_3) (fun _ h9 => h9) rfl dX8_bring_66 ?_
        refine lv_iload_n hx hb dX8_bring_69 rfl (lv_at hl 1 rfl) ?_
        refine yk_ild hx hb hK hP 4 0 rfl rfl px.toNatClampNeg (by omega) (by decide) dX8_bring_70 ?_
        have hF : f_X8_bring nw un sl sk hs u fi px = ((sk px.toNatClampNeg), ((f_X8_remember nw un u).1), fi, (l_X8_bring_36 nw un sl sk hs u fi px (12 + 1) 0 nw), ((f_X8_remember nw un u).2)) := hF
        have hf0 := yk_fst hF
        have hg0 := yk_snd hF
        have hf1 := yk_fst hg0
        have hg1 := yk_snd hg0
        have hf2 := yk_fst hg1
        have hg2 := yk_snd hg1
        have hf3 := yk_fst hg2
        have hg3 := yk_snd hg2
        rw [hf0, hf1, hf2, hf3, hg3] at hQ
        exact hQ _ _ _ _ dX8_bring_71 hP hS
      have L36 : ∀ (M9 n36 ki : Nat) (znow_36 : Nat → Int32) (H : Heap) (locs : List Loc) (ls : Array Slot), n36 < M9 → ki + n36 = 12 → (l_X8_bring_36 nw un sl sk hs u fi px (12 + 1) 0 nw) = (l_X8_bring_36 nw un sl sk hs u fi px (n36 + 1) ki znow_36) → va_P D vwCl [(ta, .inr (8, [.ref m_now, .ref m_undone, .ref m_slots, .ref m_slotKind, .ref m_hasSlot, .ref m_sheetBits, .ref m_sheetSize, .ref m_sheets, .int (nI ((f_X8_remember nw un u).1)), .int fi, .ref m_fresh, .long aa, .long bb, .long dd, .int (nI ro), .ref m_rootWhich, .int db, .ref m_signs, .ref m_atNought, .int (nI mn), .ref m_change, .ref m_table, .ref m_carried])), (m_now, .inl (cy 0, 29, .inl znow_36)), (m_undone, .inl (cy 0, 725, .inl ((f_X8_remember nw un u).2))), (m_slots, .inl (cy 0, 48, .inl sl)), (m_slotKind, .inl (cy 0, 4, .inl sk)), (m_hasSlot, .inl (cy 2, 4, .inl hs))] H → va_D A [(ta, .inr (8, [.ref m_now, .ref m_undone, .ref m_slots, .ref m_slotKind, .ref m_hasSlot, .ref m_sheetBits, .ref m_sheetSize, .ref m_sheets, .int (nI ((f_X8_remember nw un u).1)), .int fi, .ref m_fresh, .long aa, .long bb, .long dd, .int (nI ro), .ref m_rootWhich, .int db, .ref m_signs, .ref m_atNought, .int (nI mn), .ref m_change, .ref m_table, .ref m_carried])), (m_now, .inl (cy 0, 29, .inl znow_36)), (m_undone, .inl (cy 0, 725, .inl ((f_X8_remember nw un u).2))), (m_slots, .inl (cy 0, 48, .inl sl)), (m_slotKind, .inl (cy 0, 4, .inl sk)), (m_hasSlot, .inl (cy 2, 4, .inl hs))] → va_S A s.heap H locs → lv_has ls 3 [(0, .ref ta), (1, .int (nI px.toNatClampNeg)), (2, .int (nI ki))] → W p l e R s m args below meth c H locs 0 0 Q (F0 m 36 ls []) := by
        clear hP hD hS hl
        intro M9
        induction M9 with
        | zero => intro n36 ki _ _ _ _ hn; exact absurd hn (Nat.not_lt_zero _)
        | succ M9 ih36 =>
          intro n36 ki znow_36 H locs ls hn36 hk36 hV36 hP hD hS hl
          refine lv_iload_n hx hb dX8_bring_36 rfl (lv_at hl 2 rfl) ?_
          refine lv_bipush (v := 12) hx hb dX8_bring_37 (by decide) ?_
          refine lv_icmp_ge (tgt := 65) hx hb dX8_bring_39 (by decide) (fun hc5 => ?_) (fun hc5 => ?_)
          · replace hV36 := hV36.trans (if_pos hc5)
            have hV36 : (l_X8_bring_36 nw un sl sk hs u fi px (12 + 1) 0 nw) = znow_36 := hV36
            have J6 := J6
            rw [hV36] at J6
            exact J6 _ _ _ hP hD hS (lv_sub hl [0, 1] rfl)
          · replace hV36 := hV36.trans (if_neg hc5)
            have hlt36 : ki < 12 := yk_lt hk36 (by omega) hc5
            refine lv_aload_n hx hb dX8_bring_42 rfl (lv_at hl 0 rfl) ?_
            refine va_get (D := D) (ci := 8) (v := .ref m_now) (C := RX8) (T := TX8) (N := 23) hx hb hts uX8_bring_X8 hown hK hP 0 rfl rfl 0 (by decide) (hts _ kX8_bring_1) (fun _ h9 => h9) rfl dX8_bring_43 ?_
            refine lv_iload_n hx hb dX8_bring_46 rfl (lv_at hl 2 rfl) ?_
            refine lv_aload_n hx hb dX8_bring_47 rfl (lv_at hl 0 rfl) ?_
            refine va_get (D := D) (ci := 8) (v := .ref m_slots) (C := RX8) (T := TX8) (N := 23) hx hb hts uX8_bring_X8 hown hK hP 0 rfl rfl 2 (by decide) (hts _ kX8_bring_2) (fun _ h9 => h9) rfl dX8_bring_48 ?_
            refine lv_bipush (v := 12) hx hb dX8_bring_51 (by decide) ?_
            refine lv_iload_n hx hb dX8_bring_53 rfl (lv_at hl 1 rfl) ?_
            refine lv_imul hx hb dX8_bring_54 ?_
            refine yk_ti (y := nI (12 * px.toNatClampNeg)) (pk_mul 12 px.toNatClampNeg) ?_
            refine lv_iload_n hx hb dX8_bring_55 rfl (lv_at hl 2 rfl) ?_
            refine lv_iadd hx hb dX8_bring_56 ?_
            refine yk_ti (y := nI ((12 * px.toNatClampNeg) + ki)) (nI_add (12 * px.toNatClampNeg) ki) ?_
            refine yk_ild hx hb hK hP 3 0 rfl rfl ((12 * px.toNatClampNeg) + ki) (by omega) (by decide) dX8_bring_57 ?_
            refine yk_ist hx hb hK hP hD hS 1 0 rfl rfl ki (by omega) (by decide) dX8_bring_58 (fun H locs hP9 hD9 hS9 => ?_)
            replace hP : va_P D vwCl [(ta, .inr (8, [.ref m_now, .ref m_undone, .ref m_slots, .ref m_slotKind, .ref m_hasSlot, .ref m_sheetBits, .ref m_sheetSize, .ref m_sheets, .int (nI ((f_X8_remember nw un u).1)), .int fi, .ref m_fresh, .long aa, .long bb, .long dd, .int (nI ro), .ref m_rootWhich, .int db, .ref m_signs, .ref m_atNought, .int (nI mn), .ref m_change, .ref m_table, .ref m_carried])), (m_now, .inl (cy 0, 29, .inl (upd znow_36 ki (sl ((12 * px.toNatClampNeg) + ki))))), (m_undone, .inl (cy 0, 725, .inl ((f_X8_remember nw un u).2))), (m_slots, .inl (cy 0, 48, .inl sl)), (m_slotKind, .inl (cy 0, 4, .inl sk)), (m_hasSlot, .inl (cy 2, 4, .inl hs))] H := hP9
            replace hD : va_D A [(ta, .inr (8, [.ref m_now, .ref m_undone, .ref m_slots, .ref m_slotKind, .ref m_hasSlot, .ref m_sheetBits, .ref m_sheetSize, .ref m_sheets, .int (nI ((f_X8_remember nw un u).1)), .int fi, .ref m_fresh, .long aa, .long bb, .long dd, .int (nI ro), .ref m_rootWhich, .int db, .ref m_signs, .ref m_atNought, .int (nI mn), .ref m_change, .ref m_table, .ref m_carried])), (m_now, .inl (cy 0, 29, .inl (upd znow_36 ki (sl ((12 * px.toNatClampNeg) + ki))))), (m_undone, .inl (cy 0, 725, .inl ((f_X8_remember nw un u).2))), (m_slots, .inl (cy 0, 48, .inl sl)), (m_slotKind, .inl (cy 0, 4, .inl sk)), (m_hasSlot, .inl (cy 2, 4, .inl hs))] := hD9
            replace hS := hS9
            clear hP9 hD9 hS9
            refine lv_iinc (v := nI (ki + 1)) (lv' := [(2, .int (nI (ki + 1))), (0, .ref ta), (1, .int (nI px.toNatClampNeg))]) hx hb dX8_bring_59 hl (k := 2) rfl (yk_inc ki) (by decide) rfl (fun ls hl9 => ?_)
            replace hl := hl9
            clear hl9
            refine lv_goto (tgt := 36) hx hb dX8_bring_62 (by decide) ?_
            obtain ⟨n9, rfl⟩ : ∃ n9, n36 = n9 + 1 := ⟨n36 - 1, by omega⟩
            exact ih36 n9 (ki + 1) (upd znow_36 ki (sl ((12 * px.toNatClampNeg) + ki))) _ _ _ (by omega) (by omega)  hV36 hP hD hS (lv_sub hl [1, 2, 0] rfl)
      exact L36 (12 + 1) 12 0 nw _ _ _ (Nat.lt_succ_self _) (by omega)  rfl hP hD hS (lv_sub hl [1, 2, 0] rfl)
    · replace hF := hF.trans (if_pos hc3)
      refine lv_aload_n hx hb dX8_bring_23 rfl (lv_at hl 0 rfl) ?_
      refine lv_ldc (v := (-1000006)) hx hb hown (hts _ kX8_bring_4) dX8_bring_24 ?_
      refine yk_i [0] (va_runV (As := [.int (-1000006)]) (rest := []) ⟨hx, hb, hml, hown, hts⟩ (c_X8_found l D cy ta m_now m_undone m_slots m_slotKind m_hasSlot m_sheetBits m_sheetSize m_sheets m_fresh m_rootWhich m_signs m_atNought m_change m_table m_carried u fi aa bb dd ro db mn (-1000006) H.size) (cwV 1 hts gX8_bring_X8_found rfl rfl rfl hv_X8_found (yk_room hRf hRl rfl rfl)) (yk_pv (q := (RX8, TX8, 23)) hG hA hS hK hP hD [0] (by decide +kernel) rfl rfl rfl) rfl rfl hl.1 rfl (lv_room (Nat.le_of_ble_eq_true rfl)) dX8_bring_26 ⟨Nat.zero_le _, Nat.zero_le _⟩) hP hD hS hA rfl rfl (fun H locs hP9 hD9 hS9 => ?_)
      replace hP : va_P D vwCl [(ta, .inr (8, [.ref m_now, .ref m_undone, .ref m_slots, .ref m_slotKind, .ref m_hasSlot, .ref m_sheetBits, .ref m_sheetSize, .ref m_sheets, .int (nI u), .int ((f_X8_found fi (-1000006)).2), .ref m_fresh, .long aa, .long bb, .long dd, .int (nI ro), .ref m_rootWhich, .int db, .ref m_signs, .ref m_atNought, .int (nI mn), .ref m_change, .ref m_table, .ref m_carried])), (m_now, .inl (cy 0, 29, .inl nw)), (m_undone, .inl (cy 0, 725, .inl un)), (m_slots, .inl (cy 0, 48, .inl sl)), (m_slotKind, .inl (cy 0, 4, .inl sk)), (m_hasSlot, .inl (cy 2, 4, .inl hs))] H := hP9
      replace hD : va_D A [(ta, .inr (8, [.ref m_now, .ref m_undone, .ref m_slots, .ref m_slotKind, .ref m_hasSlot, .ref m_sheetBits, .ref m_sheetSize, .ref m_sheets, .int (nI u), .int ((f_X8_found fi (-1000006)).2), .ref m_fresh, .long aa, .long bb, .long dd, .int (nI ro), .ref m_rootWhich, .int db, .ref m_signs, .ref m_atNought, .int (nI mn), .ref m_change, .ref m_table, .ref m_carried])), (m_now, .inl (cy 0, 29, .inl nw)), (m_undone, .inl (cy 0, 725, .inl un)), (m_slots, .inl (cy 0, 48, .inl sl)), (m_slotKind, .inl (cy 0, 4, .inl sk)), (m_hasSlot, .inl (cy 2, 4, .inl hs))] := hD9
      replace hS := hS9
      clear hP9 hD9 hS9
      have hF : f_X8_bring nw un sl sk hs u fi px = (((f_X8_found fi (-1000006)).1), u, ((f_X8_found fi (-1000006)).2), nw, un) := hF
      have hf0 := yk_fst hF
      have hg0 := yk_snd hF
      have hf1 := yk_fst hg0
      have hg1 := yk_snd hg0
      have hf2 := yk_fst hg1
      have hg2 := yk_snd hg1
      have hf3 := yk_fst hg2
      have hg3 := yk_snd hg2
      rw [hf0, hf1, hf2, hf3, hg3] at hQ
      exact hQ _ _ _ _ dX8_bring_29 hP hS
  · replace hF := hF.trans (if_pos hc1)
    refine lv_aload_n hx hb dX8_bring_7 rfl (lv_at hl 0 rfl) ?_
    refine lv_ldc (v := (-1000001)) hx hb hown (hts _ kX8_bring_5) dX8_bring_8 ?_
    refine yk_i [0] (va_runV (As := [.int (-1000001)]) (rest := []) ⟨hx, hb, hml, hown, hts⟩ (c_X8_found l D cy ta m_now m_undone m_slots m_slotKind m_hasSlot m_sheetBits m_sheetSize m_sheets m_fresh m_rootWhich m_signs m_atNought m_change m_table m_carried u fi aa bb dd ro db mn (-1000001) H.size) (cwV 1 hts gX8_bring_X8_found rfl rfl rfl hv_X8_found (yk_room hRf hRl rfl rfl)) (yk_pv (q := (RX8, TX8, 23)) hG hA hS hK hP hD [0] (by decide +kernel) rfl rfl rfl) rfl rfl hl.1 rfl (lv_room (Nat.le_of_ble_eq_true rfl)) dX8_bring_10 ⟨Nat.zero_le _, Nat.zero_le _⟩) hP hD hS hA rfl rfl (fun H locs hP9 hD9 hS9 => ?_)
    replace hP : va_P D vwCl [(ta, .inr (8, [.ref m_now, .ref m_undone, .ref m_slots, .ref m_slotKind, .ref m_hasSlot, .ref m_sheetBits, .ref m_sheetSize, .ref m_sheets, .int (nI u), .int ((f_X8_found fi (-1000001)).2), .ref m_fresh, .long aa, .long bb, .long dd, .int (nI ro), .ref m_rootWhich, .int db, .ref m_signs, .ref m_atNought, .int (nI mn), .ref m_change, .ref m_table, .ref m_carried])), (m_now, .inl (cy 0, 29, .inl nw)), (m_undone, .inl (cy 0, 725, .inl un)), (m_slots, .inl (cy 0, 48, .inl sl)), (m_slotKind, .inl (cy 0, 4, .inl sk)), (m_hasSlot, .inl (cy 2, 4, .inl hs))] H := hP9
    replace hD : va_D A [(ta, .inr (8, [.ref m_now, .ref m_undone, .ref m_slots, .ref m_slotKind, .ref m_hasSlot, .ref m_sheetBits, .ref m_sheetSize, .ref m_sheets, .int (nI u), .int ((f_X8_found fi (-1000001)).2), .ref m_fresh, .long aa, .long bb, .long dd, .int (nI ro), .ref m_rootWhich, .int db, .ref m_signs, .ref m_atNought, .int (nI mn), .ref m_change, .ref m_table, .ref m_carried])), (m_now, .inl (cy 0, 29, .inl nw)), (m_undone, .inl (cy 0, 725, .inl un)), (m_slots, .inl (cy 0, 48, .inl sl)), (m_slotKind, .inl (cy 0, 4, .inl sk)), (m_hasSlot, .inl (cy 2, 4, .inl hs))] := hD9
    replace hS := hS9
    clear hP9 hD9 hS9
    have hF : f_X8_bring nw un sl sk hs u fi px = (((f_X8_found fi (-1000001)).1), u, ((f_X8_found fi (-1000001)).2), nw, un) := hF
    have hf0 := yk_fst hF
    have hg0 := yk_snd hF
    have hf1 := yk_fst hg0
    have hg1 := yk_snd hg0
    have hf2 := yk_fst hg1
    have hg2 := yk_snd hg1
    have hf3 := yk_fst hg2
    have hg3 := yk_snd hg2
    rw [hf0, hf1, hf2, hf3, hg3] at hQ
    exact hQ _ _ _ _ dX8_bring_13 hP hS

theorem kX8_as_0 : Cond.constant RX8 68 (-1000001) ∈ wsX8_as := by decide +kernel
theorem kX8_as_1 : Cond.fieldLink RX8 22 "FlowPlaneModel" "hasSlot" "[Z" ∈ wsX8_as := by decide +kernel
theorem kX8_as_2 : Cond.fieldLink RX8 19 "FlowPlaneModel" "slotKind" "[I" ∈ wsX8_as := by decide +kernel
theorem kX8_as_3 : Cond.constant RX8 138 (-1000004) ∈ wsX8_as := by decide +kernel
theorem kX8_as_4 : Cond.fieldLink RX8 16 "FlowPlaneModel" "slots" "[I" ∈ wsX8_as := by decide +kernel
theorem kX8_as_5 : Cond.constant RX8 100 (-1000006) ∈ wsX8_as := by decide +kernel
theorem uX8_as_X8 : ∀ w ∈ u_ws RX8 TX8 23, w ∈ wsX8_as := by decide +kernel
def l_X8_as_78 (sl : Nat → Int32) (sk : Nat → Int32) (hs : Nat → Int32) (fi : Int32) (px : Int32) (py : Int32) : Nat → Nat → Int32 → Int32
  | 0, ki, z4_78 => z4_78
  | fu_X8_as_78 + 1, ki, z4_78 => (if 12 ≤ (nI ki) then z4_78 else (l_X8_as_78 sl sk hs fi px py fu_X8_as_78 (ki + 1) (z4_78 + (if (sl ((12 * px.toNatClampNeg) + ki)) = 0 then 0 else 1))))
def fb_X8_as_b72 (sl : Nat → Int32) (sk : Nat → Int32) (hs : Nat → Int32) (fi : Int32) (px : Int32) (py : Int32) : Int32 × Int32 := ((l_X8_as_78 sl sk hs fi px py (12 + 1) 0 0), fi)
def f_X8_as (sl : Nat → Int32) (sk : Nat → Int32) (hs : Nat → Int32) (fi : Int32) (px : Int32) (py : Int32) : Int32 × Int32 := (if (f_X8_isSlot px) = 0 then (((f_X8_found fi (-1000001)).1), ((f_X8_found fi (-1000001)).2)) else (if (f_X8_in py 0 3) = 0 then (((f_X8_found fi (-1000001)).1), ((f_X8_found fi (-1000001)).2)) else (if (hs px.toNatClampNeg) = 0 then (((f_X8_found fi (-1000006)).1), ((f_X8_found fi (-1000006)).2)) else (if py = 0 then (fb_X8_as_b72 sl sk hs fi px py) else (if py = (sk px.toNatClampNeg) then (fb_X8_as_b72 sl sk hs fi px py) else (if py = 1 then (if (sk px.toNatClampNeg) = 2 then (fb_X8_as_b72 sl sk hs fi px py) else (((f_X8_found fi (-1000004)).1), ((f_X8_found fi (-1000004)).2))) else (((f_X8_found fi (-1000004)).1), ((f_X8_found fi (-1000004)).2))))))))
set_option maxHeartbeats 400000000 in
set_option maxRecDepth 100000 in
theorem c_X8_as (l : Launch) (D : va_G) (cy : Nat → ClassId) (ta : Nat) (m_slots : Nat) (m_slotKind : Nat) (m_hasSlot : Nat) (m_now : Nat) (m_undone : Nat) (m_sheetBits : Nat) (m_sheetSize : Nat) (m_sheets : Nat) (m_fresh : Nat) (m_rootWhich : Nat) (m_signs : Nat) (m_atNought : Nat) (m_change : Nat) (m_table : Nat) (m_carried : Nat) (sl : Nat → Int32) (sk : Nat → Int32) (hs : Nat → Int32) (u : Nat) (fi : Int32) (aa : Int64) (bb : Int64) (dd : Int64) (ro : Nat) (db : Int32) (mn : Nat) (px : Int32) (py : Int32) : yk_Ci l D vwCl (yk_ty cy) yX8_as wsX8_as 2 42 [.ref ta, .int px, .int py] [(ta, .inr (8, [.ref m_now, .ref m_undone, .ref m_slots, .ref m_slotKind, .ref m_hasSlot, .ref m_sheetBits, .ref m_sheetSize, .ref m_sheets, .int (nI u), .int fi, .ref m_fresh, .long aa, .long bb, .long dd, .int (nI ro), .ref m_rootWhich, .int db, .ref m_signs, .ref m_atNought, .int (nI mn), .ref m_change, .ref m_table, .ref m_carried])), (m_slots, .inl (cy 0, 48, .inl sl)), (m_slotKind, .inl (cy 0, 4, .inl sk)), (m_hasSlot, .inl (cy 2, 4, .inl hs))] ((f_X8_as sl sk hs fi px py).1) [(ta, .inr (8, [.ref m_now, .ref m_undone, .ref m_slots, .ref m_slotKind, .ref m_hasSlot, .ref m_sheetBits, .ref m_sheetSize, .ref m_sheets, .int (nI u), .int ((f_X8_as sl sk hs fi px py).2), .ref m_fresh, .long aa, .long bb, .long dd, .int (nI ro), .ref m_rootWhich, .int db, .ref m_signs, .ref m_atNought, .int (nI mn), .ref m_change, .ref m_table, .ref m_carried])), (m_slots, .inl (cy 0, 48, .inl sl)), (m_slotKind, .inl (cy 0, 4, .inl sk)), (m_hasSlot, .inl (cy 2, 4, .inl hs))] := by
  refine yk_eI (cc := cX8_as) (maxL := 6) (by decide) rfl (Nat.le_of_ble_eq_true rfl) rfl ?_
  intro p e R s m args below meth c A Q ls H locs hx hb hml hown hts hRf hRl hA hK hG hP hD hS hl hQ
  have hP : va_P D vwCl [(ta, .inr (8, [.ref m_now, .ref m_undone, .ref m_slots, .ref m_slotKind, .ref m_hasSlot, .ref m_sheetBits, .ref m_sheetSize, .ref m_sheets, .int (nI u), .int fi, .ref m_fresh, .long aa, .long bb, .long dd, .int (nI ro), .ref m_rootWhich, .int db, .ref m_signs, .ref m_atNought, .int (nI mn), .ref m_change, .ref m_table, .ref m_carried])), (m_slots, .inl (cy 0, 48, .inl sl)), (m_slotKind, .inl (cy 0, 4, .inl sk)), (m_hasSlot, .inl (cy 2, 4, .inl hs))] H := hP
  have hl : lv_has ls 6 [(0, .ref ta), (1, .int px), (2, .int py)] := hl
  have hown : s.vm.findClass RX8 = some m.cls := hown
  have hF : (f_X8_as sl sk hs fi px py) = (f_X8_as sl sk hs fi px py) := rfl
  refine lv_iload_n hx hb dX8_as_0 rfl (lv_at hl 1 rfl) ?_
  refine yk_i [] (va_runS (As := [.int px]) (rest := []) ⟨hx, hb, hml, hown, hts⟩ (c_X8_isSlot l D cy px H.size) (va_cwS 1 hts gX8_as_X8_isSlot rfl rfl rfl hs_X8_isSlot (yk_room hRf hRl rfl rfl)) (yk_ps hG hA hS hK hP hD [] (by decide +kernel) rfl) rfl rfl hl.1 rfl (lv_room (Nat.le_of_ble_eq_true rfl)) dX8_as_1 ⟨Nat.zero_le _, Nat.zero_le _⟩) hP hD hS hA rfl rfl (fun H locs hP9 hD9 hS9 => ?_)
  replace hP : va_P D vwCl [(ta, .inr (8, [.ref m_now, .ref m_undone, .ref m_slots, .ref m_slotKind, .ref m_hasSlot, .ref m_sheetBits, .ref m_sheetSize, .ref m_sheets, .int (nI u), .int fi, .ref m_fresh, .long aa, .long bb, .long dd, .int (nI ro), .ref m_rootWhich, .int db, .ref m_signs, .ref m_atNought, .int (nI mn), .ref m_change, .ref m_table, .ref m_carried])), (m_slots, .inl (cy 0, 48, .inl sl)), (m_slotKind, .inl (cy 0, 4, .inl sk)), (m_hasSlot, .inl (cy 2, 4, .inl hs))] H := hP9
  replace hD : va_D A [(ta, .inr (8, [.ref m_now, .ref m_undone, .ref m_slots, .ref m_slotKind, .ref m_hasSlot, .ref m_sheetBits, .ref m_sheetSize, .ref m_sheets, .int (nI u), .int fi, .ref m_fresh, .long aa, .long bb, .long dd, .int (nI ro), .ref m_rootWhich, .int db, .ref m_signs, .ref m_atNought, .int (nI mn), .ref m_change, .ref m_table, .ref m_carried])), (m_slots, .inl (cy 0, 48, .inl sl)), (m_slotKind, .inl (cy 0, 4, .inl sk)), (m_hasSlot, .inl (cy 2, 4, .inl hs))] := hD9
  replace hS := hS9
  clear hP9 hD9 hS9
  refine lv_if_eq (tgt := 16) hx hb dX8_as_4 (by decide) (fun hc1 => ?_) (fun hc1 => ?_)
  · replace hF := hF.trans (if_pos hc1)
    refine lv_aload_n hx hb dX8_as_16 rfl (lv_at hl 0 rfl) ?_
    refine lv_ldc (v := (-1000001)) hx hb hown (hts _ kX8_as_0) dX8_as_17 ?_
    refine yk_i [0] (va_runV (As := [.int (-1000001)]) (rest := []) ⟨hx, hb, hml, hown, hts⟩ (c_X8_found l D cy ta m_now m_undone m_slots m_slotKind m_hasSlot m_sheetBits m_sheetSize m_sheets m_fresh m_rootWhich m_signs m_atNought m_change m_table m_carried u fi aa bb dd ro db mn (-1000001) H.size) (cwV 1 hts gX8_as_X8_found rfl rfl rfl hv_X8_found (yk_room hRf hRl rfl rfl)) (yk_pv (q := (RX8, TX8, 23)) hG hA hS hK hP hD [0] (by decide +kernel) rfl rfl rfl) rfl rfl hl.1 rfl (lv_room (Nat.le_of_ble_eq_true rfl)) dX8_as_19 ⟨Nat.zero_le _, Nat.zero_le _⟩) hP hD hS hA rfl rfl (fun H locs hP9 hD9 hS9 => ?_)
    replace hP : va_P D vwCl [(ta, .inr (8, [.ref m_now, .ref m_undone, .ref m_slots, .ref m_slotKind, .ref m_hasSlot, .ref m_sheetBits, .ref m_sheetSize, .ref m_sheets, .int (nI u), .int ((f_X8_found fi (-1000001)).2), .ref m_fresh, .long aa, .long bb, .long dd, .int (nI ro), .ref m_rootWhich, .int db, .ref m_signs, .ref m_atNought, .int (nI mn), .ref m_change, .ref m_table, .ref m_carried])), (m_slots, .inl (cy 0, 48, .inl sl)), (m_slotKind, .inl (cy 0, 4, .inl sk)), (m_hasSlot, .inl (cy 2, 4, .inl hs))] H := hP9
    replace hD : va_D A [(ta, .inr (8, [.ref m_now, .ref m_undone, .ref m_slots, .ref m_slotKind, .ref m_hasSlot, .ref m_sheetBits, .ref m_sheetSize, .ref m_sheets, .int (nI u), .int ((f_X8_found fi (-1000001)).2), .ref m_fresh, .long aa, .long bb, .long dd, .int (nI ro), .ref m_rootWhich, .int db, .ref m_signs, .ref m_atNought, .int (nI mn), .ref m_change, .ref m_table, .ref m_carried])), (m_slots, .inl (cy 0, 48, .inl sl)), (m_slotKind, .inl (cy 0, 4, .inl sk)), (m_hasSlot, .inl (cy 2, 4, .inl hs))] := hD9
    replace hS := hS9
    clear hP9 hD9 hS9
    have hF : f_X8_as sl sk hs fi px py = (((f_X8_found fi (-1000001)).1), ((f_X8_found fi (-1000001)).2)) := hF
    have hf0 := yk_fst hF
    have hg0 := yk_snd hF
    rw [hf0, hg0] at hQ
    exact hQ _ _ _ _ dX8_as_22 hP hS
  · replace hF := hF.trans (if_neg hc1)
    refine lv_iload_n hx hb dX8_as_7 rfl (lv_at hl 2 rfl) ?_
    refine lv_iconst (v := 0) hx hb dX8_as_8 (by decide) ?_
    refine lv_iconst (v := 3) hx hb dX8_as_9 (by decide) ?_
    refine yk_i [] (va_runS (As := [.int py, .int 0, .int 3]) (rest := []) ⟨hx, hb, hml, hown, hts⟩ (c_X8_in l D cy py 0 3 H.size) (va_cwS 3 hts gX8_as_X8_in rfl rfl rfl hs_X8_in (yk_room hRf hRl rfl rfl)) (yk_ps hG hA hS hK hP hD [] (by decide +kernel) rfl) rfl rfl hl.1 rfl (lv_room (Nat.le_of_ble_eq_true rfl)) dX8_as_10 ⟨Nat.zero_le _, Nat.zero_le _⟩) hP hD hS hA rfl rfl (fun H locs hP9 hD9 hS9 => ?_)
    replace hP : va_P D vwCl [(ta, .inr (8, [.ref m_now, .ref m_undone, .ref m_slots, .ref m_slotKind, .ref m_hasSlot, .ref m_sheetBits, .ref m_sheetSize, .ref m_sheets, .int (nI u), .int fi, .ref m_fresh, .long aa, .long bb, .long dd, .int (nI ro), .ref m_rootWhich, .int db, .ref m_signs, .ref m_atNought, .int (nI mn), .ref m_change, .ref m_table, .ref m_carried])), (m_slots, .inl (cy 0, 48, .inl sl)), (m_slotKind, .inl (cy 0, 4, .inl sk)), (m_hasSlot, .inl (cy 2, 4, .inl hs))] H := hP9
    replace hD : va_D A [(ta, .inr (8, [.ref m_now, .ref m_undone, .ref m_slots, .ref m_slotKind, .ref m_hasSlot, .ref m_sheetBits, .ref m_sheetSize, .ref m_sheets, .int (nI u), .int fi, .ref m_fresh, .long aa, .long bb, .long dd, .int (nI ro), .ref m_rootWhich, .int db, .ref m_signs, .ref m_atNought, .int (nI mn), .ref m_change, .ref m_table, .ref m_carried])), (m_slots, .inl (cy 0, 48, .inl sl)), (m_slotKind, .inl (cy 0, 4, .inl sk)), (m_hasSlot, .inl (cy 2, 4, .inl hs))] := hD9
    replace hS := hS9
    clear hP9 hD9 hS9
    refine lv_if_ne (tgt := 23) hx hb dX8_as_13 (by decide) (fun hc2 => ?_) (fun hc2 => ?_)
    · replace hF := hF.trans (if_neg hc2)
      have hq3 : px = nI px.toNatClampNeg := (ix_sl (by assumption)).1
      have hq3b : px.toNatClampNeg < 4 := (ix_sl (by assumption)).2
      rw [hq3] at hl
      refine lv_aload_n hx hb dX8_as_23 rfl (lv_at hl 0 rfl) ?_
      refine va_get (D := D) (ci := 8) (v := .ref m_hasSlot) (C := RX8) (T := TX8) (N := 23) hx hb hts uX8_as_X8 hown hK hP 0 rfl rfl 4 (by decide) (hts _ kX8_as_1) (fun _ h9 => h9) rfl dX8_as_24 ?_
      refine lv_iload_n hx hb dX8_as_27 rfl (lv_at hl 1 rfl) ?_
      refine yk_zld hx hb hK hP 3 2 rfl rfl px.toNatClampNeg (by omega) (by decide) dX8_as_28 ?_
      refine lv_if_ne (tgt := 39) hx hb dX8_as_29 (by decide) (fun hc4 => ?_) (fun hc4 => ?_)
      · replace hF := hF.trans (if_neg hc4)
        refine lv_aload_n hx hb dX8_as_39 rfl (lv_at hl 0 rfl) ?_
        refine va_get (D := D) (ci := 8) (v := .ref m_slotKind) (C := RX8) (T := TX8) (N := 23) hx hb hts uX8_as_X8 hown hK hP 0 rfl rfl 3 (by decide) (hts _ kX8_as_2) (fun _ h9 => h9) rfl dX8_as_40 ?_
        refine lv_iload_n hx hb dX8_as_43 rfl (lv_at hl 1 rfl) ?_
        refine yk_ild hx hb hK hP 2 0 rfl rfl px.toNatClampNeg (by omega) (by decide) dX8_as_44 ?_
        refine lv_istore_n (lv' := [(3, .int (sk px.toNatClampNeg)), (0, .ref ta), (1, .int (nI px.toNatClampNeg)), (2, .int py)]) hx hb dX8_as_45 rfl hl (by decide) rfl (fun ls hl9 => ?_)
        replace hl := hl9
        clear hl9
        refine lv_iload_n hx hb dX8_as_46 rfl (lv_at hl 3 rfl) ?_
        have K72 : ∀ (H : Heap) (locs : List Loc) (ls : Array Slot), f_X8_as sl sk hs fi px py = fb_X8_as_b72 sl sk hs fi px py → va_P D vwCl [(ta, .inr (8, [.ref m_now, .ref m_undone, .ref m_slots, .ref m_slotKind, .ref m_hasSlot, .ref m_sheetBits, .ref m_sheetSize, .ref m_sheets, .int (nI u), .int fi, .ref m_fresh, .long aa, .long bb, .long dd, .int (nI ro), .ref m_rootWhich, .int db, .ref m_signs, .ref m_atNought, .int (nI mn), .ref m_change, .ref m_table, .ref m_carried])), (m_slots, .inl (cy 0, 48, .inl sl)), (m_slotKind, .inl (cy 0, 4, .inl sk)), (m_hasSlot, .inl (cy 2, 4, .inl hs))] H → va_D A [(ta, .inr (8, [.ref m_now, .ref m_undone, .ref m_slots, .ref m_slotKind, .ref m_hasSlot, .ref m_sheetBits, .ref m_sheetSize, .ref m_sheets, .int (nI u), .int fi, .ref m_fresh, .long aa, .long bb, .long dd, .int (nI ro), .ref m_rootWhich, .int db, .ref m_signs, .ref m_atNought, .int (nI mn), .ref m_change, .ref m_table, .ref m_carried])), (m_slots, .inl (cy 0, 48, .inl sl)), (m_slotKind, .inl (cy 0, 4, .inl sk)), (m_hasSlot, .inl (cy 2, 4, .inl hs))] → va_S A s.heap H locs → lv_has ls 6 [(0, .ref ta), (1, .int (nI px.toNatClampNeg)), (2, .int py), (3, .int (sk px.toNatClampNeg))] → W p l e R s m args below meth c H locs 0 0 Q (F0 m 72 ls []) := by
          clear hP hD hS hl hF
          intro H locs ls hF hP hD hS hl
          refine lv_iconst (v := 0) hx hb dX8_as_72 (by decide) ?_
          refine lv_istore (lv' := [(4, .int 0), (0, .ref ta), (1, .int (nI px.toNatClampNeg)), (2, .int py), (3, .int (sk px.toNatClampNeg))]) hx hb dX8_as_73 hl (by decide) rfl (fun ls hl9 => ?_)
          replace hl := hl9
          clear hl9
          refine lv_iconst (v := 0) hx hb dX8_as_75 (by decide) ?_
          refine lv_istore (lv' := [(5, .int 0), (4, .int 0), (0, .ref ta), (1, .int (nI px.toNatClampNeg)), (2, .int py), (3, .int (sk px.toNatClampNeg))]) hx hb dX8_as_76 hl (by decide) rfl (fun ls hl9 => ?_)
          replace hl := hl9
          clear hl9
          have J13 : ∀ (H : Heap) (locs : List Loc) (ls : Array Slot), va_P D vwCl [(ta, .inr (8, [.ref m_now, .ref m_undone, .ref m_slots, .ref m_slotKind, .ref m_hasSlot, .ref m_sheetBits, .ref m_sheetSize, .ref m_sheets, .int (nI u), .int fi, .ref m_fresh, .long aa, .long bb, .long dd, .int (nI ro), .ref m_rootWhich, .int db, .ref m_signs, .ref m_atNought, .int (nI mn), .ref m_change, .ref m_table, .ref m_carried])), (m_slots, .inl (cy 0, 48, .inl sl)), (m_slotKind, .inl (cy 0, 4, .inl sk)), (m_hasSlot, .inl (cy 2, 4, .inl hs))] H → va_D A [(ta, .inr (8, [.ref m_now, .ref m_undone, .ref m_slots, .ref m_slotKind, .ref m_hasSlot, .ref m_sheetBits, .ref m_sheetSize, .ref m_sheets, .int (nI u), .int fi, .ref m_fresh, .long aa, .long bb, .long dd, .int (nI ro), .ref m_rootWhich, .int db, .ref m_signs, .ref m_atNought, .int (nI mn), .ref m_change, .ref m_table, .ref m_carried])), (m_slots, .inl (cy 0, 48, .inl sl)), (m_slotKind, .inl (cy 0, 4, .inl sk)), (m_hasSlot, .inl (cy 2, 4, .inl hs))] → va_S A s.heap H locs → lv_has ls 6 [(0, .ref ta), (1, .int (nI px.toNatClampNeg)), (2, .int py), (3, .int (sk px.toNatClampNeg)), (4, .int (l_X8_as_78 sl sk hs fi px py (12 + 1) 0 0))] → W p l e R s m args below meth c H locs 0 0 Q (F0 m 116 ls []) := by
            clear hP hD hS hl
            intro H locs ls hP hD hS hl
            refine lv_iload hx hb dX8_as_116 (lv_at hl 4 rfl) ?_
            have hF : f_X8_as sl sk hs fi px py = ((l_X8_as_78 sl sk hs fi px py (12 + 1) 0 0), fi) := hF
            have hf0 := yk_fst hF
            have hg0 := yk_snd hF
            rw [hf0, hg0] at hQ
            exact hQ _ _ _ _ dX8_as_118 hP hS
          have L78 : ∀ (M9 n78 ki : Nat) (z4_78 : Int32) (H : Heap) (locs : List Loc) (ls : Array Slot), n78 < M9 → ki + n78 = 12 → (l_X8_as_78 sl sk hs fi px py (12 + 1) 0 0) = (l_X8_as_78 sl sk hs fi px py (n78 + 1) ki z4_78) → va_P D vwCl [(ta, .inr (8, [.ref m_now, .ref m_undone, .ref m_slots, .ref m_slotKind, .ref m_hasSlot, .ref m_sheetBits, .ref m_sheetSize, .ref m_sheets, .int (nI u), .int fi, .ref m_fresh, .long aa, .long bb, .long dd, .int (nI ro), .ref m_rootWhich, .int db, .ref m_signs, .ref m_atNought, .int (nI mn), .ref m_change, .ref m_table, .ref m_carried])), (m_slots, .inl (cy 0, 48, .inl sl)), (m_slotKind, .inl (cy 0, 4, .inl sk)), (m_hasSlot, .inl (cy 2, 4, .inl hs))] H → va_D A [(ta, .inr (8, [.ref m_now, .ref m_undone, .ref m_slots, .ref m_slotKind, .ref m_hasSlot, .ref m_sheetBits, .ref m_sheetSize, .ref m_sheets, .int (nI u), .int fi, .ref m_fresh, .long aa, .long bb, .long dd, .int (nI ro), .ref m_rootWhich, .int db, .ref m_signs, .ref m_atNought, .int (nI mn), .ref m_change, .ref m_table, .ref m_carried])), (m_slots, .inl (cy 0, 48, .inl sl)), (m_slotKind, .inl (cy 0, 4, .inl sk)), (m_hasSlot, .inl (cy 2, 4, .inl hs))] → va_S A s.heap H locs → lv_has ls 6 [(0, .ref ta), (1, .int (nI px.toNatClampNeg)), (2, .int py), (3, .int (sk px.toNatClampNeg)), (4, .int z4_78), (5, .int (nI ki))] → W p l e R s m args below meth c H locs 0 0 Q (F0 m 78 ls []) := by
            clear hP hD hS hl
            intro M9
            induction M9 with
            | zero => intro n78 ki _ _ _ _ hn; exact absurd hn (Nat.not_lt_zero _)
            | succ M9 ih78 =>
              intro n78 ki z4_78 H locs ls hn78 hk78 hV78 hP hD hS hl
              refine lv_iload hx hb dX8_as_78 (lv_at hl 5 rfl) ?_
              refine lv_bipush (v := 12) hx hb dX8_as_80 (by decide) ?_
              refine lv_icmp_ge (tgt := 116) hx hb dX8_as_82 (by decide) (fun hc9 => ?_) (fun hc9 => ?_)
              · replace hV78 := hV78.trans (if_pos hc9)
                have hV78 : (l_X8_as_78 sl sk hs fi px py (12 + 1) 0 0) = z4_78 := hV78
                have J13 := J13
                rw [hV78] at J13
                exact J13 _ _ _ hP hD hS (lv_sub hl [0, 1, 2, 3, 4] rfl)
              · replace hV78 := hV78.trans (if_neg hc9)
                have hlt78 : ki < 12 := yk_lt hk78 (by omega) hc9
                refine lv_iload hx hb dX8_as_85 (lv_at hl 4 rfl) ?_
                refine lv_aload_n hx hb dX8_as_87 rfl (lv_at hl 0 rfl) ?_
                refine va_get (D := D) (ci := 8) (v := .ref m_slots) (C := RX8) (T := TX8) (N := 23) hx hb hts uX8_as_X8 hown hK hP 0 rfl rfl 2 (by decide) (hts _ kX8_as_4) (fun _ h9 => h9) rfl dX8_as_88 ?_
                refine lv_bipush (v := 12) hx hb dX8_as_91 (by decide) ?_
                refine lv_iload_n hx hb dX8_as_93 rfl (lv_at hl 1 rfl) ?_
                refine lv_imul hx hb dX8_as_94 ?_
                refine yk_ti (y := nI (12 * px.toNatClampNeg)) (pk_mul 12 px.toNatClampNeg) ?_
                refine lv_iload hx hb dX8_as_95 (lv_at hl 5 rfl) ?_
                refine lv_iadd hx hb dX8_as_97 ?_
                refine yk_ti (y := nI ((12 * px.toNatClampNeg) + ki)) (nI_add (12 * px.toNatClampNeg) ki) ?_
                refine yk_ild hx hb hK hP 1 0 rfl rfl ((12 * px.toNatClampNeg) + ki) (by omega) (by decide) dX8_as_98 ?_
                have J12 : ∀ (v11 : Int32) (H : Heap) (locs : List Loc) (ls : Array Slot), v11 = (if (sl ((12 * px.toNatClampNeg) + ki)) = 0 then 0 else 1) → va_P D vwCl [(ta, .inr (8, [.ref m_now, .ref m_undone, .ref m_slots, .ref m_slotKind, .ref m_hasSlot, .ref m_sheetBits, .ref m_sheetSize, .ref m_sheets, .int (nI u), .int fi, .ref m_fresh, .long aa, .long bb, .long dd, .int (nI ro), .ref m_rootWhich, .int db, .ref m_signs, .ref m_atNought, .int (nI mn), .ref m_change, .ref m_table, .ref m_carried])), (m_slots, .inl (cy 0, 48, .inl sl)), (m_slotKind, .inl (cy 0, 4, .inl sk)), (m_hasSlot, .inl (cy 2, 4, .inl hs))] H → va_D A [(ta, .inr (8, [.ref m_now, .ref m_undone, .ref m_slots, .ref m_slotKind, .ref m_hasSlot, .ref m_sheetBits, .ref m_sheetSize, .ref m_sheets, .int (nI u), .int fi, .ref m_fresh, .long aa, .long bb, .long dd, .int (nI ro), .ref m_rootWhich, .int db, .ref m_signs, .ref m_atNought, .int (nI mn), .ref m_change, .ref m_table, .ref m_carried])), (m_slots, .inl (cy 0, 48, .inl sl)), (m_slotKind, .inl (cy 0, 4, .inl sk)), (m_hasSlot, .inl (cy 2, 4, .inl hs))] → va_S A s.heap H locs → lv_has ls 6 [(0, .ref ta), (1, .int (nI px.toNatClampNeg)), (2, .int py), (3, .int (sk px.toNatClampNeg)), (4, .int z4_78), (5, .int (nI ki))] → W p l e R s m args below meth c H locs 0 0 Q (F0 m 107 ls [.int v11, .int z4_78]) := by
                  clear hP hD hS hl
                  intro v11 H locs ls ev11 hP hD hS hl
                  subst ev11
                  refine lv_iadd hx hb dX8_as_107 ?_
                  refine lv_istore (lv' := [(4, .int (z4_78 + (if (sl ((12 * px.toNatClampNeg) + ki)) = 0 then 0 else 1))), (0, .ref ta), (1, .int (nI px.toNatClampNeg)), (2, .int py), (3, .int (sk px.toNatClampNeg)), (5, .int (nI ki))]) hx hb dX8_as_108 hl (by decide) rfl (fun ls hl9 => ?_)
                  replace hl := hl9
                  clear hl9
                  refine lv_iinc (v := nI (ki + 1)) (lv' := [(5, .int (nI (ki + 1))), (4, .int (z4_78 + (if (sl ((12 * px.toNatClampNeg) + ki)) = 0 then 0 else 1))), (0, .ref ta), (1, .int (nI px.toNatClampNeg)), (2, .int py), (3, .int (sk px.toNatClampNeg))]) hx hb dX8_as_110 hl (k := 5) rfl (yk_inc ki) (by decide) rfl (fun ls hl9 => ?_)
                  replace hl := hl9
                  clear hl9
                  refine lv_goto (tgt := 78) hx hb dX8_as_113 (by decide) ?_
                  obtain ⟨n9, rfl⟩ : ∃ n9, n78 = n9 + 1 := ⟨n78 - 1, by omega⟩
                  exact ih78 n9 (ki + 1) (z4_78 + (if (sl ((12 * px.toNatClampNeg) + ki)) = 0 then 0 else 1)) _ _ _ (by omega) (by omega)  hV78 hP hD hS (lv_sub hl [2, 3, 4, 5, 1, 0] rfl)
                refine lv_if_eq (tgt := 106) hx hb dX8_as_99 (by decide) (fun hc10 => ?_) (fun hc10 => ?_)
                · refine lv_iconst (v := 0) hx hb dX8_as_106 (by decide) ?_
                  exact J12 _ _ _ _ ((if_pos hc10).symm) hP hD hS (lv_sub hl [0, 1, 2, 3, 4, 5] rfl)
                · refine lv_iconst (v := 1) hx hb dX8_as_102 (by decide) ?_
                  refine lv_goto (tgt := 107) hx hb dX8_as_103 (by decide) ?_
                  exact J12 _ _ _ _ ((if_neg hc10).symm) hP hD hS (lv_sub hl [0, 1, 2, 3, 4, 5] rfl)
          exact L78 (12 + 1) 12 0 0 _ _ _ (Nat.lt_succ_self _) (by omega)  rfl hP hD hS (lv_sub hl [2, 3, 4, 5, 1, 0] rfl)
        refine lv_if_eq (tgt := 72) hx hb dX8_as_47 (by decide) (fun hc5 => ?_) (fun hc5 => ?_)
        · replace hF := hF.trans (if_pos hc5)
          exact K72 _ _ _ hF hP hD hS (lv_sub hl [1, 2, 3, 0] rfl)
        · replace hF := hF.trans (if_neg hc5)
          refine lv_iload_n hx hb dX8_as_50 rfl (lv_at hl 3 rfl) ?_
          refine lv_iload_n hx hb dX8_as_51 rfl (lv_at hl 0 rfl) ?_
          refine lv_icmp_eq (tgt := 72) hx hb dX8_as_52 (by decide) (fun hc6 => ?_) (fun hc6 => ?_)
          · replace hF := hF.trans (if_pos hc6)
            exact K72 _ _ _ hF hP hD hS (lv_sub hl [1, 2, 3, 0] rfl)
          · replace hF := hF.trans (if_neg hc6)
            refine lv_iload_n hx hb dX8_as_55 rfl (lv_at hl 3 rfl) ?_
            refine lv_iconst (v := 1) hx hb dX8_as_56 (by decide) ?_
            refine lv_icmp_ne (tgt := 65) hx hb dX8_as_57 (by decide) (fun hc7 => ?_) (fun hc7 => ?_)
            · replace hF := hF.trans (if_neg hc7)
              refine lv_aload_n hx hb dX8_as_65 rfl (lv_at hl 1 rfl) ?_
              refine lv_ldc (v := (-1000004)) hx hb hown (hts _ kX8_as_3) dX8_as_66 ?_
              refine yk_i [0] (va_runV (As := [.int (-1000004)]) (rest := []) ⟨hx, hb, hml, hown, hts⟩ (c_X8_found l D cy ta m_now m_undone m_slots m_slotKind m_hasSlot m_sheetBits m_sheetSize m_sheets m_fresh m_rootWhich m_signs m_atNought m_change m_table m_carried u fi aa bb dd ro db mn (-1000004) H.size) (cwV 1 hts gX8_as_X8_found rfl rfl rfl hv_X8_found (yk_room hRf hRl rfl rfl)) (yk_pv (q := (RX8, TX8, 23)) hG hA hS hK hP hD [0] (by decide +kernel) rfl rfl rfl) rfl rfl hl.1 rfl (lv_room (Nat.le_of_ble_eq_true rfl)) dX8_as_68 ⟨Nat.zero_le _, Nat.zero_le _⟩) hP hD hS hA rfl rfl (fun H locs hP9 hD9 hS9 => ?_)
              replace hP : va_P D vwCl [(ta, .inr (8, [.ref m_now, .ref m_undone, .ref m_slots, .ref m_slotKind, .ref m_hasSlot, .ref m_sheetBits, .ref m_sheetSize, .ref m_sheets, .int (nI u), .int ((f_X8_found fi (-1000004)).2), .ref m_fresh, .long aa, .long bb, .long dd, .int (nI ro), .ref m_rootWhich, .int db, .ref m_signs, .ref m_atNought, .int (nI mn), .ref m_change, .ref m_table, .ref m_carried])), (m_slots, .inl (cy 0, 48, .inl sl)), (m_slotKind, .inl (cy 0, 4, .inl sk)), (m_hasSlot, .inl (cy 2, 4, .inl hs))] H := hP9
              replace hD : va_D A [(ta, .inr (8, [.ref m_now, .ref m_undone, .ref m_slots, .ref m_slotKind, .ref m_hasSlot, .ref m_sheetBits, .ref m_sheetSize, .ref m_sheets, .int (nI u), .int ((f_X8_found fi (-1000004)).2), .ref m_fresh, .long aa, .long bb, .long dd, .int (nI ro), .ref m_rootWhich, .int db, .ref m_signs, .ref m_atNought, .int (nI mn), .ref m_change, .ref m_table, .ref m_carried])), (m_slots, .inl (cy 0, 48, .inl sl)), (m_slotKind, .inl (cy 0, 4, .inl sk)), (m_hasSlot, .inl (cy 2, 4, .inl hs))] := hD9
              replace hS := hS9
              clear hP9 hD9 hS9
              have hF : f_X8_as sl sk hs fi px py = (((f_X8_found fi (-1000004)).1), ((f_X8_found fi (-1000004)).2)) := hF
              have hf0 := yk_fst hF
              have hg0 := yk_snd hF
              rw [hf0, hg0] at hQ
              exact hQ _ _ _ _ dX8_as_71 hP hS
            · replace hF := hF.trans (if_pos hc7)
              refine lv_iload_n hx hb dX8_as_60 rfl (lv_at hl 0 rfl) ?_
              refine lv_iconst (v := 2) hx hb dX8_as_61 (by decide) ?_
              refine lv_icmp_eq (tgt := 72) hx hb dX8_as_62 (by decide) (fun hc8 => ?_) (fun hc8 => ?_)
              · replace hF := hF.trans (if_pos hc8)
                exact K72 _ _ _ hF hP hD hS (lv_sub hl [1, 2, 3, 0] rfl)
              · replace hF := hF.trans (if_neg hc8)
                refine lv_aload_n hx hb dX8_as_65 rfl (lv_at hl 1 rfl) ?_
                refine lv_ldc (v := (-1000004)) hx hb hown (hts _ kX8_as_3) dX8_as_66 ?_
                refine yk_i [0] (va_runV (As := [.int (-1000004)]) (rest := []) ⟨hx, hb, hml, hown, hts⟩ (c_X8_found l D cy ta m_now m_undone m_slots m_slotKind m_hasSlot m_sheetBits m_sheetSize m_sheets m_fresh m_rootWhich m_signs m_atNought m_change m_table m_carried u fi aa bb dd ro db mn (-1000004) H.size) (cwV 1 hts gX8_as_X8_found rfl rfl rfl hv_X8_found (yk_room hRf hRl rfl rfl)) (yk_pv (q := (RX8, TX8, 23)) hG hA hS hK hP hD [0] (by decide +kernel) rfl rfl rfl) rfl rfl hl.1 rfl (lv_room (Nat.le_of_ble_eq_true rfl)) dX8_as_68 ⟨Nat.zero_le _, Nat.zero_le _⟩) hP hD hS hA rfl rfl (fun H locs hP9 hD9 hS9 => ?_)
                replace hP : va_P D vwCl [(ta, .inr (8, [.ref m_now, .ref m_undone, .ref m_slots, .ref m_slotKind, .ref m_hasSlot, .ref m_sheetBits, .ref m_sheetSize, .ref m_sheets, .int (nI u), .int ((f_X8_found fi (-1000004)).2), .ref m_fresh, .long aa, .long bb, .long dd, .int (nI ro), .ref m_rootWhich, .int db, .ref m_signs, .ref m_atNought, .int (nI mn), .ref m_change, .ref m_table, .ref m_carried])), (m_slots, .inl (cy 0, 48, .inl sl)), (m_slotKind, .inl (cy 0, 4, .inl sk)), (m_hasSlot, .inl (cy 2, 4, .inl hs))] H := hP9
                replace hD : va_D A [(ta, .inr (8, [.ref m_now, .ref m_undone, .ref m_slots, .ref m_slotKind, .ref m_hasSlot, .ref m_sheetBits, .ref m_sheetSize, .ref m_sheets, .int (nI u), .int ((f_X8_found fi (-1000004)).2), .ref m_fresh, .long aa, .long bb, .long dd, .int (nI ro), .ref m_rootWhich, .int db, .ref m_signs, .ref m_atNought, .int (nI mn), .ref m_change, .ref m_table, .ref m_carried])), (m_slots, .inl (cy 0, 48, .inl sl)), (m_slotKind, .inl (cy 0, 4, .inl sk)), (m_hasSlot, .inl (cy 2, 4, .inl hs))] := hD9
                replace hS := hS9
                clear hP9 hD9 hS9
                have hF : f_X8_as sl sk hs fi px py = (((f_X8_found fi (-1000004)).1), ((f_X8_found fi (-1000004)).2)) := hF
                have hf0 := yk_fst hF
                have hg0 := yk_snd hF
                rw [hf0, hg0] at hQ
                exact hQ _ _ _ _ dX8_as_71 hP hS
      · replace hF := hF.trans (if_pos hc4)
        refine lv_aload_n hx hb dX8_as_32 rfl (lv_at hl 0 rfl) ?_
        refine lv_ldc (v := (-1000006)) hx hb hown (hts _ kX8_as_5) dX8_as_33 ?_
        refine yk_i [0] (va_runV (As := [.int (-1000006)]) (rest := []) ⟨hx, hb, hml, hown, hts⟩ (c_X8_found l D cy ta m_now m_undone m_slots m_slotKind m_hasSlot m_sheetBits m_sheetSize m_sheets m_fresh m_rootWhich m_signs m_atNought m_change m_table m_carried u fi aa bb dd ro db mn (-1000006) H.size) (cwV 1 hts gX8_as_X8_found rfl rfl rfl hv_X8_found (yk_room hRf hRl rfl rfl)) (yk_pv (q := (RX8, TX8, 23)) hG hA hS hK hP hD [0] (by decide +kernel) rfl rfl rfl) rfl rfl hl.1 rfl (lv_room (Nat.le_of_ble_eq_true rfl)) dX8_as_35 ⟨Nat.zero_le _, Nat.zero_le _⟩) hP hD hS hA rfl rfl (fun H locs hP9 hD9 hS9 => ?_)
        replace hP : va_P D vwCl [(ta, .inr (8, [.ref m_now, .ref m_undone, .ref m_slots, .ref m_slotKind, .ref m_hasSlot, .ref m_sheetBits, .ref m_sheetSize, .ref m_sheets, .int (nI u), .int ((f_X8_found fi (-1000006)).2), .ref m_fresh, .long aa, .long bb, .long dd, .int (nI ro), .ref m_rootWhich, .int db, .ref m_signs, .ref m_atNought, .int (nI mn), .ref m_change, .ref m_table, .ref m_carried])), (m_slots, .inl (cy 0, 48, .inl sl)), (m_slotKind, .inl (cy 0, 4, .inl sk)), (m_hasSlot, .inl (cy 2, 4, .inl hs))] H := hP9
        replace hD : va_D A [(ta, .inr (8, [.ref m_now, .ref m_undone, .ref m_slots, .ref m_slotKind, .ref m_hasSlot, .ref m_sheetBits, .ref m_sheetSize, .ref m_sheets, .int (nI u), .int ((f_X8_found fi (-1000006)).2), .ref m_fresh, .long aa, .long bb, .long dd, .int (nI ro), .ref m_rootWhich, .int db, .ref m_signs, .ref m_atNought, .int (nI mn), .ref m_change, .ref m_table, .ref m_carried])), (m_slots, .inl (cy 0, 48, .inl sl)), (m_slotKind, .inl (cy 0, 4, .inl sk)), (m_hasSlot, .inl (cy 2, 4, .inl hs))] := hD9
        replace hS := hS9
        clear hP9 hD9 hS9
        have hF : f_X8_as sl sk hs fi px py = (((f_X8_found fi (-1000006)).1), ((f_X8_found fi (-1000006)).2)) := hF
        have hf0 := yk_fst hF
        have hg0 := yk_snd hF
        rw [hf0, hg0] at hQ
        exact hQ _ _ _ _ dX8_as_38 hP hS
    · replace hF := hF.trans (if_pos hc2)
      refine lv_aload_n hx hb dX8_as_16 rfl (lv_at hl 0 rfl) ?_
      refine lv_ldc (v := (-1000001)) hx hb hown (hts _ kX8_as_0) dX8_as_17 ?_
      refine yk_i [0] (va_runV (As := [.int (-1000001)]) (rest := []) ⟨hx, hb, hml, hown, hts⟩ (c_X8_found l D cy ta m_now m_undone m_slots m_slotKind m_hasSlot m_sheetBits m_sheetSize m_sheets m_fresh m_rootWhich m_signs m_atNought m_change m_table m_carried u fi aa bb dd ro db mn (-1000001) H.size) (cwV 1 hts gX8_as_X8_found rfl rfl rfl hv_X8_found (yk_room hRf hRl rfl rfl)) (yk_pv (q := (RX8, TX8, 23)) hG hA hS hK hP hD [0] (by decide +kernel) rfl rfl rfl) rfl rfl hl.1 rfl (lv_room (Nat.le_of_ble_eq_true rfl)) dX8_as_19 ⟨Nat.zero_le _, Nat.zero_le _⟩) hP hD hS hA rfl rfl (fun H locs hP9 hD9 hS9 => ?_)
      replace hP : va_P D vwCl [(ta, .inr (8, [.ref m_now, .ref m_undone, .ref m_slots, .ref m_slotKind, .ref m_hasSlot, .ref m_sheetBits, .ref m_sheetSize, .ref m_sheets, .int (nI u), .int ((f_X8_found fi (-1000001)).2), .ref m_fresh, .long aa, .long bb, .long dd, .int (nI ro), .ref m_rootWhich, .int db, .ref m_signs, .ref m_atNought, .int (nI mn), .ref m_change, .ref m_table, .ref m_carried])), (m_slots, .inl (cy 0, 48, .inl sl)), (m_slotKind, .inl (cy 0, 4, .inl sk)), (m_hasSlot, .inl (cy 2, 4, .inl hs))] H := hP9
      replace hD : va_D A [(ta, .inr (8, [.ref m_now, .ref m_undone, .ref m_slots, .ref m_slotKind, .ref m_hasSlot, .ref m_sheetBits, .ref m_sheetSize, .ref m_sheets, .int (nI u), .int ((f_X8_found fi (-1000001)).2), .ref m_fresh, .long aa, .long bb, .long dd, .int (nI ro), .ref m_rootWhich, .int db, .ref m_signs, .ref m_atNought, .int (nI mn), .ref m_change, .ref m_table, .ref m_carried])), (m_slots, .inl (cy 0, 48, .inl sl)), (m_slotKind, .inl (cy 0, 4, .inl sk)), (m_hasSlot, .inl (cy 2, 4, .inl hs))] := hD9
      replace hS := hS9
      clear hP9 hD9 hS9
      have hF : f_X8_as sl sk hs fi px py = (((f_X8_found fi (-1000001)).1), ((f_X8_found fi (-1000001)).2)) := hF
      have hf0 := yk_fst hF
      have hg0 := yk_snd hF
      rw [hf0, hg0] at hQ
      exact hQ _ _ _ _ dX8_as_22 hP hS

theorem kX8_sheet_0 : Cond.constant RX8 68 (-1000001) ∈ wsX8_sheet := by decide +kernel
theorem kX8_sheet_1 : Cond.fieldLink RX8 26 "FlowPlaneModel" "sheetBits" "[I" ∈ wsX8_sheet := by decide +kernel
theorem kX8_sheet_2 : Cond.fieldLink RX8 29 "FlowPlaneModel" "sheetSize" "[I" ∈ wsX8_sheet := by decide +kernel
theorem kX8_sheet_3 : Cond.fieldLink RX8 32 "FlowPlaneModel" "sheets" "[I" ∈ wsX8_sheet := by decide +kernel
theorem kX8_sheet_4 : Cond.constant RX8 99 (-1000003) ∈ wsX8_sheet := by decide +kernel
theorem uX8_sheet_X8 : ∀ w ∈ u_ws RX8 TX8 23, w ∈ wsX8_sheet := by decide +kernel
def l_X8_sheet_85 (sb : Nat → Int32) (ss : Nat → Int32) (sh : Nat → Int32) (fi : Int32) (px : Int32) (pb : Int32) (pn : Int32) : Nat → Nat → (Nat → Int32) → (Nat → Int32)
  | 0, ki, zsheets_85 => zsheets_85
  | fu_X8_sheet_85 + 1, ki, zsheets_85 => (if 16 ≤ (nI ki) then zsheets_85 else (l_X8_sheet_85 sb ss sh fi px pb pn fu_X8_sheet_85 (ki + 1) (upd zsheets_85 ((16 * px.toNatClampNeg) + ki) 0)))
def fb_X8_sheet_b36 (sb : Nat → Int32) (ss : Nat → Int32) (sh : Nat → Int32) (fi : Int32) (px : Int32) (pb : Int32) (pn : Int32) : Int32 × Int32 × (Nat → Int32) × (Nat → Int32) × (Nat → Int32) := (if 0 ≤ pn then (if pn ≤ 16 then (((upd ss px.toNatClampNeg (if pb = 0 then 0 else pn)) px.toNatClampNeg), fi, (upd sb px.toNatClampNeg pb), (upd ss px.toNatClampNeg (if pb = 0 then 0 else pn)), (l_X8_sheet_85 sb ss sh fi px pb pn (16 + 1) 0 sh)) else (((f_X8_found fi (-1000001)).1), ((f_X8_found fi (-1000001)).2), sb, ss, sh)) else (((f_X8_found fi (-1000003)).1), ((f_X8_found fi (-1000003)).2), sb, ss, sh))
def f_X8_sheet (sb : Nat → Int32) (ss : Nat → Int32) (sh : Nat → Int32) (fi : Int32) (px : Int32) (pb : Int32) (pn : Int32) : Int32 × Int32 × (Nat → Int32) × (Nat → Int32) × (Nat → Int32) := (if (f_X8_isSlot px) = 0 then (((f_X8_found fi (-1000001)).1), ((f_X8_found fi (-1000001)).2), sb, ss, sh) else (if pb = 0 then (fb_X8_sheet_b36 sb ss sh fi px pb pn) else (if pb = 8 then (fb_X8_sheet_b36 sb ss sh fi px pb pn) else (if pb = 16 then (fb_X8_sheet_b36 sb ss sh fi px pb pn) else (if pb = 32 then (fb_X8_sheet_b36 sb ss sh fi px pb pn) else (((f_X8_found fi (-1000001)).1), ((f_X8_found fi (-1000001)).2), sb, ss, sh))))))
set_option maxHeartbeats 400000000 in
set_option maxRecDepth 100000 in
theorem c_X8_sheet (l : Launch) (D : va_G) (cy : Nat → ClassId) (ta : Nat) (m_sheetBits : Nat) (m_sheetSize : Nat) (m_sheets : Nat) (m_now : Nat) (m_undone : Nat) (m_slots : Nat) (m_slotKind : Nat) (m_hasSlot : Nat) (m_fresh : Nat) (m_rootWhich : Nat) (m_signs : Nat) (m_atNought : Nat) (m_change : Nat) (m_table : Nat) (m_carried : Nat) (sb : Nat → Int32) (ss : Nat → Int32) (sh : Nat → Int32) (u : Nat) (fi : Int32) (aa : Int64) (bb : Int64) (dd : Int64) (ro : Nat) (db : Int32) (mn : Nat) (px : Int32) (pb : Int32) (pn : Int32) : yk_Ci l D vwCl (yk_ty cy) yX8_sheet wsX8_sheet 2 42 [.ref ta, .int px, .int pb, .int pn] [(ta, .inr (8, [.ref m_now, .ref m_undone, .ref m_slots, .ref m_slotKind, .ref m_hasSlot, .ref m_sheetBits, .ref m_sheetSize, .ref m_sheets, .int (nI u), .int fi, .ref m_fresh, .long aa, .long bb, .long dd, .int (nI ro), .ref m_rootWhich, .int db, .ref m_signs, .ref m_atNought, .int (nI mn), .ref m_change, .ref m_table, .ref m_carried])), (m_sheetBits, .inl (cy 0, 4, .inl sb)), (m_sheetSize, .inl (cy 0, 4, .inl ss)), (m_sheets, .inl (cy 0, 64, .inl sh))] ((f_X8_sheet sb ss sh fi px pb pn).1) [(ta, .inr (8, [.ref m_now, .ref m_undone, .ref m_slots, .ref m_slotKind, .ref m_hasSlot, .ref m_sheetBits, .ref m_sheetSize, .ref m_sheets, .int (nI u), .int ((f_X8_sheet sb ss sh fi px pb pn).2.1), .ref m_fresh, .long aa, .long bb, .long dd, .int (nI ro), .ref m_rootWhich, .int db, .ref m_signs, .ref m_atNought, .int (nI mn), .ref m_change, .ref m_table, .ref m_carried])), (m_sheetBits, .inl (cy 0, 4, .inl ((f_X8_sheet sb ss sh fi px pb pn).2.2.1))), (m_sheetSize, .inl (cy 0, 4, .inl ((f_X8_sheet sb ss sh fi px pb pn).2.2.2.1))), (m_sheets, .inl (cy 0, 64, .inl ((f_X8_sheet sb ss sh fi px pb pn).2.2.2.2)))] := by
  refine yk_eI (cc := cX8_sheet) (maxL := 5) (by decide) rfl (Nat.le_of_ble_eq_true rfl) rfl ?_
  intro p e R s m args below meth c A Q ls H locs hx hb hml hown hts hRf hRl hA hK hG hP hD hS hl hQ
  have hP : va_P D vwCl [(ta, .inr (8, [.ref m_now, .ref m_undone, .ref m_slots, .ref m_slotKind, .ref m_hasSlot, .ref m_sheetBits, .ref m_sheetSize, .ref m_sheets, .int (nI u), .int fi, .ref m_fresh, .long aa, .long bb, .long dd, .int (nI ro), .ref m_rootWhich, .int db, .ref m_signs, .ref m_atNought, .int (nI mn), .ref m_change, .ref m_table, .ref m_carried])), (m_sheetBits, .inl (cy 0, 4, .inl sb)), (m_sheetSize, .inl (cy 0, 4, .inl ss)), (m_sheets, .inl (cy 0, 64, .inl sh))] H := hP
  have hl : lv_has ls 5 [(0, .ref ta), (1, .int px), (2, .int pb), (3, .int pn)] := hl
  have hown : s.vm.findClass RX8 = some m.cls := hown
  have hF : (f_X8_sheet sb ss sh fi px pb pn) = (f_X8_sheet sb ss sh fi px pb pn) := rfl
  refine lv_iload_n hx hb dX8_sheet_0 rfl (lv_at hl 1 rfl) ?_
  refine yk_i [] (va_runS (As := [.int px]) (rest := []) ⟨hx, hb, hml, hown, hts⟩ (c_X8_isSlot l D cy px H.size) (va_cwS 1 hts gX8_sheet_X8_isSlot rfl rfl rfl hs_X8_isSlot (yk_room hRf hRl rfl rfl)) (yk_ps hG hA hS hK hP hD [] (by decide +kernel) rfl) rfl rfl hl.1 rfl (lv_room (Nat.le_of_ble_eq_true rfl)) dX8_sheet_1 ⟨Nat.zero_le _, Nat.zero_le _⟩) hP hD hS hA rfl rfl (fun H locs hP9 hD9 hS9 => ?_)
  replace hP : va_P D vwCl [(ta, .inr (8, [.ref m_now, .ref m_undone, .ref m_slots, .ref m_slotKind, .ref m_hasSlot, .ref m_sheetBits, .ref m_sheetSize, .ref m_sheets, .int (nI u), .int fi, .ref m_fresh, .long aa, .long bb, .long dd, .int (nI ro), .ref m_rootWhich, .int db, .ref m_signs, .ref m_atNought, .int (nI mn), .ref m_change, .ref m_table, .ref m_carried])), (m_sheetBits, .inl (cy 0, 4, .inl sb)), (m_sheetSize, .inl (cy 0, 4, .inl ss)), (m_sheets, .inl (cy 0, 64, .inl sh))] H := hP9
  replace hD : va_D A [(ta, .inr (8, [.ref m_now, .ref m_undone, .ref m_slots, .ref m_slotKind, .ref m_hasSlot, .ref m_sheetBits, .ref m_sheetSize, .ref m_sheets, .int (nI u), .int fi, .ref m_fresh, .long aa, .long bb, .long dd, .int (nI ro), .ref m_rootWhich, .int db, .ref m_signs, .ref m_atNought, .int (nI mn), .ref m_change, .ref m_table, .ref m_carried])), (m_sheetBits, .inl (cy 0, 4, .inl sb)), (m_sheetSize, .inl (cy 0, 4, .inl ss)), (m_sheets, .inl (cy 0, 64, .inl sh))] := hD9
  replace hS := hS9
  clear hP9 hD9 hS9
  refine lv_if_eq (tgt := 29) hx hb dX8_sheet_4 (by decide) (fun hc1 => ?_) (fun hc1 => ?_)
  · replace hF := hF.trans (if_pos hc1)
    refine lv_aload_n hx hb dX8_sheet_29 rfl (lv_at hl 0 rfl) ?_
    refine lv_ldc (v := (-1000001)) hx hb hown (hts _ kX8_sheet_0) dX8_sheet_30 ?_
    refine yk_i [0] (va_runV (As := [.int (-1000001)]) (rest := []) ⟨hx, hb, hml, hown, hts⟩ (c_X8_found l D cy ta m_now m_undone m_slots m_slotKind m_hasSlot m_sheetBits m_sheetSize m_sheets m_fresh m_rootWhich m_signs m_atNought m_change m_table m_carried u fi aa bb dd ro db mn (-1000001) H.size) (cwV 1 hts gX8_sheet_X8_found rfl rfl rfl hv_X8_found (yk_room hRf hRl rfl rfl)) (yk_pv (q := (RX8, TX8, 23)) hG hA hS hK hP hD [0] (by decide +kernel) rfl rfl rfl) rfl rfl hl.1 rfl (lv_room (Nat.le_of_ble_eq_true rfl)) dX8_sheet_32 ⟨Nat.zero_le _, Nat.zero_le _⟩) hP hD hS hA rfl rfl (fun H locs hP9 hD9 hS9 => ?_)
    replace hP : va_P D vwCl [(ta, .inr (8, [.ref m_now, .ref m_undone, .ref m_slots, .ref m_slotKind, .ref m_hasSlot, .ref m_sheetBits, .ref m_sheetSize, .ref m_sheets, .int (nI u), .int ((f_X8_found fi (-1000001)).2), .ref m_fresh, .long aa, .long bb, .long dd, .int (nI ro), .ref m_rootWhich, .int db, .ref m_signs, .ref m_atNought, .int (nI mn), .ref m_change, .ref m_table, .ref m_carried])), (m_sheetBits, .inl (cy 0, 4, .inl sb)), (m_sheetSize, .inl (cy 0, 4, .inl ss)), (m_sheets, .inl (cy 0, 64, .inl sh))] H := hP9
    replace hD : va_D A [(ta, .inr (8, [.ref m_now, .ref m_undone, .ref m_slots, .ref m_slotKind, .ref m_hasSlot, .ref m_sheetBits, .ref m_sheetSize, .ref m_sheets, .int (nI u), .int ((f_X8_found fi (-1000001)).2), .ref m_fresh, .long aa, .long bb, .long dd, .int (nI ro), .ref m_rootWhich, .int db, .ref m_signs, .ref m_atNought, .int (nI mn), .ref m_change, .ref m_table, .ref m_carried])), (m_sheetBits, .inl (cy 0, 4, .inl sb)), (m_sheetSize, .inl (cy 0, 4, .inl ss)), (m_sheets, .inl (cy 0, 64, .inl sh))] := hD9
    replace hS := hS9
    clear hP9 hD9 hS9
    have hF : f_X8_sheet sb ss sh fi px pb pn = (((f_X8_found fi (-1000001)).1), ((f_X8_found fi (-1000001)).2), sb, ss, sh) := hF
    have hf0 := yk_fst hF
    have hg0 := yk_snd hF
    have hf1 := yk_fst hg0
    have hg1 := yk_snd hg0
    have hf2 := yk_fst hg1
    have hg2 := yk_snd hg1
    have hf3 := yk_fst hg2
    have hg3 := yk_snd hg2
    rw [hf0, hf1, hf2, hf3, hg3] at hQ
    exact hQ _ _ _ _ dX8_sheet_35 hP hS
  · replace hF := hF.trans (if_neg hc1)
    refine lv_iload_n hx hb dX8_sheet_7 rfl (lv_at hl 2 rfl) ?_
    have K36 : ∀ (H : Heap) (locs : List Loc) (ls : Array Slot), f_X8_sheet sb ss sh fi px pb pn = fb_X8_sheet_b36 sb ss sh fi px pb pn → va_P D vwCl [(ta, .inr (8, [.ref m_now, .ref m_undone, .ref m_slots, .ref m_slotKind, .ref m_hasSlot, .ref m_sheetBits, .ref m_sheetSize, .ref m_sheets, .int (nI u), .int fi, .ref m_fresh, .long aa, .long bb, .long dd, .int (nI ro), .ref m_rootWhich, .int db, .ref m_signs, .ref m_atNought, .int (nI mn), .ref m_change, .ref m_table, .ref m_carried])), (m_sheetBits, .inl (cy 0, 4, .inl sb)), (m_sheetSize, .inl (cy 0, 4, .inl ss)), (m_sheets, .inl (cy 0, 64, .inl sh))] H → va_D A [(ta, .inr (8, [.ref m_now, .ref m_undone, .ref m_slots, .ref m_slotKind, .ref m_hasSlot, .ref m_sheetBits, .ref m_sheetSize, .ref m_sheets, .int (nI u), .int fi, .ref m_fresh, .long aa, .long bb, .long dd, .int (nI ro), .ref m_rootWhich, .int db, .ref m_signs, .ref m_atNought, .int (nI mn), .ref m_change, .ref m_table, .ref m_carried])), (m_sheetBits, .inl (cy 0, 4, .inl sb)), (m_sheetSize, .inl (cy 0, 4, .inl ss)), (m_sheets, .inl (cy 0, 64, .inl sh))] → va_S A s.heap H locs → lv_has ls 5 [(0, .ref ta), (1, .int px), (2, .int pb), (3, .int pn)] → W p l e R s m args below meth c H locs 0 0 Q (F0 m 36 ls []) := by
      clear hP hD hS hl hF
      intro H locs ls hF hP hD hS hl
      have hq6 : px = nI px.toNatClampNeg := (ix_sl (by assumption)).1
      have hq6b : px.toNatClampNeg < 4 := (ix_sl (by assumption)).2
      rw [hq6] at hl
      refine lv_iload_n hx hb dX8_sheet_36 rfl (lv_at hl 3 rfl) ?_
      refine lv_if_ge (tgt := 47) hx hb dX8_sheet_37 (by decide) (fun hc7 => ?_) (fun hc7 => ?_)
      · replace hF := hF.trans (if_pos hc7)
        refine lv_iload_n hx hb dX8_sheet_47 rfl (lv_at hl 3 rfl) ?_
        refine lv_bipush (v := 16) hx hb dX8_sheet_48 (by decide) ?_
        refine lv_icmp_le (tgt := 60) hx hb dX8_sheet_50 (by decide) (fun hc8 => ?_) (fun hc8 => ?_)
        · replace hF := hF.trans (if_pos hc8)
          refine lv_aload_n hx hb dX8_sheet_60 rfl (lv_at hl 0 rfl) ?_
          refine va_get (D := D) (ci := 8) (v := .ref m_sheetBits) (C := RX8) (T := TX8) (N := 23) hx hb hts uX8_sheet_X8 hown hK hP 0 rfl rfl 5 (by decide) (hts _ kX8_sheet_1) (fun _ h9 => h9) rfl dX8_sheet_61 ?_
          refine lv_iload_n hx hb dX8_sheet_64 rfl (lv_at hl 1 rfl) ?_
          refine lv_iload_n hx hb dX8_sheet_65 rfl (lv_at hl 2 rfl) ?_
          refine yk_ist hx hb hK hP hD hS 1 0 rfl rfl px.toNatClampNeg (by omega) (by decide) dX8_sheet_66 (fun H locs hP9 hD9 hS9 => ?_)
          replace hP : va_P D vwCl [(ta, .inr (8, [.ref m_now, .ref m_undone, .ref m_slots, .ref m_slotKind, .ref m_hasSlot, .ref m_sheetBits, .ref m_sheetSize, .ref m_sheets, .int (nI u), .int fi, .ref m_fresh, .long aa, .long bb, .long dd, .int (nI ro), .ref m_rootWhich, .int db, .ref m_signs, .ref m_atNought, .int (nI mn), .ref m_change, .ref m_table, .ref m_carried])), (m_sheetBits, .inl (cy 0, 4, .inl (upd sb px.toNatClampNeg pb))), (m_sheetSize, .inl (cy 0, 4, .inl ss)), (m_sheets, .inl (cy 0, 64, .inl sh))] H := hP9
          replace hD : va_D A [(ta, .inr (8, [.ref m_now, .ref m_undone, .ref m_slots, .ref m_slotKind, .ref m_hasSlot, .ref m_sheetBits, .ref m_sheetSize, .ref m_sheets, .int (nI u), .int fi, .ref m_fresh, .long aa, .long bb, .long dd, .int (nI ro), .ref m_rootWhich, .int db, .ref m_signs, .ref m_atNought, .int (nI mn), .ref m_change, .ref m_table, .ref m_carried])), (m_sheetBits, .inl (cy 0, 4, .inl (upd sb px.toNatClampNeg pb))), (m_sheetSize, .inl (cy 0, 4, .inl ss)), (m_sheets, .inl (cy 0, 64, .inl sh))] := hD9
          replace hS := hS9
          clear hP9 hD9 hS9
          refine lv_aload_n hx hb dX8_sheet_67 rfl (lv_at hl 0 rfl) ?_
          refine va_get (D := D) (ci := 8) (v := .ref m_sheetSize) (C := RX8) (T := TX8) (N := 23) hx hb hts uX8_sheet_X8 hown hK hP 0 rfl rfl 6 (by decide) (hts _ kX8_sheet_2) (fun _ h9 => h9) rfl dX8_sheet_68 ?_
          refine lv_iload_n hx hb dX8_sheet_71 rfl (lv_at hl 1 rfl) ?_
          refine lv_iload_n hx hb dX8_sheet_72 rfl (lv_at hl 2 rfl) ?_
          have J11 : ∀ (v10 : Int32) (H : Heap) (locs : List Loc) (ls : Array Slot), v10 = (if pb = 0 then 0 else pn) → va_P D vwCl [(ta, .inr (8, [.ref m_now, .ref m_undone, .ref m_slots, .ref m_slotKind, .ref m_hasSlot, .ref m_sheetBits, .ref m_sheetSize, .ref m_sheets, .int (nI u), .int fi, .ref m_fresh, .long aa, .long bb, .long dd, .int (nI ro), .ref m_rootWhich, .int db, .ref m_signs, .ref m_atNought, .int (nI mn), .ref m_change, .ref m_table, .ref m_carried])), (m_sheetBits, .inl (cy 0, 4, .inl (upd sb px.toNatClampNeg pb))), (m_sheetSize, .inl (cy 0, 4, .inl ss)), (m_sheets, .inl (cy 0, 64, .inl sh))] H → va_D A [(ta, .inr (8, [.ref m_now, .ref m_undone, .ref m_slots, .ref m_slotKind, .ref m_hasSlot, .ref m_sheetBits, .ref m_sheetSize, .ref m_sheets, .int (nI u), .int fi, .ref m_fresh, .long aa, .long bb, .long dd, .int (nI ro), .ref m_rootWhich, .int db, .ref m_signs, .ref m_atNought, .int (nI mn), .ref m_change, .ref m_table, .ref m_carried])), (m_sheetBits, .inl (cy 0, 4, .inl (upd sb px.toNatClampNeg pb))), (m_sheetSize, .inl (cy 0, 4, .inl ss)), (m_sheets, .inl (cy 0, 64, .inl sh))] → va_S A s.heap H locs → lv_has ls 5 [(0, .ref ta), (1, .int (nI px.toNatClampNeg)), (2, .int pb), (3, .int pn)] → W p l e R s m args below meth c H locs 0 0 Q (F0 m 81 ls [.int v10, .int (nI px.toNatClampNeg), .ref m_sheetSize]) := by
            clear hP hD hS hl
            intro v10 H locs ls ev10 hP hD hS hl
            subst ev10
            refine yk_ist hx hb hK hP hD hS 2 0 rfl rfl px.toNatClampNeg (by omega) (by decide) dX8_sheet_81 (fun H locs hP9 hD9 hS9 => ?_)
            replace hP : va_P D vwCl [(ta, .inr (8, [.ref m_now, .ref m_undone, .ref m_slots, .ref m_slotKind, .ref m_hasSlot, .ref m_sheetBits, .ref m_sheetSize, .ref m_sheets, .int (nI u), .int fi, .ref m_fresh, .long aa, .long bb, .long dd, .int (nI ro), .ref m_rootWhich, .int db, .ref m_signs, .ref m_atNought, .int (nI mn), .ref m_change, .ref m_table, .ref m_carried])), (m_sheetBits, .inl (cy 0, 4, .inl (upd sb px.toNatClampNeg pb))), (m_sheetSize, .inl (cy 0, 4, .inl (upd ss px.toNatClampNeg (if pb = 0 then 0 else pn)))), (m_sheets, .inl (cy 0, 64, .inl sh))] H := hP9
            replace hD : va_D A [(ta, .inr (8, [.ref m_now, .ref m_undone, .ref m_slots, .ref m_slotKind, .ref m_hasSlot, .ref m_sheetBits, .ref m_sheetSize, .ref m_sheets, .int (nI u), .int fi, .ref m_fresh, .long aa, .long bb, .long dd, .int (nI ro), .ref m_rootWhich, .int db, .ref m_signs, .ref m_atNought, .int (nI mn), .ref m_change, .ref m_table, .ref m_carried])), (m_sheetBits, .inl (cy 0, 4, .inl (upd sb px.toNatClampNeg pb))), (m_sheetSize, .inl (cy 0, 4, .inl (upd ss px.toNatClampNeg (if pb = 0 then 0 else pn)))), (m_sheets, .inl (cy 0, 64, .inl sh))] := hD9
            replace hS := hS9
            clear hP9 hD9 hS9
            refine lv_iconst (v := 0) hx hb dX8_sheet_82 (by decide) ?_
            refine lv_istore (lv' := [(4, .int 0), (0, .ref ta), (1, .int (nI px.toNatClampNeg)), (2, .int pb), (3, .int pn)]) hx hb dX8_sheet_83 hl (by decide) rfl (fun ls hl9 => ?_)
            replace hl := hl9
            clear hl9
            have J14 : ∀ (H : Heap) (locs : List Loc) (ls : Array Slot), va_P D vwCl [(ta, .inr (8, [.ref m_now, .ref m_undone, .ref m_slots, .ref m_slotKind, .ref m_hasSlot, .ref m_sheetBits, .ref m_sheetSize, .ref m_sheets, .int (nI u), .int fi, .ref m_fresh, .long aa, .long bb, .long dd, .int (nI ro), .ref m_rootWhich, .int db, .ref m_signs, .ref m_atNought, .int (nI mn), .ref m_change, .ref m_table, .ref m_carried])), (m_sheetBits, .inl (cy 0, 4, .inl (upd sb px.toNatClampNeg pb))), (m_sheetSize, .inl (cy 0, 4, .inl (upd ss px.toNatClampNeg (if pb = 0 then 0 else pn)))), (m_sheets, .inl (cy 0, 64, .inl (l_X8_sheet_85 sb ss sh fi px pb pn (16 + 1) 0 sh)))] H → va_D A [(ta, .inr (8, [.ref m_now, .ref m_undone, .ref m_slots, .ref m_slotKind, .ref m_hasSlot, .ref m_sheetBits, .ref m_sheetSize, .ref m_sheets, .int (nI u), .int fi, .ref m_fresh, .long aa, .long bb, .long dd, .int (nI ro), .ref m_rootWhich, .int db, .ref m_signs, .ref m_atNought, .int (nI mn), .ref m_change, .ref m_table, .ref m_carried])), (m_sheetBits, .inl (cy 0, 4, .inl (upd sb px.toNatClampNeg pb))), (m_sheetSize, .inl (cy 0, 4, .inl (upd ss px.toNatClampNeg (if pb = 0 then 0 else pn)))), (m_sheets, .inl (cy 0, 64, .inl (l_X8_sheet_85 sb ss sh fi px pb pn (16 + 1) 0 sh)))] → va_S A s.heap H locs → lv_has ls 5 [(0, .ref ta), (1, .int (nI px.toNatClampNeg)), (2, .int pb), (3, .int pn)] → W p l e R s m args below meth c H locs 0 0 Q (F0 m 111 ls []) := by
              clear hP hD hS hl
              intro H locs ls hP hD hS hl
              refine lv_aload_n hx hb dX8_sheet_111 rfl (lv_at hl 0 rfl) ?_
              refine va_get (D := D) (ci := 8) (v := .ref m_sheetSize) (C := RX8) (T := TX8) (N := 23) hx hb hts uX8_sheet_X8 hown hK hP 0 rfl rfl 6 (by decide) (hts _ kX8_sheet_2) (fun _ h9 => h9) rfl dX8_sheet_112 ?_
              refine lv_iload_n hx hb dX8_sheet_115 rfl (lv_at hl 1 rfl) ?_
              refine yk_ild hx hb hK hP 2 0 rfl rfl px.toNatClampNeg (by omega) (by decide) dX8_sheet_116 ?_
              have hF : f_X8_sheet sb ss sh fi px pb pn = (((upd ss px.toNatClampNeg (if pb = 0 then 0 else pn)) px.toNatClampNeg), fi, (upd sb px.toNatClampNeg pb), (upd ss px.toNatClampNeg (if pb = 0 then 0 else pn)), (l_X8_sheet_85 sb ss sh fi px pb pn (16 + 1) 0 sh)) := hF
              have hf0 := yk_fst hF
              have hg0 := yk_snd hF
              have hf1 := yk_fst hg0
              have hg1 := yk_snd hg0
              have hf2 := yk_fst hg1
              have hg2 := yk_snd hg1
              have hf3 := yk_fst hg2
              have hg3 := yk_snd hg2
              rw [hf0, hf1, hf2, hf3, hg3] at hQ
              exact hQ _ _ _ _ dX8_sheet_117 hP hS
            have L85 : ∀ (M9 n85 ki : Nat) (zsheets_85 : Nat → Int32) (H : Heap) (locs : List Loc) (ls : Array Slot), n85 < M9 → ki + n85 = 16 → (l_X8_sheet_85 sb ss sh fi px pb pn (16 + 1) 0 sh) = (l_X8_sheet_85 sb ss sh fi px pb pn (n85 + 1) ki zsheets_85) → va_P D vwCl [(ta, .inr (8, [.ref m_now, .ref m_undone, .ref m_slots, .ref m_slotKind, .ref m_hasSlot, .ref m_sheetBits, .ref m_sheetSize, .ref m_sheets, .int (nI u), .int fi, .ref m_fresh, .long aa, .long bb, .long dd, .int (nI ro), .ref m_rootWhich, .int db, .ref m_signs, .ref m_atNought, .int (nI mn), .ref m_change, .ref m_table, .ref m_carried])), (m_sheetBits, .inl (cy 0, 4, .inl (upd sb px.toNatClampNeg pb))), (m_sheetSize, .inl (cy 0, 4, .inl (upd ss px.toNatClampNeg (if pb = 0 then 0 else pn)))), (m_sheets, .inl (cy 0, 64, .inl zsheets_85))] H → va_D A [(ta, .inr (8, [.ref m_now, .ref m_undone, .ref m_slots, .ref m_slotKind, .ref m_hasSlot, .ref m_sheetBits, .ref m_sheetSize, .ref m_sheets, .int (nI u), .int fi, .ref m_fresh, .long aa, .long bb, .long dd, .int (nI ro), .ref m_rootWhich, .int db, .ref m_signs, .ref m_atNought, .int (nI mn), .ref m_change, .ref m_table, .ref m_carried])), (m_sheetBits, .inl (cy 0, 4, .inl (upd sb px.toNatClampNeg pb))), (m_sheetSize, .inl (cy 0, 4, .inl (upd ss px.toNatClampNeg (if pb = 0 then 0 else pn)))), (m_sheets, .inl (cy 0, 64, .inl zsheets_85))] → va_S A s.heap H locs → lv_has ls 5 [(0, .ref ta), (1, .int (nI px.toNatClampNeg)), (2, .int pb), (3, .int pn), (4, .int (nI ki))] → W p l e R s m args below meth c H locs 0 0 Q (F0 m 85 ls []) := by
              clear hP hD hS hl
              intro M9
              induction M9 with
              | zero => intro n85 ki _ _ _ _ hn; exact absurd hn (Nat.not_lt_zero _)
              | succ M9 ih85 =>
                intro n85 ki zsheets_85 H locs ls hn85 hk85 hV85 hP hD hS hl
                refine lv_iload hx hb dX8_sheet_85 (lv_at hl 4 rfl) ?_
                refine lv_bipush (v := 16) hx hb dX8_sheet_87 (by decide) ?_
                refine lv_icmp_ge (tgt := 111) hx hb dX8_sheet_89 (by decide) (fun hc13 => ?_) (fun hc13 => ?_)
                · replace hV85 := hV85.trans (if_pos hc13)
                  have hV85 : (l_X8_sheet_85 sb ss sh fi px pb pn (16 + 1) 0 sh) = zsheets_85 := hV85
                  have J14 := J14
                  rw [hV85] at J14
                  exact J14 _ _ _ hP hD hS (lv_sub hl [0, 1, 2, 3] rfl)
                · replace hV85 := hV85.trans (if_neg hc13)
                  have hlt85 : ki < 16 := yk_lt hk85 (by omega) hc13
                  refine lv_aload_n hx hb dX8_sheet_92 rfl (lv_at hl 0 rfl) ?_
                  refine va_get (D := D) (ci := 8) (v := .ref m_sheets) (C := RX8) (T := TX8) (N := 23) hx hb hts uX8_sheet_X8 hown hK hP 0 rfl rfl 7 (by decide) (hts _ kX8_sheet_3) (fun _ h9 => h9) rfl dX8_sheet_93 ?_
                  refine lv_bipush (v := 16) hx hb dX8_sheet_96 (by decide) ?_
                  refine lv_iload_n hx hb dX8_sheet_98 rfl (lv_at hl 1 rfl) ?_
                  refine lv_imul hx hb dX8_sheet_99 ?_
                  refine yk_ti (y := nI (16 * px.toNatClampNeg)) (pk_mul 16 px.toNatClampNeg) ?_
                  refine lv_iload hx hb dX8_sheet_100 (lv_at hl 4 rfl) ?_
                  refine lv_iadd hx hb dX8_sheet_102 ?_
                  refine yk_ti (y := nI ((16 * px.toNatClampNeg) + ki)) (nI_add (16 * px.toNatClampNeg) ki) ?_
                  refine lv_iconst (v := 0) hx hb dX8_sheet_103 (by decide) ?_
                  refine yk_ist hx hb hK hP hD hS 3 0 rfl rfl ((16 * px.toNatClampNeg) + ki) (by omega) (by decide) dX8_sheet_104 (fun H locs hP9 hD9 hS9 => ?_)
                  replace hP : va_P D vwCl [(ta, .inr (8, [.ref m_now, .ref m_undone, .ref m_slots, .ref m_slotKind, .ref m_hasSlot, .ref m_sheetBits, .ref m_sheetSize, .ref m_sheets, .int (nI u), .int fi, .ref m_fresh, .long aa, .long bb, .long dd, .int (nI ro), .ref m_rootWhich, .int db, .ref m_signs, .ref m_atNought, .int (nI mn), .ref m_change, .ref m_table, .ref m_carried])), (m_sheetBits, .inl (cy 0, 4, .inl (upd sb px.toNatClampNeg pb))), (m_sheetSize, .inl (cy 0, 4, .inl (upd ss px.toNatClampNeg (if pb = 0 then 0 else pn)))), (m_sheets, .inl (cy 0, 64, .inl (upd zsheets_85 ((16 * px.toNatClampNeg) + ki) 0)))] H := hP9
                  replace hD : va_D A [(ta, .inr (8, [.ref m_now, .ref m_undone, .ref m_slots, .ref m_slotKind, .ref m_hasSlot, .ref m_sheetBits, .ref m_sheetSize, .ref m_sheets, .int (nI u), .int fi, .ref m_fresh, .long aa, .long bb, .long dd, .int (nI ro), .ref m_rootWhich, .int db, .ref m_signs, .ref m_atNought, .int (nI mn), .ref m_change, .ref m_table, .ref m_carried])), (m_sheetBits, .inl (cy 0, 4, .inl (upd sb px.toNatClampNeg pb))), (m_sheetSize, .inl (cy 0, 4, .inl (upd ss px.toNatClampNeg (if pb = 0 then 0 else pn)))), (m_sheets, .inl (cy 0, 64, .inl (upd zsheets_85 ((16 * px.toNatClampNeg) + ki) 0)))] := hD9
                  replace hS := hS9
                  clear hP9 hD9 hS9
                  refine lv_iinc (v := nI (ki + 1)) (lv' := [(4, .int (nI (ki + 1))), (0, .ref ta), (1, .int (nI px.toNatClampNeg)), (2, .int pb), (3, .int pn)]) hx hb dX8_sheet_105 hl (k := 4) rfl (yk_inc ki) (by decide) rfl (fun ls hl9 => ?_)
                  replace hl := hl9
                  clear hl9
                  refine lv_goto (tgt := 85) hx hb dX8_sheet_108 (by decide) ?_
                  obtain ⟨n9, rfl⟩ : ∃ n9, n85 = n9 + 1 := ⟨n85 - 1, by omega⟩
                  exact ih85 n9 (ki + 1) (upd zsheets_85 ((16 * px.toNatClampNeg) + ki) 0) _ _ _ (by omega) (by omega)  hV85 hP hD hS (lv_sub hl [1, 2, 3, 4, 0] rfl)
            exact L85 (16 + 1) 16 0 sh _ _ _ (Nat.lt_succ_self _) (by omega)  rfl hP hD hS (lv_sub hl [1, 2, 3, 4, 0] rfl)
          refine lv_if_ne (tgt := 80) hx hb dX8_sheet_73 (by decide) (fun hc9 => ?_) (fun hc9 => ?_)
          · refine lv_iload_n hx hb dX8_sheet_80 rfl (lv_at hl 3 rfl) ?_
            exact J11 _ _ _ _ ((if_neg hc9).symm) hP hD hS (lv_sub hl [0, 1, 2, 3] rfl)
          · refine lv_iconst (v := 0) hx hb dX8_sheet_76 (by decide) ?_
            refine lv_goto (tgt := 81) hx hb dX8_sheet_77 (by decide) ?_
            exact J11 _ _ _ _ ((if_pos hc9).symm) hP hD hS (lv_sub hl [0, 1, 2, 3] rfl)
        · replace hF := hF.trans (if_neg hc8)
          refine lv_aload_n hx hb dX8_sheet_53 rfl (lv_at hl 0 rfl) ?_
          refine lv_ldc (v := (-1000001)) hx hb hown (hts _ kX8_sheet_0) dX8_sheet_54 ?_
          refine yk_i [0] (va_runV (As := [.int (-1000001)]) (rest := []) ⟨hx, hb, hml, hown, hts⟩ (c_X8_found l D cy ta m_now m_undone m_slots m_slotKind m_hasSlot m_sheetBits m_sheetSize m_sheets m_fresh m_rootWhich m_signs m_atNought m_change m_table m_carried u fi aa bb dd ro db mn (-1000001) H.size) (cwV 1 hts gX8_sheet_X8_found rfl rfl rfl hv_X8_found (yk_room hRf hRl rfl rfl)) (yk_pv (q := (RX8, TX8, 23)) hG hA hS hK hP hD [0] (by decide +kernel) rfl rfl rfl) rfl rfl hl.1 rfl (lv_room (Nat.le_of_ble_eq_true rfl)) dX8_sheet_56 ⟨Nat.zero_le _, Nat.zero_le _⟩) hP hD hS hA rfl rfl (fun H locs hP9 hD9 hS9 => ?_)
          replace hP : va_P D vwCl [(ta, .inr (8, [.ref m_now, .ref m_undone, .ref m_slots, .ref m_slotKind, .ref m_hasSlot, .ref m_sheetBits, .ref m_sheetSize, .ref m_sheets, .int (nI u), .int ((f_X8_found fi (-1000001)).2), .ref m_fresh, .long aa, .long bb, .long dd, .int (nI ro), .ref m_rootWhich, .int db, .ref m_signs, .ref m_atNought, .int (nI mn), .ref m_change, .ref m_table, .ref m_carried])), (m_sheetBits, .inl (cy 0, 4, .inl sb)), (m_sheetSize, .inl (cy 0, 4, .inl ss)), (m_sheets, .inl (cy 0, 64, .inl sh))] H := hP9
          replace hD : va_D A [(ta, .inr (8, [.ref m_now, .ref m_undone, .ref m_slots, .ref m_slotKind, .ref m_hasSlot, .ref m_sheetBits, .ref m_sheetSize, .ref m_sheets, .int (nI u), .int ((f_X8_found fi (-1000001)).2), .ref m_fresh, .long aa, .long bb, .long dd, .int (nI ro), .ref m_rootWhich, .int db, .ref m_signs, .ref m_atNought, .int (nI mn), .ref m_change, .ref m_table, .ref m_carried])), (m_sheetBits, .inl (cy 0, 4, .inl sb)), (m_sheetSize, .inl (cy 0, 4, .inl ss)), (m_sheets, .inl (cy 0, 64, .inl sh))] := hD9
          replace hS := hS9
          clear hP9 hD9 hS9
          have hF : f_X8_sheet sb ss sh fi px pb pn = (((f_X8_found fi (-1000001)).1), ((f_X8_found fi (-1000001)).2), sb, ss, sh) := hF
          have hf0 := yk_fst hF
          have hg0 := yk_snd hF
          have hf1 := yk_fst hg0
          have hg1 := yk_snd hg0
          have hf2 := yk_fst hg1
          have hg2 := yk_snd hg1
          have hf3 := yk_fst hg2
          have hg3 := yk_snd hg2
          rw [hf0, hf1, hf2, hf3, hg3] at hQ
          exact hQ _ _ _ _ dX8_sheet_59 hP hS
      · replace hF := hF.trans (if_neg hc7)
        refine lv_aload_n hx hb dX8_sheet_40 rfl (lv_at hl 0 rfl) ?_
        refine lv_ldc (v := (-1000003)) hx hb hown (hts _ kX8_sheet_4) dX8_sheet_41 ?_
        refine yk_i [0] (va_runV (As := [.int (-1000003)]) (rest := []) ⟨hx, hb, hml, hown, hts⟩ (c_X8_found l D cy ta m_now m_undone m_slots m_slotKind m_hasSlot m_sheetBits m_sheetSize m_sheets m_fresh m_rootWhich m_signs m_atNought m_change m_table m_carried u fi aa bb dd ro db mn (-1000003) H.size) (cwV 1 hts gX8_sheet_X8_found rfl rfl rfl hv_X8_found (yk_room hRf hRl rfl rfl)) (yk_pv (q := (RX8, TX8, 23)) hG hA hS hK hP hD [0] (by decide +kernel) rfl rfl rfl) rfl rfl hl.1 rfl (lv_room (Nat.le_of_ble_eq_true rfl)) dX8_sheet_43 ⟨Nat.zero_le _, Nat.zero_le _⟩) hP hD hS hA rfl rfl (fun H locs hP9 hD9 hS9 => ?_)
        replace hP : va_P D vwCl [(ta, .inr (8, [.ref m_now, .ref m_undone, .ref m_slots, .ref m_slotKind, .ref m_hasSlot, .ref m_sheetBits, .ref m_sheetSize, .ref m_sheets, .int (nI u), .int ((f_X8_found fi (-1000003)).2), .ref m_fresh, .long aa, .long bb, .long dd, .int (nI ro), .ref m_rootWhich, .int db, .ref m_signs, .ref m_atNought, .int (nI mn), .ref m_change, .ref m_table, .ref m_carried])), (m_sheetBits, .inl (cy 0, 4, .inl sb)), (m_sheetSize, .inl (cy 0, 4, .inl ss)), (m_sheets, .inl (cy 0, 64, .inl sh))] H := hP9
        replace hD : va_D A [(ta, .inr (8, [.ref m_now, .ref m_undone, .ref m_slots, .ref m_slotKind, .ref m_hasSlot, .ref m_sheetBits, .ref m_sheetSize, .ref m_sheets, .int (nI u), .int ((f_X8_found fi (-1000003)).2), .ref m_fresh, .long aa, .long bb, .long dd, .int (nI ro), .ref m_rootWhich, .int db, .ref m_signs, .ref m_atNought, .int (nI mn), .ref m_change, .ref m_table, .ref m_carried])), (m_sheetBits, .inl (cy 0, 4, .inl sb)), (m_sheetSize, .inl (cy 0, 4, .inl ss)), (m_sheets, .inl (cy 0, 64, .inl sh))] := hD9
        replace hS := hS9
        clear hP9 hD9 hS9
        have hF : f_X8_sheet sb ss sh fi px pb pn = (((f_X8_found fi (-1000003)).1), ((f_X8_found fi (-1000003)).2), sb, ss, sh) := hF
        have hf0 := yk_fst hF
        have hg0 := yk_snd hF
        have hf1 := yk_fst hg0
        have hg1 := yk_snd hg0
        have hf2 := yk_fst hg1
        have hg2 := yk_snd hg1
        have hf3 := yk_fst hg2
        have hg3 := yk_snd hg2
        rw [hf0, hf1, hf2, hf3, hg3] at hQ
        exact hQ _ _ _ _ dX8_sheet_46 hP hS
    refine lv_if_eq (tgt := 36) hx hb dX8_sheet_8 (by decide) (fun hc2 => ?_) (fun hc2 => ?_)
    · replace hF := hF.trans (if_pos hc2)
      exact K36 _ _ _ hF hP hD hS (lv_sub hl [0, 1, 2, 3] rfl)
    · replace hF := hF.trans (if_neg hc2)
      refine lv_iload_n hx hb dX8_sheet_11 rfl (lv_at hl 2 rfl) ?_
      refine lv_bipush (v := 8) hx hb dX8_sheet_12 (by decide) ?_
      refine lv_icmp_eq (tgt := 36) hx hb dX8_sheet_14 (by decide) (fun hc3 => ?_) (fun hc3 => ?_)
      · replace hF := hF.trans (if_pos hc3)
        exact K36 _ _ _ hF hP hD hS (lv_sub hl [0, 1, 2, 3] rfl)
      · replace hF := hF.trans (if_neg hc3)
        refine lv_iload_n hx hb dX8_sheet_17 rfl (lv_at hl 2 rfl) ?_
        refine lv_bipush (v := 16) hx hb dX8_sheet_18 (by decide) ?_
        refine lv_icmp_eq (tgt := 36) hx hb dX8_sheet_20 (by decide) (fun hc4 => ?_) (fun hc4 => ?_)
        · replace hF := hF.trans (if_pos hc4)
          exact K36 _ _ _ hF hP hD hS (lv_sub hl [0, 1, 2, 3] rfl)
        · replace hF := hF.trans (if_neg hc4)
          refine lv_iload_n hx hb dX8_sheet_23 rfl (lv_at hl 2 rfl) ?_
          refine lv_bipush (v := 32) hx hb dX8_sheet_24 (by decide) ?_
          refine lv_icmp_eq (tgt := 36) hx hb dX8_sheet_26 (by decide) (fun hc5 => ?_) (fun hc5 => ?_)
          · replace hF := hF.trans (if_pos hc5)
            exact K36 _ _ _ hF hP hD hS (lv_sub hl [0, 1, 2, 3] rfl)
          · replace hF := hF.trans (if_neg hc5)
            refine lv_aload_n hx hb dX8_sheet_29 rfl (lv_at hl 0 rfl) ?_
            refine lv_ldc (v := (-1000001)) hx hb hown (hts _ kX8_sheet_0) dX8_sheet_30 ?_
            refine yk_i [0] (va_runV (As := [.int (-1000001)]) (rest := []) ⟨hx, hb, hml, hown, hts⟩ (c_X8_found l D cy ta m_now m_undone m_slots m_slotKind m_hasSlot m_sheetBits m_sheetSize m_sheets m_fresh m_rootWhich m_signs m_atNought m_change m_table m_carried u fi aa bb dd ro db mn (-1000001) H.size) (cwV 1 hts gX8_sheet_X8_found rfl rfl rfl hv_X8_found (yk_room hRf hRl rfl rfl)) (yk_pv (q := (RX8, TX8, 23)) hG hA hS hK hP hD [0] (by decide +kernel) rfl rfl rfl) rfl rfl hl.1 rfl (lv_room (Nat.le_of_ble_eq_true rfl)) dX8_sheet_32 ⟨Nat.zero_le _, Nat.zero_le _⟩) hP hD hS hA rfl rfl (fun H locs hP9 hD9 hS9 => ?_)
            replace hP : va_P D vwCl [(ta, .inr (8, [.ref m_now, .ref m_undone, .ref m_slots, .ref m_slotKind, .ref m_hasSlot, .ref m_sheetBits, .ref m_sheetSize, .ref m_sheets, .int (nI u), .int ((f_X8_found fi (-1000001)).2), .ref m_fresh, .long aa, .long bb, .long dd, .int (nI ro), .ref m_rootWhich, .int db, .ref m_signs, .ref m_atNought, .int (nI mn), .ref m_change, .ref m_table, .ref m_carried])), (m_sheetBits, .inl (cy 0, 4, .inl sb)), (m_sheetSize, .inl (cy 0, 4, .inl ss)), (m_sheets, .inl (cy 0, 64, .inl sh))] H := hP9
            replace hD : va_D A [(ta, .inr (8, [.ref m_now, .ref m_undone, .ref m_slots, .ref m_slotKind, .ref m_hasSlot, .ref m_sheetBits, .ref m_sheetSize, .ref m_sheets, .int (nI u), .int ((f_X8_found fi (-1000001)).2), .ref m_fresh, .long aa, .long bb, .long dd, .int (nI ro), .ref m_rootWhich, .int db, .ref m_signs, .ref m_atNought, .int (nI mn), .ref m_change, .ref m_table, .ref m_carried])), (m_sheetBits, .inl (cy 0, 4, .inl sb)), (m_sheetSize, .inl (cy 0, 4, .inl ss)), (m_sheets, .inl (cy 0, 64, .inl sh))] := hD9
            replace hS := hS9
            clear hP9 hD9 hS9
            have hF : f_X8_sheet sb ss sh fi px pb pn = (((f_X8_found fi (-1000001)).1), ((f_X8_found fi (-1000001)).2), sb, ss, sh) := hF
            have hf0 := yk_fst hF
            have hg0 := yk_snd hF
            have hf1 := yk_fst hg0
            have hg1 := yk_snd hg0
            have hf2 := yk_fst hg1
            have hg2 := yk_snd hg1
            have hf3 := yk_fst hg2
            have hg3 := yk_snd hg2
            rw [hf0, hf1, hf2, hf3, hg3] at hQ
            exact hQ _ _ _ _ dX8_sheet_35 hP hS

theorem kX8_write_0 : Cond.fieldLink RX8 26 "FlowPlaneModel" "sheetBits" "[I" ∈ wsX8_write := by decide +kernel
theorem kX8_write_1 : Cond.fieldLink RX8 29 "FlowPlaneModel" "sheetSize" "[I" ∈ wsX8_write := by decide +kernel
theorem kX8_write_2 : Cond.fieldLink RX8 32 "FlowPlaneModel" "sheets" "[I" ∈ wsX8_write := by decide +kernel
theorem kX8_write_3 : Cond.constant RX8 68 (-1000001) ∈ wsX8_write := by decide +kernel
theorem kX8_write_4 : Cond.constant RX8 245 (-1000002) ∈ wsX8_write := by decide +kernel
theorem uX8_write_X8 : ∀ w ∈ u_ws RX8 TX8 23, w ∈ wsX8_write := by decide +kernel
def f_X8_write (sb : Nat → Int32) (ss : Nat → Int32) (sh : Nat → Int32) (fi : Int32) (px : Int32) (pm : Int32) (pv : Int32) : Int32 × Int32 × (Nat → Int32) := (if (f_X8_isSlot px) = 0 then (((f_X8_found fi (-1000001)).1), ((f_X8_found fi (-1000001)).2), sh) else (if (sb px.toNatClampNeg) = 0 then (((f_X8_found fi (-1000002)).1), ((f_X8_found fi (-1000002)).2), sh) else (if (f_X8_in pm 0 ((ss px.toNatClampNeg) - 1)) = 0 then (((f_X8_found fi (-1000001)).1), ((f_X8_found fi (-1000001)).2), sh) else (0, fi, (upd sh ((16 * px.toNatClampNeg) + pm.toNatClampNeg) (if (sb px.toNatClampNeg) = 8 then (pv).toInt8.toInt32 else (if (sb px.toNatClampNeg) = 16 then (pv).toInt16.toInt32 else pv)))))))
set_option maxHeartbeats 400000000 in
set_option maxRecDepth 100000 in
theorem c_X8_write (l : Launch) (D : va_G) (cy : Nat → ClassId) (ta : Nat) (m_sheetBits : Nat) (m_sheetSize : Nat) (m_sheets : Nat) (m_now : Nat) (m_undone : Nat) (m_slots : Nat) (m_slotKind : Nat) (m_hasSlot : Nat) (m_fresh : Nat) (m_rootWhich : Nat) (m_signs : Nat) (m_atNought : Nat) (m_change : Nat) (m_table : Nat) (m_carried : Nat) (sb : Nat → Int32) (ss : Nat → Int32) (sh : Nat → Int32) (u : Nat) (fi : Int32) (aa : Int64) (bb : Int64) (dd : Int64) (ro : Nat) (db : Int32) (mn : Nat) (px : Int32) (pm : Int32) (pv : Int32) (hss : ∀ j : Nat, j < 4 → ∃ m : Nat, ss j = nI m ∧ m ≤ 16) : yk_Ci l D vwCl (yk_ty cy) yX8_write wsX8_write 2 42 [.ref ta, .int px, .int pm, .int pv] [(ta, .inr (8, [.ref m_now, .ref m_undone, .ref m_slots, .ref m_slotKind, .ref m_hasSlot, .ref m_sheetBits, .ref m_sheetSize, .ref m_sheets, .int (nI u), .int fi, .ref m_fresh, .long aa, .long bb, .long dd, .int (nI ro), .ref m_rootWhich, .int db, .ref m_signs, .ref m_atNought, .int (nI mn), .ref m_change, .ref m_table, .ref m_carried])), (m_sheetBits, .inl (cy 0, 4, .inl sb)), (m_sheetSize, .inl (cy 0, 4, .inl ss)), (m_sheets, .inl (cy 0, 64, .inl sh))] ((f_X8_write sb ss sh fi px pm pv).1) [(ta, .inr (8, [.ref m_now, .ref m_undone, .ref m_slots, .ref m_slotKind, .ref m_hasSlot, .ref m_sheetBits, .ref m_sheetSize, .ref m_sheets, .int (nI u), .int ((f_X8_write sb ss sh fi px pm pv).2.1), .ref m_fresh, .long aa, .long bb, .long dd, .int (nI ro), .ref m_rootWhich, .int db, .ref m_signs, .ref m_atNought, .int (nI mn), .ref m_change, .ref m_table, .ref m_carried])), (m_sheetBits, .inl (cy 0, 4, .inl sb)), (m_sheetSize, .inl (cy 0, 4, .inl ss)), (m_sheets, .inl (cy 0, 64, .inl ((f_X8_write sb ss sh fi px pm pv).2.2)))] := by
  refine yk_eI (cc := cX8_write) (maxL := 4) (by decide) rfl (Nat.le_of_ble_eq_true rfl) rfl ?_
  intro p e R s m args below meth c A Q ls H locs hx hb hml hown hts hRf hRl hA hK hG hP hD hS hl hQ
  have hP : va_P D vwCl [(ta, .inr (8, [.ref m_now, .ref m_undone, .ref m_slots, .ref m_slotKind, .ref m_hasSlot, .ref m_sheetBits, .ref m_sheetSize, .ref m_sheets, .int (nI u), .int fi, .ref m_fresh, .long aa, .long bb, .long dd, .int (nI ro), .ref m_rootWhich, .int db, .ref m_signs, .ref m_atNought, .int (nI mn), .ref m_change, .ref m_table, .ref m_carried])), (m_sheetBits, .inl (cy 0, 4, .inl sb)), (m_sheetSize, .inl (cy 0, 4, .inl ss)), (m_sheets, .inl (cy 0, 64, .inl sh))] H := hP
  have hl : lv_has ls 4 [(0, .ref ta), (1, .int px), (2, .int pm), (3, .int pv)] := hl
  have hown : s.vm.findClass RX8 = some m.cls := hown
  have hF : (f_X8_write sb ss sh fi px pm pv) = (f_X8_write sb ss sh fi px pm pv) := rfl
  refine lv_iload_n hx hb dX8_write_0 rfl (lv_at hl 1 rfl) ?_
  refine yk_i [] (va_runS (As := [.int px]) (rest := []) ⟨hx, hb, hml, hown, hts⟩ (c_X8_isSlot l D cy px H.size) (va_cwS 1 hts gX8_write_X8_isSlot rfl rfl rfl hs_X8_isSlot (yk_room hRf hRl rfl rfl)) (yk_ps hG hA hS hK hP hD [] (by decide +kernel) rfl) rfl rfl hl.1 rfl (lv_room (Nat.le_of_ble_eq_true rfl)) dX8_write_1 ⟨Nat.zero_le _, Nat.zero_le _⟩) hP hD hS hA rfl rfl (fun H locs hP9 hD9 hS9 => ?_)
  replace hP : va_P D vwCl [(ta, .inr (8, [.ref m_now, .ref m_undone, .ref m_slots, .ref m_slotKind, .ref m_hasSlot, .ref m_sheetBits, .ref m_sheetSize, .ref m_sheets, .int (nI u), .int fi, .ref m_fresh, .long aa, .long bb, .long dd, .int (nI ro), .ref m_rootWhich, .int db, .ref m_signs, .ref m_atNought, .int (nI mn), .ref m_change, .ref m_table, .ref m_carried])), (m_sheetBits, .inl (cy 0, 4, .inl sb)), (m_sheetSize, .inl (cy 0, 4, .inl ss)), (m_sheets, .inl (cy 0, 64, .inl sh))] H := hP9
  replace hD : va_D A [(ta, .inr (8, [.ref m_now, .ref m_undone, .ref m_slots, .ref m_slotKind, .ref m_hasSlot, .ref m_sheetBits, .ref m_sheetSize, .ref m_sheets, .int (nI u), .int fi, .ref m_fresh, .long aa, .long bb, .long dd, .int (nI ro), .ref m_rootWhich, .int db, .ref m_signs, .ref m_atNought, .int (nI mn), .ref m_change, .ref m_table, .ref m_carried])), (m_sheetBits, .inl (cy 0, 4, .inl sb)), (m_sheetSize, .inl (cy 0, 4, .inl ss)), (m_sheets, .inl (cy 0, 64, .inl sh))] := hD9
  replace hS := hS9
  clear hP9 hD9 hS9
  refine lv_if_ne (tgt := 14) hx hb dX8_write_4 (by decide) (fun hc1 => ?_) (fun hc1 => ?_)
  · replace hF := hF.trans (if_neg hc1)
    have hq2 : px = nI px.toNatClampNeg := (ix_sl (by assumption)).1
    have hq2b : px.toNatClampNeg < 4 := (ix_sl (by assumption)).2
    rw [hq2] at hl
    refine lv_aload_n hx hb dX8_write_14 rfl (lv_at hl 0 rfl) ?_
    refine va_get (D := D) (ci := 8) (v := .ref m_sheetBits) (C := RX8) (T := TX8) (N := 23) hx hb hts uX8_write_X8 hown hK hP 0 rfl rfl 5 (by decide) (hts _ kX8_write_0) (fun _ h9 => h9) rfl dX8_write_15 ?_
    refine lv_iload_n hx hb dX8_write_18 rfl (lv_at hl 1 rfl) ?_
    refine yk_ild hx hb hK hP 1 0 rfl rfl px.toNatClampNeg (by omega) (by decide) dX8_write_19 ?_
    refine lv_if_ne (tgt := 30) hx hb dX8_write_20 (by decide) (fun hc3 => ?_) (fun hc3 => ?_)
    · replace hF := hF.trans (if_neg hc3)
      refine lv_iload_n hx hb dX8_write_30 rfl (lv_at hl 2 rfl) ?_
      refine lv_iconst (v := 0) hx hb dX8_write_31 (by decide) ?_
      refine lv_aload_n hx hb dX8_write_32 rfl (lv_at hl 0 rfl) ?_
      refine va_get (D := D) (ci := 8) (v := .ref m_sheetSize) (C := RX8) (T := TX8) (N := 23) hx hb hts uX8_write_X8 hown hK hP 0 rfl rfl 6 (by decide) (hts _ kX8_write_1) (fun _ h9 => h9) rfl dX8_write_33 ?_
      refine lv_iload_n hx hb dX8_write_36 rfl (lv_at hl 1 rfl) ?_
      refine yk_ild hx hb hK hP 2 0 rfl rfl px.toNatClampNeg (by omega) (by decide) dX8_write_37 ?_
      refine lv_iconst (v := 1) hx hb dX8_write_38 (by decide) ?_
      refine lv_isub hx hb dX8_write_39 ?_
      refine yk_i [] (va_runS (As := [.int pm, .int 0, .int ((ss px.toNatClampNeg) - 1)]) (rest := []) ⟨hx, hb, hml, hown, hts⟩ (c_X8_in l D cy pm 0 ((ss px.toNatClampNeg) - 1) H.size) (va_cwS 3 hts gX8_write_X8_in rfl rfl rfl hs_X8_in (yk_room hRf hRl rfl rfl)) (yk_ps hG hA hS hK hP hD [] (by decide +kernel) rfl) rfl rfl hl.1 rfl (lv_room (Nat.le_of_ble_eq_true rfl)) dX8_write_40 ⟨Nat.zero_le _, Nat.zero_le _⟩) hP hD hS hA rfl rfl (fun H locs hP9 hD9 hS9 => ?_)
      replace hP : va_P D vwCl [(ta, .inr (8, [.ref m_now, .ref m_undone, .ref m_slots, .ref m_slotKind, .ref m_hasSlot, .ref m_sheetBits, .ref m_sheetSize, .ref m_sheets, .int (nI u), .int fi, .ref m_fresh, .long aa, .long bb, .long dd, .int (nI ro), .ref m_rootWhich, .int db, .ref m_signs, .ref m_atNought, .int (nI mn), .ref m_change, .ref m_table, .ref m_carried])), (m_sheetBits, .inl (cy 0, 4, .inl sb)), (m_sheetSize, .inl (cy 0, 4, .inl ss)), (m_sheets, .inl (cy 0, 64, .inl sh))] H := hP9
      replace hD : va_D A [(ta, .inr (8, [.ref m_now, .ref m_undone, .ref m_slots, .ref m_slotKind, .ref m_hasSlot, .ref m_sheetBits, .ref m_sheetSize, .ref m_sheets, .int (nI u), .int fi, .ref m_fresh, .long aa, .long bb, .long dd, .int (nI ro), .ref m_rootWhich, .int db, .ref m_signs, .ref m_atNought, .int (nI mn), .ref m_change, .ref m_table, .ref m_carried])), (m_sheetBits, .inl (cy 0, 4, .inl sb)), (m_sheetSize, .inl (cy 0, 4, .inl ss)), (m_sheets, .inl (cy 0, 64, .inl sh))] := hD9
      replace hS := hS9
      clear hP9 hD9 hS9
      refine lv_if_ne (tgt := 53) hx hb dX8_write_43 (by decide) (fun hc4 => ?_) (fun hc4 => ?_)
      · replace hF := hF.trans (if_neg hc4)
        have hq8 := ix_ss (hss _ (ix_sl (by assumption)).2) (by assumption)
        have hq5 : pm = nI pm.toNatClampNeg := hq8.1
        have hq5b : pm.toNatClampNeg < 16 := hq8.2
        rw [hq5] at hl
        refine lv_aload_n hx hb dX8_write_53 rfl (lv_at hl 0 rfl) ?_
        refine va_get (D := D) (ci := 8) (v := .ref m_sheets) (C := RX8) (T := TX8) (N := 23) hx hb hts uX8_write_X8 hown hK hP 0 rfl rfl 7 (by decide) (hts _ kX8_write_2) (fun _ h9 => h9) rfl dX8_write_54 ?_
        refine lv_bipush (v := 16) hx hb dX8_write_57 (by decide) ?_
        refine lv_iload_n hx hb dX8_write_59 rfl (lv_at hl 1 rfl) ?_
        refine lv_imul hx hb dX8_write_60 ?_
        refine yk_ti (y := nI (16 * px.toNatClampNeg)) (pk_mul 16 px.toNatClampNeg) ?_
        refine lv_iload_n hx hb dX8_write_61 rfl (lv_at hl 2 rfl) ?_
        refine lv_iadd hx hb dX8_write_62 ?_
        refine yk_ti (y := nI ((16 * px.toNatClampNeg) + pm.toNatClampNeg)) (nI_add (16 * px.toNatClampNeg) pm.toNatClampNeg) ?_
        refine lv_aload_n hx hb dX8_write_63 rfl (lv_at hl 0 rfl) ?_
        refine va_get (D := D) (ci := 8) (v := .ref m_sheetBits) (C := RX8) (T := TX8) (N := 23) hx hb hts uX8_write_X8 hown hK hP 0 rfl rfl 5 (by decide) (hts _ kX8_write_0) (fun _ h9 => h9) rfl dX8_write_64 ?_
        refine lv_iload_n hx hb dX8_write_67 rfl (lv_at hl 1 rfl) ?_
        refine yk_ild hx hb hK hP 1 0 rfl rfl px.toNatClampNeg (by omega) (by decide) dX8_write_68 ?_
        refine lv_bipush (v := 8) hx hb dX8_write_69 (by decide) ?_
        have J9 : ∀ (v8 : Int32) (H : Heap) (locs : List Loc) (ls : Array Slot), v8 = (if (sb px.toNatClampNeg) = 8 then (pv).toInt8.toInt32 else (if (sb px.toNatClampNeg) = 16 then (pv).toInt16.toInt32 else pv)) → va_P D vwCl [(ta, .inr (8, [.ref m_now, .ref m_undone, .ref m_slots, .ref m_slotKind, .ref m_hasSlot, .ref m_sheetBits, .ref m_sheetSize, .ref m_sheets, .int (nI u), .int fi, .ref m_fresh, .long aa, .long bb, .long dd, .int (nI ro), .ref m_rootWhich, .int db, .ref m_signs, .ref m_atNought, .int (nI mn), .ref m_change, .ref m_table, .ref m_carried])), (m_sheetBits, .inl (cy 0, 4, .inl sb)), (m_sheetSize, .inl (cy 0, 4, .inl ss)), (m_sheets, .inl (cy 0, 64, .inl sh))] H → va_D A [(ta, .inr (8, [.ref m_now, .ref m_undone, .ref m_slots, .ref m_slotKind, .ref m_hasSlot, .ref m_sheetBits, .ref m_sheetSize, .ref m_sheets, .int (nI u), .int fi, .ref m_fresh, .long aa, .long bb, .long dd, .int (nI ro), .ref m_rootWhich, .int db, .ref m_signs, .ref m_atNought, .int (nI mn), .ref m_change, .ref m_table, .ref m_carried])), (m_sheetBits, .inl (cy 0, 4, .inl sb)), (m_sheetSize, .inl (cy 0, 4, .inl ss)), (m_sheets, .inl (cy 0, 64, .inl sh))] → va_S A s.heap H locs → lv_has ls 4 [(0, .ref ta), (1, .int (nI px.toNatClampNeg)), (2, .int (nI pm.toNatClampNeg)), (3, .int pv)] → W p l e R s m args below meth c H locs 0 0 Q (F0 m 96 ls [.int v8, .int (nI ((16 * px.toNatClampNeg) + pm.toNatClampNeg)), .ref m_sheets]) := by
          clear hP hD hS hl
          intro v8 H locs ls ev8 hP hD hS hl
          subst ev8
          refine yk_ist hx hb hK hP hD hS 3 0 rfl rfl ((16 * px.toNatClampNeg) + pm.toNatClampNeg) (by omega) (by decide) dX8_write_96 (fun H locs hP9 hD9 hS9 => ?_)
          replace hP : va_P D vwCl [(ta, .inr (8, [.ref m_now, .ref m_undone, .ref m_slots, .ref m_slotKind, .ref m_hasSlot, .ref m_sheetBits, .ref m_sheetSize, .ref m_sheets, .int (nI u), .int fi, .ref m_fresh, .long aa, .long bb, .long dd, .int (nI ro), .ref m_rootWhich, .int db, .ref m_signs, .ref m_atNought, .int (nI mn), .ref m_change, .ref m_table, .ref m_carried])), (m_sheetBits, .inl (cy 0, 4, .inl sb)), (m_sheetSize, .inl (cy 0, 4, .inl ss)), (m_sheets, .inl (cy 0, 64, .inl (upd sh ((16 * px.toNatClampNeg) + pm.toNatClampNeg) (if (sb px.toNatClampNeg) = 8 then (pv).toInt8.toInt32 else (if (sb px.toNatClampNeg) = 16 then (pv).toInt16.toInt32 else pv)))))] H := hP9
          replace hD : va_D A [(ta, .inr (8, [.ref m_now, .ref m_undone, .ref m_slots, .ref m_slotKind, .ref m_hasSlot, .ref m_sheetBits, .ref m_sheetSize, .ref m_sheets, .int (nI u), .int fi, .ref m_fresh, .long aa, .long bb, .long dd, .int (nI ro), .ref m_rootWhich, .int db, .ref m_signs, .ref m_atNought, .int (nI mn), .ref m_change, .ref m_table, .ref m_carried])), (m_sheetBits, .inl (cy 0, 4, .inl sb)), (m_sheetSize, .inl (cy 0, 4, .inl ss)), (m_sheets, .inl (cy 0, 64, .inl (upd sh ((16 * px.toNatClampNeg) + pm.toNatClampNeg) (if (sb px.toNatClampNeg) = 8 then (pv).toInt8.toInt32 else (if (sb px.toNatClampNeg) = 16 then (pv).toInt16.toInt32 else pv)))))] := hD9
          replace hS := hS9
          clear hP9 hD9 hS9
          refine lv_iconst (v := 0) hx hb dX8_write_97 (by decide) ?_
          have hF : f_X8_write sb ss sh fi px pm pv = (0, fi, (upd sh ((16 * px.toNatClampNeg) + pm.toNatClampNeg) (if (sb px.toNatClampNeg) = 8 then (pv).toInt8.toInt32 else (if (sb px.toNatClampNeg) = 16 then (pv).toInt16.toInt32 else pv)))) := hF
          have hf0 := yk_fst hF
          have hg0 := yk_snd hF
          have hf1 := yk_fst hg0
          have hg1 := yk_snd hg0
          rw [hf0, hf1, hg1] at hQ
          exact hQ _ _ _ _ dX8_write_98 hP hS
        refine lv_icmp_ne (tgt := 79) hx hb dX8_write_71 (by decide) (fun hc6 => ?_) (fun hc6 => ?_)
        · refine lv_aload_n hx hb dX8_write_79 rfl (lv_at hl 0 rfl) ?_
          refine va_get (D := D) (ci := 8) (v := .ref m_sheetBits) (C := RX8) (T := TX8) (N := 23) hx hb hts uX8_write_X8 hown hK hP 0 rfl rfl 5 (by decide) (hts _ kX8_write_0) (fun _ h9 => h9) rfl dX8_write_80 ?_
          refine lv_iload_n hx hb dX8_write_83 rfl (lv_at hl 1 rfl) ?_
          refine yk_ild hx hb hK hP 1 0 rfl rfl px.toNatClampNeg (by omega) (by decide) dX8_write_84 ?_
          refine lv_bipush (v := 16) hx hb dX8_write_85 (by decide) ?_
          refine lv_icmp_ne (tgt := 95) hx hb dX8_write_87 (by decide) (fun hc7 => ?_) (fun hc7 => ?_)
          · refine lv_iload_n hx hb dX8_write_95 rfl (lv_at hl 3 rfl) ?_
            exact J9 _ _ _ _ (((if_neg hc6).trans (if_neg hc7)).symm) hP hD hS (lv_sub hl [0, 1, 2, 3] rfl)
          · refine lv_iload_n hx hb dX8_write_90 rfl (lv_at hl 3 rfl) ?_
            refine lv_i2s hx hb dX8_write_91 rfl ?_
            refine lv_goto (tgt := 96) hx hb dX8_write_92 (by decide) ?_
            exact J9 _ _ _ _ (((if_neg hc6).trans (if_pos hc7)).symm) hP hD hS (lv_sub hl [0, 1, 2, 3] rfl)
        · refine lv_iload_n hx hb dX8_write_74 rfl (lv_at hl 3 rfl) ?_
          refine lv_i2b hx hb dX8_write_75 rfl ?_
          refine lv_goto (tgt := 96) hx hb dX8_write_76 (by decide) ?_
          exact J9 _ _ _ _ ((if_pos hc6).symm) hP hD hS (lv_sub hl [0, 1, 2, 3] rfl)
      · replace hF := hF.trans (if_pos hc4)
        refine lv_aload_n hx hb dX8_write_46 rfl (lv_at hl 0 rfl) ?_
        refine lv_ldc (v := (-1000001)) hx hb hown (hts _ kX8_write_3) dX8_write_47 ?_
        refine yk_i [0] (va_runV (As := [.int (-1000001)]) (rest := []) ⟨hx, hb, hml, hown, hts⟩ (c_X8_found l D cy ta m_now m_undone m_slots m_slotKind m_hasSlot m_sheetBits m_sheetSize m_sheets m_fresh m_rootWhich m_signs m_atNought m_change m_table m_carried u fi aa bb dd ro db mn (-1000001) H.size) (cwV 1 hts gX8_write_X8_found rfl rfl rfl hv_X8_found (yk_room hRf hRl rfl rfl)) (yk_pv (q := (RX8, TX8, 23)) hG hA hS hK hP hD [0] (by decide +kernel) rfl rfl rfl) rfl rfl hl.1 rfl (lv_room (Nat.le_of_ble_eq_true rfl)) dX8_write_49 ⟨Nat.zero_le _, Nat.zero_le _⟩) hP hD hS hA rfl rfl (fun H locs hP9 hD9 hS9 => ?_)
        replace hP : va_P D vwCl [(ta, .inr (8, [.ref m_now, .ref m_undone, .ref m_slots, .ref m_slotKind, .ref m_hasSlot, .ref m_sheetBits, .ref m_sheetSize, .ref m_sheets, .int (nI u), .int ((f_X8_found fi (-1000001)).2), .ref m_fresh, .long aa, .long bb, .long dd, .int (nI ro), .ref m_rootWhich, .int db, .ref m_signs, .ref m_atNought, .int (nI mn), .ref m_change, .ref m_table, .ref m_carried])), (m_sheetBits, .inl (cy 0, 4, .inl sb)), (m_sheetSize, .inl (cy 0, 4, .inl ss)), (m_sheets, .inl (cy 0, 64, .inl sh))] H := hP9
        replace hD : va_D A [(ta, .inr (8, [.ref m_now, .ref m_undone, .ref m_slots, .ref m_slotKind, .ref m_hasSlot, .ref m_sheetBits, .ref m_sheetSize, .ref m_sheets, .int (nI u), .int ((f_X8_found fi (-1000001)).2), .ref m_fresh, .long aa, .long bb, .long dd, .int (nI ro), .ref m_rootWhich, .int db, .ref m_signs, .ref m_atNought, .int (nI mn), .ref m_change, .ref m_table, .ref m_carried])), (m_sheetBits, .inl (cy 0, 4, .inl sb)), (m_sheetSize, .inl (cy 0, 4, .inl ss)), (m_sheets, .inl (cy 0, 64, .inl sh))] := hD9
        replace hS := hS9
        clear hP9 hD9 hS9
        have hF : f_X8_write sb ss sh fi px pm pv = (((f_X8_found fi (-1000001)).1), ((f_X8_found fi (-1000001)).2), sh) := hF
        have hf0 := yk_fst hF
        have hg0 := yk_snd hF
        have hf1 := yk_fst hg0
        have hg1 := yk_snd hg0
        rw [hf0, hf1, hg1] at hQ
        exact hQ _ _ _ _ dX8_write_52 hP hS
    · replace hF := hF.trans (if_pos hc3)
      refine lv_aload_n hx hb dX8_write_23 rfl (lv_at hl 0 rfl) ?_
      refine lv_ldc (v := (-1000002)) hx hb hown (hts _ kX8_write_4) dX8_write_24 ?_
      refine yk_i [0] (va_runV (As := [.int (-1000002)]) (rest := []) ⟨hx, hb, hml, hown, hts⟩ (c_X8_found l D cy ta m_now m_undone m_slots m_slotKind m_hasSlot m_sheetBits m_sheetSize m_sheets m_fresh m_rootWhich m_signs m_atNought m_change m_table m_carried u fi aa bb dd ro db mn (-1000002) H.size) (cwV 1 hts gX8_write_X8_found rfl rfl rfl hv_X8_found (yk_room hRf hRl rfl rfl)) (yk_pv (q := (RX8, TX8, 23)) hG hA hS hK hP hD [0] (by decide +kernel) rfl rfl rfl) rfl rfl hl.1 rfl (lv_room (Nat.le_of_ble_eq_true rfl)) dX8_write_26 ⟨Nat.zero_le _, Nat.zero_le _⟩) hP hD hS hA rfl rfl (fun H locs hP9 hD9 hS9 => ?_)
      replace hP : va_P D vwCl [(ta, .inr (8, [.ref m_now, .ref m_undone, .ref m_slots, .ref m_slotKind, .ref m_hasSlot, .ref m_sheetBits, .ref m_sheetSize, .ref m_sheets, .int (nI u), .int ((f_X8_found fi (-1000002)).2), .ref m_fresh, .long aa, .long bb, .long dd, .int (nI ro), .ref m_rootWhich, .int db, .ref m_signs, .ref m_atNought, .int (nI mn), .ref m_change, .ref m_table, .ref m_carried])), (m_sheetBits, .inl (cy 0, 4, .inl sb)), (m_sheetSize, .inl (cy 0, 4, .inl ss)), (m_sheets, .inl (cy 0, 64, .inl sh))] H := hP9
      replace hD : va_D A [(ta, .inr (8, [.ref m_now, .ref m_undone, .ref m_slots, .ref m_slotKind, .ref m_hasSlot, .ref m_sheetBits, .ref m_sheetSize, .ref m_sheets, .int (nI u), .int ((f_X8_found fi (-1000002)).2), .ref m_fresh, .long aa, .long bb, .long dd, .int (nI ro), .ref m_rootWhich, .int db, .ref m_signs, .ref m_atNought, .int (nI mn), .ref m_change, .ref m_table, .ref m_carried])), (m_sheetBits, .inl (cy 0, 4, .inl sb)), (m_sheetSize, .inl (cy 0, 4, .inl ss)), (m_sheets, .inl (cy 0, 64, .inl sh))] := hD9
      replace hS := hS9
      clear hP9 hD9 hS9
      have hF : f_X8_write sb ss sh fi px pm pv = (((f_X8_found fi (-1000002)).1), ((f_X8_found fi (-1000002)).2), sh) := hF
      have hf0 := yk_fst hF
      have hg0 := yk_snd hF
      have hf1 := yk_fst hg0
      have hg1 := yk_snd hg0
      rw [hf0, hf1, hg1] at hQ
      exact hQ _ _ _ _ dX8_write_29 hP hS
  · replace hF := hF.trans (if_pos hc1)
    refine lv_aload_n hx hb dX8_write_7 rfl (lv_at hl 0 rfl) ?_
    refine lv_ldc (v := (-1000001)) hx hb hown (hts _ kX8_write_3) dX8_write_8 ?_
    refine yk_i [0] (va_runV (As := [.int (-1000001)]) (rest := []) ⟨hx, hb, hml, hown, hts⟩ (c_X8_found l D cy ta m_now m_undone m_slots m_slotKind m_hasSlot m_sheetBits m_sheetSize m_sheets m_fresh m_rootWhich m_signs m_atNought m_change m_table m_carried u fi aa bb dd ro db mn (-1000001) H.size) (cwV 1 hts gX8_write_X8_found rfl rfl rfl hv_X8_found (yk_room hRf hRl rfl rfl)) (yk_pv (q := (RX8, TX8, 23)) hG hA hS hK hP hD [0] (by decide +kernel) rfl rfl rfl) rfl rfl hl.1 rfl (lv_room (Nat.le_of_ble_eq_true rfl)) dX8_write_10 ⟨Nat.zero_le _, Nat.zero_le _⟩) hP hD hS hA rfl rfl (fun H locs hP9 hD9 hS9 => ?_)
    replace hP : va_P D vwCl [(ta, .inr (8, [.ref m_now, .ref m_undone, .ref m_slots, .ref m_slotKind, .ref m_hasSlot, .ref m_sheetBits, .ref m_sheetSize, .ref m_sheets, .int (nI u), .int ((f_X8_found fi (-1000001)).2), .ref m_fresh, .long aa, .long bb, .long dd, .int (nI ro), .ref m_rootWhich, .int db, .ref m_signs, .ref m_atNought, .int (nI mn), .ref m_change, .ref m_table, .ref m_carried])), (m_sheetBits, .inl (cy 0, 4, .inl sb)), (m_sheetSize, .inl (cy 0, 4, .inl ss)), (m_sheets, .inl (cy 0, 64, .inl sh))] H := hP9
    replace hD : va_D A [(ta, .inr (8, [.ref m_now, .ref m_undone, .ref m_slots, .ref m_slotKind, .ref m_hasSlot, .ref m_sheetBits, .ref m_sheetSize, .ref m_sheets, .int (nI u), .int ((f_X8_found fi (-1000001)).2), .ref m_fresh, .long aa, .long bb, .long dd, .int (nI ro), .ref m_rootWhich, .int db, .ref m_signs, .ref m_atNought, .int (nI mn), .ref m_change, .ref m_table, .ref m_carried])), (m_sheetBits, .inl (cy 0, 4, .inl sb)), (m_sheetSize, .inl (cy 0, 4, .inl ss)), (m_sheets, .inl (cy 0, 64, .inl sh))] := hD9
    replace hS := hS9
    clear hP9 hD9 hS9
    have hF : f_X8_write sb ss sh fi px pm pv = (((f_X8_found fi (-1000001)).1), ((f_X8_found fi (-1000001)).2), sh) := hF
    have hf0 := yk_fst hF
    have hg0 := yk_snd hF
    have hf1 := yk_fst hg0
    have hg1 := yk_snd hg0
    rw [hf0, hf1, hg1] at hQ
    exact hQ _ _ _ _ dX8_write_13 hP hS

theorem kX8_copy_0 : Cond.constant RX8 68 (-1000001) ∈ wsX8_copy := by decide +kernel
theorem kX8_copy_1 : Cond.fieldLink RX8 26 "FlowPlaneModel" "sheetBits" "[I" ∈ wsX8_copy := by decide +kernel
theorem kX8_copy_2 : Cond.constant RX8 245 (-1000002) ∈ wsX8_copy := by decide +kernel
theorem kX8_copy_3 : Cond.fieldLink RX8 29 "FlowPlaneModel" "sheetSize" "[I" ∈ wsX8_copy := by decide +kernel
theorem kX8_copy_4 : Cond.fieldLink RX8 54 "FlowPlaneModel" "carried" "[I" ∈ wsX8_copy := by decide +kernel
theorem kX8_copy_5 : Cond.fieldLink RX8 32 "FlowPlaneModel" "sheets" "[I" ∈ wsX8_copy := by decide +kernel
theorem kX8_copy_6 : Cond.constant RX8 138 (-1000004) ∈ wsX8_copy := by decide +kernel
theorem uX8_copy_X8 : ∀ w ∈ u_ws RX8 TX8 23, w ∈ wsX8_copy := by decide +kernel
def l_X8_copy_127 (sb : Nat → Int32) (ss : Nat → Int32) (sh : Nat → Int32) (fi : Int32) (cr : Nat → Int32) (px : Int32) (pf : Int32) (py : Int32) (po : Int32) (pn : Int32) : Nat → Nat → (Nat → Int32) → (Nat → Int32)
  | 0, ki, zcarried_127 => zcarried_127
  | fu_X8_copy_127 + 1, ki, zcarried_127 => (if (nI pn.toNatClampNeg) ≤ (nI ki) then zcarried_127 else (l_X8_copy_127 sb ss sh fi cr px pf py po pn fu_X8_copy_127 (ki + 1) (upd zcarried_127 ki (sh (((16 * px.toNatClampNeg) + pf.toNatClampNeg) + ki)))))
def l_X8_copy_164 (sb : Nat → Int32) (ss : Nat → Int32) (sh : Nat → Int32) (fi : Int32) (cr : Nat → Int32) (px : Int32) (pf : Int32) (py : Int32) (po : Int32) (pn : Int32) : Nat → Nat → (Nat → Int32) → (Nat → Int32)
  | 0, kj, zsheets_164 => zsheets_164
  | fu_X8_copy_164 + 1, kj, zsheets_164 => (if (nI pn.toNatClampNeg) ≤ (nI kj) then zsheets_164 else (l_X8_copy_164 sb ss sh fi cr px pf py po pn fu_X8_copy_164 (kj + 1) (upd zsheets_164 (((16 * py.toNatClampNeg) + po.toNatClampNeg) + kj) ((l_X8_copy_127 sb ss sh fi cr px pf py po pn (pn.toNatClampNeg + 1) 0 cr) kj))))
def f_X8_copy (sb : Nat → Int32) (ss : Nat → Int32) (sh : Nat → Int32) (fi : Int32) (cr : Nat → Int32) (px : Int32) (pf : Int32) (py : Int32) (po : Int32) (pn : Int32) : Int32 × Int32 × (Nat → Int32) × (Nat → Int32) := (if (f_X8_isSlot px) = 0 then (((f_X8_found fi (-1000001)).1), ((f_X8_found fi (-1000001)).2), sh, cr) else (if (f_X8_isSlot py) = 0 then (((f_X8_found fi (-1000001)).1), ((f_X8_found fi (-1000001)).2), sh, cr) else (if (sb px.toNatClampNeg) = 0 then (((f_X8_found fi (-1000002)).1), ((f_X8_found fi (-1000002)).2), sh, cr) else (if (sb py.toNatClampNeg) = 0 then (((f_X8_found fi (-1000002)).1), ((f_X8_found fi (-1000002)).2), sh, cr) else (if (sb px.toNatClampNeg) = (sb py.toNatClampNeg) then (if pf < 0 then (((f_X8_found fi (-1000001)).1), ((f_X8_found fi (-1000001)).2), sh, cr) else (if po < 0 then (((f_X8_found fi (-1000001)).1), ((f_X8_found fi (-1000001)).2), sh, cr) else (if pn < 0 then (((f_X8_found fi (-1000001)).1), ((f_X8_found fi (-1000001)).2), sh, cr) else (if 0 < (lg_cmp (((pf).toInt64) + ((pn).toInt64)) (((ss px.toNatClampNeg)).toInt64)) then (((f_X8_found fi (-1000001)).1), ((f_X8_found fi (-1000001)).2), sh, cr) else (if (lg_cmp (((po).toInt64) + ((pn).toInt64)) (((ss py.toNatClampNeg)).toInt64)) ≤ 0 then ((nI pn.toNatClampNeg), fi, (l_X8_copy_164 sb ss sh fi cr px pf py po pn (pn.toNatClampNeg + 1) 0 sh), (l_X8_copy_127 sb ss sh fi cr px pf py po pn (pn.toNatClampNeg + 1) 0 cr)) else (((f_X8_found fi (-1000001)).1), ((f_X8_found fi (-1000001)).2), sh, cr)))))) else (((f_X8_found fi (-1000004)).1), ((f_X8_found fi (-1000004)).2), sh, cr))))))
set_option maxHeartbeats 400000000 in
set_option maxRecDepth 100000 in
theorem c_X8_copy (l : Launch) (D : va_G) (cy : Nat → ClassId) (ta : Nat) (m_sheetBits : Nat) (m_sheetSize : Nat) (m_sheets : Nat) (m_carried : Nat) (m_now : Nat) (m_undone : Nat) (m_slots : Nat) (m_slotKind : Nat) (m_hasSlot : Nat) (m_fresh : Nat) (m_rootWhich : Nat) (m_signs : Nat) (m_atNought : Nat) (m_change : Nat) (m_table : Nat) (sb : Nat → Int32) (ss : Nat → Int32) (sh : Nat → Int32) (u : Nat) (fi : Int32) (aa : Int64) (bb : Int64) (dd : Int64) (ro : Nat) (db : Int32) (mn : Nat) (cr : Nat → Int32) (px : Int32) (pf : Int32) (py : Int32) (po : Int32) (pn : Int32) (hss : ∀ j : Nat, j < 4 → ∃ m : Nat, ss j = nI m ∧ m ≤ 16) : yk_Ci l D vwCl (yk_ty cy) yX8_copy wsX8_copy 2 42 [.ref ta, .int px, .int pf, .int py, .int po, .int pn] [(ta, .inr (8, [.ref m_now, .ref m_undone, .ref m_slots, .ref m_slotKind, .ref m_hasSlot, .ref m_sheetBits, .ref m_sheetSize, .ref m_sheets, .int (nI u), .int fi, .ref m_fresh, .long aa, .long bb, .long dd, .int (nI ro), .ref m_rootWhich, .int db, .ref m_signs, .ref m_atNought, .int (nI mn), .ref m_change, .ref m_table, .ref m_carried])), (m_sheetBits, .inl (cy 0, 4, .inl sb)), (m_sheetSize, .inl (cy 0, 4, .inl ss)), (m_sheets, .inl (cy 0, 64, .inl sh)), (m_carried, .inl (cy 0, 16, .inl cr))] ((f_X8_copy sb ss sh fi cr px pf py po pn).1) [(ta, .inr (8, [.ref m_now, .ref m_undone, .ref m_slots, .ref m_slotKind, .ref m_hasSlot, .ref m_sheetBits, .ref m_sheetSize, .ref m_sheets, .int (nI u), .int ((f_X8_copy sb ss sh fi cr px pf py po pn).2.1), .ref m_fresh, .long aa, .long bb, .long dd, .int (nI ro), .ref m_rootWhich, .int db, .ref m_signs, .ref m_atNought, .int (nI mn), .ref m_change, .ref m_table, .ref m_carried])), (m_sheetBits, .inl (cy 0, 4, .inl sb)), (m_sheetSize, .inl (cy 0, 4, .inl ss)), (m_sheets, .inl (cy 0, 64, .inl ((f_X8_copy sb ss sh fi cr px pf py po pn).2.2.1))), (m_carried, .inl (cy 0, 16, .inl ((f_X8_copy sb ss sh fi cr px pf py po pn).2.2.2)))] := by
  refine yk_eI (cc := cX8_copy) (maxL := 7) (by decide) rfl (Nat.le_of_ble_eq_true rfl) rfl ?_
  intro p e R s m args below meth c A Q ls H locs hx hb hml hown hts hRf hRl hA hK hG hP hD hS hl hQ
  have hP : va_P D vwCl [(ta, .inr (8, [.ref m_now, .ref m_undone, .ref m_slots, .ref m_slotKind, .ref m_hasSlot, .ref m_sheetBits, .ref m_sheetSize, .ref m_sheets, .int (nI u), .int fi, .ref m_fresh, .long aa, .long bb, .long dd, .int (nI ro), .ref m_rootWhich, .int db, .ref m_signs, .ref m_atNought, .int (nI mn), .ref m_change, .ref m_table, .ref m_carried])), (m_sheetBits, .inl (cy 0, 4, .inl sb)), (m_sheetSize, .inl (cy 0, 4, .inl ss)), (m_sheets, .inl (cy 0, 64, .inl sh)), (m_carried, .inl (cy 0, 16, .inl cr))] H := hP
  have hl : lv_has ls 7 [(0, .ref ta), (1, .int px), (2, .int pf), (3, .int py), (4, .int po), (5, .int pn)] := hl
  have hown : s.vm.findClass RX8 = some m.cls := hown
  have hF : (f_X8_copy sb ss sh fi cr px pf py po pn) = (f_X8_copy sb ss sh fi cr px pf py po pn) := rfl
  refine lv_iload_n hx hb dX8_copy_0 rfl (lv_at hl 1 rfl) ?_
  refine yk_i [] (va_runS (As := [.int px]) (rest := []) ⟨hx, hb, hml, hown, hts⟩ (c_X8_isSlot l D cy px H.size) (va_cwS 1 hts gX8_copy_X8_isSlot rfl rfl rfl hs_X8_isSlot (yk_room hRf hRl rfl rfl)) (yk_ps hG hA hS hK hP hD [] (by decide +kernel) rfl) rfl rfl hl.1 rfl (lv_room (Nat.le_of_ble_eq_true rfl)) dX8_copy_1 ⟨Nat.zero_le _, Nat.zero_le _⟩) hP hD hS hA rfl rfl (fun H locs hP9 hD9 hS9 => ?_)
  replace hP : va_P D vwCl [(ta, .inr (8, [.ref m_now, .ref m_undone, .ref m_slots, .ref m_slotKind, .ref m_hasSlot, .ref m_sheetBits, .ref m_sheetSize, .ref m_sheets, .int (nI u), .int fi, .ref m_fresh, .long aa, .long bb, .long dd, .int (nI ro), .ref m_rootWhich, .int db, .ref m_signs, .ref m_atNought, .int (nI mn), .ref m_change, .ref m_table, .ref m_carried])), (m_sheetBits, .inl (cy 0, 4, .inl sb)), (m_sheetSize, .inl (cy 0, 4, .inl ss)), (m_sheets, .inl (cy 0, 64, .inl sh)), (m_carried, .inl (cy 0, 16, .inl cr))] H := hP9
  replace hD : va_D A [(ta, .inr (8, [.ref m_now, .ref m_undone, .ref m_slots, .ref m_slotKind, .ref m_hasSlot, .ref m_sheetBits, .ref m_sheetSize, .ref m_sheets, .int (nI u), .int fi, .ref m_fresh, .long aa, .long bb, .long dd, .int (nI ro), .ref m_rootWhich, .int db, .ref m_signs, .ref m_atNought, .int (nI mn), .ref m_change, .ref m_table, .ref m_carried])), (m_sheetBits, .inl (cy 0, 4, .inl sb)), (m_sheetSize, .inl (cy 0, 4, .inl ss)), (m_sheets, .inl (cy 0, 64, .inl sh)), (m_carried, .inl (cy 0, 16, .inl cr))] := hD9
  replace hS := hS9
  clear hP9 hD9 hS9
  refine lv_if_eq (tgt := 14) hx hb dX8_copy_4 (by decide) (fun hc1 => ?_) (fun hc1 => ?_)
  · replace hF := hF.trans (if_pos hc1)
    refine lv_aload_n hx hb dX8_copy_14 rfl (lv_at hl 0 rfl) ?_
    refine lv_ldc (v := (-1000001)) hx hb hown (hts _ kX8_copy_0) dX8_copy_15 ?_
    refine yk_i [0] (va_runV (As := [.int (-1000001)]) (rest := []) ⟨hx, hb, hml, hown, hts⟩ (c_X8_found l D cy ta m_now m_undone m_slots m_slotKind m_hasSlot m_sheetBits m_sheetSize m_sheets m_fresh m_rootWhich m_signs m_atNought m_change m_table m_carried u fi aa bb dd ro db mn (-1000001) H.size) (cwV 1 hts gX8_copy_X8_found rfl rfl rfl hv_X8_found (yk_room hRf hRl rfl rfl)) (yk_pv (q := (RX8, TX8, 23)) hG hA hS hK hP hD [0] (by decide +kernel) rfl rfl rfl) rfl rfl hl.1 rfl (lv_room (Nat.le_of_ble_eq_true rfl)) dX8_copy_17 ⟨Nat.zero_le _, Nat.zero_le _⟩) hP hD hS hA rfl rfl (fun H locs hP9 hD9 hS9 => ?_)
    replace hP : va_P D vwCl [(ta, .inr (8, [.ref m_now, .ref m_undone, .ref m_slots, .ref m_slotKind, .ref m_hasSlot, .ref m_sheetBits, .ref m_sheetSize, .ref m_sheets, .int (nI u), .int ((f_X8_found fi (-1000001)).2), .ref m_fresh, .long aa, .long bb, .long dd, .int (nI ro), .ref m_rootWhich, .int db, .ref m_signs, .ref m_atNought, .int (nI mn), .ref m_change, .ref m_table, .ref m_carried])), (m_sheetBits, .inl (cy 0, 4, .inl sb)), (m_sheetSize, .inl (cy 0, 4, .inl ss)), (m_sheets, .inl (cy 0, 64, .inl sh)), (m_carried, .inl (cy 0, 16, .inl cr))] H := hP9
    replace hD : va_D A [(ta, .inr (8, [.ref m_now, .ref m_undone, .ref m_slots, .ref m_slotKind, .ref m_hasSlot, .ref m_sheetBits, .ref m_sheetSize, .ref m_sheets, .int (nI u), .int ((f_X8_found fi (-1000001)).2), .ref m_fresh, .long aa, .long bb, .long dd, .int (nI ro), .ref m_rootWhich, .int db, .ref m_signs, .ref m_atNought, .int (nI mn), .ref m_change, .ref m_table, .ref m_carried])), (m_sheetBits, .inl (cy 0, 4, .inl sb)), (m_sheetSize, .inl (cy 0, 4, .inl ss)), (m_sheets, .inl (cy 0, 64, .inl sh)), (m_carried, .inl (cy 0, 16, .inl cr))] := hD9
    replace hS := hS9
    clear hP9 hD9 hS9
    have hF : f_X8_copy sb ss sh fi cr px pf py po pn = (((f_X8_found fi (-1000001)).1), ((f_X8_found fi (-1000001)).2), sh, cr) := hF
    have hf0 := yk_fst hF
    have hg0 := yk_snd hF
    have hf1 := yk_fst hg0
    have hg1 := yk_snd hg0
    have hf2 := yk_fst hg1
    have hg2 := yk_snd hg1
    rw [hf0, hf1, hf2, hg2] at hQ
    exact hQ _ _ _ _ dX8_copy_20 hP hS
  · replace hF := hF.trans (if_neg hc1)
    refine lv_iload_n hx hb dX8_copy_7 rfl (lv_at hl 3 rfl) ?_
    refine yk_i [] (va_runS (As := [.int py]) (rest := []) ⟨hx, hb, hml, hown, hts⟩ (c_X8_isSlot l D cy py H.size) (va_cwS 1 hts gX8_copy_X8_isSlot rfl rfl rfl hs_X8_isSlot (yk_room hRf hRl rfl rfl)) (yk_ps hG hA hS hK hP hD [] (by decide +kernel) rfl) rfl rfl hl.1 rfl (lv_room (Nat.le_of_ble_eq_true rfl)) dX8_copy_8 ⟨Nat.zero_le _, Nat.zero_le _⟩) hP hD hS hA rfl rfl (fun H locs hP9 hD9 hS9 => ?_)
    replace hP : va_P D vwCl [(ta, .inr (8, [.ref m_now, .ref m_undone, .ref m_slots, .ref m_slotKind, .ref m_hasSlot, .ref m_sheetBits, .ref m_sheetSize, .ref m_sheets, .int (nI u), .int fi, .ref m_fresh, .long aa, .long bb, .long dd, .int (nI ro), .ref m_rootWhich, .int db, .ref m_signs, .ref m_atNought, .int (nI mn), .ref m_change, .ref m_table, .ref m_carried])), (m_sheetBits, .inl (cy 0, 4, .inl sb)), (m_sheetSize, .inl (cy 0, 4, .inl ss)), (m_sheets, .inl (cy 0, 64, .inl sh)), (m_carried, .inl (cy 0, 16, .inl cr))] H := hP9
    replace hD : va_D A [(ta, .inr (8, [.ref m_now, .ref m_undone, .ref m_slots, .ref m_slotKind, .ref m_hasSlot, .ref m_sheetBits, .ref m_sheetSize, .ref m_sheets, .int (nI u), .int fi, .ref m_fresh, .long aa, .long bb, .long dd, .int (nI ro), .ref m_rootWhich, .int db, .ref m_signs, .ref m_atNought, .int (nI mn), .ref m_change, .ref m_table, .ref m_carried])), (m_sheetBits, .inl (cy 0, 4, .inl sb)), (m_sheetSize, .inl (cy 0, 4, .inl ss)), (m_sheets, .inl (cy 0, 64, .inl sh)), (m_carried, .inl (cy 0, 16, .inl cr))] := hD9
    replace hS := hS9
    clear hP9 hD9 hS9
    refine lv_if_ne (tgt := 21) hx hb dX8_copy_11 (by decide) (fun hc2 => ?_) (fun hc2 => ?_)
    · replace hF := hF.trans (if_neg hc2)
      have hq3 : px = nI px.toNatClampNeg := (ix_sl (by assumption)).1
      have hq3b : px.toNatClampNeg < 4 := (ix_sl (by assumption)).2
      rw [hq3] at hl
      have hq4 : py = nI py.toNatClampNeg := (ix_sl (by assumption)).1
      have hq4b : py.toNatClampNeg < 4 := (ix_sl (by assumption)).2
      rw [hq4] at hl
      refine lv_aload_n hx hb dX8_copy_21 rfl (lv_at hl 0 rfl) ?_
      refine va_get (D := D) (ci := 8) (v := .ref m_sheetBits) (C := RX8) (T := TX8) (N := 23) hx hb hts uX8_copy_X8 hown hK hP 0 rfl rfl 5 (by decide) (hts _ kX8_copy_1) (fun _ h9 => h9) rfl dX8_copy_22 ?_
      refine lv_iload_n hx hb dX8_copy_25 rfl (lv_at hl 1 rfl) ?_
      refine yk_ild hx hb hK hP 1 0 rfl rfl px.toNatClampNeg (by omega) (by decide) dX8_copy_26 ?_
      refine lv_if_eq (tgt := 39) hx hb dX8_copy_27 (by decide) (fun hc5 => ?_) (fun hc5 => ?_)
      · replace hF := hF.trans (if_pos hc5)
        refine lv_aload_n hx hb dX8_copy_39 rfl (lv_at hl 0 rfl) ?_
        refine lv_ldc (v := (-1000002)) hx hb hown (hts _ kX8_copy_2) dX8_copy_40 ?_
        refine yk_i [0] (va_runV (As := [.int (-1000002)]) (rest := []) ⟨hx, hb, hml, hown, hts⟩ (c_X8_found l D cy ta m_now m_undone m_slots m_slotKind m_hasSlot m_sheetBits m_sheetSize m_sheets m_fresh m_rootWhich m_signs m_atNought m_change m_table m_carried u fi aa bb dd ro db mn (-1000002) H.size) (cwV 1 hts gX8_copy_X8_found rfl rfl rfl hv_X8_found (yk_room hRf hRl rfl rfl)) (yk_pv (q := (RX8, TX8, 23)) hG hA hS hK hP hD [0] (by decide +kernel) rfl rfl rfl) rfl rfl hl.1 rfl (lv_room (Nat.le_of_ble_eq_true rfl)) dX8_copy_42 ⟨Nat.zero_le _, Nat.zero_le _⟩) hP hD hS hA rfl rfl (fun H locs hP9 hD9 hS9 => ?_)
        replace hP : va_P D vwCl [(ta, .inr (8, [.ref m_now, .ref m_undone, .ref m_slots, .ref m_slotKind, .ref m_hasSlot, .ref m_sheetBits, .ref m_sheetSize, .ref m_sheets, .int (nI u), .int ((f_X8_found fi (-1000002)).2), .ref m_fresh, .long aa, .long bb, .long dd, .int (nI ro), .ref m_rootWhich, .int db, .ref m_signs, .ref m_atNought, .int (nI mn), .ref m_change, .ref m_table, .ref m_carried])), (m_sheetBits, .inl (cy 0, 4, .inl sb)), (m_sheetSize, .inl (cy 0, 4, .inl ss)), (m_sheets, .inl (cy 0, 64, .inl sh)), (m_carried, .inl (cy 0, 16, .inl cr))] H := hP9
        replace hD : va_D A [(ta, .inr (8, [.ref m_now, .ref m_undone, .ref m_slots, .ref m_slotKind, .ref m_hasSlot, .ref m_sheetBits, .ref m_sheetSize, .ref m_sheets, .int (nI u), .int ((f_X8_found fi (-1000002)).2), .ref m_fresh, .long aa, .long bb, .long dd, .int (nI ro), .ref m_rootWhich, .int db, .ref m_signs, .ref m_atNought, .int (nI mn), .ref m_change, .ref m_table, .ref m_carried])), (m_sheetBits, .inl (cy 0, 4, .inl sb)), (m_sheetSize, .inl (cy 0, 4, .inl ss)), (m_sheets, .inl (cy 0, 64, .inl sh)), (m_carried, .inl (cy 0, 16, .inl cr))] := hD9
        replace hS := hS9
        clear hP9 hD9 hS9
        have hF : f_X8_copy sb ss sh fi cr px pf py po pn = (((f_X8_found fi (-1000002)).1), ((f_X8_found fi (-1000002)).2), sh, cr) := hF
        have hf0 := yk_fst hF
        have hg0 := yk_snd hF
        have hf1 := yk_fst hg0
        have hg1 := yk_snd hg0
        have hf2 := yk_fst hg1
        have hg2 := yk_snd hg1
        rw [hf0, hf1, hf2, hg2] at hQ
        exact hQ _ _ _ _ dX8_copy_45 hP hS
      · replace hF := hF.trans (if_neg hc5)
        refine lv_aload_n hx hb dX8_copy_30 rfl (lv_at hl 0 rfl) ?_
        refine va_get (D := D) (ci := 8) (v := .ref m_sheetBits) (C := RX8) (T := TX8) (N := 23) hx hb hts uX8_copy_X8 hown hK hP 0 rfl rfl 5 (by decide) (hts _ kX8_copy_1) (fun _ h9 => h9) rfl dX8_copy_31 ?_
        refine lv_iload_n hx hb dX8_copy_34 rfl (lv_at hl 3 rfl) ?_
        refine yk_ild hx hb hK hP 1 0 rfl rfl py.toNatClampNeg (by omega) (by decide) dX8_copy_35 ?_
        refine lv_if_ne (tgt := 46) hx hb dX8_copy_36 (by decide) (fun hc6 => ?_) (fun hc6 => ?_)
        · replace hF := hF.trans (if_neg hc6)
          refine lv_aload_n hx hb dX8_copy_46 rfl (lv_at hl 0 rfl) ?_
          refine va_get (D := D) (ci := 8) (v := .ref m_sheetBits) (C := RX8) (T := TX8) (N := 23) hx hb hts uX8_copy_X8 hown hK hP 0 rfl rfl 5 (by decide) (hts _ kX8_copy_1) (fun _ h9 => h9) rfl dX8_copy_47 ?_
          refine lv_iload_n hx hb dX8_copy_50 rfl (lv_at hl 1 rfl) ?_
          refine yk_ild hx hb hK hP 1 0 rfl rfl px.toNatClampNeg (by omega) (by decide) dX8_copy_51 ?_
          refine lv_aload_n hx hb dX8_copy_52 rfl (lv_at hl 0 rfl) ?_
          refine va_get (D := D) (ci := 8) (v := .ref m_sheetBits) (C := RX8) (T := TX8) (N := 23) hx hb hts uX8_copy_X8 hown hK hP 0 rfl rfl 5 (by decide) (hts _ kX8_copy_1) (fun _ h9 => h9) rfl dX8_copy_53 ?_
          refine lv_iload_n hx hb dX8_copy_56 rfl (lv_at hl 3 rfl) ?_
          refine yk_ild hx hb hK hP 1 0 rfl rfl py.toNatClampNeg (by omega) (by decide) dX8_copy_57 ?_
          refine lv_icmp_eq (tgt := 68) hx hb dX8_copy_58 (by decide) (fun hc7 => ?_) (fun hc7 => ?_)
          · replace hF := hF.trans (if_pos hc7)
            refine lv_iload_n hx hb dX8_copy_68 rfl (lv_at hl 2 rfl) ?_
            refine lv_if_lt (tgt := 117) hx hb dX8_copy_69 (by decide) (fun hc8 => ?_) (fun hc8 => ?_)
            · replace hF := hF.trans (if_pos hc8)
              refine lv_aload_n hx hb dX8_copy_117 rfl (lv_at hl 0 rfl) ?_
              refine lv_ldc (v := (-1000001)) hx hb hown (hts _ kX8_copy_0) dX8_copy_118 ?_
              refine yk_i [0] (va_runV (As := [.int (-1000001)]) (rest := []) ⟨hx, hb, hml, hown, hts⟩ (c_X8_found l D cy ta m_now m_undone m_slots m_slotKind m_hasSlot m_sheetBits m_sheetSize m_sheets m_fresh m_rootWhich m_signs m_atNought m_change m_table m_carried u fi aa bb dd ro db mn (-1000001) H.size) (cwV 1 hts gX8_copy_X8_found rfl rfl rfl hv_X8_found (yk_room hRf hRl rfl rfl)) (yk_pv (q := (RX8, TX8, 23)) hG hA hS hK hP hD [0] (by decide +kernel) rfl rfl rfl) rfl rfl hl.1 rfl (lv_room (Nat.le_of_ble_eq_true rfl)) dX8_copy_120 ⟨Nat.zero_le _, Nat.zero_le _⟩) hP hD hS hA rfl rfl (fun H locs hP9 hD9 hS9 => ?_)
              replace hP : va_P D vwCl [(ta, .inr (8, [.ref m_now, .ref m_undone, .ref m_slots, .ref m_slotKind, .ref m_hasSlot, .ref m_sheetBits, .ref m_sheetSize, .ref m_sheets, .int (nI u), .int ((f_X8_found fi (-1000001)).2), .ref m_fresh, .long aa, .long bb, .long dd, .int (nI ro), .ref m_rootWhich, .int db, .ref m_signs, .ref m_atNought, .int (nI mn), .ref m_change, .ref m_table, .ref m_carried])), (m_sheetBits, .inl (cy 0, 4, .inl sb)), (m_sheetSize, .inl (cy 0, 4, .inl ss)), (m_sheets, .inl (cy 0, 64, .inl sh)), (m_carried, .inl (cy 0, 16, .inl cr))] H := hP9
              replace hD : va_D A [(ta, .inr (8, [.ref m_now, .ref m_undone, .ref m_slots, .ref m_slotKind, .ref m_hasSlot, .ref m_sheetBits, .ref m_sheetSize, .ref m_sheets, .int (nI u), .int ((f_X8_found fi (-1000001)).2), .ref m_fresh, .long aa, .long bb, .long dd, .int (nI ro), .ref m_rootWhich, .int db, .ref m_signs, .ref m_atNought, .int (nI mn), .ref m_change, .ref m_table, .ref m_carried])), (m_sheetBits, .inl (cy 0, 4, .inl sb)), (m_sheetSize, .inl (cy 0, 4, .inl ss)), (m_sheets, .inl (cy 0, 64, .inl sh)), (m_carried, .inl (cy 0, 16, .inl cr))] := hD9
              replace hS := hS9
              clear hP9 hD9 hS9
              have hF : f_X8_copy sb ss sh fi cr px pf py po pn = (((f_X8_found fi (-1000001)).1), ((f_X8_found fi (-1000001)).2), sh, cr) := hF
              have hf0 := yk_fst hF
              have hg0 := yk_snd hF
              have hf1 := yk_fst hg0
              have hg1 := yk_snd hg0
              have hf2 := yk_fst hg1
              have hg2 := yk_snd hg1
              rw [hf0, hf1, hf2, hg2] at hQ
              exact hQ _ _ _ _ dX8_copy_123 hP hS
            · replace hF := hF.trans (if_neg hc8)
              refine lv_iload hx hb dX8_copy_72 (lv_at hl 4 rfl) ?_
              refine lv_if_lt (tgt := 117) hx hb dX8_copy_74 (by decide) (fun hc9 => ?_) (fun hc9 => ?_)
              · replace hF := hF.trans (if_pos hc9)
                refine lv_aload_n hx hb dX8_copy_117 rfl (lv_at hl 0 rfl) ?_
                refine lv_ldc (v := (-1000001)) hx hb hown (hts _ kX8_copy_0) dX8_copy_118 ?_
                refine yk_i [0] (va_runV (As := [.int (-1000001)]) (rest := []) ⟨hx, hb, hml, hown, hts⟩ (c_X8_found l D cy ta m_now m_undone m_slots m_slotKind m_hasSlot m_sheetBits m_sheetSize m_sheets m_fresh m_rootWhich m_signs m_atNought m_change m_table m_carried u fi aa bb dd ro db mn (-1000001) H.size) (cwV 1 hts gX8_copy_X8_found rfl rfl rfl hv_X8_found (yk_room hRf hRl rfl rfl)) (yk_pv (q := (RX8, TX8, 23)) hG hA hS hK hP hD [0] (by decide +kernel) rfl rfl rfl) rfl rfl hl.1 rfl (lv_room (Nat.le_of_ble_eq_true rfl)) dX8_copy_120 ⟨Nat.zero_le _, Nat.zero_le _⟩) hP hD hS hA rfl rfl (fun H locs hP9 hD9 hS9 => ?_)
                replace hP : va_P D vwCl [(ta, .inr (8, [.ref m_now, .ref m_undone, .ref m_slots, .ref m_slotKind, .ref m_hasSlot, .ref m_sheetBits, .ref m_sheetSize, .ref m_sheets, .int (nI u), .int ((f_X8_found fi (-1000001)).2), .ref m_fresh, .long aa, .long bb, .long dd, .int (nI ro), .ref m_rootWhich, .int db, .ref m_signs, .ref m_atNought, .int (nI mn), .ref m_change, .ref m_table, .ref m_carried])), (m_sheetBits, .inl (cy 0, 4, .inl sb)), (m_sheetSize, .inl (cy 0, 4, .inl ss)), (m_sheets, .inl (cy 0, 64, .inl sh)), (m_carried, .inl (cy 0, 16, .inl cr))] H := hP9
                replace hD : va_D A [(ta, .inr (8, [.ref m_now, .ref m_undone, .ref m_slots, .ref m_slotKind, .ref m_hasSlot, .ref m_sheetBits, .ref m_sheetSize, .ref m_sheets, .int (nI u), .int ((f_X8_found fi (-1000001)).2), .ref m_fresh, .long aa, .long bb, .long dd, .int (nI ro), .ref m_rootWhich, .int db, .ref m_signs, .ref m_atNought, .int (nI mn), .ref m_change, .ref m_table, .ref m_carried])), (m_sheetBits, .inl (cy 0, 4, .inl sb)), (m_sheetSize, .inl (cy 0, 4, .inl ss)), (m_sheets, .inl (cy 0, 64, .inl sh)), (m_carried, .inl (cy 0, 16, .inl cr))] := hD9
                replace hS := hS9
                clear hP9 hD9 hS9
                have hF : f_X8_copy sb ss sh fi cr px pf py po pn = (((f_X8_found fi (-1000001)).1), ((f_X8_found fi (-1000001)).2), sh, cr) := hF
                have hf0 := yk_fst hF
                have hg0 := yk_snd hF
                have hf1 := yk_fst hg0
                have hg1 := yk_snd hg0
                have hf2 := yk_fst hg1
                have hg2 := yk_snd hg1
                rw [hf0, hf1, hf2, hg2] at hQ
                exact hQ _ _ _ _ dX8_copy_123 hP hS
              · replace hF := hF.trans (if_neg hc9)
                refine lv_iload hx hb dX8_copy_77 (lv_at hl 5 rfl) ?_
                refine lv_if_lt (tgt := 117) hx hb dX8_copy_79 (by decide) (fun hc10 => ?_) (fun hc10 => ?_)
                · replace hF := hF.trans (if_pos hc10)
                  refine lv_aload_n hx hb dX8_copy_117 rfl (lv_at hl 0 rfl) ?_
                  refine lv_ldc (v := (-1000001)) hx hb hown (hts _ kX8_copy_0) dX8_copy_118 ?_
                  refine yk_i [0] (va_runV (As := [.int (-1000001)]) (rest := []) ⟨hx, hb, hml, hown, hts⟩ (c_X8_found l D cy ta m_now m_undone m_slots m_slotKind m_hasSlot m_sheetBits m_sheetSize m_sheets m_fresh m_rootWhich m_signs m_atNought m_change m_table m_carried u fi aa bb dd ro db mn (-1000001) H.size) (cwV 1 hts gX8_copy_X8_found rfl rfl rfl hv_X8_found (yk_room hRf hRl rfl rfl)) (yk_pv (q := (RX8, TX8, 23)) hG hA hS hK hP hD [0] (by decide +kernel) rfl rfl rfl) rfl rfl hl.1 rfl (lv_room (Nat.le_of_ble_eq_true rfl)) dX8_copy_120 ⟨Nat.zero_le _, Nat.zero_le _⟩) hP hD hS hA rfl rfl (fun H locs hP9 hD9 hS9 => ?_)
                  replace hP : va_P D vwCl [(ta, .inr (8, [.ref m_now, .ref m_undone, .ref m_slots, .ref m_slotKind, .ref m_hasSlot, .ref m_sheetBits, .ref m_sheetSize, .ref m_sheets, .int (nI u), .int ((f_X8_found fi (-1000001)).2), .ref m_fresh, .long aa, .long bb, .long dd, .int (nI ro), .ref m_rootWhich, .int db, .ref m_signs, .ref m_atNought, .int (nI mn), .ref m_change, .ref m_table, .ref m_carried])), (m_sheetBits, .inl (cy 0, 4, .inl sb)), (m_sheetSize, .inl (cy 0, 4, .inl ss)), (m_sheets, .inl (cy 0, 64, .inl sh)), (m_carried, .inl (cy 0, 16, .inl cr))] H := hP9
                  replace hD : va_D A [(ta, .inr (8, [.ref m_now, .ref m_undone, .ref m_slots, .ref m_slotKind, .ref m_hasSlot, .ref m_sheetBits, .ref m_sheetSize, .ref m_sheets, .int (nI u), .int ((f_X8_found fi (-1000001)).2), .ref m_fresh, .long aa, .long bb, .long dd, .int (nI ro), .ref m_rootWhich, .int db, .ref m_signs, .ref m_atNought, .int (nI mn), .ref m_change, .ref m_table, .ref m_carried])), (m_sheetBits, .inl (cy 0, 4, .inl sb)), (m_sheetSize, .inl (cy 0, 4, .inl ss)), (m_sheets, .inl (cy 0, 64, .inl sh)), (m_carried, .inl (cy 0, 16, .inl cr))] := hD9
                  replace hS := hS9
                  clear hP9 hD9 hS9
                  have hF : f_X8_copy sb ss sh fi cr px pf py po pn = (((f_X8_found fi (-1000001)).1), ((f_X8_found fi (-1000001)).2), sh, cr) := hF
                  have hf0 := yk_fst hF
                  have hg0 := yk_snd hF
                  have hf1 := yk_fst hg0
                  have hg1 := yk_snd hg0
                  have hf2 := yk_fst hg1
                  have hg2 := yk_snd hg1
                  rw [hf0, hf1, hf2, hg2] at hQ
                  exact hQ _ _ _ _ dX8_copy_123 hP hS
                · replace hF := hF.trans (if_neg hc10)
                  refine lv_iload_n hx hb dX8_copy_82 rfl (lv_at hl 2 rfl) ?_
                  refine lv_i2l hx hb dX8_copy_83 rfl ?_
                  refine lv_iload hx hb dX8_copy_84 (lv_at hl 5 rfl) ?_
                  refine lv_i2l hx hb dX8_copy_86 rfl ?_
                  refine lv_ladd hx hb dX8_copy_87 ?_
                  refine lv_aload_n hx hb dX8_copy_88 rfl (lv_at hl 0 rfl) ?_
                  refine va_get (D := D) (ci := 8) (v := .ref m_sheetSize) (C := RX8) (T := TX8) (N := 23) hx hb hts uX8_copy_X8 hown hK hP 0 rfl rfl 6 (by decide) (hts _ kX8_copy_3) (fun _ h9 => h9) rfl dX8_copy_89 ?_
                  refine lv_iload_n hx hb dX8_copy_92 rfl (lv_at hl 1 rfl) ?_
                  refine yk_ild hx hb hK hP 2 0 rfl rfl px.toNatClampNeg (by omega) (by decide) dX8_copy_93 ?_
                  refine lv_i2l hx hb dX8_copy_94 rfl ?_
                  refine W.lcmp hx hb dX8_copy_95 ?_
                  refine lv_if_gt (tgt := 117) hx hb dX8_copy_96 (by decide) (fun hc11 => ?_) (fun hc11 => ?_)
                  · replace hF := hF.trans (if_pos hc11)
                    refine lv_aload_n hx hb dX8_copy_117 rfl (lv_at hl 0 rfl) ?_
                    refine lv_ldc (v := (-1000001)) hx hb hown (hts _ kX8_copy_0) dX8_copy_118 ?_
                    refine yk_i [0] (va_runV (As := [.int (-1000001)]) (rest := []) ⟨hx, hb, hml, hown, hts⟩ (c_X8_found l D cy ta m_now m_undone m_slots m_slotKind m_hasSlot m_sheetBits m_sheetSize m_sheets m_fresh m_rootWhich m_signs m_atNought m_change m_table m_carried u fi aa bb dd ro db mn (-1000001) H.size) (cwV 1 hts gX8_copy_X8_found rfl rfl rfl hv_X8_found (yk_room hRf hRl rfl rfl)) (yk_pv (q := (RX8, TX8, 23)) hG hA hS hK hP hD [0] (by decide +kernel) rfl rfl rfl) rfl rfl hl.1 rfl (lv_room (Nat.le_of_ble_eq_true rfl)) dX8_copy_120 ⟨Nat.zero_le _, Nat.zero_le _⟩) hP hD hS hA rfl rfl (fun H locs hP9 hD9 hS9 => ?_)
                    replace hP : va_P D vwCl [(ta, .inr (8, [.ref m_now, .ref m_undone, .ref m_slots, .ref m_slotKind, .ref m_hasSlot, .ref m_sheetBits, .ref m_sheetSize, .ref m_sheets, .int (nI u), .int ((f_X8_found fi (-1000001)).2), .ref m_fresh, .long aa, .long bb, .long dd, .int (nI ro), .ref m_rootWhich, .int db, .ref m_signs, .ref m_atNought, .int (nI mn), .ref m_change, .ref m_table, .ref m_carried])), (m_sheetBits, .inl (cy 0, 4, .inl sb)), (m_sheetSize, .inl (cy 0, 4, .inl ss)), (m_sheets, .inl (cy 0, 64, .inl sh)), (m_carried, .inl (cy 0, 16, .inl cr))] H := hP9
                    replace hD : va_D A [(ta, .inr (8, [.ref m_now, .ref m_undone, .ref m_slots, .ref m_slotKind, .ref m_hasSlot, .ref m_sheetBits, .ref m_sheetSize, .ref m_sheets, .int (nI u), .int ((f_X8_found fi (-1000001)).2), .ref m_fresh, .long aa, .long bb, .long dd, .int (nI ro), .ref m_rootWhich, .int db, .ref m_signs, .ref m_atNought, .int (nI mn), .ref m_change, .ref m_table, .ref m_carried])), (m_sheetBits, .inl (cy 0, 4, .inl sb)), (m_sheetSize, .inl (cy 0, 4, .inl ss)), (m_sheets, .inl (cy 0, 64, .inl sh)), (m_carried, .inl (cy 0, 16, .inl cr))] := hD9
                    replace hS := hS9
                    clear hP9 hD9 hS9
                    have hF : f_X8_copy sb ss sh fi cr px pf py po pn = (((f_X8_found fi (-1000001)).1), ((f_X8_found fi (-1000001)).2), sh, cr) := hF
                    have hf0 := yk_fst hF
                    have hg0 := yk_snd hF
                    have hf1 := yk_fst hg0
                    have hg1 := yk_snd hg0
                    have hf2 := yk_fst hg1
                    have hg2 := yk_snd hg1
                    rw [hf0, hf1, hf2, hg2] at hQ
                    exact hQ _ _ _ _ dX8_copy_123 hP hS
                  · replace hF := hF.trans (if_neg hc11)
                    refine lv_iload hx hb dX8_copy_99 (lv_at hl 4 rfl) ?_
                    refine lv_i2l hx hb dX8_copy_101 rfl ?_
                    refine lv_iload hx hb dX8_copy_102 (lv_at hl 5 rfl) ?_
                    refine lv_i2l hx hb dX8_copy_104 rfl ?_
                    refine lv_ladd hx hb dX8_copy_105 ?_
                    refine lv_aload_n hx hb dX8_copy_106 rfl (lv_at hl 0 rfl) ?_
                    refine va_get (D := D) (ci := 8) (v := .ref m_sheetSize) (C := RX8) (T := TX8) (N := 23) hx hb hts uX8_copy_X8 hown hK hP 0 rfl rfl 6 (by decide) (hts _ kX8_copy_3) (fun _ h9 => h9) rfl dX8_copy_107 ?_
                    refine lv_iload_n hx hb dX8_copy_110 rfl (lv_at hl 3 rfl) ?_
                    refine yk_ild hx hb hK hP 2 0 rfl rfl py.toNatClampNeg (by omega) (by decide) dX8_copy_111 ?_
                    refine lv_i2l hx hb dX8_copy_112 rfl ?_
                    refine W.lcmp hx hb dX8_copy_113 ?_
                    refine lv_if_le (tgt := 124) hx hb dX8_copy_114 (by decide) (fun hc12 => ?_) (fun hc12 => ?_)
                    · replace hF := hF.trans (if_pos hc12)
                      have hq8 := cp_ok (x := pf) (y := pn) (hss px.toNatClampNeg (by omega)) (by assumption) (by assumption) (yk_cle (by assumption))
                      have hq9 := cp_ok (x := po) (y := pn) (hss py.toNatClampNeg (by omega)) (by assumption) (by assumption) (yk_cle' (by assumption))
                      have hq13 : pf = nI pf.toNatClampNeg := hq8.1.1
                      have hq13b : pf.toNatClampNeg < 17 := hq8.1.2
                      rw [hq13] at hl
                      have hq14 : po = nI po.toNatClampNeg := hq9.1.1
                      have hq14b : po.toNatClampNeg < 17 := hq9.1.2
                      rw [hq14] at hl
                      have hq15 : pn = nI pn.toNatClampNeg := hq8.2.1.1
                      have hq15b : pn.toNatClampNeg < 17 := hq8.2.1.2
                      rw [hq15] at hl
                      refine lv_iconst (v := 0) hx hb dX8_copy_124 (by decide) ?_
                      refine lv_istore (lv' := [(6, .int 0), (0, .ref ta), (1, .int (nI px.toNatClampNeg)), (2, .int (nI pf.toNatClampNeg)), (3, .int (nI py.toNatClampNeg)), (4, .int (nI po.toNatClampNeg)), (5, .int (nI pn.toNatClampNeg))]) hx hb dX8_copy_125 hl (by decide) rfl (fun ls hl9 => ?_)
                      replace hl := hl9
                      clear hl9
                      have J18 : ∀ (H : Heap) (locs : List Loc) (ls : Array Slot), va_P D vwCl [(ta, .inr (8, [.ref m_now, .ref m_undone, .ref m_slots, .ref m_slotKind, .ref m_hasSlot, .ref m_sheetBits, .ref m_sheetSize, .ref m_sheets, .int (nI u), .int fi, .ref m_fresh, .long aa, .long bb, .long dd, .int (nI ro), .ref m_rootWhich, .int db, .ref m_signs, .ref m_atNought, .int (nI mn), .ref m_change, .ref m_table, .ref m_carried])), (m_sheetBits, .inl (cy 0, 4, .inl sb)), (m_sheetSize, .inl (cy 0, 4, .inl ss)), (m_sheets, .inl (cy 0, 64, .inl sh)), (m_carried, .inl (cy 0, 16, .inl (l_X8_copy_127 sb ss sh fi cr px pf py po pn (pn.toNatClampNeg + 1) 0 cr)))] H → va_D A [(ta, .inr (8, [.ref m_now, .ref m_undone, .ref m_slots, .ref m_slotKind, .ref m_hasSlot, .ref m_sheetBits, .ref m_sheetSize, .ref m_sheets, .int (nI u), .int fi, .ref m_fresh, .long aa, .long bb, .long dd, .int (nI ro), .ref m_rootWhich, .int db, .ref m_signs, .ref m_atNought, .int (nI mn), .ref m_change, .ref m_table, .ref m_carried])), (m_sheetBits, .inl (cy 0, 4, .inl sb)), (m_sheetSize, .inl (cy 0, 4, .inl ss)), (m_sheets, .inl (cy 0, 64, .inl sh)), (m_carried, .inl (cy 0, 16, .inl (l_X8_copy_127 sb ss sh fi cr px pf py po pn (pn.toNatClampNeg + 1) 0 cr)))] → va_S A s.heap H locs → lv_has ls 7 [(0, .ref ta), (1, .int (nI px.toNatClampNeg)), (2, .int (nI pf.toNatClampNeg)), (3, .int (nI py.toNatClampNeg)), (4, .int (nI po.toNatClampNeg)), (5, .int (nI pn.toNatClampNeg))] → W p l e R s m args below meth c H locs 0 0 Q (F0 m 161 ls []) := by
                        clear hP hD hS hl
                        intro H locs ls hP hD hS hl
                        refine lv_iconst (v := 0) hx hb dX8_copy_161 (by decide) ?_
                        refine lv_istore (lv' := [(6, .int 0), (0, .ref ta), (1, .int (nI px.toNatClampNeg)), (2, .int (nI pf.toNatClampNeg)), (3, .int (nI py.toNatClampNeg)), (4, .int (nI po.toNatClampNeg)), (5, .int (nI pn.toNatClampNeg))]) hx hb dX8_copy_162 hl (by decide) rfl (fun ls hl9 => ?_)
                        replace hl := hl9
                        clear hl9
                        have J21 : ∀ (H : Heap) (locs : List Loc) (ls : Array Slot), va_P D vwCl [(ta, .inr (8, [.ref m_now, .ref m_undone, .ref m_slots, .ref m_slotKind, .ref m_hasSlot, .ref m_sheetBits, .ref m_sheetSize, .ref m_sheets, .int (nI u), .int fi, .ref m_fresh, .long aa, .long bb, .long dd, .int (nI ro), .ref m_rootWhich, .int db, .ref m_signs, .ref m_atNought, .int (nI mn), .ref m_change, .ref m_table, .ref m_carried])), (m_sheetBits, .inl (cy 0, 4, .inl sb)), (m_sheetSize, .inl (cy 0, 4, .inl ss)), (m_sheets, .inl (cy 0, 64, .inl (l_X8_copy_164 sb ss sh fi cr px pf py po pn (pn.toNatClampNeg + 1) 0 sh))), (m_carried, .inl (cy 0, 16, .inl (l_X8_copy_127 sb ss sh fi cr px pf py po pn (pn.toNatClampNeg + 1) 0 cr)))] H → va_D A [(ta, .inr (8, [.ref m_now, .ref m_undone, .ref m_slots, .ref m_slotKind, .ref m_hasSlot, .ref m_sheetBits, .ref m_sheetSize, .ref m_sheets, .int (nI u), .int fi, .ref m_fresh, .long aa, .long bb, .long dd, .int (nI ro), .ref m_rootWhich, .int db, .ref m_signs, .ref m_atNought, .int (nI mn), .ref m_change, .ref m_table, .ref m_carried])), (m_sheetBits, .inl (cy 0, 4, .inl sb)), (m_sheetSize, .inl (cy 0, 4, .inl ss)), (m_sheets, .inl (cy 0, 64, .inl (l_X8_copy_164 sb ss sh fi cr px pf py po pn (pn.toNatClampNeg + 1) 0 sh))), (m_carried, .inl (cy 0, 16, .inl (l_X8_copy_127 sb ss sh fi cr px pf py po pn (pn.toNatClampNeg + 1) 0 cr)))] → va_S A s.heap H locs → lv_has ls 7 [(0, .ref ta), (1, .int (nI px.toNatClampNeg)), (2, .int (nI pf.toNatClampNeg)), (3, .int (nI py.toNatClampNeg)), (4, .int (nI po.toNatClampNeg)), (5, .int (nI pn.toNatClampNeg))] → W p l e R s m args below meth c H locs 0 0 Q (F0 m 199 ls []) := by
                          clear hP hD hS hl
                          intro H locs ls hP hD hS hl
                          refine lv_iload hx hb dX8_copy_199 (lv_at hl 5 rfl) ?_
                          have hF : f_X8_copy sb ss sh fi cr px pf py po pn = ((nI pn.toNatClampNeg), fi, (l_X8_copy_164 sb ss sh fi cr px pf py po pn (pn.toNatClampNeg + 1) 0 sh), (l_X8_copy_127 sb ss sh fi cr px pf py po pn (pn.toNatClampNeg + 1) 0 cr)) := hF
                          have hf0 := yk_fst hF
                          have hg0 := yk_snd hF
                          have hf1 := yk_fst hg0
                          have hg1 := yk_snd hg0
                          have hf2 := yk_fst hg1
                          have hg2 := yk_snd hg1
                          rw [hf0, hf1, hf2, hg2] at hQ
                          exact hQ _ _ _ _ dX8_copy_201 hP hS
                        have L164 : ∀ (M9 n164 kj : Nat) (zsheets_164 : Nat → Int32) (H : Heap) (locs : List Loc) (ls : Array Slot), n164 < M9 → kj + n164 = pn.toNatClampNeg → (l_X8_copy_164 sb ss sh fi cr px pf py po pn (pn.toNatClampNeg + 1) 0 sh) = (l_X8_copy_164 sb ss sh fi cr px pf py po pn (n164 + 1) kj zsheets_164) → va_P D vwCl [(ta, .inr (8, [.ref m_now, .ref m_undone, .ref m_slots, .ref m_slotKind, .ref m_hasSlot, .ref m_sheetBits, .ref m_sheetSize, .ref m_sheets, .int (nI u), .int fi, .ref m_fresh, .long aa, .long bb, .long dd, .int (nI ro), .ref m_rootWhich, .int db, .ref m_signs, .ref m_atNought, .int (nI mn), .ref m_change, .ref m_table, .ref m_carried])), (m_sheetBits, .inl (cy 0, 4, .inl sb)), (m_sheetSize, .inl (cy 0, 4, .inl ss)), (m_sheets, .inl (cy 0, 64, .inl zsheets_164)), (m_carried, .inl (cy 0, 16, .inl (l_X8_copy_127 sb ss sh fi cr px pf py po pn (pn.toNatClampNeg + 1) 0 cr)))] H → va_D A [(ta, .inr (8, [.ref m_now, .ref m_undone, .ref m_slots, .ref m_slotKind, .ref m_hasSlot, .ref m_sheetBits, .ref m_sheetSize, .ref m_sheets, .int (nI u), .int fi, .ref m_fresh, .long aa, .long bb, .long dd, .int (nI ro), .ref m_rootWhich, .int db, .ref m_signs, .ref m_atNought, .int (nI mn), .ref m_change, .ref m_table, .ref m_carried])), (m_sheetBits, .inl (cy 0, 4, .inl sb)), (m_sheetSize, .inl (cy 0, 4, .inl ss)), (m_sheets, .inl (cy 0, 64, .inl zsheets_164)), (m_carried, .inl (cy 0, 16, .inl (l_X8_copy_127 sb ss sh fi cr px pf py po pn (pn.toNatClampNeg + 1) 0 cr)))] → va_S A s.heap H locs → lv_has ls 7 [(0, .ref ta), (1, .int (nI px.toNatClampNeg)), (2, .int (nI pf.toNatClampNeg)), (3, .int (nI py.toNatClampNeg)), (4, .int (nI po.toNatClampNeg)), (5, .int (nI pn.toNatClampNeg)), (6, .int (nI kj))] → W p l e R s m args below meth c H locs 0 0 Q (F0 m 164 ls []) := by
                          clear hP hD hS hl
                          intro M9
                          induction M9 with
                          | zero => intro n164 kj _ _ _ _ hn; exact absurd hn (Nat.not_lt_zero _)
                          | succ M9 ih164 =>
                            intro n164 kj zsheets_164 H locs ls hn164 hk164 hV164 hP hD hS hl
                            refine lv_iload hx hb dX8_copy_164 (lv_at hl 6 rfl) ?_
                            refine lv_iload hx hb dX8_copy_166 (lv_at hl 5 rfl) ?_
                            refine lv_icmp_ge (tgt := 199) hx hb dX8_copy_168 (by decide) (fun hc20 => ?_) (fun hc20 => ?_)
                            · replace hV164 := hV164.trans (if_pos hc20)
                              have hV164 : (l_X8_copy_164 sb ss sh fi cr px pf py po pn (pn.toNatClampNeg + 1) 0 sh) = zsheets_164 := hV164
                              have J21 := J21
                              rw [hV164] at J21
                              exact J21 _ _ _ hP hD hS (lv_sub hl [0, 1, 2, 3, 4, 5] rfl)
                            · replace hV164 := hV164.trans (if_neg hc20)
                              have hlt164 : kj < pn.toNatClampNeg := yk_lt hk164 (by omega) hc20
                              refine lv_aload_n hx hb dX8_copy_171 rfl (lv_at hl 0 rfl) ?_
                              refine va_get (D := D) (ci := 8) (v := .ref m_sheets) (C := RX8) (T := TX8) (N := 23) hx hb hts uX8_copy_X8 hown hK hP 0 rfl rfl 7 (by decide) (hts _ kX8_copy_5) (fun _ h9 => h9) rfl dX8_copy_172 ?_
                              refine lv_bipush (v := 16) hx hb dX8_copy_175 (by decide) ?_
                              refine lv_iload_n hx hb dX8_copy_177 rfl (lv_at hl 3 rfl) ?_
                              refine lv_imul hx hb dX8_copy_178 ?_
                              refine yk_ti (y := nI (16 * py.toNatClampNeg)) (pk_mul 16 py.toNatClampNeg) ?_
                              refine lv_iload hx hb dX8_copy_179 (lv_at hl 4 rfl) ?_
                              refine lv_iadd hx hb dX8_copy_181 ?_
                              refine yk_ti (y := nI ((16 * py.toNatClampNeg) + po.toNatClampNeg)) (nI_add (16 * py.toNatClampNeg) po.toNatClampNeg) ?_
                              refine lv_iload hx hb dX8_copy_182 (lv_at hl 6 rfl) ?_
                              refine lv_iadd hx hb dX8_copy_184 ?_
                              refine yk_ti (y := nI (((16 * py.toNatClampNeg) + po.toNatClampNeg) + kj)) (nI_add ((16 * py.toNatClampNeg) + po.toNatClampNeg) kj) ?_
                              refine lv_aload_n hx hb dX8_copy_185 rfl (lv_at hl 0 rfl) ?_
                              refine va_get (D := D) (ci := 8) (v := .ref m_carried) (C := RX8) (T := TX8) (N := 23) hx hb hts uX8_copy_X8 hown hK hP 0 rfl rfl 22 (by decide) (hts _ kX8_copy_4) (fun _ h9 => h9) rfl dX8_copy_186 ?_
                              refine lv_iload hx hb dX8_copy_189 (lv_at hl 6 rfl) ?_
                              refine yk_ild hx hb hK hP 4 0 rfl rfl kj (by omega) (by decide) dX8_copy_191 ?_
                              refine yk_ist hx hb hK hP hD hS 3 0 rfl rfl (((16 * py.toNatClampNeg) + po.toNatClampNeg) + kj) (by omega) (by decide) dX8_copy_192 (fun H locs hP9 hD9 hS9 => ?_)
                              replace hP : va_P D vwCl [(ta, .inr (8, [.ref m_now, .ref m_undone, .ref m_slots, .ref m_slotKind, .ref m_hasSlot, .ref m_sheetBits, .ref m_sheetSize, .ref m_sheets, .int (nI u), .int fi, .ref m_fresh, .long aa, .long bb, .long dd, .int (nI ro), .ref m_rootWhich, .int db, .ref m_signs, .ref m_atNought, .int (nI mn), .ref m_change, .ref m_table, .ref m_carried])), (m_sheetBits, .inl (cy 0, 4, .inl sb)), (m_sheetSize, .inl (cy 0, 4, .inl ss)), (m_sheets, .inl (cy 0, 64, .inl (upd zsheets_164 (((16 * py.toNatClampNeg) + po.toNatClampNeg) + kj) ((l_X8_copy_127 sb ss sh fi cr px pf py po pn (pn.toNatClampNeg + 1) 0 cr) kj)))), (m_carried, .inl (cy 0, 16, .inl (l_X8_copy_127 sb ss sh fi cr px pf py po pn (pn.toNatClampNeg + 1) 0 cr)))] H := hP9
                              replace hD : va_D A [(ta, .inr (8, [.ref m_now, .ref m_undone, .ref m_slots, .ref m_slotKind, .ref m_hasSlot, .ref m_sheetBits, .ref m_sheetSize, .ref m_sheets, .int (nI u), .int fi, .ref m_fresh, .long aa, .long bb, .long dd, .int (nI ro), .ref m_rootWhich, .int db, .ref m_signs, .ref m_atNought, .int (nI mn), .ref m_change, .ref m_table, .ref m_carried])), (m_sheetBits, .inl (cy 0, 4, .inl sb)), (m_sheetSize, .inl (cy 0, 4, .inl ss)), (m_sheets, .inl (cy 0, 64, .inl (upd zsheets_164 (((16 * py.toNatClampNeg) + po.toNatClampNeg) + kj) ((l_X8_copy_127 sb ss sh fi cr px pf py po pn (pn.toNatClampNeg + 1) 0 cr) kj)))), (m_carried, .inl (cy 0, 16, .inl (l_X8_copy_127 sb ss sh fi cr px pf py po pn (pn.toNatClampNeg + 1) 0 cr)))] := hD9
                              replace hS := hS9
                              clear hP9 hD9 hS9
                              refine lv_iinc (v := nI (kj + 1)) (lv' := [(6, .int (nI (kj + 1))), (0, .ref ta), (1, .int (nI px.toNatClampNeg)), (2, .int (nI pf.toNatClampNeg)), (3, .int (nI py.toNatClampNeg)), (4, .int (nI po.toNatClampNeg)), (5, .int (nI pn.toNatClampNeg))]) hx hb dX8_copy_193 hl (k := 6) rfl (yk_inc kj) (by decide) rfl (fun ls hl9 => ?_)
                              replace hl := hl9
                              clear hl9
                              refine lv_goto (tgt := 164) hx hb dX8_copy_196 (by decide) ?_
                              obtain ⟨n9, rfl⟩ : ∃ n9, n164 = n9 + 1 := ⟨n164 - 1, by omega⟩
                              exact ih164 n9 (kj + 1) (upd zsheets_164 (((16 * py.toNatClampNeg) + po.toNatClampNeg) + kj) ((l_X8_copy_127 sb ss sh fi cr px pf py po pn (pn.toNatClampNeg + 1) 0 cr) kj)) _ _ _ (by omega) (by omega)  hV164 hP hD hS (lv_sub hl [1, 2, 3, 4, 5, 6, 0] rfl)
                        exact L164 (pn.toNatClampNeg + 1) pn.toNatClampNeg 0 sh _ _ _ (Nat.lt_succ_self _) (by omega)  rfl hP hD hS (lv_sub hl [1, 2, 3, 4, 5, 6, 0] rfl)
                      have L127 : ∀ (M9 n127 ki : Nat) (zcarried_127 : Nat → Int32) (H : Heap) (locs : List Loc) (ls : Array Slot), n127 < M9 → ki + n127 = pn.toNatClampNeg → (l_X8_copy_127 sb ss sh fi cr px pf py po pn (pn.toNatClampNeg + 1) 0 cr) = (l_X8_copy_127 sb ss sh fi cr px pf py po pn (n127 + 1) ki zcarried_127) → va_P D vwCl [(ta, .inr (8, [.ref m_now, .ref m_undone, .ref m_slots, .ref m_slotKind, .ref m_hasSlot, .ref m_sheetBits, .ref m_sheetSize, .ref m_sheets, .int (nI u), .int fi, .ref m_fresh, .long aa, .long bb, .long dd, .int (nI ro), .ref m_rootWhich, .int db, .ref m_signs, .ref m_atNought, .int (nI mn), .ref m_change, .ref m_table, .ref m_carried])), (m_sheetBits, .inl (cy 0, 4, .inl sb)), (m_sheetSize, .inl (cy 0, 4, .inl ss)), (m_sheets, .inl (cy 0, 64, .inl sh)), (m_carried, .inl (cy 0, 16, .inl zcarried_127))] H → va_D A [(ta, .inr (8, [.ref m_now, .ref m_undone, .ref m_slots, .ref m_slotKind, .ref m_hasSlot, .ref m_sheetBits, .ref m_sheetSize, .ref m_sheets, .int (nI u), .int fi, .ref m_fresh, .long aa, .long bb, .long dd, .int (nI ro), .ref m_rootWhich, .int db, .ref m_signs, .ref m_atNought, .int (nI mn), .ref m_change, .ref m_table, .ref m_carried])), (m_sheetBits, .inl (cy 0, 4, .inl sb)), (m_sheetSize, .inl (cy 0, 4, .inl ss)), (m_sheets, .inl (cy 0, 64, .inl sh)), (m_carried, .inl (cy 0, 16, .inl zcarried_127))] → va_S A s.heap H locs → lv_has ls 7 [(0, .ref ta), (1, .int (nI px.toNatClampNeg)), (2, .int (nI pf.toNatClampNeg)), (3, .int (nI py.toNatClampNeg)), (4, .int (nI po.toNatClampNeg)), (5, .int (nI pn.toNatClampNeg)), (6, .int (nI ki))] → W p l e R s m args below meth c H locs 0 0 Q (F0 m 127 ls []) := by
                        clear hP hD hS hl
                        intro M9
                        induction M9 with
                        | zero => intro n127 ki _ _ _ _ hn; exact absurd hn (Nat.not_lt_zero _)
                        | succ M9 ih127 =>
                          intro n127 ki zcarried_127 H locs ls hn127 hk127 hV127 hP hD hS hl
                          refine lv_iload hx hb dX8_copy_127 (lv_at hl 6 rfl) ?_
                          refine lv_iload hx hb dX8_copy_129 (lv_at hl 5 rfl) ?_
                          refine lv_icmp_ge (tgt := 161) hx hb dX8_copy_131 (by decide) (fun hc17 => ?_) (fun hc17 => ?_)
                          · replace hV127 := hV127.trans (if_pos hc17)
                            have hV127 : (l_X8_copy_127 sb ss sh fi cr px pf py po pn (pn.toNatClampNeg + 1) 0 cr) = zcarried_127 := hV127
                            have J18 := J18
                            rw [hV127] at J18
                            exact J18 _ _ _ hP hD hS (lv_sub hl [0, 1, 2, 3, 4, 5] rfl)
                          · replace hV127 := hV127.trans (if_neg hc17)
                            have hlt127 : ki < pn.toNatClampNeg := yk_lt hk127 (by omega) hc17
                            refine lv_aload_n hx hb dX8_copy_134 rfl (lv_at hl 0 rfl) ?_
                            refine va_get (D := D) (ci := 8) (v := .ref m_carried) (C := RX8) (T := TX8) (N := 23) hx hb hts uX8_copy_X8 hown hK hP 0 rfl rfl 22 (by decide) (hts _ kX8_copy_4) (fun _ h9 => h9) rfl dX8_copy_135 ?_
                            refine lv_iload hx hb dX8_copy_138 (lv_at hl 6 rfl) ?_
                            refine lv_aload_n hx hb dX8_copy_140 rfl (lv_at hl 0 rfl) ?_
                            refine va_get (D := D) (ci := 8) (v := .ref m_sheets) (C := RX8) (T := TX8) (N := 23) hx hb hts uX8_copy_X8 hown hK hP 0 rfl rfl 7 (by decide) (hts _ kX8_copy_5) (fun _ h9 => h9) rfl dX8_copy_141 ?_
                            refine lv_bipush (v := 16) hx hb dX8_copy_144 (by decide) ?_
                            refine lv_iload_n hx hb dX8_copy_146 rfl (lv_at hl 1 rfl) ?_
                            refine lv_imul hx hb dX8_copy_147 ?_
                            refine yk_ti (y := nI (16 * px.toNatClampNeg)) (pk_mul 16 px.toNatClampNeg) ?_
                            refine lv_iload_n hx hb dX8_copy_148 rfl (lv_at hl 2 rfl) ?_
                            refine lv_iadd hx hb dX8_copy_149 ?_
                            refine yk_ti (y := nI ((16 * px.toNatClampNeg) + pf.toNatClampNeg)) (nI_add (16 * px.toNatClampNeg) pf.toNatClampNeg) ?_
                            refine lv_iload hx hb dX8_copy_150 (lv_at hl 6 rfl) ?_
                            refine lv_iadd hx hb dX8_copy_152 ?_
                            refine yk_ti (y := nI (((16 * px.toNatClampNeg) + pf.toNatClampNeg) + ki)) (nI_add ((16 * px.toNatClampNeg) + pf.toNatClampNeg) ki) ?_
                            refine yk_ild hx hb hK hP 3 0 rfl rfl (((16 * px.toNatClampNeg) + pf.toNatClampNeg) + ki) (by omega) (by decide) dX8_copy_153 ?_
                            refine yk_ist hx hb hK hP hD hS 4 0 rfl rfl ki (by omega) (by decide) dX8_copy_154 (fun H locs hP9 hD9 hS9 => ?_)
                            replace hP : va_P D vwCl [(ta, .inr (8, [.ref m_now, .ref m_undone, .ref m_slots, .ref m_slotKind, .ref m_hasSlot, .ref m_sheetBits, .ref m_sheetSize, .ref m_sheets, .int (nI u), .int fi, .ref m_fresh, .long aa, .long bb, .long dd, .int (nI ro), .ref m_rootWhich, .int db, .ref m_signs, .ref m_atNought, .int (nI mn), .ref m_change, .ref m_table, .ref m_carried])), (m_sheetBits, .inl (cy 0, 4, .inl sb)), (m_sheetSize, .inl (cy 0, 4, .inl ss)), (m_sheets, .inl (cy 0, 64, .inl sh)), (m_carried, .inl (cy 0, 16, .inl (upd zcarried_127 ki (sh (((16 * px.toNatClampNeg) + pf.toNatClampNeg) + ki)))))] H := hP9
                            replace hD : va_D A [(ta, .inr (8, [.ref m_now, .ref m_undone, .ref m_slots, .ref m_slotKind, .ref m_hasSlot, .ref m_sheetBits, .ref m_sheetSize, .ref m_sheets, .int (nI u), .int fi, .ref m_fresh, .long aa, .long bb, .long dd, .int (nI ro), .ref m_rootWhich, .int db, .ref m_signs, .ref m_atNought, .int (nI mn), .ref m_change, .ref m_table, .ref m_carried])), (m_sheetBits, .inl (cy 0, 4, .inl sb)), (m_sheetSize, .inl (cy 0, 4, .inl ss)), (m_sheets, .inl (cy 0, 64, .inl sh)), (m_carried, .inl (cy 0, 16, .inl (upd zcarried_127 ki (sh (((16 * px.toNatClampNeg) + pf.toNatClampNeg) + ki)))))] := hD9
                            replace hS := hS9
                            clear hP9 hD9 hS9
                            refine lv_iinc (v := nI (ki + 1)) (lv' := [(6, .int (nI (ki + 1))), (0, .ref ta), (1, .int (nI px.toNatClampNeg)), (2, .int (nI pf.toNatClampNeg)), (3, .int (nI py.toNatClampNeg)), (4, .int (nI po.toNatClampNeg)), (5, .int (nI pn.toNatClampNeg))]) hx hb dX8_copy_155 hl (k := 6) rfl (yk_inc ki) (by decide) rfl (fun ls hl9 => ?_)
                            replace hl := hl9
                            clear hl9
                            refine lv_goto (tgt := 127) hx hb dX8_copy_158 (by decide) ?_
                            obtain ⟨n9, rfl⟩ : ∃ n9, n127 = n9 + 1 := ⟨n127 - 1, by omega⟩
                            exact ih127 n9 (ki + 1) (upd zcarried_127 ki (sh (((16 * px.toNatClampNeg) + pf.toNatClampNeg) + ki))) _ _ _ (by omega) (by omega)  hV127 hP hD hS (lv_sub hl [1, 2, 3, 4, 5, 6, 0] rfl)
                      exact L127 (pn.toNatClampNeg + 1) pn.toNatClampNeg 0 cr _ _ _ (Nat.lt_succ_self _) (by omega)  rfl hP hD hS (lv_sub hl [1, 2, 3, 4, 5, 6, 0] rfl)
                    · replace hF := hF.trans (if_neg hc12)
                      refine lv_aload_n hx hb dX8_copy_117 rfl (lv_at hl 0 rfl) ?_
                      refine lv_ldc (v := (-1000001)) hx hb hown (hts _ kX8_copy_0) dX8_copy_118 ?_
                      refine yk_i [0] (va_runV (As := [.int (-1000001)]) (rest := []) ⟨hx, hb, hml, hown, hts⟩ (c_X8_found l D cy ta m_now m_undone m_slots m_slotKind m_hasSlot m_sheetBits m_sheetSize m_sheets m_fresh m_rootWhich m_signs m_atNought m_change m_table m_carried u fi aa bb dd ro db mn (-1000001) H.size) (cwV 1 hts gX8_copy_X8_found rfl rfl rfl hv_X8_found (yk_room hRf hRl rfl rfl)) (yk_pv (q := (RX8, TX8, 23)) hG hA hS hK hP hD [0] (by decide +kernel) rfl rfl rfl) rfl rfl hl.1 rfl (lv_room (Nat.le_of_ble_eq_true rfl)) dX8_copy_120 ⟨Nat.zero_le _, Nat.zero_le _⟩) hP hD hS hA rfl rfl (fun H locs hP9 hD9 hS9 => ?_)
                      replace hP : va_P D vwCl [(ta, .inr (8, [.ref m_now, .ref m_undone, .ref m_slots, .ref m_slotKind, .ref m_hasSlot, .ref m_sheetBits, .ref m_sheetSize, .ref m_sheets, .int (nI u), .int ((f_X8_found fi (-1000001)).2), .ref m_fresh, .long aa, .long bb, .long dd, .int (nI ro), .ref m_rootWhich, .int db, .ref m_signs, .ref m_atNought, .int (nI mn), .ref m_change, .ref m_table, .ref m_carried])), (m_sheetBits, .inl (cy 0, 4, .inl sb)), (m_sheetSize, .inl (cy 0, 4, .inl ss)), (m_sheets, .inl (cy 0, 64, .inl sh)), (m_carried, .inl (cy 0, 16, .inl cr))] H := hP9
                      replace hD : va_D A [(ta, .inr (8, [.ref m_now, .ref m_undone, .ref m_slots, .ref m_slotKind, .ref m_hasSlot, .ref m_sheetBits, .ref m_sheetSize, .ref m_sheets, .int (nI u), .int ((f_X8_found fi (-1000001)).2), .ref m_fresh, .long aa, .long bb, .long dd, .int (nI ro), .ref m_rootWhich, .int db, .ref m_signs, .ref m_atNought, .int (nI mn), .ref m_change, .ref m_table, .ref m_carried])), (m_sheetBits, .inl (cy 0, 4, .inl sb)), (m_sheetSize, .inl (cy 0, 4, .inl ss)), (m_sheets, .inl (cy 0, 64, .inl sh)), (m_carried, .inl (cy 0, 16, .inl cr))] := hD9
                      replace hS := hS9
                      clear hP9 hD9 hS9
                      have hF : f_X8_copy sb ss sh fi cr px pf py po pn = (((f_X8_found fi (-1000001)).1), ((f_X8_found fi (-1000001)).2), sh, cr) := hF
                      have hf0 := yk_fst hF
                      have hg0 := yk_snd hF
                      have hf1 := yk_fst hg0
                      have hg1 := yk_snd hg0
                      have hf2 := yk_fst hg1
                      have hg2 := yk_snd hg1
                      rw [hf0, hf1, hf2, hg2] at hQ
                      exact hQ _ _ _ _ dX8_copy_123 hP hS
          · replace hF := hF.trans (if_neg hc7)
            refine lv_aload_n hx hb dX8_copy_61 rfl (lv_at hl 0 rfl) ?_
            refine lv_ldc (v := (-1000004)) hx hb hown (hts _ kX8_copy_6) dX8_copy_62 ?_
            refine yk_i [0] (va_runV (As := [.int (-1000004)]) (rest := []) ⟨hx, hb, hml, hown, hts⟩ (c_X8_found l D cy ta m_now m_undone m_slots m_slotKind m_hasSlot m_sheetBits m_sheetSize m_sheets m_fresh m_rootWhich m_signs m_atNought m_change m_table m_carried u fi aa bb dd ro db mn (-1000004) H.size) (cwV 1 hts gX8_copy_X8_found rfl rfl rfl hv_X8_found (yk_room hRf hRl rfl rfl)) (yk_pv (q := (RX8, TX8, 23)) hG hA hS hK hP hD [0] (by decide +kernel) rfl rfl rfl) rfl rfl hl.1 rfl (lv_room (Nat.le_of_ble_eq_true rfl)) dX8_copy_64 ⟨Nat.zero_le _, Nat.zero_le _⟩) hP hD hS hA rfl rfl (fun H locs hP9 hD9 hS9 => ?_)
            replace hP : va_P D vwCl [(ta, .inr (8, [.ref m_now, .ref m_undone, .ref m_slots, .ref m_slotKind, .ref m_hasSlot, .ref m_sheetBits, .ref m_sheetSize, .ref m_sheets, .int (nI u), .int ((f_X8_found fi (-1000004)).2), .ref m_fresh, .long aa, .long bb, .long dd, .int (nI ro), .ref m_rootWhich, .int db, .ref m_signs, .ref m_atNought, .int (nI mn), .ref m_change, .ref m_table, .ref m_carried])), (m_sheetBits, .inl (cy 0, 4, .inl sb)), (m_sheetSize, .inl (cy 0, 4, .inl ss)), (m_sheets, .inl (cy 0, 64, .inl sh)), (m_carried, .inl (cy 0, 16, .inl cr))] H := hP9
            replace hD : va_D A [(ta, .inr (8, [.ref m_now, .ref m_undone, .ref m_slots, .ref m_slotKind, .ref m_hasSlot, .ref m_sheetBits, .ref m_sheetSize, .ref m_sheets, .int (nI u), .int ((f_X8_found fi (-1000004)).2), .ref m_fresh, .long aa, .long bb, .long dd, .int (nI ro), .ref m_rootWhich, .int db, .ref m_signs, .ref m_atNought, .int (nI mn), .ref m_change, .ref m_table, .ref m_carried])), (m_sheetBits, .inl (cy 0, 4, .inl sb)), (m_sheetSize, .inl (cy 0, 4, .inl ss)), (m_sheets, .inl (cy 0, 64, .inl sh)), (m_carried, .inl (cy 0, 16, .inl cr))] := hD9
            replace hS := hS9
            clear hP9 hD9 hS9
            have hF : f_X8_copy sb ss sh fi cr px pf py po pn = (((f_X8_found fi (-1000004)).1), ((f_X8_found fi (-1000004)).2), sh, cr) := hF
            have hf0 := yk_fst hF
            have hg0 := yk_snd hF
            have hf1 := yk_fst hg0
            have hg1 := yk_snd hg0
            have hf2 := yk_fst hg1
            have hg2 := yk_snd hg1
            rw [hf0, hf1, hf2, hg2] at hQ
            exact hQ _ _ _ _ dX8_copy_67 hP hS
        · replace hF := hF.trans (if_pos hc6)
          refine lv_aload_n hx hb dX8_copy_39 rfl (lv_at hl 0 rfl) ?_
          refine lv_ldc (v := (-1000002)) hx hb hown (hts _ kX8_copy_2) dX8_copy_40 ?_
          refine yk_i [0] (va_runV (As := [.int (-1000002)]) (rest := []) ⟨hx, hb, hml, hown, hts⟩ (c_X8_found l D cy ta m_now m_undone m_slots m_slotKind m_hasSlot m_sheetBits m_sheetSize m_sheets m_fresh m_rootWhich m_signs m_atNought m_change m_table m_carried u fi aa bb dd ro db mn (-1000002) H.size) (cwV 1 hts gX8_copy_X8_found rfl rfl rfl hv_X8_found (yk_room hRf hRl rfl rfl)) (yk_pv (q := (RX8, TX8, 23)) hG hA hS hK hP hD [0] (by decide +kernel) rfl rfl rfl) rfl rfl hl.1 rfl (lv_room (Nat.le_of_ble_eq_true rfl)) dX8_copy_42 ⟨Nat.zero_le _, Nat.zero_le _⟩) hP hD hS hA rfl rfl (fun H locs hP9 hD9 hS9 => ?_)
          replace hP : va_P D vwCl [(ta, .inr (8, [.ref m_now, .ref m_undone, .ref m_slots, .ref m_slotKind, .ref m_hasSlot, .ref m_sheetBits, .ref m_sheetSize, .ref m_sheets, .int (nI u), .int ((f_X8_found fi (-1000002)).2), .ref m_fresh, .long aa, .long bb, .long dd, .int (nI ro), .ref m_rootWhich, .int db, .ref m_signs, .ref m_atNought, .int (nI mn), .ref m_change, .ref m_table, .ref m_carried])), (m_sheetBits, .inl (cy 0, 4, .inl sb)), (m_sheetSize, .inl (cy 0, 4, .inl ss)), (m_sheets, .inl (cy 0, 64, .inl sh)), (m_carried, .inl (cy 0, 16, .inl cr))] H := hP9
          replace hD : va_D A [(ta, .inr (8, [.ref m_now, .ref m_undone, .ref m_slots, .ref m_slotKind, .ref m_hasSlot, .ref m_sheetBits, .ref m_sheetSize, .ref m_sheets, .int (nI u), .int ((f_X8_found fi (-1000002)).2), .ref m_fresh, .long aa, .long bb, .long dd, .int (nI ro), .ref m_rootWhich, .int db, .ref m_signs, .ref m_atNought, .int (nI mn), .ref m_change, .ref m_table, .ref m_carried])), (m_sheetBits, .inl (cy 0, 4, .inl sb)), (m_sheetSize, .inl (cy 0, 4, .inl ss)), (m_sheets, .inl (cy 0, 64, .inl sh)), (m_carried, .inl (cy 0, 16, .inl cr))] := hD9
          replace hS := hS9
          clear hP9 hD9 hS9
          have hF : f_X8_copy sb ss sh fi cr px pf py po pn = (((f_X8_found fi (-1000002)).1), ((f_X8_found fi (-1000002)).2), sh, cr) := hF
          have hf0 := yk_fst hF
          have hg0 := yk_snd hF
          have hf1 := yk_fst hg0
          have hg1 := yk_snd hg0
          have hf2 := yk_fst hg1
          have hg2 := yk_snd hg1
          rw [hf0, hf1, hf2, hg2] at hQ
          exact hQ _ _ _ _ dX8_copy_45 hP hS
    · replace hF := hF.trans (if_pos hc2)
      refine lv_aload_n hx hb dX8_copy_14 rfl (lv_at hl 0 rfl) ?_
      refine lv_ldc (v := (-1000001)) hx hb hown (hts _ kX8_copy_0) dX8_copy_15 ?_
      refine yk_i [0] (va_runV (As := [.int (-1000001)]) (rest := []) ⟨hx, hb, hml, hown, hts⟩ (c_X8_found l D cy ta m_now m_undone m_slots m_slotKind m_hasSlot m_sheetBits m_sheetSize m_sheets m_fresh m_rootWhich m_signs m_atNought m_change m_table m_carried u fi aa bb dd ro db mn (-1000001) H.size) (cwV 1 hts gX8_copy_X8_found rfl rfl rfl hv_X8_found (yk_room hRf hRl rfl rfl)) (yk_pv (q := (RX8, TX8, 23)) hG hA hS hK hP hD [0] (by decide +kernel) rfl rfl rfl) rfl rfl hl.1 rfl (lv_room (Nat.le_of_ble_eq_true rfl)) dX8_copy_17 ⟨Nat.zero_le _, Nat.zero_le _⟩) hP hD hS hA rfl rfl (fun H locs hP9 hD9 hS9 => ?_)
      replace hP : va_P D vwCl [(ta, .inr (8, [.ref m_now, .ref m_undone, .ref m_slots, .ref m_slotKind, .ref m_hasSlot, .ref m_sheetBits, .ref m_sheetSize, .ref m_sheets, .int (nI u), .int ((f_X8_found fi (-1000001)).2), .ref m_fresh, .long aa, .long bb, .long dd, .int (nI ro), .ref m_rootWhich, .int db, .ref m_signs, .ref m_atNought, .int (nI mn), .ref m_change, .ref m_table, .ref m_carried])), (m_sheetBits, .inl (cy 0, 4, .inl sb)), (m_sheetSize, .inl (cy 0, 4, .inl ss)), (m_sheets, .inl (cy 0, 64, .inl sh)), (m_carried, .inl (cy 0, 16, .inl cr))] H := hP9
      replace hD : va_D A [(ta, .inr (8, [.ref m_now, .ref m_undone, .ref m_slots, .ref m_slotKind, .ref m_hasSlot, .ref m_sheetBits, .ref m_sheetSize, .ref m_sheets, .int (nI u), .int ((f_X8_found fi (-1000001)).2), .ref m_fresh, .long aa, .long bb, .long dd, .int (nI ro), .ref m_rootWhich, .int db, .ref m_signs, .ref m_atNought, .int (nI mn), .ref m_change, .ref m_table, .ref m_carried])), (m_sheetBits, .inl (cy 0, 4, .inl sb)), (m_sheetSize, .inl (cy 0, 4, .inl ss)), (m_sheets, .inl (cy 0, 64, .inl sh)), (m_carried, .inl (cy 0, 16, .inl cr))] := hD9
      replace hS := hS9
      clear hP9 hD9 hS9
      have hF : f_X8_copy sb ss sh fi cr px pf py po pn = (((f_X8_found fi (-1000001)).1), ((f_X8_found fi (-1000001)).2), sh, cr) := hF
      have hf0 := yk_fst hF
      have hg0 := yk_snd hF
      have hf1 := yk_fst hg0
      have hg1 := yk_snd hg0
      have hf2 := yk_fst hg1
      have hg2 := yk_snd hg1
      rw [hf0, hf1, hf2, hg2] at hQ
      exact hQ _ _ _ _ dX8_copy_20 hP hS
