theorem hv_X8_sign : yX8_sign.cls = RX8 ∧ yX8_sign.cls ≠ "java/lang/invoke/MethodHandle" ∧ yX8_sign.cls ≠ "java/lang/invoke/VarHandle" ∧ (parseMethodDescriptor yX8_sign.desc).map (fun d => d.parameters.length) = some 1 := by decide +kernel
theorem hs_X8_sign : yX8_sign.cls ≠ "java/lang/invoke/MethodHandle" ∧ yX8_sign.cls ≠ "java/lang/invoke/VarHandle" ∧ (parseMethodDescriptor yX8_sign.desc).map (fun d => d.parameters.length) = some 1 := by decide +kernel
theorem hv_X8_only : yX8_only.cls = RX8 ∧ yX8_only.cls ≠ "java/lang/invoke/MethodHandle" ∧ yX8_only.cls ≠ "java/lang/invoke/VarHandle" ∧ (parseMethodDescriptor yX8_only.desc).map (fun d => d.parameters.length) = some 1 := by decide +kernel
theorem hs_X8_only : yX8_only.cls ≠ "java/lang/invoke/MethodHandle" ∧ yX8_only.cls ≠ "java/lang/invoke/VarHandle" ∧ (parseMethodDescriptor yX8_only.desc).map (fun d => d.parameters.length) = some 1 := by decide +kernel
theorem hv_X8_cross : yX8_cross.cls = RX8 ∧ yX8_cross.cls ≠ "java/lang/invoke/MethodHandle" ∧ yX8_cross.cls ≠ "java/lang/invoke/VarHandle" ∧ (parseMethodDescriptor yX8_cross.desc).map (fun d => d.parameters.length) = some 1 := by decide +kernel
theorem hs_X8_cross : yX8_cross.cls ≠ "java/lang/invoke/MethodHandle" ∧ yX8_cross.cls ≠ "java/lang/invoke/VarHandle" ∧ (parseMethodDescriptor yX8_cross.desc).map (fun d => d.parameters.length) = some 1 := by decide +kernel
theorem hv_X8_findRoots : yX8_findRoots.cls = RX8 ∧ yX8_findRoots.cls ≠ "java/lang/invoke/MethodHandle" ∧ yX8_findRoots.cls ≠ "java/lang/invoke/VarHandle" ∧ (parseMethodDescriptor yX8_findRoots.desc).map (fun d => d.parameters.length) = some 0 := by decide +kernel
theorem hs_X8_findRoots : yX8_findRoots.cls ≠ "java/lang/invoke/MethodHandle" ∧ yX8_findRoots.cls ≠ "java/lang/invoke/VarHandle" ∧ (parseMethodDescriptor yX8_findRoots.desc).map (fun d => d.parameters.length) = some 0 := by decide +kernel
theorem hv_X8_zeros : yX8_zeros.cls = RX8 ∧ yX8_zeros.cls ≠ "java/lang/invoke/MethodHandle" ∧ yX8_zeros.cls ≠ "java/lang/invoke/VarHandle" ∧ (parseMethodDescriptor yX8_zeros.desc).map (fun d => d.parameters.length) = some 1 := by decide +kernel
theorem hs_X8_zeros : yX8_zeros.cls ≠ "java/lang/invoke/MethodHandle" ∧ yX8_zeros.cls ≠ "java/lang/invoke/VarHandle" ∧ (parseMethodDescriptor yX8_zeros.desc).map (fun d => d.parameters.length) = some 1 := by decide +kernel
theorem hv_X8_acrossOf : yX8_acrossOf.cls = RX8 ∧ yX8_acrossOf.cls ≠ "java/lang/invoke/MethodHandle" ∧ yX8_acrossOf.cls ≠ "java/lang/invoke/VarHandle" ∧ (parseMethodDescriptor yX8_acrossOf.desc).map (fun d => d.parameters.length) = some 1 := by decide +kernel
theorem hs_X8_acrossOf : yX8_acrossOf.cls ≠ "java/lang/invoke/MethodHandle" ∧ yX8_acrossOf.cls ≠ "java/lang/invoke/VarHandle" ∧ (parseMethodDescriptor yX8_acrossOf.desc).map (fun d => d.parameters.length) = some 1 := by decide +kernel
theorem hv_X8_signOfSum : yX8_signOfSum.cls = RX8 ∧ yX8_signOfSum.cls ≠ "java/lang/invoke/MethodHandle" ∧ yX8_signOfSum.cls ≠ "java/lang/invoke/VarHandle" ∧ (parseMethodDescriptor yX8_signOfSum.desc).map (fun d => d.parameters.length) = some 3 := by decide +kernel
theorem hs_X8_signOfSum : yX8_signOfSum.cls ≠ "java/lang/invoke/MethodHandle" ∧ yX8_signOfSum.cls ≠ "java/lang/invoke/VarHandle" ∧ (parseMethodDescriptor yX8_signOfSum.desc).map (fun d => d.parameters.length) = some 3 := by decide +kernel
theorem kX8_findRoots_0 : Cond.fieldLink RX8 153 "FlowPlaneModel" "roots" "I" ∈ wsX8_findRoots := by decide +kernel
theorem kX8_findRoots_1 : Cond.fieldLink RX8 156 "FlowPlaneModel" "isDouble" "Z" ∈ wsX8_findRoots := by decide +kernel
theorem kX8_findRoots_2 : Cond.fieldLink RX8 139 "FlowPlaneModel" "a" "J" ∈ wsX8_findRoots := by decide +kernel
theorem kX8_findRoots_3 : Cond.fieldLink RX8 143 "FlowPlaneModel" "b" "J" ∈ wsX8_findRoots := by decide +kernel
theorem kX8_findRoots_4 : Cond.constantLong RX8 168 4 ∈ wsX8_findRoots := by decide +kernel
theorem kX8_findRoots_5 : Cond.fieldLink RX8 146 "FlowPlaneModel" "c" "J" ∈ wsX8_findRoots := by decide +kernel
theorem kX8_findRoots_6 : Cond.constantLong RX8 170 2 ∈ wsX8_findRoots := by decide +kernel
theorem uX8_findRoots_X8 : ∀ w ∈ u_ws RX8 TX8 23, w ∈ wsX8_findRoots := by decide +kernel
def f_X8_findRoots (aa : Int64) (bb : Int64) (dd : Int64) (rt : Nat → Int32) : Nat × Int32 × (Nat → Int32) := (if (lg_cmp aa 0) = 0 then ((if (lg_cmp bb 0) = 0 then 0 else (if 0 ≤ ((f_X8_sign dd) * (f_X8_sign (bb + dd))) then 0 else (f_X8_only 0 rt 2).1)), 0, (if (lg_cmp bb 0) = 0 then rt else (if 0 ≤ ((f_X8_sign dd) * (f_X8_sign (bb + dd))) then rt else (f_X8_only 0 rt 2).2))) else (if (lg_cmp ((bb * bb) - ((4 * aa) * dd)) 0) = 0 then ((if ((if (f_X8_sign ((-bb) * (((f_X8_sign aa)).toInt64))) ≤ 0 then 0 else (if 0 ≤ (f_X8_sign (((-bb) * (((f_X8_sign aa)).toInt64)) - ((2 * aa) * (((f_X8_sign aa)).toInt64)))) then 0 else 1)) : Int32) = 0 then 0 else (f_X8_only 0 rt 2).1), (if (f_X8_sign ((-bb) * (((f_X8_sign aa)).toInt64))) ≤ 0 then 0 else (if 0 ≤ (f_X8_sign (((-bb) * (((f_X8_sign aa)).toInt64)) - ((2 * aa) * (((f_X8_sign aa)).toInt64)))) then 0 else 1)), (if ((if (f_X8_sign ((-bb) * (((f_X8_sign aa)).toInt64))) ≤ 0 then 0 else (if 0 ≤ (f_X8_sign (((-bb) * (((f_X8_sign aa)).toInt64)) - ((2 * aa) * (((f_X8_sign aa)).toInt64)))) then 0 else 1)) : Int32) = 0 then rt else (f_X8_only 0 rt 2).2)) else (if 0 ≤ (lg_cmp ((bb * bb) - ((4 * aa) * dd)) 0) then ((if ((if ((f_X8_sign ((aa + bb) + dd)) * (f_X8_sign aa)) ≤ 0 then 0 else (if 0 ≤ (f_X8_sign (((-bb) * (((f_X8_sign aa)).toInt64)) - ((2 * aa) * (((f_X8_sign aa)).toInt64)))) then 0 else (if ((f_X8_sign dd) * (f_X8_sign aa)) < 0 then 1 else (if (f_X8_sign ((-bb) * (((f_X8_sign aa)).toInt64))) ≤ 0 then 0 else 1)))) : Int32) = 0 then (if ((if ((f_X8_sign dd) * (f_X8_sign aa)) ≤ 0 then 0 else (if (f_X8_sign ((-bb) * (((f_X8_sign aa)).toInt64))) ≤ 0 then 0 else (if ((f_X8_sign ((aa + bb) + dd)) * (f_X8_sign aa)) < 0 then 1 else (if ((if (f_X8_sign ((-bb) * (((f_X8_sign aa)).toInt64))) ≤ 0 then 0 else (if 0 ≤ (f_X8_sign (((-bb) * (((f_X8_sign aa)).toInt64)) - ((2 * aa) * (((f_X8_sign aa)).toInt64)))) then 0 else 1)) : Int32) = 0 then 0 else 1)))) : Int32) = 0 then 0 else (f_X8_only 0 rt 0).1) else (f_X8_only (if ((if ((f_X8_sign dd) * (f_X8_sign aa)) ≤ 0 then 0 else (if (f_X8_sign ((-bb) * (((f_X8_sign aa)).toInt64))) ≤ 0 then 0 else (if ((f_X8_sign ((aa + bb) + dd)) * (f_X8_sign aa)) < 0 then 1 else (if ((if (f_X8_sign ((-bb) * (((f_X8_sign aa)).toInt64))) ≤ 0 then 0 else (if 0 ≤ (f_X8_sign (((-bb) * (((f_X8_sign aa)).toInt64)) - ((2 * aa) * (((f_X8_sign aa)).toInt64)))) then 0 else 1)) : Int32) = 0 then 0 else 1)))) : Int32) = 0 then 0 else (f_X8_only 0 rt 0).1) (if ((if ((f_X8_sign dd) * (f_X8_sign aa)) ≤ 0 then 0 else (if (f_X8_sign ((-bb) * (((f_X8_sign aa)).toInt64))) ≤ 0 then 0 else (if ((f_X8_sign ((aa + bb) + dd)) * (f_X8_sign aa)) < 0 then 1 else (if ((if (f_X8_sign ((-bb) * (((f_X8_sign aa)).toInt64))) ≤ 0 then 0 else (if 0 ≤ (f_X8_sign (((-bb) * (((f_X8_sign aa)).toInt64)) - ((2 * aa) * (((f_X8_sign aa)).toInt64)))) then 0 else 1)) : Int32) = 0 then 0 else 1)))) : Int32) = 0 then rt else (f_X8_only 0 rt 0).2) 1).1), 0, (if ((if ((f_X8_sign ((aa + bb) + dd)) * (f_X8_sign aa)) ≤ 0 then 0 else (if 0 ≤ (f_X8_sign (((-bb) * (((f_X8_sign aa)).toInt64)) - ((2 * aa) * (((f_X8_sign aa)).toInt64)))) then 0 else (if ((f_X8_sign dd) * (f_X8_sign aa)) < 0 then 1 else (if (f_X8_sign ((-bb) * (((f_X8_sign aa)).toInt64))) ≤ 0 then 0 else 1)))) : Int32) = 0 then (if ((if ((f_X8_sign dd) * (f_X8_sign aa)) ≤ 0 then 0 else (if (f_X8_sign ((-bb) * (((f_X8_sign aa)).toInt64))) ≤ 0 then 0 else (if ((f_X8_sign ((aa + bb) + dd)) * (f_X8_sign aa)) < 0 then 1 else (if ((if (f_X8_sign ((-bb) * (((f_X8_sign aa)).toInt64))) ≤ 0 then 0 else (if 0 ≤ (f_X8_sign (((-bb) * (((f_X8_sign aa)).toInt64)) - ((2 * aa) * (((f_X8_sign aa)).toInt64)))) then 0 else 1)) : Int32) = 0 then 0 else 1)))) : Int32) = 0 then rt else (f_X8_only 0 rt 0).2) else (f_X8_only (if ((if ((f_X8_sign dd) * (f_X8_sign aa)) ≤ 0 then 0 else (if (f_X8_sign ((-bb) * (((f_X8_sign aa)).toInt64))) ≤ 0 then 0 else (if ((f_X8_sign ((aa + bb) + dd)) * (f_X8_sign aa)) < 0 then 1 else (if ((if (f_X8_sign ((-bb) * (((f_X8_sign aa)).toInt64))) ≤ 0 then 0 else (if 0 ≤ (f_X8_sign (((-bb) * (((f_X8_sign aa)).toInt64)) - ((2 * aa) * (((f_X8_sign aa)).toInt64)))) then 0 else 1)) : Int32) = 0 then 0 else 1)))) : Int32) = 0 then 0 else (f_X8_only 0 rt 0).1) (if ((if ((f_X8_sign dd) * (f_X8_sign aa)) ≤ 0 then 0 else (if (f_X8_sign ((-bb) * (((f_X8_sign aa)).toInt64))) ≤ 0 then 0 else (if ((f_X8_sign ((aa + bb) + dd)) * (f_X8_sign aa)) < 0 then 1 else (if ((if (f_X8_sign ((-bb) * (((f_X8_sign aa)).toInt64))) ≤ 0 then 0 else (if 0 ≤ (f_X8_sign (((-bb) * (((f_X8_sign aa)).toInt64)) - ((2 * aa) * (((f_X8_sign aa)).toInt64)))) then 0 else 1)) : Int32) = 0 then 0 else 1)))) : Int32) = 0 then rt else (f_X8_only 0 rt 0).2) 1).2)) else (0, 0, rt))))
set_option maxHeartbeats 400000000 in
set_option maxRecDepth 100000 in
theorem c_X8_findRoots (l : Launch) (D : va_G) (cy : Nat → ClassId) (ta : Nat) (m_rootWhich : Nat) (m_now : Nat) (m_undone : Nat) (m_slots : Nat) (m_slotKind : Nat) (m_hasSlot : Nat) (m_sheetBits : Nat) (m_sheetSize : Nat) (m_sheets : Nat) (m_fresh : Nat) (m_signs : Nat) (m_atNought : Nat) (m_change : Nat) (m_table : Nat) (m_carried : Nat) (u : Nat) (fi : Int32) (aa : Int64) (bb : Int64) (dd : Int64) (ro : Nat) (rt : Nat → Int32) (db : Int32) (mn : Nat) : yk_Cv l D vwCl (yk_ty cy) yX8_findRoots wsX8_findRoots 1 21 [.ref ta] [(ta, .inr (8, [.ref m_now, .ref m_undone, .ref m_slots, .ref m_slotKind, .ref m_hasSlot, .ref m_sheetBits, .ref m_sheetSize, .ref m_sheets, .int (nI u), .int fi, .ref m_fresh, .long aa, .long bb, .long dd, .int (nI ro), .ref m_rootWhich, .int db, .ref m_signs, .ref m_atNought, .int (nI mn), .ref m_change, .ref m_table, .ref m_carried])), (m_rootWhich, .inl (cy 0, 2, .inl rt))] [(ta, .inr (8, [.ref m_now, .ref m_undone, .ref m_slots, .ref m_slotKind, .ref m_hasSlot, .ref m_sheetBits, .ref m_sheetSize, .ref m_sheets, .int (nI u), .int fi, .ref m_fresh, .long aa, .long bb, .long dd, .int (nI ((f_X8_findRoots aa bb dd rt).1)), .ref m_rootWhich, .int ((f_X8_findRoots aa bb dd rt).2.1), .ref m_signs, .ref m_atNought, .int (nI mn), .ref m_change, .ref m_table, .ref m_carried])), (m_rootWhich, .inl (cy 0, 2, .inl ((f_X8_findRoots aa bb dd rt).2.2)))] := by
  refine yk_eV (cc := cX8_findRoots) (maxL := 9) (by decide) rfl (Nat.le_of_ble_eq_true rfl) ?_
  intro p e R s m args below meth c A Q ls H locs hx hb hml hown hts hRf hRl hA hK hG hP hD hS hl hQ
  have hP : va_P D vwCl [(ta, .inr (8, [.ref m_now, .ref m_undone, .ref m_slots, .ref m_slotKind, .ref m_hasSlot, .ref m_sheetBits, .ref m_sheetSize, .ref m_sheets, .int (nI u), .int fi, .ref m_fresh, .long aa, .long bb, .long dd, .int (nI ro), .ref m_rootWhich, .int db, .ref m_signs, .ref m_atNought, .int (nI mn), .ref m_change, .ref m_table, .ref m_carried])), (m_rootWhich, .inl (cy 0, 2, .inl rt))] H := hP
  have hl : lv_has ls 9 [(0, .ref ta)] := hl
  have hown : s.vm.findClass RX8 = some m.cls := hown
  have hF : (f_X8_findRoots aa bb dd rt) = (f_X8_findRoots aa bb dd rt) := rfl
  refine lv_aload_n hx hb dX8_findRoots_0 rfl (lv_at hl 0 rfl) ?_
  refine lv_iconst (v := 0) hx hb dX8_findRoots_1 (by decide) ?_
  refine va_put (D := D) (ci := 8) (v := .int 0) (ty := .int) (C := RX8) (T := TX8) (N := 23) hx hb hts uX8_findRoots_X8 tyX8 tyX8_ok nmX8 hown hK hP hD hS 0 rfl rfl 14 (by decide) (hts _ kX8_findRoots_0) (fun _ h9 => h9) rfl (by decide +kernel) (rfl) (rfl) (Nat.le_of_ble_eq_true rfl) dX8_findRoots_2 (fun H locs hP9 hD9 hS9 => ?_)
  replace hP : va_P D vwCl [(ta, .inr (8, [.ref m_now, .ref m_undone, .ref m_slots, .ref m_slotKind, .ref m_hasSlot, .ref m_sheetBits, .ref m_sheetSize, .ref m_sheets, .int (nI u), .int fi, .ref m_fresh, .long aa, .long bb, .long dd, .int 0, .ref m_rootWhich, .int db, .ref m_signs, .ref m_atNought, .int (nI mn), .ref m_change, .ref m_table, .ref m_carried])), (m_rootWhich, .inl (cy 0, 2, .inl rt))] H := hP9
  replace hD : va_D A [(ta, .inr (8, [.ref m_now, .ref m_undone, .ref m_slots, .ref m_slotKind, .ref m_hasSlot, .ref m_sheetBits, .ref m_sheetSize, .ref m_sheets, .int (nI u), .int fi, .ref m_fresh, .long aa, .long bb, .long dd, .int 0, .ref m_rootWhich, .int db, .ref m_signs, .ref m_atNought, .int (nI mn), .ref m_change, .ref m_table, .ref m_carried])), (m_rootWhich, .inl (cy 0, 2, .inl rt))] := hD9
  replace hS := hS9
  clear hP9 hD9 hS9
  refine lv_aload_n hx hb dX8_findRoots_5 rfl (lv_at hl 0 rfl) ?_
  refine lv_iconst (v := 0) hx hb dX8_findRoots_6 (by decide) ?_
  refine va_put (D := D) (ci := 8) (v := .int 0) (ty := .boolean) (C := RX8) (T := TX8) (N := 23) hx hb hts uX8_findRoots_X8 tyX8 tyX8_ok nmX8 hown hK hP hD hS 0 rfl rfl 16 (by decide) (hts _ kX8_findRoots_1) (fun _ h9 => h9) rfl (by decide +kernel) (rfl) (rfl) (Nat.le_of_ble_eq_true rfl) dX8_findRoots_7 (fun H locs hP9 hD9 hS9 => ?_)
  replace hP : va_P D vwCl [(ta, .inr (8, [.ref m_now, .ref m_undone, .ref m_slots, .ref m_slotKind, .ref m_hasSlot, .ref m_sheetBits, .ref m_sheetSize, .ref m_sheets, .int (nI u), .int fi, .ref m_fresh, .long aa, .long bb, .long dd, .int 0, .ref m_rootWhich, .int 0, .ref m_signs, .ref m_atNought, .int (nI mn), .ref m_change, .ref m_table, .ref m_carried])), (m_rootWhich, .inl (cy 0, 2, .inl rt))] H := hP9
  replace hD : va_D A [(ta, .inr (8, [.ref m_now, .ref m_undone, .ref m_slots, .ref m_slotKind, .ref m_hasSlot, .ref m_sheetBits, .ref m_sheetSize, .ref m_sheets, .int (nI u), .int fi, .ref m_fresh, .long aa, .long bb, .long dd, .int 0, .ref m_rootWhich, .int 0, .ref m_signs, .ref m_atNought, .int (nI mn), .ref m_change, .ref m_table, .ref m_carried])), (m_rootWhich, .inl (cy 0, 2, .inl rt))] := hD9
  replace hS := hS9
  clear hP9 hD9 hS9
  refine lv_aload_n hx hb dX8_findRoots_10 rfl (lv_at hl 0 rfl) ?_
  refine va_get (D := D) (ci := 8) (v := .long aa) (C := RX8) (T := TX8) (N := 23) hx hb hts uX8_findRoots_X8 hown hK hP 0 rfl rfl 11 (by decide) (hts _ kX8_findRoots_2) (fun _ h9 => h9) rfl dX8_findRoots_11 ?_
  refine lv_lconst (v := 0) hx hb dX8_findRoots_14 (by decide) ?_
  refine W.lcmp hx hb dX8_findRoots_15 ?_
  refine lv_if_ne (tgt := 57) hx hb dX8_findRoots_16 (by decide) (fun hc1 => ?_) (fun hc1 => ?_)
  · replace hF := hF.trans (if_neg hc1)
    refine lv_aload_n hx hb dX8_findRoots_57 rfl (lv_at hl 0 rfl) ?_
    refine va_get (D := D) (ci := 8) (v := .long bb) (C := RX8) (T := TX8) (N := 23) hx hb hts uX8_findRoots_X8 hown hK hP 0 rfl rfl 12 (by decide) (hts _ kX8_findRoots_3) (fun _ h9 => h9) rfl dX8_findRoots_58 ?_
    refine lv_aload_n hx hb dX8_findRoots_61 rfl (lv_at hl 0 rfl) ?_
    refine va_get (D := D) (ci := 8) (v := .long bb) (C := RX8) (T := TX8) (N := 23) hx hb hts uX8_findRoots_X8 hown hK hP 0 rfl rfl 12 (by decide) (hts _ kX8_findRoots_3) (fun _ h9 => h9) rfl dX8_findRoots_62 ?_
    refine lv_lmul hx hb dX8_findRoots_65 ?_
    refine lv_ldc2 (v := 4) hx hb hown (hts _ kX8_findRoots_4) dX8_findRoots_66 ?_
    refine lv_aload_n hx hb dX8_findRoots_69 rfl (lv_at hl 0 rfl) ?_
    refine va_get (D := D) (ci := 8) (v := .long aa) (C := RX8) (T := TX8) (N := 23) hx hb hts uX8_findRoots_X8 hown hK hP 0 rfl rfl 11 (by decide) (hts _ kX8_findRoots_2) (fun _ h9 => h9) rfl dX8_findRoots_70 ?_
    refine lv_lmul hx hb dX8_findRoots_73 ?_
    refine lv_aload_n hx hb dX8_findRoots_74 rfl (lv_at hl 0 rfl) ?_
    refine va_get (D := D) (ci := 8) (v := .long dd) (C := RX8) (T := TX8) (N := 23) hx hb hts uX8_findRoots_X8 hown hK hP 0 rfl rfl 13 (by decide) (hts _ kX8_findRoots_5) (fun _ h9 => h9) rfl dX8_findRoots_75 ?_
    refine lv_lmul hx hb dX8_findRoots_78 ?_
    refine lv_lsub hx hb dX8_findRoots_79 ?_
    refine lv_lstore_n (lv' := [(1, .long ((bb * bb) - ((4 * aa) * dd))), (0, .ref ta)]) hx hb dX8_findRoots_80 rfl hl (by decide) rfl (fun ls hl9 => ?_)
    replace hl := hl9
    clear hl9
    refine lv_aload_n hx hb dX8_findRoots_81 rfl (lv_at hl 1 rfl) ?_
    refine va_get (D := D) (ci := 8) (v := .long aa) (C := RX8) (T := TX8) (N := 23) hx hb hts uX8_findRoots_X8 hown hK hP 0 rfl rfl 11 (by decide) (hts _ kX8_findRoots_2) (fun _ h9 => h9) rfl dX8_findRoots_82 ?_
    refine yk_i [] (va_runS (As := [.long aa]) (rest := []) ⟨hx, hb, hml, hown, hts⟩ (c_X8_sign l D cy aa H.size) (va_cwS 1 hts gX8_findRoots_X8_sign rfl rfl rfl hs_X8_sign (yk_room hRf hRl rfl rfl)) (yk_ps hG hA hS hK hP hD [] (by decide +kernel) rfl) rfl rfl hl.1 rfl (lv_room (Nat.le_of_ble_eq_true rfl)) dX8_findRoots_85 ⟨Nat.zero_le _, Nat.zero_le _⟩) hP hD hS hA rfl rfl (fun H locs hP9 hD9 hS9 => ?_)
    replace hP : va_P D vwCl [(ta, .inr (8, [.ref m_now, .ref m_undone, .ref m_slots, .ref m_slotKind, .ref m_hasSlot, .ref m_sheetBits, .ref m_sheetSize, .ref m_sheets, .int (nI u), .int fi, .ref m_fresh, .long aa, .long bb, .long dd, .int 0, .ref m_rootWhich, .int 0, .ref m_signs, .ref m_atNought, .int (nI mn), .ref m_change, .ref m_table, .ref m_carried])), (m_rootWhich, .inl (cy 0, 2, .inl rt))] H := hP9
    replace hD : va_D A [(ta, .inr (8, [.ref m_now, .ref m_undone, .ref m_slots, .ref m_slotKind, .ref m_hasSlot, .ref m_sheetBits, .ref m_sheetSize, .ref m_sheets, .int (nI u), .int fi, .ref m_fresh, .long aa, .long bb, .long dd, .int 0, .ref m_rootWhich, .int 0, .ref m_signs, .ref m_atNought, .int (nI mn), .ref m_change, .ref m_table, .ref m_carried])), (m_rootWhich, .inl (cy 0, 2, .inl rt))] := hD9
    replace hS := hS9
    clear hP9 hD9 hS9
    refine lv_istore_n (lv' := [(3, .int (f_X8_sign aa)), (1, .long ((bb * bb) - ((4 * aa) * dd))), (0, .ref ta)]) hx hb dX8_findRoots_88 rfl hl (by decide) rfl (fun ls hl9 => ?_)
    replace hl := hl9
    clear hl9
    refine lv_aload_n hx hb dX8_findRoots_89 rfl (lv_at hl 2 rfl) ?_
    refine va_get (D := D) (ci := 8) (v := .long bb) (C := RX8) (T := TX8) (N := 23) hx hb hts uX8_findRoots_X8 hown hK hP 0 rfl rfl 12 (by decide) (hts _ kX8_findRoots_3) (fun _ h9 => h9) rfl dX8_findRoots_90 ?_
    refine lv_lneg hx hb dX8_findRoots_93 ?_
    refine lv_iload_n hx hb dX8_findRoots_94 rfl (lv_at hl 0 rfl) ?_
    refine lv_i2l hx hb dX8_findRoots_95 rfl ?_
    refine lv_lmul hx hb dX8_findRoots_96 ?_
    refine yk_i [] (va_runS (As := [.long ((-bb) * (((f_X8_sign aa)).toInt64))]) (rest := []) ⟨hx, hb, hml, hown, hts⟩ (c_X8_sign l D cy ((-bb) * (((f_X8_sign aa)).toInt64)) H.size) (va_cwS 1 hts gX8_findRoots_X8_sign rfl rfl rfl hs_X8_sign (yk_room hRf hRl rfl rfl)) (yk_ps hG hA hS hK hP hD [] (by decide +kernel) rfl) rfl rfl hl.1 rfl (lv_room (Nat.le_of_ble_eq_true rfl)) dX8_findRoots_97 ⟨Nat.zero_le _, Nat.zero_le _⟩) hP hD hS hA rfl rfl (fun H locs hP9 hD9 hS9 => ?_)
    replace hP : va_P D vwCl [(ta, .inr (8, [.ref m_now, .ref m_undone, .ref m_slots, .ref m_slotKind, .ref m_hasSlot, .ref m_sheetBits, .ref m_sheetSize, .ref m_sheets, .int (nI u), .int fi, .ref m_fresh, .long aa, .long bb, .long dd, .int 0, .ref m_rootWhich, .int 0, .ref m_signs, .ref m_atNought, .int (nI mn), .ref m_change, .ref m_table, .ref m_carried])), (m_rootWhich, .inl (cy 0, 2, .inl rt))] H := hP9
    replace hD : va_D A [(ta, .inr (8, [.ref m_now, .ref m_undone, .ref m_slots, .ref m_slotKind, .ref m_hasSlot, .ref m_sheetBits, .ref m_sheetSize, .ref m_sheets, .int (nI u), .int fi, .ref m_fresh, .long aa, .long bb, .long dd, .int 0, .ref m_rootWhich, .int 0, .ref m_signs, .ref m_atNought, .int (nI mn), .ref m_change, .ref m_table, .ref m_carried])), (m_rootWhich, .inl (cy 0, 2, .inl rt))] := hD9
    replace hS := hS9
    clear hP9 hD9 hS9
    have J5 : ∀ (v4 : Int32) (H : Heap) (locs : List Loc) (ls : Array Slot), v4 = (if (f_X8_sign ((-bb) * (((f_X8_sign aa)).toInt64))) ≤ 0 then 0 else (if 0 ≤ (f_X8_sign (((-bb) * (((f_X8_sign aa)).toInt64)) - ((2 * aa) * (((f_X8_sign aa)).toInt64)))) then 0 else 1)) → va_P D vwCl [(ta, .inr (8, [.ref m_now, .ref m_undone, .ref m_slots, .ref m_slotKind, .ref m_hasSlot, .ref m_sheetBits, .ref m_sheetSize, .ref m_sheets, .int (nI u), .int fi, .ref m_fresh, .long aa, .long bb, .long dd, .int 0, .ref m_rootWhich, .int 0, .ref m_signs, .ref m_atNought, .int (nI mn), .ref m_change, .ref m_table, .ref m_carried])), (m_rootWhich, .inl (cy 0, 2, .inl rt))] H → va_D A [(ta, .inr (8, [.ref m_now, .ref m_undone, .ref m_slots, .ref m_slotKind, .ref m_hasSlot, .ref m_sheetBits, .ref m_sheetSize, .ref m_sheets, .int (nI u), .int fi, .ref m_fresh, .long aa, .long bb, .long dd, .int 0, .ref m_rootWhich, .int 0, .ref m_signs, .ref m_atNought, .int (nI mn), .ref m_change, .ref m_table, .ref m_carried])), (m_rootWhich, .inl (cy 0, 2, .inl rt))] → va_S A s.heap H locs → lv_has ls 9 [(0, .ref ta), (1, .long ((bb * bb) - ((4 * aa) * dd))), (3, .int (f_X8_sign aa))] → W p l e R s m args below meth c H locs 0 0 Q (F0 m 134 ls [.int v4]) := by
      clear hP hD hS hl
      intro v4 H locs ls ev4 hP hD hS hl
      subst ev4
      refine lv_istore (lv' := [(4, .int (if (f_X8_sign ((-bb) * (((f_X8_sign aa)).toInt64))) ≤ 0 then 0 else (if 0 ≤ (f_X8_sign (((-bb) * (((f_X8_sign aa)).toInt64)) - ((2 * aa) * (((f_X8_sign aa)).toInt64)))) then 0 else 1))), (0, .ref ta), (1, .long ((bb * bb) - ((4 * aa) * dd))), (3, .int (f_X8_sign aa))]) hx hb dX8_findRoots_134 hl (by decide) rfl (fun ls hl9 => ?_)
      replace hl := hl9
      clear hl9
      refine lv_lload_n hx hb dX8_findRoots_136 rfl (lv_at hl 2 rfl) ?_
      refine lv_lconst (v := 0) hx hb dX8_findRoots_137 (by decide) ?_
      refine W.lcmp hx hb dX8_findRoots_138 ?_
      refine lv_if_ne (tgt := 159) hx hb dX8_findRoots_139 (by decide) (fun hc6 => ?_) (fun hc6 => ?_)
      · replace hF := hF.trans (if_neg hc6)
        refine lv_lload_n hx hb dX8_findRoots_159 rfl (lv_at hl 2 rfl) ?_
        refine lv_lconst (v := 0) hx hb dX8_findRoots_160 (by decide) ?_
        refine W.lcmp hx hb dX8_findRoots_161 ?_
        refine lv_if_ge (tgt := 166) hx hb dX8_findRoots_162 (by decide) (fun hc7 => ?_) (fun hc7 => ?_)
        · replace hF := hF.trans (if_pos hc7)
          refine lv_aload_n hx hb dX8_findRoots_166 rfl (lv_at hl 1 rfl) ?_
          refine va_get (D := D) (ci := 8) (v := .long dd) (C := RX8) (T := TX8) (N := 23) hx hb hts uX8_findRoots_X8 hown hK hP 0 rfl rfl 13 (by decide) (hts _ kX8_findRoots_5) (fun _ h9 => h9) rfl dX8_findRoots_167 ?_
          refine yk_i [] (va_runS (As := [.long dd]) (rest := []) ⟨hx, hb, hml, hown, hts⟩ (c_X8_sign l D cy dd H.size) (va_cwS 1 hts gX8_findRoots_X8_sign rfl rfl rfl hs_X8_sign (yk_room hRf hRl rfl rfl)) (yk_ps hG hA hS hK hP hD [] (by decide +kernel) rfl) rfl rfl hl.1 rfl (lv_room (Nat.le_of_ble_eq_true rfl)) dX8_findRoots_170 ⟨Nat.zero_le _, Nat.zero_le _⟩) hP hD hS hA rfl rfl (fun H locs hP9 hD9 hS9 => ?_)
          replace hP : va_P D vwCl [(ta, .inr (8, [.ref m_now, .ref m_undone, .ref m_slots, .ref m_slotKind, .ref m_hasSlot, .ref m_sheetBits, .ref m_sheetSize, .ref m_sheets, .int (nI u), .int fi, .ref m_fresh, .long aa, .long bb, .long dd, .int 0, .ref m_rootWhich, .int 0, .ref m_signs, .ref m_atNought, .int (nI mn), .ref m_change, .ref m_table, .ref m_carried])), (m_rootWhich, .inl (cy 0, 2, .inl rt))] H := hP9
          replace hD : va_D A [(ta, .inr (8, [.ref m_now, .ref m_undone, .ref m_slots, .ref m_slotKind, .ref m_hasSlot, .ref m_sheetBits, .ref m_sheetSize, .ref m_sheets, .int (nI u), .int fi, .ref m_fresh, .long aa, .long bb, .long dd, .int 0, .ref m_rootWhich, .int 0, .ref m_signs, .ref m_atNought, .int (nI mn), .ref m_change, .ref m_table, .ref m_carried])), (m_rootWhich, .inl (cy 0, 2, .inl rt))] := hD9
          replace hS := hS9
          clear hP9 hD9 hS9
          refine lv_iload_n hx hb dX8_findRoots_173 rfl (lv_at hl 3 rfl) ?_
          refine lv_imul hx hb dX8_findRoots_174 ?_
          refine lv_istore (lv' := [(5, .int ((f_X8_sign dd) * (f_X8_sign aa))), (4, .int (if (f_X8_sign ((-bb) * (((f_X8_sign aa)).toInt64))) ≤ 0 then 0 else (if 0 ≤ (f_X8_sign (((-bb) * (((f_X8_sign aa)).toInt64)) - ((2 * aa) * (((f_X8_sign aa)).toInt64)))) then 0 else 1))), (0, .ref ta), (1, .long ((bb * bb) - ((4 * aa) * dd))), (3, .int (f_X8_sign aa))]) hx hb dX8_findRoots_175 hl (by decide) rfl (fun ls hl9 => ?_)
          replace hl := hl9
          clear hl9
          refine lv_aload_n hx hb dX8_findRoots_177 rfl (lv_at hl 2 rfl) ?_
          refine va_get (D := D) (ci := 8) (v := .long aa) (C := RX8) (T := TX8) (N := 23) hx hb hts uX8_findRoots_X8 hown hK hP 0 rfl rfl 11 (by decide) (hts _ kX8_findRoots_2) (fun _ h9 => h9) rfl dX8_findRoots_178 ?_
          refine lv_aload_n hx hb dX8_findRoots_181 rfl (lv_at hl 2 rfl) ?_
          refine va_get (D := D) (ci := 8) (v := .long bb) (C := RX8) (T := TX8) (N := 23) hx hb hts uX8_findRoots_X8 hown hK hP 0 rfl rfl 12 (by decide) (hts _ kX8_findRoots_3) (fun _ h9 => h9) rfl dX8_findRoots_182 ?_
          refine lv_ladd hx hb dX8_findRoots_185 ?_
          refine lv_aload_n hx hb dX8_findRoots_186 rfl (lv_at hl 2 rfl) ?_
          refine va_get (D := D) (ci := 8) (v := .long dd) (C := RX8) (T := TX8) (N := 23) hx hb hts uX8_findRoots_X8 hown hK hP 0 rfl rfl 13 (by decide) (hts _ kX8_findRoots_5) (fun _ h9 => h9) rfl dX8_findRoots_187 ?_
          refine lv_ladd hx hb dX8_findRoots_190 ?_
          refine yk_i [] (va_runS (As := [.long ((aa + bb) + dd)]) (rest := []) ⟨hx, hb, hml, hown, hts⟩ (c_X8_sign l D cy ((aa + bb) + dd) H.size) (va_cwS 1 hts gX8_findRoots_X8_sign rfl rfl rfl hs_X8_sign (yk_room hRf hRl rfl rfl)) (yk_ps hG hA hS hK hP hD [] (by decide +kernel) rfl) rfl rfl hl.1 rfl (lv_room (Nat.le_of_ble_eq_true rfl)) dX8_findRoots_191 ⟨Nat.zero_le _, Nat.zero_le _⟩) hP hD hS hA rfl rfl (fun H locs hP9 hD9 hS9 => ?_)
          replace hP : va_P D vwCl [(ta, .inr (8, [.ref m_now, .ref m_undone, .ref m_slots, .ref m_slotKind, .ref m_hasSlot, .ref m_sheetBits, .ref m_sheetSize, .ref m_sheets, .int (nI u), .int fi, .ref m_fresh, .long aa, .long bb, .long dd, .int 0, .ref m_rootWhich, .int 0, .ref m_signs, .ref m_atNought, .int (nI mn), .ref m_change, .ref m_table, .ref m_carried])), (m_rootWhich, .inl (cy 0, 2, .inl rt))] H := hP9
          replace hD : va_D A [(ta, .inr (8, [.ref m_now, .ref m_undone, .ref m_slots, .ref m_slotKind, .ref m_hasSlot, .ref m_sheetBits, .ref m_sheetSize, .ref m_sheets, .int (nI u), .int fi, .ref m_fresh, .long aa, .long bb, .long dd, .int 0, .ref m_rootWhich, .int 0, .ref m_signs, .ref m_atNought, .int (nI mn), .ref m_change, .ref m_table, .ref m_carried])), (m_rootWhich, .inl (cy 0, 2, .inl rt))] := hD9
          replace hS := hS9
          clear hP9 hD9 hS9
          refine lv_iload_n hx hb dX8_findRoots_194 rfl (lv_at hl 4 rfl) ?_
          refine lv_imul hx hb dX8_findRoots_195 ?_
          refine lv_istore (lv' := [(6, .int ((f_X8_sign ((aa + bb) + dd)) * (f_X8_sign aa))), (5, .int ((f_X8_sign dd) * (f_X8_sign aa))), (4, .int (if (f_X8_sign ((-bb) * (((f_X8_sign aa)).toInt64))) ≤ 0 then 0 else (if 0 ≤ (f_X8_sign (((-bb) * (((f_X8_sign aa)).toInt64)) - ((2 * aa) * (((f_X8_sign aa)).toInt64)))) then 0 else 1))), (0, .ref ta), (1, .long ((bb * bb) - ((4 * aa) * dd))), (3, .int (f_X8_sign aa))]) hx hb dX8_findRoots_196 hl (by decide) rfl (fun ls hl9 => ?_)
          replace hl := hl9
          clear hl9
          refine lv_iload hx hb dX8_findRoots_198 (lv_at hl 1 rfl) ?_
          have J13 : ∀ (v12 : Int32) (H : Heap) (locs : List Loc) (ls : Array Slot), v12 = (if ((f_X8_sign dd) * (f_X8_sign aa)) ≤ 0 then 0 else (if (f_X8_sign ((-bb) * (((f_X8_sign aa)).toInt64))) ≤ 0 then 0 else (if ((f_X8_sign ((aa + bb) + dd)) * (f_X8_sign aa)) < 0 then 1 else (if ((if (f_X8_sign ((-bb) * (((f_X8_sign aa)).toInt64))) ≤ 0 then 0 else (if 0 ≤ (f_X8_sign (((-bb) * (((f_X8_sign aa)).toInt64)) - ((2 * aa) * (((f_X8_sign aa)).toInt64)))) then 0 else 1)) : Int32) = 0 then 0 else 1)))) → va_P D vwCl [(ta, .inr (8, [.ref m_now, .ref m_undone, .ref m_slots, .ref m_slotKind, .ref m_hasSlot, .ref m_sheetBits, .ref m_sheetSize, .ref m_sheets, .int (nI u), .int fi, .ref m_fresh, .long aa, .long bb, .long dd, .int 0, .ref m_rootWhich, .int 0, .ref m_signs, .ref m_atNought, .int (nI mn), .ref m_change, .ref m_table, .ref m_carried])), (m_rootWhich, .inl (cy 0, 2, .inl rt))] H → va_D A [(ta, .inr (8, [.ref m_now, .ref m_undone, .ref m_slots, .ref m_slotKind, .ref m_hasSlot, .ref m_sheetBits, .ref m_sheetSize, .ref m_sheets, .int (nI u), .int fi, .ref m_fresh, .long aa, .long bb, .long dd, .int 0, .ref m_rootWhich, .int 0, .ref m_signs, .ref m_atNought, .int (nI mn), .ref m_change, .ref m_table, .ref m_carried])), (m_rootWhich, .inl (cy 0, 2, .inl rt))] → va_S A s.heap H locs → lv_has ls 9 [(0, .ref ta), (1, .long ((bb * bb) - ((4 * aa) * dd))), (3, .int (f_X8_sign aa)), (4, .int (if (f_X8_sign ((-bb) * (((f_X8_sign aa)).toInt64))) ≤ 0 then 0 else (if 0 ≤ (f_X8_sign (((-bb) * (((f_X8_sign aa)).toInt64)) - ((2 * aa) * (((f_X8_sign aa)).toInt64)))) then 0 else 1))), (5, .int ((f_X8_sign dd) * (f_X8_sign aa))), (6, .int ((f_X8_sign ((aa + bb) + dd)) * (f_X8_sign aa)))] → W p l e R s m args below meth c H locs 0 0 Q (F0 m 232 ls [.int v12]) := by
            clear hP hD hS hl
            intro v12 H locs ls ev12 hP hD hS hl
            subst ev12
            refine lv_istore (lv' := [(7, .int (if ((f_X8_sign dd) * (f_X8_sign aa)) ≤ 0 then 0 else (if (f_X8_sign ((-bb) * (((f_X8_sign aa)).toInt64))) ≤ 0 then 0 else (if ((f_X8_sign ((aa + bb) + dd)) * (f_X8_sign aa)) < 0 then 1 else (if ((if (f_X8_sign ((-bb) * (((f_X8_sign aa)).toInt64))) ≤ 0 then 0 else (if 0 ≤ (f_X8_sign (((-bb) * (((f_X8_sign aa)).toInt64)) - ((2 * aa) * (((f_X8_sign aa)).toInt64)))) then 0 else 1)) : Int32) = 0 then 0 else 1))))), (0, .ref ta), (1, .long ((bb * bb) - ((4 * aa) * dd))), (3, .int (f_X8_sign aa)), (4, .int (if (f_X8_sign ((-bb) * (((f_X8_sign aa)).toInt64))) ≤ 0 then 0 else (if 0 ≤ (f_X8_sign (((-bb) * (((f_X8_sign aa)).toInt64)) - ((2 * aa) * (((f_X8_sign aa)).toInt64)))) then 0 else 1))), (5, .int ((f_X8_sign dd) * (f_X8_sign aa))), (6, .int ((f_X8_sign ((aa + bb) + dd)) * (f_X8_sign aa)))]) hx hb dX8_findRoots_232 hl (by decide) rfl (fun ls hl9 => ?_)
            replace hl := hl9
            clear hl9
            refine lv_iload hx hb dX8_findRoots_234 (lv_at hl 6 rfl) ?_
            have J19 : ∀ (v18 : Int32) (H : Heap) (locs : List Loc) (ls : Array Slot), v18 = (if ((f_X8_sign ((aa + bb) + dd)) * (f_X8_sign aa)) ≤ 0 then 0 else (if 0 ≤ (f_X8_sign (((-bb) * (((f_X8_sign aa)).toInt64)) - ((2 * aa) * (((f_X8_sign aa)).toInt64)))) then 0 else (if ((f_X8_sign dd) * (f_X8_sign aa)) < 0 then 1 else (if (f_X8_sign ((-bb) * (((f_X8_sign aa)).toInt64))) ≤ 0 then 0 else 1)))) → va_P D vwCl [(ta, .inr (8, [.ref m_now, .ref m_undone, .ref m_slots, .ref m_slotKind, .ref m_hasSlot, .ref m_sheetBits, .ref m_sheetSize, .ref m_sheets, .int (nI u), .int fi, .ref m_fresh, .long aa, .long bb, .long dd, .int 0, .ref m_rootWhich, .int 0, .ref m_signs, .ref m_atNought, .int (nI mn), .ref m_change, .ref m_table, .ref m_carried])), (m_rootWhich, .inl (cy 0, 2, .inl rt))] H → va_D A [(ta, .inr (8, [.ref m_now, .ref m_undone, .ref m_slots, .ref m_slotKind, .ref m_hasSlot, .ref m_sheetBits, .ref m_sheetSize, .ref m_sheets, .int (nI u), .int fi, .ref m_fresh, .long aa, .long bb, .long dd, .int 0, .ref m_rootWhich, .int 0, .ref m_signs, .ref m_atNought, .int (nI mn), .ref m_change, .ref m_table, .ref m_carried])), (m_rootWhich, .inl (cy 0, 2, .inl rt))] → va_S A s.heap H locs → lv_has ls 9 [(0, .ref ta), (1, .long ((bb * bb) - ((4 * aa) * dd))), (3, .int (f_X8_sign aa)), (4, .int (if (f_X8_sign ((-bb) * (((f_X8_sign aa)).toInt64))) ≤ 0 then 0 else (if 0 ≤ (f_X8_sign (((-bb) * (((f_X8_sign aa)).toInt64)) - ((2 * aa) * (((f_X8_sign aa)).toInt64)))) then 0 else 1))), (5, .int ((f_X8_sign dd) * (f_X8_sign aa))), (6, .int ((f_X8_sign ((aa + bb) + dd)) * (f_X8_sign aa))), (7, .int (if ((f_X8_sign dd) * (f_X8_sign aa)) ≤ 0 then 0 else (if (f_X8_sign ((-bb) * (((f_X8_sign aa)).toInt64))) ≤ 0 then 0 else (if ((f_X8_sign ((aa + bb) + dd)) * (f_X8_sign aa)) < 0 then 1 else (if ((if (f_X8_sign ((-bb) * (((f_X8_sign aa)).toInt64))) ≤ 0 then 0 else (if 0 ≤ (f_X8_sign (((-bb) * (((f_X8_sign aa)).toInt64)) - ((2 * aa) * (((f_X8_sign aa)).toInt64)))) then 0 else 1)) : Int32) = 0 then 0 else 1)))))] → W p l e R s m args below meth c H locs 0 0 Q (F0 m 289 ls [.int v18]) := by
              clear hP hD hS hl
              intro v18 H locs ls ev18 hP hD hS hl
              subst ev18
              refine lv_istore (lv' := [(8, .int (if ((f_X8_sign ((aa + bb) + dd)) * (f_X8_sign aa)) ≤ 0 then 0 else (if 0 ≤ (f_X8_sign (((-bb) * (((f_X8_sign aa)).toInt64)) - ((2 * aa) * (((f_X8_sign aa)).toInt64)))) then 0 else (if ((f_X8_sign dd) * (f_X8_sign aa)) < 0 then 1 else (if (f_X8_sign ((-bb) * (((f_X8_sign aa)).toInt64))) ≤ 0 then 0 else 1))))), (0, .ref ta), (1, .long ((bb * bb) - ((4 * aa) * dd))), (3, .int (f_X8_sign aa)), (4, .int (if (f_X8_sign ((-bb) * (((f_X8_sign aa)).toInt64))) ≤ 0 then 0 else (if 0 ≤ (f_X8_sign (((-bb) * (((f_X8_sign aa)).toInt64)) - ((2 * aa) * (((f_X8_sign aa)).toInt64)))) then 0 else 1))), (5, .int ((f_X8_sign dd) * (f_X8_sign aa))), (6, .int ((f_X8_sign ((aa + bb) + dd)) * (f_X8_sign aa))), (7, .int (if ((f_X8_sign dd) * (f_X8_sign aa)) ≤ 0 then 0 else (if (f_X8_sign ((-bb) * (((f_X8_sign aa)).toInt64))) ≤ 0 then 0 else (if ((f_X8_sign ((aa + bb) + dd)) * (f_X8_sign aa)) < 0 then 1 else (if ((if (f_X8_sign ((-bb) * (((f_X8_sign aa)).toInt64))) ≤ 0 then 0 else (if 0 ≤ (f_X8_sign (((-bb) * (((f_X8_sign aa)).toInt64)) - ((2 * aa) * (((f_X8_sign aa)).toInt64)))) then 0 else 1)) : Int32) = 0 then 0 else 1)))))]) hx hb dX8_findRoots_289 hl (by decide) rfl (fun ls hl9 => ?_)
              replace hl := hl9
              clear hl9
              refine lv_iload hx hb dX8_findRoots_291 (lv_at hl 7 rfl) ?_
              have J23 : ∀ (v21 : Nat) (v22 : Nat → Int32) (H : Heap) (locs : List Loc) (ls : Array Slot), v21 = (if ((if ((f_X8_sign dd) * (f_X8_sign aa)) ≤ 0 then 0 else (if (f_X8_sign ((-bb) * (((f_X8_sign aa)).toInt64))) ≤ 0 then 0 else (if ((f_X8_sign ((aa + bb) + dd)) * (f_X8_sign aa)) < 0 then 1 else (if ((if (f_X8_sign ((-bb) * (((f_X8_sign aa)).toInt64))) ≤ 0 then 0 else (if 0 ≤ (f_X8_sign (((-bb) * (((f_X8_sign aa)).toInt64)) - ((2 * aa) * (((f_X8_sign aa)).toInt64)))) then 0 else 1)) : Int32) = 0 then 0 else 1)))) : Int32) = 0 then 0 else (f_X8_only 0 rt 0).1) → v22 = (if ((if ((f_X8_sign dd) * (f_X8_sign aa)) ≤ 0 then 0 else (if (f_X8_sign ((-bb) * (((f_X8_sign aa)).toInt64))) ≤ 0 then 0 else (if ((f_X8_sign ((aa + bb) + dd)) * (f_X8_sign aa)) < 0 then 1 else (if ((if (f_X8_sign ((-bb) * (((f_X8_sign aa)).toInt64))) ≤ 0 then 0 else (if 0 ≤ (f_X8_sign (((-bb) * (((f_X8_sign aa)).toInt64)) - ((2 * aa) * (((f_X8_sign aa)).toInt64)))) then 0 else 1)) : Int32) = 0 then 0 else 1)))) : Int32) = 0 then rt else (f_X8_only 0 rt 0).2) → va_P D vwCl [(ta, .inr (8, [.ref m_now, .ref m_undone, .ref m_slots, .ref m_slotKind, .ref m_hasSlot, .ref m_sheetBits, .ref m_sheetSize, .ref m_sheets, .int (nI u), .int fi, .ref m_fresh, .long aa, .long bb, .long dd, .int (nI v21), .ref m_rootWhich, .int 0, .ref m_signs, .ref m_atNought, .int (nI mn), .ref m_change, .ref m_table, .ref m_carried])), (m_rootWhich, .inl (cy 0, 2, .inl v22))] H → va_D A [(ta, .inr (8, [.ref m_now, .ref m_undone, .ref m_slots, .ref m_slotKind, .ref m_hasSlot, .ref m_sheetBits, .ref m_sheetSize, .ref m_sheets, .int (nI u), .int fi, .ref m_fresh, .long aa, .long bb, .long dd, .int (nI v21), .ref m_rootWhich, .int 0, .ref m_signs, .ref m_atNought, .int (nI mn), .ref m_change, .ref m_table, .ref m_carried])), (m_rootWhich, .inl (cy 0, 2, .inl v22))] → va_S A s.heap H locs → lv_has ls 9 [(0, .ref ta), (1, .long ((bb * bb) - ((4 * aa) * dd))), (3, .int (f_X8_sign aa)), (4, .int (if (f_X8_sign ((-bb) * (((f_X8_sign aa)).toInt64))) ≤ 0 then 0 else (if 0 ≤ (f_X8_sign (((-bb) * (((f_X8_sign aa)).toInt64)) - ((2 * aa) * (((f_X8_sign aa)).toInt64)))) then 0 else 1))), (5, .int ((f_X8_sign dd) * (f_X8_sign aa))), (6, .int ((f_X8_sign ((aa + bb) + dd)) * (f_X8_sign aa))), (7, .int (if ((f_X8_sign dd) * (f_X8_sign aa)) ≤ 0 then 0 else (if (f_X8_sign ((-bb) * (((f_X8_sign aa)).toInt64))) ≤ 0 then 0 else (if ((f_X8_sign ((aa + bb) + dd)) * (f_X8_sign aa)) < 0 then 1 else (if ((if (f_X8_sign ((-bb) * (((f_X8_sign aa)).toInt64))) ≤ 0 then 0 else (if 0 ≤ (f_X8_sign (((-bb) * (((f_X8_sign aa)).toInt64)) - ((2 * aa) * (((f_X8_sign aa)).toInt64)))) then 0 else 1)) : Int32) = 0 then 0 else 1))))), (8, .int (if ((f_X8_sign ((aa + bb) + dd)) * (f_X8_sign aa)) ≤ 0 then 0 else (if 0 ≤ (f_X8_sign (((-bb) * (((f_X8_sign aa)).toInt64)) - ((2 * aa) * (((f_X8_sign aa)).toInt64)))) then 0 else (if ((f_X8_sign dd) * (f_X8_sign aa)) < 0 then 1 else (if (f_X8_sign ((-bb) * (((f_X8_sign aa)).toInt64))) ≤ 0 then 0 else 1)))))] → W p l e R s m args below meth c H locs 0 0 Q (F0 m 301 ls []) := by
                clear hP hD hS hl
                intro v21 v22 H locs ls ev21 ev22 hP hD hS hl
                subst ev21
                subst ev22
                refine lv_iload hx hb dX8_findRoots_301 (lv_at hl 7 rfl) ?_
                have J27 : ∀ (v25 : Nat) (v26 : Nat → Int32) (H : Heap) (locs : List Loc) (ls : Array Slot), v25 = (if ((if ((f_X8_sign ((aa + bb) + dd)) * (f_X8_sign aa)) ≤ 0 then 0 else (if 0 ≤ (f_X8_sign (((-bb) * (((f_X8_sign aa)).toInt64)) - ((2 * aa) * (((f_X8_sign aa)).toInt64)))) then 0 else (if ((f_X8_sign dd) * (f_X8_sign aa)) < 0 then 1 else (if (f_X8_sign ((-bb) * (((f_X8_sign aa)).toInt64))) ≤ 0 then 0 else 1)))) : Int32) = 0 then (if ((if ((f_X8_sign dd) * (f_X8_sign aa)) ≤ 0 then 0 else (if (f_X8_sign ((-bb) * (((f_X8_sign aa)).toInt64))) ≤ 0 then 0 else (if ((f_X8_sign ((aa + bb) + dd)) * (f_X8_sign aa)) < 0 then 1 else (if ((if (f_X8_sign ((-bb) * (((f_X8_sign aa)).toInt64))) ≤ 0 then 0 else (if 0 ≤ (f_X8_sign (((-bb) * (((f_X8_sign aa)).toInt64)) - ((2 * aa) * (((f_X8_sign aa)).toInt64)))) then 0 else 1)) : Int32) = 0 then 0 else 1)))) : Int32) = 0 then 0 else (f_X8_only 0 rt 0).1) else (f_X8_only (if ((if ((f_X8_sign dd) * (f_X8_sign aa)) ≤ 0 then 0 else (if (f_X8_sign ((-bb) * (((f_X8_sign aa)).toInt64))) ≤ 0 then 0 else (if ((f_X8_sign ((aa + bb) + dd)) * (f_X8_sign aa)) < 0 then 1 else (if ((if (f_X8_sign ((-bb) * (((f_X8_sign aa)).toInt64))) ≤ 0 then 0 else (if 0 ≤ (f_X8_sign (((-bb) * (((f_X8_sign aa)).toInt64)) - ((2 * aa) * (((f_X8_sign aa)).toInt64)))) then 0 else 1)) : Int32) = 0 then 0 else 1)))) : Int32) = 0 then 0 else (f_X8_only 0 rt 0).1) (if ((if ((f_X8_sign dd) * (f_X8_sign aa)) ≤ 0 then 0 else (if (f_X8_sign ((-bb) * (((f_X8_sign aa)).toInt64))) ≤ 0 then 0 else (if ((f_X8_sign ((aa + bb) + dd)) * (f_X8_sign aa)) < 0 then 1 else (if ((if (f_X8_sign ((-bb) * (((f_X8_sign aa)).toInt64))) ≤ 0 then 0 else (if 0 ≤ (f_X8_sign (((-bb) * (((f_X8_sign aa)).toInt64)) - ((2 * aa) * (((f_X8_sign aa)).toInt64)))) then 0 else 1)) : Int32) = 0 then 0 else 1)))) : Int32) = 0 then rt else (f_X8_only 0 rt 0).2) 1).1) → v26 = (if ((if ((f_X8_sign ((aa + bb) + dd)) * (f_X8_sign aa)) ≤ 0 then 0 else (if 0 ≤ (f_X8_sign (((-bb) * (((f_X8_sign aa)).toInt64)) - ((2 * aa) * (((f_X8_sign aa)).toInt64)))) then 0 else (if ((f_X8_sign dd) * (f_X8_sign aa)) < 0 then 1 else (if (f_X8_sign ((-bb) * (((f_X8_sign aa)).toInt64))) ≤ 0 then 0 else 1)))) : Int32) = 0 then (if ((if ((f_X8_sign dd) * (f_X8_sign aa)) ≤ 0 then 0 else (if (f_X8_sign ((-bb) * (((f_X8_sign aa)).toInt64))) ≤ 0 then 0 else (if ((f_X8_sign ((aa + bb) + dd)) * (f_X8_sign aa)) < 0 then 1 else (if ((if (f_X8_sign ((-bb) * (((f_X8_sign aa)).toInt64))) ≤ 0 then 0 else (if 0 ≤ (f_X8_sign (((-bb) * (((f_X8_sign aa)).toInt64)) - ((2 * aa) * (((f_X8_sign aa)).toInt64)))) then 0 else 1)) : Int32) = 0 then 0 else 1)))) : Int32) = 0 then rt else (f_X8_only 0 rt 0).2) else (f_X8_only (if ((if ((f_X8_sign dd) * (f_X8_sign aa)) ≤ 0 then 0 else (if (f_X8_sign ((-bb) * (((f_X8_sign aa)).toInt64))) ≤ 0 then 0 else (if ((f_X8_sign ((aa + bb) + dd)) * (f_X8_sign aa)) < 0 then 1 else (if ((if (f_X8_sign ((-bb) * (((f_X8_sign aa)).toInt64))) ≤ 0 then 0 else (if 0 ≤ (f_X8_sign (((-bb) * (((f_X8_sign aa)).toInt64)) - ((2 * aa) * (((f_X8_sign aa)).toInt64)))) then 0 else 1)) : Int32) = 0 then 0 else 1)))) : Int32) = 0 then 0 else (f_X8_only 0 rt 0).1) (if ((if ((f_X8_sign dd) * (f_X8_sign aa)) ≤ 0 then 0 else (if (f_X8_sign ((-bb) * (((f_X8_sign aa)).toInt64))) ≤ 0 then 0 else (if ((f_X8_sign ((aa + bb) + dd)) * (f_X8_sign aa)) < 0 then 1 else (if ((if (f_X8_sign ((-bb) * (((f_X8_sign aa)).toInt64))) ≤ 0 then 0 else (if 0 ≤ (f_X8_sign (((-bb) * (((f_X8_sign aa)).toInt64)) - ((2 * aa) * (((f_X8_sign aa)).toInt64)))) then 0 else 1)) : Int32) = 0 then 0 else 1)))) : Int32) = 0 then rt else (f_X8_only 0 rt 0).2) 1).2) → va_P D vwCl [(ta, .inr (8, [.ref m_now, .ref m_undone, .ref m_slots, .ref m_slotKind, .ref m_hasSlot, .ref m_sheetBits, .ref m_sheetSize, .ref m_sheets, .int (nI u), .int fi, .ref m_fresh, .long aa, .long bb, .long dd, .int (nI v25), .ref m_rootWhich, .int 0, .ref m_signs, .ref m_atNought, .int (nI mn), .ref m_change, .ref m_table, .ref m_carried])), (m_rootWhich, .inl (cy 0, 2, .inl v26))] H → va_D A [(ta, .inr (8, [.ref m_now, .ref m_undone, .ref m_slots, .ref m_slotKind, .ref m_hasSlot, .ref m_sheetBits, .ref m_sheetSize, .ref m_sheets, .int (nI u), .int fi, .ref m_fresh, .long aa, .long bb, .long dd, .int (nI v25), .ref m_rootWhich, .int 0, .ref m_signs, .ref m_atNought, .int (nI mn), .ref m_change, .ref m_table, .ref m_carried])), (m_rootWhich, .inl (cy 0, 2, .inl v26))] → va_S A s.heap H locs → lv_has ls 9 [(0, .ref ta), (1, .long ((bb * bb) - ((4 * aa) * dd))), (3, .int (f_X8_sign aa)), (4, .int (if (f_X8_sign ((-bb) * (((f_X8_sign aa)).toInt64))) ≤ 0 then 0 else (if 0 ≤ (f_X8_sign (((-bb) * (((f_X8_sign aa)).toInt64)) - ((2 * aa) * (((f_X8_sign aa)).toInt64)))) then 0 else 1))), (5, .int ((f_X8_sign dd) * (f_X8_sign aa))), (6, .int ((f_X8_sign ((aa + bb) + dd)) * (f_X8_sign aa))), (7, .int (if ((f_X8_sign dd) * (f_X8_sign aa)) ≤ 0 then 0 else (if (f_X8_sign ((-bb) * (((f_X8_sign aa)).toInt64))) ≤ 0 then 0 else (if ((f_X8_sign ((aa + bb) + dd)) * (f_X8_sign aa)) < 0 then 1 else (if ((if (f_X8_sign ((-bb) * (((f_X8_sign aa)).toInt64))) ≤ 0 then 0 else (if 0 ≤ (f_X8_sign (((-bb) * (((f_X8_sign aa)).toInt64)) - ((2 * aa) * (((f_X8_sign aa)).toInt64)))) then 0 else 1)) : Int32) = 0 then 0 else 1))))), (8, .int (if ((f_X8_sign ((aa + bb) + dd)) * (f_X8_sign aa)) ≤ 0 then 0 else (if 0 ≤ (f_X8_sign (((-bb) * (((f_X8_sign aa)).toInt64)) - ((2 * aa) * (((f_X8_sign aa)).toInt64)))) then 0 else (if ((f_X8_sign dd) * (f_X8_sign aa)) < 0 then 1 else (if (f_X8_sign ((-bb) * (((f_X8_sign aa)).toInt64))) ≤ 0 then 0 else 1)))))] → W p l e R s m args below meth c H locs 0 0 Q (F0 m 311 ls []) := by
                  clear hP hD hS hl
                  intro v25 v26 H locs ls ev25 ev26 hP hD hS hl
                  subst ev25
                  subst ev26
                  have hF : f_X8_findRoots aa bb dd rt = ((if ((if ((f_X8_sign ((aa + bb) + dd)) * (f_X8_sign aa)) ≤ 0 then 0 else (if 0 ≤ (f_X8_sign (((-bb) * (((f_X8_sign aa)).toInt64)) - ((2 * aa) * (((f_X8_sign aa)).toInt64)))) then 0 else (if ((f_X8_sign dd) * (f_X8_sign aa)) < 0 then 1 else (if (f_X8_sign ((-bb) * (((f_X8_sign aa)).toInt64))) ≤ 0 then 0 else 1)))) : Int32) = 0 then (if ((if ((f_X8_sign dd) * (f_X8_sign aa)) ≤ 0 then 0 else (if (f_X8_sign ((-bb) * (((f_X8_sign aa)).toInt64))) ≤ 0 then 0 else (if ((f_X8_sign ((aa + bb) + dd)) * (f_X8_sign aa)) < 0 then 1 else (if ((if (f_X8_sign ((-bb) * (((f_X8_sign aa)).toInt64))) ≤ 0 then 0 else (if 0 ≤ (f_X8_sign (((-bb) * (((f_X8_sign aa)).toInt64)) - ((2 * aa) * (((f_X8_sign aa)).toInt64)))) then 0 else 1)) : Int32) = 0 then 0 else 1)))) : Int32) = 0 then 0 else (f_X8_only 0 rt 0).1) else (f_X8_only (if ((if ((f_X8_sign dd) * (f_X8_sign aa)) ≤ 0 then 0 else (if (f_X8_sign ((-bb) * (((f_X8_sign aa)).toInt64))) ≤ 0 then 0 else (if ((f_X8_sign ((aa + bb) + dd)) * (f_X8_sign aa)) < 0 then 1 else (if ((if (f_X8_sign ((-bb) * (((f_X8_sign aa)).toInt64))) ≤ 0 then 0 else (if 0 ≤ (f_X8_sign (((-bb) * (((f_X8_sign aa)).toInt64)) - ((2 * aa) * (((f_X8_sign aa)).toInt64)))) then 0 else 1)) : Int32) = 0 then 0 else 1)))) : Int32) = 0 then 0 else (f_X8_only 0 rt 0).1) (if ((if ((f_X8_sign dd) * (f_X8_sign aa)) ≤ 0 then 0 else (if (f_X8_sign ((-bb) * (((f_X8_sign aa)).toInt64))) ≤ 0 then 0 else (if ((f_X8_sign ((aa + bb) + dd)) * (f_X8_sign aa)) < 0 then 1 else (if ((if (f_X8_sign ((-bb) * (((f_X8_sign aa)).toInt64))) ≤ 0 then 0 else (if 0 ≤ (f_X8_sign (((-bb) * (((f_X8_sign aa)).toInt64)) - ((2 * aa) * (((f_X8_sign aa)).toInt64)))) then 0 else 1)) : Int32) = 0 then 0 else 1)))) : Int32) = 0 then rt else (f_X8_only 0 rt 0).2) 1).1), 0, (if ((if ((f_X8_sign ((aa + bb) + dd)) * (f_X8_sign aa)) ≤ 0 then 0 else (if 0 ≤ (f_X8_sign (((-bb) * (((f_X8_sign aa)).toInt64)) - ((2 * aa) * (((f_X8_sign aa)).toInt64)))) then 0 else (if ((f_X8_sign dd) * (f_X8_sign aa)) < 0 then 1 else (if (f_X8_sign ((-bb) * (((f_X8_sign aa)).toInt64))) ≤ 0 then 0 else 1)))) : Int32) = 0 then (if ((if ((f_X8_sign dd) * (f_X8_sign aa)) ≤ 0 then 0 else (if (f_X8_sign ((-bb) * (((f_X8_sign aa)).toInt64))) ≤ 0 then 0 else (if ((f_X8_sign ((aa + bb) + dd)) * (f_X8_sign aa)) < 0 then 1 else (if ((if (f_X8_sign ((-bb) * (((f_X8_sign aa)).toInt64))) ≤ 0 then 0 else (if 0 ≤ (f_X8_sign (((-bb) * (((f_X8_sign aa)).toInt64)) - ((2 * aa) * (((f_X8_sign aa)).toInt64)))) then 0 else 1)) : Int32) = 0 then 0 else 1)))) : Int32) = 0 then rt else (f_X8_only 0 rt 0).2) else (f_X8_only (if ((if ((f_X8_sign dd) * (f_X8_sign aa)) ≤ 0 then 0 else (if (f_X8_sign ((-bb) * (((f_X8_sign aa)).toInt64))) ≤ 0 then 0 else (if ((f_X8_sign ((aa + bb) + dd)) * (f_X8_sign aa)) < 0 then 1 else (if ((if (f_X8_sign ((-bb) * (((f_X8_sign aa)).toInt64))) ≤ 0 then 0 else (if 0 ≤ (f_X8_sign (((-bb) * (((f_X8_sign aa)).toInt64)) - ((2 * aa) * (((f_X8_sign aa)).toInt64)))) then 0 else 1)) : Int32) = 0 then 0 else 1)))) : Int32) = 0 then 0 else (f_X8_only 0 rt 0).1) (if ((if ((f_X8_sign dd) * (f_X8_sign aa)) ≤ 0 then 0 else (if (f_X8_sign ((-bb) * (((f_X8_sign aa)).toInt64))) ≤ 0 then 0 else (if ((f_X8_sign ((aa + bb) + dd)) * (f_X8_sign aa)) < 0 then 1 else (if ((if (f_X8_sign ((-bb) * (((f_X8_sign aa)).toInt64))) ≤ 0 then 0 else (if 0 ≤ (f_X8_sign (((-bb) * (((f_X8_sign aa)).toInt64)) - ((2 * aa) * (((f_X8_sign aa)).toInt64)))) then 0 else 1)) : Int32) = 0 then 0 else 1)))) : Int32) = 0 then rt else (f_X8_only 0 rt 0).2) 1).2)) := hF
                  have hf0 := yk_fst hF
                  have hg0 := yk_snd hF
                  have hf1 := yk_fst hg0
                  have hg1 := yk_snd hg0
                  rw [hf0, hf1, hg1] at hQ
                  exact hQ _ _ _ _ dX8_findRoots_311 hP hS
                refine lv_if_eq (tgt := 311) hx hb dX8_findRoots_303 (by decide) (fun hc24 => ?_) (fun hc24 => ?_)
                · exact J27 _ _ _ _ _ ((if_pos hc24).symm) ((if_pos hc24).symm) hP hD hS (lv_sub hl [0, 1, 2, 3, 4, 5, 6, 7] rfl)
                · refine lv_aload_n hx hb dX8_findRoots_306 rfl (lv_at hl 0 rfl) ?_
                  refine lv_iconst (v := 1) hx hb dX8_findRoots_307 (by decide) ?_
                  refine yk_v [0, 1] (va_runV (As := [.int 1]) (rest := []) ⟨hx, hb, hml, hown, hts⟩ (c_X8_only l D cy ta m_rootWhich m_now m_undone m_slots m_slotKind m_hasSlot m_sheetBits m_sheetSize m_sheets m_fresh m_signs m_atNought m_change m_table m_carried u fi aa bb dd (if ((if ((f_X8_sign dd) * (f_X8_sign aa)) ≤ 0 then 0 else (if (f_X8_sign ((-bb) * (((f_X8_sign aa)).toInt64))) ≤ 0 then 0 else (if ((f_X8_sign ((aa + bb) + dd)) * (f_X8_sign aa)) < 0 then 1 else (if ((if (f_X8_sign ((-bb) * (((f_X8_sign aa)).toInt64))) ≤ 0 then 0 else (if 0 ≤ (f_X8_sign (((-bb) * (((f_X8_sign aa)).toInt64)) - ((2 * aa) * (((f_X8_sign aa)).toInt64)))) then 0 else 1)) : Int32) = 0 then 0 else 1)))) : Int32) = 0 then 0 else (f_X8_only 0 rt 0).1) (if ((if ((f_X8_sign dd) * (f_X8_sign aa)) ≤ 0 then 0 else (if (f_X8_sign ((-bb) * (((f_X8_sign aa)).toInt64))) ≤ 0 then 0 else (if ((f_X8_sign ((aa + bb) + dd)) * (f_X8_sign aa)) < 0 then 1 else (if ((if (f_X8_sign ((-bb) * (((f_X8_sign aa)).toInt64))) ≤ 0 then 0 else (if 0 ≤ (f_X8_sign (((-bb) * (((f_X8_sign aa)).toInt64)) - ((2 * aa) * (((f_X8_sign aa)).toInt64)))) then 0 else 1)) : Int32) = 0 then 0 else 1)))) : Int32) = 0 then rt else (f_X8_only 0 rt 0).2) 0 mn 1 (by (repeat' split) <;> omega) H.size) (cwV 1 hts gX8_findRoots_X8_only rfl rfl rfl hv_X8_only (yk_room hRf hRl rfl rfl)) (yk_pv (q := (RX8, TX8, 23)) hG hA hS hK hP hD [0, 1] (by decide +kernel) rfl rfl rfl) rfl rfl hl.1 rfl (lv_room (Nat.le_of_ble_eq_true rfl)) dX8_findRoots_308 ⟨Nat.zero_le _, Nat.zero_le _⟩) hP hD hS hA rfl rfl (fun H locs hP9 hD9 hS9 => ?_)
                  replace hP : va_P D vwCl [(ta, .inr (8, [.ref m_now, .ref m_undone, .ref m_slots, .ref m_slotKind, .ref m_hasSlot, .ref m_sheetBits, .ref m_sheetSize, .ref m_sheets, .int (nI u), .int fi, .ref m_fresh, .long aa, .long bb, .long dd, .int (nI ((f_X8_only (if ((if ((f_X8_sign dd) * (f_X8_sign aa)) ≤ 0 then 0 else (if (f_X8_sign ((-bb) * (((f_X8_sign aa)).toInt64))) ≤ 0 then 0 else (if ((f_X8_sign ((aa + bb) + dd)) * (f_X8_sign aa)) < 0 then 1 else (if ((if (f_X8_sign ((-bb) * (((f_X8_sign aa)).toInt64))) ≤ 0 then 0 else (if 0 ≤ (f_X8_sign (((-bb) * (((f_X8_sign aa)).toInt64)) - ((2 * aa) * (((f_X8_sign aa)).toInt64)))) then 0 else 1)) : Int32) = 0 then 0 else 1)))) : Int32) = 0 then 0 else (f_X8_only 0 rt 0).1) (if ((if ((f_X8_sign dd) * (f_X8_sign aa)) ≤ 0 then 0 else (if (f_X8_sign ((-bb) * (((f_X8_sign aa)).toInt64))) ≤ 0 then 0 else (if ((f_X8_sign ((aa + bb) + dd)) * (f_X8_sign aa)) < 0 then 1 else (if ((if (f_X8_sign ((-bb) * (((f_X8_sign aa)).toInt64))) ≤ 0 then 0 else (if 0 ≤ (f_X8_sign (((-bb) * (((f_X8_sign aa)).toInt64)) - ((2 * aa) * (((f_X8_sign aa)).toInt64)))) then 0 else 1)) : Int32) = 0 then 0 else 1)))) : Int32) = 0 then rt else (f_X8_only 0 rt 0).2) 1).1)), .ref m_rootWhich, .int 0, .ref m_signs, .ref m_atNought, .int (nI mn), .ref m_change, .ref m_table, .ref m_carried])), (m_rootWhich, .inl (cy 0, 2, .inl ((f_X8_only (if ((if ((f_X8_sign dd) * (f_X8_sign aa)) ≤ 0 then 0 else (if (f_X8_sign ((-bb) * (((f_X8_sign aa)).toInt64))) ≤ 0 then 0 else (if ((f_X8_sign ((aa + bb) + dd)) * (f_X8_sign aa)) < 0 then 1 else (if ((if (f_X8_sign ((-bb) * (((f_X8_sign aa)).toInt64))) ≤ 0 then 0 else (if 0 ≤ (f_X8_sign (((-bb) * (((f_X8_sign aa)).toInt64)) - ((2 * aa) * (((f_X8_sign aa)).toInt64)))) then 0 else 1)) : Int32) = 0 then 0 else 1)))) : Int32) = 0 then 0 else (f_X8_only 0 rt 0).1) (if ((if ((f_X8_sign dd) * (f_X8_sign aa)) ≤ 0 then 0 else (if (f_X8_sign ((-bb) * (((f_X8_sign aa)).toInt64))) ≤ 0 then 0 else (if ((f_X8_sign ((aa + bb) + dd)) * (f_X8_sign aa)) < 0 then 1 else (if ((if (f_X8_sign ((-bb) * (((f_X8_sign aa)).toInt64))) ≤ 0 then 0 else (if 0 ≤ (f_X8_sign (((-bb) * (((f_X8_sign aa)).toInt64)) - ((2 * aa) * (((f_X8_sign aa)).toInt64)))) then 0 else 1)) : Int32) = 0 then 0 else 1)))) : Int32) = 0 then rt else (f_X8_only 0 rt 0).2) 1).2)))] H := hP9
                  replace hD : va_D A [(ta, .inr (8, [.ref m_now, .ref m_undone, .ref m_slots, .ref m_slotKind, .ref m_hasSlot, .ref m_sheetBits, .ref m_sheetSize, .ref m_sheets, .int (nI u), .int fi, .ref m_fresh, .long aa, .long bb, .long dd, .int (nI ((f_X8_only (if ((if ((f_X8_sign dd) * (f_X8_sign aa)) ≤ 0 then 0 else (if (f_X8_sign ((-bb) * (((f_X8_sign aa)).toInt64))) ≤ 0 then 0 else (if ((f_X8_sign ((aa + bb) + dd)) * (f_X8_sign aa)) < 0 then 1 else (if ((if (f_X8_sign ((-bb) * (((f_X8_sign aa)).toInt64))) ≤ 0 then 0 else (if 0 ≤ (f_X8_sign (((-bb) * (((f_X8_sign aa)).toInt64)) - ((2 * aa) * (((f_X8_sign aa)).toInt64)))) then 0 else 1)) : Int32) = 0 then 0 else 1)))) : Int32) = 0 then 0 else (f_X8_only 0 rt 0).1) (if ((if ((f_X8_sign dd) * (f_X8_sign aa)) ≤ 0 then 0 else (if (f_X8_sign ((-bb) * (((f_X8_sign aa)).toInt64))) ≤ 0 then 0 else (if ((f_X8_sign ((aa + bb) + dd)) * (f_X8_sign aa)) < 0 then 1 else (if ((if (f_X8_sign ((-bb) * (((f_X8_sign aa)).toInt64))) ≤ 0 then 0 else (if 0 ≤ (f_X8_sign (((-bb) * (((f_X8_sign aa)).toInt64)) - ((2 * aa) * (((f_X8_sign aa)).toInt64)))) then 0 else 1)) : Int32) = 0 then 0 else 1)))) : Int32) = 0 then rt else (f_X8_only 0 rt 0).2) 1).1)), .ref m_rootWhich, .int 0, .ref m_signs, .ref m_atNought, .int (nI mn), .ref m_change, .ref m_table, .ref m_carried])), (m_rootWhich, .inl (cy 0, 2, .inl ((f_X8_only (if ((if ((f_X8_sign dd) * (f_X8_sign aa)) ≤ 0 then 0 else (if (f_X8_sign ((-bb) * (((f_X8_sign aa)).toInt64))) ≤ 0 then 0 else (if ((f_X8_sign ((aa + bb) + dd)) * (f_X8_sign aa)) < 0 then 1 else (if ((if (f_X8_sign ((-bb) * (((f_X8_sign aa)).toInt64))) ≤ 0 then 0 else (if 0 ≤ (f_X8_sign (((-bb) * (((f_X8_sign aa)).toInt64)) - ((2 * aa) * (((f_X8_sign aa)).toInt64)))) then 0 else 1)) : Int32) = 0 then 0 else 1)))) : Int32) = 0 then 0 else (f_X8_only 0 rt 0).1) (if ((if ((f_X8_sign dd) * (f_X8_sign aa)) ≤ 0 then 0 else (if (f_X8_sign ((-bb) * (((f_X8_sign aa)).toInt64))) ≤ 0 then 0 else (if ((f_X8_sign ((aa + bb) + dd)) * (f_X8_sign aa)) < 0 then 1 else (if ((if (f_X8_sign ((-bb) * (((f_X8_sign aa)).toInt64))) ≤ 0 then 0 else (if 0 ≤ (f_X8_sign (((-bb) * (((f_X8_sign aa)).toInt64)) - ((2 * aa) * (((f_X8_sign aa)).toInt64)))) then 0 else 1)) : Int32) = 0 then 0 else 1)))) : Int32) = 0 then rt else (f_X8_only 0 rt 0).2) 1).2)))] := hD9
                  replace hS := hS9
                  clear hP9 hD9 hS9
                  exact J27 _ _ _ _ _ ((if_neg hc24).symm) ((if_neg hc24).symm) hP hD hS (lv_sub hl [0, 1, 2, 3, 4, 5, 6, 7] rfl)
              refine lv_if_eq (tgt := 301) hx hb dX8_findRoots_293 (by decide) (fun hc20 => ?_) (fun hc20 => ?_)
              · exact J23 _ _ _ _ _ ((if_pos hc20).symm) ((if_pos hc20).symm) hP hD hS (lv_sub hl [1, 2, 3, 4, 5, 6, 7, 0] rfl)
              · refine lv_aload_n hx hb dX8_findRoots_296 rfl (lv_at hl 1 rfl) ?_
                refine lv_iconst (v := 0) hx hb dX8_findRoots_297 (by decide) ?_
                refine yk_v [0, 1] (va_runV (As := [.int 0]) (rest := []) ⟨hx, hb, hml, hown, hts⟩ (c_X8_only l D cy ta m_rootWhich m_now m_undone m_slots m_slotKind m_hasSlot m_sheetBits m_sheetSize m_sheets m_fresh m_signs m_atNought m_change m_table m_carried u fi aa bb dd 0 rt 0 mn 0 (by first | assumption | omega) H.size) (cwV 1 hts gX8_findRoots_X8_only rfl rfl rfl hv_X8_only (yk_room hRf hRl rfl rfl)) (yk_pv (q := (RX8, TX8, 23)) hG hA hS hK hP hD [0, 1] (by decide +kernel) rfl rfl rfl) rfl rfl hl.1 rfl (lv_room (Nat.le_of_ble_eq_true rfl)) dX8_findRoots_298 ⟨Nat.zero_le _, Nat.zero_le _⟩) hP hD hS hA rfl rfl (fun H locs hP9 hD9 hS9 => ?_)
                replace hP : va_P D vwCl [(ta, .inr (8, [.ref m_now, .ref m_undone, .ref m_slots, .ref m_slotKind, .ref m_hasSlot, .ref m_sheetBits, .ref m_sheetSize, .ref m_sheets, .int (nI u), .int fi, .ref m_fresh, .long aa, .long bb, .long dd, .int (nI ((f_X8_only 0 rt 0).1)), .ref m_rootWhich, .int 0, .ref m_signs, .ref m_atNought, .int (nI mn), .ref m_change, .ref m_table, .ref m_carried])), (m_rootWhich, .inl (cy 0, 2, .inl ((f_X8_only 0 rt 0).2)))] H := hP9
                replace hD : va_D A [(ta, .inr (8, [.ref m_now, .ref m_undone, .ref m_slots, .ref m_slotKind, .ref m_hasSlot, .ref m_sheetBits, .ref m_sheetSize, .ref m_sheets, .int (nI u), .int fi, .ref m_fresh, .long aa, .long bb, .long dd, .int (nI ((f_X8_only 0 rt 0).1)), .ref m_rootWhich, .int 0, .ref m_signs, .ref m_atNought, .int (nI mn), .ref m_change, .ref m_table, .ref m_carried])), (m_rootWhich, .inl (cy 0, 2, .inl ((f_X8_only 0 rt 0).2)))] := hD9
                replace hS := hS9
                clear hP9 hD9 hS9
                exact J23 _ _ _ _ _ ((if_neg hc20).symm) ((if_neg hc20).symm) hP hD hS (lv_sub hl [1, 2, 3, 4, 5, 6, 7, 0] rfl)
            refine lv_if_le (tgt := 288) hx hb dX8_findRoots_236 (by decide) (fun hc14 => ?_) (fun hc14 => ?_)
            · refine lv_iconst (v := 0) hx hb dX8_findRoots_288 (by decide) ?_
              exact J19 _ _ _ _ ((if_pos hc14).symm) hP hD hS (lv_sub hl [1, 2, 3, 4, 5, 6, 0] rfl)
            · refine lv_aload_n hx hb dX8_findRoots_239 rfl (lv_at hl 1 rfl) ?_
              refine va_get (D := D) (ci := 8) (v := .long bb) (C := RX8) (T := TX8) (N := 23) hx hb hts uX8_findRoots_X8 hown hK hP 0 rfl rfl 12 (by decide) (hts _ kX8_findRoots_3) (fun _ h9 => h9) rfl dX8_findRoots_240 ?_
              refine lv_lneg hx hb dX8_findRoots_243 ?_
              refine lv_iload_n hx hb dX8_findRoots_244 rfl (lv_at hl 3 rfl) ?_
              refine lv_i2l hx hb dX8_findRoots_245 rfl ?_
              refine lv_lmul hx hb dX8_findRoots_246 ?_
              refine lv_ldc2 (v := 2) hx hb hown (hts _ kX8_findRoots_6) dX8_findRoots_247 ?_
              refine lv_aload_n hx hb dX8_findRoots_250 rfl (lv_at hl 1 rfl) ?_
              refine va_get (D := D) (ci := 8) (v := .long aa) (C := RX8) (T := TX8) (N := 23) hx hb hts uX8_findRoots_X8 hown hK hP 0 rfl rfl 11 (by decide) (hts _ kX8_findRoots_2) (fun _ h9 => h9) rfl dX8_findRoots_251 ?_
              refine lv_lmul hx hb dX8_findRoots_254 ?_
              refine lv_iload_n hx hb dX8_findRoots_255 rfl (lv_at hl 3 rfl) ?_
              refine lv_i2l hx hb dX8_findRoots_256 rfl ?_
              refine lv_lmul hx hb dX8_findRoots_257 ?_
              refine lv_lsub hx hb dX8_findRoots_258 ?_
              refine yk_i [] (va_runS (As := [.long (((-bb) * (((f_X8_sign aa)).toInt64)) - ((2 * aa) * (((f_X8_sign aa)).toInt64)))]) (rest := []) ⟨hx, hb, hml, hown, hts⟩ (c_X8_sign l D cy (((-bb) * (((f_X8_sign aa)).toInt64)) - ((2 * aa) * (((f_X8_sign aa)).toInt64))) H.size) (va_cwS 1 hts gX8_findRoots_X8_sign rfl rfl rfl hs_X8_sign (yk_room hRf hRl rfl rfl)) (yk_ps hG hA hS hK hP hD [] (by decide +kernel) rfl) rfl rfl hl.1 rfl (lv_room (Nat.le_of_ble_eq_true rfl)) dX8_findRoots_259 ⟨Nat.zero_le _, Nat.zero_le _⟩) hP hD hS hA rfl rfl (fun H locs hP9 hD9 hS9 => ?_)
              replace hP : va_P D vwCl [(ta, .inr (8, [.ref m_now, .ref m_undone, .ref m_slots, .ref m_slotKind, .ref m_hasSlot, .ref m_sheetBits, .ref m_sheetSize, .ref m_sheets, .int (nI u), .int fi, .ref m_fresh, .long aa, .long bb, .long dd, .int 0, .ref m_rootWhich, .int 0, .ref m_signs, .ref m_atNought, .int (nI mn), .ref m_change, .ref m_table, .ref m_carried])), (m_rootWhich, .inl (cy 0, 2, .inl rt))] H := hP9
              replace hD : va_D A [(ta, .inr (8, [.ref m_now, .ref m_undone, .ref m_slots, .ref m_slotKind, .ref m_hasSlot, .ref m_sheetBits, .ref m_sheetSize, .ref m_sheets, .int (nI u), .int fi, .ref m_fresh, .long aa, .long bb, .long dd, .int 0, .ref m_rootWhich, .int 0, .ref m_signs, .ref m_atNought, .int (nI mn), .ref m_change, .ref m_table, .ref m_carried])), (m_rootWhich, .inl (cy 0, 2, .inl rt))] := hD9
              replace hS := hS9
              clear hP9 hD9 hS9
              refine lv_if_ge (tgt := 288) hx hb dX8_findRoots_262 (by decide) (fun hc15 => ?_) (fun hc15 => ?_)
              · refine lv_iconst (v := 0) hx hb dX8_findRoots_288 (by decide) ?_
                exact J19 _ _ _ _ (((if_neg hc14).trans (if_pos hc15)).symm) hP hD hS (lv_sub hl [1, 2, 3, 4, 5, 6, 0] rfl)
              · refine lv_iload hx hb dX8_findRoots_265 (lv_at hl 5 rfl) ?_
                refine lv_if_lt (tgt := 284) hx hb dX8_findRoots_267 (by decide) (fun hc16 => ?_) (fun hc16 => ?_)
                · refine lv_iconst (v := 1) hx hb dX8_findRoots_284 (by decide) ?_
                  refine lv_goto (tgt := 289) hx hb dX8_findRoots_285 (by decide) ?_
                  exact J19 _ _ _ _ (((if_neg hc14).trans ((if_neg hc15).trans (if_pos hc16))).symm) hP hD hS (lv_sub hl [1, 2, 3, 4, 5, 6, 0] rfl)
                · refine lv_aload_n hx hb dX8_findRoots_270 rfl (lv_at hl 1 rfl) ?_
                  refine va_get (D := D) (ci := 8) (v := .long bb) (C := RX8) (T := TX8) (N := 23) hx hb hts uX8_findRoots_X8 hown hK hP 0 rfl rfl 12 (by decide) (hts _ kX8_findRoots_3) (fun _ h9 => h9) rfl dX8_findRoots_271 ?_
                  refine lv_lneg hx hb dX8_findRoots_274 ?_
                  refine lv_iload_n hx hb dX8_findRoots_275 rfl (lv_at hl 3 rfl) ?_
                  refine lv_i2l hx hb dX8_findRoots_276 rfl ?_
                  refine lv_lmul hx hb dX8_findRoots_277 ?_
                  refine yk_i [] (va_runS (As := [.long ((-bb) * (((f_X8_sign aa)).toInt64))]) (rest := []) ⟨hx, hb, hml, hown, hts⟩ (c_X8_sign l D cy ((-bb) * (((f_X8_sign aa)).toInt64)) H.size) (va_cwS 1 hts gX8_findRoots_X8_sign rfl rfl rfl hs_X8_sign (yk_room hRf hRl rfl rfl)) (yk_ps hG hA hS hK hP hD [] (by decide +kernel) rfl) rfl rfl hl.1 rfl (lv_room (Nat.le_of_ble_eq_true rfl)) dX8_findRoots_278 ⟨Nat.zero_le _, Nat.zero_le _⟩) hP hD hS hA rfl rfl (fun H locs hP9 hD9 hS9 => ?_)
                  replace hP : va_P D vwCl [(ta, .inr (8, [.ref m_now, .ref m_undone, .ref m_slots, .ref m_slotKind, .ref m_hasSlot, .ref m_sheetBits, .ref m_sheetSize, .ref m_sheets, .int (nI u), .int fi, .ref m_fresh, .long aa, .long bb, .long dd, .int 0, .ref m_rootWhich, .int 0, .ref m_signs, .ref m_atNought, .int (nI mn), .ref m_change, .ref m_table, .ref m_carried])), (m_rootWhich, .inl (cy 0, 2, .inl rt))] H := hP9
                  replace hD : va_D A [(ta, .inr (8, [.ref m_now, .ref m_undone, .ref m_slots, .ref m_slotKind, .ref m_hasSlot, .ref m_sheetBits, .ref m_sheetSize, .ref m_sheets, .int (nI u), .int fi, .ref m_fresh, .long aa, .long bb, .long dd, .int 0, .ref m_rootWhich, .int 0, .ref m_signs, .ref m_atNought, .int (nI mn), .ref m_change, .ref m_table, .ref m_carried])), (m_rootWhich, .inl (cy 0, 2, .inl rt))] := hD9
                  replace hS := hS9
                  clear hP9 hD9 hS9
                  refine lv_if_le (tgt := 288) hx hb dX8_findRoots_281 (by decide) (fun hc17 => ?_) (fun hc17 => ?_)
                  · refine lv_iconst (v := 0) hx hb dX8_findRoots_288 (by decide) ?_
                    exact J19 _ _ _ _ (((if_neg hc14).trans ((if_neg hc15).trans ((if_neg hc16).trans (if_pos hc17)))).symm) hP hD hS (lv_sub hl [1, 2, 3, 4, 5, 6, 0] rfl)
                  · refine lv_iconst (v := 1) hx hb dX8_findRoots_284 (by decide) ?_
                    refine lv_goto (tgt := 289) hx hb dX8_findRoots_285 (by decide) ?_
                    exact J19 _ _ _ _ (((if_neg hc14).trans ((if_neg hc15).trans ((if_neg hc16).trans (if_neg hc17)))).symm) hP hD hS (lv_sub hl [1, 2, 3, 4, 5, 6, 0] rfl)
          refine lv_if_le (tgt := 231) hx hb dX8_findRoots_200 (by decide) (fun hc8 => ?_) (fun hc8 => ?_)
          · refine lv_iconst (v := 0) hx hb dX8_findRoots_231 (by decide) ?_
            exact J13 _ _ _ _ ((if_pos hc8).symm) hP hD hS (lv_sub hl [3, 4, 5, 2, 1, 0] rfl)
          · refine lv_aload_n hx hb dX8_findRoots_203 rfl (lv_at hl 3 rfl) ?_
            refine va_get (D := D) (ci := 8) (v := .long bb) (C := RX8) (T := TX8) (N := 23) hx hb hts uX8_findRoots_X8 hown hK hP 0 rfl rfl 12 (by decide) (hts _ kX8_findRoots_3) (fun _ h9 => h9) rfl dX8_findRoots_204 ?_
            refine lv_lneg hx hb dX8_findRoots_207 ?_
            refine lv_iload_n hx hb dX8_findRoots_208 rfl (lv_at hl 5 rfl) ?_
            refine lv_i2l hx hb dX8_findRoots_209 rfl ?_
            refine lv_lmul hx hb dX8_findRoots_210 ?_
            refine yk_i [] (va_runS (As := [.long ((-bb) * (((f_X8_sign aa)).toInt64))]) (rest := []) ⟨hx, hb, hml, hown, hts⟩ (c_X8_sign l D cy ((-bb) * (((f_X8_sign aa)).toInt64)) H.size) (va_cwS 1 hts gX8_findRoots_X8_sign rfl rfl rfl hs_X8_sign (yk_room hRf hRl rfl rfl)) (yk_ps hG hA hS hK hP hD [] (by decide +kernel) rfl) rfl rfl hl.1 rfl (lv_room (Nat.le_of_ble_eq_true rfl)) dX8_findRoots_211 ⟨Nat.zero_le _, Nat.zero_le _⟩) hP hD hS hA rfl rfl (fun H locs hP9 hD9 hS9 => ?_)
            replace hP : va_P D vwCl [(ta, .inr (8, [.ref m_now, .ref m_undone, .ref m_slots, .ref m_slotKind, .ref m_hasSlot, .ref m_sheetBits, .ref m_sheetSize, .ref m_sheets, .int (nI u), .int fi, .ref m_fresh, .long aa, .long bb, .long dd, .int 0, .ref m_rootWhich, .int 0, .ref m_signs, .ref m_atNought, .int (nI mn), .ref m_change, .ref m_table, .ref m_carried])), (m_rootWhich, .inl (cy 0, 2, .inl rt))] H := hP9
            replace hD : va_D A [(ta, .inr (8, [.ref m_now, .ref m_undone, .ref m_slots, .ref m_slotKind, .ref m_hasSlot, .ref m_sheetBits, .ref m_sheetSize, .ref m_sheets, .int (nI u), .int fi, .ref m_fresh, .long aa, .long bb, .long dd, .int 0, .ref m_rootWhich, .int 0, .ref m_signs, .ref m_atNought, .int (nI mn), .ref m_change, .ref m_table, .ref m_carried])), (m_rootWhich, .inl (cy 0, 2, .inl rt))] := hD9
            replace hS := hS9
            clear hP9 hD9 hS9
            refine lv_if_le (tgt := 231) hx hb dX8_findRoots_214 (by decide) (fun hc9 => ?_) (fun hc9 => ?_)
            · refine lv_iconst (v := 0) hx hb dX8_findRoots_231 (by decide) ?_
              exact J13 _ _ _ _ (((if_neg hc8).trans (if_pos hc9)).symm) hP hD hS (lv_sub hl [3, 4, 5, 2, 1, 0] rfl)
            · refine lv_iload hx hb dX8_findRoots_217 (lv_at hl 0 rfl) ?_
              refine lv_if_lt (tgt := 227) hx hb dX8_findRoots_219 (by decide) (fun hc10 => ?_) (fun hc10 => ?_)
              · refine lv_iconst (v := 1) hx hb dX8_findRoots_227 (by decide) ?_
                refine lv_goto (tgt := 232) hx hb dX8_findRoots_228 (by decide) ?_
                exact J13 _ _ _ _ (((if_neg hc8).trans ((if_neg hc9).trans (if_pos hc10))).symm) hP hD hS (lv_sub hl [3, 4, 5, 2, 1, 0] rfl)
              · refine lv_iload hx hb dX8_findRoots_222 (lv_at hl 2 rfl) ?_
                refine lv_if_eq (tgt := 231) hx hb dX8_findRoots_224 (by decide) (fun hc11 => ?_) (fun hc11 => ?_)
                · refine lv_iconst (v := 0) hx hb dX8_findRoots_231 (by decide) ?_
                  exact J13 _ _ _ _ (((if_neg hc8).trans ((if_neg hc9).trans ((if_neg hc10).trans (if_pos hc11)))).symm) hP hD hS (lv_sub hl [3, 4, 5, 2, 1, 0] rfl)
                · refine lv_iconst (v := 1) hx hb dX8_findRoots_227 (by decide) ?_
                  refine lv_goto (tgt := 232) hx hb dX8_findRoots_228 (by decide) ?_
                  exact J13 _ _ _ _ (((if_neg hc8).trans ((if_neg hc9).trans ((if_neg hc10).trans (if_neg hc11)))).symm) hP hD hS (lv_sub hl [3, 4, 5, 2, 1, 0] rfl)
        · replace hF := hF.trans (if_neg hc7)
          have hF : f_X8_findRoots aa bb dd rt = (0, 0, rt) := hF
          have hf0 := yk_fst hF
          have hg0 := yk_snd hF
          have hf1 := yk_fst hg0
          have hg1 := yk_snd hg0
          rw [hf0, hf1, hg1] at hQ
          exact hQ _ _ _ _ dX8_findRoots_165 hP hS
      · replace hF := hF.trans (if_pos hc6)
        refine lv_aload_n hx hb dX8_findRoots_142 rfl (lv_at hl 1 rfl) ?_
        refine lv_iload hx hb dX8_findRoots_143 (lv_at hl 0 rfl) ?_
        refine va_put (D := D) (ci := 8) (v := .int (if (f_X8_sign ((-bb) * (((f_X8_sign aa)).toInt64))) ≤ 0 then 0 else (if 0 ≤ (f_X8_sign (((-bb) * (((f_X8_sign aa)).toInt64)) - ((2 * aa) * (((f_X8_sign aa)).toInt64)))) then 0 else 1))) (ty := .boolean) (C := RX8) (T := TX8) (N := 23) hx hb hts uX8_findRoots_X8 tyX8 tyX8_ok nmX8 hown hK hP hD hS 0 rfl rfl 16 (by decide) (hts _ kX8_findRoots_1) (fun _ h9 => h9) rfl (by decide +kernel) (yk_nb (by (repeat' split) <;> first | exact Or.inl rfl | exact Or.inr rfl)) (yk_fb (by (repeat' split) <;> first | exact Or.inl rfl | exact Or.inr rfl)) (Nat.le_of_ble_eq_true rfl) dX8_findRoots_145 (fun H locs hP9 hD9 hS9 => ?_)
        replace hP : va_P D vwCl [(ta, .inr (8, [.ref m_now, .ref m_undone, .ref m_slots, .ref m_slotKind, .ref m_hasSlot, .ref m_sheetBits, .ref m_sheetSize, .ref m_sheets, .int (nI u), .int fi, .ref m_fresh, .long aa, .long bb, .long dd, .int 0, .ref m_rootWhich, .int (if (f_X8_sign ((-bb) * (((f_X8_sign aa)).toInt64))) ≤ 0 then 0 else (if 0 ≤ (f_X8_sign (((-bb) * (((f_X8_sign aa)).toInt64)) - ((2 * aa) * (((f_X8_sign aa)).toInt64)))) then 0 else 1)), .ref m_signs, .ref m_atNought, .int (nI mn), .ref m_change, .ref m_table, .ref m_carried])), (m_rootWhich, .inl (cy 0, 2, .inl rt))] H := hP9
        replace hD : va_D A [(ta, .inr (8, [.ref m_now, .ref m_undone, .ref m_slots, .ref m_slotKind, .ref m_hasSlot, .ref m_sheetBits, .ref m_sheetSize, .ref m_sheets, .int (nI u), .int fi, .ref m_fresh, .long aa, .long bb, .long dd, .int 0, .ref m_rootWhich, .int (if (f_X8_sign ((-bb) * (((f_X8_sign aa)).toInt64))) ≤ 0 then 0 else (if 0 ≤ (f_X8_sign (((-bb) * (((f_X8_sign aa)).toInt64)) - ((2 * aa) * (((f_X8_sign aa)).toInt64)))) then 0 else 1)), .ref m_signs, .ref m_atNought, .int (nI mn), .ref m_change, .ref m_table, .ref m_carried])), (m_rootWhich, .inl (cy 0, 2, .inl rt))] := hD9
        replace hS := hS9
        clear hP9 hD9 hS9
        refine lv_iload hx hb dX8_findRoots_148 (lv_at hl 0 rfl) ?_
        have J31 : ∀ (v29 : Nat) (v30 : Nat → Int32) (H : Heap) (locs : List Loc) (ls : Array Slot), v29 = (if ((if (f_X8_sign ((-bb) * (((f_X8_sign aa)).toInt64))) ≤ 0 then 0 else (if 0 ≤ (f_X8_sign (((-bb) * (((f_X8_sign aa)).toInt64)) - ((2 * aa) * (((f_X8_sign aa)).toInt64)))) then 0 else 1)) : Int32) = 0 then 0 else (f_X8_only 0 rt 2).1) → v30 = (if ((if (f_X8_sign ((-bb) * (((f_X8_sign aa)).toInt64))) ≤ 0 then 0 else (if 0 ≤ (f_X8_sign (((-bb) * (((f_X8_sign aa)).toInt64)) - ((2 * aa) * (((f_X8_sign aa)).toInt64)))) then 0 else 1)) : Int32) = 0 then rt else (f_X8_only 0 rt 2).2) → va_P D vwCl [(ta, .inr (8, [.ref m_now, .ref m_undone, .ref m_slots, .ref m_slotKind, .ref m_hasSlot, .ref m_sheetBits, .ref m_sheetSize, .ref m_sheets, .int (nI u), .int fi, .ref m_fresh, .long aa, .long bb, .long dd, .int (nI v29), .ref m_rootWhich, .int (if (f_X8_sign ((-bb) * (((f_X8_sign aa)).toInt64))) ≤ 0 then 0 else (if 0 ≤ (f_X8_sign (((-bb) * (((f_X8_sign aa)).toInt64)) - ((2 * aa) * (((f_X8_sign aa)).toInt64)))) then 0 else 1)), .ref m_signs, .ref m_atNought, .int (nI mn), .ref m_change, .ref m_table, .ref m_carried])), (m_rootWhich, .inl (cy 0, 2, .inl v30))] H → va_D A [(ta, .inr (8, [.ref m_now, .ref m_undone, .ref m_slots, .ref m_slotKind, .ref m_hasSlot, .ref m_sheetBits, .ref m_sheetSize, .ref m_sheets, .int (nI u), .int fi, .ref m_fresh, .long aa, .long bb, .long dd, .int (nI v29), .ref m_rootWhich, .int (if (f_X8_sign ((-bb) * (((f_X8_sign aa)).toInt64))) ≤ 0 then 0 else (if 0 ≤ (f_X8_sign (((-bb) * (((f_X8_sign aa)).toInt64)) - ((2 * aa) * (((f_X8_sign aa)).toInt64)))) then 0 else 1)), .ref m_signs, .ref m_atNought, .int (nI mn), .ref m_change, .ref m_table, .ref m_carried])), (m_rootWhich, .inl (cy 0, 2, .inl v30))] → va_S A s.heap H locs → lv_has ls 9 [(0, .ref ta), (1, .long ((bb * bb) - ((4 * aa) * dd))), (3, .int (f_X8_sign aa)), (4, .int (if (f_X8_sign ((-bb) * (((f_X8_sign aa)).toInt64))) ≤ 0 then 0 else (if 0 ≤ (f_X8_sign (((-bb) * (((f_X8_sign aa)).toInt64)) - ((2 * aa) * (((f_X8_sign aa)).toInt64)))) then 0 else 1)))] → W p l e R s m args below meth c H locs 0 0 Q (F0 m 158 ls []) := by
          clear hP hD hS hl
          intro v29 v30 H locs ls ev29 ev30 hP hD hS hl
          subst ev29
          subst ev30
          have hF : f_X8_findRoots aa bb dd rt = ((if ((if (f_X8_sign ((-bb) * (((f_X8_sign aa)).toInt64))) ≤ 0 then 0 else (if 0 ≤ (f_X8_sign (((-bb) * (((f_X8_sign aa)).toInt64)) - ((2 * aa) * (((f_X8_sign aa)).toInt64)))) then 0 else 1)) : Int32) = 0 then 0 else (f_X8_only 0 rt 2).1), (if (f_X8_sign ((-bb) * (((f_X8_sign aa)).toInt64))) ≤ 0 then 0 else (if 0 ≤ (f_X8_sign (((-bb) * (((f_X8_sign aa)).toInt64)) - ((2 * aa) * (((f_X8_sign aa)).toInt64)))) then 0 else 1)), (if ((if (f_X8_sign ((-bb) * (((f_X8_sign aa)).toInt64))) ≤ 0 then 0 else (if 0 ≤ (f_X8_sign (((-bb) * (((f_X8_sign aa)).toInt64)) - ((2 * aa) * (((f_X8_sign aa)).toInt64)))) then 0 else 1)) : Int32) = 0 then rt else (f_X8_only 0 rt 2).2)) := hF
          have hf0 := yk_fst hF
          have hg0 := yk_snd hF
          have hf1 := yk_fst hg0
          have hg1 := yk_snd hg0
          rw [hf0, hf1, hg1] at hQ
          exact hQ _ _ _ _ dX8_findRoots_158 hP hS
        refine lv_if_eq (tgt := 158) hx hb dX8_findRoots_150 (by decide) (fun hc28 => ?_) (fun hc28 => ?_)
        · exact J31 _ _ _ _ _ ((if_pos hc28).symm) ((if_pos hc28).symm) hP hD hS (lv_sub hl [1, 2, 3, 0] rfl)
        · refine lv_aload_n hx hb dX8_findRoots_153 rfl (lv_at hl 1 rfl) ?_
          refine lv_iconst (v := 2) hx hb dX8_findRoots_154 (by decide) ?_
          refine yk_v [0, 1] (va_runV (As := [.int 2]) (rest := []) ⟨hx, hb, hml, hown, hts⟩ (c_X8_only l D cy ta m_rootWhich m_now m_undone m_slots m_slotKind m_hasSlot m_sheetBits m_sheetSize m_sheets m_fresh m_signs m_atNought m_change m_table m_carried u fi aa bb dd 0 rt (if (f_X8_sign ((-bb) * (((f_X8_sign aa)).toInt64))) ≤ 0 then 0 else (if 0 ≤ (f_X8_sign (((-bb) * (((f_X8_sign aa)).toInt64)) - ((2 * aa) * (((f_X8_sign aa)).toInt64)))) then 0 else 1)) mn 2 (by first | assumption | omega) H.size) (cwV 1 hts gX8_findRoots_X8_only rfl rfl rfl hv_X8_only (yk_room hRf hRl rfl rfl)) (yk_pv (q := (RX8, TX8, 23)) hG hA hS hK hP hD [0, 1] (by decide +kernel) rfl rfl rfl) rfl rfl hl.1 rfl (lv_room (Nat.le_of_ble_eq_true rfl)) dX8_findRoots_155 ⟨Nat.zero_le _, Nat.zero_le _⟩) hP hD hS hA rfl rfl (fun H locs hP9 hD9 hS9 => ?_)
          replace hP : va_P D vwCl [(ta, .inr (8, [.ref m_now, .ref m_undone, .ref m_slots, .ref m_slotKind, .ref m_hasSlot, .ref m_sheetBits, .ref m_sheetSize, .ref m_sheets, .int (nI u), .int fi, .ref m_fresh, .long aa, .long bb, .long dd, .int (nI ((f_X8_only 0 rt 2).1)), .ref m_rootWhich, .int (if (f_X8_sign ((-bb) * (((f_X8_sign aa)).toInt64))) ≤ 0 then 0 else (if 0 ≤ (f_X8_sign (((-bb) * (((f_X8_sign aa)).toInt64)) - ((2 * aa) * (((f_X8_sign aa)).toInt64)))) then 0 else 1)), .ref m_signs, .ref m_atNought, .int (nI mn), .ref m_change, .ref m_table, .ref m_carried])), (m_rootWhich, .inl (cy 0, 2, .inl ((f_X8_only 0 rt 2).2)))] H := hP9
          replace hD : va_D A [(ta, .inr (8, [.ref m_now, .ref m_undone, .ref m_slots, .ref m_slotKind, .ref m_hasSlot, .ref m_sheetBits, .ref m_sheetSize, .ref m_sheets, .int (nI u), .int fi, .ref m_fresh, .long aa, .long bb, .long dd, .int (nI ((f_X8_only 0 rt 2).1)), .ref m_rootWhich, .int (if (f_X8_sign ((-bb) * (((f_X8_sign aa)).toInt64))) ≤ 0 then 0 else (if 0 ≤ (f_X8_sign (((-bb) * (((f_X8_sign aa)).toInt64)) - ((2 * aa) * (((f_X8_sign aa)).toInt64)))) then 0 else 1)), .ref m_signs, .ref m_atNought, .int (nI mn), .ref m_change, .ref m_table, .ref m_carried])), (m_rootWhich, .inl (cy 0, 2, .inl ((f_X8_only 0 rt 2).2)))] := hD9
          replace hS := hS9
          clear hP9 hD9 hS9
          exact J31 _ _ _ _ _ ((if_neg hc28).symm) ((if_neg hc28).symm) hP hD hS (lv_sub hl [1, 2, 3, 0] rfl)
    refine lv_if_le (tgt := 133) hx hb dX8_findRoots_100 (by decide) (fun hc2 => ?_) (fun hc2 => ?_)
    · refine lv_iconst (v := 0) hx hb dX8_findRoots_133 (by decide) ?_
      exact J5 _ _ _ _ ((if_pos hc2).symm) hP hD hS (lv_sub hl [2, 1, 0] rfl)
    · refine lv_aload_n hx hb dX8_findRoots_103 rfl (lv_at hl 2 rfl) ?_
      refine va_get (D := D) (ci := 8) (v := .long bb) (C := RX8) (T := TX8) (N := 23) hx hb hts uX8_findRoots_X8 hown hK hP 0 rfl rfl 12 (by decide) (hts _ kX8_findRoots_3) (fun _ h9 => h9) rfl dX8_findRoots_104 ?_
      refine lv_lneg hx hb dX8_findRoots_107 ?_
      refine lv_iload_n hx hb dX8_findRoots_108 rfl (lv_at hl 0 rfl) ?_
      refine lv_i2l hx hb dX8_findRoots_109 rfl ?_
      refine lv_lmul hx hb dX8_findRoots_110 ?_
      refine lv_ldc2 (v := 2) hx hb hown (hts _ kX8_findRoots_6) dX8_findRoots_111 ?_
      refine lv_aload_n hx hb dX8_findRoots_114 rfl (lv_at hl 2 rfl) ?_
      refine va_get (D := D) (ci := 8) (v := .long aa) (C := RX8) (T := TX8) (N := 23) hx hb hts uX8_findRoots_X8 hown hK hP 0 rfl rfl 11 (by decide) (hts _ kX8_findRoots_2) (fun _ h9 => h9) rfl dX8_findRoots_115 ?_
      refine lv_lmul hx hb dX8_findRoots_118 ?_
      refine lv_iload_n hx hb dX8_findRoots_119 rfl (lv_at hl 0 rfl) ?_
      refine lv_i2l hx hb dX8_findRoots_120 rfl ?_
      refine lv_lmul hx hb dX8_findRoots_121 ?_
      refine lv_lsub hx hb dX8_findRoots_122 ?_
      refine yk_i [] (va_runS (As := [.long (((-bb) * (((f_X8_sign aa)).toInt64)) - ((2 * aa) * (((f_X8_sign aa)).toInt64)))]) (rest := []) ⟨hx, hb, hml, hown, hts⟩ (c_X8_sign l D cy (((-bb) * (((f_X8_sign aa)).toInt64)) - ((2 * aa) * (((f_X8_sign aa)).toInt64))) H.size) (va_cwS 1 hts gX8_findRoots_X8_sign rfl rfl rfl hs_X8_sign (yk_room hRf hRl rfl rfl)) (yk_ps hG hA hS hK hP hD [] (by decide +kernel) rfl) rfl rfl hl.1 rfl (lv_room (Nat.le_of_ble_eq_true rfl)) dX8_findRoots_123 ⟨Nat.zero_le _, Nat.zero_le _⟩) hP hD hS hA rfl rfl (fun H locs hP9 hD9 hS9 => ?_)
      replace hP : va_P D vwCl [(ta, .inr (8, [.ref m_now, .ref m_undone, .ref m_slots, .ref m_slotKind, .ref m_hasSlot, .ref m_sheetBits, .ref m_sheetSize, .ref m_sheets, .int (nI u), .int fi, .ref m_fresh, .long aa, .long bb, .long dd, .int 0, .ref m_rootWhich, .int 0, .ref m_signs, .ref m_atNought, .int (nI mn), .ref m_change, .ref m_table, .ref m_carried])), (m_rootWhich, .inl (cy 0, 2, .inl rt))] H := hP9
      replace hD : va_D A [(ta, .inr (8, [.ref m_now, .ref m_undone, .ref m_slots, .ref m_slotKind, .ref m_hasSlot, .ref m_sheetBits, .ref m_sheetSize, .ref m_sheets, .int (nI u), .int fi, .ref m_fresh, .long aa, .long bb, .long dd, .int 0, .ref m_rootWhich, .int 0, .ref m_signs, .ref m_atNought, .int (nI mn), .ref m_change, .ref m_table, .ref m_carried])), (m_rootWhich, .inl (cy 0, 2, .inl rt))] := hD9
      replace hS := hS9
      clear hP9 hD9 hS9
      refine lv_if_ge (tgt := 133) hx hb dX8_findRoots_126 (by decide) (fun hc3 => ?_) (fun hc3 => ?_)
      · refine lv_iconst (v := 0) hx hb dX8_findRoots_133 (by decide) ?_
        exact J5 _ _ _ _ (((if_neg hc2).trans (if_pos hc3)).symm) hP hD hS (lv_sub hl [2, 1, 0] rfl)
      · refine lv_iconst (v := 1) hx hb dX8_findRoots_129 (by decide) ?_
        refine lv_goto (tgt := 134) hx hb dX8_findRoots_130 (by decide) ?_
        exact J5 _ _ _ _ (((if_neg hc2).trans (if_neg hc3)).symm) hP hD hS (lv_sub hl [2, 1, 0] rfl)
  · replace hF := hF.trans (if_pos hc1)
    refine lv_aload_n hx hb dX8_findRoots_19 rfl (lv_at hl 0 rfl) ?_
    refine va_get (D := D) (ci := 8) (v := .long bb) (C := RX8) (T := TX8) (N := 23) hx hb hts uX8_findRoots_X8 hown hK hP 0 rfl rfl 12 (by decide) (hts _ kX8_findRoots_3) (fun _ h9 => h9) rfl dX8_findRoots_20 ?_
    refine lv_lconst (v := 0) hx hb dX8_findRoots_23 (by decide) ?_
    refine W.lcmp hx hb dX8_findRoots_24 ?_
    have J36 : ∀ (v34 : Nat) (v35 : Nat → Int32) (H : Heap) (locs : List Loc) (ls : Array Slot), v34 = (if (lg_cmp bb 0) = 0 then 0 else (if 0 ≤ ((f_X8_sign dd) * (f_X8_sign (bb + dd))) then 0 else (f_X8_only 0 rt 2).1)) → v35 = (if (lg_cmp bb 0) = 0 then rt else (if 0 ≤ ((f_X8_sign dd) * (f_X8_sign (bb + dd))) then rt else (f_X8_only 0 rt 2).2)) → va_P D vwCl [(ta, .inr (8, [.ref m_now, .ref m_undone, .ref m_slots, .ref m_slotKind, .ref m_hasSlot, .ref m_sheetBits, .ref m_sheetSize, .ref m_sheets, .int (nI u), .int fi, .ref m_fresh, .long aa, .long bb, .long dd, .int (nI v34), .ref m_rootWhich, .int 0, .ref m_signs, .ref m_atNought, .int (nI mn), .ref m_change, .ref m_table, .ref m_carried])), (m_rootWhich, .inl (cy 0, 2, .inl v35))] H → va_D A [(ta, .inr (8, [.ref m_now, .ref m_undone, .ref m_slots, .ref m_slotKind, .ref m_hasSlot, .ref m_sheetBits, .ref m_sheetSize, .ref m_sheets, .int (nI u), .int fi, .ref m_fresh, .long aa, .long bb, .long dd, .int (nI v34), .ref m_rootWhich, .int 0, .ref m_signs, .ref m_atNought, .int (nI mn), .ref m_change, .ref m_table, .ref m_carried])), (m_rootWhich, .inl (cy 0, 2, .inl v35))] → va_S A s.heap H locs → lv_has ls 9 [(0, .ref ta)] → W p l e R s m args below meth c H locs 0 0 Q (F0 m 56 ls []) := by
      clear hP hD hS hl
      intro v34 v35 H locs ls ev34 ev35 hP hD hS hl
      subst ev34
      subst ev35
      have hF : f_X8_findRoots aa bb dd rt = ((if (lg_cmp bb 0) = 0 then 0 else (if 0 ≤ ((f_X8_sign dd) * (f_X8_sign (bb + dd))) then 0 else (f_X8_only 0 rt 2).1)), 0, (if (lg_cmp bb 0) = 0 then rt else (if 0 ≤ ((f_X8_sign dd) * (f_X8_sign (bb + dd))) then rt else (f_X8_only 0 rt 2).2))) := hF
      have hf0 := yk_fst hF
      have hg0 := yk_snd hF
      have hf1 := yk_fst hg0
      have hg1 := yk_snd hg0
      rw [hf0, hf1, hg1] at hQ
      exact hQ _ _ _ _ dX8_findRoots_56 hP hS
    refine lv_if_eq (tgt := 56) hx hb dX8_findRoots_25 (by decide) (fun hc32 => ?_) (fun hc32 => ?_)
    · exact J36 _ _ _ _ _ ((if_pos hc32).symm) ((if_pos hc32).symm) hP hD hS (lv_sub hl [0] rfl)
    · refine lv_aload_n hx hb dX8_findRoots_28 rfl (lv_at hl 0 rfl) ?_
      refine va_get (D := D) (ci := 8) (v := .long dd) (C := RX8) (T := TX8) (N := 23) hx hb hts uX8_findRoots_X8 hown hK hP 0 rfl rfl 13 (by decide) (hts _ kX8_findRoots_5) (fun _ h9 => h9) rfl dX8_findRoots_29 ?_
      refine yk_i [] (va_runS (As := [.long dd]) (rest := []) ⟨hx, hb, hml, hown, hts⟩ (c_X8_sign l D cy dd H.size) (va_cwS 1 hts gX8_findRoots_X8_sign rfl rfl rfl hs_X8_sign (yk_room hRf hRl rfl rfl)) (yk_ps hG hA hS hK hP hD [] (by decide +kernel) rfl) rfl rfl hl.1 rfl (lv_room (Nat.le_of_ble_eq_true rfl)) dX8_findRoots_32 ⟨Nat.zero_le _, Nat.zero_le _⟩) hP hD hS hA rfl rfl (fun H locs hP9 hD9 hS9 => ?_)
      replace hP : va_P D vwCl [(ta, .inr (8, [.ref m_now, .ref m_undone, .ref m_slots, .ref m_slotKind, .ref m_hasSlot, .ref m_sheetBits, .ref m_sheetSize, .ref m_sheets, .int (nI u), .int fi, .ref m_fresh, .long aa, .long bb, .long dd, .int 0, .ref m_rootWhich, .int 0, .ref m_signs, .ref m_atNought, .int (nI mn), .ref m_change, .ref m_table, .ref m_carried])), (m_rootWhich, .inl (cy 0, 2, .inl rt))] H := hP9
      replace hD : va_D A [(ta, .inr (8, [.ref m_now, .ref m_undone, .ref m_slots, .ref m_slotKind, .ref m_hasSlot, .ref m_sheetBits, .ref m_sheetSize, .ref m_sheets, .int (nI u), .int fi, .ref m_fresh, .long aa, .long bb, .long dd, .int 0, .ref m_rootWhich, .int 0, .ref m_signs, .ref m_atNought, .int (nI mn), .ref m_change, .ref m_table, .ref m_carried])), (m_rootWhich, .inl (cy 0, 2, .inl rt))] := hD9
      replace hS := hS9
      clear hP9 hD9 hS9
      refine lv_aload_n hx hb dX8_findRoots_35 rfl (lv_at hl 0 rfl) ?_
      refine va_get (D := D) (ci := 8) (v := .long bb) (C := RX8) (T := TX8) (N := 23) hx hb hts uX8_findRoots_X8 hown hK hP 0 rfl rfl 12 (by decide) (hts _ kX8_findRoots_3) (fun _ h9 => h9) rfl dX8_findRoots_36 ?_
      refine lv_aload_n hx hb dX8_findRoots_39 rfl (lv_at hl 0 rfl) ?_
      refine va_get (D := D) (ci := 8) (v := .long dd) (C := RX8) (T := TX8) (N := 23) hx hb hts uX8_findRoots_X8 hown hK hP 0 rfl rfl 13 (by decide) (hts _ kX8_findRoots_5) (fun _ h9 => h9) rfl dX8_findRoots_40 ?_
      refine lv_ladd hx hb dX8_findRoots_43 ?_
      refine yk_i [] (va_runS (As := [.long (bb + dd)]) (rest := [.int (f_X8_sign dd)]) ⟨hx, hb, hml, hown, hts⟩ (c_X8_sign l D cy (bb + dd) H.size) (va_cwS 1 hts gX8_findRoots_X8_sign rfl rfl rfl hs_X8_sign (yk_room hRf hRl rfl rfl)) (yk_ps hG hA hS hK hP hD [] (by decide +kernel) rfl) rfl rfl hl.1 rfl (lv_room (Nat.le_of_ble_eq_true rfl)) dX8_findRoots_44 ⟨Nat.zero_le _, Nat.zero_le _⟩) hP hD hS hA rfl rfl (fun H locs hP9 hD9 hS9 => ?_)
      replace hP : va_P D vwCl [(ta, .inr (8, [.ref m_now, .ref m_undone, .ref m_slots, .ref m_slotKind, .ref m_hasSlot, .ref m_sheetBits, .ref m_sheetSize, .ref m_sheets, .int (nI u), .int fi, .ref m_fresh, .long aa, .long bb, .long dd, .int 0, .ref m_rootWhich, .int 0, .ref m_signs, .ref m_atNought, .int (nI mn), .ref m_change, .ref m_table, .ref m_carried])), (m_rootWhich, .inl (cy 0, 2, .inl rt))] H := hP9
      replace hD : va_D A [(ta, .inr (8, [.ref m_now, .ref m_undone, .ref m_slots, .ref m_slotKind, .ref m_hasSlot, .ref m_sheetBits, .ref m_sheetSize, .ref m_sheets, .int (nI u), .int fi, .ref m_fresh, .long aa, .long bb, .long dd, .int 0, .ref m_rootWhich, .int 0, .ref m_signs, .ref m_atNought, .int (nI mn), .ref m_change, .ref m_table, .ref m_carried])), (m_rootWhich, .inl (cy 0, 2, .inl rt))] := hD9
      replace hS := hS9
      clear hP9 hD9 hS9
      refine lv_imul hx hb dX8_findRoots_47 ?_
      refine lv_if_ge (tgt := 56) hx hb dX8_findRoots_48 (by decide) (fun hc33 => ?_) (fun hc33 => ?_)
      · exact J36 _ _ _ _ _ (((if_neg hc32).trans (if_pos hc33)).symm) (((if_neg hc32).trans (if_pos hc33)).symm) hP hD hS (lv_sub hl [0] rfl)
      · refine lv_aload_n hx hb dX8_findRoots_51 rfl (lv_at hl 0 rfl) ?_
        refine lv_iconst (v := 2) hx hb dX8_findRoots_52 (by decide) ?_
        refine yk_v [0, 1] (va_runV (As := [.int 2]) (rest := []) ⟨hx, hb, hml, hown, hts⟩ (c_X8_only l D cy ta m_rootWhich m_now m_undone m_slots m_slotKind m_hasSlot m_sheetBits m_sheetSize m_sheets m_fresh m_signs m_atNought m_change m_table m_carried u fi aa bb dd 0 rt 0 mn 2 (by first | assumption | omega) H.size) (cwV 1 hts gX8_findRoots_X8_only rfl rfl rfl hv_X8_only (yk_room hRf hRl rfl rfl)) (yk_pv (q := (RX8, TX8, 23)) hG hA hS hK hP hD [0, 1] (by decide +kernel) rfl rfl rfl) rfl rfl hl.1 rfl (lv_room (Nat.le_of_ble_eq_true rfl)) dX8_findRoots_53 ⟨Nat.zero_le _, Nat.zero_le _⟩) hP hD hS hA rfl rfl (fun H locs hP9 hD9 hS9 => ?_)
        replace hP : va_P D vwCl [(ta, .inr (8, [.ref m_now, .ref m_undone, .ref m_slots, .ref m_slotKind, .ref m_hasSlot, .ref m_sheetBits, .ref m_sheetSize, .ref m_sheets, .int (nI u), .int fi, .ref m_fresh, .long aa, .long bb, .long dd, .int (nI ((f_X8_only 0 rt 2).1)), .ref m_rootWhich, .int 0, .ref m_signs, .ref m_atNought, .int (nI mn), .ref m_change, .ref m_table, .ref m_carried])), (m_rootWhich, .inl (cy 0, 2, .inl ((f_X8_only 0 rt 2).2)))] H := hP9
        replace hD : va_D A [(ta, .inr (8, [.ref m_now, .ref m_undone, .ref m_slots, .ref m_slotKind, .ref m_hasSlot, .ref m_sheetBits, .ref m_sheetSize, .ref m_sheets, .int (nI u), .int fi, .ref m_fresh, .long aa, .long bb, .long dd, .int (nI ((f_X8_only 0 rt 2).1)), .ref m_rootWhich, .int 0, .ref m_signs, .ref m_atNought, .int (nI mn), .ref m_change, .ref m_table, .ref m_carried])), (m_rootWhich, .inl (cy 0, 2, .inl ((f_X8_only 0 rt 2).2)))] := hD9
        replace hS := hS9
        clear hP9 hD9 hS9
        exact J36 _ _ _ _ _ (((if_neg hc32).trans (if_neg hc33)).symm) (((if_neg hc32).trans (if_neg hc33)).symm) hP hD hS (lv_sub hl [0] rfl)

theorem kX8_zeros_0 : Cond.fieldLink RX8 139 "FlowPlaneModel" "a" "J" ∈ wsX8_zeros := by decide +kernel
theorem kX8_zeros_1 : Cond.fieldLink RX8 153 "FlowPlaneModel" "roots" "I" ∈ wsX8_zeros := by decide +kernel
theorem kX8_zeros_2 : Cond.fieldLink RX8 146 "FlowPlaneModel" "c" "J" ∈ wsX8_zeros := by decide +kernel
theorem kX8_zeros_3 : Cond.fieldLink RX8 143 "FlowPlaneModel" "b" "J" ∈ wsX8_zeros := by decide +kernel
theorem uX8_zeros_X8 : ∀ w ∈ u_ws RX8 TX8 23, w ∈ wsX8_zeros := by decide +kernel
def f_X8_zeros (nw : Nat → Int32) (ro : Nat) (rt : Nat → Int32) (db : Int32) (k : Nat) (n : Nat) : Int32 × Int64 × Int64 × Int64 × Nat × Int32 × (Nat → Int32) := (if (lg_cmp ((f_X8_cross nw k n).1) 0) = 0 then (if (lg_cmp ((f_X8_cross nw k n).2.1) 0) = 0 then (if (lg_cmp ((f_X8_cross nw k n).2.2) 0) = 0 then (3, ((f_X8_cross nw k n).1), ((f_X8_cross nw k n).2.1), ((f_X8_cross nw k n).2.2), ro, db, rt) else ((((nI ((f_X8_findRoots ((f_X8_cross nw k n).1) ((f_X8_cross nw k n).2.1) ((f_X8_cross nw k n).2.2) rt).1)) + (if (lg_cmp ((f_X8_cross nw k n).2.2) 0) = 0 then 1 else 0)) + (if (lg_cmp ((((f_X8_cross nw k n).1) + ((f_X8_cross nw k n).2.1)) + ((f_X8_cross nw k n).2.2)) 0) = 0 then 1 else 0)), ((f_X8_cross nw k n).1), ((f_X8_cross nw k n).2.1), ((f_X8_cross nw k n).2.2), ((f_X8_findRoots ((f_X8_cross nw k n).1) ((f_X8_cross nw k n).2.1) ((f_X8_cross nw k n).2.2) rt).1), ((f_X8_findRoots ((f_X8_cross nw k n).1) ((f_X8_cross nw k n).2.1) ((f_X8_cross nw k n).2.2) rt).2.1), ((f_X8_findRoots ((f_X8_cross nw k n).1) ((f_X8_cross nw k n).2.1) ((f_X8_cross nw k n).2.2) rt).2.2))) else ((((nI ((f_X8_findRoots ((f_X8_cross nw k n).1) ((f_X8_cross nw k n).2.1) ((f_X8_cross nw k n).2.2) rt).1)) + (if (lg_cmp ((f_X8_cross nw k n).2.2) 0) = 0 then 1 else 0)) + (if (lg_cmp ((((f_X8_cross nw k n).1) + ((f_X8_cross nw k n).2.1)) + ((f_X8_cross nw k n).2.2)) 0) = 0 then 1 else 0)), ((f_X8_cross nw k n).1), ((f_X8_cross nw k n).2.1), ((f_X8_cross nw k n).2.2), ((f_X8_findRoots ((f_X8_cross nw k n).1) ((f_X8_cross nw k n).2.1) ((f_X8_cross nw k n).2.2) rt).1), ((f_X8_findRoots ((f_X8_cross nw k n).1) ((f_X8_cross nw k n).2.1) ((f_X8_cross nw k n).2.2) rt).2.1), ((f_X8_findRoots ((f_X8_cross nw k n).1) ((f_X8_cross nw k n).2.1) ((f_X8_cross nw k n).2.2) rt).2.2))) else ((((nI ((f_X8_findRoots ((f_X8_cross nw k n).1) ((f_X8_cross nw k n).2.1) ((f_X8_cross nw k n).2.2) rt).1)) + (if (lg_cmp ((f_X8_cross nw k n).2.2) 0) = 0 then 1 else 0)) + (if (lg_cmp ((((f_X8_cross nw k n).1) + ((f_X8_cross nw k n).2.1)) + ((f_X8_cross nw k n).2.2)) 0) = 0 then 1 else 0)), ((f_X8_cross nw k n).1), ((f_X8_cross nw k n).2.1), ((f_X8_cross nw k n).2.2), ((f_X8_findRoots ((f_X8_cross nw k n).1) ((f_X8_cross nw k n).2.1) ((f_X8_cross nw k n).2.2) rt).1), ((f_X8_findRoots ((f_X8_cross nw k n).1) ((f_X8_cross nw k n).2.1) ((f_X8_cross nw k n).2.2) rt).2.1), ((f_X8_findRoots ((f_X8_cross nw k n).1) ((f_X8_cross nw k n).2.1) ((f_X8_cross nw k n).2.2) rt).2.2)))
set_option maxHeartbeats 400000000 in
set_option maxRecDepth 100000 in
theorem c_X8_zeros (l : Launch) (D : va_G) (cy : Nat → ClassId) (ta : Nat) (m_now : Nat) (m_rootWhich : Nat) (m_undone : Nat) (m_slots : Nat) (m_slotKind : Nat) (m_hasSlot : Nat) (m_sheetBits : Nat) (m_sheetSize : Nat) (m_sheets : Nat) (m_fresh : Nat) (m_signs : Nat) (m_atNought : Nat) (m_change : Nat) (m_table : Nat) (m_carried : Nat) (nw : Nat → Int32) (u : Nat) (fi : Int32) (aa : Int64) (bb : Int64) (dd : Int64) (ro : Nat) (rt : Nat → Int32) (db : Int32) (mn : Nat) (k : Nat) (n : Nat) (hn12 : nw 12 = nI n) (hn : n ≤ 8) (hn0 : 0 < n) (hk : k < 63) : yk_Ci l D vwCl (yk_ty cy) yX8_zeros wsX8_zeros 4 101 [.ref ta, .int (nI k)] [(ta, .inr (8, [.ref m_now, .ref m_undone, .ref m_slots, .ref m_slotKind, .ref m_hasSlot, .ref m_sheetBits, .ref m_sheetSize, .ref m_sheets, .int (nI u), .int fi, .ref m_fresh, .long aa, .long bb, .long dd, .int (nI ro), .ref m_rootWhich, .int db, .ref m_signs, .ref m_atNought, .int (nI mn), .ref m_change, .ref m_table, .ref m_carried])), (m_now, .inl (cy 0, 29, .inl nw)), (m_rootWhich, .inl (cy 0, 2, .inl rt))] ((f_X8_zeros nw ro rt db k n).1) [(ta, .inr (8, [.ref m_now, .ref m_undone, .ref m_slots, .ref m_slotKind, .ref m_hasSlot, .ref m_sheetBits, .ref m_sheetSize, .ref m_sheets, .int (nI u), .int fi, .ref m_fresh, .long ((f_X8_zeros nw ro rt db k n).2.1), .long ((f_X8_zeros nw ro rt db k n).2.2.1), .long ((f_X8_zeros nw ro rt db k n).2.2.2.1), .int (nI ((f_X8_zeros nw ro rt db k n).2.2.2.2.1)), .ref m_rootWhich, .int ((f_X8_zeros nw ro rt db k n).2.2.2.2.2.1), .ref m_signs, .ref m_atNought, .int (nI mn), .ref m_change, .ref m_table, .ref m_carried])), (m_now, .inl (cy 0, 29, .inl nw)), (m_rootWhich, .inl (cy 0, 2, .inl ((f_X8_zeros nw ro rt db k n).2.2.2.2.2.2)))] := by
  refine yk_eI (cc := cX8_zeros) (maxL := 2) (by decide) rfl (Nat.le_of_ble_eq_true rfl) rfl ?_
  intro p e R s m args below meth c A Q ls H locs hx hb hml hown hts hRf hRl hA hK hG hP hD hS hl hQ
  have hP : va_P D vwCl [(ta, .inr (8, [.ref m_now, .ref m_undone, .ref m_slots, .ref m_slotKind, .ref m_hasSlot, .ref m_sheetBits, .ref m_sheetSize, .ref m_sheets, .int (nI u), .int fi, .ref m_fresh, .long aa, .long bb, .long dd, .int (nI ro), .ref m_rootWhich, .int db, .ref m_signs, .ref m_atNought, .int (nI mn), .ref m_change, .ref m_table, .ref m_carried])), (m_now, .inl (cy 0, 29, .inl nw)), (m_rootWhich, .inl (cy 0, 2, .inl rt))] H := hP
  have hl : lv_has ls 2 [(0, .ref ta), (1, .int (nI k))] := hl
  have hown : s.vm.findClass RX8 = some m.cls := hown
  have hF : (f_X8_zeros nw ro rt db k n) = (f_X8_zeros nw ro rt db k n) := rfl
  refine lv_aload_n hx hb dX8_zeros_0 rfl (lv_at hl 0 rfl) ?_
  refine lv_iload_n hx hb dX8_zeros_1 rfl (lv_at hl 1 rfl) ?_
  refine yk_v [0, 1] (va_runV (As := [.int (nI k)]) (rest := []) ⟨hx, hb, hml, hown, hts⟩ (c_X8_cross l D cy ta m_now m_undone m_slots m_slotKind m_hasSlot m_sheetBits m_sheetSize m_sheets m_fresh m_rootWhich m_signs m_atNought m_change m_table m_carried nw u fi aa bb dd ro db mn k n (by first | assumption | omega) (by first | assumption | omega) (by first | assumption | omega) (by first | assumption | omega) H.size) (cwV 1 hts gX8_zeros_X8_cross rfl rfl rfl hv_X8_cross (yk_room hRf hRl rfl rfl)) (yk_pv (q := (RX8, TX8, 23)) hG hA hS hK hP hD [0, 1] (by decide +kernel) rfl rfl rfl) rfl rfl hl.1 rfl (lv_room (Nat.le_of_ble_eq_true rfl)) dX8_zeros_2 ⟨Nat.zero_le _, Nat.zero_le _⟩) hP hD hS hA rfl rfl (fun H locs hP9 hD9 hS9 => ?_)
  replace hP : va_P D vwCl [(ta, .inr (8, [.ref m_now, .ref m_undone, .ref m_slots, .ref m_slotKind, .ref m_hasSlot, .ref m_sheetBits, .ref m_sheetSize, .ref m_sheets, .int (nI u), .int fi, .ref m_fresh, .long ((f_X8_cross nw k n).1), .long ((f_X8_cross nw k n).2.1), .long ((f_X8_cross nw k n).2.2), .int (nI ro), .ref m_rootWhich, .int db, .ref m_signs, .ref m_atNought, .int (nI mn), .ref m_change, .ref m_table, .ref m_carried])), (m_now, .inl (cy 0, 29, .inl nw)), (m_rootWhich, .inl (cy 0, 2, .inl rt))] H := hP9
  replace hD : va_D A [(ta, .inr (8, [.ref m_now, .ref m_undone, .ref m_slots, .ref m_slotKind, .ref m_hasSlot, .ref m_sheetBits, .ref m_sheetSize, .ref m_sheets, .int (nI u), .int fi, .ref m_fresh, .long ((f_X8_cross nw k n).1), .long ((f_X8_cross nw k n).2.1), .long ((f_X8_cross nw k n).2.2), .int (nI ro), .ref m_rootWhich, .int db, .ref m_signs, .ref m_atNought, .int (nI mn), .ref m_change, .ref m_table, .ref m_carried])), (m_now, .inl (cy 0, 29, .inl nw)), (m_rootWhich, .inl (cy 0, 2, .inl rt))] := hD9
  replace hS := hS9
  clear hP9 hD9 hS9
  refine lv_aload_n hx hb dX8_zeros_5 rfl (lv_at hl 0 rfl) ?_
  refine va_get (D := D) (ci := 8) (v := .long ((f_X8_cross nw k n).1)) (C := RX8) (T := TX8) (N := 23) hx hb hts uX8_zeros_X8 hown hK hP 0 rfl rfl 11 (by decide) (hts _ kX8_zeros_0) (fun _ h9 => h9) rfl dX8_zeros_6 ?_
  refine lv_lconst (v := 0) hx hb dX8_zeros_9 (by decide) ?_
  refine W.lcmp hx hb dX8_zeros_10 ?_
  refine lv_if_ne (tgt := 34) hx hb dX8_zeros_11 (by decide) (fun hc1 => ?_) (fun hc1 => ?_)
  · replace hF := hF.trans (if_neg hc1)
    refine lv_aload_n hx hb dX8_zeros_34 rfl (lv_at hl 0 rfl) ?_
    refine yk_v [0, 2] (va_runV (As := []) (rest := []) ⟨hx, hb, hml, hown, hts⟩ (c_X8_findRoots l D cy ta m_rootWhich m_now m_undone m_slots m_slotKind m_hasSlot m_sheetBits m_sheetSize m_sheets m_fresh m_signs m_atNought m_change m_table m_carried u fi ((f_X8_cross nw k n).1) ((f_X8_cross nw k n).2.1) ((f_X8_cross nw k n).2.2) ro rt db mn H.size) (cwV 0 hts gX8_zeros_X8_findRoots rfl rfl rfl hv_X8_findRoots (yk_room hRf hRl rfl rfl)) (yk_pv (q := (RX8, TX8, 23)) hG hA hS hK hP hD [0, 2] (by decide +kernel) rfl rfl rfl) rfl rfl hl.1 rfl (lv_room (Nat.le_of_ble_eq_true rfl)) dX8_zeros_35 ⟨Nat.zero_le _, Nat.zero_le _⟩) hP hD hS hA rfl rfl (fun H locs hP9 hD9 hS9 => ?_)
    replace hP : va_P D vwCl [(ta, .inr (8, [.ref m_now, .ref m_undone, .ref m_slots, .ref m_slotKind, .ref m_hasSlot, .ref m_sheetBits, .ref m_sheetSize, .ref m_sheets, .int (nI u), .int fi, .ref m_fresh, .long ((f_X8_cross nw k n).1), .long ((f_X8_cross nw k n).2.1), .long ((f_X8_cross nw k n).2.2), .int (nI ((f_X8_findRoots ((f_X8_cross nw k n).1) ((f_X8_cross nw k n).2.1) ((f_X8_cross nw k n).2.2) rt).1)), .ref m_rootWhich, .int ((f_X8_findRoots ((f_X8_cross nw k n).1) ((f_X8_cross nw k n).2.1) ((f_X8_cross nw k n).2.2) rt).2.1), .ref m_signs, .ref m_atNought, .int (nI mn), .ref m_change, .ref m_table, .ref m_carried])), (m_now, .inl (cy 0, 29, .inl nw)), (m_rootWhich, .inl (cy 0, 2, .inl ((f_X8_findRoots ((f_X8_cross nw k n).1) ((f_X8_cross nw k n).2.1) ((f_X8_cross nw k n).2.2) rt).2.2)))] H := hP9
    replace hD : va_D A [(ta, .inr (8, [.ref m_now, .ref m_undone, .ref m_slots, .ref m_slotKind, .ref m_hasSlot, .ref m_sheetBits, .ref m_sheetSize, .ref m_sheets, .int (nI u), .int fi, .ref m_fresh, .long ((f_X8_cross nw k n).1), .long ((f_X8_cross nw k n).2.1), .long ((f_X8_cross nw k n).2.2), .int (nI ((f_X8_findRoots ((f_X8_cross nw k n).1) ((f_X8_cross nw k n).2.1) ((f_X8_cross nw k n).2.2) rt).1)), .ref m_rootWhich, .int ((f_X8_findRoots ((f_X8_cross nw k n).1) ((f_X8_cross nw k n).2.1) ((f_X8_cross nw k n).2.2) rt).2.1), .ref m_signs, .ref m_atNought, .int (nI mn), .ref m_change, .ref m_table, .ref m_carried])), (m_now, .inl (cy 0, 29, .inl nw)), (m_rootWhich, .inl (cy 0, 2, .inl ((f_X8_findRoots ((f_X8_cross nw k n).1) ((f_X8_cross nw k n).2.1) ((f_X8_cross nw k n).2.2) rt).2.2)))] := hD9
    replace hS := hS9
    clear hP9 hD9 hS9
    refine lv_aload_n hx hb dX8_zeros_38 rfl (lv_at hl 0 rfl) ?_
    refine va_get (D := D) (ci := 8) (v := .int (nI ((f_X8_findRoots ((f_X8_cross nw k n).1) ((f_X8_cross nw k n).2.1) ((f_X8_cross nw k n).2.2) rt).1))) (C := RX8) (T := TX8) (N := 23) hx hb hts uX8_zeros_X8 hown hK hP 0 rfl rfl 14 (by decide) (hts _ kX8_zeros_1) (fun _ h9 => h9) rfl dX8_zeros_39 ?_
    refine lv_aload_n hx hb dX8_zeros_42 rfl (lv_at hl 0 rfl) ?_
    refine va_get (D := D) (ci := 8) (v := .long ((f_X8_cross nw k n).2.2)) (C := RX8) (T := TX8) (N := 23) hx hb hts uX8_zeros_X8 hown hK hP 0 rfl rfl 13 (by decide) (hts _ kX8_zeros_2) (fun _ h9 => h9) rfl dX8_zeros_43 ?_
    refine lv_lconst (v := 0) hx hb dX8_zeros_46 (by decide) ?_
    refine W.lcmp hx hb dX8_zeros_47 ?_
    have J4 : ∀ (v3 : Int32) (H : Heap) (locs : List Loc) (ls : Array Slot), v3 = (if (lg_cmp ((f_X8_cross nw k n).2.2) 0) = 0 then 1 else 0) → va_P D vwCl [(ta, .inr (8, [.ref m_now, .ref m_undone, .ref m_slots, .ref m_slotKind, .ref m_hasSlot, .ref m_sheetBits, .ref m_sheetSize, .ref m_sheets, .int (nI u), .int fi, .ref m_fresh, .long ((f_X8_cross nw k n).1), .long ((f_X8_cross nw k n).2.1), .long ((f_X8_cross nw k n).2.2), .int (nI ((f_X8_findRoots ((f_X8_cross nw k n).1) ((f_X8_cross nw k n).2.1) ((f_X8_cross nw k n).2.2) rt).1)), .ref m_rootWhich, .int ((f_X8_findRoots ((f_X8_cross nw k n).1) ((f_X8_cross nw k n).2.1) ((f_X8_cross nw k n).2.2) rt).2.1), .ref m_signs, .ref m_atNought, .int (nI mn), .ref m_change, .ref m_table, .ref m_carried])), (m_now, .inl (cy 0, 29, .inl nw)), (m_rootWhich, .inl (cy 0, 2, .inl ((f_X8_findRoots ((f_X8_cross nw k n).1) ((f_X8_cross nw k n).2.1) ((f_X8_cross nw k n).2.2) rt).2.2)))] H → va_D A [(ta, .inr (8, [.ref m_now, .ref m_undone, .ref m_slots, .ref m_slotKind, .ref m_hasSlot, .ref m_sheetBits, .ref m_sheetSize, .ref m_sheets, .int (nI u), .int fi, .ref m_fresh, .long ((f_X8_cross nw k n).1), .long ((f_X8_cross nw k n).2.1), .long ((f_X8_cross nw k n).2.2), .int (nI ((f_X8_findRoots ((f_X8_cross nw k n).1) ((f_X8_cross nw k n).2.1) ((f_X8_cross nw k n).2.2) rt).1)), .ref m_rootWhich, .int ((f_X8_findRoots ((f_X8_cross nw k n).1) ((f_X8_cross nw k n).2.1) ((f_X8_cross nw k n).2.2) rt).2.1), .ref m_signs, .ref m_atNought, .int (nI mn), .ref m_change, .ref m_table, .ref m_carried])), (m_now, .inl (cy 0, 29, .inl nw)), (m_rootWhich, .inl (cy 0, 2, .inl ((f_X8_findRoots ((f_X8_cross nw k n).1) ((f_X8_cross nw k n).2.1) ((f_X8_cross nw k n).2.2) rt).2.2)))] → va_S A s.heap H locs → lv_has ls 2 [(0, .ref ta), (1, .int (nI k))] → W p l e R s m args below meth c H locs 0 0 Q (F0 m 56 ls [.int v3, .int (nI ((f_X8_findRoots ((f_X8_cross nw k n).1) ((f_X8_cross nw k n).2.1) ((f_X8_cross nw k n).2.2) rt).1))]) := by
      clear hP hD hS hl
      intro v3 H locs ls ev3 hP hD hS hl
      subst ev3
      refine lv_iadd hx hb dX8_zeros_56 ?_
      refine lv_aload_n hx hb dX8_zeros_57 rfl (lv_at hl 0 rfl) ?_
      refine va_get (D := D) (ci := 8) (v := .long ((f_X8_cross nw k n).1)) (C := RX8) (T := TX8) (N := 23) hx hb hts uX8_zeros_X8 hown hK hP 0 rfl rfl 11 (by decide) (hts _ kX8_zeros_0) (fun _ h9 => h9) rfl dX8_zeros_58 ?_
      refine lv_aload_n hx hb dX8_zeros_61 rfl (lv_at hl 0 rfl) ?_
      refine va_get (D := D) (ci := 8) (v := .long ((f_X8_cross nw k n).2.1)) (C := RX8) (T := TX8) (N := 23) hx hb hts uX8_zeros_X8 hown hK hP 0 rfl rfl 12 (by decide) (hts _ kX8_zeros_3) (fun _ h9 => h9) rfl dX8_zeros_62 ?_
      refine lv_ladd hx hb dX8_zeros_65 ?_
      refine lv_aload_n hx hb dX8_zeros_66 rfl (lv_at hl 0 rfl) ?_
      refine va_get (D := D) (ci := 8) (v := .long ((f_X8_cross nw k n).2.2)) (C := RX8) (T := TX8) (N := 23) hx hb hts uX8_zeros_X8 hown hK hP 0 rfl rfl 13 (by decide) (hts _ kX8_zeros_2) (fun _ h9 => h9) rfl dX8_zeros_67 ?_
      refine lv_ladd hx hb dX8_zeros_70 ?_
      refine lv_lconst (v := 0) hx hb dX8_zeros_71 (by decide) ?_
      refine W.lcmp hx hb dX8_zeros_72 ?_
      have J7 : ∀ (v6 : Int32) (H : Heap) (locs : List Loc) (ls : Array Slot), v6 = (if (lg_cmp ((((f_X8_cross nw k n).1) + ((f_X8_cross nw k n).2.1)) + ((f_X8_cross nw k n).2.2)) 0) = 0 then 1 else 0) → va_P D vwCl [(ta, .inr (8, [.ref m_now, .ref m_undone, .ref m_slots, .ref m_slotKind, .ref m_hasSlot, .ref m_sheetBits, .ref m_sheetSize, .ref m_sheets, .int (nI u), .int fi, .ref m_fresh, .long ((f_X8_cross nw k n).1), .long ((f_X8_cross nw k n).2.1), .long ((f_X8_cross nw k n).2.2), .int (nI ((f_X8_findRoots ((f_X8_cross nw k n).1) ((f_X8_cross nw k n).2.1) ((f_X8_cross nw k n).2.2) rt).1)), .ref m_rootWhich, .int ((f_X8_findRoots ((f_X8_cross nw k n).1) ((f_X8_cross nw k n).2.1) ((f_X8_cross nw k n).2.2) rt).2.1), .ref m_signs, .ref m_atNought, .int (nI mn), .ref m_change, .ref m_table, .ref m_carried])), (m_now, .inl (cy 0, 29, .inl nw)), (m_rootWhich, .inl (cy 0, 2, .inl ((f_X8_findRoots ((f_X8_cross nw k n).1) ((f_X8_cross nw k n).2.1) ((f_X8_cross nw k n).2.2) rt).2.2)))] H → va_D A [(ta, .inr (8, [.ref m_now, .ref m_undone, .ref m_slots, .ref m_slotKind, .ref m_hasSlot, .ref m_sheetBits, .ref m_sheetSize, .ref m_sheets, .int (nI u), .int fi, .ref m_fresh, .long ((f_X8_cross nw k n).1), .long ((f_X8_cross nw k n).2.1), .long ((f_X8_cross nw k n).2.2), .int (nI ((f_X8_findRoots ((f_X8_cross nw k n).1) ((f_X8_cross nw k n).2.1) ((f_X8_cross nw k n).2.2) rt).1)), .ref m_rootWhich, .int ((f_X8_findRoots ((f_X8_cross nw k n).1) ((f_X8_cross nw k n).2.1) ((f_X8_cross nw k n).2.2) rt).2.1), .ref m_signs, .ref m_atNought, .int (nI mn), .ref m_change, .ref m_table, .ref m_carried])), (m_now, .inl (cy 0, 29, .inl nw)), (m_rootWhich, .inl (cy 0, 2, .inl ((f_X8_findRoots ((f_X8_cross nw k n).1) ((f_X8_cross nw k n).2.1) ((f_X8_cross nw k n).2.2) rt).2.2)))] → va_S A s.heap H locs → lv_has ls 2 [(0, .ref ta), (1, .int (nI k))] → W p l e R s m args below meth c H locs 0 0 Q (F0 m 81 ls [.int v6, .int ((nI ((f_X8_findRoots ((f_X8_cross nw k n).1) ((f_X8_cross nw k n).2.1) ((f_X8_cross nw k n).2.2) rt).1)) + (if (lg_cmp ((f_X8_cross nw k n).2.2) 0) = 0 then 1 else 0))]) := by
        clear hP hD hS hl
        intro v6 H locs ls ev6 hP hD hS hl
        subst ev6
        refine lv_iadd hx hb dX8_zeros_81 ?_
        have hF : f_X8_zeros nw ro rt db k n = ((((nI ((f_X8_findRoots ((f_X8_cross nw k n).1) ((f_X8_cross nw k n).2.1) ((f_X8_cross nw k n).2.2) rt).1)) + (if (lg_cmp ((f_X8_cross nw k n).2.2) 0) = 0 then 1 else 0)) + (if (lg_cmp ((((f_X8_cross nw k n).1) + ((f_X8_cross nw k n).2.1)) + ((f_X8_cross nw k n).2.2)) 0) = 0 then 1 else 0)), ((f_X8_cross nw k n).1), ((f_X8_cross nw k n).2.1), ((f_X8_cross nw k n).2.2), ((f_X8_findRoots ((f_X8_cross nw k n).1) ((f_X8_cross nw k n).2.1) ((f_X8_cross nw k n).2.2) rt).1), ((f_X8_findRoots ((f_X8_cross nw k n).1) ((f_X8_cross nw k n).2.1) ((f_X8_cross nw k n).2.2) rt).2.1), ((f_X8_findRoots ((f_X8_cross nw k n).1) ((f_X8_cross nw k n).2.1) ((f_X8_cross nw k n).2.2) rt).2.2)) := hF
        have hf0 := yk_fst hF
        have hg0 := yk_snd hF
        have hf1 := yk_fst hg0
        have hg1 := yk_snd hg0
        have hf2 := yk_fst hg1
        have hg2 := yk_snd hg1
        have hf3 := yk_fst hg2
        have hg3 := yk_snd hg2
        have hf4 := yk_fst hg3
        have hg4 := yk_snd hg3
        have hf5 := yk_fst hg4
        have hg5 := yk_snd hg4
        rw [hf0, hf1, hf2, hf3, hf4, hf5, hg5] at hQ
        exact hQ _ _ _ _ dX8_zeros_82 hP hS
      refine lv_if_ne (tgt := 80) hx hb dX8_zeros_73 (by decide) (fun hc5 => ?_) (fun hc5 => ?_)
      · refine lv_iconst (v := 0) hx hb dX8_zeros_80 (by decide) ?_
        exact J7 _ _ _ _ ((if_neg hc5).symm) hP hD hS (lv_sub hl [0, 1] rfl)
      · refine lv_iconst (v := 1) hx hb dX8_zeros_76 (by decide) ?_
        refine lv_goto (tgt := 81) hx hb dX8_zeros_77 (by decide) ?_
        exact J7 _ _ _ _ ((if_pos hc5).symm) hP hD hS (lv_sub hl [0, 1] rfl)
    refine lv_if_ne (tgt := 55) hx hb dX8_zeros_48 (by decide) (fun hc2 => ?_) (fun hc2 => ?_)
    · refine lv_iconst (v := 0) hx hb dX8_zeros_55 (by decide) ?_
      exact J4 _ _ _ _ ((if_neg hc2).symm) hP hD hS (lv_sub hl [0, 1] rfl)
    · refine lv_iconst (v := 1) hx hb dX8_zeros_51 (by decide) ?_
      refine lv_goto (tgt := 56) hx hb dX8_zeros_52 (by decide) ?_
      exact J4 _ _ _ _ ((if_pos hc2).symm) hP hD hS (lv_sub hl [0, 1] rfl)
  · replace hF := hF.trans (if_pos hc1)
    refine lv_aload_n hx hb dX8_zeros_14 rfl (lv_at hl 0 rfl) ?_
    refine va_get (D := D) (ci := 8) (v := .long ((f_X8_cross nw k n).2.1)) (C := RX8) (T := TX8) (N := 23) hx hb hts uX8_zeros_X8 hown hK hP 0 rfl rfl 12 (by decide) (hts _ kX8_zeros_3) (fun _ h9 => h9) rfl dX8_zeros_15 ?_
    refine lv_lconst (v := 0) hx hb dX8_zeros_18 (by decide) ?_
    refine W.lcmp hx hb dX8_zeros_19 ?_
    refine lv_if_ne (tgt := 34) hx hb dX8_zeros_20 (by decide) (fun hc8 => ?_) (fun hc8 => ?_)
    · replace hF := hF.trans (if_neg hc8)
      refine lv_aload_n hx hb dX8_zeros_34 rfl (lv_at hl 0 rfl) ?_
      refine yk_v [0, 2] (va_runV (As := []) (rest := []) ⟨hx, hb, hml, hown, hts⟩ (c_X8_findRoots l D cy ta m_rootWhich m_now m_undone m_slots m_slotKind m_hasSlot m_sheetBits m_sheetSize m_sheets m_fresh m_signs m_atNought m_change m_table m_carried u fi ((f_X8_cross nw k n).1) ((f_X8_cross nw k n).2.1) ((f_X8_cross nw k n).2.2) ro rt db mn H.size) (cwV 0 hts gX8_zeros_X8_findRoots rfl rfl rfl hv_X8_findRoots (yk_room hRf hRl rfl rfl)) (yk_pv (q := (RX8, TX8, 23)) hG hA hS hK hP hD [0, 2] (by decide +kernel) rfl rfl rfl) rfl rfl hl.1 rfl (lv_room (Nat.le_of_ble_eq_true rfl)) dX8_zeros_35 ⟨Nat.zero_le _, Nat.zero_le _⟩) hP hD hS hA rfl rfl (fun H locs hP9 hD9 hS9 => ?_)
      replace hP : va_P D vwCl [(ta, .inr (8, [.ref m_now, .ref m_undone, .ref m_slots, .ref m_slotKind, .ref m_hasSlot, .ref m_sheetBits, .ref m_sheetSize, .ref m_sheets, .int (nI u), .int fi, .ref m_fresh, .long ((f_X8_cross nw k n).1), .long ((f_X8_cross nw k n).2.1), .long ((f_X8_cross nw k n).2.2), .int (nI ((f_X8_findRoots ((f_X8_cross nw k n).1) ((f_X8_cross nw k n).2.1) ((f_X8_cross nw k n).2.2) rt).1)), .ref m_rootWhich, .int ((f_X8_findRoots ((f_X8_cross nw k n).1) ((f_X8_cross nw k n).2.1) ((f_X8_cross nw k n).2.2) rt).2.1), .ref m_signs, .ref m_atNought, .int (nI mn), .ref m_change, .ref m_table, .ref m_carried])), (m_now, .inl (cy 0, 29, .inl nw)), (m_rootWhich, .inl (cy 0, 2, .inl ((f_X8_findRoots ((f_X8_cross nw k n).1) ((f_X8_cross nw k n).2.1) ((f_X8_cross nw k n).2.2) rt).2.2)))] H := hP9
      replace hD : va_D A [(ta, .inr (8, [.ref m_now, .ref m_undone, .ref m_slots, .ref m_slotKind, .ref m_hasSlot, .ref m_sheetBits, .ref m_sheetSize, .ref m_sheets, .int (nI u), .int fi, .ref m_fresh, .long ((f_X8_cross nw k n).1), .long ((f_X8_cross nw k n).2.1), .long ((f_X8_cross nw k n).2.2), .int (nI ((f_X8_findRoots ((f_X8_cross nw k n).1) ((f_X8_cross nw k n).2.1) ((f_X8_cross nw k n).2.2) rt).1)), .ref m_rootWhich, .int ((f_X8_findRoots ((f_X8_cross nw k n).1) ((f_X8_cross nw k n).2.1) ((f_X8_cross nw k n).2.2) rt).2.1), .ref m_signs, .ref m_atNought, .int (nI mn), .ref m_change, .ref m_table, .ref m_carried])), (m_now, .inl (cy 0, 29, .inl nw)), (m_rootWhich, .inl (cy 0, 2, .inl ((f_X8_findRoots ((f_X8_cross nw k n).1) ((f_X8_cross nw k n).2.1) ((f_X8_cross nw k n).2.2) rt).2.2)))] := hD9
      replace hS := hS9
      clear hP9 hD9 hS9
      refine lv_aload_n hx hb dX8_zeros_38 rfl (lv_at hl 0 rfl) ?_
      refine va_get (D := D) (ci := 8) (v := .int (nI ((f_X8_findRoots ((f_X8_cross nw k n).1) ((f_X8_cross nw k n).2.1) ((f_X8_cross nw k n).2.2) rt).1))) (C := RX8) (T := TX8) (N := 23) hx hb hts uX8_zeros_X8 hown hK hP 0 rfl rfl 14 (by decide) (hts _ kX8_zeros_1) (fun _ h9 => h9) rfl dX8_zeros_39 ?_
      refine lv_aload_n hx hb dX8_zeros_42 rfl (lv_at hl 0 rfl) ?_
      refine va_get (D := D) (ci := 8) (v := .long ((f_X8_cross nw k n).2.2)) (C := RX8) (T := TX8) (N := 23) hx hb hts uX8_zeros_X8 hown hK hP 0 rfl rfl 13 (by decide) (hts _ kX8_zeros_2) (fun _ h9 => h9) rfl dX8_zeros_43 ?_
      refine lv_lconst (v := 0) hx hb dX8_zeros_46 (by decide) ?_
      refine W.lcmp hx hb dX8_zeros_47 ?_
      have J11 : ∀ (v10 : Int32) (H : Heap) (locs : List Loc) (ls : Array Slot), v10 = (if (lg_cmp ((f_X8_cross nw k n).2.2) 0) = 0 then 1 else 0) → va_P D vwCl [(ta, .inr (8, [.ref m_now, .ref m_undone, .ref m_slots, .ref m_slotKind, .ref m_hasSlot, .ref m_sheetBits, .ref m_sheetSize, .ref m_sheets, .int (nI u), .int fi, .ref m_fresh, .long ((f_X8_cross nw k n).1), .long ((f_X8_cross nw k n).2.1), .long ((f_X8_cross nw k n).2.2), .int (nI ((f_X8_findRoots ((f_X8_cross nw k n).1) ((f_X8_cross nw k n).2.1) ((f_X8_cross nw k n).2.2) rt).1)), .ref m_rootWhich, .int ((f_X8_findRoots ((f_X8_cross nw k n).1) ((f_X8_cross nw k n).2.1) ((f_X8_cross nw k n).2.2) rt).2.1), .ref m_signs, .ref m_atNought, .int (nI mn), .ref m_change, .ref m_table, .ref m_carried])), (m_now, .inl (cy 0, 29, .inl nw)), (m_rootWhich, .inl (cy 0, 2, .inl ((f_X8_findRoots ((f_X8_cross nw k n).1) ((f_X8_cross nw k n).2.1) ((f_X8_cross nw k n).2.2) rt).2.2)))] H → va_D A [(ta, .inr (8, [.ref m_now, .ref m_undone, .ref m_slots, .ref m_slotKind, .ref m_hasSlot, .ref m_sheetBits, .ref m_sheetSize, .ref m_sheets, .int (nI u), .int fi, .ref m_fresh, .long ((f_X8_cross nw k n).1), .long ((f_X8_cross nw k n).2.1), .long ((f_X8_cross nw k n).2.2), .int (nI ((f_X8_findRoots ((f_X8_cross nw k n).1) ((f_X8_cross nw k n).2.1) ((f_X8_cross nw k n).2.2) rt).1)), .ref m_rootWhich, .int ((f_X8_findRoots ((f_X8_cross nw k n).1) ((f_X8_cross nw k n).2.1) ((f_X8_cross nw k n).2.2) rt).2.1), .ref m_signs, .ref m_atNought, .int (nI mn), .ref m_change, .ref m_table, .ref m_carried])), (m_now, .inl (cy 0, 29, .inl nw)), (m_rootWhich, .inl (cy 0, 2, .inl ((f_X8_findRoots ((f_X8_cross nw k n).1) ((f_X8_cross nw k n).2.1) ((f_X8_cross nw k n).2.2) rt).2.2)))] → va_S A s.heap H locs → lv_has ls 2 [(0, .ref ta), (1, .int (nI k))] → W p l e R s m args below meth c H locs 0 0 Q (F0 m 56 ls [.int v10, .int (nI ((f_X8_findRoots ((f_X8_cross nw k n).1) ((f_X8_cross nw k n).2.1) ((f_X8_cross nw k n).2.2) rt).1))]) := by
        clear hP hD hS hl
        intro v10 H locs ls ev10 hP hD hS hl
        subst ev10
        refine lv_iadd hx hb dX8_zeros_56 ?_
        refine lv_aload_n hx hb dX8_zeros_57 rfl (lv_at hl 0 rfl) ?_
        refine va_get (D := D) (ci := 8) (v := .long ((f_X8_cross nw k n).1)) (C := RX8) (T := TX8) (N := 23) hx hb hts uX8_zeros_X8 hown hK hP 0 rfl rfl 11 (by decide) (hts _ kX8_zeros_0) (fun _ h9 => h9) rfl dX8_zeros_58 ?_
        refine lv_aload_n hx hb dX8_zeros_61 rfl (lv_at hl 0 rfl) ?_
        refine va_get (D := D) (ci := 8) (v := .long ((f_X8_cross nw k n).2.1)) (C := RX8) (T := TX8) (N := 23) hx hb hts uX8_zeros_X8 hown hK hP 0 rfl rfl 12 (by decide) (hts _ kX8_zeros_3) (fun _ h9 => h9) rfl dX8_zeros_62 ?_
        refine lv_ladd hx hb dX8_zeros_65 ?_
        refine lv_aload_n hx hb dX8_zeros_66 rfl (lv_at hl 0 rfl) ?_
        refine va_get (D := D) (ci := 8) (v := .long ((f_X8_cross nw k n).2.2)) (C := RX8) (T := TX8) (N := 23) hx hb hts uX8_zeros_X8 hown hK hP 0 rfl rfl 13 (by decide) (hts _ kX8_zeros_2) (fun _ h9 => h9) rfl dX8_zeros_67 ?_
        refine lv_ladd hx hb dX8_zeros_70 ?_
        refine lv_lconst (v := 0) hx hb dX8_zeros_71 (by decide) ?_
        refine W.lcmp hx hb dX8_zeros_72 ?_
        have J14 : ∀ (v13 : Int32) (H : Heap) (locs : List Loc) (ls : Array Slot), v13 = (if (lg_cmp ((((f_X8_cross nw k n).1) + ((f_X8_cross nw k n).2.1)) + ((f_X8_cross nw k n).2.2)) 0) = 0 then 1 else 0) → va_P D vwCl [(ta, .inr (8, [.ref m_now, .ref m_undone, .ref m_slots, .ref m_slotKind, .ref m_hasSlot, .ref m_sheetBits, .ref m_sheetSize, .ref m_sheets, .int (nI u), .int fi, .ref m_fresh, .long ((f_X8_cross nw k n).1), .long ((f_X8_cross nw k n).2.1), .long ((f_X8_cross nw k n).2.2), .int (nI ((f_X8_findRoots ((f_X8_cross nw k n).1) ((f_X8_cross nw k n).2.1) ((f_X8_cross nw k n).2.2) rt).1)), .ref m_rootWhich, .int ((f_X8_findRoots ((f_X8_cross nw k n).1) ((f_X8_cross nw k n).2.1) ((f_X8_cross nw k n).2.2) rt).2.1), .ref m_signs, .ref m_atNought, .int (nI mn), .ref m_change, .ref m_table, .ref m_carried])), (m_now, .inl (cy 0, 29, .inl nw)), (m_rootWhich, .inl (cy 0, 2, .inl ((f_X8_findRoots ((f_X8_cross nw k n).1) ((f_X8_cross nw k n).2.1) ((f_X8_cross nw k n).2.2) rt).2.2)))] H → va_D A [(ta, .inr (8, [.ref m_now, .ref m_undone, .ref m_slots, .ref m_slotKind, .ref m_hasSlot, .ref m_sheetBits, .ref m_sheetSize, .ref m_sheets, .int (nI u), .int fi, .ref m_fresh, .long ((f_X8_cross nw k n).1), .long ((f_X8_cross nw k n).2.1), .long ((f_X8_cross nw k n).2.2), .int (nI ((f_X8_findRoots ((f_X8_cross nw k n).1) ((f_X8_cross nw k n).2.1) ((f_X8_cross nw k n).2.2) rt).1)), .ref m_rootWhich, .int ((f_X8_findRoots ((f_X8_cross nw k n).1) ((f_X8_cross nw k n).2.1) ((f_X8_cross nw k n).2.2) rt).2.1), .ref m_signs, .ref m_atNought, .int (nI mn), .ref m_change, .ref m_table, .ref m_carried])), (m_now, .inl (cy 0, 29, .inl nw)), (m_rootWhich, .inl (cy 0, 2, .inl ((f_X8_findRoots ((f_X8_cross nw k n).1) ((f_X8_cross nw k n).2.1) ((f_X8_cross nw k n).2.2) rt).2.2)))] → va_S A s.heap H locs → lv_has ls 2 [(0, .ref ta), (1, .int (nI k))] → W p l e R s m args below meth c H locs 0 0 Q (F0 m 81 ls [.int v13, .int ((nI ((f_X8_findRoots ((f_X8_cross nw k n).1) ((f_X8_cross nw k n).2.1) ((f_X8_cross nw k n).2.2) rt).1)) + (if (lg_cmp ((f_X8_cross nw k n).2.2) 0) = 0 then 1 else 0))]) := by
          clear hP hD hS hl
          intro v13 H locs ls ev13 hP hD hS hl
          subst ev13
          refine lv_iadd hx hb dX8_zeros_81 ?_
          have hF : f_X8_zeros nw ro rt db k n = ((((nI ((f_X8_findRoots ((f_X8_cross nw k n).1) ((f_X8_cross nw k n).2.1) ((f_X8_cross nw k n).2.2) rt).1)) + (if (lg_cmp ((f_X8_cross nw k n).2.2) 0) = 0 then 1 else 0)) + (if (lg_cmp ((((f_X8_cross nw k n).1) + ((f_X8_cross nw k n).2.1)) + ((f_X8_cross nw k n).2.2)) 0) = 0 then 1 else 0)), ((f_X8_cross nw k n).1), ((f_X8_cross nw k n).2.1), ((f_X8_cross nw k n).2.2), ((f_X8_findRoots ((f_X8_cross nw k n).1) ((f_X8_cross nw k n).2.1) ((f_X8_cross nw k n).2.2) rt).1), ((f_X8_findRoots ((f_X8_cross nw k n).1) ((f_X8_cross nw k n).2.1) ((f_X8_cross nw k n).2.2) rt).2.1), ((f_X8_findRoots ((f_X8_cross nw k n).1) ((f_X8_cross nw k n).2.1) ((f_X8_cross nw k n).2.2) rt).2.2)) := hF
          have hf0 := yk_fst hF
          have hg0 := yk_snd hF
          have hf1 := yk_fst hg0
          have hg1 := yk_snd hg0
          have hf2 := yk_fst hg1
          have hg2 := yk_snd hg1
          have hf3 := yk_fst hg2
          have hg3 := yk_snd hg2
          have hf4 := yk_fst hg3
          have hg4 := yk_snd hg3
          have hf5 := yk_fst hg4
          have hg5 := yk_snd hg4
          rw [hf0, hf1, hf2, hf3, hf4, hf5, hg5] at hQ
          exact hQ _ _ _ _ dX8_zeros_82 hP hS
        refine lv_if_ne (tgt := 80) hx hb dX8_zeros_73 (by decide) (fun hc12 => ?_) (fun hc12 => ?_)
        · refine lv_iconst (v := 0) hx hb dX8_zeros_80 (by decide) ?_
          exact J14 _ _ _ _ ((if_neg hc12).symm) hP hD hS (lv_sub hl [0, 1] rfl)
        · refine lv_iconst (v := 1) hx hb dX8_zeros_76 (by decide) ?_
          refine lv_goto (tgt := 81) hx hb dX8_zeros_77 (by decide) ?_
          exact J14 _ _ _ _ ((if_pos hc12).symm) hP hD hS (lv_sub hl [0, 1] rfl)
      refine lv_if_ne (tgt := 55) hx hb dX8_zeros_48 (by decide) (fun hc9 => ?_) (fun hc9 => ?_)
      · refine lv_iconst (v := 0) hx hb dX8_zeros_55 (by decide) ?_
        exact J11 _ _ _ _ ((if_neg hc9).symm) hP hD hS (lv_sub hl [0, 1] rfl)
      · refine lv_iconst (v := 1) hx hb dX8_zeros_51 (by decide) ?_
        refine lv_goto (tgt := 56) hx hb dX8_zeros_52 (by decide) ?_
        exact J11 _ _ _ _ ((if_pos hc9).symm) hP hD hS (lv_sub hl [0, 1] rfl)
    · replace hF := hF.trans (if_pos hc8)
      refine lv_aload_n hx hb dX8_zeros_23 rfl (lv_at hl 0 rfl) ?_
      refine va_get (D := D) (ci := 8) (v := .long ((f_X8_cross nw k n).2.2)) (C := RX8) (T := TX8) (N := 23) hx hb hts uX8_zeros_X8 hown hK hP 0 rfl rfl 13 (by decide) (hts _ kX8_zeros_2) (fun _ h9 => h9) rfl dX8_zeros_24 ?_
      refine lv_lconst (v := 0) hx hb dX8_zeros_27 (by decide) ?_
      refine W.lcmp hx hb dX8_zeros_28 ?_
      refine lv_if_ne (tgt := 34) hx hb dX8_zeros_29 (by decide) (fun hc15 => ?_) (fun hc15 => ?_)
      · replace hF := hF.trans (if_neg hc15)
        refine lv_aload_n hx hb dX8_zeros_34 rfl (lv_at hl 0 rfl) ?_
        refine yk_v [0, 2] (va_runV (As := []) (rest := []) ⟨hx, hb, hml, hown, hts⟩ (c_X8_findRoots l D cy ta m_rootWhich m_now m_undone m_slots m_slotKind m_hasSlot m_sheetBits m_sheetSize m_sheets m_fresh m_signs m_atNought m_change m_table m_carried u fi ((f_X8_cross nw k n).1) ((f_X8_cross nw k n).2.1) ((f_X8_cross nw k n).2.2) ro rt db mn H.size) (cwV 0 hts gX8_zeros_X8_findRoots rfl rfl rfl hv_X8_findRoots (yk_room hRf hRl rfl rfl)) (yk_pv (q := (RX8, TX8, 23)) hG hA hS hK hP hD [0, 2] (by decide +kernel) rfl rfl rfl) rfl rfl hl.1 rfl (lv_room (Nat.le_of_ble_eq_true rfl)) dX8_zeros_35 ⟨Nat.zero_le _, Nat.zero_le _⟩) hP hD hS hA rfl rfl (fun H locs hP9 hD9 hS9 => ?_)
        replace hP : va_P D vwCl [(ta, .inr (8, [.ref m_now, .ref m_undone, .ref m_slots, .ref m_slotKind, .ref m_hasSlot, .ref m_sheetBits, .ref m_sheetSize, .ref m_sheets, .int (nI u), .int fi, .ref m_fresh, .long ((f_X8_cross nw k n).1), .long ((f_X8_cross nw k n).2.1), .long ((f_X8_cross nw k n).2.2), .int (nI ((f_X8_findRoots ((f_X8_cross nw k n).1) ((f_X8_cross nw k n).2.1) ((f_X8_cross nw k n).2.2) rt).1)), .ref m_rootWhich, .int ((f_X8_findRoots ((f_X8_cross nw k n).1) ((f_X8_cross nw k n).2.1) ((f_X8_cross nw k n).2.2) rt).2.1), .ref m_signs, .ref m_atNought, .int (nI mn), .ref m_change, .ref m_table, .ref m_carried])), (m_now, .inl (cy 0, 29, .inl nw)), (m_rootWhich, .inl (cy 0, 2, .inl ((f_X8_findRoots ((f_X8_cross nw k n).1) ((f_X8_cross nw k n).2.1) ((f_X8_cross nw k n).2.2) rt).2.2)))] H := hP9
        replace hD : va_D A [(ta, .inr (8, [.ref m_now, .ref m_undone, .ref m_slots, .ref m_slotKind, .ref m_hasSlot, .ref m_sheetBits, .ref m_sheetSize, .ref m_sheets, .int (nI u), .int fi, .ref m_fresh, .long ((f_X8_cross nw k n).1), .long ((f_X8_cross nw k n).2.1), .long ((f_X8_cross nw k n).2.2), .int (nI ((f_X8_findRoots ((f_X8_cross nw k n).1) ((f_X8_cross nw k n).2.1) ((f_X8_cross nw k n).2.2) rt).1)), .ref m_rootWhich, .int ((f_X8_findRoots ((f_X8_cross nw k n).1) ((f_X8_cross nw k n).2.1) ((f_X8_cross nw k n).2.2) rt).2.1), .ref m_signs, .ref m_atNought, .int (nI mn), .ref m_change, .ref m_table, .ref m_carried])), (m_now, .inl (cy 0, 29, .inl nw)), (m_rootWhich, .inl (cy 0, 2, .inl ((f_X8_findRoots ((f_X8_cross nw k n).1) ((f_X8_cross nw k n).2.1) ((f_X8_cross nw k n).2.2) rt).2.2)))] := hD9
        replace hS := hS9
        clear hP9 hD9 hS9
        refine lv_aload_n hx hb dX8_zeros_38 rfl (lv_at hl 0 rfl) ?_
        refine va_get (D := D) (ci := 8) (v := .int (nI ((f_X8_findRoots ((f_X8_cross nw k n).1) ((f_X8_cross nw k n).2.1) ((f_X8_cross nw k n).2.2) rt).1))) (C := RX8) (T := TX8) (N := 23) hx hb hts uX8_zeros_X8 hown hK hP 0 rfl rfl 14 (by decide) (hts _ kX8_zeros_1) (fun _ h9 => h9) rfl dX8_zeros_39 ?_
        refine lv_aload_n hx hb dX8_zeros_42 rfl (lv_at hl 0 rfl) ?_
        refine va_get (D := D) (ci := 8) (v := .long ((f_X8_cross nw k n).2.2)) (C := RX8) (T := TX8) (N := 23) hx hb hts uX8_zeros_X8 hown hK hP 0 rfl rfl 13 (by decide) (hts _ kX8_zeros_2) (fun _ h9 => h9) rfl dX8_zeros_43 ?_
        refine lv_lconst (v := 0) hx hb dX8_zeros_46 (by decide) ?_
        refine W.lcmp hx hb dX8_zeros_47 ?_
        have J18 : ∀ (v17 : Int32) (H : Heap) (locs : List Loc) (ls : Array Slot), v17 = (if (lg_cmp ((f_X8_cross nw k n).2.2) 0) = 0 then 1 else 0) → va_P D vwCl [(ta, .inr (8, [.ref m_now, .ref m_undone, .ref m_slots, .ref m_slotKind, .ref m_hasSlot, .ref m_sheetBits, .ref m_sheetSize, .ref m_sheets, .int (nI u), .int fi, .ref m_fresh, .long ((f_X8_cross nw k n).1), .long ((f_X8_cross nw k n).2.1), .long ((f_X8_cross nw k n).2.2), .int (nI ((f_X8_findRoots ((f_X8_cross nw k n).1) ((f_X8_cross nw k n).2.1) ((f_X8_cross nw k n).2.2) rt).1)), .ref m_rootWhich, .int ((f_X8_findRoots ((f_X8_cross nw k n).1) ((f_X8_cross nw k n).2.1) ((f_X8_cross nw k n).2.2) rt).2.1), .ref m_signs, .ref m_atNought, .int (nI mn), .ref m_change, .ref m_table, .ref m_carried])), (m_now, .inl (cy 0, 29, .inl nw)), (m_rootWhich, .inl (cy 0, 2, .inl ((f_X8_findRoots ((f_X8_cross nw k n).1) ((f_X8_cross nw k n).2.1) ((f_X8_cross nw k n).2.2) rt).2.2)))] H → va_D A [(ta, .inr (8, [.ref m_now, .ref m_undone, .ref m_slots, .ref m_slotKind, .ref m_hasSlot, .ref m_sheetBits, .ref m_sheetSize, .ref m_sheets, .int (nI u), .int fi, .ref m_fresh, .long ((f_X8_cross nw k n).1), .long ((f_X8_cross nw k n).2.1), .long ((f_X8_cross nw k n).2.2), .int (nI ((f_X8_findRoots ((f_X8_cross nw k n).1) ((f_X8_cross nw k n).2.1) ((f_X8_cross nw k n).2.2) rt).1)), .ref m_rootWhich, .int ((f_X8_findRoots ((f_X8_cross nw k n).1) ((f_X8_cross nw k n).2.1) ((f_X8_cross nw k n).2.2) rt).2.1), .ref m_signs, .ref m_atNought, .int (nI mn), .ref m_change, .ref m_table, .ref m_carried])), (m_now, .inl (cy 0, 29, .inl nw)), (m_rootWhich, .inl (cy 0, 2, .inl ((f_X8_findRoots ((f_X8_cross nw k n).1) ((f_X8_cross nw k n).2.1) ((f_X8_cross nw k n).2.2) rt).2.2)))] → va_S A s.heap H locs → lv_has ls 2 [(0, .ref ta), (1, .int (nI k))] → W p l e R s m args below meth c H locs 0 0 Q (F0 m 56 ls [.int v17, .int (nI ((f_X8_findRoots ((f_X8_cross nw k n).1) ((f_X8_cross nw k n).2.1) ((f_X8_cross nw k n).2.2) rt).1))]) := by
          clear hP hD hS hl
          intro v17 H locs ls ev17 hP hD hS hl
          subst ev17
          refine lv_iadd hx hb dX8_zeros_56 ?_
          refine lv_aload_n hx hb dX8_zeros_57 rfl (lv_at hl 0 rfl) ?_
          refine va_get (D := D) (ci := 8) (v := .long ((f_X8_cross nw k n).1)) (C := RX8) (T := TX8) (N := 23) hx hb hts uX8_zeros_X8 hown hK hP 0 rfl rfl 11 (by decide) (hts _ kX8_zeros_0) (fun _ h9 => h9) rfl dX8_zeros_58 ?_
          refine lv_aload_n hx hb dX8_zeros_61 rfl (lv_at hl 0 rfl) ?_
          refine va_get (D := D) (ci := 8) (v := .long ((f_X8_cross nw k n).2.1)) (C := RX8) (T := TX8) (N := 23) hx hb hts uX8_zeros_X8 hown hK hP 0 rfl rfl 12 (by decide) (hts _ kX8_zeros_3) (fun _ h9 => h9) rfl dX8_zeros_62 ?_
          refine lv_ladd hx hb dX8_zeros_65 ?_
          refine lv_aload_n hx hb dX8_zeros_66 rfl (lv_at hl 0 rfl) ?_
          refine va_get (D := D) (ci := 8) (v := .long ((f_X8_cross nw k n).2.2)) (C := RX8) (T := TX8) (N := 23) hx hb hts uX8_zeros_X8 hown hK hP 0 rfl rfl 13 (by decide) (hts _ kX8_zeros_2) (fun _ h9 => h9) rfl dX8_zeros_67 ?_
          refine lv_ladd hx hb dX8_zeros_70 ?_
          refine lv_lconst (v := 0) hx hb dX8_zeros_71 (by decide) ?_
          refine W.lcmp hx hb dX8_zeros_72 ?_
          have J21 : ∀ (v20 : Int32) (H : Heap) (locs : List Loc) (ls : Array Slot), v20 = (if (lg_cmp ((((f_X8_cross nw k n).1) + ((f_X8_cross nw k n).2.1)) + ((f_X8_cross nw k n).2.2)) 0) = 0 then 1 else 0) → va_P D vwCl [(ta, .inr (8, [.ref m_now, .ref m_undone, .ref m_slots, .ref m_slotKind, .ref m_hasSlot, .ref m_sheetBits, .ref m_sheetSize, .ref m_sheets, .int (nI u), .int fi, .ref m_fresh, .long ((f_X8_cross nw k n).1), .long ((f_X8_cross nw k n).2.1), .long ((f_X8_cross nw k n).2.2), .int (nI ((f_X8_findRoots ((f_X8_cross nw k n).1) ((f_X8_cross nw k n).2.1) ((f_X8_cross nw k n).2.2) rt).1)), .ref m_rootWhich, .int ((f_X8_findRoots ((f_X8_cross nw k n).1) ((f_X8_cross nw k n).2.1) ((f_X8_cross nw k n).2.2) rt).2.1), .ref m_signs, .ref m_atNought, .int (nI mn), .ref m_change, .ref m_table, .ref m_carried])), (m_now, .inl (cy 0, 29, .inl nw)), (m_rootWhich, .inl (cy 0, 2, .inl ((f_X8_findRoots ((f_X8_cross nw k n).1) ((f_X8_cross nw k n).2.1) ((f_X8_cross nw k n).2.2) rt).2.2)))] H → va_D A [(ta, .inr (8, [.ref m_now, .ref m_undone, .ref m_slots, .ref m_slotKind, .ref m_hasSlot, .ref m_sheetBits, .ref m_sheetSize, .ref m_sheets, .int (nI u), .int fi, .ref m_fresh, .long ((f_X8_cross nw k n).1), .long ((f_X8_cross nw k n).2.1), .long ((f_X8_cross nw k n).2.2), .int (nI ((f_X8_findRoots ((f_X8_cross nw k n).1) ((f_X8_cross nw k n).2.1) ((f_X8_cross nw k n).2.2) rt).1)), .ref m_rootWhich, .int ((f_X8_findRoots ((f_X8_cross nw k n).1) ((f_X8_cross nw k n).2.1) ((f_X8_cross nw k n).2.2) rt).2.1), .ref m_signs, .ref m_atNought, .int (nI mn), .ref m_change, .ref m_table, .ref m_carried])), (m_now, .inl (cy 0, 29, .inl nw)), (m_rootWhich, .inl (cy 0, 2, .inl ((f_X8_findRoots ((f_X8_cross nw k n).1) ((f_X8_cross nw k n).2.1) ((f_X8_cross nw k n).2.2) rt).2.2)))] → va_S A s.heap H locs → lv_has ls 2 [(0, .ref ta), (1, .int (nI k))] → W p l e R s m args below meth c H locs 0 0 Q (F0 m 81 ls [.int v20, .int ((nI ((f_X8_findRoots ((f_X8_cross nw k n).1) ((f_X8_cross nw k n).2.1) ((f_X8_cross nw k n).2.2) rt).1)) + (if (lg_cmp ((f_X8_cross nw k n).2.2) 0) = 0 then 1 else 0))]) := by
            clear hP hD hS hl
            intro v20 H locs ls ev20 hP hD hS hl
            subst ev20
            refine lv_iadd hx hb dX8_zeros_81 ?_
            have hF : f_X8_zeros nw ro rt db k n = ((((nI ((f_X8_findRoots ((f_X8_cross nw k n).1) ((f_X8_cross nw k n).2.1) ((f_X8_cross nw k n).2.2) rt).1)) + (if (lg_cmp ((f_X8_cross nw k n).2.2) 0) = 0 then 1 else 0)) + (if (lg_cmp ((((f_X8_cross nw k n).1) + ((f_X8_cross nw k n).2.1)) + ((f_X8_cross nw k n).2.2)) 0) = 0 then 1 else 0)), ((f_X8_cross nw k n).1), ((f_X8_cross nw k n).2.1), ((f_X8_cross nw k n).2.2), ((f_X8_findRoots ((f_X8_cross nw k n).1) ((f_X8_cross nw k n).2.1) ((f_X8_cross nw k n).2.2) rt).1), ((f_X8_findRoots ((f_X8_cross nw k n).1) ((f_X8_cross nw k n).2.1) ((f_X8_cross nw k n).2.2) rt).2.1), ((f_X8_findRoots ((f_X8_cross nw k n).1) ((f_X8_cross nw k n).2.1) ((f_X8_cross nw k n).2.2) rt).2.2)) := hF
            have hf0 := yk_fst hF
            have hg0 := yk_snd hF
            have hf1 := yk_fst hg0
            have hg1 := yk_snd hg0
            have hf2 := yk_fst hg1
            have hg2 := yk_snd hg1
            have hf3 := yk_fst hg2
            have hg3 := yk_snd hg2
            have hf4 := yk_fst hg3
            have hg4 := yk_snd hg3
            have hf5 := yk_fst hg4
            have hg5 := yk_snd hg4
            rw [hf0, hf1, hf2, hf3, hf4, hf5, hg5] at hQ
            exact hQ _ _ _ _ dX8_zeros_82 hP hS
          refine lv_if_ne (tgt := 80) hx hb dX8_zeros_73 (by decide) (fun hc19 => ?_) (fun hc19 => ?_)
          · refine lv_iconst (v := 0) hx hb dX8_zeros_80 (by decide) ?_
            exact J21 _ _ _ _ ((if_neg hc19).symm) hP hD hS (lv_sub hl [0, 1] rfl)
          · refine lv_iconst (v := 1) hx hb dX8_zeros_76 (by decide) ?_
            refine lv_goto (tgt := 81) hx hb dX8_zeros_77 (by decide) ?_
            exact J21 _ _ _ _ ((if_pos hc19).symm) hP hD hS (lv_sub hl [0, 1] rfl)
        refine lv_if_ne (tgt := 55) hx hb dX8_zeros_48 (by decide) (fun hc16 => ?_) (fun hc16 => ?_)
        · refine lv_iconst (v := 0) hx hb dX8_zeros_55 (by decide) ?_
          exact J18 _ _ _ _ ((if_neg hc16).symm) hP hD hS (lv_sub hl [0, 1] rfl)
        · refine lv_iconst (v := 1) hx hb dX8_zeros_51 (by decide) ?_
          refine lv_goto (tgt := 56) hx hb dX8_zeros_52 (by decide) ?_
          exact J18 _ _ _ _ ((if_pos hc16).symm) hP hD hS (lv_sub hl [0, 1] rfl)
      · replace hF := hF.trans (if_pos hc15)
        refine lv_iconst (v := 3) hx hb dX8_zeros_32 (by decide) ?_
        have hF : f_X8_zeros nw ro rt db k n = (3, ((f_X8_cross nw k n).1), ((f_X8_cross nw k n).2.1), ((f_X8_cross nw k n).2.2), ro, db, rt) := hF
        have hf0 := yk_fst hF
        have hg0 := yk_snd hF
        have hf1 := yk_fst hg0
        have hg1 := yk_snd hg0
        have hf2 := yk_fst hg1
        have hg2 := yk_snd hg1
        have hf3 := yk_fst hg2
        have hg3 := yk_snd hg2
        have hf4 := yk_fst hg3
        have hg4 := yk_snd hg3
        have hf5 := yk_fst hg4
        have hg5 := yk_snd hg4
        rw [hf0, hf1, hf2, hf3, hf4, hf5, hg5] at hQ
        exact hQ _ _ _ _ dX8_zeros_33 hP hS

theorem kX8_acrossOf_0 : Cond.fieldLink RX8 146 "FlowPlaneModel" "c" "J" ∈ wsX8_acrossOf := by decide +kernel
theorem uX8_acrossOf_X8 : ∀ w ∈ u_ws RX8 TX8 23, w ∈ wsX8_acrossOf := by decide +kernel
def f_X8_acrossOf (nw : Nat → Int32) (ro : Nat) (rt : Nat → Int32) (db : Int32) (k : Nat) (n : Nat) : Int32 × Int64 × Int64 × Int64 × Nat × Int32 × (Nat → Int32) := ((if ((f_X8_zeros nw ro rt db k n).1) ≤ 0 then (f_X8_sign ((f_X8_zeros nw ro rt db k n).2.2.2.1)) else 0), ((f_X8_zeros nw ro rt db k n).2.1), ((f_X8_zeros nw ro rt db k n).2.2.1), ((f_X8_zeros nw ro rt db k n).2.2.2.1), ((f_X8_zeros nw ro rt db k n).2.2.2.2.1), ((f_X8_zeros nw ro rt db k n).2.2.2.2.2.1), ((f_X8_zeros nw ro rt db k n).2.2.2.2.2.2))
set_option maxHeartbeats 400000000 in
set_option maxRecDepth 100000 in
theorem c_X8_acrossOf (l : Launch) (D : va_G) (cy : Nat → ClassId) (ta : Nat) (m_now : Nat) (m_rootWhich : Nat) (m_undone : Nat) (m_slots : Nat) (m_slotKind : Nat) (m_hasSlot : Nat) (m_sheetBits : Nat) (m_sheetSize : Nat) (m_sheets : Nat) (m_fresh : Nat) (m_signs : Nat) (m_atNought : Nat) (m_change : Nat) (m_table : Nat) (m_carried : Nat) (nw : Nat → Int32) (u : Nat) (fi : Int32) (aa : Int64) (bb : Int64) (dd : Int64) (ro : Nat) (rt : Nat → Int32) (db : Int32) (mn : Nat) (k : Nat) (n : Nat) (hn12 : nw 12 = nI n) (hn : n ≤ 8) (hn0 : 0 < n) (hk : k < 63) : yk_Ci l D vwCl (yk_ty cy) yX8_acrossOf wsX8_acrossOf 5 122 [.ref ta, .int (nI k)] [(ta, .inr (8, [.ref m_now, .ref m_undone, .ref m_slots, .ref m_slotKind, .ref m_hasSlot, .ref m_sheetBits, .ref m_sheetSize, .ref m_sheets, .int (nI u), .int fi, .ref m_fresh, .long aa, .long bb, .long dd, .int (nI ro), .ref m_rootWhich, .int db, .ref m_signs, .ref m_atNought, .int (nI mn), .ref m_change, .ref m_table, .ref m_carried])), (m_now, .inl (cy 0, 29, .inl nw)), (m_rootWhich, .inl (cy 0, 2, .inl rt))] ((f_X8_acrossOf nw ro rt db k n).1) [(ta, .inr (8, [.ref m_now, .ref m_undone, .ref m_slots, .ref m_slotKind, .ref m_hasSlot, .ref m_sheetBits, .ref m_sheetSize, .ref m_sheets, .int (nI u), .int fi, .ref m_fresh, .long ((f_X8_acrossOf nw ro rt db k n).2.1), .long ((f_X8_acrossOf nw ro rt db k n).2.2.1), .long ((f_X8_acrossOf nw ro rt db k n).2.2.2.1), .int (nI ((f_X8_acrossOf nw ro rt db k n).2.2.2.2.1)), .ref m_rootWhich, .int ((f_X8_acrossOf nw ro rt db k n).2.2.2.2.2.1), .ref m_signs, .ref m_atNought, .int (nI mn), .ref m_change, .ref m_table, .ref m_carried])), (m_now, .inl (cy 0, 29, .inl nw)), (m_rootWhich, .inl (cy 0, 2, .inl ((f_X8_acrossOf nw ro rt db k n).2.2.2.2.2.2)))] := by
  refine yk_eI (cc := cX8_acrossOf) (maxL := 2) (by decide) rfl (Nat.le_of_ble_eq_true rfl) rfl ?_
  intro p e R s m args below meth c A Q ls H locs hx hb hml hown hts hRf hRl hA hK hG hP hD hS hl hQ
  have hP : va_P D vwCl [(ta, .inr (8, [.ref m_now, .ref m_undone, .ref m_slots, .ref m_slotKind, .ref m_hasSlot, .ref m_sheetBits, .ref m_sheetSize, .ref m_sheets, .int (nI u), .int fi, .ref m_fresh, .long aa, .long bb, .long dd, .int (nI ro), .ref m_rootWhich, .int db, .ref m_signs, .ref m_atNought, .int (nI mn), .ref m_change, .ref m_table, .ref m_carried])), (m_now, .inl (cy 0, 29, .inl nw)), (m_rootWhich, .inl (cy 0, 2, .inl rt))] H := hP
  have hl : lv_has ls 2 [(0, .ref ta), (1, .int (nI k))] := hl
  have hown : s.vm.findClass RX8 = some m.cls := hown
  have hF : (f_X8_acrossOf nw ro rt db k n) = (f_X8_acrossOf nw ro rt db k n) := rfl
  refine lv_aload_n hx hb dX8_acrossOf_0 rfl (lv_at hl 0 rfl) ?_
  refine lv_iload_n hx hb dX8_acrossOf_1 rfl (lv_at hl 1 rfl) ?_
  refine yk_i [0, 1, 2] (va_runV (As := [.int (nI k)]) (rest := []) ⟨hx, hb, hml, hown, hts⟩ (c_X8_zeros l D cy ta m_now m_rootWhich m_undone m_slots m_slotKind m_hasSlot m_sheetBits m_sheetSize m_sheets m_fresh m_signs m_atNought m_change m_table m_carried nw u fi aa bb dd ro rt db mn k n (by first | assumption | omega) (by first | assumption | omega) (by first | assumption | omega) (by first | assumption | omega) H.size) (cwV 1 hts gX8_acrossOf_X8_zeros rfl rfl rfl hv_X8_zeros (yk_room hRf hRl rfl rfl)) (yk_pv (q := (RX8, TX8, 23)) hG hA hS hK hP hD [0, 1, 2] (by decide +kernel) rfl rfl rfl) rfl rfl hl.1 rfl (lv_room (Nat.le_of_ble_eq_true rfl)) dX8_acrossOf_2 ⟨Nat.zero_le _, Nat.zero_le _⟩) hP hD hS hA rfl rfl (fun H locs hP9 hD9 hS9 => ?_)
  replace hP : va_P D vwCl [(ta, .inr (8, [.ref m_now, .ref m_undone, .ref m_slots, .ref m_slotKind, .ref m_hasSlot, .ref m_sheetBits, .ref m_sheetSize, .ref m_sheets, .int (nI u), .int fi, .ref m_fresh, .long ((f_X8_zeros nw ro rt db k n).2.1), .long ((f_X8_zeros nw ro rt db k n).2.2.1), .long ((f_X8_zeros nw ro rt db k n).2.2.2.1), .int (nI ((f_X8_zeros nw ro rt db k n).2.2.2.2.1)), .ref m_rootWhich, .int ((f_X8_zeros nw ro rt db k n).2.2.2.2.2.1), .ref m_signs, .ref m_atNought, .int (nI mn), .ref m_change, .ref m_table, .ref m_carried])), (m_now, .inl (cy 0, 29, .inl nw)), (m_rootWhich, .inl (cy 0, 2, .inl ((f_X8_zeros nw ro rt db k n).2.2.2.2.2.2)))] H := hP9
  replace hD : va_D A [(ta, .inr (8, [.ref m_now, .ref m_undone, .ref m_slots, .ref m_slotKind, .ref m_hasSlot, .ref m_sheetBits, .ref m_sheetSize, .ref m_sheets, .int (nI u), .int fi, .ref m_fresh, .long ((f_X8_zeros nw ro rt db k n).2.1), .long ((f_X8_zeros nw ro rt db k n).2.2.1), .long ((f_X8_zeros nw ro rt db k n).2.2.2.1), .int (nI ((f_X8_zeros nw ro rt db k n).2.2.2.2.1)), .ref m_rootWhich, .int ((f_X8_zeros nw ro rt db k n).2.2.2.2.2.1), .ref m_signs, .ref m_atNought, .int (nI mn), .ref m_change, .ref m_table, .ref m_carried])), (m_now, .inl (cy 0, 29, .inl nw)), (m_rootWhich, .inl (cy 0, 2, .inl ((f_X8_zeros nw ro rt db k n).2.2.2.2.2.2)))] := hD9
  replace hS := hS9
  clear hP9 hD9 hS9
  have J3 : ∀ (v2 : Int32) (H : Heap) (locs : List Loc) (ls : Array Slot), v2 = (if ((f_X8_zeros nw ro rt db k n).1) ≤ 0 then (f_X8_sign ((f_X8_zeros nw ro rt db k n).2.2.2.1)) else 0) → va_P D vwCl [(ta, .inr (8, [.ref m_now, .ref m_undone, .ref m_slots, .ref m_slotKind, .ref m_hasSlot, .ref m_sheetBits, .ref m_sheetSize, .ref m_sheets, .int (nI u), .int fi, .ref m_fresh, .long ((f_X8_zeros nw ro rt db k n).2.1), .long ((f_X8_zeros nw ro rt db k n).2.2.1), .long ((f_X8_zeros nw ro rt db k n).2.2.2.1), .int (nI ((f_X8_zeros nw ro rt db k n).2.2.2.2.1)), .ref m_rootWhich, .int ((f_X8_zeros nw ro rt db k n).2.2.2.2.2.1), .ref m_signs, .ref m_atNought, .int (nI mn), .ref m_change, .ref m_table, .ref m_carried])), (m_now, .inl (cy 0, 29, .inl nw)), (m_rootWhich, .inl (cy 0, 2, .inl ((f_X8_zeros nw ro rt db k n).2.2.2.2.2.2)))] H → va_D A [(ta, .inr (8, [.ref m_now, .ref m_undone, .ref m_slots, .ref m_slotKind, .ref m_hasSlot, .ref m_sheetBits, .ref m_sheetSize, .ref m_sheets, .int (nI u), .int fi, .ref m_fresh, .long ((f_X8_zeros nw ro rt db k n).2.1), .long ((f_X8_zeros nw ro rt db k n).2.2.1), .long ((f_X8_zeros nw ro rt db k n).2.2.2.1), .int (nI ((f_X8_zeros nw ro rt db k n).2.2.2.2.1)), .ref m_rootWhich, .int ((f_X8_zeros nw ro rt db k n).2.2.2.2.2.1), .ref m_signs, .ref m_atNought, .int (nI mn), .ref m_change, .ref m_table, .ref m_carried])), (m_now, .inl (cy 0, 29, .inl nw)), (m_rootWhich, .inl (cy 0, 2, .inl ((f_X8_zeros nw ro rt db k n).2.2.2.2.2.2)))] → va_S A s.heap H locs → lv_has ls 2 [(0, .ref ta), (1, .int (nI k))] → W p l e R s m args below meth c H locs 0 0 Q (F0 m 19 ls [.int v2]) := by
    clear hP hD hS hl
    intro v2 H locs ls ev2 hP hD hS hl
    subst ev2
    have hF : f_X8_acrossOf nw ro rt db k n = ((if ((f_X8_zeros nw ro rt db k n).1) ≤ 0 then (f_X8_sign ((f_X8_zeros nw ro rt db k n).2.2.2.1)) else 0), ((f_X8_zeros nw ro rt db k n).2.1), ((f_X8_zeros nw ro rt db k n).2.2.1), ((f_X8_zeros nw ro rt db k n).2.2.2.1), ((f_X8_zeros nw ro rt db k n).2.2.2.2.1), ((f_X8_zeros nw ro rt db k n).2.2.2.2.2.1), ((f_X8_zeros nw ro rt db k n).2.2.2.2.2.2)) := hF
    have hf0 := yk_fst hF
    have hg0 := yk_snd hF
    have hf1 := yk_fst hg0
    have hg1 := yk_snd hg0
    have hf2 := yk_fst hg1
    have hg2 := yk_snd hg1
    have hf3 := yk_fst hg2
    have hg3 := yk_snd hg2
    have hf4 := yk_fst hg3
    have hg4 := yk_snd hg3
    have hf5 := yk_fst hg4
    have hg5 := yk_snd hg4
    rw [hf0, hf1, hf2, hf3, hf4, hf5, hg5] at hQ
    exact hQ _ _ _ _ dX8_acrossOf_19 hP hS
  refine lv_if_le (tgt := 12) hx hb dX8_acrossOf_5 (by decide) (fun hc1 => ?_) (fun hc1 => ?_)
  · refine lv_aload_n hx hb dX8_acrossOf_12 rfl (lv_at hl 0 rfl) ?_
    refine va_get (D := D) (ci := 8) (v := .long ((f_X8_zeros nw ro rt db k n).2.2.2.1)) (C := RX8) (T := TX8) (N := 23) hx hb hts uX8_acrossOf_X8 hown hK hP 0 rfl rfl 13 (by decide) (hts _ kX8_acrossOf_0) (fun _ h9 => h9) rfl dX8_acrossOf_13 ?_
    refine yk_i [] (va_runS (As := [.long ((f_X8_zeros nw ro rt db k n).2.2.2.1)]) (rest := []) ⟨hx, hb, hml, hown, hts⟩ (c_X8_sign l D cy ((f_X8_zeros nw ro rt db k n).2.2.2.1) H.size) (va_cwS 1 hts gX8_acrossOf_X8_sign rfl rfl rfl hs_X8_sign (yk_room hRf hRl rfl rfl)) (yk_ps hG hA hS hK hP hD [] (by decide +kernel) rfl) rfl rfl hl.1 rfl (lv_room (Nat.le_of_ble_eq_true rfl)) dX8_acrossOf_16 ⟨Nat.zero_le _, Nat.zero_le _⟩) hP hD hS hA rfl rfl (fun H locs hP9 hD9 hS9 => ?_)
    replace hP : va_P D vwCl [(ta, .inr (8, [.ref m_now, .ref m_undone, .ref m_slots, .ref m_slotKind, .ref m_hasSlot, .ref m_sheetBits, .ref m_sheetSize, .ref m_sheets, .int (nI u), .int fi, .ref m_fresh, .long ((f_X8_zeros nw ro rt db k n).2.1), .long ((f_X8_zeros nw ro rt db k n).2.2.1), .long ((f_X8_zeros nw ro rt db k n).2.2.2.1), .int (nI ((f_X8_zeros nw ro rt db k n).2.2.2.2.1)), .ref m_rootWhich, .int ((f_X8_zeros nw ro rt db k n).2.2.2.2.2.1), .ref m_signs, .ref m_atNought, .int (nI mn), .ref m_change, .ref m_table, .ref m_carried])), (m_now, .inl (cy 0, 29, .inl nw)), (m_rootWhich, .inl (cy 0, 2, .inl ((f_X8_zeros nw ro rt db k n).2.2.2.2.2.2)))] H := hP9
    replace hD : va_D A [(ta, .inr (8, [.ref m_now, .ref m_undone, .ref m_slots, .ref m_slotKind, .ref m_hasSlot, .ref m_sheetBits, .ref m_sheetSize, .ref m_sheets, .int (nI u), .int fi, .ref m_fresh, .long ((f_X8_zeros nw ro rt db k n).2.1), .long ((f_X8_zeros nw ro rt db k n).2.2.1), .long ((f_X8_zeros nw ro rt db k n).2.2.2.1), .int (nI ((f_X8_zeros nw ro rt db k n).2.2.2.2.1)), .ref m_rootWhich, .int ((f_X8_zeros nw ro rt db k n).2.2.2.2.2.1), .ref m_signs, .ref m_atNought, .int (nI mn), .ref m_change, .ref m_table, .ref m_carried])), (m_now, .inl (cy 0, 29, .inl nw)), (m_rootWhich, .inl (cy 0, 2, .inl ((f_X8_zeros nw ro rt db k n).2.2.2.2.2.2)))] := hD9
    replace hS := hS9
    clear hP9 hD9 hS9
    exact J3 _ _ _ _ ((if_pos hc1).symm) hP hD hS (lv_sub hl [0, 1] rfl)
  · refine lv_iconst (v := 0) hx hb dX8_acrossOf_8 (by decide) ?_
    refine lv_goto (tgt := 19) hx hb dX8_acrossOf_9 (by decide) ?_
    exact J3 _ _ _ _ ((if_neg hc1).symm) hP hD hS (lv_sub hl [0, 1] rfl)

theorem kX8_turns_0 : Cond.constant RX8 99 (-1000003) ∈ wsX8_turns := by decide +kernel
theorem kX8_turns_1 : Cond.constant RX8 68 (-1000001) ∈ wsX8_turns := by decide +kernel
def f_X8_turns (nw : Nat → Int32) (fi : Int32) (aa : Int64) (bb : Int64) (dd : Int64) (ro : Nat) (rt : Nat → Int32) (db : Int32) (px : Int32) (n : Nat) : Int32 × Int32 × Int64 × Int64 × Int64 × Nat × Int32 × (Nat → Int32) := (if (f_X8_in px 0 ((nI n) - 1)) = 0 then (((f_X8_found fi (-1000001)).1), ((f_X8_found fi (-1000001)).2), aa, bb, dd, ro, db, rt) else (if (f_X8_xOf nw px.toNatClampNeg n) = (f_X8_xOf nw (px.toNatClampNeg + 1) n) then (if (f_X8_yOf nw px.toNatClampNeg n) = (f_X8_yOf nw (px.toNatClampNeg + 1) n) then (((f_X8_found fi (-1000003)).1), ((f_X8_found fi (-1000003)).2), aa, bb, dd, ro, db, rt) else (((f_X8_zeros nw ro rt db px.toNatClampNeg n).1), fi, ((f_X8_zeros nw ro rt db px.toNatClampNeg n).2.1), ((f_X8_zeros nw ro rt db px.toNatClampNeg n).2.2.1), ((f_X8_zeros nw ro rt db px.toNatClampNeg n).2.2.2.1), ((f_X8_zeros nw ro rt db px.toNatClampNeg n).2.2.2.2.1), ((f_X8_zeros nw ro rt db px.toNatClampNeg n).2.2.2.2.2.1), ((f_X8_zeros nw ro rt db px.toNatClampNeg n).2.2.2.2.2.2))) else (((f_X8_zeros nw ro rt db px.toNatClampNeg n).1), fi, ((f_X8_zeros nw ro rt db px.toNatClampNeg n).2.1), ((f_X8_zeros nw ro rt db px.toNatClampNeg n).2.2.1), ((f_X8_zeros nw ro rt db px.toNatClampNeg n).2.2.2.1), ((f_X8_zeros nw ro rt db px.toNatClampNeg n).2.2.2.2.1), ((f_X8_zeros nw ro rt db px.toNatClampNeg n).2.2.2.2.2.1), ((f_X8_zeros nw ro rt db px.toNatClampNeg n).2.2.2.2.2.2))))
set_option maxHeartbeats 400000000 in
set_option maxRecDepth 100000 in
theorem c_X8_turns (l : Launch) (D : va_G) (cy : Nat → ClassId) (ta : Nat) (m_now : Nat) (m_rootWhich : Nat) (m_undone : Nat) (m_slots : Nat) (m_slotKind : Nat) (m_hasSlot : Nat) (m_sheetBits : Nat) (m_sheetSize : Nat) (m_sheets : Nat) (m_fresh : Nat) (m_signs : Nat) (m_atNought : Nat) (m_change : Nat) (m_table : Nat) (m_carried : Nat) (nw : Nat → Int32) (u : Nat) (fi : Int32) (aa : Int64) (bb : Int64) (dd : Int64) (ro : Nat) (rt : Nat → Int32) (db : Int32) (mn : Nat) (px : Int32) (n : Nat) (hn12 : nw 12 = nI n) (hn : n ≤ 8) : yk_Ci l D vwCl (yk_ty cy) yX8_turns wsX8_turns 5 122 [.ref ta, .int px] [(ta, .inr (8, [.ref m_now, .ref m_undone, .ref m_slots, .ref m_slotKind, .ref m_hasSlot, .ref m_sheetBits, .ref m_sheetSize, .ref m_sheets, .int (nI u), .int fi, .ref m_fresh, .long aa, .long bb, .long dd, .int (nI ro), .ref m_rootWhich, .int db, .ref m_signs, .ref m_atNought, .int (nI mn), .ref m_change, .ref m_table, .ref m_carried])), (m_now, .inl (cy 0, 29, .inl nw)), (m_rootWhich, .inl (cy 0, 2, .inl rt))] ((f_X8_turns nw fi aa bb dd ro rt db px n).1) [(ta, .inr (8, [.ref m_now, .ref m_undone, .ref m_slots, .ref m_slotKind, .ref m_hasSlot, .ref m_sheetBits, .ref m_sheetSize, .ref m_sheets, .int (nI u), .int ((f_X8_turns nw fi aa bb dd ro rt db px n).2.1), .ref m_fresh, .long ((f_X8_turns nw fi aa bb dd ro rt db px n).2.2.1), .long ((f_X8_turns nw fi aa bb dd ro rt db px n).2.2.2.1), .long ((f_X8_turns nw fi aa bb dd ro rt db px n).2.2.2.2.1), .int (nI ((f_X8_turns nw fi aa bb dd ro rt db px n).2.2.2.2.2.1)), .ref m_rootWhich, .int ((f_X8_turns nw fi aa bb dd ro rt db px n).2.2.2.2.2.2.1), .ref m_signs, .ref m_atNought, .int (nI mn), .ref m_change, .ref m_table, .ref m_carried])), (m_now, .inl (cy 0, 29, .inl nw)), (m_rootWhich, .inl (cy 0, 2, .inl ((f_X8_turns nw fi aa bb dd ro rt db px n).2.2.2.2.2.2.2)))] := by
  refine yk_eI (cc := cX8_turns) (maxL := 2) (by decide) rfl (Nat.le_of_ble_eq_true rfl) rfl ?_
  intro p e R s m args below meth c A Q ls H locs hx hb hml hown hts hRf hRl hA hK hG hP hD hS hl hQ
  have hP : va_P D vwCl [(ta, .inr (8, [.ref m_now, .ref m_undone, .ref m_slots, .ref m_slotKind, .ref m_hasSlot, .ref m_sheetBits, .ref m_sheetSize, .ref m_sheets, .int (nI u), .int fi, .ref m_fresh, .long aa, .long bb, .long dd, .int (nI ro), .ref m_rootWhich, .int db, .ref m_signs, .ref m_atNought, .int (nI mn), .ref m_change, .ref m_table, .ref m_carried])), (m_now, .inl (cy 0, 29, .inl nw)), (m_rootWhich, .inl (cy 0, 2, .inl rt))] H := hP
  have hl : lv_has ls 2 [(0, .ref ta), (1, .int px)] := hl
  have hown : s.vm.findClass RX8 = some m.cls := hown
  have hF : (f_X8_turns nw fi aa bb dd ro rt db px n) = (f_X8_turns nw fi aa bb dd ro rt db px n) := rfl
  refine lv_iload_n hx hb dX8_turns_0 rfl (lv_at hl 1 rfl) ?_
  refine lv_iconst (v := 0) hx hb dX8_turns_1 (by decide) ?_
  refine lv_aload_n hx hb dX8_turns_2 rfl (lv_at hl 0 rfl) ?_
  refine yk_i [0, 1] (va_runV (As := []) (rest := [.int 0, .int px]) ⟨hx, hb, hml, hown, hts⟩ (c_X8_corners l D cy ta m_now m_undone m_slots m_slotKind m_hasSlot m_sheetBits m_sheetSize m_sheets m_fresh m_rootWhich m_signs m_atNought m_change m_table m_carried nw u fi aa bb dd ro db mn H.size) (cwV 0 hts gX8_turns_X8_corners rfl rfl rfl hv_X8_corners (yk_room hRf hRl rfl rfl)) (yk_pv (q := (RX8, TX8, 23)) hG hA hS hK hP hD [0, 1] (by decide +kernel) rfl rfl rfl) rfl rfl hl.1 rfl (lv_room (Nat.le_of_ble_eq_true rfl)) dX8_turns_3 ⟨Nat.zero_le _, Nat.zero_le _⟩) hP hD hS hA rfl rfl (fun H locs hP9 hD9 hS9 => ?_)
  replace hP : va_P D vwCl [(ta, .inr (8, [.ref m_now, .ref m_undone, .ref m_slots, .ref m_slotKind, .ref m_hasSlot, .ref m_sheetBits, .ref m_sheetSize, .ref m_sheets, .int (nI u), .int fi, .ref m_fresh, .long aa, .long bb, .long dd, .int (nI ro), .ref m_rootWhich, .int db, .ref m_signs, .ref m_atNought, .int (nI mn), .ref m_change, .ref m_table, .ref m_carried])), (m_now, .inl (cy 0, 29, .inl nw)), (m_rootWhich, .inl (cy 0, 2, .inl rt))] H := hP9
  replace hD : va_D A [(ta, .inr (8, [.ref m_now, .ref m_undone, .ref m_slots, .ref m_slotKind, .ref m_hasSlot, .ref m_sheetBits, .ref m_sheetSize, .ref m_sheets, .int (nI u), .int fi, .ref m_fresh, .long aa, .long bb, .long dd, .int (nI ro), .ref m_rootWhich, .int db, .ref m_signs, .ref m_atNought, .int (nI mn), .ref m_change, .ref m_table, .ref m_carried])), (m_now, .inl (cy 0, 29, .inl nw)), (m_rootWhich, .inl (cy 0, 2, .inl rt))] := hD9
  replace hS := hS9
  clear hP9 hD9 hS9
  refine yk_ti (y := nI n) (hn12) ?_
  refine lv_iconst (v := 1) hx hb dX8_turns_6 (by decide) ?_
  refine lv_isub hx hb dX8_turns_7 ?_
  refine yk_i [] (va_runS (As := [.int px, .int 0, .int ((nI n) - 1)]) (rest := []) ⟨hx, hb, hml, hown, hts⟩ (c_X8_in l D cy px 0 ((nI n) - 1) H.size) (va_cwS 3 hts gX8_turns_X8_in rfl rfl rfl hs_X8_in (yk_room hRf hRl rfl rfl)) (yk_ps hG hA hS hK hP hD [] (by decide +kernel) rfl) rfl rfl hl.1 rfl (lv_room (Nat.le_of_ble_eq_true rfl)) dX8_turns_8 ⟨Nat.zero_le _, Nat.zero_le _⟩) hP hD hS hA rfl rfl (fun H locs hP9 hD9 hS9 => ?_)
  replace hP : va_P D vwCl [(ta, .inr (8, [.ref m_now, .ref m_undone, .ref m_slots, .ref m_slotKind, .ref m_hasSlot, .ref m_sheetBits, .ref m_sheetSize, .ref m_sheets, .int (nI u), .int fi, .ref m_fresh, .long aa, .long bb, .long dd, .int (nI ro), .ref m_rootWhich, .int db, .ref m_signs, .ref m_atNought, .int (nI mn), .ref m_change, .ref m_table, .ref m_carried])), (m_now, .inl (cy 0, 29, .inl nw)), (m_rootWhich, .inl (cy 0, 2, .inl rt))] H := hP9
  replace hD : va_D A [(ta, .inr (8, [.ref m_now, .ref m_undone, .ref m_slots, .ref m_slotKind, .ref m_hasSlot, .ref m_sheetBits, .ref m_sheetSize, .ref m_sheets, .int (nI u), .int fi, .ref m_fresh, .long aa, .long bb, .long dd, .int (nI ro), .ref m_rootWhich, .int db, .ref m_signs, .ref m_atNought, .int (nI mn), .ref m_change, .ref m_table, .ref m_carried])), (m_now, .inl (cy 0, 29, .inl nw)), (m_rootWhich, .inl (cy 0, 2, .inl rt))] := hD9
  replace hS := hS9
  clear hP9 hD9 hS9
  refine lv_if_ne (tgt := 21) hx hb dX8_turns_11 (by decide) (fun hc1 => ?_) (fun hc1 => ?_)
  · replace hF := hF.trans (if_neg hc1)
    have hq2 : px = nI px.toNatClampNeg := (ix_inn hn (by assumption)).1
    have hq2b : px.toNatClampNeg < n := (ix_inn hn (by assumption)).2
    rw [hq2] at hl
    refine lv_aload_n hx hb dX8_turns_21 rfl (lv_at hl 0 rfl) ?_
    refine lv_iload_n hx hb dX8_turns_22 rfl (lv_at hl 1 rfl) ?_
    refine yk_i [0, 1] (va_runV (As := [.int (nI px.toNatClampNeg)]) (rest := []) ⟨hx, hb, hml, hown, hts⟩ (c_X8_xOf l D cy ta m_now m_undone m_slots m_slotKind m_hasSlot m_sheetBits m_sheetSize m_sheets m_fresh m_rootWhich m_signs m_atNought m_change m_table m_carried nw u fi aa bb dd ro db mn px.toNatClampNeg n (by first | assumption | omega) (by first | assumption | omega) (by first | assumption | omega) (by first | assumption | omega) H.size) (cwV 1 hts gX8_turns_X8_xOf rfl rfl rfl hv_X8_xOf (yk_room hRf hRl rfl rfl)) (yk_pv (q := (RX8, TX8, 23)) hG hA hS hK hP hD [0, 1] (by decide +kernel) rfl rfl rfl) rfl rfl hl.1 rfl (lv_room (Nat.le_of_ble_eq_true rfl)) dX8_turns_23 ⟨Nat.zero_le _, Nat.zero_le _⟩) hP hD hS hA rfl rfl (fun H locs hP9 hD9 hS9 => ?_)
    replace hP : va_P D vwCl [(ta, .inr (8, [.ref m_now, .ref m_undone, .ref m_slots, .ref m_slotKind, .ref m_hasSlot, .ref m_sheetBits, .ref m_sheetSize, .ref m_sheets, .int (nI u), .int fi, .ref m_fresh, .long aa, .long bb, .long dd, .int (nI ro), .ref m_rootWhich, .int db, .ref m_signs, .ref m_atNought, .int (nI mn), .ref m_change, .ref m_table, .ref m_carried])), (m_now, .inl (cy 0, 29, .inl nw)), (m_rootWhich, .inl (cy 0, 2, .inl rt))] H := hP9
    replace hD : va_D A [(ta, .inr (8, [.ref m_now, .ref m_undone, .ref m_slots, .ref m_slotKind, .ref m_hasSlot, .ref m_sheetBits, .ref m_sheetSize, .ref m_sheets, .int (nI u), .int fi, .ref m_fresh, .long aa, .long bb, .long dd, .int (nI ro), .ref m_rootWhich, .int db, .ref m_signs, .ref m_atNought, .int (nI mn), .ref m_change, .ref m_table, .ref m_carried])), (m_now, .inl (cy 0, 29, .inl nw)), (m_rootWhich, .inl (cy 0, 2, .inl rt))] := hD9
    replace hS := hS9
    clear hP9 hD9 hS9
    refine lv_aload_n hx hb dX8_turns_26 rfl (lv_at hl 0 rfl) ?_
    refine lv_iload_n hx hb dX8_turns_27 rfl (lv_at hl 1 rfl) ?_
    refine lv_iconst (v := 1) hx hb dX8_turns_28 (by decide) ?_
    refine lv_iadd hx hb dX8_turns_29 ?_
    refine yk_ti (y := nI (px.toNatClampNeg + 1)) (nI_add px.toNatClampNeg 1) ?_
    refine yk_i [0, 1] (va_runV (As := [.int (nI (px.toNatClampNeg + 1))]) (rest := [.int (f_X8_xOf nw px.toNatClampNeg n)]) ⟨hx, hb, hml, hown, hts⟩ (c_X8_xOf l D cy ta m_now m_undone m_slots m_slotKind m_hasSlot m_sheetBits m_sheetSize m_sheets m_fresh m_rootWhich m_signs m_atNought m_change m_table m_carried nw u fi aa bb dd ro db mn (px.toNatClampNeg + 1) n (by first | assumption | omega) (by first | assumption | omega) (by first | assumption | omega) (by first | assumption | omega) H.size) (cwV 1 hts gX8_turns_X8_xOf rfl rfl rfl hv_X8_xOf (yk_room hRf hRl rfl rfl)) (yk_pv (q := (RX8, TX8, 23)) hG hA hS hK hP hD [0, 1] (by decide +kernel) rfl rfl rfl) rfl rfl hl.1 rfl (lv_room (Nat.le_of_ble_eq_true rfl)) dX8_turns_30 ⟨Nat.zero_le _, Nat.zero_le _⟩) hP hD hS hA rfl rfl (fun H locs hP9 hD9 hS9 => ?_)
    replace hP : va_P D vwCl [(ta, .inr (8, [.ref m_now, .ref m_undone, .ref m_slots, .ref m_slotKind, .ref m_hasSlot, .ref m_sheetBits, .ref m_sheetSize, .ref m_sheets, .int (nI u), .int fi, .ref m_fresh, .long aa, .long bb, .long dd, .int (nI ro), .ref m_rootWhich, .int db, .ref m_signs, .ref m_atNought, .int (nI mn), .ref m_change, .ref m_table, .ref m_carried])), (m_now, .inl (cy 0, 29, .inl nw)), (m_rootWhich, .inl (cy 0, 2, .inl rt))] H := hP9
    replace hD : va_D A [(ta, .inr (8, [.ref m_now, .ref m_undone, .ref m_slots, .ref m_slotKind, .ref m_hasSlot, .ref m_sheetBits, .ref m_sheetSize, .ref m_sheets, .int (nI u), .int fi, .ref m_fresh, .long aa, .long bb, .long dd, .int (nI ro), .ref m_rootWhich, .int db, .ref m_signs, .ref m_atNought, .int (nI mn), .ref m_change, .ref m_table, .ref m_carried])), (m_now, .inl (cy 0, 29, .inl nw)), (m_rootWhich, .inl (cy 0, 2, .inl rt))] := hD9
    replace hS := hS9
    clear hP9 hD9 hS9
    refine lv_icmp_ne (tgt := 58) hx hb dX8_turns_33 (by decide) (fun hc3 => ?_) (fun hc3 => ?_)
    · replace hF := hF.trans (if_neg hc3)
      refine lv_aload_n hx hb dX8_turns_58 rfl (lv_at hl 0 rfl) ?_
      refine lv_iload_n hx hb dX8_turns_59 rfl (lv_at hl 1 rfl) ?_
      refine yk_i [0, 1, 2] (va_runV (As := [.int (nI px.toNatClampNeg)]) (rest := []) ⟨hx, hb, hml, hown, hts⟩ (c_X8_zeros l D cy ta m_now m_rootWhich m_undone m_slots m_slotKind m_hasSlot m_sheetBits m_sheetSize m_sheets m_fresh m_signs m_atNought m_change m_table m_carried nw u fi aa bb dd ro rt db mn px.toNatClampNeg n (by first | assumption | omega) (by first | assumption | omega) (by first | assumption | omega) (by first | assumption | omega) H.size) (cwV 1 hts gX8_turns_X8_zeros rfl rfl rfl hv_X8_zeros (yk_room hRf hRl rfl rfl)) (yk_pv (q := (RX8, TX8, 23)) hG hA hS hK hP hD [0, 1, 2] (by decide +kernel) rfl rfl rfl) rfl rfl hl.1 rfl (lv_room (Nat.le_of_ble_eq_true rfl)) dX8_turns_60 ⟨Nat.zero_le _, Nat.zero_le _⟩) hP hD hS hA rfl rfl (fun H locs hP9 hD9 hS9 => ?_)
      replace hP : va_P D vwCl [(ta, .inr (8, [.ref m_now, .ref m_undone, .ref m_slots, .ref m_slotKind, .ref m_hasSlot, .ref m_sheetBits, .ref m_sheetSize, .ref m_sheets, .int (nI u), .int fi, .ref m_fresh, .long ((f_X8_zeros nw ro rt db px.toNatClampNeg n).2.1), .long ((f_X8_zeros nw ro rt db px.toNatClampNeg n).2.2.1), .long ((f_X8_zeros nw ro rt db px.toNatClampNeg n).2.2.2.1), .int (nI ((f_X8_zeros nw ro rt db px.toNatClampNeg n).2.2.2.2.1)), .ref m_rootWhich, .int ((f_X8_zeros nw ro rt db px.toNatClampNeg n).2.2.2.2.2.1), .ref m_signs, .ref m_atNought, .int (nI mn), .ref m_change, .ref m_table, .ref m_carried])), (m_now, .inl (cy 0, 29, .inl nw)), (m_rootWhich, .inl (cy 0, 2, .inl ((f_X8_zeros nw ro rt db px.toNatClampNeg n).2.2.2.2.2.2)))] H := hP9
      replace hD : va_D A [(ta, .inr (8, [.ref m_now, .ref m_undone, .ref m_slots, .ref m_slotKind, .ref m_hasSlot, .ref m_sheetBits, .ref m_sheetSize, .ref m_sheets, .int (nI u), .int fi, .ref m_fresh, .long ((f_X8_zeros nw ro rt db px.toNatClampNeg n).2.1), .long ((f_X8_zeros nw ro rt db px.toNatClampNeg n).2.2.1), .long ((f_X8_zeros nw ro rt db px.toNatClampNeg n).2.2.2.1), .int (nI ((f_X8_zeros nw ro rt db px.toNatClampNeg n).2.2.2.2.1)), .ref m_rootWhich, .int ((f_X8_zeros nw ro rt db px.toNatClampNeg n).2.2.2.2.2.1), .ref m_signs, .ref m_atNought, .int (nI mn), .ref m_change, .ref m_table, .ref m_carried])), (m_now, .inl (cy 0, 29, .inl nw)), (m_rootWhich, .inl (cy 0, 2, .inl ((f_X8_zeros nw ro rt db px.toNatClampNeg n).2.2.2.2.2.2)))] := hD9
      replace hS := hS9
      clear hP9 hD9 hS9
      have hF : f_X8_turns nw fi aa bb dd ro rt db px n = (((f_X8_zeros nw ro rt db px.toNatClampNeg n).1), fi, ((f_X8_zeros nw ro rt db px.toNatClampNeg n).2.1), ((f_X8_zeros nw ro rt db px.toNatClampNeg n).2.2.1), ((f_X8_zeros nw ro rt db px.toNatClampNeg n).2.2.2.1), ((f_X8_zeros nw ro rt db px.toNatClampNeg n).2.2.2.2.1), ((f_X8_zeros nw ro rt db px.toNatClampNeg n).2.2.2.2.2.1), ((f_X8_zeros nw ro rt db px.toNatClampNeg n).2.2.2.2.2.2)) := hF
      have hf0 := yk_fst hF
      have hg0 := yk_snd hF
      have hf1 := yk_fst hg0
      have hg1 := yk_snd hg0
      have hf2 := yk_fst hg1
      have hg2 := yk_snd hg1
      have hf3 := yk_fst hg2
      have hg3 := yk_snd hg2
      have hf4 := yk_fst hg3
      have hg4 := yk_snd hg3
      have hf5 := yk_fst hg4
      have hg5 := yk_snd hg4
      have hf6 := yk_fst hg5
      have hg6 := yk_snd hg5
      rw [hf0, hf1, hf2, hf3, hf4, hf5, hf6, hg6] at hQ
      exact hQ _ _ _ _ dX8_turns_63 hP hS
    · replace hF := hF.trans (if_pos hc3)
      refine lv_aload_n hx hb dX8_turns_36 rfl (lv_at hl 0 rfl) ?_
      refine lv_iload_n hx hb dX8_turns_37 rfl (lv_at hl 1 rfl) ?_
      refine yk_i [0, 1] (va_runV (As := [.int (nI px.toNatClampNeg)]) (rest := []) ⟨hx, hb, hml, hown, hts⟩ (c_X8_yOf l D cy ta m_now m_undone m_slots m_slotKind m_hasSlot m_sheetBits m_sheetSize m_sheets m_fresh m_rootWhich m_signs m_atNought m_change m_table m_carried nw u fi aa bb dd ro db mn px.toNatClampNeg n (by first | assumption | omega) (by first | assumption | omega) (by first | assumption | omega) (by first | assumption | omega) H.size) (cwV 1 hts gX8_turns_X8_yOf rfl rfl rfl hv_X8_yOf (yk_room hRf hRl rfl rfl)) (yk_pv (q := (RX8, TX8, 23)) hG hA hS hK hP hD [0, 1] (by decide +kernel) rfl rfl rfl) rfl rfl hl.1 rfl (lv_room (Nat.le_of_ble_eq_true rfl)) dX8_turns_38 ⟨Nat.zero_le _, Nat.zero_le _⟩) hP hD hS hA rfl rfl (fun H locs hP9 hD9 hS9 => ?_)
      replace hP : va_P D vwCl [(ta, .inr (8, [.ref m_now, .ref m_undone, .ref m_slots, .ref m_slotKind, .ref m_hasSlot, .ref m_sheetBits, .ref m_sheetSize, .ref m_sheets, .int (nI u), .int fi, .ref m_fresh, .long aa, .long bb, .long dd, .int (nI ro), .ref m_rootWhich, .int db, .ref m_signs, .ref m_atNought, .int (nI mn), .ref m_change, .ref m_table, .ref m_carried])), (m_now, .inl (cy 0, 29, .inl nw)), (m_rootWhich, .inl (cy 0, 2, .inl rt))] H := hP9
      replace hD : va_D A [(ta, .inr (8, [.ref m_now, .ref m_undone, .ref m_slots, .ref m_slotKind, .ref m_hasSlot, .ref m_sheetBits, .ref m_sheetSize, .ref m_sheets, .int (nI u), .int fi, .ref m_fresh, .long aa, .long bb, .long dd, .int (nI ro), .ref m_rootWhich, .int db, .ref m_signs, .ref m_atNought, .int (nI mn), .ref m_change, .ref m_table, .ref m_carried])), (m_now, .inl (cy 0, 29, .inl nw)), (m_rootWhich, .inl (cy 0, 2, .inl rt))] := hD9
      replace hS := hS9
      clear hP9 hD9 hS9
      refine lv_aload_n hx hb dX8_turns_41 rfl (lv_at hl 0 rfl) ?_
      refine lv_iload_n hx hb dX8_turns_42 rfl (lv_at hl 1 rfl) ?_
      refine lv_iconst (v := 1) hx hb dX8_turns_43 (by decide) ?_
      refine lv_iadd hx hb dX8_turns_44 ?_
      refine yk_ti (y := nI (px.toNatClampNeg + 1)) (nI_add px.toNatClampNeg 1) ?_
      refine yk_i [0, 1] (va_runV (As := [.int (nI (px.toNatClampNeg + 1))]) (rest := [.int (f_X8_yOf nw px.toNatClampNeg n)]) ⟨hx, hb, hml, hown, hts⟩ (c_X8_yOf l D cy ta m_now m_undone m_slots m_slotKind m_hasSlot m_sheetBits m_sheetSize m_sheets m_fresh m_rootWhich m_signs m_atNought m_change m_table m_carried nw u fi aa bb dd ro db mn (px.toNatClampNeg + 1) n (by first | assumption | omega) (by first | assumption | omega) (by first | assumption | omega) (by first | assumption | omega) H.size) (cwV 1 hts gX8_turns_X8_yOf rfl rfl rfl hv_X8_yOf (yk_room hRf hRl rfl rfl)) (yk_pv (q := (RX8, TX8, 23)) hG hA hS hK hP hD [0, 1] (by decide +kernel) rfl rfl rfl) rfl rfl hl.1 rfl (lv_room (Nat.le_of_ble_eq_true rfl)) dX8_turns_45 ⟨Nat.zero_le _, Nat.zero_le _⟩) hP hD hS hA rfl rfl (fun H locs hP9 hD9 hS9 => ?_)
      replace hP : va_P D vwCl [(ta, .inr (8, [.ref m_now, .ref m_undone, .ref m_slots, .ref m_slotKind, .ref m_hasSlot, .ref m_sheetBits, .ref m_sheetSize, .ref m_sheets, .int (nI u), .int fi, .ref m_fresh, .long aa, .long bb, .long dd, .int (nI ro), .ref m_rootWhich, .int db, .ref m_signs, .ref m_atNought, .int (nI mn), .ref m_change, .ref m_table, .ref m_carried])), (m_now, .inl (cy 0, 29, .inl nw)), (m_rootWhich, .inl (cy 0, 2, .inl rt))] H := hP9
      replace hD : va_D A [(ta, .inr (8, [.ref m_now, .ref m_undone, .ref m_slots, .ref m_slotKind, .ref m_hasSlot, .ref m_sheetBits, .ref m_sheetSize, .ref m_sheets, .int (nI u), .int fi, .ref m_fresh, .long aa, .long bb, .long dd, .int (nI ro), .ref m_rootWhich, .int db, .ref m_signs, .ref m_atNought, .int (nI mn), .ref m_change, .ref m_table, .ref m_carried])), (m_now, .inl (cy 0, 29, .inl nw)), (m_rootWhich, .inl (cy 0, 2, .inl rt))] := hD9
      replace hS := hS9
      clear hP9 hD9 hS9
      refine lv_icmp_ne (tgt := 58) hx hb dX8_turns_48 (by decide) (fun hc4 => ?_) (fun hc4 => ?_)
      · replace hF := hF.trans (if_neg hc4)
        refine lv_aload_n hx hb dX8_turns_58 rfl (lv_at hl 0 rfl) ?_
        refine lv_iload_n hx hb dX8_turns_59 rfl (lv_at hl 1 rfl) ?_
        refine yk_i [0, 1, 2] (va_runV (As := [.int (nI px.toNatClampNeg)]) (rest := []) ⟨hx, hb, hml, hown, hts⟩ (c_X8_zeros l D cy ta m_now m_rootWhich m_undone m_slots m_slotKind m_hasSlot m_sheetBits m_sheetSize m_sheets m_fresh m_signs m_atNought m_change m_table m_carried nw u fi aa bb dd ro rt db mn px.toNatClampNeg n (by first | assumption | omega) (by first | assumption | omega) (by first | assumption | omega) (by first | assumption | omega) H.size) (cwV 1 hts gX8_turns_X8_zeros rfl rfl rfl hv_X8_zeros (yk_room hRf hRl rfl rfl)) (yk_pv (q := (RX8, TX8, 23)) hG hA hS hK hP hD [0, 1, 2] (by decide +kernel) rfl rfl rfl) rfl rfl hl.1 rfl (lv_room (Nat.le_of_ble_eq_true rfl)) dX8_turns_60 ⟨Nat.zero_le _, Nat.zero_le _⟩) hP hD hS hA rfl rfl (fun H locs hP9 hD9 hS9 => ?_)
        replace hP : va_P D vwCl [(ta, .inr (8, [.ref m_now, .ref m_undone, .ref m_slots, .ref m_slotKind, .ref m_hasSlot, .ref m_sheetBits, .ref m_sheetSize, .ref m_sheets, .int (nI u), .int fi, .ref m_fresh, .long ((f_X8_zeros nw ro rt db px.toNatClampNeg n).2.1), .long ((f_X8_zeros nw ro rt db px.toNatClampNeg n).2.2.1), .long ((f_X8_zeros nw ro rt db px.toNatClampNeg n).2.2.2.1), .int (nI ((f_X8_zeros nw ro rt db px.toNatClampNeg n).2.2.2.2.1)), .ref m_rootWhich, .int ((f_X8_zeros nw ro rt db px.toNatClampNeg n).2.2.2.2.2.1), .ref m_signs, .ref m_atNought, .int (nI mn), .ref m_change, .ref m_table, .ref m_carried])), (m_now, .inl (cy 0, 29, .inl nw)), (m_rootWhich, .inl (cy 0, 2, .inl ((f_X8_zeros nw ro rt db px.toNatClampNeg n).2.2.2.2.2.2)))] H := hP9
        replace hD : va_D A [(ta, .inr (8, [.ref m_now, .ref m_undone, .ref m_slots, .ref m_slotKind, .ref m_hasSlot, .ref m_sheetBits, .ref m_sheetSize, .ref m_sheets, .int (nI u), .int fi, .ref m_fresh, .long ((f_X8_zeros nw ro rt db px.toNatClampNeg n).2.1), .long ((f_X8_zeros nw ro rt db px.toNatClampNeg n).2.2.1), .long ((f_X8_zeros nw ro rt db px.toNatClampNeg n).2.2.2.1), .int (nI ((f_X8_zeros nw ro rt db px.toNatClampNeg n).2.2.2.2.1)), .ref m_rootWhich, .int ((f_X8_zeros nw ro rt db px.toNatClampNeg n).2.2.2.2.2.1), .ref m_signs, .ref m_atNought, .int (nI mn), .ref m_change, .ref m_table, .ref m_carried])), (m_now, .inl (cy 0, 29, .inl nw)), (m_rootWhich, .inl (cy 0, 2, .inl ((f_X8_zeros nw ro rt db px.toNatClampNeg n).2.2.2.2.2.2)))] := hD9
        replace hS := hS9
        clear hP9 hD9 hS9
        have hF : f_X8_turns nw fi aa bb dd ro rt db px n = (((f_X8_zeros nw ro rt db px.toNatClampNeg n).1), fi, ((f_X8_zeros nw ro rt db px.toNatClampNeg n).2.1), ((f_X8_zeros nw ro rt db px.toNatClampNeg n).2.2.1), ((f_X8_zeros nw ro rt db px.toNatClampNeg n).2.2.2.1), ((f_X8_zeros nw ro rt db px.toNatClampNeg n).2.2.2.2.1), ((f_X8_zeros nw ro rt db px.toNatClampNeg n).2.2.2.2.2.1), ((f_X8_zeros nw ro rt db px.toNatClampNeg n).2.2.2.2.2.2)) := hF
        have hf0 := yk_fst hF
        have hg0 := yk_snd hF
        have hf1 := yk_fst hg0
        have hg1 := yk_snd hg0
        have hf2 := yk_fst hg1
        have hg2 := yk_snd hg1
        have hf3 := yk_fst hg2
        have hg3 := yk_snd hg2
        have hf4 := yk_fst hg3
        have hg4 := yk_snd hg3
        have hf5 := yk_fst hg4
        have hg5 := yk_snd hg4
        have hf6 := yk_fst hg5
        have hg6 := yk_snd hg5
        rw [hf0, hf1, hf2, hf3, hf4, hf5, hf6, hg6] at hQ
        exact hQ _ _ _ _ dX8_turns_63 hP hS
      · replace hF := hF.trans (if_pos hc4)
        refine lv_aload_n hx hb dX8_turns_51 rfl (lv_at hl 0 rfl) ?_
        refine lv_ldc (v := (-1000003)) hx hb hown (hts _ kX8_turns_0) dX8_turns_52 ?_
        refine yk_i [0] (va_runV (As := [.int (-1000003)]) (rest := []) ⟨hx, hb, hml, hown, hts⟩ (c_X8_found l D cy ta m_now m_undone m_slots m_slotKind m_hasSlot m_sheetBits m_sheetSize m_sheets m_fresh m_rootWhich m_signs m_atNought m_change m_table m_carried u fi aa bb dd ro db mn (-1000003) H.size) (cwV 1 hts gX8_turns_X8_found rfl rfl rfl hv_X8_found (yk_room hRf hRl rfl rfl)) (yk_pv (q := (RX8, TX8, 23)) hG hA hS hK hP hD [0] (by decide +kernel) rfl rfl rfl) rfl rfl hl.1 rfl (lv_room (Nat.le_of_ble_eq_true rfl)) dX8_turns_54 ⟨Nat.zero_le _, Nat.zero_le _⟩) hP hD hS hA rfl rfl (fun H locs hP9 hD9 hS9 => ?_)
        replace hP : va_P D vwCl [(ta, .inr (8, [.ref m_now, .ref m_undone, .ref m_slots, .ref m_slotKind, .ref m_hasSlot, .ref m_sheetBits, .ref m_sheetSize, .ref m_sheets, .int (nI u), .int ((f_X8_found fi (-1000003)).2), .ref m_fresh, .long aa, .long bb, .long dd, .int (nI ro), .ref m_rootWhich, .int db, .ref m_signs, .ref m_atNought, .int (nI mn), .ref m_change, .ref m_table, .ref m_carried])), (m_now, .inl (cy 0, 29, .inl nw)), (m_rootWhich, .inl (cy 0, 2, .inl rt))] H := hP9
        replace hD : va_D A [(ta, .inr (8, [.ref m_now, .ref m_undone, .ref m_slots, .ref m_slotKind, .ref m_hasSlot, .ref m_sheetBits, .ref m_sheetSize, .ref m_sheets, .int (nI u), .int ((f_X8_found fi (-1000003)).2), .ref m_fresh, .long aa, .long bb, .long dd, .int (nI ro), .ref m_rootWhich, .int db, .ref m_signs, .ref m_atNought, .int (nI mn), .ref m_change, .ref m_table, .ref m_carried])), (m_now, .inl (cy 0, 29, .inl nw)), (m_rootWhich, .inl (cy 0, 2, .inl rt))] := hD9
        replace hS := hS9
        clear hP9 hD9 hS9
        have hF : f_X8_turns nw fi aa bb dd ro rt db px n = (((f_X8_found fi (-1000003)).1), ((f_X8_found fi (-1000003)).2), aa, bb, dd, ro, db, rt) := hF
        have hf0 := yk_fst hF
        have hg0 := yk_snd hF
        have hf1 := yk_fst hg0
        have hg1 := yk_snd hg0
        have hf2 := yk_fst hg1
        have hg2 := yk_snd hg1
        have hf3 := yk_fst hg2
        have hg3 := yk_snd hg2
        have hf4 := yk_fst hg3
        have hg4 := yk_snd hg3
        have hf5 := yk_fst hg4
        have hg5 := yk_snd hg4
        have hf6 := yk_fst hg5
        have hg6 := yk_snd hg5
        rw [hf0, hf1, hf2, hf3, hf4, hf5, hf6, hg6] at hQ
        exact hQ _ _ _ _ dX8_turns_57 hP hS
  · replace hF := hF.trans (if_pos hc1)
    refine lv_aload_n hx hb dX8_turns_14 rfl (lv_at hl 0 rfl) ?_
    refine lv_ldc (v := (-1000001)) hx hb hown (hts _ kX8_turns_1) dX8_turns_15 ?_
    refine yk_i [0] (va_runV (As := [.int (-1000001)]) (rest := []) ⟨hx, hb, hml, hown, hts⟩ (c_X8_found l D cy ta m_now m_undone m_slots m_slotKind m_hasSlot m_sheetBits m_sheetSize m_sheets m_fresh m_rootWhich m_signs m_atNought m_change m_table m_carried u fi aa bb dd ro db mn (-1000001) H.size) (cwV 1 hts gX8_turns_X8_found rfl rfl rfl hv_X8_found (yk_room hRf hRl rfl rfl)) (yk_pv (q := (RX8, TX8, 23)) hG hA hS hK hP hD [0] (by decide +kernel) rfl rfl rfl) rfl rfl hl.1 rfl (lv_room (Nat.le_of_ble_eq_true rfl)) dX8_turns_17 ⟨Nat.zero_le _, Nat.zero_le _⟩) hP hD hS hA rfl rfl (fun H locs hP9 hD9 hS9 => ?_)
    replace hP : va_P D vwCl [(ta, .inr (8, [.ref m_now, .ref m_undone, .ref m_slots, .ref m_slotKind, .ref m_hasSlot, .ref m_sheetBits, .ref m_sheetSize, .ref m_sheets, .int (nI u), .int ((f_X8_found fi (-1000001)).2), .ref m_fresh, .long aa, .long bb, .long dd, .int (nI ro), .ref m_rootWhich, .int db, .ref m_signs, .ref m_atNought, .int (nI mn), .ref m_change, .ref m_table, .ref m_carried])), (m_now, .inl (cy 0, 29, .inl nw)), (m_rootWhich, .inl (cy 0, 2, .inl rt))] H := hP9
    replace hD : va_D A [(ta, .inr (8, [.ref m_now, .ref m_undone, .ref m_slots, .ref m_slotKind, .ref m_hasSlot, .ref m_sheetBits, .ref m_sheetSize, .ref m_sheets, .int (nI u), .int ((f_X8_found fi (-1000001)).2), .ref m_fresh, .long aa, .long bb, .long dd, .int (nI ro), .ref m_rootWhich, .int db, .ref m_signs, .ref m_atNought, .int (nI mn), .ref m_change, .ref m_table, .ref m_carried])), (m_now, .inl (cy 0, 29, .inl nw)), (m_rootWhich, .inl (cy 0, 2, .inl rt))] := hD9
    replace hS := hS9
    clear hP9 hD9 hS9
    have hF : f_X8_turns nw fi aa bb dd ro rt db px n = (((f_X8_found fi (-1000001)).1), ((f_X8_found fi (-1000001)).2), aa, bb, dd, ro, db, rt) := hF
    have hf0 := yk_fst hF
    have hg0 := yk_snd hF
    have hf1 := yk_fst hg0
    have hg1 := yk_snd hg0
    have hf2 := yk_fst hg1
    have hg2 := yk_snd hg1
    have hf3 := yk_fst hg2
    have hg3 := yk_snd hg2
    have hf4 := yk_fst hg3
    have hg4 := yk_snd hg3
    have hf5 := yk_fst hg4
    have hg5 := yk_snd hg4
    have hf6 := yk_fst hg5
    have hg6 := yk_snd hg5
    rw [hf0, hf1, hf2, hf3, hf4, hf5, hf6, hg6] at hQ
    exact hQ _ _ _ _ dX8_turns_20 hP hS

theorem kX8_across_0 : Cond.constant RX8 99 (-1000003) ∈ wsX8_across := by decide +kernel
theorem kX8_across_1 : Cond.constant RX8 68 (-1000001) ∈ wsX8_across := by decide +kernel
def f_X8_across (nw : Nat → Int32) (fi : Int32) (aa : Int64) (bb : Int64) (dd : Int64) (ro : Nat) (rt : Nat → Int32) (db : Int32) (px : Int32) (n : Nat) : Int32 × Int32 × Int64 × Int64 × Int64 × Nat × Int32 × (Nat → Int32) := (if (f_X8_in px 0 ((nI n) - 1)) = 0 then (((f_X8_found fi (-1000001)).1), ((f_X8_found fi (-1000001)).2), aa, bb, dd, ro, db, rt) else (if (f_X8_xOf nw px.toNatClampNeg n) = (f_X8_xOf nw (px.toNatClampNeg + 1) n) then (if (f_X8_yOf nw px.toNatClampNeg n) = (f_X8_yOf nw (px.toNatClampNeg + 1) n) then (((f_X8_found fi (-1000003)).1), ((f_X8_found fi (-1000003)).2), aa, bb, dd, ro, db, rt) else (((f_X8_acrossOf nw ro rt db px.toNatClampNeg n).1), fi, ((f_X8_acrossOf nw ro rt db px.toNatClampNeg n).2.1), ((f_X8_acrossOf nw ro rt db px.toNatClampNeg n).2.2.1), ((f_X8_acrossOf nw ro rt db px.toNatClampNeg n).2.2.2.1), ((f_X8_acrossOf nw ro rt db px.toNatClampNeg n).2.2.2.2.1), ((f_X8_acrossOf nw ro rt db px.toNatClampNeg n).2.2.2.2.2.1), ((f_X8_acrossOf nw ro rt db px.toNatClampNeg n).2.2.2.2.2.2))) else (((f_X8_acrossOf nw ro rt db px.toNatClampNeg n).1), fi, ((f_X8_acrossOf nw ro rt db px.toNatClampNeg n).2.1), ((f_X8_acrossOf nw ro rt db px.toNatClampNeg n).2.2.1), ((f_X8_acrossOf nw ro rt db px.toNatClampNeg n).2.2.2.1), ((f_X8_acrossOf nw ro rt db px.toNatClampNeg n).2.2.2.2.1), ((f_X8_acrossOf nw ro rt db px.toNatClampNeg n).2.2.2.2.2.1), ((f_X8_acrossOf nw ro rt db px.toNatClampNeg n).2.2.2.2.2.2))))
set_option maxHeartbeats 400000000 in
set_option maxRecDepth 100000 in
theorem c_X8_across (l : Launch) (D : va_G) (cy : Nat → ClassId) (ta : Nat) (m_now : Nat) (m_rootWhich : Nat) (m_undone : Nat) (m_slots : Nat) (m_slotKind : Nat) (m_hasSlot : Nat) (m_sheetBits : Nat) (m_sheetSize : Nat) (m_sheets : Nat) (m_fresh : Nat) (m_signs : Nat) (m_atNought : Nat) (m_change : Nat) (m_table : Nat) (m_carried : Nat) (nw : Nat → Int32) (u : Nat) (fi : Int32) (aa : Int64) (bb : Int64) (dd : Int64) (ro : Nat) (rt : Nat → Int32) (db : Int32) (mn : Nat) (px : Int32) (n : Nat) (hn12 : nw 12 = nI n) (hn : n ≤ 8) : yk_Ci l D vwCl (yk_ty cy) yX8_across wsX8_across 6 143 [.ref ta, .int px] [(ta, .inr (8, [.ref m_now, .ref m_undone, .ref m_slots, .ref m_slotKind, .ref m_hasSlot, .ref m_sheetBits, .ref m_sheetSize, .ref m_sheets, .int (nI u), .int fi, .ref m_fresh, .long aa, .long bb, .long dd, .int (nI ro), .ref m_rootWhich, .int db, .ref m_signs, .ref m_atNought, .int (nI mn), .ref m_change, .ref m_table, .ref m_carried])), (m_now, .inl (cy 0, 29, .inl nw)), (m_rootWhich, .inl (cy 0, 2, .inl rt))] ((f_X8_across nw fi aa bb dd ro rt db px n).1) [(ta, .inr (8, [.ref m_now, .ref m_undone, .ref m_slots, .ref m_slotKind, .ref m_hasSlot, .ref m_sheetBits, .ref m_sheetSize, .ref m_sheets, .int (nI u), .int ((f_X8_across nw fi aa bb dd ro rt db px n).2.1), .ref m_fresh, .long ((f_X8_across nw fi aa bb dd ro rt db px n).2.2.1), .long ((f_X8_across nw fi aa bb dd ro rt db px n).2.2.2.1), .long ((f_X8_across nw fi aa bb dd ro rt db px n).2.2.2.2.1), .int (nI ((f_X8_across nw fi aa bb dd ro rt db px n).2.2.2.2.2.1)), .ref m_rootWhich, .int ((f_X8_across nw fi aa bb dd ro rt db px n).2.2.2.2.2.2.1), .ref m_signs, .ref m_atNought, .int (nI mn), .ref m_change, .ref m_table, .ref m_carried])), (m_now, .inl (cy 0, 29, .inl nw)), (m_rootWhich, .inl (cy 0, 2, .inl ((f_X8_across nw fi aa bb dd ro rt db px n).2.2.2.2.2.2.2)))] := by
  refine yk_eI (cc := cX8_across) (maxL := 2) (by decide) rfl (Nat.le_of_ble_eq_true rfl) rfl ?_
  intro p e R s m args below meth c A Q ls H locs hx hb hml hown hts hRf hRl hA hK hG hP hD hS hl hQ
  have hP : va_P D vwCl [(ta, .inr (8, [.ref m_now, .ref m_undone, .ref m_slots, .ref m_slotKind, .ref m_hasSlot, .ref m_sheetBits, .ref m_sheetSize, .ref m_sheets, .int (nI u), .int fi, .ref m_fresh, .long aa, .long bb, .long dd, .int (nI ro), .ref m_rootWhich, .int db, .ref m_signs, .ref m_atNought, .int (nI mn), .ref m_change, .ref m_table, .ref m_carried])), (m_now, .inl (cy 0, 29, .inl nw)), (m_rootWhich, .inl (cy 0, 2, .inl rt))] H := hP
  have hl : lv_has ls 2 [(0, .ref ta), (1, .int px)] := hl
  have hown : s.vm.findClass RX8 = some m.cls := hown
  have hF : (f_X8_across nw fi aa bb dd ro rt db px n) = (f_X8_across nw fi aa bb dd ro rt db px n) := rfl
  refine lv_iload_n hx hb dX8_across_0 rfl (lv_at hl 1 rfl) ?_
  refine lv_iconst (v := 0) hx hb dX8_across_1 (by decide) ?_
  refine lv_aload_n hx hb dX8_across_2 rfl (lv_at hl 0 rfl) ?_
  refine yk_i [0, 1] (va_runV (As := []) (rest := [.int 0, .int px]) ⟨hx, hb, hml, hown, hts⟩ (c_X8_corners l D cy ta m_now m_undone m_slots m_slotKind m_hasSlot m_sheetBits m_sheetSize m_sheets m_fresh m_rootWhich m_signs m_atNought m_change m_table m_carried nw u fi aa bb dd ro db mn H.size) (cwV 0 hts gX8_across_X8_corners rfl rfl rfl hv_X8_corners (yk_room hRf hRl rfl rfl)) (yk_pv (q := (RX8, TX8, 23)) hG hA hS hK hP hD [0, 1] (by decide +kernel) rfl rfl rfl) rfl rfl hl.1 rfl (lv_room (Nat.le_of_ble_eq_true rfl)) dX8_across_3 ⟨Nat.zero_le _, Nat.zero_le _⟩) hP hD hS hA rfl rfl (fun H locs hP9 hD9 hS9 => ?_)
  replace hP : va_P D vwCl [(ta, .inr (8, [.ref m_now, .ref m_undone, .ref m_slots, .ref m_slotKind, .ref m_hasSlot, .ref m_sheetBits, .ref m_sheetSize, .ref m_sheets, .int (nI u), .int fi, .ref m_fresh, .long aa, .long bb, .long dd, .int (nI ro), .ref m_rootWhich, .int db, .ref m_signs, .ref m_atNought, .int (nI mn), .ref m_change, .ref m_table, .ref m_carried])), (m_now, .inl (cy 0, 29, .inl nw)), (m_rootWhich, .inl (cy 0, 2, .inl rt))] H := hP9
  replace hD : va_D A [(ta, .inr (8, [.ref m_now, .ref m_undone, .ref m_slots, .ref m_slotKind, .ref m_hasSlot, .ref m_sheetBits, .ref m_sheetSize, .ref m_sheets, .int (nI u), .int fi, .ref m_fresh, .long aa, .long bb, .long dd, .int (nI ro), .ref m_rootWhich, .int db, .ref m_signs, .ref m_atNought, .int (nI mn), .ref m_change, .ref m_table, .ref m_carried])), (m_now, .inl (cy 0, 29, .inl nw)), (m_rootWhich, .inl (cy 0, 2, .inl rt))] := hD9
  replace hS := hS9
  clear hP9 hD9 hS9
  refine yk_ti (y := nI n) (hn12) ?_
  refine lv_iconst (v := 1) hx hb dX8_across_6 (by decide) ?_
  refine lv_isub hx hb dX8_across_7 ?_
  refine yk_i [] (va_runS (As := [.int px, .int 0, .int ((nI n) - 1)]) (rest := []) ⟨hx, hb, hml, hown, hts⟩ (c_X8_in l D cy px 0 ((nI n) - 1) H.size) (va_cwS 3 hts gX8_across_X8_in rfl rfl rfl hs_X8_in (yk_room hRf hRl rfl rfl)) (yk_ps hG hA hS hK hP hD [] (by decide +kernel) rfl) rfl rfl hl.1 rfl (lv_room (Nat.le_of_ble_eq_true rfl)) dX8_across_8 ⟨Nat.zero_le _, Nat.zero_le _⟩) hP hD hS hA rfl rfl (fun H locs hP9 hD9 hS9 => ?_)
  replace hP : va_P D vwCl [(ta, .inr (8, [.ref m_now, .ref m_undone, .ref m_slots, .ref m_slotKind, .ref m_hasSlot, .ref m_sheetBits, .ref m_sheetSize, .ref m_sheets, .int (nI u), .int fi, .ref m_fresh, .long aa, .long bb, .long dd, .int (nI ro), .ref m_rootWhich, .int db, .ref m_signs, .ref m_atNought, .int (nI mn), .ref m_change, .ref m_table, .ref m_carried])), (m_now, .inl (cy 0, 29, .inl nw)), (m_rootWhich, .inl (cy 0, 2, .inl rt))] H := hP9
  replace hD : va_D A [(ta, .inr (8, [.ref m_now, .ref m_undone, .ref m_slots, .ref m_slotKind, .ref m_hasSlot, .ref m_sheetBits, .ref m_sheetSize, .ref m_sheets, .int (nI u), .int fi, .ref m_fresh, .long aa, .long bb, .long dd, .int (nI ro), .ref m_rootWhich, .int db, .ref m_signs, .ref m_atNought, .int (nI mn), .ref m_change, .ref m_table, .ref m_carried])), (m_now, .inl (cy 0, 29, .inl nw)), (m_rootWhich, .inl (cy 0, 2, .inl rt))] := hD9
  replace hS := hS9
  clear hP9 hD9 hS9
  refine lv_if_ne (tgt := 21) hx hb dX8_across_11 (by decide) (fun hc1 => ?_) (fun hc1 => ?_)
  · replace hF := hF.trans (if_neg hc1)
    have hq2 : px = nI px.toNatClampNeg := (ix_inn hn (by assumption)).1
    have hq2b : px.toNatClampNeg < n := (ix_inn hn (by assumption)).2
    rw [hq2] at hl
    refine lv_aload_n hx hb dX8_across_21 rfl (lv_at hl 0 rfl) ?_
    refine lv_iload_n hx hb dX8_across_22 rfl (lv_at hl 1 rfl) ?_
    refine yk_i [0, 1] (va_runV (As := [.int (nI px.toNatClampNeg)]) (rest := []) ⟨hx, hb, hml, hown, hts⟩ (c_X8_xOf l D cy ta m_now m_undone m_slots m_slotKind m_hasSlot m_sheetBits m_sheetSize m_sheets m_fresh m_rootWhich m_signs m_atNought m_change m_table m_carried nw u fi aa bb dd ro db mn px.toNatClampNeg n (by first | assumption | omega) (by first | assumption | omega) (by first | assumption | omega) (by first | assumption | omega) H.size) (cwV 1 hts gX8_across_X8_xOf rfl rfl rfl hv_X8_xOf (yk_room hRf hRl rfl rfl)) (yk_pv (q := (RX8, TX8, 23)) hG hA hS hK hP hD [0, 1] (by decide +kernel) rfl rfl rfl) rfl rfl hl.1 rfl (lv_room (Nat.le_of_ble_eq_true rfl)) dX8_across_23 ⟨Nat.zero_le _, Nat.zero_le _⟩) hP hD hS hA rfl rfl (fun H locs hP9 hD9 hS9 => ?_)
    replace hP : va_P D vwCl [(ta, .inr (8, [.ref m_now, .ref m_undone, .ref m_slots, .ref m_slotKind, .ref m_hasSlot, .ref m_sheetBits, .ref m_sheetSize, .ref m_sheets, .int (nI u), .int fi, .ref m_fresh, .long aa, .long bb, .long dd, .int (nI ro), .ref m_rootWhich, .int db, .ref m_signs, .ref m_atNought, .int (nI mn), .ref m_change, .ref m_table, .ref m_carried])), (m_now, .inl (cy 0, 29, .inl nw)), (m_rootWhich, .inl (cy 0, 2, .inl rt))] H := hP9
    replace hD : va_D A [(ta, .inr (8, [.ref m_now, .ref m_undone, .ref m_slots, .ref m_slotKind, .ref m_hasSlot, .ref m_sheetBits, .ref m_sheetSize, .ref m_sheets, .int (nI u), .int fi, .ref m_fresh, .long aa, .long bb, .long dd, .int (nI ro), .ref m_rootWhich, .int db, .ref m_signs, .ref m_atNought, .int (nI mn), .ref m_change, .ref m_table, .ref m_carried])), (m_now, .inl (cy 0, 29, .inl nw)), (m_rootWhich, .inl (cy 0, 2, .inl rt))] := hD9
    replace hS := hS9
    clear hP9 hD9 hS9
    refine lv_aload_n hx hb dX8_across_26 rfl (lv_at hl 0 rfl) ?_
    refine lv_iload_n hx hb dX8_across_27 rfl (lv_at hl 1 rfl) ?_
    refine lv_iconst (v := 1) hx hb dX8_across_28 (by decide) ?_
    refine lv_iadd hx hb dX8_across_29 ?_
    refine yk_ti (y := nI (px.toNatClampNeg + 1)) (nI_add px.toNatClampNeg 1) ?_
    refine yk_i [0, 1] (va_runV (As := [.int (nI (px.toNatClampNeg + 1))]) (rest := [.int (f_X8_xOf nw px.toNatClampNeg n)]) ⟨hx, hb, hml, hown, hts⟩ (c_X8_xOf l D cy ta m_now m_undone m_slots m_slotKind m_hasSlot m_sheetBits m_sheetSize m_sheets m_fresh m_rootWhich m_signs m_atNought m_change m_table m_carried nw u fi aa bb dd ro db mn (px.toNatClampNeg + 1) n (by first | assumption | omega) (by first | assumption | omega) (by first | assumption | omega) (by first | assumption | omega) H.size) (cwV 1 hts gX8_across_X8_xOf rfl rfl rfl hv_X8_xOf (yk_room hRf hRl rfl rfl)) (yk_pv (q := (RX8, TX8, 23)) hG hA hS hK hP hD [0, 1] (by decide +kernel) rfl rfl rfl) rfl rfl hl.1 rfl (lv_room (Nat.le_of_ble_eq_true rfl)) dX8_across_30 ⟨Nat.zero_le _, Nat.zero_le _⟩) hP hD hS hA rfl rfl (fun H locs hP9 hD9 hS9 => ?_)
    replace hP : va_P D vwCl [(ta, .inr (8, [.ref m_now, .ref m_undone, .ref m_slots, .ref m_slotKind, .ref m_hasSlot, .ref m_sheetBits, .ref m_sheetSize, .ref m_sheets, .int (nI u), .int fi, .ref m_fresh, .long aa, .long bb, .long dd, .int (nI ro), .ref m_rootWhich, .int db, .ref m_signs, .ref m_atNought, .int (nI mn), .ref m_change, .ref m_table, .ref m_carried])), (m_now, .inl (cy 0, 29, .inl nw)), (m_rootWhich, .inl (cy 0, 2, .inl rt))] H := hP9
    replace hD : va_D A [(ta, .inr (8, [.ref m_now, .ref m_undone, .ref m_slots, .ref m_slotKind, .ref m_hasSlot, .ref m_sheetBits, .ref m_sheetSize, .ref m_sheets, .int (nI u), .int fi, .ref m_fresh, .long aa, .long bb, .long dd, .int (nI ro), .ref m_rootWhich, .int db, .ref m_signs, .ref m_atNought, .int (nI mn), .ref m_change, .ref m_table, .ref m_carried])), (m_now, .inl (cy 0, 29, .inl nw)), (m_rootWhich, .inl (cy 0, 2, .inl rt))] := hD9
    replace hS := hS9
    clear hP9 hD9 hS9
    refine lv_icmp_ne (tgt := 58) hx hb dX8_across_33 (by decide) (fun hc3 => ?_) (fun hc3 => ?_)
    · replace hF := hF.trans (if_neg hc3)
      refine lv_aload_n hx hb dX8_across_58 rfl (lv_at hl 0 rfl) ?_
      refine lv_iload_n hx hb dX8_across_59 rfl (lv_at hl 1 rfl) ?_
      refine yk_i [0, 1, 2] (va_runV (As := [.int (nI px.toNatClampNeg)]) (rest := []) ⟨hx, hb, hml, hown, hts⟩ (c_X8_acrossOf l D cy ta m_now m_rootWhich m_undone m_slots m_slotKind m_hasSlot m_sheetBits m_sheetSize m_sheets m_fresh m_signs m_atNought m_change m_table m_carried nw u fi aa bb dd ro rt db mn px.toNatClampNeg n (by first | assumption | omega) (by first | assumption | omega) (by first | assumption | omega) (by first | assumption | omega) H.size) (cwV 1 hts gX8_across_X8_acrossOf rfl rfl rfl hv_X8_acrossOf (yk_room hRf hRl rfl rfl)) (yk_pv (q := (RX8, TX8, 23)) hG hA hS hK hP hD [0, 1, 2] (by decide +kernel) rfl rfl rfl) rfl rfl hl.1 rfl (lv_room (Nat.le_of_ble_eq_true rfl)) dX8_across_60 ⟨Nat.zero_le _, Nat.zero_le _⟩) hP hD hS hA rfl rfl (fun H locs hP9 hD9 hS9 => ?_)
      replace hP : va_P D vwCl [(ta, .inr (8, [.ref m_now, .ref m_undone, .ref m_slots, .ref m_slotKind, .ref m_hasSlot, .ref m_sheetBits, .ref m_sheetSize, .ref m_sheets, .int (nI u), .int fi, .ref m_fresh, .long ((f_X8_acrossOf nw ro rt db px.toNatClampNeg n).2.1), .long ((f_X8_acrossOf nw ro rt db px.toNatClampNeg n).2.2.1), .long ((f_X8_acrossOf nw ro rt db px.toNatClampNeg n).2.2.2.1), .int (nI ((f_X8_acrossOf nw ro rt db px.toNatClampNeg n).2.2.2.2.1)), .ref m_rootWhich, .int ((f_X8_acrossOf nw ro rt db px.toNatClampNeg n).2.2.2.2.2.1), .ref m_signs, .ref m_atNought, .int (nI mn), .ref m_change, .ref m_table, .ref m_carried])), (m_now, .inl (cy 0, 29, .inl nw)), (m_rootWhich, .inl (cy 0, 2, .inl ((f_X8_acrossOf nw ro rt db px.toNatClampNeg n).2.2.2.2.2.2)))] H := hP9
      replace hD : va_D A [(ta, .inr (8, [.ref m_now, .ref m_undone, .ref m_slots, .ref m_slotKind, .ref m_hasSlot, .ref m_sheetBits, .ref m_sheetSize, .ref m_sheets, .int (nI u), .int fi, .ref m_fresh, .long ((f_X8_acrossOf nw ro rt db px.toNatClampNeg n).2.1), .long ((f_X8_acrossOf nw ro rt db px.toNatClampNeg n).2.2.1), .long ((f_X8_acrossOf nw ro rt db px.toNatClampNeg n).2.2.2.1), .int (nI ((f_X8_acrossOf nw ro rt db px.toNatClampNeg n).2.2.2.2.1)), .ref m_rootWhich, .int ((f_X8_acrossOf nw ro rt db px.toNatClampNeg n).2.2.2.2.2.1), .ref m_signs, .ref m_atNought, .int (nI mn), .ref m_change, .ref m_table, .ref m_carried])), (m_now, .inl (cy 0, 29, .inl nw)), (m_rootWhich, .inl (cy 0, 2, .inl ((f_X8_acrossOf nw ro rt db px.toNatClampNeg n).2.2.2.2.2.2)))] := hD9
      replace hS := hS9
      clear hP9 hD9 hS9
      have hF : f_X8_across nw fi aa bb dd ro rt db px n = (((f_X8_acrossOf nw ro rt db px.toNatClampNeg n).1), fi, ((f_X8_acrossOf nw ro rt db px.toNatClampNeg n).2.1), ((f_X8_acrossOf nw ro rt db px.toNatClampNeg n).2.2.1), ((f_X8_acrossOf nw ro rt db px.toNatClampNeg n).2.2.2.1), ((f_X8_acrossOf nw ro rt db px.toNatClampNeg n).2.2.2.2.1), ((f_X8_acrossOf nw ro rt db px.toNatClampNeg n).2.2.2.2.2.1), ((f_X8_acrossOf nw ro rt db px.toNatClampNeg n).2.2.2.2.2.2)) := hF
      have hf0 := yk_fst hF
      have hg0 := yk_snd hF
      have hf1 := yk_fst hg0
      have hg1 := yk_snd hg0
      have hf2 := yk_fst hg1
      have hg2 := yk_snd hg1
      have hf3 := yk_fst hg2
      have hg3 := yk_snd hg2
      have hf4 := yk_fst hg3
      have hg4 := yk_snd hg3
      have hf5 := yk_fst hg4
      have hg5 := yk_snd hg4
      have hf6 := yk_fst hg5
      have hg6 := yk_snd hg5
      rw [hf0, hf1, hf2, hf3, hf4, hf5, hf6, hg6] at hQ
      exact hQ _ _ _ _ dX8_across_63 hP hS
    · replace hF := hF.trans (if_pos hc3)
      refine lv_aload_n hx hb dX8_across_36 rfl (lv_at hl 0 rfl) ?_
      refine lv_iload_n hx hb dX8_across_37 rfl (lv_at hl 1 rfl) ?_
      refine yk_i [0, 1] (va_runV (As := [.int (nI px.toNatClampNeg)]) (rest := []) ⟨hx, hb, hml, hown, hts⟩ (c_X8_yOf l D cy ta m_now m_undone m_slots m_slotKind m_hasSlot m_sheetBits m_sheetSize m_sheets m_fresh m_rootWhich m_signs m_atNought m_change m_table m_carried nw u fi aa bb dd ro db mn px.toNatClampNeg n (by first | assumption | omega) (by first | assumption | omega) (by first | assumption | omega) (by first | assumption | omega) H.size) (cwV 1 hts gX8_across_X8_yOf rfl rfl rfl hv_X8_yOf (yk_room hRf hRl rfl rfl)) (yk_pv (q := (RX8, TX8, 23)) hG hA hS hK hP hD [0, 1] (by decide +kernel) rfl rfl rfl) rfl rfl hl.1 rfl (lv_room (Nat.le_of_ble_eq_true rfl)) dX8_across_38 ⟨Nat.zero_le _, Nat.zero_le _⟩) hP hD hS hA rfl rfl (fun H locs hP9 hD9 hS9 => ?_)
      replace hP : va_P D vwCl [(ta, .inr (8, [.ref m_now, .ref m_undone, .ref m_slots, .ref m_slotKind, .ref m_hasSlot, .ref m_sheetBits, .ref m_sheetSize, .ref m_sheets, .int (nI u), .int fi, .ref m_fresh, .long aa, .long bb, .long dd, .int (nI ro), .ref m_rootWhich, .int db, .ref m_signs, .ref m_atNought, .int (nI mn), .ref m_change, .ref m_table, .ref m_carried])), (m_now, .inl (cy 0, 29, .inl nw)), (m_rootWhich, .inl (cy 0, 2, .inl rt))] H := hP9
      replace hD : va_D A [(ta, .inr (8, [.ref m_now, .ref m_undone, .ref m_slots, .ref m_slotKind, .ref m_hasSlot, .ref m_sheetBits, .ref m_sheetSize, .ref m_sheets, .int (nI u), .int fi, .ref m_fresh, .long aa, .long bb, .long dd, .int (nI ro), .ref m_rootWhich, .int db, .ref m_signs, .ref m_atNought, .int (nI mn), .ref m_change, .ref m_table, .ref m_carried])), (m_now, .inl (cy 0, 29, .inl nw)), (m_rootWhich, .inl (cy 0, 2, .inl rt))] := hD9
      replace hS := hS9
      clear hP9 hD9 hS9
      refine lv_aload_n hx hb dX8_across_41 rfl (lv_at hl 0 rfl) ?_
      refine lv_iload_n hx hb dX8_across_42 rfl (lv_at hl 1 rfl) ?_
      refine lv_iconst (v := 1) hx hb dX8_across_43 (by decide) ?_
      refine lv_iadd hx hb dX8_across_44 ?_
      refine yk_ti (y := nI (px.toNatClampNeg + 1)) (nI_add px.toNatClampNeg 1) ?_
      refine yk_i [0, 1] (va_runV (As := [.int (nI (px.toNatClampNeg + 1))]) (rest := [.int (f_X8_yOf nw px.toNatClampNeg n)]) ⟨hx, hb, hml, hown, hts⟩ (c_X8_yOf l D cy ta m_now m_undone m_slots m_slotKind m_hasSlot m_sheetBits m_sheetSize m_sheets m_fresh m_rootWhich m_signs m_atNought m_change m_table m_carried nw u fi aa bb dd ro db mn (px.toNatClampNeg + 1) n (by first | assumption | omega) (by first | assumption | omega) (by first | assumption | omega) (by first | assumption | omega) H.size) (cwV 1 hts gX8_across_X8_yOf rfl rfl rfl hv_X8_yOf (yk_room hRf hRl rfl rfl)) (yk_pv (q := (RX8, TX8, 23)) hG hA hS hK hP hD [0, 1] (by decide +kernel) rfl rfl rfl) rfl rfl hl.1 rfl (lv_room (Nat.le_of_ble_eq_true rfl)) dX8_across_45 ⟨Nat.zero_le _, Nat.zero_le _⟩) hP hD hS hA rfl rfl (fun H locs hP9 hD9 hS9 => ?_)
      replace hP : va_P D vwCl [(ta, .inr (8, [.ref m_now, .ref m_undone, .ref m_slots, .ref m_slotKind, .ref m_hasSlot, .ref m_sheetBits, .ref m_sheetSize, .ref m_sheets, .int (nI u), .int fi, .ref m_fresh, .long aa, .long bb, .long dd, .int (nI ro), .ref m_rootWhich, .int db, .ref m_signs, .ref m_atNought, .int (nI mn), .ref m_change, .ref m_table, .ref m_carried])), (m_now, .inl (cy 0, 29, .inl nw)), (m_rootWhich, .inl (cy 0, 2, .inl rt))] H := hP9
      replace hD : va_D A [(ta, .inr (8, [.ref m_now, .ref m_undone, .ref m_slots, .ref m_slotKind, .ref m_hasSlot, .ref m_sheetBits, .ref m_sheetSize, .ref m_sheets, .int (nI u), .int fi, .ref m_fresh, .long aa, .long bb, .long dd, .int (nI ro), .ref m_rootWhich, .int db, .ref m_signs, .ref m_atNought, .int (nI mn), .ref m_change, .ref m_table, .ref m_carried])), (m_now, .inl (cy 0, 29, .inl nw)), (m_rootWhich, .inl (cy 0, 2, .inl rt))] := hD9
      replace hS := hS9
      clear hP9 hD9 hS9
      refine lv_icmp_ne (tgt := 58) hx hb dX8_across_48 (by decide) (fun hc4 => ?_) (fun hc4 => ?_)
      · replace hF := hF.trans (if_neg hc4)
        refine lv_aload_n hx hb dX8_across_58 rfl (lv_at hl 0 rfl) ?_
        refine lv_iload_n hx hb dX8_across_59 rfl (lv_at hl 1 rfl) ?_
        refine yk_i [0, 1, 2] (va_runV (As := [.int (nI px.toNatClampNeg)]) (rest := []) ⟨hx, hb, hml, hown, hts⟩ (c_X8_acrossOf l D cy ta m_now m_rootWhich m_undone m_slots m_slotKind m_hasSlot m_sheetBits m_sheetSize m_sheets m_fresh m_signs m_atNought m_change m_table m_carried nw u fi aa bb dd ro rt db mn px.toNatClampNeg n (by first | assumption | omega) (by first | assumption | omega) (by first | assumption | omega) (by first | assumption | omega) H.size) (cwV 1 hts gX8_across_X8_acrossOf rfl rfl rfl hv_X8_acrossOf (yk_room hRf hRl rfl rfl)) (yk_pv (q := (RX8, TX8, 23)) hG hA hS hK hP hD [0, 1, 2] (by decide +kernel) rfl rfl rfl) rfl rfl hl.1 rfl (lv_room (Nat.le_of_ble_eq_true rfl)) dX8_across_60 ⟨Nat.zero_le _, Nat.zero_le _⟩) hP hD hS hA rfl rfl (fun H locs hP9 hD9 hS9 => ?_)
        replace hP : va_P D vwCl [(ta, .inr (8, [.ref m_now, .ref m_undone, .ref m_slots, .ref m_slotKind, .ref m_hasSlot, .ref m_sheetBits, .ref m_sheetSize, .ref m_sheets, .int (nI u), .int fi, .ref m_fresh, .long ((f_X8_acrossOf nw ro rt db px.toNatClampNeg n).2.1), .long ((f_X8_acrossOf nw ro rt db px.toNatClampNeg n).2.2.1), .long ((f_X8_acrossOf nw ro rt db px.toNatClampNeg n).2.2.2.1), .int (nI ((f_X8_acrossOf nw ro rt db px.toNatClampNeg n).2.2.2.2.1)), .ref m_rootWhich, .int ((f_X8_acrossOf nw ro rt db px.toNatClampNeg n).2.2.2.2.2.1), .ref m_signs, .ref m_atNought, .int (nI mn), .ref m_change, .ref m_table, .ref m_carried])), (m_now, .inl (cy 0, 29, .inl nw)), (m_rootWhich, .inl (cy 0, 2, .inl ((f_X8_acrossOf nw ro rt db px.toNatClampNeg n).2.2.2.2.2.2)))] H := hP9
        replace hD : va_D A [(ta, .inr (8, [.ref m_now, .ref m_undone, .ref m_slots, .ref m_slotKind, .ref m_hasSlot, .ref m_sheetBits, .ref m_sheetSize, .ref m_sheets, .int (nI u), .int fi, .ref m_fresh, .long ((f_X8_acrossOf nw ro rt db px.toNatClampNeg n).2.1), .long ((f_X8_acrossOf nw ro rt db px.toNatClampNeg n).2.2.1), .long ((f_X8_acrossOf nw ro rt db px.toNatClampNeg n).2.2.2.1), .int (nI ((f_X8_acrossOf nw ro rt db px.toNatClampNeg n).2.2.2.2.1)), .ref m_rootWhich, .int ((f_X8_acrossOf nw ro rt db px.toNatClampNeg n).2.2.2.2.2.1), .ref m_signs, .ref m_atNought, .int (nI mn), .ref m_change, .ref m_table, .ref m_carried])), (m_now, .inl (cy 0, 29, .inl nw)), (m_rootWhich, .inl (cy 0, 2, .inl ((f_X8_acrossOf nw ro rt db px.toNatClampNeg n).2.2.2.2.2.2)))] := hD9
        replace hS := hS9
        clear hP9 hD9 hS9
        have hF : f_X8_across nw fi aa bb dd ro rt db px n = (((f_X8_acrossOf nw ro rt db px.toNatClampNeg n).1), fi, ((f_X8_acrossOf nw ro rt db px.toNatClampNeg n).2.1), ((f_X8_acrossOf nw ro rt db px.toNatClampNeg n).2.2.1), ((f_X8_acrossOf nw ro rt db px.toNatClampNeg n).2.2.2.1), ((f_X8_acrossOf nw ro rt db px.toNatClampNeg n).2.2.2.2.1), ((f_X8_acrossOf nw ro rt db px.toNatClampNeg n).2.2.2.2.2.1), ((f_X8_acrossOf nw ro rt db px.toNatClampNeg n).2.2.2.2.2.2)) := hF
        have hf0 := yk_fst hF
        have hg0 := yk_snd hF
        have hf1 := yk_fst hg0
        have hg1 := yk_snd hg0
        have hf2 := yk_fst hg1
        have hg2 := yk_snd hg1
        have hf3 := yk_fst hg2
        have hg3 := yk_snd hg2
        have hf4 := yk_fst hg3
        have hg4 := yk_snd hg3
        have hf5 := yk_fst hg4
        have hg5 := yk_snd hg4
        have hf6 := yk_fst hg5
        have hg6 := yk_snd hg5
        rw [hf0, hf1, hf2, hf3, hf4, hf5, hf6, hg6] at hQ
        exact hQ _ _ _ _ dX8_across_63 hP hS
      · replace hF := hF.trans (if_pos hc4)
        refine lv_aload_n hx hb dX8_across_51 rfl (lv_at hl 0 rfl) ?_
        refine lv_ldc (v := (-1000003)) hx hb hown (hts _ kX8_across_0) dX8_across_52 ?_
        refine yk_i [0] (va_runV (As := [.int (-1000003)]) (rest := []) ⟨hx, hb, hml, hown, hts⟩ (c_X8_found l D cy ta m_now m_undone m_slots m_slotKind m_hasSlot m_sheetBits m_sheetSize m_sheets m_fresh m_rootWhich m_signs m_atNought m_change m_table m_carried u fi aa bb dd ro db mn (-1000003) H.size) (cwV 1 hts gX8_across_X8_found rfl rfl rfl hv_X8_found (yk_room hRf hRl rfl rfl)) (yk_pv (q := (RX8, TX8, 23)) hG hA hS hK hP hD [0] (by decide +kernel) rfl rfl rfl) rfl rfl hl.1 rfl (lv_room (Nat.le_of_ble_eq_true rfl)) dX8_across_54 ⟨Nat.zero_le _, Nat.zero_le _⟩) hP hD hS hA rfl rfl (fun H locs hP9 hD9 hS9 => ?_)
        replace hP : va_P D vwCl [(ta, .inr (8, [.ref m_now, .ref m_undone, .ref m_slots, .ref m_slotKind, .ref m_hasSlot, .ref m_sheetBits, .ref m_sheetSize, .ref m_sheets, .int (nI u), .int ((f_X8_found fi (-1000003)).2), .ref m_fresh, .long aa, .long bb, .long dd, .int (nI ro), .ref m_rootWhich, .int db, .ref m_signs, .ref m_atNought, .int (nI mn), .ref m_change, .ref m_table, .ref m_carried])), (m_now, .inl (cy 0, 29, .inl nw)), (m_rootWhich, .inl (cy 0, 2, .inl rt))] H := hP9
        replace hD : va_D A [(ta, .inr (8, [.ref m_now, .ref m_undone, .ref m_slots, .ref m_slotKind, .ref m_hasSlot, .ref m_sheetBits, .ref m_sheetSize, .ref m_sheets, .int (nI u), .int ((f_X8_found fi (-1000003)).2), .ref m_fresh, .long aa, .long bb, .long dd, .int (nI ro), .ref m_rootWhich, .int db, .ref m_signs, .ref m_atNought, .int (nI mn), .ref m_change, .ref m_table, .ref m_carried])), (m_now, .inl (cy 0, 29, .inl nw)), (m_rootWhich, .inl (cy 0, 2, .inl rt))] := hD9
        replace hS := hS9
        clear hP9 hD9 hS9
        have hF : f_X8_across nw fi aa bb dd ro rt db px n = (((f_X8_found fi (-1000003)).1), ((f_X8_found fi (-1000003)).2), aa, bb, dd, ro, db, rt) := hF
        have hf0 := yk_fst hF
        have hg0 := yk_snd hF
        have hf1 := yk_fst hg0
        have hg1 := yk_snd hg0
        have hf2 := yk_fst hg1
        have hg2 := yk_snd hg1
        have hf3 := yk_fst hg2
        have hg3 := yk_snd hg2
        have hf4 := yk_fst hg3
        have hg4 := yk_snd hg3
        have hf5 := yk_fst hg4
        have hg5 := yk_snd hg4
        have hf6 := yk_fst hg5
        have hg6 := yk_snd hg5
        rw [hf0, hf1, hf2, hf3, hf4, hf5, hf6, hg6] at hQ
        exact hQ _ _ _ _ dX8_across_57 hP hS
  · replace hF := hF.trans (if_pos hc1)
    refine lv_aload_n hx hb dX8_across_14 rfl (lv_at hl 0 rfl) ?_
    refine lv_ldc (v := (-1000001)) hx hb hown (hts _ kX8_across_1) dX8_across_15 ?_
    refine yk_i [0] (va_runV (As := [.int (-1000001)]) (rest := []) ⟨hx, hb, hml, hown, hts⟩ (c_X8_found l D cy ta m_now m_undone m_slots m_slotKind m_hasSlot m_sheetBits m_sheetSize m_sheets m_fresh m_rootWhich m_signs m_atNought m_change m_table m_carried u fi aa bb dd ro db mn (-1000001) H.size) (cwV 1 hts gX8_across_X8_found rfl rfl rfl hv_X8_found (yk_room hRf hRl rfl rfl)) (yk_pv (q := (RX8, TX8, 23)) hG hA hS hK hP hD [0] (by decide +kernel) rfl rfl rfl) rfl rfl hl.1 rfl (lv_room (Nat.le_of_ble_eq_true rfl)) dX8_across_17 ⟨Nat.zero_le _, Nat.zero_le _⟩) hP hD hS hA rfl rfl (fun H locs hP9 hD9 hS9 => ?_)
    replace hP : va_P D vwCl [(ta, .inr (8, [.ref m_now, .ref m_undone, .ref m_slots, .ref m_slotKind, .ref m_hasSlot, .ref m_sheetBits, .ref m_sheetSize, .ref m_sheets, .int (nI u), .int ((f_X8_found fi (-1000001)).2), .ref m_fresh, .long aa, .long bb, .long dd, .int (nI ro), .ref m_rootWhich, .int db, .ref m_signs, .ref m_atNought, .int (nI mn), .ref m_change, .ref m_table, .ref m_carried])), (m_now, .inl (cy 0, 29, .inl nw)), (m_rootWhich, .inl (cy 0, 2, .inl rt))] H := hP9
    replace hD : va_D A [(ta, .inr (8, [.ref m_now, .ref m_undone, .ref m_slots, .ref m_slotKind, .ref m_hasSlot, .ref m_sheetBits, .ref m_sheetSize, .ref m_sheets, .int (nI u), .int ((f_X8_found fi (-1000001)).2), .ref m_fresh, .long aa, .long bb, .long dd, .int (nI ro), .ref m_rootWhich, .int db, .ref m_signs, .ref m_atNought, .int (nI mn), .ref m_change, .ref m_table, .ref m_carried])), (m_now, .inl (cy 0, 29, .inl nw)), (m_rootWhich, .inl (cy 0, 2, .inl rt))] := hD9
    replace hS := hS9
    clear hP9 hD9 hS9
    have hF : f_X8_across nw fi aa bb dd ro rt db px n = (((f_X8_found fi (-1000001)).1), ((f_X8_found fi (-1000001)).2), aa, bb, dd, ro, db, rt) := hF
    have hf0 := yk_fst hF
    have hg0 := yk_snd hF
    have hf1 := yk_fst hg0
    have hg1 := yk_snd hg0
    have hf2 := yk_fst hg1
    have hg2 := yk_snd hg1
    have hf3 := yk_fst hg2
    have hg3 := yk_snd hg2
    have hf4 := yk_fst hg3
    have hg4 := yk_snd hg3
    have hf5 := yk_fst hg4
    have hg5 := yk_snd hg4
    have hf6 := yk_fst hg5
    have hg6 := yk_snd hg5
    rw [hf0, hf1, hf2, hf3, hf4, hf5, hf6, hg6] at hQ
    exact hQ _ _ _ _ dX8_across_20 hP hS

theorem kX8_held_0 : Cond.constant RX8 138 (-1000004) ∈ wsX8_held := by decide +kernel
def l_X8_held_23 (nw : Nat → Int32) (fi : Int32) (aa : Int64) (bb : Int64) (dd : Int64) (ro : Nat) (rt : Nat → Int32) (db : Int32) (bq : Int32) (n : Nat) : Nat → Nat → (Nat → Int32) → Int64 → Int64 → Int64 → Nat → Int32 → Int32 × Int32 × Int64 × Int64 × Int64 × Nat × Int32 × (Nat → Int32)
  | 0, ki, zrootWhich_23, zT_11_23, zT_12_23, zT_13_23, qT_14_23, zT_16_23 => (0, fi, aa, bb, dd, ro, db, rt)
  | fu_X8_held_23 + 1, ki, zrootWhich_23, zT_11_23, zT_12_23, zT_13_23, qT_14_23, zT_16_23 => (if (nI n) ≤ (nI ki) then (1, fi, zT_11_23, zT_12_23, zT_13_23, qT_14_23, zT_16_23, zrootWhich_23) else (if ((f_X8_acrossOf nw qT_14_23 zrootWhich_23 zT_16_23 ki n).1) = (if bq = 0 then 1 else (-1)) then (l_X8_held_23 nw fi aa bb dd ro rt db bq n fu_X8_held_23 (ki + 1) ((f_X8_acrossOf nw qT_14_23 zrootWhich_23 zT_16_23 ki n).2.2.2.2.2.2) ((f_X8_acrossOf nw qT_14_23 zrootWhich_23 zT_16_23 ki n).2.1) ((f_X8_acrossOf nw qT_14_23 zrootWhich_23 zT_16_23 ki n).2.2.1) ((f_X8_acrossOf nw qT_14_23 zrootWhich_23 zT_16_23 ki n).2.2.2.1) ((f_X8_acrossOf nw qT_14_23 zrootWhich_23 zT_16_23 ki n).2.2.2.2.1) ((f_X8_acrossOf nw qT_14_23 zrootWhich_23 zT_16_23 ki n).2.2.2.2.2.1)) else (0, fi, ((f_X8_acrossOf nw qT_14_23 zrootWhich_23 zT_16_23 ki n).2.1), ((f_X8_acrossOf nw qT_14_23 zrootWhich_23 zT_16_23 ki n).2.2.1), ((f_X8_acrossOf nw qT_14_23 zrootWhich_23 zT_16_23 ki n).2.2.2.1), ((f_X8_acrossOf nw qT_14_23 zrootWhich_23 zT_16_23 ki n).2.2.2.2.1), ((f_X8_acrossOf nw qT_14_23 zrootWhich_23 zT_16_23 ki n).2.2.2.2.2.1), ((f_X8_acrossOf nw qT_14_23 zrootWhich_23 zT_16_23 ki n).2.2.2.2.2.2))))
def f_X8_held (nw : Nat → Int32) (fi : Int32) (aa : Int64) (bb : Int64) (dd : Int64) (ro : Nat) (rt : Nat → Int32) (db : Int32) (bq : Int32) (n : Nat) : Int32 × Int32 × Int64 × Int64 × Int64 × Nat × Int32 × (Nat → Int32) := (if (f_X8_isSimple nw n) = 0 then (((f_X8_found fi (-1000004)).1), ((f_X8_found fi (-1000004)).2), aa, bb, dd, ro, db, rt) else (if 0 < (f_X8_areaOf nw n) then (l_X8_held_23 nw fi aa bb dd ro rt db bq n (n + 1) 0 rt aa bb dd ro db) else (((f_X8_found fi (-1000004)).1), ((f_X8_found fi (-1000004)).2), aa, bb, dd, ro, db, rt)))
set_option maxHeartbeats 400000000 in
set_option maxRecDepth 100000 in
theorem c_X8_held (l : Launch) (D : va_G) (cy : Nat → ClassId) (ta : Nat) (m_now : Nat) (m_rootWhich : Nat) (m_undone : Nat) (m_slots : Nat) (m_slotKind : Nat) (m_hasSlot : Nat) (m_sheetBits : Nat) (m_sheetSize : Nat) (m_sheets : Nat) (m_fresh : Nat) (m_signs : Nat) (m_atNought : Nat) (m_change : Nat) (m_table : Nat) (m_carried : Nat) (nw : Nat → Int32) (u : Nat) (fi : Int32) (aa : Int64) (bb : Int64) (dd : Int64) (ro : Nat) (rt : Nat → Int32) (db : Int32) (mn : Nat) (bq : Int32) (n : Nat) (hn12 : nw 12 = nI n) (hn : n ≤ 8) : yk_Ci l D vwCl (yk_ty cy) yX8_held wsX8_held 6 143 [.ref ta, .int bq] [(ta, .inr (8, [.ref m_now, .ref m_undone, .ref m_slots, .ref m_slotKind, .ref m_hasSlot, .ref m_sheetBits, .ref m_sheetSize, .ref m_sheets, .int (nI u), .int fi, .ref m_fresh, .long aa, .long bb, .long dd, .int (nI ro), .ref m_rootWhich, .int db, .ref m_signs, .ref m_atNought, .int (nI mn), .ref m_change, .ref m_table, .ref m_carried])), (m_now, .inl (cy 0, 29, .inl nw)), (m_rootWhich, .inl (cy 0, 2, .inl rt))] ((f_X8_held nw fi aa bb dd ro rt db bq n).1) [(ta, .inr (8, [.ref m_now, .ref m_undone, .ref m_slots, .ref m_slotKind, .ref m_hasSlot, .ref m_sheetBits, .ref m_sheetSize, .ref m_sheets, .int (nI u), .int ((f_X8_held nw fi aa bb dd ro rt db bq n).2.1), .ref m_fresh, .long ((f_X8_held nw fi aa bb dd ro rt db bq n).2.2.1), .long ((f_X8_held nw fi aa bb dd ro rt db bq n).2.2.2.1), .long ((f_X8_held nw fi aa bb dd ro rt db bq n).2.2.2.2.1), .int (nI ((f_X8_held nw fi aa bb dd ro rt db bq n).2.2.2.2.2.1)), .ref m_rootWhich, .int ((f_X8_held nw fi aa bb dd ro rt db bq n).2.2.2.2.2.2.1), .ref m_signs, .ref m_atNought, .int (nI mn), .ref m_change, .ref m_table, .ref m_carried])), (m_now, .inl (cy 0, 29, .inl nw)), (m_rootWhich, .inl (cy 0, 2, .inl ((f_X8_held nw fi aa bb dd ro rt db bq n).2.2.2.2.2.2.2)))] := by
  refine yk_eI (cc := cX8_held) (maxL := 3) (by decide) rfl (Nat.le_of_ble_eq_true rfl) rfl ?_
  intro p e R s m args below meth c A Q ls H locs hx hb hml hown hts hRf hRl hA hK hG hP hD hS hl hQ
  have hP : va_P D vwCl [(ta, .inr (8, [.ref m_now, .ref m_undone, .ref m_slots, .ref m_slotKind, .ref m_hasSlot, .ref m_sheetBits, .ref m_sheetSize, .ref m_sheets, .int (nI u), .int fi, .ref m_fresh, .long aa, .long bb, .long dd, .int (nI ro), .ref m_rootWhich, .int db, .ref m_signs, .ref m_atNought, .int (nI mn), .ref m_change, .ref m_table, .ref m_carried])), (m_now, .inl (cy 0, 29, .inl nw)), (m_rootWhich, .inl (cy 0, 2, .inl rt))] H := hP
  have hl : lv_has ls 3 [(0, .ref ta), (1, .int bq)] := hl
  have hown : s.vm.findClass RX8 = some m.cls := hown
  have hF : (f_X8_held nw fi aa bb dd ro rt db bq n) = (f_X8_held nw fi aa bb dd ro rt db bq n) := rfl
  refine lv_aload_n hx hb dX8_held_0 rfl (lv_at hl 0 rfl) ?_
  refine yk_i [0, 1] (va_runV (As := []) (rest := []) ⟨hx, hb, hml, hown, hts⟩ (c_X8_isSimple l D cy ta m_now m_undone m_slots m_slotKind m_hasSlot m_sheetBits m_sheetSize m_sheets m_fresh m_rootWhich m_signs m_atNought m_change m_table m_carried nw u fi aa bb dd ro db mn n (by first | assumption | omega) (by first | assumption | omega) H.size) (cwV 0 hts gX8_held_X8_isSimple rfl rfl rfl hv_X8_isSimple (yk_room hRf hRl rfl rfl)) (yk_pv (q := (RX8, TX8, 23)) hG hA hS hK hP hD [0, 1] (by decide +kernel) rfl rfl rfl) rfl rfl hl.1 rfl (lv_room (Nat.le_of_ble_eq_true rfl)) dX8_held_1 ⟨Nat.zero_le _, Nat.zero_le _⟩) hP hD hS hA rfl rfl (fun H locs hP9 hD9 hS9 => ?_)
  replace hP : va_P D vwCl [(ta, .inr (8, [.ref m_now, .ref m_undone, .ref m_slots, .ref m_slotKind, .ref m_hasSlot, .ref m_sheetBits, .ref m_sheetSize, .ref m_sheets, .int (nI u), .int fi, .ref m_fresh, .long aa, .long bb, .long dd, .int (nI ro), .ref m_rootWhich, .int db, .ref m_signs, .ref m_atNought, .int (nI mn), .ref m_change, .ref m_table, .ref m_carried])), (m_now, .inl (cy 0, 29, .inl nw)), (m_rootWhich, .inl (cy 0, 2, .inl rt))] H := hP9
  replace hD : va_D A [(ta, .inr (8, [.ref m_now, .ref m_undone, .ref m_slots, .ref m_slotKind, .ref m_hasSlot, .ref m_sheetBits, .ref m_sheetSize, .ref m_sheets, .int (nI u), .int fi, .ref m_fresh, .long aa, .long bb, .long dd, .int (nI ro), .ref m_rootWhich, .int db, .ref m_signs, .ref m_atNought, .int (nI mn), .ref m_change, .ref m_table, .ref m_carried])), (m_now, .inl (cy 0, 29, .inl nw)), (m_rootWhich, .inl (cy 0, 2, .inl rt))] := hD9
  replace hS := hS9
  clear hP9 hD9 hS9
  refine lv_if_eq (tgt := 14) hx hb dX8_held_4 (by decide) (fun hc1 => ?_) (fun hc1 => ?_)
  · replace hF := hF.trans (if_pos hc1)
    refine lv_aload_n hx hb dX8_held_14 rfl (lv_at hl 0 rfl) ?_
    refine lv_ldc (v := (-1000004)) hx hb hown (hts _ kX8_held_0) dX8_held_15 ?_
    refine yk_i [0] (va_runV (As := [.int (-1000004)]) (rest := []) ⟨hx, hb, hml, hown, hts⟩ (c_X8_found l D cy ta m_now m_undone m_slots m_slotKind m_hasSlot m_sheetBits m_sheetSize m_sheets m_fresh m_rootWhich m_signs m_atNought m_change m_table m_carried u fi aa bb dd ro db mn (-1000004) H.size) (cwV 1 hts gX8_held_X8_found rfl rfl rfl hv_X8_found (yk_room hRf hRl rfl rfl)) (yk_pv (q := (RX8, TX8, 23)) hG hA hS hK hP hD [0] (by decide +kernel) rfl rfl rfl) rfl rfl hl.1 rfl (lv_room (Nat.le_of_ble_eq_true rfl)) dX8_held_17 ⟨Nat.zero_le _, Nat.zero_le _⟩) hP hD hS hA rfl rfl (fun H locs hP9 hD9 hS9 => ?_)
    replace hP : va_P D vwCl [(ta, .inr (8, [.ref m_now, .ref m_undone, .ref m_slots, .ref m_slotKind, .ref m_hasSlot, .ref m_sheetBits, .ref m_sheetSize, .ref m_sheets, .int (nI u), .int ((f_X8_found fi (-1000004)).2), .ref m_fresh, .long aa, .long bb, .long dd, .int (nI ro), .ref m_rootWhich, .int db, .ref m_signs, .ref m_atNought, .int (nI mn), .ref m_change, .ref m_table, .ref m_carried])), (m_now, .inl (cy 0, 29, .inl nw)), (m_rootWhich, .inl (cy 0, 2, .inl rt))] H := hP9
    replace hD : va_D A [(ta, .inr (8, [.ref m_now, .ref m_undone, .ref m_slots, .ref m_slotKind, .ref m_hasSlot, .ref m_sheetBits, .ref m_sheetSize, .ref m_sheets, .int (nI u), .int ((f_X8_found fi (-1000004)).2), .ref m_fresh, .long aa, .long bb, .long dd, .int (nI ro), .ref m_rootWhich, .int db, .ref m_signs, .ref m_atNought, .int (nI mn), .ref m_change, .ref m_table, .ref m_carried])), (m_now, .inl (cy 0, 29, .inl nw)), (m_rootWhich, .inl (cy 0, 2, .inl rt))] := hD9
    replace hS := hS9
    clear hP9 hD9 hS9
    have hF : f_X8_held nw fi aa bb dd ro rt db bq n = (((f_X8_found fi (-1000004)).1), ((f_X8_found fi (-1000004)).2), aa, bb, dd, ro, db, rt) := hF
    have hf0 := yk_fst hF
    have hg0 := yk_snd hF
    have hf1 := yk_fst hg0
    have hg1 := yk_snd hg0
    have hf2 := yk_fst hg1
    have hg2 := yk_snd hg1
    have hf3 := yk_fst hg2
    have hg3 := yk_snd hg2
    have hf4 := yk_fst hg3
    have hg4 := yk_snd hg3
    have hf5 := yk_fst hg4
    have hg5 := yk_snd hg4
    have hf6 := yk_fst hg5
    have hg6 := yk_snd hg5
    rw [hf0, hf1, hf2, hf3, hf4, hf5, hf6, hg6] at hQ
    exact hQ _ _ _ _ dX8_held_20 hP hS
  · replace hF := hF.trans (if_neg hc1)
    refine lv_aload_n hx hb dX8_held_7 rfl (lv_at hl 0 rfl) ?_
    refine yk_i [0, 1] (va_runV (As := []) (rest := []) ⟨hx, hb, hml, hown, hts⟩ (c_X8_areaOf l D cy ta m_now m_undone m_slots m_slotKind m_hasSlot m_sheetBits m_sheetSize m_sheets m_fresh m_rootWhich m_signs m_atNought m_change m_table m_carried nw u fi aa bb dd ro db mn n (by first | assumption | omega) (by first | assumption | omega) H.size) (cwV 0 hts gX8_held_X8_areaOf rfl rfl rfl hv_X8_areaOf (yk_room hRf hRl rfl rfl)) (yk_pv (q := (RX8, TX8, 23)) hG hA hS hK hP hD [0, 1] (by decide +kernel) rfl rfl rfl) rfl rfl hl.1 rfl (lv_room (Nat.le_of_ble_eq_true rfl)) dX8_held_8 ⟨Nat.zero_le _, Nat.zero_le _⟩) hP hD hS hA rfl rfl (fun H locs hP9 hD9 hS9 => ?_)
    replace hP : va_P D vwCl [(ta, .inr (8, [.ref m_now, .ref m_undone, .ref m_slots, .ref m_slotKind, .ref m_hasSlot, .ref m_sheetBits, .ref m_sheetSize, .ref m_sheets, .int (nI u), .int fi, .ref m_fresh, .long aa, .long bb, .long dd, .int (nI ro), .ref m_rootWhich, .int db, .ref m_signs, .ref m_atNought, .int (nI mn), .ref m_change, .ref m_table, .ref m_carried])), (m_now, .inl (cy 0, 29, .inl nw)), (m_rootWhich, .inl (cy 0, 2, .inl rt))] H := hP9
    replace hD : va_D A [(ta, .inr (8, [.ref m_now, .ref m_undone, .ref m_slots, .ref m_slotKind, .ref m_hasSlot, .ref m_sheetBits, .ref m_sheetSize, .ref m_sheets, .int (nI u), .int fi, .ref m_fresh, .long aa, .long bb, .long dd, .int (nI ro), .ref m_rootWhich, .int db, .ref m_signs, .ref m_atNought, .int (nI mn), .ref m_change, .ref m_table, .ref m_carried])), (m_now, .inl (cy 0, 29, .inl nw)), (m_rootWhich, .inl (cy 0, 2, .inl rt))] := hD9
    replace hS := hS9
    clear hP9 hD9 hS9
    refine lv_if_gt (tgt := 21) hx hb dX8_held_11 (by decide) (fun hc2 => ?_) (fun hc2 => ?_)
    · replace hF := hF.trans (if_pos hc2)
      refine lv_iconst (v := 0) hx hb dX8_held_21 (by decide) ?_
      refine lv_istore_n (lv' := [(2, .int 0), (0, .ref ta), (1, .int bq)]) hx hb dX8_held_22 rfl hl (by decide) rfl (fun ls hl9 => ?_)
      replace hl := hl9
      clear hl9
      have L23 : ∀ (M9 n23 ki : Nat) (zrootWhich_23 : Nat → Int32) (zT_11_23 : Int64) (zT_12_23 : Int64) (zT_13_23 : Int64) (qT_14_23 : Nat) (zT_16_23 : Int32) (H : Heap) (locs : List Loc) (ls : Array Slot), n23 < M9 → ki + n23 = n → f_X8_held nw fi aa bb dd ro rt db bq n = (l_X8_held_23 nw fi aa bb dd ro rt db bq n (n23 + 1) ki zrootWhich_23 zT_11_23 zT_12_23 zT_13_23 qT_14_23 zT_16_23) → va_P D vwCl [(ta, .inr (8, [.ref m_now, .ref m_undone, .ref m_slots, .ref m_slotKind, .ref m_hasSlot, .ref m_sheetBits, .ref m_sheetSize, .ref m_sheets, .int (nI u), .int fi, .ref m_fresh, .long zT_11_23, .long zT_12_23, .long zT_13_23, .int (nI qT_14_23), .ref m_rootWhich, .int zT_16_23, .ref m_signs, .ref m_atNought, .int (nI mn), .ref m_change, .ref m_table, .ref m_carried])), (m_now, .inl (cy 0, 29, .inl nw)), (m_rootWhich, .inl (cy 0, 2, .inl zrootWhich_23))] H → va_D A [(ta, .inr (8, [.ref m_now, .ref m_undone, .ref m_slots, .ref m_slotKind, .ref m_hasSlot, .ref m_sheetBits, .ref m_sheetSize, .ref m_sheets, .int (nI u), .int fi, .ref m_fresh, .long zT_11_23, .long zT_12_23, .long zT_13_23, .int (nI qT_14_23), .ref m_rootWhich, .int zT_16_23, .ref m_signs, .ref m_atNought, .int (nI mn), .ref m_change, .ref m_table, .ref m_carried])), (m_now, .inl (cy 0, 29, .inl nw)), (m_rootWhich, .inl (cy 0, 2, .inl zrootWhich_23))] → va_S A s.heap H locs → lv_has ls 3 [(0, .ref ta), (1, .int bq), (2, .int (nI ki))] → W p l e R s m args below meth c H locs 0 0 Q (F0 m 23 ls []) := by
        clear hP hD hS hl hF
        intro M9
        induction M9 with
        | zero => intro n23 ki _ _ _ _ _ _ _ _ _ hn; exact absurd hn (Nat.not_lt_zero _)
        | succ M9 ih23 =>
          intro n23 ki zrootWhich_23 zT_11_23 zT_12_23 zT_13_23 qT_14_23 zT_16_23 H locs ls hn23 hk23 hF hP hD hS hl
          refine lv_iload_n hx hb dX8_held_23 rfl (lv_at hl 2 rfl) ?_
          refine lv_aload_n hx hb dX8_held_24 rfl (lv_at hl 0 rfl) ?_
          refine yk_i [0, 1] (va_runV (As := []) (rest := [.int (nI ki)]) ⟨hx, hb, hml, hown, hts⟩ (c_X8_corners l D cy ta m_now m_undone m_slots m_slotKind m_hasSlot m_sheetBits m_sheetSize m_sheets m_fresh m_rootWhich m_signs m_atNought m_change m_table m_carried nw u fi zT_11_23 zT_12_23 zT_13_23 qT_14_23 zT_16_23 mn H.size) (cwV 0 hts gX8_held_X8_corners rfl rfl rfl hv_X8_corners (yk_room hRf hRl rfl rfl)) (yk_pv (q := (RX8, TX8, 23)) hG hA hS hK hP hD [0, 1] (by decide +kernel) rfl rfl rfl) rfl rfl hl.1 rfl (lv_room (Nat.le_of_ble_eq_true rfl)) dX8_held_25 ⟨Nat.zero_le _, Nat.zero_le _⟩) hP hD hS hA rfl rfl (fun H locs hP9 hD9 hS9 => ?_)
          replace hP : va_P D vwCl [(ta, .inr (8, [.ref m_now, .ref m_undone, .ref m_slots, .ref m_slotKind, .ref m_hasSlot, .ref m_sheetBits, .ref m_sheetSize, .ref m_sheets, .int (nI u), .int fi, .ref m_fresh, .long zT_11_23, .long zT_12_23, .long zT_13_23, .int (nI qT_14_23), .ref m_rootWhich, .int zT_16_23, .ref m_signs, .ref m_atNought, .int (nI mn), .ref m_change, .ref m_table, .ref m_carried])), (m_now, .inl (cy 0, 29, .inl nw)), (m_rootWhich, .inl (cy 0, 2, .inl zrootWhich_23))] H := hP9
          replace hD : va_D A [(ta, .inr (8, [.ref m_now, .ref m_undone, .ref m_slots, .ref m_slotKind, .ref m_hasSlot, .ref m_sheetBits, .ref m_sheetSize, .ref m_sheets, .int (nI u), .int fi, .ref m_fresh, .long zT_11_23, .long zT_12_23, .long zT_13_23, .int (nI qT_14_23), .ref m_rootWhich, .int zT_16_23, .ref m_signs, .ref m_atNought, .int (nI mn), .ref m_change, .ref m_table, .ref m_carried])), (m_now, .inl (cy 0, 29, .inl nw)), (m_rootWhich, .inl (cy 0, 2, .inl zrootWhich_23))] := hD9
          replace hS := hS9
          clear hP9 hD9 hS9
          refine yk_ti (y := nI n) (hn12) ?_
          refine lv_icmp_ge (tgt := 56) hx hb dX8_held_28 (by decide) (fun hc8 => ?_) (fun hc8 => ?_)
          · replace hF := hF.trans (if_pos hc8)
            refine lv_iconst (v := 1) hx hb dX8_held_56 (by decide) ?_
            have hF : f_X8_held nw fi aa bb dd ro rt db bq n = (1, fi, zT_11_23, zT_12_23, zT_13_23, qT_14_23, zT_16_23, zrootWhich_23) := hF
            have hf0 := yk_fst hF
            have hg0 := yk_snd hF
            have hf1 := yk_fst hg0
            have hg1 := yk_snd hg0
            have hf2 := yk_fst hg1
            have hg2 := yk_snd hg1
            have hf3 := yk_fst hg2
            have hg3 := yk_snd hg2
            have hf4 := yk_fst hg3
            have hg4 := yk_snd hg3
            have hf5 := yk_fst hg4
            have hg5 := yk_snd hg4
            have hf6 := yk_fst hg5
            have hg6 := yk_snd hg5
            rw [hf0, hf1, hf2, hf3, hf4, hf5, hf6, hg6] at hQ
            exact hQ _ _ _ _ dX8_held_57 hP hS
          · replace hF := hF.trans (if_neg hc8)
            have hlt23 : ki < n := yk_lt hk23 (by omega) hc8
            refine lv_aload_n hx hb dX8_held_31 rfl (lv_at hl 0 rfl) ?_
            refine lv_iload_n hx hb dX8_held_32 rfl (lv_at hl 2 rfl) ?_
            refine yk_i [0, 1, 2] (va_runV (As := [.int (nI ki)]) (rest := []) ⟨hx, hb, hml, hown, hts⟩ (c_X8_acrossOf l D cy ta m_now m_rootWhich m_undone m_slots m_slotKind m_hasSlot m_sheetBits m_sheetSize m_sheets m_fresh m_signs m_atNought m_change m_table m_carried nw u fi zT_11_23 zT_12_23 zT_13_23 qT_14_23 zrootWhich_23 zT_16_23 mn ki n (by first | assumption | omega) (by first | assumption | omega) (by first | assumption | omega) (by first | assumption | omega) H.size) (cwV 1 hts gX8_held_X8_acrossOf rfl rfl rfl hv_X8_acrossOf (yk_room hRf hRl rfl rfl)) (yk_pv (q := (RX8, TX8, 23)) hG hA hS hK hP hD [0, 1, 2] (by decide +kernel) rfl rfl rfl) rfl rfl hl.1 rfl (lv_room (Nat.le_of_ble_eq_true rfl)) dX8_held_33 ⟨Nat.zero_le _, Nat.zero_le _⟩) hP hD hS hA rfl rfl (fun H locs hP9 hD9 hS9 => ?_)
            replace hP : va_P D vwCl [(ta, .inr (8, [.ref m_now, .ref m_undone, .ref m_slots, .ref m_slotKind, .ref m_hasSlot, .ref m_sheetBits, .ref m_sheetSize, .ref m_sheets, .int (nI u), .int fi, .ref m_fresh, .long ((f_X8_acrossOf nw qT_14_23 zrootWhich_23 zT_16_23 ki n).2.1), .long ((f_X8_acrossOf nw qT_14_23 zrootWhich_23 zT_16_23 ki n).2.2.1), .long ((f_X8_acrossOf nw qT_14_23 zrootWhich_23 zT_16_23 ki n).2.2.2.1), .int (nI ((f_X8_acrossOf nw qT_14_23 zrootWhich_23 zT_16_23 ki n).2.2.2.2.1)), .ref m_rootWhich, .int ((f_X8_acrossOf nw qT_14_23 zrootWhich_23 zT_16_23 ki n).2.2.2.2.2.1), .ref m_signs, .ref m_atNought, .int (nI mn), .ref m_change, .ref m_table, .ref m_carried])), (m_now, .inl (cy 0, 29, .inl nw)), (m_rootWhich, .inl (cy 0, 2, .inl ((f_X8_acrossOf nw qT_14_23 zrootWhich_23 zT_16_23 ki n).2.2.2.2.2.2)))] H := hP9
            replace hD : va_D A [(ta, .inr (8, [.ref m_now, .ref m_undone, .ref m_slots, .ref m_slotKind, .ref m_hasSlot, .ref m_sheetBits, .ref m_sheetSize, .ref m_sheets, .int (nI u), .int fi, .ref m_fresh, .long ((f_X8_acrossOf nw qT_14_23 zrootWhich_23 zT_16_23 ki n).2.1), .long ((f_X8_acrossOf nw qT_14_23 zrootWhich_23 zT_16_23 ki n).2.2.1), .long ((f_X8_acrossOf nw qT_14_23 zrootWhich_23 zT_16_23 ki n).2.2.2.1), .int (nI ((f_X8_acrossOf nw qT_14_23 zrootWhich_23 zT_16_23 ki n).2.2.2.2.1)), .ref m_rootWhich, .int ((f_X8_acrossOf nw qT_14_23 zrootWhich_23 zT_16_23 ki n).2.2.2.2.2.1), .ref m_signs, .ref m_atNought, .int (nI mn), .ref m_change, .ref m_table, .ref m_carried])), (m_now, .inl (cy 0, 29, .inl nw)), (m_rootWhich, .inl (cy 0, 2, .inl ((f_X8_acrossOf nw qT_14_23 zrootWhich_23 zT_16_23 ki n).2.2.2.2.2.2)))] := hD9
            replace hS := hS9
            clear hP9 hD9 hS9
            refine lv_iload_n hx hb dX8_held_36 rfl (lv_at hl 1 rfl) ?_
            have J11 : ∀ (v10 : Int32) (H : Heap) (locs : List Loc) (ls : Array Slot), v10 = (if bq = 0 then 1 else (-1)) → va_P D vwCl [(ta, .inr (8, [.ref m_now, .ref m_undone, .ref m_slots, .ref m_slotKind, .ref m_hasSlot, .ref m_sheetBits, .ref m_sheetSize, .ref m_sheets, .int (nI u), .int fi, .ref m_fresh, .long ((f_X8_acrossOf nw qT_14_23 zrootWhich_23 zT_16_23 ki n).2.1), .long ((f_X8_acrossOf nw qT_14_23 zrootWhich_23 zT_16_23 ki n).2.2.1), .long ((f_X8_acrossOf nw qT_14_23 zrootWhich_23 zT_16_23 ki n).2.2.2.1), .int (nI ((f_X8_acrossOf nw qT_14_23 zrootWhich_23 zT_16_23 ki n).2.2.2.2.1)), .ref m_rootWhich, .int ((f_X8_acrossOf nw qT_14_23 zrootWhich_23 zT_16_23 ki n).2.2.2.2.2.1), .ref m_signs, .ref m_atNought, .int (nI mn), .ref m_change, .ref m_table, .ref m_carried])), (m_now, .inl (cy 0, 29, .inl nw)), (m_rootWhich, .inl (cy 0, 2, .inl ((f_X8_acrossOf nw qT_14_23 zrootWhich_23 zT_16_23 ki n).2.2.2.2.2.2)))] H → va_D A [(ta, .inr (8, [.ref m_now, .ref m_undone, .ref m_slots, .ref m_slotKind, .ref m_hasSlot, .ref m_sheetBits, .ref m_sheetSize, .ref m_sheets, .int (nI u), .int fi, .ref m_fresh, .long ((f_X8_acrossOf nw qT_14_23 zrootWhich_23 zT_16_23 ki n).2.1), .long ((f_X8_acrossOf nw qT_14_23 zrootWhich_23 zT_16_23 ki n).2.2.1), .long ((f_X8_acrossOf nw qT_14_23 zrootWhich_23 zT_16_23 ki n).2.2.2.1), .int (nI ((f_X8_acrossOf nw qT_14_23 zrootWhich_23 zT_16_23 ki n).2.2.2.2.1)), .ref m_rootWhich, .int ((f_X8_acrossOf nw qT_14_23 zrootWhich_23 zT_16_23 ki n).2.2.2.2.2.1), .ref m_signs, .ref m_atNought, .int (nI mn), .ref m_change, .ref m_table, .ref m_carried])), (m_now, .inl (cy 0, 29, .inl nw)), (m_rootWhich, .inl (cy 0, 2, .inl ((f_X8_acrossOf nw qT_14_23 zrootWhich_23 zT_16_23 ki n).2.2.2.2.2.2)))] → va_S A s.heap H locs → lv_has ls 3 [(0, .ref ta), (1, .int bq), (2, .int (nI ki))] → W p l e R s m args below meth c H locs 0 0 Q (F0 m 45 ls [.int v10, .int ((f_X8_acrossOf nw qT_14_23 zrootWhich_23 zT_16_23 ki n).1)]) := by
              clear hP hD hS hl
              intro v10 H locs ls ev10 hP hD hS hl
              subst ev10
              refine lv_icmp_eq (tgt := 50) hx hb dX8_held_45 (by decide) (fun hc12 => ?_) (fun hc12 => ?_)
              · replace hF := hF.trans (if_pos hc12)
                refine lv_iinc (v := nI (ki + 1)) (lv' := [(2, .int (nI (ki + 1))), (0, .ref ta), (1, .int bq)]) hx hb dX8_held_50 hl (k := 2) rfl (yk_inc ki) (by decide) rfl (fun ls hl9 => ?_)
                replace hl := hl9
                clear hl9
                refine lv_goto (tgt := 23) hx hb dX8_held_53 (by decide) ?_
                obtain ⟨n9, rfl⟩ : ∃ n9, n23 = n9 + 1 := ⟨n23 - 1, by omega⟩
                exact ih23 n9 (ki + 1) ((f_X8_acrossOf nw qT_14_23 zrootWhich_23 zT_16_23 ki n).2.2.2.2.2.2) ((f_X8_acrossOf nw qT_14_23 zrootWhich_23 zT_16_23 ki n).2.1) ((f_X8_acrossOf nw qT_14_23 zrootWhich_23 zT_16_23 ki n).2.2.1) ((f_X8_acrossOf nw qT_14_23 zrootWhich_23 zT_16_23 ki n).2.2.2.1) ((f_X8_acrossOf nw qT_14_23 zrootWhich_23 zT_16_23 ki n).2.2.2.2.1) ((f_X8_acrossOf nw qT_14_23 zrootWhich_23 zT_16_23 ki n).2.2.2.2.2.1) _ _ _ (by omega) (by omega)  hF hP hD hS (lv_sub hl [1, 2, 0] rfl)
              · replace hF := hF.trans (if_neg hc12)
                refine lv_iconst (v := 0) hx hb dX8_held_48 (by decide) ?_
                have hF : f_X8_held nw fi aa bb dd ro rt db bq n = (0, fi, ((f_X8_acrossOf nw qT_14_23 zrootWhich_23 zT_16_23 ki n).2.1), ((f_X8_acrossOf nw qT_14_23 zrootWhich_23 zT_16_23 ki n).2.2.1), ((f_X8_acrossOf nw qT_14_23 zrootWhich_23 zT_16_23 ki n).2.2.2.1), ((f_X8_acrossOf nw qT_14_23 zrootWhich_23 zT_16_23 ki n).2.2.2.2.1), ((f_X8_acrossOf nw qT_14_23 zrootWhich_23 zT_16_23 ki n).2.2.2.2.2.1), ((f_X8_acrossOf nw qT_14_23 zrootWhich_23 zT_16_23 ki n).2.2.2.2.2.2)) := hF
                have hf0 := yk_fst hF
                have hg0 := yk_snd hF
                have hf1 := yk_fst hg0
                have hg1 := yk_snd hg0
                have hf2 := yk_fst hg1
                have hg2 := yk_snd hg1
                have hf3 := yk_fst hg2
                have hg3 := yk_snd hg2
                have hf4 := yk_fst hg3
                have hg4 := yk_snd hg3
                have hf5 := yk_fst hg4
                have hg5 := yk_snd hg4
                have hf6 := yk_fst hg5
                have hg6 := yk_snd hg5
                rw [hf0, hf1, hf2, hf3, hf4, hf5, hf6, hg6] at hQ
                exact hQ _ _ _ _ dX8_held_49 hP hS
            refine lv_if_eq (tgt := 44) hx hb dX8_held_37 (by decide) (fun hc9 => ?_) (fun hc9 => ?_)
            · refine lv_iconst (v := 1) hx hb dX8_held_44 (by decide) ?_
              exact J11 _ _ _ _ ((if_pos hc9).symm) hP hD hS (lv_sub hl [0, 1, 2] rfl)
            · refine lv_iconst (v := (-1)) hx hb dX8_held_40 (by decide) ?_
              refine lv_goto (tgt := 45) hx hb dX8_held_41 (by decide) ?_
              exact J11 _ _ _ _ ((if_neg hc9).symm) hP hD hS (lv_sub hl [0, 1, 2] rfl)
      exact L23 (n + 1) n 0 rt aa bb dd ro db _ _ _ (Nat.lt_succ_self _) (by omega)  hF hP hD hS (lv_sub hl [1, 2, 0] rfl)
    · replace hF := hF.trans (if_neg hc2)
      refine lv_aload_n hx hb dX8_held_14 rfl (lv_at hl 0 rfl) ?_
      refine lv_ldc (v := (-1000004)) hx hb hown (hts _ kX8_held_0) dX8_held_15 ?_
      refine yk_i [0] (va_runV (As := [.int (-1000004)]) (rest := []) ⟨hx, hb, hml, hown, hts⟩ (c_X8_found l D cy ta m_now m_undone m_slots m_slotKind m_hasSlot m_sheetBits m_sheetSize m_sheets m_fresh m_rootWhich m_signs m_atNought m_change m_table m_carried u fi aa bb dd ro db mn (-1000004) H.size) (cwV 1 hts gX8_held_X8_found rfl rfl rfl hv_X8_found (yk_room hRf hRl rfl rfl)) (yk_pv (q := (RX8, TX8, 23)) hG hA hS hK hP hD [0] (by decide +kernel) rfl rfl rfl) rfl rfl hl.1 rfl (lv_room (Nat.le_of_ble_eq_true rfl)) dX8_held_17 ⟨Nat.zero_le _, Nat.zero_le _⟩) hP hD hS hA rfl rfl (fun H locs hP9 hD9 hS9 => ?_)
      replace hP : va_P D vwCl [(ta, .inr (8, [.ref m_now, .ref m_undone, .ref m_slots, .ref m_slotKind, .ref m_hasSlot, .ref m_sheetBits, .ref m_sheetSize, .ref m_sheets, .int (nI u), .int ((f_X8_found fi (-1000004)).2), .ref m_fresh, .long aa, .long bb, .long dd, .int (nI ro), .ref m_rootWhich, .int db, .ref m_signs, .ref m_atNought, .int (nI mn), .ref m_change, .ref m_table, .ref m_carried])), (m_now, .inl (cy 0, 29, .inl nw)), (m_rootWhich, .inl (cy 0, 2, .inl rt))] H := hP9
      replace hD : va_D A [(ta, .inr (8, [.ref m_now, .ref m_undone, .ref m_slots, .ref m_slotKind, .ref m_hasSlot, .ref m_sheetBits, .ref m_sheetSize, .ref m_sheets, .int (nI u), .int ((f_X8_found fi (-1000004)).2), .ref m_fresh, .long aa, .long bb, .long dd, .int (nI ro), .ref m_rootWhich, .int db, .ref m_signs, .ref m_atNought, .int (nI mn), .ref m_change, .ref m_table, .ref m_carried])), (m_now, .inl (cy 0, 29, .inl nw)), (m_rootWhich, .inl (cy 0, 2, .inl rt))] := hD9
      replace hS := hS9
      clear hP9 hD9 hS9
      have hF : f_X8_held nw fi aa bb dd ro rt db bq n = (((f_X8_found fi (-1000004)).1), ((f_X8_found fi (-1000004)).2), aa, bb, dd, ro, db, rt) := hF
      have hf0 := yk_fst hF
      have hg0 := yk_snd hF
      have hf1 := yk_fst hg0
      have hg1 := yk_snd hg0
      have hf2 := yk_fst hg1
      have hg2 := yk_snd hg1
      have hf3 := yk_fst hg2
      have hg3 := yk_snd hg2
      have hf4 := yk_fst hg3
      have hg4 := yk_snd hg3
      have hf5 := yk_fst hg4
      have hg5 := yk_snd hg4
      have hf6 := yk_fst hg5
      have hg6 := yk_snd hg5
      rw [hf0, hf1, hf2, hf3, hf4, hf5, hf6, hg6] at hQ
      exact hQ _ _ _ _ dX8_held_20 hP hS

theorem kX8_note_0 : Cond.fieldLink RX8 41 "FlowPlaneModel" "signs" "[I" ∈ wsX8_note := by decide +kernel
theorem kX8_note_1 : Cond.fieldLink RX8 184 "FlowPlaneModel" "many" "I" ∈ wsX8_note := by decide +kernel
theorem kX8_note_2 : Cond.fieldLink RX8 44 "FlowPlaneModel" "atNought" "[I" ∈ wsX8_note := by decide +kernel
theorem uX8_note_X8 : ∀ w ∈ u_ws RX8 TX8 23, w ∈ wsX8_note := by decide +kernel
def f_X8_note (sg : Nat → Int32) (an : Nat → Int32) (mn : Nat) (px : Int32) (py : Int32) : Nat × (Nat → Int32) × (Nat → Int32) := ((mn + 1), (upd sg mn px), (upd an mn py))
set_option maxHeartbeats 400000000 in
set_option maxRecDepth 100000 in
theorem c_X8_note (l : Launch) (D : va_G) (cy : Nat → ClassId) (ta : Nat) (m_signs : Nat) (m_atNought : Nat) (m_now : Nat) (m_undone : Nat) (m_slots : Nat) (m_slotKind : Nat) (m_hasSlot : Nat) (m_sheetBits : Nat) (m_sheetSize : Nat) (m_sheets : Nat) (m_fresh : Nat) (m_rootWhich : Nat) (m_change : Nat) (m_table : Nat) (m_carried : Nat) (u : Nat) (fi : Int32) (aa : Int64) (bb : Int64) (dd : Int64) (ro : Nat) (db : Int32) (sg : Nat → Int32) (an : Nat → Int32) (mn : Nat) (px : Int32) (py : Int32) (hm : mn < 64) : yk_Cv l D vwCl (yk_ty cy) yX8_note wsX8_note 0 0 [.ref ta, .int px, .int py] [(ta, .inr (8, [.ref m_now, .ref m_undone, .ref m_slots, .ref m_slotKind, .ref m_hasSlot, .ref m_sheetBits, .ref m_sheetSize, .ref m_sheets, .int (nI u), .int fi, .ref m_fresh, .long aa, .long bb, .long dd, .int (nI ro), .ref m_rootWhich, .int db, .ref m_signs, .ref m_atNought, .int (nI mn), .ref m_change, .ref m_table, .ref m_carried])), (m_signs, .inl (cy 0, 64, .inl sg)), (m_atNought, .inl (cy 0, 64, .inl an))] [(ta, .inr (8, [.ref m_now, .ref m_undone, .ref m_slots, .ref m_slotKind, .ref m_hasSlot, .ref m_sheetBits, .ref m_sheetSize, .ref m_sheets, .int (nI u), .int fi, .ref m_fresh, .long aa, .long bb, .long dd, .int (nI ro), .ref m_rootWhich, .int db, .ref m_signs, .ref m_atNought, .int (nI ((f_X8_note sg an mn px py).1)), .ref m_change, .ref m_table, .ref m_carried])), (m_signs, .inl (cy 0, 64, .inl ((f_X8_note sg an mn px py).2.1))), (m_atNought, .inl (cy 0, 64, .inl ((f_X8_note sg an mn px py).2.2)))] := by
  refine yk_eV (cc := cX8_note) (maxL := 3) (by decide) rfl (Nat.le_of_ble_eq_true rfl) ?_
  intro p e R s m args below meth c A Q ls H locs hx hb hml hown hts hRf hRl hA hK hG hP hD hS hl hQ
  have hP : va_P D vwCl [(ta, .inr (8, [.ref m_now, .ref m_undone, .ref m_slots, .ref m_slotKind, .ref m_hasSlot, .ref m_sheetBits, .ref m_sheetSize, .ref m_sheets, .int (nI u), .int fi, .ref m_fresh, .long aa, .long bb, .long dd, .int (nI ro), .ref m_rootWhich, .int db, .ref m_signs, .ref m_atNought, .int (nI mn), .ref m_change, .ref m_table, .ref m_carried])), (m_signs, .inl (cy 0, 64, .inl sg)), (m_atNought, .inl (cy 0, 64, .inl an))] H := hP
  have hl : lv_has ls 3 [(0, .ref ta), (1, .int px), (2, .int py)] := hl
  have hown : s.vm.findClass RX8 = some m.cls := hown
  have hF : (f_X8_note sg an mn px py) = (f_X8_note sg an mn px py) := rfl
  refine lv_aload_n hx hb dX8_note_0 rfl (lv_at hl 0 rfl) ?_
  refine va_get (D := D) (ci := 8) (v := .ref m_signs) (C := RX8) (T := TX8) (N := 23) hx hb hts uX8_note_X8 hown hK hP 0 rfl rfl 17 (by decide) (hts _ kX8_note_0) (fun _ h9 => h9) rfl dX8_note_1 ?_
  refine lv_aload_n hx hb dX8_note_4 rfl (lv_at hl 0 rfl) ?_
  refine va_get (D := D) (ci := 8) (v := .int (nI mn)) (C := RX8) (T := TX8) (N := 23) hx hb hts uX8_note_X8 hown hK hP 0 rfl rfl 19 (by decide) (hts _ kX8_note_1) (fun _ h9 => h9) rfl dX8_note_5 ?_
  refine lv_iload_n hx hb dX8_note_8 rfl (lv_at hl 1 rfl) ?_
  refine yk_ist hx hb hK hP hD hS 1 0 rfl rfl mn (by omega) (by decide) dX8_note_9 (fun H locs hP9 hD9 hS9 => ?_)
  replace hP : va_P D vwCl [(ta, .inr (8, [.ref m_now, .ref m_undone, .ref m_slots, .ref m_slotKind, .ref m_hasSlot, .ref m_sheetBits, .ref m_sheetSize, .ref m_sheets, .int (nI u), .int fi, .ref m_fresh, .long aa, .long bb, .long dd, .int (nI ro), .ref m_rootWhich, .int db, .ref m_signs, .ref m_atNought, .int (nI mn), .ref m_change, .ref m_table, .ref m_carried])), (m_signs, .inl (cy 0, 64, .inl (upd sg mn px))), (m_atNought, .inl (cy 0, 64, .inl an))] H := hP9
  replace hD : va_D A [(ta, .inr (8, [.ref m_now, .ref m_undone, .ref m_slots, .ref m_slotKind, .ref m_hasSlot, .ref m_sheetBits, .ref m_sheetSize, .ref m_sheets, .int (nI u), .int fi, .ref m_fresh, .long aa, .long bb, .long dd, .int (nI ro), .ref m_rootWhich, .int db, .ref m_signs, .ref m_atNought, .int (nI mn), .ref m_change, .ref m_table, .ref m_carried])), (m_signs, .inl (cy 0, 64, .inl (upd sg mn px))), (m_atNought, .inl (cy 0, 64, .inl an))] := hD9
  replace hS := hS9
  clear hP9 hD9 hS9
  refine lv_aload_n hx hb dX8_note_10 rfl (lv_at hl 0 rfl) ?_
  refine va_get (D := D) (ci := 8) (v := .ref m_atNought) (C := RX8) (T := TX8) (N := 23) hx hb hts uX8_note_X8 hown hK hP 0 rfl rfl 18 (by decide) (hts _ kX8_note_2) (fun _ h9 => h9) rfl dX8_note_11 ?_
  refine lv_aload_n hx hb dX8_note_14 rfl (lv_at hl 0 rfl) ?_
  refine va_get (D := D) (ci := 8) (v := .int (nI mn)) (C := RX8) (T := TX8) (N := 23) hx hb hts uX8_note_X8 hown hK hP 0 rfl rfl 19 (by decide) (hts _ kX8_note_1) (fun _ h9 => h9) rfl dX8_note_15 ?_
  refine lv_iload_n hx hb dX8_note_18 rfl (lv_at hl 2 rfl) ?_
  refine yk_ist hx hb hK hP hD hS 2 0 rfl rfl mn (by omega) (by decide) dX8_note_19 (fun H locs hP9 hD9 hS9 => ?_)
  replace hP : va_P D vwCl [(ta, .inr (8, [.ref m_now, .ref m_undone, .ref m_slots, .ref m_slotKind, .ref m_hasSlot, .ref m_sheetBits, .ref m_sheetSize, .ref m_sheets, .int (nI u), .int fi, .ref m_fresh, .long aa, .long bb, .long dd, .int (nI ro), .ref m_rootWhich, .int db, .ref m_signs, .ref m_atNought, .int (nI mn), .ref m_change, .ref m_table, .ref m_carried])), (m_signs, .inl (cy 0, 64, .inl (upd sg mn px))), (m_atNought, .inl (cy 0, 64, .inl (upd an mn py)))] H := hP9
  replace hD : va_D A [(ta, .inr (8, [.ref m_now, .ref m_undone, .ref m_slots, .ref m_slotKind, .ref m_hasSlot, .ref m_sheetBits, .ref m_sheetSize, .ref m_sheets, .int (nI u), .int fi, .ref m_fresh, .long aa, .long bb, .long dd, .int (nI ro), .ref m_rootWhich, .int db, .ref m_signs, .ref m_atNought, .int (nI mn), .ref m_change, .ref m_table, .ref m_carried])), (m_signs, .inl (cy 0, 64, .inl (upd sg mn px))), (m_atNought, .inl (cy 0, 64, .inl (upd an mn py)))] := hD9
  replace hS := hS9
  clear hP9 hD9 hS9
  refine lv_aload_n hx hb dX8_note_20 rfl (lv_at hl 0 rfl) ?_
  refine lv_dup hx hb dX8_note_21 rfl ?_
  refine va_get (D := D) (ci := 8) (v := .int (nI mn)) (C := RX8) (T := TX8) (N := 23) hx hb hts uX8_note_X8 hown hK hP 0 rfl rfl 19 (by decide) (hts _ kX8_note_1) (fun _ h9 => h9) rfl dX8_note_22 ?_
  refine lv_iconst (v := 1) hx hb dX8_note_25 (by decide) ?_
  refine lv_iadd hx hb dX8_note_26 ?_
  refine yk_ti (y := nI (mn + 1)) (nI_add mn 1) ?_
  refine va_put (D := D) (ci := 8) (v := .int (nI (mn + 1))) (ty := .int) (C := RX8) (T := TX8) (N := 23) hx hb hts uX8_note_X8 tyX8 tyX8_ok nmX8 hown hK hP hD hS 0 rfl rfl 19 (by decide) (hts _ kX8_note_1) (fun _ h9 => h9) rfl (by decide +kernel) (rfl) (rfl) (Nat.le_of_ble_eq_true rfl) dX8_note_27 (fun H locs hP9 hD9 hS9 => ?_)
  replace hP : va_P D vwCl [(ta, .inr (8, [.ref m_now, .ref m_undone, .ref m_slots, .ref m_slotKind, .ref m_hasSlot, .ref m_sheetBits, .ref m_sheetSize, .ref m_sheets, .int (nI u), .int fi, .ref m_fresh, .long aa, .long bb, .long dd, .int (nI ro), .ref m_rootWhich, .int db, .ref m_signs, .ref m_atNought, .int (nI (mn + 1)), .ref m_change, .ref m_table, .ref m_carried])), (m_signs, .inl (cy 0, 64, .inl (upd sg mn px))), (m_atNought, .inl (cy 0, 64, .inl (upd an mn py)))] H := hP9
  replace hD : va_D A [(ta, .inr (8, [.ref m_now, .ref m_undone, .ref m_slots, .ref m_slotKind, .ref m_hasSlot, .ref m_sheetBits, .ref m_sheetSize, .ref m_sheets, .int (nI u), .int fi, .ref m_fresh, .long aa, .long bb, .long dd, .int (nI ro), .ref m_rootWhich, .int db, .ref m_signs, .ref m_atNought, .int (nI (mn + 1)), .ref m_change, .ref m_table, .ref m_carried])), (m_signs, .inl (cy 0, 64, .inl (upd sg mn px))), (m_atNought, .inl (cy 0, 64, .inl (upd an mn py)))] := hD9
  replace hS := hS9
  clear hP9 hD9 hS9
  have hF : f_X8_note sg an mn px py = ((mn + 1), (upd sg mn px), (upd an mn py)) := hF
  have hf0 := yk_fst hF
  have hg0 := yk_snd hF
  have hf1 := yk_fst hg0
  have hg1 := yk_snd hg0
  rw [hf0, hf1, hg1] at hQ
  exact hQ _ _ _ _ dX8_note_30 hP hS

theorem yk_qne {x y : Int64} (h : ¬ ((if (lg_cmp y 0) = 0 then 0 else (f_X8_sign x)) : Int32) = 0) : ¬ (if 0 ≤ (lg_cmp x 0) then x else (-x)) = 0 := by
  have hx : x ≠ 0 := by
    intro e
    subst e
    refine h ?_
    split <;> rfl
  split
  · exact hx
  · intro e
    exact hx (by rw [← Int64.neg_neg (a := x), e]; rfl)
theorem r_X8_findRoots (aa bb dd : Int64) (rt : Nat → Int32) : (f_X8_findRoots aa bb dd rt).1 ≤ 2 := by
  unfold f_X8_findRoots
  (repeat' split) <;> decide

theorem kX8_signOfSum_0 : Cond.constantLong RX8 170 2 ∈ wsX8_signOfSum := by decide +kernel
def f_X8_signOfSum (x : Int64) (y : Int64) (z : Int64) : Int32 := (if (f_X8_sign x) = 0 then (if (f_X8_sign x) = 0 then (if (lg_cmp z 0) = 0 then 0 else (f_X8_sign y)) else (f_X8_sign x)) else (if ((if (lg_cmp z 0) = 0 then 0 else (f_X8_sign y)) : Int32) = 0 then (if (f_X8_sign x) = 0 then (if (lg_cmp z 0) = 0 then 0 else (f_X8_sign y)) else (f_X8_sign x)) else (if (f_X8_sign x) = (if (lg_cmp z 0) = 0 then 0 else (f_X8_sign y)) then (if (f_X8_sign x) = 0 then (if (lg_cmp z 0) = 0 then 0 else (f_X8_sign y)) else (f_X8_sign x)) else (if ((if ((lg_cmp (((if 0 ≤ (lg_cmp x 0) then x else (-x)) / (if 0 ≤ (lg_cmp y 0) then y else (-y))) * ((if 0 ≤ (lg_cmp x 0) then x else (-x)) / (if 0 ≤ (lg_cmp y 0) then y else (-y)))) z) : Int32) ≤ 0 then (if 0 < ((lg_cmp ((((if 0 ≤ (lg_cmp x 0) then x else (-x)) / (if 0 ≤ (lg_cmp y 0) then y else (-y))) + 1) * (((if 0 ≤ (lg_cmp x 0) then x else (-x)) / (if 0 ≤ (lg_cmp y 0) then y else (-y))) + 1)) z) : Int32) then (f_X8_sign (((((if 0 ≤ (lg_cmp x 0) then x else (-x)) - (if 0 ≤ (lg_cmp x 0) then x else (-x)) / (if 0 ≤ (lg_cmp y 0) then y else (-y)) * (if 0 ≤ (lg_cmp y 0) then y else (-y))) * ((if 0 ≤ (lg_cmp x 0) then x else (-x)) - (if 0 ≤ (lg_cmp x 0) then x else (-x)) / (if 0 ≤ (lg_cmp y 0) then y else (-y)) * (if 0 ≤ (lg_cmp y 0) then y else (-y)))) + (((2 * ((if 0 ≤ (lg_cmp x 0) then x else (-x)) / (if 0 ≤ (lg_cmp y 0) then y else (-y)))) * (if 0 ≤ (lg_cmp y 0) then y else (-y))) * ((if 0 ≤ (lg_cmp x 0) then x else (-x)) - (if 0 ≤ (lg_cmp x 0) then x else (-x)) / (if 0 ≤ (lg_cmp y 0) then y else (-y)) * (if 0 ≤ (lg_cmp y 0) then y else (-y))))) - (((z - (((if 0 ≤ (lg_cmp x 0) then x else (-x)) / (if 0 ≤ (lg_cmp y 0) then y else (-y))) * ((if 0 ≤ (lg_cmp x 0) then x else (-x)) / (if 0 ≤ (lg_cmp y 0) then y else (-y))))) * (if 0 ≤ (lg_cmp y 0) then y else (-y))) * (if 0 ≤ (lg_cmp y 0) then y else (-y))))) else (-1)) else 1) : Int32) ≤ 0 then (if 0 ≤ ((if ((lg_cmp (((if 0 ≤ (lg_cmp x 0) then x else (-x)) / (if 0 ≤ (lg_cmp y 0) then y else (-y))) * ((if 0 ≤ (lg_cmp x 0) then x else (-x)) / (if 0 ≤ (lg_cmp y 0) then y else (-y)))) z) : Int32) ≤ 0 then (if 0 < ((lg_cmp ((((if 0 ≤ (lg_cmp x 0) then x else (-x)) / (if 0 ≤ (lg_cmp y 0) then y else (-y))) + 1) * (((if 0 ≤ (lg_cmp x 0) then x else (-x)) / (if 0 ≤ (lg_cmp y 0) then y else (-y))) + 1)) z) : Int32) then (f_X8_sign (((((if 0 ≤ (lg_cmp x 0) then x else (-x)) - (if 0 ≤ (lg_cmp x 0) then x else (-x)) / (if 0 ≤ (lg_cmp y 0) then y else (-y)) * (if 0 ≤ (lg_cmp y 0) then y else (-y))) * ((if 0 ≤ (lg_cmp x 0) then x else (-x)) - (if 0 ≤ (lg_cmp x 0) then x else (-x)) / (if 0 ≤ (lg_cmp y 0) then y else (-y)) * (if 0 ≤ (lg_cmp y 0) then y else (-y)))) + (((2 * ((if 0 ≤ (lg_cmp x 0) then x else (-x)) / (if 0 ≤ (lg_cmp y 0) then y else (-y)))) * (if 0 ≤ (lg_cmp y 0) then y else (-y))) * ((if 0 ≤ (lg_cmp x 0) then x else (-x)) - (if 0 ≤ (lg_cmp x 0) then x else (-x)) / (if 0 ≤ (lg_cmp y 0) then y else (-y)) * (if 0 ≤ (lg_cmp y 0) then y else (-y))))) - (((z - (((if 0 ≤ (lg_cmp x 0) then x else (-x)) / (if 0 ≤ (lg_cmp y 0) then y else (-y))) * ((if 0 ≤ (lg_cmp x 0) then x else (-x)) / (if 0 ≤ (lg_cmp y 0) then y else (-y))))) * (if 0 ≤ (lg_cmp y 0) then y else (-y))) * (if 0 ≤ (lg_cmp y 0) then y else (-y))))) else (-1)) else 1) : Int32) then 0 else (if (lg_cmp z 0) = 0 then 0 else (f_X8_sign y))) else (f_X8_sign x)))))
set_option maxHeartbeats 400000000 in
set_option maxRecDepth 100000 in
theorem c_X8_signOfSum (l : Launch) (D : va_G) (cy : Nat → ClassId) (x : Int64) (y : Int64) (z : Int64) : yk_Ci l D vwCl (yk_ty cy) yX8_signOfSum wsX8_signOfSum 1 21 [.long x, .long y, .long z] [] (f_X8_signOfSum x y z) [] := by
  refine yk_eI (cc := cX8_signOfSum) (maxL := 17) (by decide) rfl (Nat.le_of_ble_eq_true rfl) rfl ?_
  intro p e R s m args below meth c A Q ls H locs hx hb hml hown hts hRf hRl hA hK hG hP hD hS hl hQ
  have hP : va_P D vwCl [] H := hP
  have hl : lv_has ls 17 [(0, .long x), (2, .long y), (4, .long z)] := hl
  have hown : s.vm.findClass RX8 = some m.cls := hown
  have hF : (f_X8_signOfSum x y z) = (f_X8_signOfSum x y z) := rfl
  refine lv_lload_n hx hb dX8_signOfSum_0 rfl (lv_at hl 0 rfl) ?_
  refine yk_i [] (va_runS (As := [.long x]) (rest := []) ⟨hx, hb, hml, hown, hts⟩ (c_X8_sign l D cy x H.size) (va_cwS 1 hts gX8_signOfSum_X8_sign rfl rfl rfl hs_X8_sign (yk_room hRf hRl rfl rfl)) (yk_ps hG hA hS hK hP hD [] (by decide +kernel) rfl) rfl rfl hl.1 rfl (lv_room (Nat.le_of_ble_eq_true rfl)) dX8_signOfSum_1 ⟨Nat.zero_le _, Nat.zero_le _⟩) hP hD hS hA rfl rfl (fun H locs hP9 hD9 hS9 => ?_)
  replace hP : va_P D vwCl [] H := hP9
  replace hD : va_D A [] := hD9
  replace hS := hS9
  clear hP9 hD9 hS9
  refine lv_istore (lv' := [(6, .int (f_X8_sign x)), (0, .long x), (2, .long y), (4, .long z)]) hx hb dX8_signOfSum_4 hl (by decide) rfl (fun ls hl9 => ?_)
  replace hl := hl9
  clear hl9
  refine lv_lload hx hb dX8_signOfSum_6 (lv_at hl 3 rfl) ?_
  refine lv_lconst (v := 0) hx hb dX8_signOfSum_8 (by decide) ?_
  refine W.lcmp hx hb dX8_signOfSum_9 ?_
  have J3 : ∀ (v2 : Int32) (H : Heap) (locs : List Loc) (ls : Array Slot), v2 = (if (lg_cmp z 0) = 0 then 0 else (f_X8_sign y)) → va_P D vwCl [] H → va_D A [] → va_S A s.heap H locs → lv_has ls 17 [(0, .long x), (2, .long y), (4, .long z), (6, .int (f_X8_sign x))] → W p l e R s m args below meth c H locs 0 0 Q (F0 m 21 ls [.int v2]) := by
    clear hP hD hS hl
    intro v2 H locs ls ev2 hP hD hS hl
    subst ev2
    refine lv_istore (lv' := [(7, .int (if (lg_cmp z 0) = 0 then 0 else (f_X8_sign y))), (0, .long x), (2, .long y), (4, .long z), (6, .int (f_X8_sign x))]) hx hb dX8_signOfSum_21 hl (by decide) rfl (fun ls hl9 => ?_)
    replace hl := hl9
    clear hl9
    refine lv_iload hx hb dX8_signOfSum_23 (lv_at hl 4 rfl) ?_
    refine lv_if_eq (tgt := 40) hx hb dX8_signOfSum_25 (by decide) (fun hc4 => ?_) (fun hc4 => ?_)
    · replace hF := hF.trans (if_pos hc4)
      refine lv_iload hx hb dX8_signOfSum_40 (lv_at hl 4 rfl) ?_
      have J7 : ∀ (v6 : Int32) (H : Heap) (locs : List Loc) (ls : Array Slot), v6 = (if (f_X8_sign x) = 0 then (if (lg_cmp z 0) = 0 then 0 else (f_X8_sign y)) else (f_X8_sign x)) → va_P D vwCl [] H → va_D A [] → va_S A s.heap H locs → lv_has ls 17 [(0, .long x), (2, .long y), (4, .long z), (6, .int (f_X8_sign x)), (7, .int (if (lg_cmp z 0) = 0 then 0 else (f_X8_sign y)))] → W p l e R s m args below meth c H locs 0 0 Q (F0 m 52 ls [.int v6]) := by
        clear hP hD hS hl
        intro v6 H locs ls ev6 hP hD hS hl
        subst ev6
        have hF : f_X8_signOfSum x y z = (if (f_X8_sign x) = 0 then (if (lg_cmp z 0) = 0 then 0 else (f_X8_sign y)) else (f_X8_sign x)) := hF
        rw [hF] at hQ
        exact hQ _ _ _ _ dX8_signOfSum_52 hP hS
      refine lv_if_ne (tgt := 50) hx hb dX8_signOfSum_42 (by decide) (fun hc5 => ?_) (fun hc5 => ?_)
      · refine lv_iload hx hb dX8_signOfSum_50 (lv_at hl 4 rfl) ?_
        exact J7 _ _ _ _ ((if_neg hc5).symm) hP hD hS (lv_sub hl [1, 2, 3, 4, 0] rfl)
      · refine lv_iload hx hb dX8_signOfSum_45 (lv_at hl 0 rfl) ?_
        refine lv_goto (tgt := 52) hx hb dX8_signOfSum_47 (by decide) ?_
        exact J7 _ _ _ _ ((if_pos hc5).symm) hP hD hS (lv_sub hl [1, 2, 3, 4, 0] rfl)
    · replace hF := hF.trans (if_neg hc4)
      refine lv_iload hx hb dX8_signOfSum_28 (lv_at hl 0 rfl) ?_
      refine lv_if_eq (tgt := 40) hx hb dX8_signOfSum_30 (by decide) (fun hc8 => ?_) (fun hc8 => ?_)
      · replace hF := hF.trans (if_pos hc8)
        refine lv_iload hx hb dX8_signOfSum_40 (lv_at hl 4 rfl) ?_
        have J11 : ∀ (v10 : Int32) (H : Heap) (locs : List Loc) (ls : Array Slot), v10 = (if (f_X8_sign x) = 0 then (if (lg_cmp z 0) = 0 then 0 else (f_X8_sign y)) else (f_X8_sign x)) → va_P D vwCl [] H → va_D A [] → va_S A s.heap H locs → lv_has ls 17 [(0, .long x), (2, .long y), (4, .long z), (6, .int (f_X8_sign x)), (7, .int (if (lg_cmp z 0) = 0 then 0 else (f_X8_sign y)))] → W p l e R s m args below meth c H locs 0 0 Q (F0 m 52 ls [.int v10]) := by
          clear hP hD hS hl
          intro v10 H locs ls ev10 hP hD hS hl
          subst ev10
          have hF : f_X8_signOfSum x y z = (if (f_X8_sign x) = 0 then (if (lg_cmp z 0) = 0 then 0 else (f_X8_sign y)) else (f_X8_sign x)) := hF
          rw [hF] at hQ
          exact hQ _ _ _ _ dX8_signOfSum_52 hP hS
        refine lv_if_ne (tgt := 50) hx hb dX8_signOfSum_42 (by decide) (fun hc9 => ?_) (fun hc9 => ?_)
        · refine lv_iload hx hb dX8_signOfSum_50 (lv_at hl 4 rfl) ?_
          exact J11 _ _ _ _ ((if_neg hc9).symm) hP hD hS (lv_sub hl [1, 2, 3, 4, 0] rfl)
        · refine lv_iload hx hb dX8_signOfSum_45 (lv_at hl 0 rfl) ?_
          refine lv_goto (tgt := 52) hx hb dX8_signOfSum_47 (by decide) ?_
          exact J11 _ _ _ _ ((if_pos hc9).symm) hP hD hS (lv_sub hl [1, 2, 3, 4, 0] rfl)
      · replace hF := hF.trans (if_neg hc8)
        refine lv_iload hx hb dX8_signOfSum_33 (lv_at hl 4 rfl) ?_
        refine lv_iload hx hb dX8_signOfSum_35 (lv_at hl 0 rfl) ?_
        refine lv_icmp_ne (tgt := 53) hx hb dX8_signOfSum_37 (by decide) (fun hc12 => ?_) (fun hc12 => ?_)
        · replace hF := hF.trans (if_neg hc12)
          refine lv_lload_n hx hb dX8_signOfSum_53 rfl (lv_at hl 1 rfl) ?_
          refine lv_lconst (v := 0) hx hb dX8_signOfSum_54 (by decide) ?_
          refine W.lcmp hx hb dX8_signOfSum_55 ?_
          have J15 : ∀ (v14 : Int64) (H : Heap) (locs : List Loc) (ls : Array Slot), v14 = (if 0 ≤ (lg_cmp x 0) then x else (-x)) → va_P D vwCl [] H → va_D A [] → va_S A s.heap H locs → lv_has ls 17 [(0, .long x), (2, .long y), (4, .long z), (6, .int (f_X8_sign x)), (7, .int (if (lg_cmp z 0) = 0 then 0 else (f_X8_sign y)))] → W p l e R s m args below meth c H locs 0 0 Q (F0 m 65 ls [.long v14]) := by
            clear hP hD hS hl
            intro v14 H locs ls ev14 hP hD hS hl
            subst ev14
            refine lv_lstore (lv' := [(8, .long (if 0 ≤ (lg_cmp x 0) then x else (-x))), (0, .long x), (2, .long y), (4, .long z), (6, .int (f_X8_sign x)), (7, .int (if (lg_cmp z 0) = 0 then 0 else (f_X8_sign y)))]) hx hb dX8_signOfSum_65 hl (by decide) rfl (fun ls hl9 => ?_)
            replace hl := hl9
            clear hl9
            refine lv_lload_n hx hb dX8_signOfSum_67 rfl (lv_at hl 2 rfl) ?_
            refine lv_lconst (v := 0) hx hb dX8_signOfSum_68 (by decide) ?_
            refine W.lcmp hx hb dX8_signOfSum_69 ?_
            have J18 : ∀ (v17 : Int64) (H : Heap) (locs : List Loc) (ls : Array Slot), v17 = (if 0 ≤ (lg_cmp y 0) then y else (-y)) → va_P D vwCl [] H → va_D A [] → va_S A s.heap H locs → lv_has ls 17 [(0, .long x), (2, .long y), (4, .long z), (6, .int (f_X8_sign x)), (7, .int (if (lg_cmp z 0) = 0 then 0 else (f_X8_sign y))), (8, .long (if 0 ≤ (lg_cmp x 0) then x else (-x)))] → W p l e R s m args below meth c H locs 0 0 Q (F0 m 79 ls [.long v17]) := by
              clear hP hD hS hl
              intro v17 H locs ls ev17 hP hD hS hl
              subst ev17
              refine lv_lstore (lv' := [(10, .long (if 0 ≤ (lg_cmp y 0) then y else (-y))), (0, .long x), (2, .long y), (4, .long z), (6, .int (f_X8_sign x)), (7, .int (if (lg_cmp z 0) = 0 then 0 else (f_X8_sign y))), (8, .long (if 0 ≤ (lg_cmp x 0) then x else (-x)))]) hx hb dX8_signOfSum_79 hl (by decide) rfl (fun ls hl9 => ?_)
              replace hl := hl9
              clear hl9
              refine lv_lload hx hb dX8_signOfSum_81 (lv_at hl 6 rfl) ?_
              refine lv_lload hx hb dX8_signOfSum_83 (lv_at hl 0 rfl) ?_
              refine lv_ldiv hx hb dX8_signOfSum_85 (yk_qne (by assumption)) ?_
              refine lv_lstore (lv' := [(12, .long ((if 0 ≤ (lg_cmp x 0) then x else (-x)) / (if 0 ≤ (lg_cmp y 0) then y else (-y)))), (10, .long (if 0 ≤ (lg_cmp y 0) then y else (-y))), (0, .long x), (2, .long y), (4, .long z), (6, .int (f_X8_sign x)), (7, .int (if (lg_cmp z 0) = 0 then 0 else (f_X8_sign y))), (8, .long (if 0 ≤ (lg_cmp x 0) then x else (-x)))]) hx hb dX8_signOfSum_86 hl (by decide) rfl (fun ls hl9 => ?_)
              replace hl := hl9
              clear hl9
              refine lv_lload hx hb dX8_signOfSum_88 (lv_at hl 7 rfl) ?_
              refine lv_lload hx hb dX8_signOfSum_90 (lv_at hl 1 rfl) ?_
              refine lv_lrem hx hb dX8_signOfSum_92 (yk_qne (by assumption)) ?_
              refine lv_lstore (lv' := [(14, .long ((if 0 ≤ (lg_cmp x 0) then x else (-x)) - (if 0 ≤ (lg_cmp x 0) then x else (-x)) / (if 0 ≤ (lg_cmp y 0) then y else (-y)) * (if 0 ≤ (lg_cmp y 0) then y else (-y)))), (12, .long ((if 0 ≤ (lg_cmp x 0) then x else (-x)) / (if 0 ≤ (lg_cmp y 0) then y else (-y)))), (10, .long (if 0 ≤ (lg_cmp y 0) then y else (-y))), (0, .long x), (2, .long y), (4, .long z), (6, .int (f_X8_sign x)), (7, .int (if (lg_cmp z 0) = 0 then 0 else (f_X8_sign y))), (8, .long (if 0 ≤ (lg_cmp x 0) then x else (-x)))]) hx hb dX8_signOfSum_93 hl (by decide) rfl (fun ls hl9 => ?_)
              replace hl := hl9
              clear hl9
              refine lv_lload hx hb dX8_signOfSum_95 (lv_at hl 1 rfl) ?_
              refine lv_lload hx hb dX8_signOfSum_97 (lv_at hl 1 rfl) ?_
              refine lv_lmul hx hb dX8_signOfSum_99 ?_
              refine lv_lload hx hb dX8_signOfSum_100 (lv_at hl 5 rfl) ?_
              refine W.lcmp hx hb dX8_signOfSum_102 ?_
              have J22 : ∀ (v21 : Int32) (H : Heap) (locs : List Loc) (ls : Array Slot), v21 = (if ((lg_cmp (((if 0 ≤ (lg_cmp x 0) then x else (-x)) / (if 0 ≤ (lg_cmp y 0) then y else (-y))) * ((if 0 ≤ (lg_cmp x 0) then x else (-x)) / (if 0 ≤ (lg_cmp y 0) then y else (-y)))) z) : Int32) ≤ 0 then (if 0 < ((lg_cmp ((((if 0 ≤ (lg_cmp x 0) then x else (-x)) / (if 0 ≤ (lg_cmp y 0) then y else (-y))) + 1) * (((if 0 ≤ (lg_cmp x 0) then x else (-x)) / (if 0 ≤ (lg_cmp y 0) then y else (-y))) + 1)) z) : Int32) then (f_X8_sign (((((if 0 ≤ (lg_cmp x 0) then x else (-x)) - (if 0 ≤ (lg_cmp x 0) then x else (-x)) / (if 0 ≤ (lg_cmp y 0) then y else (-y)) * (if 0 ≤ (lg_cmp y 0) then y else (-y))) * ((if 0 ≤ (lg_cmp x 0) then x else (-x)) - (if 0 ≤ (lg_cmp x 0) then x else (-x)) / (if 0 ≤ (lg_cmp y 0) then y else (-y)) * (if 0 ≤ (lg_cmp y 0) then y else (-y)))) + (((2 * ((if 0 ≤ (lg_cmp x 0) then x else (-x)) / (if 0 ≤ (lg_cmp y 0) then y else (-y)))) * (if 0 ≤ (lg_cmp y 0) then y else (-y))) * ((if 0 ≤ (lg_cmp x 0) then x else (-x)) - (if 0 ≤ (lg_cmp x 0) then x else (-x)) / (if 0 ≤ (lg_cmp y 0) then y else (-y)) * (if 0 ≤ (lg_cmp y 0) then y else (-y))))) - (((z - (((if 0 ≤ (lg_cmp x 0) then x else (-x)) / (if 0 ≤ (lg_cmp y 0) then y else (-y))) * ((if 0 ≤ (lg_cmp x 0) then x else (-x)) / (if 0 ≤ (lg_cmp y 0) then y else (-y))))) * (if 0 ≤ (lg_cmp y 0) then y else (-y))) * (if 0 ≤ (lg_cmp y 0) then y else (-y))))) else (-1)) else 1) → va_P D vwCl [] H → va_D A [] → va_S A s.heap H locs → lv_has ls 17 [(0, .long x), (2, .long y), (4, .long z), (6, .int (f_X8_sign x)), (7, .int (if (lg_cmp z 0) = 0 then 0 else (f_X8_sign y))), (8, .long (if 0 ≤ (lg_cmp x 0) then x else (-x))), (10, .long (if 0 ≤ (lg_cmp y 0) then y else (-y))), (12, .long ((if 0 ≤ (lg_cmp x 0) then x else (-x)) / (if 0 ≤ (lg_cmp y 0) then y else (-y)))), (14, .long ((if 0 ≤ (lg_cmp x 0) then x else (-x)) - (if 0 ≤ (lg_cmp x 0) then x else (-x)) / (if 0 ≤ (lg_cmp y 0) then y else (-y)) * (if 0 ≤ (lg_cmp y 0) then y else (-y)))), (16, .int v21)] → W p l e R s m args below meth c H locs 0 0 Q (F0 m 171 ls []) := by
                clear hP hD hS hl
                intro v21 H locs ls ev21 hP hD hS hl
                subst ev21
                refine lv_iload hx hb dX8_signOfSum_171 (lv_at hl 9 rfl) ?_
                have J26 : ∀ (v25 : Int32) (H : Heap) (locs : List Loc) (ls : Array Slot), v25 = (if ((if ((lg_cmp (((if 0 ≤ (lg_cmp x 0) then x else (-x)) / (if 0 ≤ (lg_cmp y 0) then y else (-y))) * ((if 0 ≤ (lg_cmp x 0) then x else (-x)) / (if 0 ≤ (lg_cmp y 0) then y else (-y)))) z) : Int32) ≤ 0 then (if 0 < ((lg_cmp ((((if 0 ≤ (lg_cmp x 0) then x else (-x)) / (if 0 ≤ (lg_cmp y 0) then y else (-y))) + 1) * (((if 0 ≤ (lg_cmp x 0) then x else (-x)) / (if 0 ≤ (lg_cmp y 0) then y else (-y))) + 1)) z) : Int32) then (f_X8_sign (((((if 0 ≤ (lg_cmp x 0) then x else (-x)) - (if 0 ≤ (lg_cmp x 0) then x else (-x)) / (if 0 ≤ (lg_cmp y 0) then y else (-y)) * (if 0 ≤ (lg_cmp y 0) then y else (-y))) * ((if 0 ≤ (lg_cmp x 0) then x else (-x)) - (if 0 ≤ (lg_cmp x 0) then x else (-x)) / (if 0 ≤ (lg_cmp y 0) then y else (-y)) * (if 0 ≤ (lg_cmp y 0) then y else (-y)))) + (((2 * ((if 0 ≤ (lg_cmp x 0) then x else (-x)) / (if 0 ≤ (lg_cmp y 0) then y else (-y)))) * (if 0 ≤ (lg_cmp y 0) then y else (-y))) * ((if 0 ≤ (lg_cmp x 0) then x else (-x)) - (if 0 ≤ (lg_cmp x 0) then x else (-x)) / (if 0 ≤ (lg_cmp y 0) then y else (-y)) * (if 0 ≤ (lg_cmp y 0) then y else (-y))))) - (((z - (((if 0 ≤ (lg_cmp x 0) then x else (-x)) / (if 0 ≤ (lg_cmp y 0) then y else (-y))) * ((if 0 ≤ (lg_cmp x 0) then x else (-x)) / (if 0 ≤ (lg_cmp y 0) then y else (-y))))) * (if 0 ≤ (lg_cmp y 0) then y else (-y))) * (if 0 ≤ (lg_cmp y 0) then y else (-y))))) else (-1)) else 1) : Int32) ≤ 0 then (if 0 ≤ ((if ((lg_cmp (((if 0 ≤ (lg_cmp x 0) then x else (-x)) / (if 0 ≤ (lg_cmp y 0) then y else (-y))) * ((if 0 ≤ (lg_cmp x 0) then x else (-x)) / (if 0 ≤ (lg_cmp y 0) then y else (-y)))) z) : Int32) ≤ 0 then (if 0 < ((lg_cmp ((((if 0 ≤ (lg_cmp x 0) then x else (-x)) / (if 0 ≤ (lg_cmp y 0) then y else (-y))) + 1) * (((if 0 ≤ (lg_cmp x 0) then x else (-x)) / (if 0 ≤ (lg_cmp y 0) then y else (-y))) + 1)) z) : Int32) then (f_X8_sign (((((if 0 ≤ (lg_cmp x 0) then x else (-x)) - (if 0 ≤ (lg_cmp x 0) then x else (-x)) / (if 0 ≤ (lg_cmp y 0) then y else (-y)) * (if 0 ≤ (lg_cmp y 0) then y else (-y))) * ((if 0 ≤ (lg_cmp x 0) then x else (-x)) - (if 0 ≤ (lg_cmp x 0) then x else (-x)) / (if 0 ≤ (lg_cmp y 0) then y else (-y)) * (if 0 ≤ (lg_cmp y 0) then y else (-y)))) + (((2 * ((if 0 ≤ (lg_cmp x 0) then x else (-x)) / (if 0 ≤ (lg_cmp y 0) then y else (-y)))) * (if 0 ≤ (lg_cmp y 0) then y else (-y))) * ((if 0 ≤ (lg_cmp x 0) then x else (-x)) - (if 0 ≤ (lg_cmp x 0) then x else (-x)) / (if 0 ≤ (lg_cmp y 0) then y else (-y)) * (if 0 ≤ (lg_cmp y 0) then y else (-y))))) - (((z - (((if 0 ≤ (lg_cmp x 0) then x else (-x)) / (if 0 ≤ (lg_cmp y 0) then y else (-y))) * ((if 0 ≤ (lg_cmp x 0) then x else (-x)) / (if 0 ≤ (lg_cmp y 0) then y else (-y))))) * (if 0 ≤ (lg_cmp y 0) then y else (-y))) * (if 0 ≤ (lg_cmp y 0) then y else (-y))))) else (-1)) else 1) : Int32) then 0 else (if (lg_cmp z 0) = 0 then 0 else (f_X8_sign y))) else (f_X8_sign x)) → va_P D vwCl [] H → va_D A [] → va_S A s.heap H locs → lv_has ls 17 [(0, .long x), (2, .long y), (4, .long z), (6, .int (f_X8_sign x)), (7, .int (if (lg_cmp z 0) = 0 then 0 else (f_X8_sign y))), (8, .long (if 0 ≤ (lg_cmp x 0) then x else (-x))), (10, .long (if 0 ≤ (lg_cmp y 0) then y else (-y))), (12, .long ((if 0 ≤ (lg_cmp x 0) then x else (-x)) / (if 0 ≤ (lg_cmp y 0) then y else (-y)))), (14, .long ((if 0 ≤ (lg_cmp x 0) then x else (-x)) - (if 0 ≤ (lg_cmp x 0) then x else (-x)) / (if 0 ≤ (lg_cmp y 0) then y else (-y)) * (if 0 ≤ (lg_cmp y 0) then y else (-y)))), (16, .int (if ((lg_cmp (((if 0 ≤ (lg_cmp x 0) then x else (-x)) / (if 0 ≤ (lg_cmp y 0) then y else (-y))) * ((if 0 ≤ (lg_cmp x 0) then x else (-x)) / (if 0 ≤ (lg_cmp y 0) then y else (-y)))) z) : Int32) ≤ 0 then (if 0 < ((lg_cmp ((((if 0 ≤ (lg_cmp x 0) then x else (-x)) / (if 0 ≤ (lg_cmp y 0) then y else (-y))) + 1) * (((if 0 ≤ (lg_cmp x 0) then x else (-x)) / (if 0 ≤ (lg_cmp y 0) then y else (-y))) + 1)) z) : Int32) then (f_X8_sign (((((if 0 ≤ (lg_cmp x 0) then x else (-x)) - (if 0 ≤ (lg_cmp x 0) then x else (-x)) / (if 0 ≤ (lg_cmp y 0) then y else (-y)) * (if 0 ≤ (lg_cmp y 0) then y else (-y))) * ((if 0 ≤ (lg_cmp x 0) then x else (-x)) - (if 0 ≤ (lg_cmp x 0) then x else (-x)) / (if 0 ≤ (lg_cmp y 0) then y else (-y)) * (if 0 ≤ (lg_cmp y 0) then y else (-y)))) + (((2 * ((if 0 ≤ (lg_cmp x 0) then x else (-x)) / (if 0 ≤ (lg_cmp y 0) then y else (-y)))) * (if 0 ≤ (lg_cmp y 0) then y else (-y))) * ((if 0 ≤ (lg_cmp x 0) then x else (-x)) - (if 0 ≤ (lg_cmp x 0) then x else (-x)) / (if 0 ≤ (lg_cmp y 0) then y else (-y)) * (if 0 ≤ (lg_cmp y 0) then y else (-y))))) - (((z - (((if 0 ≤ (lg_cmp x 0) then x else (-x)) / (if 0 ≤ (lg_cmp y 0) then y else (-y))) * ((if 0 ≤ (lg_cmp x 0) then x else (-x)) / (if 0 ≤ (lg_cmp y 0) then y else (-y))))) * (if 0 ≤ (lg_cmp y 0) then y else (-y))) * (if 0 ≤ (lg_cmp y 0) then y else (-y))))) else (-1)) else 1))] → W p l e R s m args below meth c H locs 0 0 Q (F0 m 192 ls [.int v25]) := by
                  clear hP hD hS hl
                  intro v25 H locs ls ev25 hP hD hS hl
                  subst ev25
                  have hF : f_X8_signOfSum x y z = (if ((if ((lg_cmp (((if 0 ≤ (lg_cmp x 0) then x else (-x)) / (if 0 ≤ (lg_cmp y 0) then y else (-y))) * ((if 0 ≤ (lg_cmp x 0) then x else (-x)) / (if 0 ≤ (lg_cmp y 0) then y else (-y)))) z) : Int32) ≤ 0 then (if 0 < ((lg_cmp ((((if 0 ≤ (lg_cmp x 0) then x else (-x)) / (if 0 ≤ (lg_cmp y 0) then y else (-y))) + 1) * (((if 0 ≤ (lg_cmp x 0) then x else (-x)) / (if 0 ≤ (lg_cmp y 0) then y else (-y))) + 1)) z) : Int32) then (f_X8_sign (((((if 0 ≤ (lg_cmp x 0) then x else (-x)) - (if 0 ≤ (lg_cmp x 0) then x else (-x)) / (if 0 ≤ (lg_cmp y 0) then y else (-y)) * (if 0 ≤ (lg_cmp y 0) then y else (-y))) * ((if 0 ≤ (lg_cmp x 0) then x else (-x)) - (if 0 ≤ (lg_cmp x 0) then x else (-x)) / (if 0 ≤ (lg_cmp y 0) then y else (-y)) * (if 0 ≤ (lg_cmp y 0) then y else (-y)))) + (((2 * ((if 0 ≤ (lg_cmp x 0) then x else (-x)) / (if 0 ≤ (lg_cmp y 0) then y else (-y)))) * (if 0 ≤ (lg_cmp y 0) then y else (-y))) * ((if 0 ≤ (lg_cmp x 0) then x else (-x)) - (if 0 ≤ (lg_cmp x 0) then x else (-x)) / (if 0 ≤ (lg_cmp y 0) then y else (-y)) * (if 0 ≤ (lg_cmp y 0) then y else (-y))))) - (((z - (((if 0 ≤ (lg_cmp x 0) then x else (-x)) / (if 0 ≤ (lg_cmp y 0) then y else (-y))) * ((if 0 ≤ (lg_cmp x 0) then x else (-x)) / (if 0 ≤ (lg_cmp y 0) then y else (-y))))) * (if 0 ≤ (lg_cmp y 0) then y else (-y))) * (if 0 ≤ (lg_cmp y 0) then y else (-y))))) else (-1)) else 1) : Int32) ≤ 0 then (if 0 ≤ ((if ((lg_cmp (((if 0 ≤ (lg_cmp x 0) then x else (-x)) / (if 0 ≤ (lg_cmp y 0) then y else (-y))) * ((if 0 ≤ (lg_cmp x 0) then x else (-x)) / (if 0 ≤ (lg_cmp y 0) then y else (-y)))) z) : Int32) ≤ 0 then (if 0 < ((lg_cmp ((((if 0 ≤ (lg_cmp x 0) then x else (-x)) / (if 0 ≤ (lg_cmp y 0) then y else (-y))) + 1) * (((if 0 ≤ (lg_cmp x 0) then x else (-x)) / (if 0 ≤ (lg_cmp y 0) then y else (-y))) + 1)) z) : Int32) then (f_X8_sign (((((if 0 ≤ (lg_cmp x 0) then x else (-x)) - (if 0 ≤ (lg_cmp x 0) then x else (-x)) / (if 0 ≤ (lg_cmp y 0) then y else (-y)) * (if 0 ≤ (lg_cmp y 0) then y else (-y))) * ((if 0 ≤ (lg_cmp x 0) then x else (-x)) - (if 0 ≤ (lg_cmp x 0) then x else (-x)) / (if 0 ≤ (lg_cmp y 0) then y else (-y)) * (if 0 ≤ (lg_cmp y 0) then y else (-y)))) + (((2 * ((if 0 ≤ (lg_cmp x 0) then x else (-x)) / (if 0 ≤ (lg_cmp y 0) then y else (-y)))) * (if 0 ≤ (lg_cmp y 0) then y else (-y))) * ((if 0 ≤ (lg_cmp x 0) then x else (-x)) - (if 0 ≤ (lg_cmp x 0) then x else (-x)) / (if 0 ≤ (lg_cmp y 0) then y else (-y)) * (if 0 ≤ (lg_cmp y 0) then y else (-y))))) - (((z - (((if 0 ≤ (lg_cmp x 0) then x else (-x)) / (if 0 ≤ (lg_cmp y 0) then y else (-y))) * ((if 0 ≤ (lg_cmp x 0) then x else (-x)) / (if 0 ≤ (lg_cmp y 0) then y else (-y))))) * (if 0 ≤ (lg_cmp y 0) then y else (-y))) * (if 0 ≤ (lg_cmp y 0) then y else (-y))))) else (-1)) else 1) : Int32) then 0 else (if (lg_cmp z 0) = 0 then 0 else (f_X8_sign y))) else (f_X8_sign x)) := hF
                  rw [hF] at hQ
                  exact hQ _ _ _ _ dX8_signOfSum_192 hP hS
                refine lv_if_le (tgt := 181) hx hb dX8_signOfSum_173 (by decide) (fun hc23 => ?_) (fun hc23 => ?_)
                · refine lv_iload hx hb dX8_signOfSum_181 (lv_at hl 9 rfl) ?_
                  refine lv_if_ge (tgt := 191) hx hb dX8_signOfSum_183 (by decide) (fun hc24 => ?_) (fun hc24 => ?_)
                  · refine lv_iconst (v := 0) hx hb dX8_signOfSum_191 (by decide) ?_
                    exact J26 _ _ _ _ (((if_pos hc23).trans (if_pos hc24)).symm) hP hD hS (lv_sub hl [0, 1, 2, 3, 4, 5, 6, 7, 8, 9] rfl)
                  · refine lv_iload hx hb dX8_signOfSum_186 (lv_at hl 4 rfl) ?_
                    refine lv_goto (tgt := 192) hx hb dX8_signOfSum_188 (by decide) ?_
                    exact J26 _ _ _ _ (((if_pos hc23).trans (if_neg hc24)).symm) hP hD hS (lv_sub hl [0, 1, 2, 3, 4, 5, 6, 7, 8, 9] rfl)
                · refine lv_iload hx hb dX8_signOfSum_176 (lv_at hl 3 rfl) ?_
                  refine lv_goto (tgt := 192) hx hb dX8_signOfSum_178 (by decide) ?_
                  exact J26 _ _ _ _ ((if_neg hc23).symm) hP hD hS (lv_sub hl [0, 1, 2, 3, 4, 5, 6, 7, 8, 9] rfl)
              refine lv_if_le (tgt := 112) hx hb dX8_signOfSum_103 (by decide) (fun hc19 => ?_) (fun hc19 => ?_)
              · refine lv_lload hx hb dX8_signOfSum_112 (lv_at hl 1 rfl) ?_
                refine lv_lconst (v := 1) hx hb dX8_signOfSum_114 (by decide) ?_
                refine lv_ladd hx hb dX8_signOfSum_115 ?_
                refine lv_lload hx hb dX8_signOfSum_116 (lv_at hl 1 rfl) ?_
                refine lv_lconst (v := 1) hx hb dX8_signOfSum_118 (by decide) ?_
                refine lv_ladd hx hb dX8_signOfSum_119 ?_
                refine lv_lmul hx hb dX8_signOfSum_120 ?_
                refine lv_lload hx hb dX8_signOfSum_121 (lv_at hl 5 rfl) ?_
                refine W.lcmp hx hb dX8_signOfSum_123 ?_
                refine lv_if_gt (tgt := 133) hx hb dX8_signOfSum_124 (by decide) (fun hc20 => ?_) (fun hc20 => ?_)
                · refine lv_lload hx hb dX8_signOfSum_133 (lv_at hl 0 rfl) ?_
                  refine lv_lload hx hb dX8_signOfSum_135 (lv_at hl 0 rfl) ?_
                  refine lv_lmul hx hb dX8_signOfSum_137 ?_
                  refine lv_ldc2 (v := 2) hx hb hown (hts _ kX8_signOfSum_0) dX8_signOfSum_138 ?_
                  refine lv_lload hx hb dX8_signOfSum_141 (lv_at hl 1 rfl) ?_
                  refine lv_lmul hx hb dX8_signOfSum_143 ?_
                  refine lv_lload hx hb dX8_signOfSum_144 (lv_at hl 2 rfl) ?_
                  refine lv_lmul hx hb dX8_signOfSum_146 ?_
                  refine lv_lload hx hb dX8_signOfSum_147 (lv_at hl 0 rfl) ?_
                  refine lv_lmul hx hb dX8_signOfSum_149 ?_
                  refine lv_ladd hx hb dX8_signOfSum_150 ?_
                  refine lv_lload hx hb dX8_signOfSum_151 (lv_at hl 5 rfl) ?_
                  refine lv_lload hx hb dX8_signOfSum_153 (lv_at hl 1 rfl) ?_
                  refine lv_lload hx hb dX8_signOfSum_155 (lv_at hl 1 rfl) ?_
                  refine lv_lmul hx hb dX8_signOfSum_157 ?_
                  refine lv_lsub hx hb dX8_signOfSum_158 ?_
                  refine lv_lload hx hb dX8_signOfSum_159 (lv_at hl 2 rfl) ?_
                  refine lv_lmul hx hb dX8_signOfSum_161 ?_
                  refine lv_lload hx hb dX8_signOfSum_162 (lv_at hl 2 rfl) ?_
                  refine lv_lmul hx hb dX8_signOfSum_164 ?_
                  refine lv_lsub hx hb dX8_signOfSum_165 ?_
                  refine yk_i [] (va_runS (As := [.long (((((if 0 ≤ (lg_cmp x 0) then x else (-x)) - (if 0 ≤ (lg_cmp x 0) then x else (-x)) / (if 0 ≤ (lg_cmp y 0) then y else (-y)) * (if 0 ≤ (lg_cmp y 0) then y else (-y))) * ((if 0 ≤ (lg_cmp x 0) then x else (-x)) - (if 0 ≤ (lg_cmp x 0) then x else (-x)) / (if 0 ≤ (lg_cmp y 0) then y else (-y)) * (if 0 ≤ (lg_cmp y 0) then y else (-y)))) + (((2 * ((if 0 ≤ (lg_cmp x 0) then x else (-x)) / (if 0 ≤ (lg_cmp y 0) then y else (-y)))) * (if 0 ≤ (lg_cmp y 0) then y else (-y))) * ((if 0 ≤ (lg_cmp x 0) then x else (-x)) - (if 0 ≤ (lg_cmp x 0) then x else (-x)) / (if 0 ≤ (lg_cmp y 0) then y else (-y)) * (if 0 ≤ (lg_cmp y 0) then y else (-y))))) - (((z - (((if 0 ≤ (lg_cmp x 0) then x else (-x)) / (if 0 ≤ (lg_cmp y 0) then y else (-y))) * ((if 0 ≤ (lg_cmp x 0) then x else (-x)) / (if 0 ≤ (lg_cmp y 0) then y else (-y))))) * (if 0 ≤ (lg_cmp y 0) then y else (-y))) * (if 0 ≤ (lg_cmp y 0) then y else (-y))))]) (rest := []) ⟨hx, hb, hml, hown, hts⟩ (c_X8_sign l D cy (((((if 0 ≤ (lg_cmp x 0) then x else (-x)) - (if 0 ≤ (lg_cmp x 0) then x else (-x)) / (if 0 ≤ (lg_cmp y 0) then y else (-y)) * (if 0 ≤ (lg_cmp y 0) then y else (-y))) * ((if 0 ≤ (lg_cmp x 0) then x else (-x)) - (if 0 ≤ (lg_cmp x 0) then x else (-x)) / (if 0 ≤ (lg_cmp y 0) then y else (-y)) * (if 0 ≤ (lg_cmp y 0) then y else (-y)))) + (((2 * ((if 0 ≤ (lg_cmp x 0) then x else (-x)) / (if 0 ≤ (lg_cmp y 0) then y else (-y)))) * (if 0 ≤ (lg_cmp y 0) then y else (-y))) * ((if 0 ≤ (lg_cmp x 0) then x else (-x)) - (if 0 ≤ (lg_cmp x 0) then x else (-x)) / (if 0 ≤ (lg_cmp y 0) then y else (-y)) * (if 0 ≤ (lg_cmp y 0) then y else (-y))))) - (((z - (((if 0 ≤ (lg_cmp x 0) then x else (-x)) / (if 0 ≤ (lg_cmp y 0) then y else (-y))) * ((if 0 ≤ (lg_cmp x 0) then x else (-x)) / (if 0 ≤ (lg_cmp y 0) then y else (-y))))) * (if 0 ≤ (lg_cmp y 0) then y else (-y))) * (if 0 ≤ (lg_cmp y 0) then y else (-y)))) H.size) (va_cwS 1 hts gX8_signOfSum_X8_sign rfl rfl rfl hs_X8_sign (yk_room hRf hRl rfl rfl)) (yk_ps hG hA hS hK hP hD [] (by decide +kernel) rfl) rfl rfl hl.1 rfl (lv_room (Nat.le_of_ble_eq_true rfl)) dX8_signOfSum_166 ⟨Nat.zero_le _, Nat.zero_le _⟩) hP hD hS hA rfl rfl (fun H locs hP9 hD9 hS9 => ?_)
                  replace hP : va_P D vwCl [] H := hP9
                  replace hD : va_D A [] := hD9
                  replace hS := hS9
                  clear hP9 hD9 hS9
                  refine lv_istore (lv' := [(16, .int (f_X8_sign (((((if 0 ≤ (lg_cmp x 0) then x else (-x)) - (if 0 ≤ (lg_cmp x 0) then x else (-x)) / (if 0 ≤ (lg_cmp y 0) then y else (-y)) * (if 0 ≤ (lg_cmp y 0) then y else (-y))) * ((if 0 ≤ (lg_cmp x 0) then x else (-x)) - (if 0 ≤ (lg_cmp x 0) then x else (-x)) / (if 0 ≤ (lg_cmp y 0) then y else (-y)) * (if 0 ≤ (lg_cmp y 0) then y else (-y)))) + (((2 * ((if 0 ≤ (lg_cmp x 0) then x else (-x)) / (if 0 ≤ (lg_cmp y 0) then y else (-y)))) * (if 0 ≤ (lg_cmp y 0) then y else (-y))) * ((if 0 ≤ (lg_cmp x 0) then x else (-x)) - (if 0 ≤ (lg_cmp x 0) then x else (-x)) / (if 0 ≤ (lg_cmp y 0) then y else (-y)) * (if 0 ≤ (lg_cmp y 0) then y else (-y))))) - (((z - (((if 0 ≤ (lg_cmp x 0) then x else (-x)) / (if 0 ≤ (lg_cmp y 0) then y else (-y))) * ((if 0 ≤ (lg_cmp x 0) then x else (-x)) / (if 0 ≤ (lg_cmp y 0) then y else (-y))))) * (if 0 ≤ (lg_cmp y 0) then y else (-y))) * (if 0 ≤ (lg_cmp y 0) then y else (-y)))))), (14, .long ((if 0 ≤ (lg_cmp x 0) then x else (-x)) - (if 0 ≤ (lg_cmp x 0) then x else (-x)) / (if 0 ≤ (lg_cmp y 0) then y else (-y)) * (if 0 ≤ (lg_cmp y 0) then y else (-y)))), (12, .long ((if 0 ≤ (lg_cmp x 0) then x else (-x)) / (if 0 ≤ (lg_cmp y 0) then y else (-y)))), (10, .long (if 0 ≤ (lg_cmp y 0) then y else (-y))), (0, .long x), (2, .long y), (4, .long z), (6, .int (f_X8_sign x)), (7, .int (if (lg_cmp z 0) = 0 then 0 else (f_X8_sign y))), (8, .long (if 0 ≤ (lg_cmp x 0) then x else (-x)))]) hx hb dX8_signOfSum_169 hl (by decide) rfl (fun ls hl9 => ?_)
                  replace hl := hl9
                  clear hl9
                  exact J22 _ _ _ _ (((if_pos hc19).trans (if_pos hc20)).symm) hP hD hS (lv_sub hl [4, 5, 6, 7, 8, 9, 3, 2, 1, 0] rfl)
                · refine lv_iconst (v := (-1)) hx hb dX8_signOfSum_127 (by decide) ?_
                  refine lv_istore (lv' := [(16, .int (-1)), (14, .long ((if 0 ≤ (lg_cmp x 0) then x else (-x)) - (if 0 ≤ (lg_cmp x 0) then x else (-x)) / (if 0 ≤ (lg_cmp y 0) then y else (-y)) * (if 0 ≤ (lg_cmp y 0) then y else (-y)))), (12, .long ((if 0 ≤ (lg_cmp x 0) then x else (-x)) / (if 0 ≤ (lg_cmp y 0) then y else (-y)))), (10, .long (if 0 ≤ (lg_cmp y 0) then y else (-y))), (0, .long x), (2, .long y), (4, .long z), (6, .int (f_X8_sign x)), (7, .int (if (lg_cmp z 0) = 0 then 0 else (f_X8_sign y))), (8, .long (if 0 ≤ (lg_cmp x 0) then x else (-x)))]) hx hb dX8_signOfSum_128 hl (by decide) rfl (fun ls hl9 => ?_)
                  replace hl := hl9
                  clear hl9
                  refine lv_goto (tgt := 171) hx hb dX8_signOfSum_130 (by decide) ?_
                  exact J22 _ _ _ _ (((if_pos hc19).trans (if_neg hc20)).symm) hP hD hS (lv_sub hl [4, 5, 6, 7, 8, 9, 3, 2, 1, 0] rfl)
              · refine lv_iconst (v := 1) hx hb dX8_signOfSum_106 (by decide) ?_
                refine lv_istore (lv' := [(16, .int 1), (14, .long ((if 0 ≤ (lg_cmp x 0) then x else (-x)) - (if 0 ≤ (lg_cmp x 0) then x else (-x)) / (if 0 ≤ (lg_cmp y 0) then y else (-y)) * (if 0 ≤ (lg_cmp y 0) then y else (-y)))), (12, .long ((if 0 ≤ (lg_cmp x 0) then x else (-x)) / (if 0 ≤ (lg_cmp y 0) then y else (-y)))), (10, .long (if 0 ≤ (lg_cmp y 0) then y else (-y))), (0, .long x), (2, .long y), (4, .long z), (6, .int (f_X8_sign x)), (7, .int (if (lg_cmp z 0) = 0 then 0 else (f_X8_sign y))), (8, .long (if 0 ≤ (lg_cmp x 0) then x else (-x)))]) hx hb dX8_signOfSum_107 hl (by decide) rfl (fun ls hl9 => ?_)
                replace hl := hl9
                clear hl9
                refine lv_goto (tgt := 171) hx hb dX8_signOfSum_109 (by decide) ?_
                exact J22 _ _ _ _ ((if_neg hc19).symm) hP hD hS (lv_sub hl [4, 5, 6, 7, 8, 9, 3, 2, 1, 0] rfl)
            refine lv_if_ge (tgt := 78) hx hb dX8_signOfSum_70 (by decide) (fun hc16 => ?_) (fun hc16 => ?_)
            · refine lv_lload_n hx hb dX8_signOfSum_78 rfl (lv_at hl 2 rfl) ?_
              exact J18 _ _ _ _ ((if_pos hc16).symm) hP hD hS (lv_sub hl [1, 2, 3, 4, 5, 0] rfl)
            · refine lv_lload_n hx hb dX8_signOfSum_73 rfl (lv_at hl 2 rfl) ?_
              refine lv_lneg hx hb dX8_signOfSum_74 ?_
              refine lv_goto (tgt := 79) hx hb dX8_signOfSum_75 (by decide) ?_
              exact J18 _ _ _ _ ((if_neg hc16).symm) hP hD hS (lv_sub hl [1, 2, 3, 4, 5, 0] rfl)
          refine lv_if_ge (tgt := 64) hx hb dX8_signOfSum_56 (by decide) (fun hc13 => ?_) (fun hc13 => ?_)
          · refine lv_lload_n hx hb dX8_signOfSum_64 rfl (lv_at hl 1 rfl) ?_
            exact J15 _ _ _ _ ((if_pos hc13).symm) hP hD hS (lv_sub hl [1, 2, 3, 4, 0] rfl)
          · refine lv_lload_n hx hb dX8_signOfSum_59 rfl (lv_at hl 1 rfl) ?_
            refine lv_lneg hx hb dX8_signOfSum_60 ?_
            refine lv_goto (tgt := 65) hx hb dX8_signOfSum_61 (by decide) ?_
            exact J15 _ _ _ _ ((if_neg hc13).symm) hP hD hS (lv_sub hl [1, 2, 3, 4, 0] rfl)
        · replace hF := hF.trans (if_pos hc12)
          refine lv_iload hx hb dX8_signOfSum_40 (lv_at hl 4 rfl) ?_
          have J29 : ∀ (v28 : Int32) (H : Heap) (locs : List Loc) (ls : Array Slot), v28 = (if (f_X8_sign x) = 0 then (if (lg_cmp z 0) = 0 then 0 else (f_X8_sign y)) else (f_X8_sign x)) → va_P D vwCl [] H → va_D A [] → va_S A s.heap H locs → lv_has ls 17 [(0, .long x), (2, .long y), (4, .long z), (6, .int (f_X8_sign x)), (7, .int (if (lg_cmp z 0) = 0 then 0 else (f_X8_sign y)))] → W p l e R s m args below meth c H locs 0 0 Q (F0 m 52 ls [.int v28]) := by
            clear hP hD hS hl
            intro v28 H locs ls ev28 hP hD hS hl
            subst ev28
            have hF : f_X8_signOfSum x y z = (if (f_X8_sign x) = 0 then (if (lg_cmp z 0) = 0 then 0 else (f_X8_sign y)) else (f_X8_sign x)) := hF
            rw [hF] at hQ
            exact hQ _ _ _ _ dX8_signOfSum_52 hP hS
          refine lv_if_ne (tgt := 50) hx hb dX8_signOfSum_42 (by decide) (fun hc27 => ?_) (fun hc27 => ?_)
          · refine lv_iload hx hb dX8_signOfSum_50 (lv_at hl 4 rfl) ?_
            exact J29 _ _ _ _ ((if_neg hc27).symm) hP hD hS (lv_sub hl [1, 2, 3, 4, 0] rfl)
          · refine lv_iload hx hb dX8_signOfSum_45 (lv_at hl 0 rfl) ?_
            refine lv_goto (tgt := 52) hx hb dX8_signOfSum_47 (by decide) ?_
            exact J29 _ _ _ _ ((if_pos hc27).symm) hP hD hS (lv_sub hl [1, 2, 3, 4, 0] rfl)
  refine lv_if_ne (tgt := 17) hx hb dX8_signOfSum_10 (by decide) (fun hc1 => ?_) (fun hc1 => ?_)
  · refine lv_lload_n hx hb dX8_signOfSum_17 rfl (lv_at hl 2 rfl) ?_
    refine yk_i [] (va_runS (As := [.long y]) (rest := []) ⟨hx, hb, hml, hown, hts⟩ (c_X8_sign l D cy y H.size) (va_cwS 1 hts gX8_signOfSum_X8_sign rfl rfl rfl hs_X8_sign (yk_room hRf hRl rfl rfl)) (yk_ps hG hA hS hK hP hD [] (by decide +kernel) rfl) rfl rfl hl.1 rfl (lv_room (Nat.le_of_ble_eq_true rfl)) dX8_signOfSum_18 ⟨Nat.zero_le _, Nat.zero_le _⟩) hP hD hS hA rfl rfl (fun H locs hP9 hD9 hS9 => ?_)
    replace hP : va_P D vwCl [] H := hP9
    replace hD : va_D A [] := hD9
    replace hS := hS9
    clear hP9 hD9 hS9
    exact J3 _ _ _ _ ((if_neg hc1).symm) hP hD hS (lv_sub hl [1, 2, 3, 0] rfl)
  · refine lv_iconst (v := 0) hx hb dX8_signOfSum_13 (by decide) ?_
    refine lv_goto (tgt := 21) hx hb dX8_signOfSum_14 (by decide) ?_
    exact J3 _ _ _ _ ((if_pos hc1).symm) hP hD hS (lv_sub hl [1, 2, 3, 0] rfl)

theorem kX8_signAt_0 : Cond.fieldLink RX8 139 "FlowPlaneModel" "a" "J" ∈ wsX8_signAt := by decide +kernel
theorem kX8_signAt_1 : Cond.fieldLink RX8 143 "FlowPlaneModel" "b" "J" ∈ wsX8_signAt := by decide +kernel
theorem kX8_signAt_2 : Cond.fieldLink RX8 146 "FlowPlaneModel" "c" "J" ∈ wsX8_signAt := by decide +kernel
theorem kX8_signAt_3 : Cond.constantLong RX8 168 4 ∈ wsX8_signAt := by decide +kernel
theorem kX8_signAt_4 : Cond.constantLong RX8 170 2 ∈ wsX8_signAt := by decide +kernel
theorem uX8_signAt_X8 : ∀ w ∈ u_ws RX8 TX8 23, w ∈ wsX8_signAt := by decide +kernel
def f_X8_signAt (aa : Int64) (bb : Int64) (dd : Int64) (px : Int32) (ya : Int64) (yb : Int64) (yc : Int64) : Int32 := (if (lg_cmp aa 0) = 0 then (f_X8_sign ((((ya * dd) * dd) - ((yb * bb) * dd)) + ((yc * bb) * bb))) else (f_X8_signOfSum (((2 * aa) * ((aa * yc) - (ya * dd))) - (((aa * yb) - (ya * bb)) * bb)) (if px = 2 then 0 else (if ((if ((if px = 1 then 1 else 0) : Int32) = (if (lg_cmp aa 0) ≤ 0 then 0 else 1) then 1 else 0) : Int32) = 0 then (-((aa * yb) - (ya * bb))) else ((aa * yb) - (ya * bb)))) ((bb * bb) - ((4 * aa) * dd))))
set_option maxHeartbeats 400000000 in
set_option maxRecDepth 100000 in
theorem c_X8_signAt (l : Launch) (D : va_G) (cy : Nat → ClassId) (ta : Nat) (m_now : Nat) (m_undone : Nat) (m_slots : Nat) (m_slotKind : Nat) (m_hasSlot : Nat) (m_sheetBits : Nat) (m_sheetSize : Nat) (m_sheets : Nat) (m_fresh : Nat) (m_rootWhich : Nat) (m_signs : Nat) (m_atNought : Nat) (m_change : Nat) (m_table : Nat) (m_carried : Nat) (u : Nat) (fi : Int32) (aa : Int64) (bb : Int64) (dd : Int64) (ro : Nat) (db : Int32) (mn : Nat) (px : Int32) (ya : Int64) (yb : Int64) (yc : Int64) : yk_Ci l D vwCl (yk_ty cy) yX8_signAt wsX8_signAt 2 57 [.ref ta, .int px, .long ya, .long yb, .long yc] [(ta, .inr (8, [.ref m_now, .ref m_undone, .ref m_slots, .ref m_slotKind, .ref m_hasSlot, .ref m_sheetBits, .ref m_sheetSize, .ref m_sheets, .int (nI u), .int fi, .ref m_fresh, .long aa, .long bb, .long dd, .int (nI ro), .ref m_rootWhich, .int db, .ref m_signs, .ref m_atNought, .int (nI mn), .ref m_change, .ref m_table, .ref m_carried]))] (f_X8_signAt aa bb dd px ya yb yc) [(ta, .inr (8, [.ref m_now, .ref m_undone, .ref m_slots, .ref m_slotKind, .ref m_hasSlot, .ref m_sheetBits, .ref m_sheetSize, .ref m_sheets, .int (nI u), .int fi, .ref m_fresh, .long aa, .long bb, .long dd, .int (nI ro), .ref m_rootWhich, .int db, .ref m_signs, .ref m_atNought, .int (nI mn), .ref m_change, .ref m_table, .ref m_carried]))] := by
  refine yk_eI (cc := cX8_signAt) (maxL := 15) (by decide) rfl (Nat.le_of_ble_eq_true rfl) rfl ?_
  intro p e R s m args below meth c A Q ls H locs hx hb hml hown hts hRf hRl hA hK hG hP hD hS hl hQ
  have hP : va_P D vwCl [(ta, .inr (8, [.ref m_now, .ref m_undone, .ref m_slots, .ref m_slotKind, .ref m_hasSlot, .ref m_sheetBits, .ref m_sheetSize, .ref m_sheets, .int (nI u), .int fi, .ref m_fresh, .long aa, .long bb, .long dd, .int (nI ro), .ref m_rootWhich, .int db, .ref m_signs, .ref m_atNought, .int (nI mn), .ref m_change, .ref m_table, .ref m_carried]))] H := hP
  have hl : lv_has ls 15 [(0, .ref ta), (1, .int px), (2, .long ya), (4, .long yb), (6, .long yc)] := hl
  have hown : s.vm.findClass RX8 = some m.cls := hown
  have hF : (f_X8_signAt aa bb dd px ya yb yc) = (f_X8_signAt aa bb dd px ya yb yc) := rfl
  refine lv_aload_n hx hb dX8_signAt_0 rfl (lv_at hl 0 rfl) ?_
  refine va_get (D := D) (ci := 8) (v := .long aa) (C := RX8) (T := TX8) (N := 23) hx hb hts uX8_signAt_X8 hown hK hP 0 rfl rfl 11 (by decide) (hts _ kX8_signAt_0) (fun _ h9 => h9) rfl dX8_signAt_1 ?_
  refine lv_lconst (v := 0) hx hb dX8_signAt_4 (by decide) ?_
  refine W.lcmp hx hb dX8_signAt_5 ?_
  refine lv_if_ne (tgt := 50) hx hb dX8_signAt_6 (by decide) (fun hc1 => ?_) (fun hc1 => ?_)
  · replace hF := hF.trans (if_neg hc1)
    refine lv_aload_n hx hb dX8_signAt_50 rfl (lv_at hl 0 rfl) ?_
    refine va_get (D := D) (ci := 8) (v := .long aa) (C := RX8) (T := TX8) (N := 23) hx hb hts uX8_signAt_X8 hown hK hP 0 rfl rfl 11 (by decide) (hts _ kX8_signAt_0) (fun _ h9 => h9) rfl dX8_signAt_51 ?_
    refine lv_lload hx hb dX8_signAt_54 (lv_at hl 3 rfl) ?_
    refine lv_lmul hx hb dX8_signAt_56 ?_
    refine lv_lload_n hx hb dX8_signAt_57 rfl (lv_at hl 2 rfl) ?_
    refine lv_aload_n hx hb dX8_signAt_58 rfl (lv_at hl 0 rfl) ?_
    refine va_get (D := D) (ci := 8) (v := .long bb) (C := RX8) (T := TX8) (N := 23) hx hb hts uX8_signAt_X8 hown hK hP 0 rfl rfl 12 (by decide) (hts _ kX8_signAt_1) (fun _ h9 => h9) rfl dX8_signAt_59 ?_
    refine lv_lmul hx hb dX8_signAt_62 ?_
    refine lv_lsub hx hb dX8_signAt_63 ?_
    refine lv_lstore (lv' := [(8, .long ((aa * yb) - (ya * bb))), (0, .ref ta), (1, .int px), (2, .long ya), (4, .long yb), (6, .long yc)]) hx hb dX8_signAt_64 hl (by decide) rfl (fun ls hl9 => ?_)
    replace hl := hl9
    clear hl9
    refine lv_aload_n hx hb dX8_signAt_66 rfl (lv_at hl 1 rfl) ?_
    refine va_get (D := D) (ci := 8) (v := .long aa) (C := RX8) (T := TX8) (N := 23) hx hb hts uX8_signAt_X8 hown hK hP 0 rfl rfl 11 (by decide) (hts _ kX8_signAt_0) (fun _ h9 => h9) rfl dX8_signAt_67 ?_
    refine lv_lload hx hb dX8_signAt_70 (lv_at hl 5 rfl) ?_
    refine lv_lmul hx hb dX8_signAt_72 ?_
    refine lv_lload_n hx hb dX8_signAt_73 rfl (lv_at hl 3 rfl) ?_
    refine lv_aload_n hx hb dX8_signAt_74 rfl (lv_at hl 1 rfl) ?_
    refine va_get (D := D) (ci := 8) (v := .long dd) (C := RX8) (T := TX8) (N := 23) hx hb hts uX8_signAt_X8 hown hK hP 0 rfl rfl 13 (by decide) (hts _ kX8_signAt_2) (fun _ h9 => h9) rfl dX8_signAt_75 ?_
    refine lv_lmul hx hb dX8_signAt_78 ?_
    refine lv_lsub hx hb dX8_signAt_79 ?_
    refine lv_lstore (lv' := [(10, .long ((aa * yc) - (ya * dd))), (8, .long ((aa * yb) - (ya * bb))), (0, .ref ta), (1, .int px), (2, .long ya), (4, .long yb), (6, .long yc)]) hx hb dX8_signAt_80 hl (by decide) rfl (fun ls hl9 => ?_)
    replace hl := hl9
    clear hl9
    refine lv_aload_n hx hb dX8_signAt_82 rfl (lv_at hl 2 rfl) ?_
    refine va_get (D := D) (ci := 8) (v := .long bb) (C := RX8) (T := TX8) (N := 23) hx hb hts uX8_signAt_X8 hown hK hP 0 rfl rfl 12 (by decide) (hts _ kX8_signAt_1) (fun _ h9 => h9) rfl dX8_signAt_83 ?_
    refine lv_aload_n hx hb dX8_signAt_86 rfl (lv_at hl 2 rfl) ?_
    refine va_get (D := D) (ci := 8) (v := .long bb) (C := RX8) (T := TX8) (N := 23) hx hb hts uX8_signAt_X8 hown hK hP 0 rfl rfl 12 (by decide) (hts _ kX8_signAt_1) (fun _ h9 => h9) rfl dX8_signAt_87 ?_
    refine lv_lmul hx hb dX8_signAt_90 ?_
    refine lv_ldc2 (v := 4) hx hb hown (hts _ kX8_signAt_3) dX8_signAt_91 ?_
    refine lv_aload_n hx hb dX8_signAt_94 rfl (lv_at hl 2 rfl) ?_
    refine va_get (D := D) (ci := 8) (v := .long aa) (C := RX8) (T := TX8) (N := 23) hx hb hts uX8_signAt_X8 hown hK hP 0 rfl rfl 11 (by decide) (hts _ kX8_signAt_0) (fun _ h9 => h9) rfl dX8_signAt_95 ?_
    refine lv_lmul hx hb dX8_signAt_98 ?_
    refine lv_aload_n hx hb dX8_signAt_99 rfl (lv_at hl 2 rfl) ?_
    refine va_get (D := D) (ci := 8) (v := .long dd) (C := RX8) (T := TX8) (N := 23) hx hb hts uX8_signAt_X8 hown hK hP 0 rfl rfl 13 (by decide) (hts _ kX8_signAt_2) (fun _ h9 => h9) rfl dX8_signAt_100 ?_
    refine lv_lmul hx hb dX8_signAt_103 ?_
    refine lv_lsub hx hb dX8_signAt_104 ?_
    refine lv_lstore (lv' := [(12, .long ((bb * bb) - ((4 * aa) * dd))), (10, .long ((aa * yc) - (ya * dd))), (8, .long ((aa * yb) - (ya * bb))), (0, .ref ta), (1, .int px), (2, .long ya), (4, .long yb), (6, .long yc)]) hx hb dX8_signAt_105 hl (by decide) rfl (fun ls hl9 => ?_)
    replace hl := hl9
    clear hl9
    refine lv_iload_n hx hb dX8_signAt_107 rfl (lv_at hl 4 rfl) ?_
    refine lv_iconst (v := 1) hx hb dX8_signAt_108 (by decide) ?_
    have J4 : ∀ (v3 : Int32) (H : Heap) (locs : List Loc) (ls : Array Slot), v3 = (if px = 1 then 1 else 0) → va_P D vwCl [(ta, .inr (8, [.ref m_now, .ref m_undone, .ref m_slots, .ref m_slotKind, .ref m_hasSlot, .ref m_sheetBits, .ref m_sheetSize, .ref m_sheets, .int (nI u), .int fi, .ref m_fresh, .long aa, .long bb, .long dd, .int (nI ro), .ref m_rootWhich, .int db, .ref m_signs, .ref m_atNought, .int (nI mn), .ref m_change, .ref m_table, .ref m_carried]))] H → va_D A [(ta, .inr (8, [.ref m_now, .ref m_undone, .ref m_slots, .ref m_slotKind, .ref m_hasSlot, .ref m_sheetBits, .ref m_sheetSize, .ref m_sheets, .int (nI u), .int fi, .ref m_fresh, .long aa, .long bb, .long dd, .int (nI ro), .ref m_rootWhich, .int db, .ref m_signs, .ref m_atNought, .int (nI mn), .ref m_change, .ref m_table, .ref m_carried]))] → va_S A s.heap H locs → lv_has ls 15 [(0, .ref ta), (1, .int px), (2, .long ya), (4, .long yb), (6, .long yc), (8, .long ((aa * yb) - (ya * bb))), (10, .long ((aa * yc) - (ya * dd))), (12, .long ((bb * bb) - ((4 * aa) * dd)))] → W p l e R s m args below meth c H locs 0 0 Q (F0 m 117 ls [.int v3]) := by
      clear hP hD hS hl
      intro v3 H locs ls ev3 hP hD hS hl
      subst ev3
      refine lv_aload_n hx hb dX8_signAt_117 rfl (lv_at hl 0 rfl) ?_
      refine va_get (D := D) (ci := 8) (v := .long aa) (C := RX8) (T := TX8) (N := 23) hx hb hts uX8_signAt_X8 hown hK hP 0 rfl rfl 11 (by decide) (hts _ kX8_signAt_0) (fun _ h9 => h9) rfl dX8_signAt_118 ?_
      refine lv_lconst (v := 0) hx hb dX8_signAt_121 (by decide) ?_
      refine W.lcmp hx hb dX8_signAt_122 ?_
      have J7 : ∀ (v6 : Int32) (H : Heap) (locs : List Loc) (ls : Array Slot), v6 = (if (lg_cmp aa 0) ≤ 0 then 0 else 1) → va_P D vwCl [(ta, .inr (8, [.ref m_now, .ref m_undone, .ref m_slots, .ref m_slotKind, .ref m_hasSlot, .ref m_sheetBits, .ref m_sheetSize, .ref m_sheets, .int (nI u), .int fi, .ref m_fresh, .long aa, .long bb, .long dd, .int (nI ro), .ref m_rootWhich, .int db, .ref m_signs, .ref m_atNought, .int (nI mn), .ref m_change, .ref m_table, .ref m_carried]))] H → va_D A [(ta, .inr (8, [.ref m_now, .ref m_undone, .ref m_slots, .ref m_slotKind, .ref m_hasSlot, .ref m_sheetBits, .ref m_sheetSize, .ref m_sheets, .int (nI u), .int fi, .ref m_fresh, .long aa, .long bb, .long dd, .int (nI ro), .ref m_rootWhich, .int db, .ref m_signs, .ref m_atNought, .int (nI mn), .ref m_change, .ref m_table, .ref m_carried]))] → va_S A s.heap H locs → lv_has ls 15 [(0, .ref ta), (1, .int px), (2, .long ya), (4, .long yb), (6, .long yc), (8, .long ((aa * yb) - (ya * bb))), (10, .long ((aa * yc) - (ya * dd))), (12, .long ((bb * bb) - ((4 * aa) * dd)))] → W p l e R s m args below meth c H locs 0 0 Q (F0 m 131 ls [.int v6, .int (if px = 1 then 1 else 0)]) := by
        clear hP hD hS hl
        intro v6 H locs ls ev6 hP hD hS hl
        subst ev6
        have J10 : ∀ (v9 : Int32) (H : Heap) (locs : List Loc) (ls : Array Slot), v9 = (if ((if px = 1 then 1 else 0) : Int32) = (if (lg_cmp aa 0) ≤ 0 then 0 else 1) then 1 else 0) → va_P D vwCl [(ta, .inr (8, [.ref m_now, .ref m_undone, .ref m_slots, .ref m_slotKind, .ref m_hasSlot, .ref m_sheetBits, .ref m_sheetSize, .ref m_sheets, .int (nI u), .int fi, .ref m_fresh, .long aa, .long bb, .long dd, .int (nI ro), .ref m_rootWhich, .int db, .ref m_signs, .ref m_atNought, .int (nI mn), .ref m_change, .ref m_table, .ref m_carried]))] H → va_D A [(ta, .inr (8, [.ref m_now, .ref m_undone, .ref m_slots, .ref m_slotKind, .ref m_hasSlot, .ref m_sheetBits, .ref m_sheetSize, .ref m_sheets, .int (nI u), .int fi, .ref m_fresh, .long aa, .long bb, .long dd, .int (nI ro), .ref m_rootWhich, .int db, .ref m_signs, .ref m_atNought, .int (nI mn), .ref m_change, .ref m_table, .ref m_carried]))] → va_S A s.heap H locs → lv_has ls 15 [(0, .ref ta), (1, .int px), (2, .long ya), (4, .long yb), (6, .long yc), (8, .long ((aa * yb) - (ya * bb))), (10, .long ((aa * yc) - (ya * dd))), (12, .long ((bb * bb) - ((4 * aa) * dd)))] → W p l e R s m args below meth c H locs 0 0 Q (F0 m 139 ls [.int v9]) := by
          clear hP hD hS hl
          intro v9 H locs ls ev9 hP hD hS hl
          subst ev9
          refine lv_istore (lv' := [(14, .int (if ((if px = 1 then 1 else 0) : Int32) = (if (lg_cmp aa 0) ≤ 0 then 0 else 1) then 1 else 0)), (0, .ref ta), (1, .int px), (2, .long ya), (4, .long yb), (6, .long yc), (8, .long ((aa * yb) - (ya * bb))), (10, .long ((aa * yc) - (ya * dd))), (12, .long ((bb * bb) - ((4 * aa) * dd)))]) hx hb dX8_signAt_139 hl (by decide) rfl (fun ls hl9 => ?_)
          replace hl := hl9
          clear hl9
          refine lv_ldc2 (v := 2) hx hb hown (hts _ kX8_signAt_4) dX8_signAt_141 ?_
          refine lv_aload_n hx hb dX8_signAt_144 rfl (lv_at hl 1 rfl) ?_
          refine va_get (D := D) (ci := 8) (v := .long aa) (C := RX8) (T := TX8) (N := 23) hx hb hts uX8_signAt_X8 hown hK hP 0 rfl rfl 11 (by decide) (hts _ kX8_signAt_0) (fun _ h9 => h9) rfl dX8_signAt_145 ?_
          refine lv_lmul hx hb dX8_signAt_148 ?_
          refine lv_lload hx hb dX8_signAt_149 (lv_at hl 7 rfl) ?_
          refine lv_lmul hx hb dX8_signAt_151 ?_
          refine lv_lload hx hb dX8_signAt_152 (lv_at hl 6 rfl) ?_
          refine lv_aload_n hx hb dX8_signAt_154 rfl (lv_at hl 1 rfl) ?_
          refine va_get (D := D) (ci := 8) (v := .long bb) (C := RX8) (T := TX8) (N := 23) hx hb hts uX8_signAt_X8 hown hK hP 0 rfl rfl 12 (by decide) (hts _ kX8_signAt_1) (fun _ h9 => h9) rfl dX8_signAt_155 ?_
          refine lv_lmul hx hb dX8_signAt_158 ?_
          refine lv_lsub hx hb dX8_signAt_159 ?_
          refine lv_iload_n hx hb dX8_signAt_160 rfl (lv_at hl 2 rfl) ?_
          refine lv_iconst (v := 2) hx hb dX8_signAt_161 (by decide) ?_
          have J14 : ∀ (v13 : Int64) (H : Heap) (locs : List Loc) (ls : Array Slot), v13 = (if px = 2 then 0 else (if ((if ((if px = 1 then 1 else 0) : Int32) = (if (lg_cmp aa 0) ≤ 0 then 0 else 1) then 1 else 0) : Int32) = 0 then (-((aa * yb) - (ya * bb))) else ((aa * yb) - (ya * bb)))) → va_P D vwCl [(ta, .inr (8, [.ref m_now, .ref m_undone, .ref m_slots, .ref m_slotKind, .ref m_hasSlot, .ref m_sheetBits, .ref m_sheetSize, .ref m_sheets, .int (nI u), .int fi, .ref m_fresh, .long aa, .long bb, .long dd, .int (nI ro), .ref m_rootWhich, .int db, .ref m_signs, .ref m_atNought, .int (nI mn), .ref m_change, .ref m_table, .ref m_carried]))] H → va_D A [(ta, .inr (8, [.ref m_now, .ref m_undone, .ref m_slots, .ref m_slotKind, .ref m_hasSlot, .ref m_sheetBits, .ref m_sheetSize, .ref m_sheets, .int (nI u), .int fi, .ref m_fresh, .long aa, .long bb, .long dd, .int (nI ro), .ref m_rootWhich, .int db, .ref m_signs, .ref m_atNought, .int (nI mn), .ref m_change, .ref m_table, .ref m_carried]))] → va_S A s.heap H locs → lv_has ls 15 [(0, .ref ta), (1, .int px), (2, .long ya), (4, .long yb), (6, .long yc), (8, .long ((aa * yb) - (ya * bb))), (10, .long ((aa * yc) - (ya * dd))), (12, .long ((bb * bb) - ((4 * aa) * dd))), (14, .int (if ((if px = 1 then 1 else 0) : Int32) = (if (lg_cmp aa 0) ≤ 0 then 0 else 1) then 1 else 0))] → W p l e R s m args below meth c H locs 0 0 Q (F0 m 182 ls [.long v13, .long (((2 * aa) * ((aa * yc) - (ya * dd))) - (((aa * yb) - (ya * bb)) * bb))]) := by
            clear hP hD hS hl
            intro v13 H locs ls ev13 hP hD hS hl
            subst ev13
            refine lv_lload hx hb dX8_signAt_182 (lv_at hl 7 rfl) ?_
            refine yk_i [] (va_runS (As := [.long (((2 * aa) * ((aa * yc) - (ya * dd))) - (((aa * yb) - (ya * bb)) * bb)), .long (if px = 2 then 0 else (if ((if ((if px = 1 then 1 else 0) : Int32) = (if (lg_cmp aa 0) ≤ 0 then 0 else 1) then 1 else 0) : Int32) = 0 then (-((aa * yb) - (ya * bb))) else ((aa * yb) - (ya * bb)))), .long ((bb * bb) - ((4 * aa) * dd))]) (rest := []) ⟨hx, hb, hml, hown, hts⟩ (c_X8_signOfSum l D cy (((2 * aa) * ((aa * yc) - (ya * dd))) - (((aa * yb) - (ya * bb)) * bb)) (if px = 2 then 0 else (if ((if ((if px = 1 then 1 else 0) : Int32) = (if (lg_cmp aa 0) ≤ 0 then 0 else 1) then 1 else 0) : Int32) = 0 then (-((aa * yb) - (ya * bb))) else ((aa * yb) - (ya * bb)))) ((bb * bb) - ((4 * aa) * dd)) H.size) (va_cwS 3 hts gX8_signAt_X8_signOfSum rfl rfl rfl hs_X8_signOfSum (yk_room hRf hRl rfl rfl)) (yk_ps hG hA hS hK hP hD [] (by decide +kernel) rfl) rfl rfl hl.1 rfl (lv_room (Nat.le_of_ble_eq_true rfl)) dX8_signAt_184 ⟨Nat.zero_le _, Nat.zero_le _⟩) hP hD hS hA rfl rfl (fun H locs hP9 hD9 hS9 => ?_)
            replace hP : va_P D vwCl [(ta, .inr (8, [.ref m_now, .ref m_undone, .ref m_slots, .ref m_slotKind, .ref m_hasSlot, .ref m_sheetBits, .ref m_sheetSize, .ref m_sheets, .int (nI u), .int fi, .ref m_fresh, .long aa, .long bb, .long dd, .int (nI ro), .ref m_rootWhich, .int db, .ref m_signs, .ref m_atNought, .int (nI mn), .ref m_change, .ref m_table, .ref m_carried]))] H := hP9
            replace hD : va_D A [(ta, .inr (8, [.ref m_now, .ref m_undone, .ref m_slots, .ref m_slotKind, .ref m_hasSlot, .ref m_sheetBits, .ref m_sheetSize, .ref m_sheets, .int (nI u), .int fi, .ref m_fresh, .long aa, .long bb, .long dd, .int (nI ro), .ref m_rootWhich, .int db, .ref m_signs, .ref m_atNought, .int (nI mn), .ref m_change, .ref m_table, .ref m_carried]))] := hD9
            replace hS := hS9
            clear hP9 hD9 hS9
            have hF : f_X8_signAt aa bb dd px ya yb yc = (f_X8_signOfSum (((2 * aa) * ((aa * yc) - (ya * dd))) - (((aa * yb) - (ya * bb)) * bb)) (if px = 2 then 0 else (if ((if ((if px = 1 then 1 else 0) : Int32) = (if (lg_cmp aa 0) ≤ 0 then 0 else 1) then 1 else 0) : Int32) = 0 then (-((aa * yb) - (ya * bb))) else ((aa * yb) - (ya * bb)))) ((bb * bb) - ((4 * aa) * dd))) := hF
            rw [hF] at hQ
            exact hQ _ _ _ _ dX8_signAt_187 hP hS
          refine lv_icmp_ne (tgt := 169) hx hb dX8_signAt_162 (by decide) (fun hc11 => ?_) (fun hc11 => ?_)
          · refine lv_iload hx hb dX8_signAt_169 (lv_at hl 0 rfl) ?_
            refine lv_if_eq (tgt := 179) hx hb dX8_signAt_171 (by decide) (fun hc12 => ?_) (fun hc12 => ?_)
            · refine lv_lload hx hb dX8_signAt_179 (lv_at hl 6 rfl) ?_
              refine lv_lneg hx hb dX8_signAt_181 ?_
              exact J14 _ _ _ _ (((if_neg hc11).trans (if_pos hc12)).symm) hP hD hS (lv_sub hl [1, 2, 3, 4, 5, 6, 7, 8, 0] rfl)
            · refine lv_lload hx hb dX8_signAt_174 (lv_at hl 6 rfl) ?_
              refine lv_goto (tgt := 182) hx hb dX8_signAt_176 (by decide) ?_
              exact J14 _ _ _ _ (((if_neg hc11).trans (if_neg hc12)).symm) hP hD hS (lv_sub hl [1, 2, 3, 4, 5, 6, 7, 8, 0] rfl)
          · refine lv_lconst (v := 0) hx hb dX8_signAt_165 (by decide) ?_
            refine lv_goto (tgt := 182) hx hb dX8_signAt_166 (by decide) ?_
            exact J14 _ _ _ _ ((if_pos hc11).symm) hP hD hS (lv_sub hl [1, 2, 3, 4, 5, 6, 7, 8, 0] rfl)
        refine lv_icmp_ne (tgt := 138) hx hb dX8_signAt_131 (by decide) (fun hc8 => ?_) (fun hc8 => ?_)
        · refine lv_iconst (v := 0) hx hb dX8_signAt_138 (by decide) ?_
          exact J10 _ _ _ _ ((if_neg hc8).symm) hP hD hS (lv_sub hl [0, 1, 2, 3, 4, 5, 6, 7] rfl)
        · refine lv_iconst (v := 1) hx hb dX8_signAt_134 (by decide) ?_
          refine lv_goto (tgt := 139) hx hb dX8_signAt_135 (by decide) ?_
          exact J10 _ _ _ _ ((if_pos hc8).symm) hP hD hS (lv_sub hl [0, 1, 2, 3, 4, 5, 6, 7] rfl)
      refine lv_if_le (tgt := 130) hx hb dX8_signAt_123 (by decide) (fun hc5 => ?_) (fun hc5 => ?_)
      · refine lv_iconst (v := 0) hx hb dX8_signAt_130 (by decide) ?_
        exact J7 _ _ _ _ ((if_pos hc5).symm) hP hD hS (lv_sub hl [0, 1, 2, 3, 4, 5, 6, 7] rfl)
      · refine lv_iconst (v := 1) hx hb dX8_signAt_126 (by decide) ?_
        refine lv_goto (tgt := 131) hx hb dX8_signAt_127 (by decide) ?_
        exact J7 _ _ _ _ ((if_neg hc5).symm) hP hD hS (lv_sub hl [0, 1, 2, 3, 4, 5, 6, 7] rfl)
    refine lv_icmp_ne (tgt := 116) hx hb dX8_signAt_109 (by decide) (fun hc2 => ?_) (fun hc2 => ?_)
    · refine lv_iconst (v := 0) hx hb dX8_signAt_116 (by decide) ?_
      exact J4 _ _ _ _ ((if_neg hc2).symm) hP hD hS (lv_sub hl [3, 4, 5, 6, 7, 2, 1, 0] rfl)
    · refine lv_iconst (v := 1) hx hb dX8_signAt_112 (by decide) ?_
      refine lv_goto (tgt := 117) hx hb dX8_signAt_113 (by decide) ?_
      exact J4 _ _ _ _ ((if_pos hc2).symm) hP hD hS (lv_sub hl [3, 4, 5, 6, 7, 2, 1, 0] rfl)
  · replace hF := hF.trans (if_pos hc1)
    refine lv_lload_n hx hb dX8_signAt_9 rfl (lv_at hl 2 rfl) ?_
    refine lv_aload_n hx hb dX8_signAt_10 rfl (lv_at hl 0 rfl) ?_
    refine va_get (D := D) (ci := 8) (v := .long dd) (C := RX8) (T := TX8) (N := 23) hx hb hts uX8_signAt_X8 hown hK hP 0 rfl rfl 13 (by decide) (hts _ kX8_signAt_2) (fun _ h9 => h9) rfl dX8_signAt_11 ?_
    refine lv_lmul hx hb dX8_signAt_14 ?_
    refine lv_aload_n hx hb dX8_signAt_15 rfl (lv_at hl 0 rfl) ?_
    refine va_get (D := D) (ci := 8) (v := .long dd) (C := RX8) (T := TX8) (N := 23) hx hb hts uX8_signAt_X8 hown hK hP 0 rfl rfl 13 (by decide) (hts _ kX8_signAt_2) (fun _ h9 => h9) rfl dX8_signAt_16 ?_
    refine lv_lmul hx hb dX8_signAt_19 ?_
    refine lv_lload hx hb dX8_signAt_20 (lv_at hl 3 rfl) ?_
    refine lv_aload_n hx hb dX8_signAt_22 rfl (lv_at hl 0 rfl) ?_
    refine va_get (D := D) (ci := 8) (v := .long bb) (C := RX8) (T := TX8) (N := 23) hx hb hts uX8_signAt_X8 hown hK hP 0 rfl rfl 12 (by decide) (hts _ kX8_signAt_1) (fun _ h9 => h9) rfl dX8_signAt_23 ?_
    refine lv_lmul hx hb dX8_signAt_26 ?_
    refine lv_aload_n hx hb dX8_signAt_27 rfl (lv_at hl 0 rfl) ?_
    refine va_get (D := D) (ci := 8) (v := .long dd) (C := RX8) (T := TX8) (N := 23) hx hb hts uX8_signAt_X8 hown hK hP 0 rfl rfl 13 (by decide) (hts _ kX8_signAt_2) (fun _ h9 => h9) rfl dX8_signAt_28 ?_
    refine lv_lmul hx hb dX8_signAt_31 ?_
    refine lv_lsub hx hb dX8_signAt_32 ?_
    refine lv_lload hx hb dX8_signAt_33 (lv_at hl 4 rfl) ?_
    refine lv_aload_n hx hb dX8_signAt_35 rfl (lv_at hl 0 rfl) ?_
    refine va_get (D := D) (ci := 8) (v := .long bb) (C := RX8) (T := TX8) (N := 23) hx hb hts uX8_signAt_X8 hown hK hP 0 rfl rfl 12 (by decide) (hts _ kX8_signAt_1) (fun _ h9 => h9) rfl dX8_signAt_36 ?_
    refine lv_lmul hx hb dX8_signAt_39 ?_
    refine lv_aload_n hx hb dX8_signAt_40 rfl (lv_at hl 0 rfl) ?_
    refine va_get (D := D) (ci := 8) (v := .long bb) (C := RX8) (T := TX8) (N := 23) hx hb hts uX8_signAt_X8 hown hK hP 0 rfl rfl 12 (by decide) (hts _ kX8_signAt_1) (fun _ h9 => h9) rfl dX8_signAt_41 ?_
    refine lv_lmul hx hb dX8_signAt_44 ?_
    refine lv_ladd hx hb dX8_signAt_45 ?_
    refine yk_i [] (va_runS (As := [.long ((((ya * dd) * dd) - ((yb * bb) * dd)) + ((yc * bb) * bb))]) (rest := []) ⟨hx, hb, hml, hown, hts⟩ (c_X8_sign l D cy ((((ya * dd) * dd) - ((yb * bb) * dd)) + ((yc * bb) * bb)) H.size) (va_cwS 1 hts gX8_signAt_X8_sign rfl rfl rfl hs_X8_sign (yk_room hRf hRl rfl rfl)) (yk_ps hG hA hS hK hP hD [] (by decide +kernel) rfl) rfl rfl hl.1 rfl (lv_room (Nat.le_of_ble_eq_true rfl)) dX8_signAt_46 ⟨Nat.zero_le _, Nat.zero_le _⟩) hP hD hS hA rfl rfl (fun H locs hP9 hD9 hS9 => ?_)
    replace hP : va_P D vwCl [(ta, .inr (8, [.ref m_now, .ref m_undone, .ref m_slots, .ref m_slotKind, .ref m_hasSlot, .ref m_sheetBits, .ref m_sheetSize, .ref m_sheets, .int (nI u), .int fi, .ref m_fresh, .long aa, .long bb, .long dd, .int (nI ro), .ref m_rootWhich, .int db, .ref m_signs, .ref m_atNought, .int (nI mn), .ref m_change, .ref m_table, .ref m_carried]))] H := hP9
    replace hD : va_D A [(ta, .inr (8, [.ref m_now, .ref m_undone, .ref m_slots, .ref m_slotKind, .ref m_hasSlot, .ref m_sheetBits, .ref m_sheetSize, .ref m_sheets, .int (nI u), .int fi, .ref m_fresh, .long aa, .long bb, .long dd, .int (nI ro), .ref m_rootWhich, .int db, .ref m_signs, .ref m_atNought, .int (nI mn), .ref m_change, .ref m_table, .ref m_carried]))] := hD9
    replace hS := hS9
    clear hP9 hD9 hS9
    have hF : f_X8_signAt aa bb dd px ya yb yc = (f_X8_sign ((((ya * dd) * dd) - ((yb * bb) * dd)) + ((yc * bb) * bb))) := hF
    rw [hF] at hQ
    exact hQ _ _ _ _ dX8_signAt_49 hP hS

theorem kX8_hasNought_0 : Cond.fieldLink RX8 153 "FlowPlaneModel" "roots" "I" ∈ wsX8_hasNought := by decide +kernel
theorem kX8_hasNought_1 : Cond.fieldLink RX8 146 "FlowPlaneModel" "c" "J" ∈ wsX8_hasNought := by decide +kernel
theorem kX8_hasNought_2 : Cond.fieldLink RX8 139 "FlowPlaneModel" "a" "J" ∈ wsX8_hasNought := by decide +kernel
theorem kX8_hasNought_3 : Cond.fieldLink RX8 143 "FlowPlaneModel" "b" "J" ∈ wsX8_hasNought := by decide +kernel
theorem uX8_hasNought_X8 : ∀ w ∈ u_ws RX8 TX8 23, w ∈ wsX8_hasNought := by decide +kernel
def f_X8_hasNought (aa : Int64) (bb : Int64) (dd : Int64) (rt : Nat → Int32) : Int32 × Nat × Int32 × (Nat → Int32) := ((if 0 < (nI ((f_X8_findRoots aa bb dd rt).1)) then 1 else (if (lg_cmp dd 0) = 0 then 1 else (if (lg_cmp ((aa + bb) + dd) 0) = 0 then 1 else 0))), ((f_X8_findRoots aa bb dd rt).1), ((f_X8_findRoots aa bb dd rt).2.1), ((f_X8_findRoots aa bb dd rt).2.2))
theorem b_X8_hasNought (aa : Int64) (bb : Int64) (dd : Int64) (rt : Nat → Int32) : (f_X8_hasNought aa bb dd rt).1 = 0 ∨ (f_X8_hasNought aa bb dd rt).1 = 1 := by
  unfold f_X8_hasNought; (repeat' split) <;> first | exact Or.inl (by with_reducible rfl) | exact Or.inr (by with_reducible rfl)
set_option maxHeartbeats 400000000 in
set_option maxRecDepth 100000 in
theorem c_X8_hasNought (l : Launch) (D : va_G) (cy : Nat → ClassId) (ta : Nat) (m_rootWhich : Nat) (m_now : Nat) (m_undone : Nat) (m_slots : Nat) (m_slotKind : Nat) (m_hasSlot : Nat) (m_sheetBits : Nat) (m_sheetSize : Nat) (m_sheets : Nat) (m_fresh : Nat) (m_signs : Nat) (m_atNought : Nat) (m_change : Nat) (m_table : Nat) (m_carried : Nat) (u : Nat) (fi : Int32) (aa : Int64) (bb : Int64) (dd : Int64) (ro : Nat) (rt : Nat → Int32) (db : Int32) (mn : Nat) : yk_Ci l D vwCl (yk_ty cy) yX8_hasNought wsX8_hasNought 2 49 [.ref ta] [(ta, .inr (8, [.ref m_now, .ref m_undone, .ref m_slots, .ref m_slotKind, .ref m_hasSlot, .ref m_sheetBits, .ref m_sheetSize, .ref m_sheets, .int (nI u), .int fi, .ref m_fresh, .long aa, .long bb, .long dd, .int (nI ro), .ref m_rootWhich, .int db, .ref m_signs, .ref m_atNought, .int (nI mn), .ref m_change, .ref m_table, .ref m_carried])), (m_rootWhich, .inl (cy 0, 2, .inl rt))] ((f_X8_hasNought aa bb dd rt).1) [(ta, .inr (8, [.ref m_now, .ref m_undone, .ref m_slots, .ref m_slotKind, .ref m_hasSlot, .ref m_sheetBits, .ref m_sheetSize, .ref m_sheets, .int (nI u), .int fi, .ref m_fresh, .long aa, .long bb, .long dd, .int (nI ((f_X8_hasNought aa bb dd rt).2.1)), .ref m_rootWhich, .int ((f_X8_hasNought aa bb dd rt).2.2.1), .ref m_signs, .ref m_atNought, .int (nI mn), .ref m_change, .ref m_table, .ref m_carried])), (m_rootWhich, .inl (cy 0, 2, .inl ((f_X8_hasNought aa bb dd rt).2.2.2)))] := by
  refine yk_eI (cc := cX8_hasNought) (maxL := 1) (by decide) rfl (Nat.le_of_ble_eq_true rfl) (yk_nb (b_X8_hasNought aa bb dd rt)) ?_
  intro p e R s m args below meth c A Q ls H locs hx hb hml hown hts hRf hRl hA hK hG hP hD hS hl hQ
  have hP : va_P D vwCl [(ta, .inr (8, [.ref m_now, .ref m_undone, .ref m_slots, .ref m_slotKind, .ref m_hasSlot, .ref m_sheetBits, .ref m_sheetSize, .ref m_sheets, .int (nI u), .int fi, .ref m_fresh, .long aa, .long bb, .long dd, .int (nI ro), .ref m_rootWhich, .int db, .ref m_signs, .ref m_atNought, .int (nI mn), .ref m_change, .ref m_table, .ref m_carried])), (m_rootWhich, .inl (cy 0, 2, .inl rt))] H := hP
  have hl : lv_has ls 1 [(0, .ref ta)] := hl
  have hown : s.vm.findClass RX8 = some m.cls := hown
  have hF : (f_X8_hasNought aa bb dd rt) = (f_X8_hasNought aa bb dd rt) := rfl
  refine lv_aload_n hx hb dX8_hasNought_0 rfl (lv_at hl 0 rfl) ?_
  refine yk_v [0, 1] (va_runV (As := []) (rest := []) ⟨hx, hb, hml, hown, hts⟩ (c_X8_findRoots l D cy ta m_rootWhich m_now m_undone m_slots m_slotKind m_hasSlot m_sheetBits m_sheetSize m_sheets m_fresh m_signs m_atNought m_change m_table m_carried u fi aa bb dd ro rt db mn H.size) (cwV 0 hts gX8_hasNought_X8_findRoots rfl rfl rfl hv_X8_findRoots (yk_room hRf hRl rfl rfl)) (yk_pv (q := (RX8, TX8, 23)) hG hA hS hK hP hD [0, 1] (by decide +kernel) rfl rfl rfl) rfl rfl hl.1 rfl (lv_room (Nat.le_of_ble_eq_true rfl)) dX8_hasNought_1 ⟨Nat.zero_le _, Nat.zero_le _⟩) hP hD hS hA rfl rfl (fun H locs hP9 hD9 hS9 => ?_)
  replace hP : va_P D vwCl [(ta, .inr (8, [.ref m_now, .ref m_undone, .ref m_slots, .ref m_slotKind, .ref m_hasSlot, .ref m_sheetBits, .ref m_sheetSize, .ref m_sheets, .int (nI u), .int fi, .ref m_fresh, .long aa, .long bb, .long dd, .int (nI ((f_X8_findRoots aa bb dd rt).1)), .ref m_rootWhich, .int ((f_X8_findRoots aa bb dd rt).2.1), .ref m_signs, .ref m_atNought, .int (nI mn), .ref m_change, .ref m_table, .ref m_carried])), (m_rootWhich, .inl (cy 0, 2, .inl ((f_X8_findRoots aa bb dd rt).2.2)))] H := hP9
  replace hD : va_D A [(ta, .inr (8, [.ref m_now, .ref m_undone, .ref m_slots, .ref m_slotKind, .ref m_hasSlot, .ref m_sheetBits, .ref m_sheetSize, .ref m_sheets, .int (nI u), .int fi, .ref m_fresh, .long aa, .long bb, .long dd, .int (nI ((f_X8_findRoots aa bb dd rt).1)), .ref m_rootWhich, .int ((f_X8_findRoots aa bb dd rt).2.1), .ref m_signs, .ref m_atNought, .int (nI mn), .ref m_change, .ref m_table, .ref m_carried])), (m_rootWhich, .inl (cy 0, 2, .inl ((f_X8_findRoots aa bb dd rt).2.2)))] := hD9
  replace hS := hS9
  clear hP9 hD9 hS9
  refine lv_aload_n hx hb dX8_hasNought_4 rfl (lv_at hl 0 rfl) ?_
  refine va_get (D := D) (ci := 8) (v := .int (nI ((f_X8_findRoots aa bb dd rt).1))) (C := RX8) (T := TX8) (N := 23) hx hb hts uX8_hasNought_X8 hown hK hP 0 rfl rfl 14 (by decide) (hts _ kX8_hasNought_0) (fun _ h9 => h9) rfl dX8_hasNought_5 ?_
  have J5 : ∀ (v4 : Int32) (H : Heap) (locs : List Loc) (ls : Array Slot), v4 = (if 0 < (nI ((f_X8_findRoots aa bb dd rt).1)) then 1 else (if (lg_cmp dd 0) = 0 then 1 else (if (lg_cmp ((aa + bb) + dd) 0) = 0 then 1 else 0))) → va_P D vwCl [(ta, .inr (8, [.ref m_now, .ref m_undone, .ref m_slots, .ref m_slotKind, .ref m_hasSlot, .ref m_sheetBits, .ref m_sheetSize, .ref m_sheets, .int (nI u), .int fi, .ref m_fresh, .long aa, .long bb, .long dd, .int (nI ((f_X8_findRoots aa bb dd rt).1)), .ref m_rootWhich, .int ((f_X8_findRoots aa bb dd rt).2.1), .ref m_signs, .ref m_atNought, .int (nI mn), .ref m_change, .ref m_table, .ref m_carried])), (m_rootWhich, .inl (cy 0, 2, .inl ((f_X8_findRoots aa bb dd rt).2.2)))] H → va_D A [(ta, .inr (8, [.ref m_now, .ref m_undone, .ref m_slots, .ref m_slotKind, .ref m_hasSlot, .ref m_sheetBits, .ref m_sheetSize, .ref m_sheets, .int (nI u), .int fi, .ref m_fresh, .long aa, .long bb, .long dd, .int (nI ((f_X8_findRoots aa bb dd rt).1)), .ref m_rootWhich, .int ((f_X8_findRoots aa bb dd rt).2.1), .ref m_signs, .ref m_atNought, .int (nI mn), .ref m_change, .ref m_table, .ref m_carried])), (m_rootWhich, .inl (cy 0, 2, .inl ((f_X8_findRoots aa bb dd rt).2.2)))] → va_S A s.heap H locs → lv_has ls 1 [(0, .ref ta)] → W p l e R s m args below meth c H locs 0 0 Q (F0 m 44 ls [.int v4]) := by
    clear hP hD hS hl
    intro v4 H locs ls ev4 hP hD hS hl
    subst ev4
    have hF : f_X8_hasNought aa bb dd rt = ((if 0 < (nI ((f_X8_findRoots aa bb dd rt).1)) then 1 else (if (lg_cmp dd 0) = 0 then 1 else (if (lg_cmp ((aa + bb) + dd) 0) = 0 then 1 else 0))), ((f_X8_findRoots aa bb dd rt).1), ((f_X8_findRoots aa bb dd rt).2.1), ((f_X8_findRoots aa bb dd rt).2.2)) := hF
    have hf0 := yk_fst hF
    have hg0 := yk_snd hF
    have hf1 := yk_fst hg0
    have hg1 := yk_snd hg0
    have hf2 := yk_fst hg1
    have hg2 := yk_snd hg1
    rw [hf0, hf1, hf2, hg2] at hQ
    exact hQ _ _ _ _ dX8_hasNought_44 hP hS
  refine lv_if_gt (tgt := 39) hx hb dX8_hasNought_8 (by decide) (fun hc1 => ?_) (fun hc1 => ?_)
  · refine lv_iconst (v := 1) hx hb dX8_hasNought_39 (by decide) ?_
    refine lv_goto (tgt := 44) hx hb dX8_hasNought_40 (by decide) ?_
    exact J5 _ _ _ _ ((if_pos hc1).symm) hP hD hS (lv_sub hl [0] rfl)
  · refine lv_aload_n hx hb dX8_hasNought_11 rfl (lv_at hl 0 rfl) ?_
    refine va_get (D := D) (ci := 8) (v := .long dd) (C := RX8) (T := TX8) (N := 23) hx hb hts uX8_hasNought_X8 hown hK hP 0 rfl rfl 13 (by decide) (hts _ kX8_hasNought_1) (fun _ h9 => h9) rfl dX8_hasNought_12 ?_
    refine lv_lconst (v := 0) hx hb dX8_hasNought_15 (by decide) ?_
    refine W.lcmp hx hb dX8_hasNought_16 ?_
    refine lv_if_eq (tgt := 39) hx hb dX8_hasNought_17 (by decide) (fun hc2 => ?_) (fun hc2 => ?_)
    · refine lv_iconst (v := 1) hx hb dX8_hasNought_39 (by decide) ?_
      refine lv_goto (tgt := 44) hx hb dX8_hasNought_40 (by decide) ?_
      exact J5 _ _ _ _ (((if_neg hc1).trans (if_pos hc2)).symm) hP hD hS (lv_sub hl [0] rfl)
    · refine lv_aload_n hx hb dX8_hasNought_20 rfl (lv_at hl 0 rfl) ?_
      refine va_get (D := D) (ci := 8) (v := .long aa) (C := RX8) (T := TX8) (N := 23) hx hb hts uX8_hasNought_X8 hown hK hP 0 rfl rfl 11 (by decide) (hts _ kX8_hasNought_2) (fun _ h9 => h9) rfl dX8_hasNought_21 ?_
      refine lv_aload_n hx hb dX8_hasNought_24 rfl (lv_at hl 0 rfl) ?_
      refine va_get (D := D) (ci := 8) (v := .long bb) (C := RX8) (T := TX8) (N := 23) hx hb hts uX8_hasNought_X8 hown hK hP 0 rfl rfl 12 (by decide) (hts _ kX8_hasNought_3) (fun _ h9 => h9) rfl dX8_hasNought_25 ?_
      refine lv_ladd hx hb dX8_hasNought_28 ?_
      refine lv_aload_n hx hb dX8_hasNought_29 rfl (lv_at hl 0 rfl) ?_
      refine va_get (D := D) (ci := 8) (v := .long dd) (C := RX8) (T := TX8) (N := 23) hx hb hts uX8_hasNought_X8 hown hK hP 0 rfl rfl 13 (by decide) (hts _ kX8_hasNought_1) (fun _ h9 => h9) rfl dX8_hasNought_30 ?_
      refine lv_ladd hx hb dX8_hasNought_33 ?_
      refine lv_lconst (v := 0) hx hb dX8_hasNought_34 (by decide) ?_
      refine W.lcmp hx hb dX8_hasNought_35 ?_
      refine lv_if_ne (tgt := 43) hx hb dX8_hasNought_36 (by decide) (fun hc3 => ?_) (fun hc3 => ?_)
      · refine lv_iconst (v := 0) hx hb dX8_hasNought_43 (by decide) ?_
        exact J5 _ _ _ _ (((if_neg hc1).trans ((if_neg hc2).trans (if_neg hc3))).symm) hP hD hS (lv_sub hl [0] rfl)
      · refine lv_iconst (v := 1) hx hb dX8_hasNought_39 (by decide) ?_
        refine lv_goto (tgt := 44) hx hb dX8_hasNought_40 (by decide) ?_
        exact J5 _ _ _ _ (((if_neg hc1).trans ((if_neg hc2).trans (if_pos hc3))).symm) hP hD hS (lv_sub hl [0] rfl)
