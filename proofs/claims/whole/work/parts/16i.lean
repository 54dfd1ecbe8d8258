theorem hv_X8_sign : yX8_sign.cls = RX8 ∧ yX8_sign.cls ≠ "java/lang/invoke/MethodHandle" ∧ yX8_sign.cls ≠ "java/lang/invoke/VarHandle" ∧ (parseMethodDescriptor yX8_sign.desc).map (fun d => d.parameters.length) = some 1 := by decide +kernel
theorem hs_X8_sign : yX8_sign.cls ≠ "java/lang/invoke/MethodHandle" ∧ yX8_sign.cls ≠ "java/lang/invoke/VarHandle" ∧ (parseMethodDescriptor yX8_sign.desc).map (fun d => d.parameters.length) = some 1 := by decide +kernel
theorem hv_X8_only : yX8_only.cls = RX8 ∧ yX8_only.cls ≠ "java/lang/invoke/MethodHandle" ∧ yX8_only.cls ≠ "java/lang/invoke/VarHandle" ∧ (parseMethodDescriptor yX8_only.desc).map (fun d => d.parameters.length) = some 1 := by decide +kernel
theorem hs_X8_only : yX8_only.cls ≠ "java/lang/invoke/MethodHandle" ∧ yX8_only.cls ≠ "java/lang/invoke/VarHandle" ∧ (parseMethodDescriptor yX8_only.desc).map (fun d => d.parameters.length) = some 1 := by decide +kernel
--CUT2
def f_X8_sign (x : Int64) : Int32 := (if (lg_cmp x 0) ≤ 0 then (if 0 ≤ (lg_cmp x 0) then 0 else (-1)) else 1)
set_option maxHeartbeats 400000000 in
set_option maxRecDepth 100000 in
theorem c_X8_sign (l : Launch) (D : va_G) (cy : Nat → ClassId) (x : Int64) : yk_Ci l D vwCl (yk_ty cy) yX8_sign wsX8_sign 0 0 [.long x] [] (f_X8_sign x) [] := by
  refine yk_eI (cc := cX8_sign) (maxL := 2) (by decide) rfl (Nat.le_of_ble_eq_true rfl) rfl ?_
  intro p e R s m args below meth c A Q ls H locs hx hb hml hown hts hRf hRl hA hK hG hP hD hS hl hQ
  have hP : va_P D vwCl [] H := hP
  have hl : lv_has ls 2 [(0, .long x)] := hl
  have hown : s.vm.findClass RX8 = some m.cls := hown
  have hF : (f_X8_sign x) = (f_X8_sign x) := rfl
  refine lv_lload_n hx hb dX8_sign_0 rfl (lv_at hl 0 rfl) ?_
  refine lv_lconst (v := 0) hx hb dX8_sign_1 (by decide) ?_
  refine W.lcmp hx hb dX8_sign_2 ?_
  have J4 : ∀ (v3 : Int32) (H : Heap) (locs : List Loc) (ls : Array Slot), v3 = (if (lg_cmp x 0) ≤ 0 then (if 0 ≤ (lg_cmp x 0) then 0 else (-1)) else 1) → va_P D vwCl [] H → va_D A [] → va_S A s.heap H locs → lv_has ls 2 [(0, .long x)] → W p l e R s m args below meth c H locs 0 0 Q (F0 m 21 ls [.int v3]) := by
    clear hP hD hS hl
    intro v3 H locs ls ev3
    rw [ev3]
    clear ev3
    intro hP hD hS hl
    have hF : f_X8_sign x = (if (lg_cmp x 0) ≤ 0 then (if 0 ≤ (lg_cmp x 0) then 0 else (-1)) else 1) := hF
    rw [hF] at hQ
    exact hQ _ _ _ _ dX8_sign_21 hP hS
  refine lv_if_le (tgt := 10) hx hb dX8_sign_3 (by decide) (fun hc1 => ?_) (fun hc1 => ?_)
  · refine lv_lload_n hx hb dX8_sign_10 rfl (lv_at hl 0 rfl) ?_
    refine lv_lconst (v := 0) hx hb dX8_sign_11 (by decide) ?_
    refine W.lcmp hx hb dX8_sign_12 ?_
    refine lv_if_ge (tgt := 20) hx hb dX8_sign_13 (by decide) (fun hc2 => ?_) (fun hc2 => ?_)
    · refine lv_iconst (v := 0) hx hb dX8_sign_20 (by decide) ?_
      exact J4 _ _ _ _ (((if_pos hc1).trans (if_pos hc2)).symm) hP hD hS (lv_sub hl [0] rfl)
    · refine lv_iconst (v := (-1)) hx hb dX8_sign_16 (by decide) ?_
      refine lv_goto (tgt := 21) hx hb dX8_sign_17 (by decide) ?_
      exact J4 _ _ _ _ (((if_pos hc1).trans (if_neg hc2)).symm) hP hD hS (lv_sub hl [0] rfl)
  · refine lv_iconst (v := 1) hx hb dX8_sign_6 (by decide) ?_
    refine lv_goto (tgt := 21) hx hb dX8_sign_7 (by decide) ?_
    exact J4 _ _ _ _ ((if_neg hc1).symm) hP hD hS (lv_sub hl [0] rfl)

theorem kX8_only_0 : Cond.fieldLink RX8 38 "FlowPlaneModel" "rootWhich" "[I" ∈ wsX8_only := by decide +kernel
theorem kX8_only_1 : Cond.fieldLink RX8 153 "FlowPlaneModel" "roots" "I" ∈ wsX8_only := by decide +kernel
theorem uX8_only_X8 : ∀ w ∈ u_ws RX8 TX8 23, w ∈ wsX8_only := by decide +kernel
def f_X8_only (ro : Nat) (rt : Nat → Int32) (px : Int32) : Nat × (Nat → Int32) := ((ro + 1), (upd rt ro px))
set_option maxHeartbeats 400000000 in
set_option maxRecDepth 100000 in
theorem c_X8_only (l : Launch) (D : va_G) (cy : Nat → ClassId) (ta : Nat) (m_rootWhich : Nat) (m_now : Nat) (m_undone : Nat) (m_slots : Nat) (m_slotKind : Nat) (m_hasSlot : Nat) (m_sheetBits : Nat) (m_sheetSize : Nat) (m_sheets : Nat) (m_fresh : Nat) (m_signs : Nat) (m_atNought : Nat) (m_change : Nat) (m_table : Nat) (m_carried : Nat) (u : Nat) (fi : Int32) (aa : Int64) (bb : Int64) (dd : Int64) (ro : Nat) (rt : Nat → Int32) (db : Int32) (mn : Nat) (px : Int32) (hro : ro < 2) : yk_Cv l D vwCl (yk_ty cy) yX8_only wsX8_only 0 0 [.ref ta, .int px] [(ta, .inr (8, [.ref m_now, .ref m_undone, .ref m_slots, .ref m_slotKind, .ref m_hasSlot, .ref m_sheetBits, .ref m_sheetSize, .ref m_sheets, .int (nI u), .int fi, .ref m_fresh, .long aa, .long bb, .long dd, .int (nI ro), .ref m_rootWhich, .int db, .ref m_signs, .ref m_atNought, .int (nI mn), .ref m_change, .ref m_table, .ref m_carried])), (m_rootWhich, .inl (cy 0, 2, .inl rt))] [(ta, .inr (8, [.ref m_now, .ref m_undone, .ref m_slots, .ref m_slotKind, .ref m_hasSlot, .ref m_sheetBits, .ref m_sheetSize, .ref m_sheets, .int (nI u), .int fi, .ref m_fresh, .long aa, .long bb, .long dd, .int (nI ((f_X8_only ro rt px).1)), .ref m_rootWhich, .int db, .ref m_signs, .ref m_atNought, .int (nI mn), .ref m_change, .ref m_table, .ref m_carried])), (m_rootWhich, .inl (cy 0, 2, .inl ((f_X8_only ro rt px).2)))] := by
  refine yk_eV (cc := cX8_only) (maxL := 2) (by decide) rfl (Nat.le_of_ble_eq_true rfl) ?_
  intro p e R s m args below meth c A Q ls H locs hx hb hml hown hts hRf hRl hA hK hG hP hD hS hl hQ
  have hP : va_P D vwCl [(ta, .inr (8, [.ref m_now, .ref m_undone, .ref m_slots, .ref m_slotKind, .ref m_hasSlot, .ref m_sheetBits, .ref m_sheetSize, .ref m_sheets, .int (nI u), .int fi, .ref m_fresh, .long aa, .long bb, .long dd, .int (nI ro), .ref m_rootWhich, .int db, .ref m_signs, .ref m_atNought, .int (nI mn), .ref m_change, .ref m_table, .ref m_carried])), (m_rootWhich, .inl (cy 0, 2, .inl rt))] H := hP
  have hl : lv_has ls 2 [(0, .ref ta), (1, .int px)] := hl
  have hown : s.vm.findClass RX8 = some m.cls := hown
  have hF : (f_X8_only ro rt px) = (f_X8_only ro rt px) := rfl
  refine lv_aload_n hx hb dX8_only_0 rfl (lv_at hl 0 rfl) ?_
  refine va_get (D := D) (ci := 8) (v := .ref m_rootWhich) (C := RX8) (T := TX8) (N := 23) hx hb hts uX8_only_X8 hown hK hP 0 rfl rfl 15 (by decide) (hts _ kX8_only_0) (fun _ h9 => h9) rfl dX8_only_1 ?_
  refine lv_aload_n hx hb dX8_only_4 rfl (lv_at hl 0 rfl) ?_
  refine va_get (D := D) (ci := 8) (v := .int (nI ro)) (C := RX8) (T := TX8) (N := 23) hx hb hts uX8_only_X8 hown hK hP 0 rfl rfl 14 (by decide) (hts _ kX8_only_1) (fun _ h9 => h9) rfl dX8_only_5 ?_
  refine lv_iload_n hx hb dX8_only_8 rfl (lv_at hl 1 rfl) ?_
  refine yk_ist hx hb hK hP hD hS 1 0 rfl rfl ro (by omega) (by decide) dX8_only_9 (fun H locs hP9 hD9 hS9 => ?_)
  replace hP : va_P D vwCl [(ta, .inr (8, [.ref m_now, .ref m_undone, .ref m_slots, .ref m_slotKind, .ref m_hasSlot, .ref m_sheetBits, .ref m_sheetSize, .ref m_sheets, .int (nI u), .int fi, .ref m_fresh, .long aa, .long bb, .long dd, .int (nI ro), .ref m_rootWhich, .int db, .ref m_signs, .ref m_atNought, .int (nI mn), .ref m_change, .ref m_table, .ref m_carried])), (m_rootWhich, .inl (cy 0, 2, .inl (upd rt ro px)))] H := hP9
  replace hD : va_D A [(ta, .inr (8, [.ref m_now, .ref m_undone, .ref m_slots, .ref m_slotKind, .ref m_hasSlot, .ref m_sheetBits, .ref m_sheetSize, .ref m_sheets, .int (nI u), .int fi, .ref m_fresh, .long aa, .long bb, .long dd, .int (nI ro), .ref m_rootWhich, .int db, .ref m_signs, .ref m_atNought, .int (nI mn), .ref m_change, .ref m_table, .ref m_carried])), (m_rootWhich, .inl (cy 0, 2, .inl (upd rt ro px)))] := hD9
  replace hS := hS9
  clear hP9 hD9 hS9
  refine lv_aload_n hx hb dX8_only_10 rfl (lv_at hl 0 rfl) ?_
  refine lv_dup hx hb dX8_only_11 rfl ?_
  refine va_get (D := D) (ci := 8) (v := .int (nI ro)) (C := RX8) (T := TX8) (N := 23) hx hb hts uX8_only_X8 hown hK hP 0 rfl rfl 14 (by decide) (hts _ kX8_only_1) (fun _ h9 => h9) rfl dX8_only_12 ?_
  refine lv_iconst (v := 1) hx hb dX8_only_15 (by decide) ?_
  refine lv_iadd hx hb dX8_only_16 ?_
  refine yk_ti (y := nI (ro + 1)) (nI_add ro 1) ?_
  refine va_put (D := D) (ci := 8) (v := .int (nI (ro + 1))) (ty := .int) (C := RX8) (T := TX8) (N := 23) hx hb hts uX8_only_X8 tyX8 tyX8_ok nmX8 hown hK hP hD hS 0 rfl rfl 14 (by decide) (hts _ kX8_only_1) (fun _ h9 => h9) rfl (by decide +kernel) (yk_ni _) (yk_fi _) (Nat.le_of_ble_eq_true rfl) dX8_only_17 (fun H locs hP9 hD9 hS9 => ?_)
  replace hP : va_P D vwCl [(ta, .inr (8, [.ref m_now, .ref m_undone, .ref m_slots, .ref m_slotKind, .ref m_hasSlot, .ref m_sheetBits, .ref m_sheetSize, .ref m_sheets, .int (nI u), .int fi, .ref m_fresh, .long aa, .long bb, .long dd, .int (nI (ro + 1)), .ref m_rootWhich, .int db, .ref m_signs, .ref m_atNought, .int (nI mn), .ref m_change, .ref m_table, .ref m_carried])), (m_rootWhich, .inl (cy 0, 2, .inl (upd rt ro px)))] H := hP9
  replace hD : va_D A [(ta, .inr (8, [.ref m_now, .ref m_undone, .ref m_slots, .ref m_slotKind, .ref m_hasSlot, .ref m_sheetBits, .ref m_sheetSize, .ref m_sheets, .int (nI u), .int fi, .ref m_fresh, .long aa, .long bb, .long dd, .int (nI (ro + 1)), .ref m_rootWhich, .int db, .ref m_signs, .ref m_atNought, .int (nI mn), .ref m_change, .ref m_table, .ref m_carried])), (m_rootWhich, .inl (cy 0, 2, .inl (upd rt ro px)))] := hD9
  replace hS := hS9
  clear hP9 hD9 hS9
  have hF : f_X8_only ro rt px = ((ro + 1), (upd rt ro px)) := hF
  have hf0 := yk_fst hF
  have hg0 := yk_snd hF
  rw [hf0, hg0] at hQ
  exact hQ _ _ _ _ dX8_only_20 hP hS

theorem kX8_findRoots_0 : Cond.fieldLink RX8 153 "FlowPlaneModel" "roots" "I" ∈ wsX8_findRoots := by decide +kernel
theorem kX8_findRoots_1 : Cond.fieldLink RX8 156 "FlowPlaneModel" "isDouble" "Z" ∈ wsX8_findRoots := by decide +kernel
theorem kX8_findRoots_2 : Cond.fieldLink RX8 139 "FlowPlaneModel" "a" "J" ∈ wsX8_findRoots := by decide +kernel
theorem kX8_findRoots_3 : Cond.fieldLink RX8 143 "FlowPlaneModel" "b" "J" ∈ wsX8_findRoots := by decide +kernel
theorem kX8_findRoots_4 : Cond.constantLong RX8 168 4 ∈ wsX8_findRoots := by decide +kernel
theorem kX8_findRoots_5 : Cond.fieldLink RX8 146 "FlowPlaneModel" "c" "J" ∈ wsX8_findRoots := by decide +kernel
theorem kX8_findRoots_6 : Cond.constantLong RX8 170 2 ∈ wsX8_findRoots := by decide +kernel
theorem uX8_findRoots_X8 : ∀ w ∈ u_ws RX8 TX8 23, w ∈ wsX8_findRoots := by decide +kernel
def f_X8_findRoots (aa : Int64) (bb : Int64) (dd : Int64) (rt : Nat → Int32) : Nat × Int32 × (Nat → Int32) := (if (lg_cmp aa 0) = 0 then ((if (lg_cmp bb 0) = 0 then 0 else (if 0 ≤ ((f_X8_sign dd) * (f_X8_sign (bb + dd))) then 0 else (f_X8_only 0 rt 2).1)), 0, (if (lg_cmp bb 0) = 0 then rt else (if 0 ≤ ((f_X8_sign dd) * (f_X8_sign (bb + dd))) then rt else (f_X8_only 0 rt 2).2))) else (if (lg_cmp ((bb * bb) - ((4 * aa) * dd)) 0) = 0 then ((if ((if (f_X8_sign ((-bb) * (((f_X8_sign aa)).toInt64))) ≤ 0 then 0 else (if 0 ≤ (f_X8_sign (((-bb) * (((f_X8_sign aa)).toInt64)) - ((2 * aa) * (((f_X8_sign aa)).toInt64)))) then 0 else 1)) : Int32) = 0 then 0 else (f_X8_only 0 rt 2).1), (if (f_X8_sign ((-bb) * (((f_X8_sign aa)).toInt64))) ≤ 0 then 0 else (if 0 ≤ (f_X8_sign (((-bb) * (((f_X8_sign aa)).toInt64)) - ((2 * aa) * (((f_X8_sign aa)).toInt64)))) then 0 else 1)), (if ((if (f_X8_sign ((-bb) * (((f_X8_sign aa)).toInt64))) ≤ 0 then 0 else (if 0 ≤ (f_X8_sign (((-bb) * (((f_X8_sign aa)).toInt64)) - ((2 * aa) * (((f_X8_sign aa)).toInt64)))) then 0 else 1)) : Int32) = 0 then rt else (f_X8_only 0 rt 2).2)) else (if 0 ≤ (lg_cmp ((bb * bb) - ((4 * aa) * dd)) 0) then ((if ((if ((f_X8_sign ((aa + bb) + dd)) * (f_X8_sign aa)) ≤ 0 then 0 else (if 0 ≤ (f_X8_sign (((-bb) * (((f_X8_sign aa)).toInt64)) - ((2 * aa) * (((f_X8_sign aa)).toInt64)))) then 0 else (if ((f_X8_sign dd) * (f_X8_sign aa)) < 0 then 1 else (if (f_X8_sign ((-bb) * (((f_X8_sign aa)).toInt64))) ≤ 0 then 0 else 1)))) : Int32) = 0 then (if ((if ((f_X8_sign dd) * (f_X8_sign aa)) ≤ 0 then 0 else (if (f_X8_sign ((-bb) * (((f_X8_sign aa)).toInt64))) ≤ 0 then 0 else (if ((f_X8_sign ((aa + bb) + dd)) * (f_X8_sign aa)) < 0 then 1 else (if ((if (f_X8_sign ((-bb) * (((f_X8_sign aa)).toInt64))) ≤ 0 then 0 else (if 0 ≤ (f_X8_sign (((-bb) * (((f_X8_sign aa)).toInt64)) - ((2 * aa) * (((f_X8_sign aa)).toInt64)))) then 0 else 1)) : Int32) = 0 then 0 else 1)))) : Int32) = 0 then 0 else (f_X8_only 0 rt 0).1) else (f_X8_only (if ((if ((f_X8_sign dd) * (f_X8_sign aa)) ≤ 0 then 0 else (if (f_X8_sign ((-bb) * (((f_X8_sign aa)).toInt64))) ≤ 0 then 0 else (if ((f_X8_sign ((aa + bb) + dd)) * (f_X8_sign aa)) < 0 then 1 else (if ((if (f_X8_sign ((-bb) * (((f_X8_sign aa)).toInt64))) ≤ 0 then 0 else (if 0 ≤ (f_X8_sign (((-bb) * (((f_X8_sign aa)).toInt64)) - ((2 * aa) * (((f_X8_sign aa)).toInt64)))) then 0 else 1)) : Int32) = 0 then 0 else 1)))) : Int32) = 0 then 0 else (f_X8_only 0 rt 0).1) (if ((if ((f_X8_sign dd) * (f_X8_sign aa)) ≤ 0 then 0 else (if (f_X8_sign ((-bb) * (((f_X8_sign aa)).toInt64))) ≤ 0 then 0 else (if ((f_X8_sign ((aa + bb) + dd)) * (f_X8_sign aa)) < 0 then 1 else (if ((if (f_X8_sign ((-bb) * (((f_X8_sign aa)).toInt64))) ≤ 0 then 0 else (if 0 ≤ (f_X8_sign (((-bb) * (((f_X8_sign aa)).toInt64)) - ((2 * aa) * (((f_X8_sign aa)).toInt64)))) then 0 else 1)) : Int32) = 0 then 0 else 1)))) : Int32) = 0 then rt else (f_X8_only 0 rt 0).2) 1).1), 0, (if ((if ((f_X8_sign ((aa + bb) + dd)) * (f_X8_sign aa)) ≤ 0 then 0 else (if 0 ≤ (f_X8_sign (((-bb) * (((f_X8_sign aa)).toInt64)) - ((2 * aa) * (((f_X8_sign aa)).toInt64)))) then 0 else (if ((f_X8_sign dd) * (f_X8_sign aa)) < 0 then 1 else (if (f_X8_sign ((-bb) * (((f_X8_sign aa)).toInt64))) ≤ 0 then 0 else 1)))) : Int32) = 0 then (if ((if ((f_X8_sign dd) * (f_X8_sign aa)) ≤ 0 then 0 else (if (f_X8_sign ((-bb) * (((f_X8_sign aa)).toInt64))) ≤ 0 then 0 else (if ((f_X8_sign ((aa + bb) + dd)) * (f_X8_sign aa)) < 0 then 1 else (if ((if (f_X8_sign ((-bb) * (((f_X8_sign aa)).toInt64))) ≤ 0 then 0 else (if 0 ≤ (f_X8_sign (((-bb) * (((f_X8_sign aa)).toInt64)) - ((2 * aa) * (((f_X8_sign aa)).toInt64)))) then 0 else 1)) : Int32) = 0 then 0 else 1)))) : Int32) = 0 then rt else (f_X8_only 0 rt 0).2) else (f_X8_only (if ((if ((f_X8_sign dd) * (f_X8_sign aa)) ≤ 0 then 0 else (if (f_X8_sign ((-bb) * (((f_X8_sign aa)).toInt64))) ≤ 0 then 0 else (if ((f_X8_sign ((aa + bb) + dd)) * (f_X8_sign aa)) < 0 then 1 else (if ((if (f_X8_sign ((-bb) * (((f_X8_sign aa)).toInt64))) ≤ 0 then 0 else (if 0 ≤ (f_X8_sign (((-bb) * (((f_X8_sign aa)).toInt64)) - ((2 * aa) * (((f_X8_sign aa)).toInt64)))) then 0 else 1)) : Int32) = 0 then 0 else 1)))) : Int32) = 0 then 0 else (f_X8_only 0 rt 0).1) (if ((if ((f_X8_sign dd) * (f_X8_sign aa)) ≤ 0 then 0 else (if (f_X8_sign ((-bb) * (((f_X8_sign aa)).toInt64))) ≤ 0 then 0 else (if ((f_X8_sign ((aa + bb) + dd)) * (f_X8_sign aa)) < 0 then 1 else (if ((if (f_X8_sign ((-bb) * (((f_X8_sign aa)).toInt64))) ≤ 0 then 0 else (if 0 ≤ (f_X8_sign (((-bb) * (((f_X8_sign aa)).toInt64)) - ((2 * aa) * (((f_X8_sign aa)).toInt64)))) then 0 else 1)) : Int32) = 0 then 0 else 1)))) : Int32) = 0 then rt else (f_X8_only 0 rt 0).2) 1).2)) else (0, 0, rt))))
set_option maxHeartbeats 400000000 in
set_option maxRecDepth 100000 in
theorem c_X8_findRoots (l : Launch) (D : va_G) (cy : Nat → ClassId) (ta : Nat) (m_rootWhich : Nat) (m_now : Nat) (m_undone : Nat) (m_slots : Nat) (m_slotKind : Nat) (m_hasSlot : Nat) (m_sheetBits : Nat) (m_sheetSize : Nat) (m_sheets : Nat) (m_fresh : Nat) (m_signs : Nat) (m_atNought : Nat) (m_change : Nat) (m_table : Nat) (m_carried : Nat) (u : Nat) (fi : Int32) (aa : Int64) (bb : Int64) (dd : Int64) (ro : Nat) (rt : Nat → Int32) (db : Int32) (mn : Nat) : yk_Cv l D vwCl (yk_ty cy) yX8_findRoots wsX8_findRoots 1 21 [.ref ta] [(ta, .inr (8, [.ref m_now, .ref m_undone, .ref m_slots, .ref m_slotKind, .ref m_hasSlot, .ref m_sheetBits, .ref m_sheetSize, .ref m_sheets, .int (nI u), .int fi, .ref m_fresh, .long aa, .long bb, .long dd, .int (nI ro), .ref m_rootWhich, .int db, .ref m_signs, .ref m_atNought, .int (nI mn), .ref m_change, .ref m_table, .ref m_carried])), (m_rootWhich, .inl (cy 0, 2, .inl rt))] [(ta, .inr (8, [.ref m_now, .ref m_undone, .ref m_slots, .ref m_slotKind, .ref m_hasSlot, .ref m_sheetBits, .ref m_sheetSize, .ref m_sheets, .int (nI u), .int fi, .ref m_fresh, .long aa, .long bb, .long dd, .int (nI ((f_X8_findRoots aa bb dd rt).1)), .ref m_rootWhich, .int ((f_X8_findRoots aa bb dd rt).2.1), .ref m_signs, .ref m_atNought, .int (nI mn), .ref m_change, .ref m_table, .ref m_carried])), (m_rootWhich, .inl (cy 0, 2, .inl ((f_X8_findRoots aa bb dd rt).2.2)))] := by
  refine yk_eV (cc := cX8_findRoots) (maxL := 9) (by decide) rfl (Nat.le_of_ble_eq_true rfl) ?_
  intro p e R s m args below meth c A Q ls H locs hx hb hml hown hts hRf hRl hA hK hG hP hD hS hl hQ
  have hP : va_P D vwCl [(ta, .inr (8, [.ref m_now, .ref m_undone, .ref m_slots, .ref m_slotKind, .ref m_hasSlot, .ref m_sheetBits, .ref m_sheetSize, .ref m_sheets, .int (nI u), .int fi, .ref m_fresh, .long aa, .long bb, .long dd, .int (nI ro), .ref m_rootWhich, .int db, .ref m_signs, .ref m_atNought, .int (nI mn), .ref m_change, .ref m_table, .ref m_carried])), (m_rootWhich, .inl (cy 0, 2, .inl rt))] H := hP
  have hl : lv_has ls 9 [(0, .ref ta)] := hl
  have hown : s.vm.findClass RX8 = some m.cls := hown
  have hF : (f_X8_findRoots aa bb dd rt) = (f_X8_findRoots aa bb dd rt) := rfl
  refine lv_aload_n hx hb dX8_findRoots_0 rfl (lv_at hl 0 rfl) ?_
  refine lv_iconst (v := 0) hx hb dX8_findRoots_1 (by decide) ?_
  refine va_put (D := D) (ci := 8) (v := .int 0) (ty := .int) (C := RX8) (T := TX8) (N := 23) hx hb hts uX8_findRoots_X8 tyX8 tyX8_ok nmX8 hown hK hP hD hS 0 rfl rfl 14 (by decide) (hts _ kX8_findRoots_0) (fun _ h9 => h9) rfl (by decide +kernel) (yk_ni _) (yk_fi _) (Nat.le_of_ble_eq_true rfl) dX8_findRoots_2 (fun H locs hP9 hD9 hS9 => ?_)
  replace hP : va_P D vwCl [(ta, .inr (8, [.ref m_now, .ref m_undone, .ref m_slots, .ref m_slotKind, .ref m_hasSlot, .ref m_sheetBits, .ref m_sheetSize, .ref m_sheets, .int (nI u), .int fi, .ref m_fresh, .long aa, .long bb, .long dd, .int 0, .ref m_rootWhich, .int db, .ref m_signs, .ref m_atNought, .int (nI mn), .ref m_change, .ref m_table, .ref m_carried])), (m_rootWhich, .inl (cy 0, 2, .inl rt))] H := hP9
  replace hD : va_D A [(ta, .inr (8, [.ref m_now, .ref m_undone, .ref m_slots, .ref m_slotKind, .ref m_hasSlot, .ref m_sheetBits, .ref m_sheetSize, .ref m_sheets, .int (nI u), .int fi, .ref m_fresh, .long aa, .long bb, .long dd, .int 0, .ref m_rootWhich, .int db, .ref m_signs, .ref m_atNought, .int (nI mn), .ref m_change, .ref m_table, .ref m_carried])), (m_rootWhich, .inl (cy 0, 2, .inl rt))] := hD9
  replace hS := hS9
  clear hP9 hD9 hS9
  refine lv_aload_n hx hb dX8_findRoots_5 rfl (lv_at hl 0 rfl) ?_
  refine lv_iconst (v := 0) hx hb dX8_findRoots_6 (by decide) ?_
  refine va_put (D := D) (ci := 8) (v := .int 0) (ty := .boolean) (C := RX8) (T := TX8) (N := 23) hx hb hts uX8_findRoots_X8 tyX8 tyX8_ok nmX8 hown hK hP hD hS 0 rfl rfl 16 (by decide) (hts _ kX8_findRoots_1) (fun _ h9 => h9) rfl (by decide +kernel) (rfl) (rfl) (Nat.le_of_ble_eq_true rfl) dX8_findRoots_7 (fun H locs hP9 hD9 hS9 => ?_)
  replace hP : va_P D vwCl [(ta, .inr (8, [.ref m_now, .ref m_undone, .ref m_slots, .ref m_slotKind, .ref m_hasSlot, .ref m_sheetBits, .ref m_sheetSize, .ref m_sheets, .int (nI u), .int fi, .ref m_fresh, .long aa, .long bb, .long dd, .int 0, .ref m_rootWhich, .int 0, .ref m_signs, .ref m_atNought, .int (nI mn), .ref m_change, .ref m_table, .ref m_carried])), (m_rootWhich, .inl (cy 0, 2, .inl rt))] H := hP9
  replace hD : va_D A [(ta, .inr (8, [.ref m_now, .ref m_undone, .ref m_slots, .ref m_slotKind, .ref m_hasSlot, .ref m_sheetBits, .ref m_sheetSize, .ref m_sheets, .int (nI u), .int fi, .ref m_fresh, .long aa, .long bb, .long dd, .int 0, .ref m_rootWhich, .int 0, .ref m_signs, .ref m_atNought, .int (nI mn), .ref m_change, .ref m_table, .ref m_carried])), (m_rootWhich, .inl (cy 0, 2, .inl rt))] := hD9
  replace hS := hS9
  clear hP9 hD9 hS9
  refine lv_aload_n hx hb dX8_findRoots_10 rfl (lv_at hl 0 rfl) ?_
  refine va_get (D := D) (ci := 8) (v := .long aa) (C := RX8) (T := TX8) (N := 23) hx hb hts uX8_findRoots_X8 hown hK hP 0 rfl rfl 11 (by decide) (hts _ kX8_findRoots_2) (fun _ h9 => h9) rfl dX8_findRoots_11 ?_
  refine lv_lconst (v := 0) hx hb dX8_findRoots_14 (by decide) ?_
  refine W.lcmp hx hb dX8_findRoots_15 ?_
  refine lv_if_ne (tgt := 57) hx hb dX8_findRoots_16 (by decide) (fun hc1 => ?_) (fun hc1 => ?_)
  · replace hF := hF.trans (if_neg hc1)
    refine lv_aload_n hx hb dX8_findRoots_57 rfl (lv_at hl 0 rfl) ?_
    refine va_get (D := D) (ci := 8) (v := .long bb) (C := RX8) (T := TX8) (N := 23) hx hb hts uX8_findRoots_X8 hown hK hP 0 rfl rfl 12 (by decide) (hts _ kX8_findRoots_3) (fun _ h9 => h9) rfl dX8_findRoots_58 ?_
    refine lv_aload_n hx hb dX8_findRoots_61 rfl (lv_at hl 0 rfl) ?_
    refine va_get (D := D) (ci := 8) (v := .long bb) (C := RX8) (T := TX8) (N := 23) hx hb hts uX8_findRoots_X8 hown hK hP 0 rfl rfl 12 (by decide) (hts _ kX8_findRoots_3) (fun _ h9 => h9) rfl dX8_findRoots_62 ?_
    refine lv_lmul hx hb dX8_findRoots_65 ?_
    refine lv_ldc2 (v := 4) hx hb hown (hts _ kX8_findRoots_4) dX8_findRoots_66 ?_
    refine lv_aload_n hx hb dX8_findRoots_69 rfl (lv_at hl 0 rfl) ?_
    refine va_get (D := D) (ci := 8) (v := .long aa) (C := RX8) (T := TX8) (N := 23) hx hb hts uX8_findRoots_X8 hown hK hP 0 rfl rfl 11 (by decide) (hts _ kX8_findRoots_2) (fun _ h9 => h9) rfl dX8_findRoots_70 ?_
    refine lv_lmul hx hb dX8_findRoots_73 ?_
    refine lv_aload_n hx hb dX8_findRoots_74 rfl (lv_at hl 0 rfl) ?_
    refine va_get (D := D) (ci := 8) (v := .long dd) (C := RX8) (T := TX8) (N := 23) hx hb hts uX8_findRoots_X8 hown hK hP 0 rfl rfl 13 (by decide) (hts _ kX8_findRoots_5) (fun _ h9 => h9) rfl dX8_findRoots_75 ?_
    refine lv_lmul hx hb dX8_findRoots_78 ?_
    refine lv_lsub hx hb dX8_findRoots_79 ?_
    refine lv_lstore_n (lv' := [(1, .long ((bb * bb) - ((4 * aa) * dd))), (0, .ref ta)]) hx hb dX8_findRoots_80 rfl hl (by decide) rfl (fun ls hl9 => ?_)
    replace hl := hl9
    clear hl9
    refine lv_aload_n hx hb dX8_findRoots_81 rfl (lv_at hl 1 rfl) ?_
    refine va_get (D := D) (ci := 8) (v := .long aa) (C := RX8) (T := TX8) (N := 23) hx hb hts uX8_findRoots_X8 hown hK hP 0 rfl rfl 11 (by decide) (hts _ kX8_findRoots_2) (fun _ h9 => h9) rfl dX8_findRoots_82 ?_
    refine yk_i [] (va_runS (As := [.long aa]) (rest := []) ⟨hx, hb, hml, hown, hts⟩ (c_X8_sign l D cy aa H.size) (va_cwS 1 hts gX8_findRoots_X8_sign rfl rfl rfl hs_X8_sign (yk_room hRf hRl rfl rfl)) (yk_ps hG hA hS hK hP hD [] (by decide +kernel) rfl) rfl rfl hl.1 rfl (lv_room (Nat.le_of_ble_eq_true rfl)) dX8_findRoots_85 ⟨Nat.zero_le _, Nat.zero_le _⟩) hP hD hS hA rfl rfl (fun H locs hP9 hD9 hS9 => ?_)
    replace hP : va_P D vwCl [(ta, .inr (8, [.ref m_now, .ref m_undone, .ref m_slots, .ref m_slotKind, .ref m_hasSlot, .ref m_sheetBits, .ref m_sheetSize, .ref m_sheets, .int (nI u), .int fi, .ref m_fresh, .long aa, .long bb, .long dd, .int 0, .ref m_rootWhich, .int 0, .ref m_signs, .ref m_atNought, .int (nI mn), .ref m_change, .ref m_table, .ref m_carried])), (m_rootWhich, .inl (cy 0, 2, .inl rt))] H := hP9
    replace hD : va_D A [(ta, .inr (8, [.ref m_now, .ref m_undone, .ref m_slots, .ref m_slotKind, .ref m_hasSlot, .ref m_sheetBits, .ref m_sheetSize, .ref m_sheets, .int (nI u), .int fi, .ref m_fresh, .long aa, .long bb, .long dd, .int 0, .ref m_rootWhich, .int 0, .ref m_signs, .ref m_atNought, .int (nI mn), .ref m_change, .ref m_table, .ref m_carried])), (m_rootWhich, .inl (cy 0, 2, .inl rt))] := hD9
    replace hS := hS9
    clear hP9 hD9 hS9
    refine lv_istore_n (lv' := [(3, .int (f_X8_sign aa)), (1, .long ((bb * bb) - ((4 * aa) * dd))), (0, .ref ta)]) hx hb dX8_findRoots_88 rfl hl (by decide) rfl (fun ls hl9 => ?_)
    replace hl := hl9
    clear hl9
    refine lv_aload_n hx hb dX8_findRoots_89 rfl (lv_at hl 2 rfl) ?_
    refine va_get (D := D) (ci := 8) (v := .long bb) (C := RX8) (T := TX8) (N := 23) hx hb hts uX8_findRoots_X8 hown hK hP 0 rfl rfl 12 (by decide) (hts _ kX8_findRoots_3) (fun _ h9 => h9) rfl dX8_findRoots_90 ?_
    refine lv_lneg hx hb dX8_findRoots_93 ?_
    refine lv_iload_n hx hb dX8_findRoots_94 rfl (lv_at hl 0 rfl) ?_
    refine lv_i2l hx hb dX8_findRoots_95 rfl ?_
    refine lv_lmul hx hb dX8_findRoots_96 ?_
    refine yk_i [] (va_runS (As := [.long ((-bb) * (((f_X8_sign aa)).toInt64))]) (rest := []) ⟨hx, hb, hml, hown, hts⟩ (c_X8_sign l D cy ((-bb) * (((f_X8_sign aa)).toInt64)) H.size) (va_cwS 1 hts gX8_findRoots_X8_sign rfl rfl rfl hs_X8_sign (yk_room hRf hRl rfl rfl)) (yk_ps hG hA hS hK hP hD [] (by decide +kernel) rfl) rfl rfl hl.1 rfl (lv_room (Nat.le_of_ble_eq_true rfl)) dX8_findRoots_97 ⟨Nat.zero_le _, Nat.zero_le _⟩) hP hD hS hA rfl rfl (fun H locs hP9 hD9 hS9 => ?_)
    replace hP : va_P D vwCl [(ta, .inr (8, [.ref m_now, .ref m_undone, .ref m_slots, .ref m_slotKind, .ref m_hasSlot, .ref m_sheetBits, .ref m_sheetSize, .ref m_sheets, .int (nI u), .int fi, .ref m_fresh, .long aa, .long bb, .long dd, .int 0, .ref m_rootWhich, .int 0, .ref m_signs, .ref m_atNought, .int (nI mn), .ref m_change, .ref m_table, .ref m_carried])), (m_rootWhich, .inl (cy 0, 2, .inl rt))] H := hP9
    replace hD : va_D A [(ta, .inr (8, [.ref m_now, .ref m_undone, .ref m_slots, .ref m_slotKind, .ref m_hasSlot, .ref m_sheetBits, .ref m_sheetSize, .ref m_sheets, .int (nI u), .int fi, .ref m_fresh, .long aa, .long bb, .long dd, .int 0, .ref m_rootWhich, .int 0, .ref m_signs, .ref m_atNought, .int (nI mn), .ref m_change, .ref m_table, .ref m_carried])), (m_rootWhich, .inl (cy 0, 2, .inl rt))] := hD9
    replace hS := hS9
    clear hP9 hD9 hS9
    have J5 : ∀ (v4 : Int32) (H : Heap) (locs : List Loc) (ls : Array Slot), v4 = (if (f_X8_sign ((-bb) * (((f_X8_sign aa)).toInt64))) ≤ 0 then 0 else (if 0 ≤ (f_X8_sign (((-bb) * (((f_X8_sign aa)).toInt64)) - ((2 * aa) * (((f_X8_sign aa)).toInt64)))) then 0 else 1)) → va_P D vwCl [(ta, .inr (8, [.ref m_now, .ref m_undone, .ref m_slots, .ref m_slotKind, .ref m_hasSlot, .ref m_sheetBits, .ref m_sheetSize, .ref m_sheets, .int (nI u), .int fi, .ref m_fresh, .long aa, .long bb, .long dd, .int 0, .ref m_rootWhich, .int 0, .ref m_signs, .ref m_atNought, .int (nI mn), .ref m_change, .ref m_table, .ref m_carried])), (m_rootWhich, .inl (cy 0, 2, .inl rt))] H → va_D A [(ta, .inr (8, [.ref m_now, .ref m_undone, .ref m_slots, .ref m_slotKind, .ref m_hasSlot, .ref m_sheetBits, .ref m_sheetSize, .ref m_sheets, .int (nI u), .int fi, .ref m_fresh, .long aa, .long bb, .long dd, .int 0, .ref m_rootWhich, .int 0, .ref m_signs, .ref m_atNought, .int (nI mn), .ref m_change, .ref m_table, .ref m_carried])), (m_rootWhich, .inl (cy 0, 2, .inl rt))] → va_S A s.heap H locs → lv_has ls 9 [(0, .ref ta), (1, .long ((bb * bb) - ((4 * aa) * dd))), (3, .int (f_X8_sign aa))] → W p l e R s m args below meth c H locs 0 0 Q (F0 m 134 ls [.int v4]) := by
      clear hP hD hS hl
      intro v4 H locs ls ev4
      rw [ev4]
      clear ev4
      intro hP hD hS hl
      refine lv_istore (lv' := [(4, .int (if (f_X8_sign ((-bb) * (((f_X8_sign aa)).toInt64))) ≤ 0 then 0 else (if 0 ≤ (f_X8_sign (((-bb) * (((f_X8_sign aa)).toInt64)) - ((2 * aa) * (((f_X8_sign aa)).toInt64)))) then 0 else 1))), (0, .ref ta), (1, .long ((bb * bb) - ((4 * aa) * dd))), (3, .int (f_X8_sign aa))]) hx hb dX8_findRoots_134 hl (by decide) rfl (fun ls hl9 => ?_)
      replace hl := hl9
      clear hl9
      refine lv_lload_n hx hb dX8_findRoots_136 rfl (lv_at hl 2 rfl) ?_
      refine lv_lconst (v := 0) hx hb dX8_findRoots_137 (by decide) ?_
      refine W.lcmp hx hb dX8_findRoots_138 ?_
      refine lv_if_ne (tgt := 159) hx hb dX8_findRoots_139 (by decide) (fun hc6 => ?_) (fun hc6 => ?_)
      · replace hF := hF.trans (if_neg hc6)
        refine lv_lload_n hx hb dX8_findRoots_159 rfl (lv_at hl 2 rfl) ?_
        refine lv_lconst (v := 0) hx hb dX8_findRoots_160 (by decide) ?_
        refine W.lcmp hx hb dX8_findRoots_161 ?_
        refine lv_if_ge (tgt := 166) hx hb dX8_findRoots_162 (by decide) (fun hc7 => ?_) (fun hc7 => ?_)
        · replace hF := hF.trans (if_pos hc7)
          refine lv_aload_n hx hb dX8_findRoots_166 rfl (lv_at hl 1 rfl) ?_
          refine va_get (D := D) (ci := 8) (v := .long dd) (C := RX8) (T := TX8) (N := 23) hx hb hts uX8_findRoots_X8 hown hK hP 0 rfl rfl 13 (by decide) (hts _ kX8_findRoots_5) (fun _ h9 => h9) rfl dX8_findRoots_167 ?_
          refine yk_i [] (va_runS (As := [.long dd]) (rest := []) ⟨hx, hb, hml, hown, hts⟩ (c_X8_sign l D cy dd H.size) (va_cwS 1 hts gX8_findRoots_X8_sign rfl rfl rfl hs_X8_sign (yk_room hRf hRl rfl rfl)) (yk_ps hG hA hS hK hP hD [] (by decide +kernel) rfl) rfl rfl hl.1 rfl (lv_room (Nat.le_of_ble_eq_true rfl)) dX8_findRoots_170 ⟨Nat.zero_le _, Nat.zero_le _⟩) hP hD hS hA rfl rfl (fun H locs hP9 hD9 hS9 => ?_)
          replace hP : va_P D vwCl [(ta, .inr (8, [.ref m_now, .ref m_undone, .ref m_slots, .ref m_slotKind, .ref m_hasSlot, .ref m_sheetBits, .ref m_sheetSize, .ref m_sheets, .int (nI u), .int fi, .ref m_fresh, .long aa, .long bb, .long dd, .int 0, .ref m_rootWhich, .int 0, .ref m_signs, .ref m_atNought, .int (nI mn), .ref m_change, .ref m_table, .ref m_carried])), (m_rootWhich, .inl (cy 0, 2, .inl rt))] H := hP9
          replace hD : va_D A [(ta, .inr (8, [.ref m_now, .ref m_undone, .ref m_slots, .ref m_slotKind, .ref m_hasSlot, .ref m_sheetBits, .ref m_sheetSize, .ref m_sheets, .int (nI u), .int fi, .ref m_fresh, .long aa, .long bb, .long dd, .int 0, .ref m_rootWhich, .int 0, .ref m_signs, .ref m_atNought, .int (nI mn), .ref m_change, .ref m_table, .ref m_carried])), (m_rootWhich, .inl (cy 0, 2, .inl rt))] := hD9
          replace hS := hS9
          clear hP9 hD9 hS9
          refine lv_iload_n hx hb dX8_findRoots_173 rfl (lv_at hl 3 rfl) ?_
          refine lv_imul hx hb dX8_findRoots_174 ?_
          refine lv_istore (lv' := [(5, .int ((f_X8_sign dd) * (f_X8_sign aa))), (4, .int (if (f_X8_sign ((-bb) * (((f_X8_sign aa)).toInt64))) ≤ 0 then 0 else (if 0 ≤ (f_X8_sign (((-bb) * (((f_X8_sign aa)).toInt64)) - ((2 * aa) * (((f_X8_sign aa)).toInt64)))) then 0 else 1))), (0, .ref ta), (1, .long ((bb * bb) - ((4 * aa) * dd))), (3, .int (f_X8_sign aa))]) hx hb dX8_findRoots_175 hl (by decide) rfl (fun ls hl9 => ?_)
          replace hl := hl9
          clear hl9
          refine lv_aload_n hx hb dX8_findRoots_177 rfl (lv_at hl 2 rfl) ?_
          refine va_get (D := D) (ci := 8) (v := .long aa) (C := RX8) (T := TX8) (N := 23) hx hb hts uX8_findRoots_X8 hown hK hP 0 rfl rfl 11 (by decide) (hts _ kX8_findRoots_2) (fun _ h9 => h9) rfl dX8_findRoots_178 ?_
          refine lv_aload_n hx hb dX8_findRoots_181 rfl (lv_at hl 2 rfl) ?_
          refine va_get (D := D) (ci := 8) (v := .long bb) (C := RX8) (T := TX8) (N := 23) hx hb hts uX8_findRoots_X8 hown hK hP 0 rfl rfl 12 (by decide) (hts _ kX8_findRoots_3) (fun _ h9 => h9) rfl dX8_findRoots_182 ?_
          refine lv_ladd hx hb dX8_findRoots_185 ?_
          refine lv_aload_n hx hb dX8_findRoots_186 rfl (lv_at hl 2 rfl) ?_
          refine va_get (D := D) (ci := 8) (v := .long dd) (C := RX8) (T := TX8) (N := 23) hx hb hts uX8_findRoots_X8 hown hK hP 0 rfl rfl 13 (by decide) (hts _ kX8_findRoots_5) (fun _ h9 => h9) rfl dX8_findRoots_187 ?_
          refine lv_ladd hx hb dX8_findRoots_190 ?_
          refine yk_i [] (va_runS (As := [.long ((aa + bb) + dd)]) (rest := []) ⟨hx, hb, hml, hown, hts⟩ (c_X8_sign l D cy ((aa + bb) + dd) H.size) (va_cwS 1 hts gX8_findRoots_X8_sign rfl rfl rfl hs_X8_sign (yk_room hRf hRl rfl rfl)) (yk_ps hG hA hS hK hP hD [] (by decide +kernel) rfl) rfl rfl hl.1 rfl (lv_room (Nat.le_of_ble_eq_true rfl)) dX8_findRoots_191 ⟨Nat.zero_le _, Nat.zero_le _⟩) hP hD hS hA rfl rfl (fun H locs hP9 hD9 hS9 => ?_)
          replace hP : va_P D vwCl [(ta, .inr (8, [.ref m_now, .ref m_undone, .ref m_slots, .ref m_slotKind, .ref m_hasSlot, .ref m_sheetBits, .ref m_sheetSize, .ref m_sheets, .int (nI u), .int fi, .ref m_fresh, .long aa, .long bb, .long dd, .int 0, .ref m_rootWhich, .int 0, .ref m_signs, .ref m_atNought, .int (nI mn), .ref m_change, .ref m_table, .ref m_carried])), (m_rootWhich, .inl (cy 0, 2, .inl rt))] H := hP9
          replace hD : va_D A [(ta, .inr (8, [.ref m_now, .ref m_undone, .ref m_slots, .ref m_slotKind, .ref m_hasSlot, .ref m_sheetBits, .ref m_sheetSize, .ref m_sheets, .int (nI u), .int fi, .ref m_fresh, .long aa, .long bb, .long dd, .int 0, .ref m_rootWhich, .int 0, .ref m_signs, .ref m_atNought, .int (nI mn), .ref m_change, .ref m_table, .ref m_carried])), (m_rootWhich, .inl (cy 0, 2, .inl rt))] := hD9
          replace hS := hS9
          clear hP9 hD9 hS9
          refine lv_iload_n hx hb dX8_findRoots_194 rfl (lv_at hl 4 rfl) ?_
          refine lv_imul hx hb dX8_findRoots_195 ?_
          refine lv_istore (lv' := [(6, .int ((f_X8_sign ((aa + bb) + dd)) * (f_X8_sign aa))), (5, .int ((f_X8_sign dd) * (f_X8_sign aa))), (4, .int (if (f_X8_sign ((-bb) * (((f_X8_sign aa)).toInt64))) ≤ 0 then 0 else (if 0 ≤ (f_X8_sign (((-bb) * (((f_X8_sign aa)).toInt64)) - ((2 * aa) * (((f_X8_sign aa)).toInt64)))) then 0 else 1))), (0, .ref ta), (1, .long ((bb * bb) - ((4 * aa) * dd))), (3, .int (f_X8_sign aa))]) hx hb dX8_findRoots_196 hl (by decide) rfl (fun ls hl9 => ?_)
          replace hl := hl9
          clear hl9
          refine lv_iload hx hb dX8_findRoots_198 (lv_at hl 1 rfl) ?_
          have J13 : ∀ (v12 : Int32) (H : Heap) (locs : List Loc) (ls : Array Slot), v12 = (if ((f_X8_sign dd) * (f_X8_sign aa)) ≤ 0 then 0 else (if (f_X8_sign ((-bb) * (((f_X8_sign aa)).toInt64))) ≤ 0 then 0 else (if ((f_X8_sign ((aa + bb) + dd)) * (f_X8_sign aa)) < 0 then 1 else (if ((if (f_X8_sign ((-bb) * (((f_X8_sign aa)).toInt64))) ≤ 0 then 0 else (if 0 ≤ (f_X8_sign (((-bb) * (((f_X8_sign aa)).toInt64)) - ((2 * aa) * (((f_X8_sign aa)).toInt64)))) then 0 else 1)) : Int32) = 0 then 0 else 1)))) → va_P D vwCl [(ta, .inr (8, [.ref m_now, .ref m_undone, .ref m_slots, .ref m_slotKind, .ref m_hasSlot, .ref m_sheetBits, .ref m_sheetSize, .ref m_sheets, .int (nI u), .int fi, .ref m_fresh, .long aa, .long bb, .long dd, .int 0, .ref m_rootWhich, .int 0, .ref m_signs, .ref m_atNought, .int (nI mn), .ref m_change, .ref m_table, .ref m_carried])), (m_rootWhich, .inl (cy 0, 2, .inl rt))] H → va_D A [(ta, .inr (8, [.ref m_now, .ref m_undone, .ref m_slots, .ref m_slotKind, .ref m_hasSlot, .ref m_sheetBits, .ref m_sheetSize, .ref m_sheets, .int (nI u), .int fi, .ref m_fresh, .long aa, .long bb, .long dd, .int 0, .ref m_rootWhich, .int 0, .ref m_signs, .ref m_atNought, .int (nI mn), .ref m_change, .ref m_table, .ref m_carried])), (m_rootWhich, .inl (cy 0, 2, .inl rt))] → va_S A s.heap H locs → lv_has ls 9 [(0, .ref ta), (1, .long ((bb * bb) - ((4 * aa) * dd))), (3, .int (f_X8_sign aa)), (4, .int (if (f_X8_sign ((-bb) * (((f_X8_sign aa)).toInt64))) ≤ 0 then 0 else (if 0 ≤ (f_X8_sign (((-bb) * (((f_X8_sign aa)).toInt64)) - ((2 * aa) * (((f_X8_sign aa)).toInt64)))) then 0 else 1))), (5, .int ((f_X8_sign dd) * (f_X8_sign aa))), (6, .int ((f_X8_sign ((aa + bb) + dd)) * (f_X8_sign aa)))] → W p l e R s m args below meth c H locs 0 0 Q (F0 m 232 ls [.int v12]) := by
            clear hP hD hS hl
            intro v12 H locs ls ev12
            rw [ev12]
            clear ev12
            intro hP hD hS hl
            refine lv_istore (lv' := [(7, .int (if ((f_X8_sign dd) * (f_X8_sign aa)) ≤ 0 then 0 else (if (f_X8_sign ((-bb) * (((f_X8_sign aa)).toInt64))) ≤ 0 then 0 else (if ((f_X8_sign ((aa + bb) + dd)) * (f_X8_sign aa)) < 0 then 1 else (if ((if (f_X8_sign ((-bb) * (((f_X8_sign aa)).toInt64))) ≤ 0 then 0 else (if 0 ≤ (f_X8_sign (((-bb) * (((f_X8_sign aa)).toInt64)) - ((2 * aa) * (((f_X8_sign aa)).toInt64)))) then 0 else 1)) : Int32) = 0 then 0 else 1))))), (0, .ref ta), (1, .long ((bb * bb) - ((4 * aa) * dd))), (3, .int (f_X8_sign aa)), (4, .int (if (f_X8_sign ((-bb) * (((f_X8_sign aa)).toInt64))) ≤ 0 then 0 else (if 0 ≤ (f_X8_sign (((-bb) * (((f_X8_sign aa)).toInt64)) - ((2 * aa) * (((f_X8_sign aa)).toInt64)))) then 0 else 1))), (5, .int ((f_X8_sign dd) * (f_X8_sign aa))), (6, .int ((f_X8_sign ((aa + bb) + dd)) * (f_X8_sign aa)))]) hx hb dX8_findRoots_232 hl (by decide) rfl (fun ls hl9 => ?_)
            replace hl := hl9
            clear hl9
            refine lv_iload hx hb dX8_findRoots_234 (lv_at hl 6 rfl) ?_
            have J19 : ∀ (v18 : Int32) (H : Heap) (locs : List Loc) (ls : Array Slot), v18 = (if ((f_X8_sign ((aa + bb) + dd)) * (f_X8_sign aa)) ≤ 0 then 0 else (if 0 ≤ (f_X8_sign (((-bb) * (((f_X8_sign aa)).toInt64)) - ((2 * aa) * (((f_X8_sign aa)).toInt64)))) then 0 else (if ((f_X8_sign dd) * (f_X8_sign aa)) < 0 then 1 else (if (f_X8_sign ((-bb) * (((f_X8_sign aa)).toInt64))) ≤ 0 then 0 else 1)))) → va_P D vwCl [(ta, .inr (8, [.ref m_now, .ref m_undone, .ref m_slots, .ref m_slotKind, .ref m_hasSlot, .ref m_sheetBits, .ref m_sheetSize, .ref m_sheets, .int (nI u), .int fi, .ref m_fresh, .long aa, .long bb, .long dd, .int 0, .ref m_rootWhich, .int 0, .ref m_signs, .ref m_atNought, .int (nI mn), .ref m_change, .ref m_table, .ref m_carried])), (m_rootWhich, .inl (cy 0, 2, .inl rt))] H → va_D A [(ta, .inr (8, [.ref m_now, .ref m_undone, .ref m_slots, .ref m_slotKind, .ref m_hasSlot, .ref m_sheetBits, .ref m_sheetSize, .ref m_sheets, .int (nI u), .int fi, .ref m_fresh, .long aa, .long bb, .long dd, .int 0, .ref m_rootWhich, .int 0, .ref m_signs, .ref m_atNought, .int (nI mn), .ref m_change, .ref m_table, .ref m_carried])), (m_rootWhich, .inl (cy 0, 2, .inl rt))] → va_S A s.heap H locs → lv_has ls 9 [(0, .ref ta), (1, .long ((bb * bb) - ((4 * aa) * dd))), (3, .int (f_X8_sign aa)), (4, .int (if (f_X8_sign ((-bb) * (((f_X8_sign aa)).toInt64))) ≤ 0 then 0 else (if 0 ≤ (f_X8_sign (((-bb) * (((f_X8_sign aa)).toInt64)) - ((2 * aa) * (((f_X8_sign aa)).toInt64)))) then 0 else 1))), (5, .int ((f_X8_sign dd) * (f_X8_sign aa))), (6, .int ((f_X8_sign ((aa + bb) + dd)) * (f_X8_sign aa))), (7, .int (if ((f_X8_sign dd) * (f_X8_sign aa)) ≤ 0 then 0 else (if (f_X8_sign ((-bb) * (((f_X8_sign aa)).toInt64))) ≤ 0 then 0 else (if ((f_X8_sign ((aa + bb) + dd)) * (f_X8_sign aa)) < 0 then 1 else (if ((if (f_X8_sign ((-bb) * (((f_X8_sign aa)).toInt64))) ≤ 0 then 0 else (if 0 ≤ (f_X8_sign (((-bb) * (((f_X8_sign aa)).toInt64)) - ((2 * aa) * (((f_X8_sign aa)).toInt64)))) then 0 else 1)) : Int32) = 0 then 0 else 1)))))] → W p l e R s m args below meth c H locs 0 0 Q (F0 m 289 ls [.int v18]) := by
              clear hP hD hS hl
              intro v18 H locs ls ev18
              rw [ev18]
              clear ev18
              intro hP hD hS hl
              refine lv_istore (lv' := [(8, .int (if ((f_X8_sign ((aa + bb) + dd)) * (f_X8_sign aa)) ≤ 0 then 0 else (if 0 ≤ (f_X8_sign (((-bb) * (((f_X8_sign aa)).toInt64)) - ((2 * aa) * (((f_X8_sign aa)).toInt64)))) then 0 else (if ((f_X8_sign dd) * (f_X8_sign aa)) < 0 then 1 else (if (f_X8_sign ((-bb) * (((f_X8_sign aa)).toInt64))) ≤ 0 then 0 else 1))))), (0, .ref ta), (1, .long ((bb * bb) - ((4 * aa) * dd))), (3, .int (f_X8_sign aa)), (4, .int (if (f_X8_sign ((-bb) * (((f_X8_sign aa)).toInt64))) ≤ 0 then 0 else (if 0 ≤ (f_X8_sign (((-bb) * (((f_X8_sign aa)).toInt64)) - ((2 * aa) * (((f_X8_sign aa)).toInt64)))) then 0 else 1))), (5, .int ((f_X8_sign dd) * (f_X8_sign aa))), (6, .int ((f_X8_sign ((aa + bb) + dd)) * (f_X8_sign aa))), (7, .int (if ((f_X8_sign dd) * (f_X8_sign aa)) ≤ 0 then 0 else (if (f_X8_sign ((-bb) * (((f_X8_sign aa)).toInt64))) ≤ 0 then 0 else (if ((f_X8_sign ((aa + bb) + dd)) * (f_X8_sign aa)) < 0 then 1 else (if ((if (f_X8_sign ((-bb) * (((f_X8_sign aa)).toInt64))) ≤ 0 then 0 else (if 0 ≤ (f_X8_sign (((-bb) * (((f_X8_sign aa)).toInt64)) - ((2 * aa) * (((f_X8_sign aa)).toInt64)))) then 0 else 1)) : Int32) = 0 then 0 else 1)))))]) hx hb dX8_findRoots_289 hl (by decide) rfl (fun ls hl9 => ?_)
              replace hl := hl9
              clear hl9
              refine lv_iload hx hb dX8_findRoots_291 (lv_at hl 7 rfl) ?_
              have J23 : ∀ (v21 : Nat) (v22 : Nat → Int32) (H : Heap) (locs : List Loc) (ls : Array Slot), v21 = (if ((if ((f_X8_sign dd) * (f_X8_sign aa)) ≤ 0 then 0 else (if (f_X8_sign ((-bb) * (((f_X8_sign aa)).toInt64))) ≤ 0 then 0 else (if ((f_X8_sign ((aa + bb) + dd)) * (f_X8_sign aa)) < 0 then 1 else (if ((if (f_X8_sign ((-bb) * (((f_X8_sign aa)).toInt64))) ≤ 0 then 0 else (if 0 ≤ (f_X8_sign (((-bb) * (((f_X8_sign aa)).toInt64)) - ((2 * aa) * (((f_X8_sign aa)).toInt64)))) then 0 else 1)) : Int32) = 0 then 0 else 1)))) : Int32) = 0 then 0 else (f_X8_only 0 rt 0).1) → v22 = (if ((if ((f_X8_sign dd) * (f_X8_sign aa)) ≤ 0 then 0 else (if (f_X8_sign ((-bb) * (((f_X8_sign aa)).toInt64))) ≤ 0 then 0 else (if ((f_X8_sign ((aa + bb) + dd)) * (f_X8_sign aa)) < 0 then 1 else (if ((if (f_X8_sign ((-bb) * (((f_X8_sign aa)).toInt64))) ≤ 0 then 0 else (if 0 ≤ (f_X8_sign (((-bb) * (((f_X8_sign aa)).toInt64)) - ((2 * aa) * (((f_X8_sign aa)).toInt64)))) then 0 else 1)) : Int32) = 0 then 0 else 1)))) : Int32) = 0 then rt else (f_X8_only 0 rt 0).2) → va_P D vwCl [(ta, .inr (8, [.ref m_now, .ref m_undone, .ref m_slots, .ref m_slotKind, .ref m_hasSlot, .ref m_sheetBits, .ref m_sheetSize, .ref m_sheets, .int (nI u), .int fi, .ref m_fresh, .long aa, .long bb, .long dd, .int (nI v21), .ref m_rootWhich, .int 0, .ref m_signs, .ref m_atNought, .int (nI mn), .ref m_change, .ref m_table, .ref m_carried])), (m_rootWhich, .inl (cy 0, 2, .inl v22))] H → va_D A [(ta, .inr (8, [.ref m_now, .ref m_undone, .ref m_slots, .ref m_slotKind, .ref m_hasSlot, .ref m_sheetBits, .ref m_sheetSize, .ref m_sheets, .int (nI u), .int fi, .ref m_fresh, .long aa, .long bb, .long dd, .int (nI v21), .ref m_rootWhich, .int 0, .ref m_signs, .ref m_atNought, .int (nI mn), .ref m_change, .ref m_table, .ref m_carried])), (m_rootWhich, .inl (cy 0, 2, .inl v22))] → va_S A s.heap H locs → lv_has ls 9 [(0, .ref ta), (1, .long ((bb * bb) - ((4 * aa) * dd))), (3, .int (f_X8_sign aa)), (4, .int (if (f_X8_sign ((-bb) * (((f_X8_sign aa)).toInt64))) ≤ 0 then 0 else (if 0 ≤ (f_X8_sign (((-bb) * (((f_X8_sign aa)).toInt64)) - ((2 * aa) * (((f_X8_sign aa)).toInt64)))) then 0 else 1))), (5, .int ((f_X8_sign dd) * (f_X8_sign aa))), (6, .int ((f_X8_sign ((aa + bb) + dd)) * (f_X8_sign aa))), (7, .int (if ((f_X8_sign dd) * (f_X8_sign aa)) ≤ 0 then 0 else (if (f_X8_sign ((-bb) * (((f_X8_sign aa)).toInt64))) ≤ 0 then 0 else (if ((f_X8_sign ((aa + bb) + dd)) * (f_X8_sign aa)) < 0 then 1 else (if ((if (f_X8_sign ((-bb) * (((f_X8_sign aa)).toInt64))) ≤ 0 then 0 else (if 0 ≤ (f_X8_sign (((-bb) * (((f_X8_sign aa)).toInt64)) - ((2 * aa) * (((f_X8_sign aa)).toInt64)))) then 0 else 1)) : Int32) = 0 then 0 else 1))))), (8, .int (if ((f_X8_sign ((aa + bb) + dd)) * (f_X8_sign aa)) ≤ 0 then 0 else (if 0 ≤ (f_X8_sign (((-bb) * (((f_X8_sign aa)).toInt64)) - ((2 * aa) * (((f_X8_sign aa)).toInt64)))) then 0 else (if ((f_X8_sign dd) * (f_X8_sign aa)) < 0 then 1 else (if (f_X8_sign ((-bb) * (((f_X8_sign aa)).toInt64))) ≤ 0 then 0 else 1)))))] → W p l e R s m args below meth c H locs 0 0 Q (F0 m 301 ls []) := by
                clear hP hD hS hl
                intro v21 v22 H locs ls ev21 ev22
                rw [ev21, ev22]
                clear ev21
                clear ev22
                intro hP hD hS hl
                refine lv_iload hx hb dX8_findRoots_301 (lv_at hl 7 rfl) ?_
                have J27 : ∀ (v25 : Nat) (v26 : Nat → Int32) (H : Heap) (locs : List Loc) (ls : Array Slot), v25 = (if ((if ((f_X8_sign ((aa + bb) + dd)) * (f_X8_sign aa)) ≤ 0 then 0 else (if 0 ≤ (f_X8_sign (((-bb) * (((f_X8_sign aa)).toInt64)) - ((2 * aa) * (((f_X8_sign aa)).toInt64)))) then 0 else (if ((f_X8_sign dd) * (f_X8_sign aa)) < 0 then 1 else (if (f_X8_sign ((-bb) * (((f_X8_sign aa)).toInt64))) ≤ 0 then 0 else 1)))) : Int32) = 0 then (if ((if ((f_X8_sign dd) * (f_X8_sign aa)) ≤ 0 then 0 else (if (f_X8_sign ((-bb) * (((f_X8_sign aa)).toInt64))) ≤ 0 then 0 else (if ((f_X8_sign ((aa + bb) + dd)) * (f_X8_sign aa)) < 0 then 1 else (if ((if (f_X8_sign ((-bb) * (((f_X8_sign aa)).toInt64))) ≤ 0 then 0 else (if 0 ≤ (f_X8_sign (((-bb) * (((f_X8_sign aa)).toInt64)) - ((2 * aa) * (((f_X8_sign aa)).toInt64)))) then 0 else 1)) : Int32) = 0 then 0 else 1)))) : Int32) = 0 then 0 else (f_X8_only 0 rt 0).1) else (f_X8_only (if ((if ((f_X8_sign dd) * (f_X8_sign aa)) ≤ 0 then 0 else (if (f_X8_sign ((-bb) * (((f_X8_sign aa)).toInt64))) ≤ 0 then 0 else (if ((f_X8_sign ((aa + bb) + dd)) * (f_X8_sign aa)) < 0 then 1 else (if ((if (f_X8_sign ((-bb) * (((f_X8_sign aa)).toInt64))) ≤ 0 then 0 else (if 0 ≤ (f_X8_sign (((-bb) * (((f_X8_sign aa)).toInt64)) - ((2 * aa) * (((f_X8_sign aa)).toInt64)))) then 0 else 1)) : Int32) = 0 then 0 else 1)))) : Int32) = 0 then 0 else (f_X8_only 0 rt 0).1) (if ((if ((f_X8_sign dd) * (f_X8_sign aa)) ≤ 0 then 0 else (if (f_X8_sign ((-bb) * (((f_X8_sign aa)).toInt64))) ≤ 0 then 0 else (if ((f_X8_sign ((aa + bb) + dd)) * (f_X8_sign aa)) < 0 then 1 else (if ((if (f_X8_sign ((-bb) * (((f_X8_sign aa)).toInt64))) ≤ 0 then 0 else (if 0 ≤ (f_X8_sign (((-bb) * (((f_X8_sign aa)).toInt64)) - ((2 * aa) * (((f_X8_sign aa)).toInt64)))) then 0 else 1)) : Int32) = 0 then 0 else 1)))) : Int32) = 0 then rt else (f_X8_only 0 rt 0).2) 1).1) → v26 = (if ((if ((f_X8_sign ((aa + bb) + dd)) * (f_X8_sign aa)) ≤ 0 then 0 else (if 0 ≤ (f_X8_sign (((-bb) * (((f_X8_sign aa)).toInt64)) - ((2 * aa) * (((f_X8_sign aa)).toInt64)))) then 0 else (if ((f_X8_sign dd) * (f_X8_sign aa)) < 0 then 1 else (if (f_X8_sign ((-bb) * (((f_X8_sign aa)).toInt64))) ≤ 0 then 0 else 1)))) : Int32) = 0 then (if ((if ((f_X8_sign dd) * (f_X8_sign aa)) ≤ 0 then 0 else (if (f_X8_sign ((-bb) * (((f_X8_sign aa)).toInt64))) ≤ 0 then 0 else (if ((f_X8_sign ((aa + bb) + dd)) * (f_X8_sign aa)) < 0 then 1 else (if ((if (f_X8_sign ((-bb) * (((f_X8_sign aa)).toInt64))) ≤ 0 then 0 else (if 0 ≤ (f_X8_sign (((-bb) * (((f_X8_sign aa)).toInt64)) - ((2 * aa) * (((f_X8_sign aa)).toInt64)))) then 0 else 1)) : Int32) = 0 then 0 else 1)))) : Int32) = 0 then rt else (f_X8_only 0 rt 0).2) else (f_X8_only (if ((if ((f_X8_sign dd) * (f_X8_sign aa)) ≤ 0 then 0 else (if (f_X8_sign ((-bb) * (((f_X8_sign aa)).toInt64))) ≤ 0 then 0 else (if ((f_X8_sign ((aa + bb) + dd)) * (f_X8_sign aa)) < 0 then 1 else (if ((if (f_X8_sign ((-bb) * (((f_X8_sign aa)).toInt64))) ≤ 0 then 0 else (if 0 ≤ (f_X8_sign (((-bb) * (((f_X8_sign aa)).toInt64)) - ((2 * aa) * (((f_X8_sign aa)).toInt64)))) then 0 else 1)) : Int32) = 0 then 0 else 1)))) : Int32) = 0 then 0 else (f_X8_only 0 rt 0).1) (if ((if ((f_X8_sign dd) * (f_X8_sign aa)) ≤ 0 then 0 else (if (f_X8_sign ((-bb) * (((f_X8_sign aa)).toInt64))) ≤ 0 then 0 else (if ((f_X8_sign ((aa + bb) + dd)) * (f_X8_sign aa)) < 0 then 1 else (if ((if (f_X8_sign ((-bb) * (((f_X8_sign aa)).toInt64))) ≤ 0 then 0 else (if 0 ≤ (f_X8_sign (((-bb) * (((f_X8_sign aa)).toInt64)) - ((2 * aa) * (((f_X8_sign aa)).toInt64)))) then 0 else 1)) : Int32) = 0 then 0 else 1)))) : Int32) = 0 then rt else (f_X8_only 0 rt 0).2) 1).2) → va_P D vwCl [(ta, .inr (8, [.ref m_now, .ref m_undone, .ref m_slots, .ref m_slotKind, .ref m_hasSlot, .ref m_sheetBits, .ref m_sheetSize, .ref m_sheets, .int (nI u), .int fi, .ref m_fresh, .long aa, .long bb, .long dd, .int (nI v25), .ref m_rootWhich, .int 0, .ref m_signs, .ref m_atNought, .int (nI mn), .ref m_change, .ref m_table, .ref m_carried])), (m_rootWhich, .inl (cy 0, 2, .inl v26))] H → va_D A [(ta, .inr (8, [.ref m_now, .ref m_undone, .ref m_slots, .ref m_slotKind, .ref m_hasSlot, .ref m_sheetBits, .ref m_sheetSize, .ref m_sheets, .int (nI u), .int fi, .ref m_fresh, .long aa, .long bb, .long dd, .int (nI v25), .ref m_rootWhich, .int 0, .ref m_signs, .ref m_atNought, .int (nI mn), .ref m_change, .ref m_table, .ref m_carried])), (m_rootWhich, .inl (cy 0, 2, .inl v26))] → va_S A s.heap H locs → lv_has ls 9 [(0, .ref ta), (1, .long ((bb * bb) - ((4 * aa) * dd))), (3, .int (f_X8_sign aa)), (4, .int (if (f_X8_sign ((-bb) * (((f_X8_sign aa)).toInt64))) ≤ 0 then 0 else (if 0 ≤ (f_X8_sign (((-bb) * (((f_X8_sign aa)).toInt64)) - ((2 * aa) * (((f_X8_sign aa)).toInt64)))) then 0 else 1))), (5, .int ((f_X8_sign dd) * (f_X8_sign aa))), (6, .int ((f_X8_sign ((aa + bb) + dd)) * (f_X8_sign aa))), (7, .int (if ((f_X8_sign dd) * (f_X8_sign aa)) ≤ 0 then 0 else (if (f_X8_sign ((-bb) * (((f_X8_sign aa)).toInt64))) ≤ 0 then 0 else (if ((f_X8_sign ((aa + bb) + dd)) * (f_X8_sign aa)) < 0 then 1 else (if ((if (f_X8_sign ((-bb) * (((f_X8_sign aa)).toInt64))) ≤ 0 then 0 else (if 0 ≤ (f_X8_sign (((-bb) * (((f_X8_sign aa)).toInt64)) - ((2 * aa) * (((f_X8_sign aa)).toInt64)))) then 0 else 1)) : Int32) = 0 then 0 else 1))))), (8, .int (if ((f_X8_sign ((aa + bb) + dd)) * (f_X8_sign aa)) ≤ 0 then 0 else (if 0 ≤ (f_X8_sign (((-bb) * (((f_X8_sign aa)).toInt64)) - ((2 * aa) * (((f_X8_sign aa)).toInt64)))) then 0 else (if ((f_X8_sign dd) * (f_X8_sign aa)) < 0 then 1 else (if (f_X8_sign ((-bb) * (((f_X8_sign aa)).toInt64))) ≤ 0 then 0 else 1)))))] → W p l e R s m args below meth c H locs 0 0 Q (F0 m 311 ls []) := by
                  clear hP hD hS hl
                  intro v25 v26 H locs ls ev25 ev26
                  rw [ev25, ev26]
                  clear ev25
                  clear ev26
                  intro hP hD hS hl
                  have hF : f_X8_findRoots aa bb dd rt = ((if ((if ((f_X8_sign ((aa + bb) + dd)) * (f_X8_sign aa)) ≤ 0 then 0 else (if 0 ≤ (f_X8_sign (((-bb) * (((f_X8_sign aa)).toInt64)) - ((2 * aa) * (((f_X8_sign aa)).toInt64)))) then 0 else (if ((f_X8_sign dd) * (f_X8_sign aa)) < 0 then 1 else (if (f_X8_sign ((-bb) * (((f_X8_sign aa)).toInt64))) ≤ 0 then 0 else 1)))) : Int32) = 0 then (if ((if ((f_X8_sign dd) * (f_X8_sign aa)) ≤ 0 then 0 else (if (f_X8_sign ((-bb) * (((f_X8_sign aa)).toInt64))) ≤ 0 then 0 else (if ((f_X8_sign ((aa + bb) + dd)) * (f_X8_sign aa)) < 0 then 1 else (if ((if (f_X8_sign ((-bb) * (((f_X8_sign aa)).toInt64))) ≤ 0 then 0 else (if 0 ≤ (f_X8_sign (((-bb) * (((f_X8_sign aa)).toInt64)) - ((2 * aa) * (((f_X8_sign aa)).toInt64)))) then 0 else 1)) : Int32) = 0 then 0 else 1)))) : Int32) = 0 then 0 else (f_X8_only 0 rt 0).1) else (f_X8_only (if ((if ((f_X8_sign dd) * (f_X8_sign aa)) ≤ 0 then 0 else (if (f_X8_sign ((-bb) * (((f_X8_sign aa)).toInt64))) ≤ 0 then 0 else (if ((f_X8_sign ((aa + bb) + dd)) * (f_X8_sign aa)) < 0 then 1 else (if ((if (f_X8_sign ((-bb) * (((f_X8_sign aa)).toInt64))) ≤ 0 then 0 else (if 0 ≤ (f_X8_sign (((-bb) * (((f_X8_sign aa)).toInt64)) - ((2 * aa) * (((f_X8_sign aa)).toInt64)))) then 0 else 1)) : Int32) = 0 then 0 else 1)))) : Int32) = 0 then 0 else (f_X8_only 0 rt 0).1) (if ((if ((f_X8_sign dd) * (f_X8_sign aa)) ≤ 0 then 0 else (if (f_X8_sign ((-bb) * (((f_X8_sign aa)).toInt64))) ≤ 0 then 0 else (if ((f_X8_sign ((aa + bb) + dd)) * (f_X8_sign aa)) < 0 then 1 else (if ((if (f_X8_sign ((-bb) * (((f_X8_sign aa)).toInt64))) ≤ 0 then 0 else (if 0 ≤ (f_X8_sign (((-bb) * (((f_X8_sign aa)).toInt64)) - ((2 * aa) * (((f_X8_sign aa)).toInt64)))) then 0 else 1)) : Int32) = 0 then 0 else 1)))) : Int32) = 0 then rt else (f_X8_only 0 rt 0).2) 1).1), 0, (if ((if ((f_X8_sign ((aa + bb) + dd)) * (f_X8_sign aa)) ≤ 0 then 0 else (if 0 ≤ (f_X8_sign (((-bb) * (((f_X8_sign aa)).toInt64)) - ((2 * aa) * (((f_X8_sign aa)).toInt64)))) then 0 else (if ((f_X8_sign dd) * (f_X8_sign aa)) < 0 then 1 else (if (f_X8_sign ((-bb) * (((f_X8_sign aa)).toInt64))) ≤ 0 then 0 else 1)))) : Int32) = 0 then (if ((if ((f_X8_sign dd) * (f_X8_sign aa)) ≤ 0 then 0 else (if (f_X8_sign ((-bb) * (((f_X8_sign aa)).toInt64))) ≤ 0 then 0 else (if ((f_X8_sign ((aa + bb) + dd)) * (f_X8_sign aa)) < 0 then 1 else (if ((if (f_X8_sign ((-bb) * (((f_X8_sign aa)).toInt64))) ≤ 0 then 0 else (if 0 ≤ (f_X8_sign (((-bb) * (((f_X8_sign aa)).toInt64)) - ((2 * aa) * (((f_X8_sign aa)).toInt64)))) then 0 else 1)) : Int32) = 0 then 0 else 1)))) : Int32) = 0 then rt else (f_X8_only 0 rt 0).2) else (f_X8_only (if ((if ((f_X8_sign dd) * (f_X8_sign aa)) ≤ 0 then 0 else (if (f_X8_sign ((-bb) * (((f_X8_sign aa)).toInt64))) ≤ 0 then 0 else (if ((f_X8_sign ((aa + bb) + dd)) * (f_X8_sign aa)) < 0 then 1 else (if ((if (f_X8_sign ((-bb) * (((f_X8_sign aa)).toInt64))) ≤ 0 then 0 else (if 0 ≤ (f_X8_sign (((-bb) * (((f_X8_sign aa)).toInt64)) - ((2 * aa) * (((f_X8_sign aa)).toInt64)))) then 0 else 1)) : Int32) = 0 then 0 else 1)))) : Int32) = 0 then 0 else (f_X8_only 0 rt 0).1) (if ((if ((f_X8_sign dd) * (f_X8_sign aa)) ≤ 0 then 0 else (if (f_X8_sign ((-bb) * (((f_X8_sign aa)).toInt64))) ≤ 0 then 0 else (if ((f_X8_sign ((aa + bb) + dd)) * (f_X8_sign aa)) < 0 then 1 else (if ((if (f_X8_sign ((-bb) * (((f_X8_sign aa)).toInt64))) ≤ 0 then 0 else (if 0 ≤ (f_X8_sign (((-bb) * (((f_X8_sign aa)).toInt64)) - ((2 * aa) * (((f_X8_sign aa)).toInt64)))) then 0 else 1)) : Int32) = 0 then 0 else 1)))) : Int32) = 0 then rt else (f_X8_only 0 rt 0).2) 1).2)) := hF
                  have hf0 := yk_fst hF
                  have hg0 := yk_snd hF
                  have hf1 := yk_fst hg0
                  have hg1 := yk_snd hg0
                  rw [hf0, hf1, hg1] at hQ
                  exact hQ _ _ _ _ dX8_findRoots_311 hP hS
                refine lv_if_eq (tgt := 311) hx hb dX8_findRoots_303 (by decide) (fun hc24 => ?_) (fun hc24 => ?_)
                · exact J27 _ _ _ _ _ ((if_pos hc24).symm) ((if_pos hc24).symm) hP hD hS (lv_sub hl [0, 1, 2, 3, 4, 5, 6, 7] rfl)
                · refine lv_aload_n hx hb dX8_findRoots_306 rfl (lv_at hl 0 rfl) ?_
                  refine lv_iconst (v := 1) hx hb dX8_findRoots_307 (by decide) ?_
                  refine yk_v [0, 1] (va_runV (As := [.int 1]) (rest := []) ⟨hx, hb, hml, hown, hts⟩ (c_X8_only l D cy ta m_rootWhich m_now m_undone m_slots m_slotKind m_hasSlot m_sheetBits m_sheetSize m_sheets m_fresh m_signs m_atNought m_change m_table m_carried u fi aa bb dd (if ((if ((f_X8_sign dd) * (f_X8_sign aa)) ≤ 0 then 0 else (if (f_X8_sign ((-bb) * (((f_X8_sign aa)).toInt64))) ≤ 0 then 0 else (if ((f_X8_sign ((aa + bb) + dd)) * (f_X8_sign aa)) < 0 then 1 else (if ((if (f_X8_sign ((-bb) * (((f_X8_sign aa)).toInt64))) ≤ 0 then 0 else (if 0 ≤ (f_X8_sign (((-bb) * (((f_X8_sign aa)).toInt64)) - ((2 * aa) * (((f_X8_sign aa)).toInt64)))) then 0 else 1)) : Int32) = 0 then 0 else 1)))) : Int32) = 0 then 0 else (f_X8_only 0 rt 0).1) (if ((if ((f_X8_sign dd) * (f_X8_sign aa)) ≤ 0 then 0 else (if (f_X8_sign ((-bb) * (((f_X8_sign aa)).toInt64))) ≤ 0 then 0 else (if ((f_X8_sign ((aa + bb) + dd)) * (f_X8_sign aa)) < 0 then 1 else (if ((if (f_X8_sign ((-bb) * (((f_X8_sign aa)).toInt64))) ≤ 0 then 0 else (if 0 ≤ (f_X8_sign (((-bb) * (((f_X8_sign aa)).toInt64)) - ((2 * aa) * (((f_X8_sign aa)).toInt64)))) then 0 else 1)) : Int32) = 0 then 0 else 1)))) : Int32) = 0 then rt else (f_X8_only 0 rt 0).2) 0 mn 1 (by unfold f_X8_only; (repeat' split) <;> first | decide | exact (by decide : (1 : Nat) < 2)) H.size) (cwV 1 hts gX8_findRoots_X8_only rfl rfl rfl hv_X8_only (yk_room hRf hRl rfl rfl)) (yk_pv (q := (RX8, TX8, 23)) hG hA hS hK hP hD [0, 1] (by decide +kernel) rfl rfl rfl) rfl rfl hl.1 rfl (lv_room (Nat.le_of_ble_eq_true rfl)) dX8_findRoots_308 ⟨Nat.zero_le _, Nat.zero_le _⟩) hP hD hS hA rfl (Eq.trans (b := [ta, m_rootWhich]) rfl rfl) (fun H locs hP9 hD9 hS9 => ?_)
                  replace hP : va_P D vwCl [(ta, .inr (8, [.ref m_now, .ref m_undone, .ref m_slots, .ref m_slotKind, .ref m_hasSlot, .ref m_sheetBits, .ref m_sheetSize, .ref m_sheets, .int (nI u), .int fi, .ref m_fresh, .long aa, .long bb, .long dd, .int (nI ((f_X8_only (if ((if ((f_X8_sign dd) * (f_X8_sign aa)) ≤ 0 then 0 else (if (f_X8_sign ((-bb) * (((f_X8_sign aa)).toInt64))) ≤ 0 then 0 else (if ((f_X8_sign ((aa + bb) + dd)) * (f_X8_sign aa)) < 0 then 1 else (if ((if (f_X8_sign ((-bb) * (((f_X8_sign aa)).toInt64))) ≤ 0 then 0 else (if 0 ≤ (f_X8_sign (((-bb) * (((f_X8_sign aa)).toInt64)) - ((2 * aa) * (((f_X8_sign aa)).toInt64)))) then 0 else 1)) : Int32) = 0 then 0 else 1)))) : Int32) = 0 then 0 else (f_X8_only 0 rt 0).1) (if ((if ((f_X8_sign dd) * (f_X8_sign aa)) ≤ 0 then 0 else (if (f_X8_sign ((-bb) * (((f_X8_sign aa)).toInt64))) ≤ 0 then 0 else (if ((f_X8_sign ((aa + bb) + dd)) * (f_X8_sign aa)) < 0 then 1 else (if ((if (f_X8_sign ((-bb) * (((f_X8_sign aa)).toInt64))) ≤ 0 then 0 else (if 0 ≤ (f_X8_sign (((-bb) * (((f_X8_sign aa)).toInt64)) - ((2 * aa) * (((f_X8_sign aa)).toInt64)))) then 0 else 1)) : Int32) = 0 then 0 else 1)))) : Int32) = 0 then rt else (f_X8_only 0 rt 0).2) 1).1)), .ref m_rootWhich, .int 0, .ref m_signs, .ref m_atNought, .int (nI mn), .ref m_change, .ref m_table, .ref m_carried])), (m_rootWhich, .inl (cy 0, 2, .inl ((f_X8_only (if ((if ((f_X8_sign dd) * (f_X8_sign aa)) ≤ 0 then 0 else (if (f_X8_sign ((-bb) * (((f_X8_sign aa)).toInt64))) ≤ 0 then 0 else (if ((f_X8_sign ((aa + bb) + dd)) * (f_X8_sign aa)) < 0 then 1 else (if ((if (f_X8_sign ((-bb) * (((f_X8_sign aa)).toInt64))) ≤ 0 then 0 else (if 0 ≤ (f_X8_sign (((-bb) * (((f_X8_sign aa)).toInt64)) - ((2 * aa) * (((f_X8_sign aa)).toInt64)))) then 0 else 1)) : Int32) = 0 then 0 else 1)))) : Int32) = 0 then 0 else (f_X8_only 0 rt 0).1) (if ((if ((f_X8_sign dd) * (f_X8_sign aa)) ≤ 0 then 0 else (if (f_X8_sign ((-bb) * (((f_X8_sign aa)).toInt64))) ≤ 0 then 0 else (if ((f_X8_sign ((aa + bb) + dd)) * (f_X8_sign aa)) < 0 then 1 else (if ((if (f_X8_sign ((-bb) * (((f_X8_sign aa)).toInt64))) ≤ 0 then 0 else (if 0 ≤ (f_X8_sign (((-bb) * (((f_X8_sign aa)).toInt64)) - ((2 * aa) * (((f_X8_sign aa)).toInt64)))) then 0 else 1)) : Int32) = 0 then 0 else 1)))) : Int32) = 0 then rt else (f_X8_only 0 rt 0).2) 1).2)))] H := hP9
                  replace hD : va_D A [(ta, .inr (8, [.ref m_now, .ref m_undone, .ref m_slots, .ref m_slotKind, .ref m_hasSlot, .ref m_sheetBits, .ref m_sheetSize, .ref m_sheets, .int (nI u), .int fi, .ref m_fresh, .long aa, .long bb, .long dd, .int (nI ((f_X8_only (if ((if ((f_X8_sign dd) * (f_X8_sign aa)) ≤ 0 then 0 else (if (f_X8_sign ((-bb) * (((f_X8_sign aa)).toInt64))) ≤ 0 then 0 else (if ((f_X8_sign ((aa + bb) + dd)) * (f_X8_sign aa)) < 0 then 1 else (if ((if (f_X8_sign ((-bb) * (((f_X8_sign aa)).toInt64))) ≤ 0 then 0 else (if 0 ≤ (f_X8_sign (((-bb) * (((f_X8_sign aa)).toInt64)) - ((2 * aa) * (((f_X8_sign aa)).toInt64)))) then 0 else 1)) : Int32) = 0 then 0 else 1)))) : Int32) = 0 then 0 else (f_X8_only 0 rt 0).1) (if ((if ((f_X8_sign dd) * (f_X8_sign aa)) ≤ 0 then 0 else (if (f_X8_sign ((-bb) * (((f_X8_sign aa)).toInt64))) ≤ 0 then 0 else (if ((f_X8_sign ((aa + bb) + dd)) * (f_X8_sign aa)) < 0 then 1 else (if ((if (f_X8_sign ((-bb) * (((f_X8_sign aa)).toInt64))) ≤ 0 then 0 else (if 0 ≤ (f_X8_sign (((-bb) * (((f_X8_sign aa)).toInt64)) - ((2 * aa) * (((f_X8_sign aa)).toInt64)))) then 0 else 1)) : Int32) = 0 then 0 else 1)))) : Int32) = 0 then rt else (f_X8_only 0 rt 0).2) 1).1)), .ref m_rootWhich, .int 0, .ref m_signs, .ref m_atNought, .int (nI mn), .ref m_change, .ref m_table, .ref m_carried])), (m_rootWhich, .inl (cy 0, 2, .inl ((f_X8_only (if ((if ((f_X8_sign dd) * (f_X8_sign aa)) ≤ 0 then 0 else (if (f_X8_sign ((-bb) * (((f_X8_sign aa)).toInt64))) ≤ 0 then 0 else (if ((f_X8_sign ((aa + bb) + dd)) * (f_X8_sign aa)) < 0 then 1 else (if ((if (f_X8_sign ((-bb) * (((f_X8_sign aa)).toInt64))) ≤ 0 then 0 else (if 0 ≤ (f_X8_sign (((-bb) * (((f_X8_sign aa)).toInt64)) - ((2 * aa) * (((f_X8_sign aa)).toInt64)))) then 0 else 1)) : Int32) = 0 then 0 else 1)))) : Int32) = 0 then 0 else (f_X8_only 0 rt 0).1) (if ((if ((f_X8_sign dd) * (f_X8_sign aa)) ≤ 0 then 0 else (if (f_X8_sign ((-bb) * (((f_X8_sign aa)).toInt64))) ≤ 0 then 0 else (if ((f_X8_sign ((aa + bb) + dd)) * (f_X8_sign aa)) < 0 then 1 else (if ((if (f_X8_sign ((-bb) * (((f_X8_sign aa)).toInt64))) ≤ 0 then 0 else (if 0 ≤ (f_X8_sign (((-bb) * (((f_X8_sign aa)).toInt64)) - ((2 * aa) * (((f_X8_sign aa)).toInt64)))) then 0 else 1)) : Int32) = 0 then 0 else 1)))) : Int32) = 0 then rt else (f_X8_only 0 rt 0).2) 1).2)))] := hD9
                  replace hS := hS9
                  clear hP9 hD9 hS9
                  exact J27 _ _ _ _ _ ((if_neg hc24).symm) ((if_neg hc24).symm) hP hD hS (lv_sub hl [0, 1, 2, 3, 4, 5, 6, 7] rfl)
              refine lv_if_eq (tgt := 301) hx hb dX8_findRoots_293 (by decide) (fun hc20 => ?_) (fun hc20 => ?_)
              · exact J23 _ _ _ _ _ ((if_pos hc20).symm) ((if_pos hc20).symm) hP hD hS (lv_sub hl [1, 2, 3, 4, 5, 6, 7, 0] rfl)
              · refine lv_aload_n hx hb dX8_findRoots_296 rfl (lv_at hl 1 rfl) ?_
                refine lv_iconst (v := 0) hx hb dX8_findRoots_297 (by decide) ?_
                refine yk_v [0, 1] (va_runV (As := [.int 0]) (rest := []) ⟨hx, hb, hml, hown, hts⟩ (c_X8_only l D cy ta m_rootWhich m_now m_undone m_slots m_slotKind m_hasSlot m_sheetBits m_sheetSize m_sheets m_fresh m_signs m_atNought m_change m_table m_carried u fi aa bb dd 0 rt 0 mn 0 (by omega) H.size) (cwV 1 hts gX8_findRoots_X8_only rfl rfl rfl hv_X8_only (yk_room hRf hRl rfl rfl)) (yk_pv (q := (RX8, TX8, 23)) hG hA hS hK hP hD [0, 1] (by decide +kernel) rfl rfl rfl) rfl rfl hl.1 rfl (lv_room (Nat.le_of_ble_eq_true rfl)) dX8_findRoots_298 ⟨Nat.zero_le _, Nat.zero_le _⟩) hP hD hS hA rfl (Eq.trans (b := [ta, m_rootWhich]) rfl rfl) (fun H locs hP9 hD9 hS9 => ?_)
                replace hP : va_P D vwCl [(ta, .inr (8, [.ref m_now, .ref m_undone, .ref m_slots, .ref m_slotKind, .ref m_hasSlot, .ref m_sheetBits, .ref m_sheetSize, .ref m_sheets, .int (nI u), .int fi, .ref m_fresh, .long aa, .long bb, .long dd, .int (nI ((f_X8_only 0 rt 0).1)), .ref m_rootWhich, .int 0, .ref m_signs, .ref m_atNought, .int (nI mn), .ref m_change, .ref m_table, .ref m_carried])), (m_rootWhich, .inl (cy 0, 2, .inl ((f_X8_only 0 rt 0).2)))] H := hP9
                replace hD : va_D A [(ta, .inr (8, [.ref m_now, .ref m_undone, .ref m_slots, .ref m_slotKind, .ref m_hasSlot, .ref m_sheetBits, .ref m_sheetSize, .ref m_sheets, .int (nI u), .int fi, .ref m_fresh, .long aa, .long bb, .long dd, .int (nI ((f_X8_only 0 rt 0).1)), .ref m_rootWhich, .int 0, .ref m_signs, .ref m_atNought, .int (nI mn), .ref m_change, .ref m_table, .ref m_carried])), (m_rootWhich, .inl (cy 0, 2, .inl ((f_X8_only 0 rt 0).2)))] := hD9
                replace hS := hS9
                clear hP9 hD9 hS9
                exact J23 _ _ _ _ _ ((if_neg hc20).symm) ((if_neg hc20).symm) hP hD hS (lv_sub hl [1, 2, 3, 4, 5, 6, 7, 0] rfl)
            refine lv_if_le (tgt := 288) hx hb dX8_findRoots_236 (by decide) (fun hc14 => ?_) (fun hc14 => ?_)
            · refine lv_iconst (v := 0) hx hb dX8_findRoots_288 (by decide) ?_
              exact J19 _ _ _ _ ((if_pos hc14).symm) hP hD hS (lv_sub hl [1, 2, 3, 4, 5, 6, 0] rfl)
            · refine lv_aload_n hx hb dX8_findRoots_239 rfl (lv_at hl 1 rfl) ?_
              refine va_get (D := D) (ci := 8) (v := .long bb) (C := RX8) (T := TX8) (N := 23) hx hb hts uX8_findRoots_X8 hown hK hP 0 rfl rfl 12 (by decide) (hts _ kX8_findRoots_3) (fun _ h9 => h9) rfl dX8_findRoots_240 ?_
              refine lv_lneg hx hb dX8_findRoots_243 ?_
              refine lv_iload_n hx hb dX8_findRoots_244 rfl (lv_at hl 3 rfl) ?_
              refine lv_i2l hx hb dX8_findRoots_245 rfl ?_
              refine lv_lmul hx hb dX8_findRoots_246 ?_
              refine lv_ldc2 (v := 2) hx hb hown (hts _ kX8_findRoots_6) dX8_findRoots_247 ?_
              refine lv_aload_n hx hb dX8_findRoots_250 rfl (lv_at hl 1 rfl) ?_
              refine va_get (D := D) (ci := 8) (v := .long aa) (C := RX8) (T := TX8) (N := 23) hx hb hts uX8_findRoots_X8 hown hK hP 0 rfl rfl 11 (by decide) (hts _ kX8_findRoots_2) (fun _ h9 => h9) rfl dX8_findRoots_251 ?_
              refine lv_lmul hx hb dX8_findRoots_254 ?_
              refine lv_iload_n hx hb dX8_findRoots_255 rfl (lv_at hl 3 rfl) ?_
              refine lv_i2l hx hb dX8_findRoots_256 rfl ?_
              refine lv_lmul hx hb dX8_findRoots_257 ?_
              refine lv_lsub hx hb dX8_findRoots_258 ?_
              refine yk_i [] (va_runS (As := [.long (((-bb) * (((f_X8_sign aa)).toInt64)) - ((2 * aa) * (((f_X8_sign aa)).toInt64)))]) (rest := []) ⟨hx, hb, hml, hown, hts⟩ (c_X8_sign l D cy (((-bb) * (((f_X8_sign aa)).toInt64)) - ((2 * aa) * (((f_X8_sign aa)).toInt64))) H.size) (va_cwS 1 hts gX8_findRoots_X8_sign rfl rfl rfl hs_X8_sign (yk_room hRf hRl rfl rfl)) (yk_ps hG hA hS hK hP hD [] (by decide +kernel) rfl) rfl rfl hl.1 rfl (lv_room (Nat.le_of_ble_eq_true rfl)) dX8_findRoots_259 ⟨Nat.zero_le _, Nat.zero_le _⟩) hP hD hS hA rfl rfl (fun H locs hP9 hD9 hS9 => ?_)
              replace hP : va_P D vwCl [(ta, .inr (8, [.ref m_now, .ref m_undone, .ref m_slots, .ref m_slotKind, .ref m_hasSlot, .ref m_sheetBits, .ref m_sheetSize, .ref m_sheets, .int (nI u), .int fi, .ref m_fresh, .long aa, .long bb, .long dd, .int 0, .ref m_rootWhich, .int 0, .ref m_signs, .ref m_atNought, .int (nI mn), .ref m_change, .ref m_table, .ref m_carried])), (m_rootWhich, .inl (cy 0, 2, .inl rt))] H := hP9
              replace hD : va_D A [(ta, .inr (8, [.ref m_now, .ref m_undone, .ref m_slots, .ref m_slotKind, .ref m_hasSlot, .ref m_sheetBits, .ref m_sheetSize, .ref m_sheets, .int (nI u), .int fi, .ref m_fresh, .long aa, .long bb, .long dd, .int 0, .ref m_rootWhich, .int 0, .ref m_signs, .ref m_atNought, .int (nI mn), .ref m_change, .ref m_table, .ref m_carried])), (m_rootWhich, .inl (cy 0, 2, .inl rt))] := hD9
              replace hS := hS9
              clear hP9 hD9 hS9
              refine lv_if_ge (tgt := 288) hx hb dX8_findRoots_262 (by decide) (fun hc15 => ?_) (fun hc15 => ?_)
              · refine lv_iconst (v := 0) hx hb dX8_findRoots_288 (by decide) ?_
                exact J19 _ _ _ _ (((if_neg hc14).trans (if_pos hc15)).symm) hP hD hS (lv_sub hl [1, 2, 3, 4, 5, 6, 0] rfl)
              · refine lv_iload hx hb dX8_findRoots_265 (lv_at hl 5 rfl) ?_
                refine lv_if_lt (tgt := 284) hx hb dX8_findRoots_267 (by decide) (fun hc16 => ?_) (fun hc16 => ?_)
                · refine lv_iconst (v := 1) hx hb dX8_findRoots_284 (by decide) ?_
                  refine lv_goto (tgt := 289) hx hb dX8_findRoots_285 (by decide) ?_
                  exact J19 _ _ _ _ (((if_neg hc14).trans ((if_neg hc15).trans (if_pos hc16))).symm) hP hD hS (lv_sub hl [1, 2, 3, 4, 5, 6, 0] rfl)
                · refine lv_aload_n hx hb dX8_findRoots_270 rfl (lv_at hl 1 rfl) ?_
                  refine va_get (D := D) (ci := 8) (v := .long bb) (C := RX8) (T := TX8) (N := 23) hx hb hts uX8_findRoots_X8 hown hK hP 0 rfl rfl 12 (by decide) (hts _ kX8_findRoots_3) (fun _ h9 => h9) rfl dX8_findRoots_271 ?_
                  refine lv_lneg hx hb dX8_findRoots_274 ?_
                  refine lv_iload_n hx hb dX8_findRoots_275 rfl (lv_at hl 3 rfl) ?_
                  refine lv_i2l hx hb dX8_findRoots_276 rfl ?_
                  refine lv_lmul hx hb dX8_findRoots_277 ?_
                  refine yk_i [] (va_runS (As := [.long ((-bb) * (((f_X8_sign aa)).toInt64))]) (rest := []) ⟨hx, hb, hml, hown, hts⟩ (c_X8_sign l D cy ((-bb) * (((f_X8_sign aa)).toInt64)) H.size) (va_cwS 1 hts gX8_findRoots_X8_sign rfl rfl rfl hs_X8_sign (yk_room hRf hRl rfl rfl)) (yk_ps hG hA hS hK hP hD [] (by decide +kernel) rfl) rfl rfl hl.1 rfl (lv_room (Nat.le_of_ble_eq_true rfl)) dX8_findRoots_278 ⟨Nat.zero_le _, Nat.zero_le _⟩) hP hD hS hA rfl rfl (fun H locs hP9 hD9 hS9 => ?_)
                  replace hP : va_P D vwCl [(ta, .inr (8, [.ref m_now, .ref m_undone, .ref m_slots, .ref m_slotKind, .ref m_hasSlot, .ref m_sheetBits, .ref m_sheetSize, .ref m_sheets, .int (nI u), .int fi, .ref m_fresh, .long aa, .long bb, .long dd, .int 0, .ref m_rootWhich, .int 0, .ref m_signs, .ref m_atNought, .int (nI mn), .ref m_change, .ref m_table, .ref m_carried])), (m_rootWhich, .inl (cy 0, 2, .inl rt))] H := hP9
                  replace hD : va_D A [(ta, .inr (8, [.ref m_now, .ref m_undone, .ref m_slots, .ref m_slotKind, .ref m_hasSlot, .ref m_sheetBits, .ref m_sheetSize, .ref m_sheets, .int (nI u), .int fi, .ref m_fresh, .long aa, .long bb, .long dd, .int 0, .ref m_rootWhich, .int 0, .ref m_signs, .ref m_atNought, .int (nI mn), .ref m_change, .ref m_table, .ref m_carried])), (m_rootWhich, .inl (cy 0, 2, .inl rt))] := hD9
                  replace hS := hS9
                  clear hP9 hD9 hS9
                  refine lv_if_le (tgt := 288) hx hb dX8_findRoots_281 (by decide) (fun hc17 => ?_) (fun hc17 => ?_)
                  · refine lv_iconst (v := 0) hx hb dX8_findRoots_288 (by decide) ?_
                    exact J19 _ _ _ _ (((if_neg hc14).trans ((if_neg hc15).trans ((if_neg hc16).trans (if_pos hc17)))).symm) hP hD hS (lv_sub hl [1, 2, 3, 4, 5, 6, 0] rfl)
                  · refine lv_iconst (v := 1) hx hb dX8_findRoots_284 (by decide) ?_
                    refine lv_goto (tgt := 289) hx hb dX8_findRoots_285 (by decide) ?_
                    exact J19 _ _ _ _ (((if_neg hc14).trans ((if_neg hc15).trans ((if_neg hc16).trans (if_neg hc17)))).symm) hP hD hS (lv_sub hl [1, 2, 3, 4, 5, 6, 0] rfl)
          refine lv_if_le (tgt := 231) hx hb dX8_findRoots_200 (by decide) (fun hc8 => ?_) (fun hc8 => ?_)
          · refine lv_iconst (v := 0) hx hb dX8_findRoots_231 (by decide) ?_
            exact J13 _ _ _ _ ((if_pos hc8).symm) hP hD hS (lv_sub hl [3, 4, 5, 2, 1, 0] rfl)
          · refine lv_aload_n hx hb dX8_findRoots_203 rfl (lv_at hl 3 rfl) ?_
            refine va_get (D := D) (ci := 8) (v := .long bb) (C := RX8) (T := TX8) (N := 23) hx hb hts uX8_findRoots_X8 hown hK hP 0 rfl rfl 12 (by decide) (hts _ kX8_findRoots_3) (fun _ h9 => h9) rfl dX8_findRoots_204 ?_
            refine lv_lneg hx hb dX8_findRoots_207 ?_
            refine lv_iload_n hx hb dX8_findRoots_208 rfl (lv_at hl 5 rfl) ?_
            refine lv_i2l hx hb dX8_findRoots_209 rfl ?_
            refine lv_lmul hx hb dX8_findRoots_210 ?_
            refine yk_i [] (va_runS (As := [.long ((-bb) * (((f_X8_sign aa)).toInt64))]) (rest := []) ⟨hx, hb, hml, hown, hts⟩ (c_X8_sign l D cy ((-bb) * (((f_X8_sign aa)).toInt64)) H.size) (va_cwS 1 hts gX8_findRoots_X8_sign rfl rfl rfl hs_X8_sign (yk_room hRf hRl rfl rfl)) (yk_ps hG hA hS hK hP hD [] (by decide +kernel) rfl) rfl rfl hl.1 rfl (lv_room (Nat.le_of_ble_eq_true rfl)) dX8_findRoots_211 ⟨Nat.zero_le _, Nat.zero_le _⟩) hP hD hS hA rfl rfl (fun H locs hP9 hD9 hS9 => ?_)
            replace hP : va_P D vwCl [(ta, .inr (8, [.ref m_now, .ref m_undone, .ref m_slots, .ref m_slotKind, .ref m_hasSlot, .ref m_sheetBits, .ref m_sheetSize, .ref m_sheets, .int (nI u), .int fi, .ref m_fresh, .long aa, .long bb, .long dd, .int 0, .ref m_rootWhich, .int 0, .ref m_signs, .ref m_atNought, .int (nI mn), .ref m_change, .ref m_table, .ref m_carried])), (m_rootWhich, .inl (cy 0, 2, .inl rt))] H := hP9
            replace hD : va_D A [(ta, .inr (8, [.ref m_now, .ref m_undone, .ref m_slots, .ref m_slotKind, .ref m_hasSlot, .ref m_sheetBits, .ref m_sheetSize, .ref m_sheets, .int (nI u), .int fi, .ref m_fresh, .long aa, .long bb, .long dd, .int 0, .ref m_rootWhich, .int 0, .ref m_signs, .ref m_atNought, .int (nI mn), .ref m_change, .ref m_table, .ref m_carried])), (m_rootWhich, .inl (cy 0, 2, .inl rt))] := hD9
            replace hS := hS9
            clear hP9 hD9 hS9
            refine lv_if_le (tgt := 231) hx hb dX8_findRoots_214 (by decide) (fun hc9 => ?_) (fun hc9 => ?_)
            · refine lv_iconst (v := 0) hx hb dX8_findRoots_231 (by decide) ?_
              exact J13 _ _ _ _ (((if_neg hc8).trans (if_pos hc9)).symm) hP hD hS (lv_sub hl [3, 4, 5, 2, 1, 0] rfl)
            · refine lv_iload hx hb dX8_findRoots_217 (lv_at hl 0 rfl) ?_
              refine lv_if_lt (tgt := 227) hx hb dX8_findRoots_219 (by decide) (fun hc10 => ?_) (fun hc10 => ?_)
              · refine lv_iconst (v := 1) hx hb dX8_findRoots_227 (by decide) ?_
                refine lv_goto (tgt := 232) hx hb dX8_findRoots_228 (by decide) ?_
                exact J13 _ _ _ _ (((if_neg hc8).trans ((if_neg hc9).trans (if_pos hc10))).symm) hP hD hS (lv_sub hl [3, 4, 5, 2, 1, 0] rfl)
              · refine lv_iload hx hb dX8_findRoots_222 (lv_at hl 2 rfl) ?_
                refine lv_if_eq (tgt := 231) hx hb dX8_findRoots_224 (by decide) (fun hc11 => ?_) (fun hc11 => ?_)
                · refine lv_iconst (v := 0) hx hb dX8_findRoots_231 (by decide) ?_
                  exact J13 _ _ _ _ (((if_neg hc8).trans ((if_neg hc9).trans ((if_neg hc10).trans (if_pos hc11)))).symm) hP hD hS (lv_sub hl [3, 4, 5, 2, 1, 0] rfl)
                · refine lv_iconst (v := 1) hx hb dX8_findRoots_227 (by decide) ?_
                  refine lv_goto (tgt := 232) hx hb dX8_findRoots_228 (by decide) ?_
                  exact J13 _ _ _ _ (((if_neg hc8).trans ((if_neg hc9).trans ((if_neg hc10).trans (if_neg hc11)))).symm) hP hD hS (lv_sub hl [3, 4, 5, 2, 1, 0] rfl)
        · replace hF := hF.trans (if_neg hc7)
          have hF : f_X8_findRoots aa bb dd rt = (0, 0, rt) := hF
          have hf0 := yk_fst hF
          have hg0 := yk_snd hF
          have hf1 := yk_fst hg0
          have hg1 := yk_snd hg0
          rw [hf0, hf1, hg1] at hQ
          exact hQ _ _ _ _ dX8_findRoots_165 hP hS
      · replace hF := hF.trans (if_pos hc6)
        refine lv_aload_n hx hb dX8_findRoots_142 rfl (lv_at hl 1 rfl) ?_
        refine lv_iload hx hb dX8_findRoots_143 (lv_at hl 0 rfl) ?_
        refine va_put (D := D) (ci := 8) (v := .int (if (f_X8_sign ((-bb) * (((f_X8_sign aa)).toInt64))) ≤ 0 then 0 else (if 0 ≤ (f_X8_sign (((-bb) * (((f_X8_sign aa)).toInt64)) - ((2 * aa) * (((f_X8_sign aa)).toInt64)))) then 0 else 1))) (ty := .boolean) (C := RX8) (T := TX8) (N := 23) hx hb hts uX8_findRoots_X8 tyX8 tyX8_ok nmX8 hown hK hP hD hS 0 rfl rfl 16 (by decide) (hts _ kX8_findRoots_1) (fun _ h9 => h9) rfl (by decide +kernel) (yk_nb (by (repeat' split) <;> first | exact Or.inl rfl | exact Or.inr rfl)) (yk_fb (by (repeat' split) <;> first | exact Or.inl rfl | exact Or.inr rfl)) (Nat.le_of_ble_eq_true rfl) dX8_findRoots_145 (fun H locs hP9 hD9 hS9 => ?_)
        replace hP : va_P D vwCl [(ta, .inr (8, [.ref m_now, .ref m_undone, .ref m_slots, .ref m_slotKind, .ref m_hasSlot, .ref m_sheetBits, .ref m_sheetSize, .ref m_sheets, .int (nI u), .int fi, .ref m_fresh, .long aa, .long bb, .long dd, .int 0, .ref m_rootWhich, .int (if (f_X8_sign ((-bb) * (((f_X8_sign aa)).toInt64))) ≤ 0 then 0 else (if 0 ≤ (f_X8_sign (((-bb) * (((f_X8_sign aa)).toInt64)) - ((2 * aa) * (((f_X8_sign aa)).toInt64)))) then 0 else 1)), .ref m_signs, .ref m_atNought, .int (nI mn), .ref m_change, .ref m_table, .ref m_carried])), (m_rootWhich, .inl (cy 0, 2, .inl rt))] H := hP9
        replace hD : va_D A [(ta, .inr (8, [.ref m_now, .ref m_undone, .ref m_slots, .ref m_slotKind, .ref m_hasSlot, .ref m_sheetBits, .ref m_sheetSize, .ref m_sheets, .int (nI u), .int fi, .ref m_fresh, .long aa, .long bb, .long dd, .int 0, .ref m_rootWhich, .int (if (f_X8_sign ((-bb) * (((f_X8_sign aa)).toInt64))) ≤ 0 then 0 else (if 0 ≤ (f_X8_sign (((-bb) * (((f_X8_sign aa)).toInt64)) - ((2 * aa) * (((f_X8_sign aa)).toInt64)))) then 0 else 1)), .ref m_signs, .ref m_atNought, .int (nI mn), .ref m_change, .ref m_table, .ref m_carried])), (m_rootWhich, .inl (cy 0, 2, .inl rt))] := hD9
        replace hS := hS9
        clear hP9 hD9 hS9
        refine lv_iload hx hb dX8_findRoots_148 (lv_at hl 0 rfl) ?_
        have J31 : ∀ (v29 : Nat) (v30 : Nat → Int32) (H : Heap) (locs : List Loc) (ls : Array Slot), v29 = (if ((if (f_X8_sign ((-bb) * (((f_X8_sign aa)).toInt64))) ≤ 0 then 0 else (if 0 ≤ (f_X8_sign (((-bb) * (((f_X8_sign aa)).toInt64)) - ((2 * aa) * (((f_X8_sign aa)).toInt64)))) then 0 else 1)) : Int32) = 0 then 0 else (f_X8_only 0 rt 2).1) → v30 = (if ((if (f_X8_sign ((-bb) * (((f_X8_sign aa)).toInt64))) ≤ 0 then 0 else (if 0 ≤ (f_X8_sign (((-bb) * (((f_X8_sign aa)).toInt64)) - ((2 * aa) * (((f_X8_sign aa)).toInt64)))) then 0 else 1)) : Int32) = 0 then rt else (f_X8_only 0 rt 2).2) → va_P D vwCl [(ta, .inr (8, [.ref m_now, .ref m_undone, .ref m_slots, .ref m_slotKind, .ref m_hasSlot, .ref m_sheetBits, .ref m_sheetSize, .ref m_sheets, .int (nI u), .int fi, .ref m_fresh, .long aa, .long bb, .long dd, .int (nI v29), .ref m_rootWhich, .int (if (f_X8_sign ((-bb) * (((f_X8_sign aa)).toInt64))) ≤ 0 then 0 else (if 0 ≤ (f_X8_sign (((-bb) * (((f_X8_sign aa)).toInt64)) - ((2 * aa) * (((f_X8_sign aa)).toInt64)))) then 0 else 1)), .ref m_signs, .ref m_atNought, .int (nI mn), .ref m_change, .ref m_table, .ref m_carried])), (m_rootWhich, .inl (cy 0, 2, .inl v30))] H → va_D A [(ta, .inr (8, [.ref m_now, .ref m_undone, .ref m_slots, .ref m_slotKind, .ref m_hasSlot, .ref m_sheetBits, .ref m_sheetSize, .ref m_sheets, .int (nI u), .int fi, .ref m_fresh, .long aa, .long bb, .long dd, .int (nI v29), .ref m_rootWhich, .int (if (f_X8_sign ((-bb) * (((f_X8_sign aa)).toInt64))) ≤ 0 then 0 else (if 0 ≤ (f_X8_sign (((-bb) * (((f_X8_sign aa)).toInt64)) - ((2 * aa) * (((f_X8_sign aa)).toInt64)))) then 0 else 1)), .ref m_signs, .ref m_atNought, .int (nI mn), .ref m_change, .ref m_table, .ref m_carried])), (m_rootWhich, .inl (cy 0, 2, .inl v30))] → va_S A s.heap H locs → lv_has ls 9 [(0, .ref ta), (1, .long ((bb * bb) - ((4 * aa) * dd))), (3, .int (f_X8_sign aa)), (4, .int (if (f_X8_sign ((-bb) * (((f_X8_sign aa)).toInt64))) ≤ 0 then 0 else (if 0 ≤ (f_X8_sign (((-bb) * (((f_X8_sign aa)).toInt64)) - ((2 * aa) * (((f_X8_sign aa)).toInt64)))) then 0 else 1)))] → W p l e R s m args below meth c H locs 0 0 Q (F0 m 158 ls []) := by
          clear hP hD hS hl
          intro v29 v30 H locs ls ev29 ev30
          rw [ev29, ev30]
          clear ev29
          clear ev30
          intro hP hD hS hl
          have hF : f_X8_findRoots aa bb dd rt = ((if ((if (f_X8_sign ((-bb) * (((f_X8_sign aa)).toInt64))) ≤ 0 then 0 else (if 0 ≤ (f_X8_sign (((-bb) * (((f_X8_sign aa)).toInt64)) - ((2 * aa) * (((f_X8_sign aa)).toInt64)))) then 0 else 1)) : Int32) = 0 then 0 else (f_X8_only 0 rt 2).1), (if (f_X8_sign ((-bb) * (((f_X8_sign aa)).toInt64))) ≤ 0 then 0 else (if 0 ≤ (f_X8_sign (((-bb) * (((f_X8_sign aa)).toInt64)) - ((2 * aa) * (((f_X8_sign aa)).toInt64)))) then 0 else 1)), (if ((if (f_X8_sign ((-bb) * (((f_X8_sign aa)).toInt64))) ≤ 0 then 0 else (if 0 ≤ (f_X8_sign (((-bb) * (((f_X8_sign aa)).toInt64)) - ((2 * aa) * (((f_X8_sign aa)).toInt64)))) then 0 else 1)) : Int32) = 0 then rt else (f_X8_only 0 rt 2).2)) := hF
          have hf0 := yk_fst hF
          have hg0 := yk_snd hF
          have hf1 := yk_fst hg0
          have hg1 := yk_snd hg0
          rw [hf0, hf1, hg1] at hQ
          exact hQ _ _ _ _ dX8_findRoots_158 hP hS
        refine lv_if_eq (tgt := 158) hx hb dX8_findRoots_150 (by decide) (fun hc28 => ?_) (fun hc28 => ?_)
        · exact J31 _ _ _ _ _ ((if_pos hc28).symm) ((if_pos hc28).symm) hP hD hS (lv_sub hl [1, 2, 3, 0] rfl)
        · refine lv_aload_n hx hb dX8_findRoots_153 rfl (lv_at hl 1 rfl) ?_
          refine lv_iconst (v := 2) hx hb dX8_findRoots_154 (by decide) ?_
          refine yk_v [0, 1] (va_runV (As := [.int 2]) (rest := []) ⟨hx, hb, hml, hown, hts⟩ (c_X8_only l D cy ta m_rootWhich m_now m_undone m_slots m_slotKind m_hasSlot m_sheetBits m_sheetSize m_sheets m_fresh m_signs m_atNought m_change m_table m_carried u fi aa bb dd 0 rt (if (f_X8_sign ((-bb) * (((f_X8_sign aa)).toInt64))) ≤ 0 then 0 else (if 0 ≤ (f_X8_sign (((-bb) * (((f_X8_sign aa)).toInt64)) - ((2 * aa) * (((f_X8_sign aa)).toInt64)))) then 0 else 1)) mn 2 (by omega) H.size) (cwV 1 hts gX8_findRoots_X8_only rfl rfl rfl hv_X8_only (yk_room hRf hRl rfl rfl)) (yk_pv (q := (RX8, TX8, 23)) hG hA hS hK hP hD [0, 1] (by decide +kernel) rfl rfl rfl) rfl rfl hl.1 rfl (lv_room (Nat.le_of_ble_eq_true rfl)) dX8_findRoots_155 ⟨Nat.zero_le _, Nat.zero_le _⟩) hP hD hS hA rfl (Eq.trans (b := [ta, m_rootWhich]) rfl rfl) (fun H locs hP9 hD9 hS9 => ?_)
          replace hP : va_P D vwCl [(ta, .inr (8, [.ref m_now, .ref m_undone, .ref m_slots, .ref m_slotKind, .ref m_hasSlot, .ref m_sheetBits, .ref m_sheetSize, .ref m_sheets, .int (nI u), .int fi, .ref m_fresh, .long aa, .long bb, .long dd, .int (nI ((f_X8_only 0 rt 2).1)), .ref m_rootWhich, .int (if (f_X8_sign ((-bb) * (((f_X8_sign aa)).toInt64))) ≤ 0 then 0 else (if 0 ≤ (f_X8_sign (((-bb) * (((f_X8_sign aa)).toInt64)) - ((2 * aa) * (((f_X8_sign aa)).toInt64)))) then 0 else 1)), .ref m_signs, .ref m_atNought, .int (nI mn), .ref m_change, .ref m_table, .ref m_carried])), (m_rootWhich, .inl (cy 0, 2, .inl ((f_X8_only 0 rt 2).2)))] H := hP9
          replace hD : va_D A [(ta, .inr (8, [.ref m_now, .ref m_undone, .ref m_slots, .ref m_slotKind, .ref m_hasSlot, .ref m_sheetBits, .ref m_sheetSize, .ref m_sheets, .int (nI u), .int fi, .ref m_fresh, .long aa, .long bb, .long dd, .int (nI ((f_X8_only 0 rt 2).1)), .ref m_rootWhich, .int (if (f_X8_sign ((-bb) * (((f_X8_sign aa)).toInt64))) ≤ 0 then 0 else (if 0 ≤ (f_X8_sign (((-bb) * (((f_X8_sign aa)).toInt64)) - ((2 * aa) * (((f_X8_sign aa)).toInt64)))) then 0 else 1)), .ref m_signs, .ref m_atNought, .int (nI mn), .ref m_change, .ref m_table, .ref m_carried])), (m_rootWhich, .inl (cy 0, 2, .inl ((f_X8_only 0 rt 2).2)))] := hD9
          replace hS := hS9
          clear hP9 hD9 hS9
          exact J31 _ _ _ _ _ ((if_neg hc28).symm) ((if_neg hc28).symm) hP hD hS (lv_sub hl [1, 2, 3, 0] rfl)
    refine lv_if_le (tgt := 133) hx hb dX8_findRoots_100 (by decide) (fun hc2 => ?_) (fun hc2 => ?_)
    · refine lv_iconst (v := 0) hx hb dX8_findRoots_133 (by decide) ?_
      exact J5 _ _ _ _ ((if_pos hc2).symm) hP hD hS (lv_sub hl [2, 1, 0] rfl)
    · refine lv_aload_n hx hb dX8_findRoots_103 rfl (lv_at hl 2 rfl) ?_
      refine va_get (D := D) (ci := 8) (v := .long bb) (C := RX8) (T := TX8) (N := 23) hx hb hts uX8_findRoots_X8 hown hK hP 0 rfl rfl 12 (by decide) (hts _ kX8_findRoots_3) (fun _ h9 => h9) rfl dX8_findRoots_104 ?_
      refine lv_lneg hx hb dX8_findRoots_107 ?_
      refine lv_iload_n hx hb dX8_findRoots_108 rfl (lv_at hl 0 rfl) ?_
      refine lv_i2l hx hb dX8_findRoots_109 rfl ?_
      refine lv_lmul hx hb dX8_findRoots_110 ?_
      refine lv_ldc2 (v := 2) hx hb hown (hts _ kX8_findRoots_6) dX8_findRoots_111 ?_
      refine lv_aload_n hx hb dX8_findRoots_114 rfl (lv_at hl 2 rfl) ?_
      refine va_get (D := D) (ci := 8) (v := .long aa) (C := RX8) (T := TX8) (N := 23) hx hb hts uX8_findRoots_X8 hown hK hP 0 rfl rfl 11 (by decide) (hts _ kX8_findRoots_2) (fun _ h9 => h9) rfl dX8_findRoots_115 ?_
      refine lv_lmul hx hb dX8_findRoots_118 ?_
      refine lv_iload_n hx hb dX8_findRoots_119 rfl (lv_at hl 0 rfl) ?_
      refine lv_i2l hx hb dX8_findRoots_120 rfl ?_
      refine lv_lmul hx hb dX8_findRoots_121 ?_
      refine lv_lsub hx hb dX8_findRoots_122 ?_
      refine yk_i [] (va_runS (As := [.long (((-bb) * (((f_X8_sign aa)).toInt64)) - ((2 * aa) * (((f_X8_sign aa)).toInt64)))]) (rest := []) ⟨hx, hb, hml, hown, hts⟩ (c_X8_sign l D cy (((-bb) * (((f_X8_sign aa)).toInt64)) - ((2 * aa) * (((f_X8_sign aa)).toInt64))) H.size) (va_cwS 1 hts gX8_findRoots_X8_sign rfl rfl rfl hs_X8_sign (yk_room hRf hRl rfl rfl)) (yk_ps hG hA hS hK hP hD [] (by decide +kernel) rfl) rfl rfl hl.1 rfl (lv_room (Nat.le_of_ble_eq_true rfl)) dX8_findRoots_123 ⟨Nat.zero_le _, Nat.zero_le _⟩) hP hD hS hA rfl rfl (fun H locs hP9 hD9 hS9 => ?_)
      replace hP : va_P D vwCl [(ta, .inr (8, [.ref m_now, .ref m_undone, .ref m_slots, .ref m_slotKind, .ref m_hasSlot, .ref m_sheetBits, .ref m_sheetSize, .ref m_sheets, .int (nI u), .int fi, .ref m_fresh, .long aa, .long bb, .long dd, .int 0, .ref m_rootWhich, .int 0, .ref m_signs, .ref m_atNought, .int (nI mn), .ref m_change, .ref m_table, .ref m_carried])), (m_rootWhich, .inl (cy 0, 2, .inl rt))] H := hP9
      replace hD : va_D A [(ta, .inr (8, [.ref m_now, .ref m_undone, .ref m_slots, .ref m_slotKind, .ref m_hasSlot, .ref m_sheetBits, .ref m_sheetSize, .ref m_sheets, .int (nI u), .int fi, .ref m_fresh, .long aa, .long bb, .long dd, .int 0, .ref m_rootWhich, .int 0, .ref m_signs, .ref m_atNought, .int (nI mn), .ref m_change, .ref m_table, .ref m_carried])), (m_rootWhich, .inl (cy 0, 2, .inl rt))] := hD9
      replace hS := hS9
      clear hP9 hD9 hS9
      refine lv_if_ge (tgt := 133) hx hb dX8_findRoots_126 (by decide) (fun hc3 => ?_) (fun hc3 => ?_)
      · refine lv_iconst (v := 0) hx hb dX8_findRoots_133 (by decide) ?_
        exact J5 _ _ _ _ (((if_neg hc2).trans (if_pos hc3)).symm) hP hD hS (lv_sub hl [2, 1, 0] rfl)
      · refine lv_iconst (v := 1) hx hb dX8_findRoots_129 (by decide) ?_
        refine lv_goto (tgt := 134) hx hb dX8_findRoots_130 (by decide) ?_
        exact J5 _ _ _ _ (((if_neg hc2).trans (if_neg hc3)).symm) hP hD hS (lv_sub hl [2, 1, 0] rfl)
  · replace hF := hF.trans (if_pos hc1)
    refine lv_aload_n hx hb dX8_findRoots_19 rfl (lv_at hl 0 rfl) ?_
    refine va_get (D := D) (ci := 8) (v := .long bb) (C := RX8) (T := TX8) (N := 23) hx hb hts uX8_findRoots_X8 hown hK hP 0 rfl rfl 12 (by decide) (hts _ kX8_findRoots_3) (fun _ h9 => h9) rfl dX8_findRoots_20 ?_
    refine lv_lconst (v := 0) hx hb dX8_findRoots_23 (by decide) ?_
    refine W.lcmp hx hb dX8_findRoots_24 ?_
    have J36 : ∀ (v34 : Nat) (v35 : Nat → Int32) (H : Heap) (locs : List Loc) (ls : Array Slot), v34 = (if (lg_cmp bb 0) = 0 then 0 else (if 0 ≤ ((f_X8_sign dd) * (f_X8_sign (bb + dd))) then 0 else (f_X8_only 0 rt 2).1)) → v35 = (if (lg_cmp bb 0) = 0 then rt else (if 0 ≤ ((f_X8_sign dd) * (f_X8_sign (bb + dd))) then rt else (f_X8_only 0 rt 2).2)) → va_P D vwCl [(ta, .inr (8, [.ref m_now, .ref m_undone, .ref m_slots, .ref m_slotKind, .ref m_hasSlot, .ref m_sheetBits, .ref m_sheetSize, .ref m_sheets, .int (nI u), .int fi, .ref m_fresh, .long aa, .long bb, .long dd, .int (nI v34), .ref m_rootWhich, .int 0, .ref m_signs, .ref m_atNought, .int (nI mn), .ref m_change, .ref m_table, .ref m_carried])), (m_rootWhich, .inl (cy 0, 2, .inl v35))] H → va_D A [(ta, .inr (8, [.ref m_now, .ref m_undone, .ref m_slots, .ref m_slotKind, .ref m_hasSlot, .ref m_sheetBits, .ref m_sheetSize, .ref m_sheets, .int (nI u), .int fi, .ref m_fresh, .long aa, .long bb, .long dd, .int (nI v34), .ref m_rootWhich, .int 0, .ref m_signs, .ref m_atNought, .int (nI mn), .ref m_change, .ref m_table, .ref m_carried])), (m_rootWhich, .inl (cy 0, 2, .inl v35))] → va_S A s.heap H locs → lv_has ls 9 [(0, .ref ta)] → W p l e R s m args below meth c H locs 0 0 Q (F0 m 56 ls []) := by
      clear hP hD hS hl
      intro v34 v35 H locs ls ev34 ev35
      rw [ev34, ev35]
      clear ev34
      clear ev35
      intro hP hD hS hl
      have hF : f_X8_findRoots aa bb dd rt = ((if (lg_cmp bb 0) = 0 then 0 else (if 0 ≤ ((f_X8_sign dd) * (f_X8_sign (bb + dd))) then 0 else (f_X8_only 0 rt 2).1)), 0, (if (lg_cmp bb 0) = 0 then rt else (if 0 ≤ ((f_X8_sign dd) * (f_X8_sign (bb + dd))) then rt else (f_X8_only 0 rt 2).2))) := hF
      have hf0 := yk_fst hF
      have hg0 := yk_snd hF
      have hf1 := yk_fst hg0
      have hg1 := yk_snd hg0
      rw [hf0, hf1, hg1] at hQ
      exact hQ _ _ _ _ dX8_findRoots_56 hP hS
    refine lv_if_eq (tgt := 56) hx hb dX8_findRoots_25 (by decide) (fun hc32 => ?_) (fun hc32 => ?_)
    · exact J36 _ _ _ _ _ ((if_pos hc32).symm) ((if_pos hc32).symm) hP hD hS (lv_sub hl [0] rfl)
    · refine lv_aload_n hx hb dX8_findRoots_28 rfl (lv_at hl 0 rfl) ?_
      refine va_get (D := D) (ci := 8) (v := .long dd) (C := RX8) (T := TX8) (N := 23) hx hb hts uX8_findRoots_X8 hown hK hP 0 rfl rfl 13 (by decide) (hts _ kX8_findRoots_5) (fun _ h9 => h9) rfl dX8_findRoots_29 ?_
      refine yk_i [] (va_runS (As := [.long dd]) (rest := []) ⟨hx, hb, hml, hown, hts⟩ (c_X8_sign l D cy dd H.size) (va_cwS 1 hts gX8_findRoots_X8_sign rfl rfl rfl hs_X8_sign (yk_room hRf hRl rfl rfl)) (yk_ps hG hA hS hK hP hD [] (by decide +kernel) rfl) rfl rfl hl.1 rfl (lv_room (Nat.le_of_ble_eq_true rfl)) dX8_findRoots_32 ⟨Nat.zero_le _, Nat.zero_le _⟩) hP hD hS hA rfl rfl (fun H locs hP9 hD9 hS9 => ?_)
      replace hP : va_P D vwCl [(ta, .inr (8, [.ref m_now, .ref m_undone, .ref m_slots, .ref m_slotKind, .ref m_hasSlot, .ref m_sheetBits, .ref m_sheetSize, .ref m_sheets, .int (nI u), .int fi, .ref m_fresh, .long aa, .long bb, .long dd, .int 0, .ref m_rootWhich, .int 0, .ref m_signs, .ref m_atNought, .int (nI mn), .ref m_change, .ref m_table, .ref m_carried])), (m_rootWhich, .inl (cy 0, 2, .inl rt))] H := hP9
      replace hD : va_D A [(ta, .inr (8, [.ref m_now, .ref m_undone, .ref m_slots, .ref m_slotKind, .ref m_hasSlot, .ref m_sheetBits, .ref m_sheetSize, .ref m_sheets, .int (nI u), .int fi, .ref m_fresh, .long aa, .long bb, .long dd, .int 0, .ref m_rootWhich, .int 0, .ref m_signs, .ref m_atNought, .int (nI mn), .ref m_change, .ref m_table, .ref m_carried])), (m_rootWhich, .inl (cy 0, 2, .inl rt))] := hD9
      replace hS := hS9
      clear hP9 hD9 hS9
      refine lv_aload_n hx hb dX8_findRoots_35 rfl (lv_at hl 0 rfl) ?_
      refine va_get (D := D) (ci := 8) (v := .long bb) (C := RX8) (T := TX8) (N := 23) hx hb hts uX8_findRoots_X8 hown hK hP 0 rfl rfl 12 (by decide) (hts _ kX8_findRoots_3) (fun _ h9 => h9) rfl dX8_findRoots_36 ?_
      refine lv_aload_n hx hb dX8_findRoots_39 rfl (lv_at hl 0 rfl) ?_
      refine va_get (D := D) (ci := 8) (v := .long dd) (C := RX8) (T := TX8) (N := 23) hx hb hts uX8_findRoots_X8 hown hK hP 0 rfl rfl 13 (by decide) (hts _ kX8_findRoots_5) (fun _ h9 => h9) rfl dX8_findRoots_40 ?_
      refine lv_ladd hx hb dX8_findRoots_43 ?_
      refine yk_i [] (va_runS (As := [.long (bb + dd)]) (rest := [.int (f_X8_sign dd)]) ⟨hx, hb, hml, hown, hts⟩ (c_X8_sign l D cy (bb + dd) H.size) (va_cwS 1 hts gX8_findRoots_X8_sign rfl rfl rfl hs_X8_sign (yk_room hRf hRl rfl rfl)) (yk_ps hG hA hS hK hP hD [] (by decide +kernel) rfl) rfl rfl hl.1 rfl (lv_room (Nat.le_of_ble_eq_true rfl)) dX8_findRoots_44 ⟨Nat.zero_le _, Nat.zero_le _⟩) hP hD hS hA rfl rfl (fun H locs hP9 hD9 hS9 => ?_)
      replace hP : va_P D vwCl [(ta, .inr (8, [.ref m_now, .ref m_undone, .ref m_slots, .ref m_slotKind, .ref m_hasSlot, .ref m_sheetBits, .ref m_sheetSize, .ref m_sheets, .int (nI u), .int fi, .ref m_fresh, .long aa, .long bb, .long dd, .int 0, .ref m_rootWhich, .int 0, .ref m_signs, .ref m_atNought, .int (nI mn), .ref m_change, .ref m_table, .ref m_carried])), (m_rootWhich, .inl (cy 0, 2, .inl rt))] H := hP9
      replace hD : va_D A [(ta, .inr (8, [.ref m_now, .ref m_undone, .ref m_slots, .ref m_slotKind, .ref m_hasSlot, .ref m_sheetBits, .ref m_sheetSize, .ref m_sheets, .int (nI u), .int fi, .ref m_fresh, .long aa, .long bb, .long dd, .int 0, .ref m_rootWhich, .int 0, .ref m_signs, .ref m_atNought, .int (nI mn), .ref m_change, .ref m_table, .ref m_carried])), (m_rootWhich, .inl (cy 0, 2, .inl rt))] := hD9
      replace hS := hS9
      clear hP9 hD9 hS9
      refine lv_imul hx hb dX8_findRoots_47 ?_
      refine lv_if_ge (tgt := 56) hx hb dX8_findRoots_48 (by decide) (fun hc33 => ?_) (fun hc33 => ?_)
      · exact J36 _ _ _ _ _ (((if_neg hc32).trans (if_pos hc33)).symm) (((if_neg hc32).trans (if_pos hc33)).symm) hP hD hS (lv_sub hl [0] rfl)
      · refine lv_aload_n hx hb dX8_findRoots_51 rfl (lv_at hl 0 rfl) ?_
        refine lv_iconst (v := 2) hx hb dX8_findRoots_52 (by decide) ?_
        refine yk_v [0, 1] (va_runV (As := [.int 2]) (rest := []) ⟨hx, hb, hml, hown, hts⟩ (c_X8_only l D cy ta m_rootWhich m_now m_undone m_slots m_slotKind m_hasSlot m_sheetBits m_sheetSize m_sheets m_fresh m_signs m_atNought m_change m_table m_carried u fi aa bb dd 0 rt 0 mn 2 (by omega) H.size) (cwV 1 hts gX8_findRoots_X8_only rfl rfl rfl hv_X8_only (yk_room hRf hRl rfl rfl)) (yk_pv (q := (RX8, TX8, 23)) hG hA hS hK hP hD [0, 1] (by decide +kernel) rfl rfl rfl) rfl rfl hl.1 rfl (lv_room (Nat.le_of_ble_eq_true rfl)) dX8_findRoots_53 ⟨Nat.zero_le _, Nat.zero_le _⟩) hP hD hS hA rfl (Eq.trans (b := [ta, m_rootWhich]) rfl rfl) (fun H locs hP9 hD9 hS9 => ?_)
        replace hP : va_P D vwCl [(ta, .inr (8, [.ref m_now, .ref m_undone, .ref m_slots, .ref m_slotKind, .ref m_hasSlot, .ref m_sheetBits, .ref m_sheetSize, .ref m_sheets, .int (nI u), .int fi, .ref m_fresh, .long aa, .long bb, .long dd, .int (nI ((f_X8_only 0 rt 2).1)), .ref m_rootWhich, .int 0, .ref m_signs, .ref m_atNought, .int (nI mn), .ref m_change, .ref m_table, .ref m_carried])), (m_rootWhich, .inl (cy 0, 2, .inl ((f_X8_only 0 rt 2).2)))] H := hP9
        replace hD : va_D A [(ta, .inr (8, [.ref m_now, .ref m_undone, .ref m_slots, .ref m_slotKind, .ref m_hasSlot, .ref m_sheetBits, .ref m_sheetSize, .ref m_sheets, .int (nI u), .int fi, .ref m_fresh, .long aa, .long bb, .long dd, .int (nI ((f_X8_only 0 rt 2).1)), .ref m_rootWhich, .int 0, .ref m_signs, .ref m_atNought, .int (nI mn), .ref m_change, .ref m_table, .ref m_carried])), (m_rootWhich, .inl (cy 0, 2, .inl ((f_X8_only 0 rt 2).2)))] := hD9
        replace hS := hS9
        clear hP9 hD9 hS9
        exact J36 _ _ _ _ _ (((if_neg hc32).trans (if_neg hc33)).symm) (((if_neg hc32).trans (if_neg hc33)).symm) hP hD hS (lv_sub hl [0] rfl)
