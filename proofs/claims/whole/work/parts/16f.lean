theorem hv_X8_doMeet : yX8_doMeet.cls = RX8 ∧ yX8_doMeet.cls ≠ "java/lang/invoke/MethodHandle" ∧ yX8_doMeet.cls ≠ "java/lang/invoke/VarHandle" ∧ (parseMethodDescriptor yX8_doMeet.desc).map (fun d => d.parameters.length) = some 2 := by decide +kernel
theorem hs_X8_doMeet : yX8_doMeet.cls ≠ "java/lang/invoke/MethodHandle" ∧ yX8_doMeet.cls ≠ "java/lang/invoke/VarHandle" ∧ (parseMethodDescriptor yX8_doMeet.desc).map (fun d => d.parameters.length) = some 2 := by decide +kernel
theorem hv_X8_isSimple : yX8_isSimple.cls = RX8 ∧ yX8_isSimple.cls ≠ "java/lang/invoke/MethodHandle" ∧ yX8_isSimple.cls ≠ "java/lang/invoke/VarHandle" ∧ (parseMethodDescriptor yX8_isSimple.desc).map (fun d => d.parameters.length) = some 0 := by decide +kernel
theorem hs_X8_isSimple : yX8_isSimple.cls ≠ "java/lang/invoke/MethodHandle" ∧ yX8_isSimple.cls ≠ "java/lang/invoke/VarHandle" ∧ (parseMethodDescriptor yX8_isSimple.desc).map (fun d => d.parameters.length) = some 0 := by decide +kernel
theorem hv_X8_areaOf : yX8_areaOf.cls = RX8 ∧ yX8_areaOf.cls ≠ "java/lang/invoke/MethodHandle" ∧ yX8_areaOf.cls ≠ "java/lang/invoke/VarHandle" ∧ (parseMethodDescriptor yX8_areaOf.desc).map (fun d => d.parameters.length) = some 0 := by decide +kernel
theorem hs_X8_areaOf : yX8_areaOf.cls ≠ "java/lang/invoke/MethodHandle" ∧ yX8_areaOf.cls ≠ "java/lang/invoke/VarHandle" ∧ (parseMethodDescriptor yX8_areaOf.desc).map (fun d => d.parameters.length) = some 0 := by decide +kernel
def l_X8_isSimple_129 (nw : Nat → Int32) (n : Nat) (ki2 : Nat) (kc : Nat → Int32) : Nat → Nat → Int32
  | 0, kj2 => 0
  | fu_X8_isSimple_129 + 1, kj2 => (if (nI ki2) ≤ (nI kj2) then (kc (ki2 + 1)) else (if ((if ((nI ki2) - (nI kj2)) = 1 then 1 else (if ((nI ki2) - (nI kj2)) = ((nI n) - 1) then 1 else 0)) : Int32) = 0 then (if (f_X8_doMeet nw ki2 kj2 n) = 0 then (l_X8_isSimple_129 nw n ki2 kc fu_X8_isSimple_129 (kj2 + 1)) else 0) else (l_X8_isSimple_129 nw n ki2 kc fu_X8_isSimple_129 (kj2 + 1))))
def l_X8_isSimple_68 (nw : Nat → Int32) (n : Nat) : Nat → Nat → Int32
  | 0, ki2 => 0
  | fu_X8_isSimple_68 + 1, ki2 => (if (nI n) ≤ (nI ki2) then 1 else (if (f_X8_isOn nw (ki2 + n - 1) (f_X8_xOf nw (ki2 + 1) n) (f_X8_yOf nw (ki2 + 1) n) n) = 0 then (if (f_X8_isOn nw ki2 (f_X8_xOf nw (ki2 + n - 1) n) (f_X8_yOf nw (ki2 + n - 1) n) n) = 0 then (l_X8_isSimple_129 nw n ki2 (fun ki2' => l_X8_isSimple_68 nw n fu_X8_isSimple_68 (ki2')) (ki2 + 1) 0) else 0) else 0))
def l_X8_isSimple_21 (nw : Nat → Int32) (n : Nat) (ki : Nat) (kc : Nat → Int32) : Nat → Nat → Int32
  | 0, kj => 0
  | fu_X8_isSimple_21 + 1, kj => (if (nI ki) ≤ (nI kj) then (kc (ki + 1)) else (if (f_X8_xOf nw ki n) = (f_X8_xOf nw kj n) then (if (f_X8_yOf nw ki n) = (f_X8_yOf nw kj n) then 0 else (l_X8_isSimple_21 nw n ki kc fu_X8_isSimple_21 (kj + 1))) else (l_X8_isSimple_21 nw n ki kc fu_X8_isSimple_21 (kj + 1))))
def l_X8_isSimple_14 (nw : Nat → Int32) (n : Nat) : Nat → Nat → Int32
  | 0, ki => 0
  | fu_X8_isSimple_14 + 1, ki => (if (nI n) ≤ (nI ki) then (l_X8_isSimple_68 nw n (n + 1) 0) else (l_X8_isSimple_21 nw n ki (fun ki' => l_X8_isSimple_14 nw n fu_X8_isSimple_14 (ki')) (ki + 1) 0))
def f_X8_isSimple (nw : Nat → Int32) (n : Nat) : Int32 := (if 3 ≤ (nI n) then (l_X8_isSimple_14 nw n (n + 1) 0) else 0)
theorem bl_X8_isSimple_129 (nw : Nat → Int32) (n : Nat) (ki2 : Nat) (kc : Nat → Int32) (hkc : ∀ (q0 : Nat), (kc q0) = 0 ∨ (kc q0) = 1) : ∀ (fz : Nat) (q0 : Nat), (l_X8_isSimple_129 nw n ki2 kc fz q0) = 0 ∨ (l_X8_isSimple_129 nw n ki2 kc fz q0) = 1
  | 0, _ => Or.inl rfl
  | fz + 1, _ => by
    unfold l_X8_isSimple_129
    (repeat' split) <;> first | exact Or.inl (by with_reducible rfl) | exact Or.inr (by with_reducible rfl) | exact hkc _ | exact bl_X8_isSimple_129 _ _ _ kc hkc fz _ | with_reducible exact b_X8_isOn _ _ _ _ _ | with_reducible exact b_X8_doMeet _ _ _ _
theorem bl_X8_isSimple_68 (nw : Nat → Int32) (n : Nat) : ∀ (fz : Nat) (q0 : Nat), (l_X8_isSimple_68 nw n fz q0) = 0 ∨ (l_X8_isSimple_68 nw n fz q0) = 1
  | 0, _ => Or.inl rfl
  | fz + 1, _ => by
    unfold l_X8_isSimple_68
    (repeat' split) <;> first | exact Or.inl (by with_reducible rfl) | exact Or.inr (by with_reducible rfl) | exact bl_X8_isSimple_68 _ _ fz _ | exact bl_X8_isSimple_129 _ _ _ _ (fun _ => bl_X8_isSimple_68 _ _ fz _) _ _ | with_reducible exact b_X8_isOn _ _ _ _ _ | with_reducible exact b_X8_doMeet _ _ _ _
theorem bl_X8_isSimple_21 (nw : Nat → Int32) (n : Nat) (ki : Nat) (kc : Nat → Int32) (hkc : ∀ (q0 : Nat), (kc q0) = 0 ∨ (kc q0) = 1) : ∀ (fz : Nat) (q0 : Nat), (l_X8_isSimple_21 nw n ki kc fz q0) = 0 ∨ (l_X8_isSimple_21 nw n ki kc fz q0) = 1
  | 0, _ => Or.inl rfl
  | fz + 1, _ => by
    unfold l_X8_isSimple_21
    (repeat' split) <;> first | exact Or.inl (by with_reducible rfl) | exact Or.inr (by with_reducible rfl) | exact hkc _ | exact bl_X8_isSimple_21 _ _ _ kc hkc fz _ | with_reducible exact bl_X8_isSimple_68 _ _ _ _ | with_reducible exact b_X8_isOn _ _ _ _ _ | with_reducible exact b_X8_doMeet _ _ _ _
theorem bl_X8_isSimple_14 (nw : Nat → Int32) (n : Nat) : ∀ (fz : Nat) (q0 : Nat), (l_X8_isSimple_14 nw n fz q0) = 0 ∨ (l_X8_isSimple_14 nw n fz q0) = 1
  | 0, _ => Or.inl rfl
  | fz + 1, _ => by
    unfold l_X8_isSimple_14
    (repeat' split) <;> first | exact Or.inl (by with_reducible rfl) | exact Or.inr (by with_reducible rfl) | exact bl_X8_isSimple_14 _ _ fz _ | exact bl_X8_isSimple_21 _ _ _ _ (fun _ => bl_X8_isSimple_14 _ _ fz _) _ _ | with_reducible exact bl_X8_isSimple_68 _ _ _ _ | with_reducible exact b_X8_isOn _ _ _ _ _ | with_reducible exact b_X8_doMeet _ _ _ _
theorem b_X8_isSimple (nw : Nat → Int32) (n : Nat) : (f_X8_isSimple nw n) = 0 ∨ (f_X8_isSimple nw n) = 1 := by
  unfold f_X8_isSimple; (repeat' split) <;> first | exact Or.inl (by with_reducible rfl) | exact Or.inr (by with_reducible rfl) | with_reducible exact b_X8_isOn _ _ _ _ _ | with_reducible exact b_X8_doMeet _ _ _ _ | with_reducible exact bl_X8_isSimple_68 _ _ _ _ | with_reducible exact bl_X8_isSimple_14 _ _ _ _
set_option maxHeartbeats 400000000 in
set_option maxRecDepth 100000 in
theorem c_X8_isSimple (l : Launch) (D : va_G) (cy : Nat → ClassId) (ta : Nat) (m_now : Nat) (m_undone : Nat) (m_slots : Nat) (m_slotKind : Nat) (m_hasSlot : Nat) (m_sheetBits : Nat) (m_sheetSize : Nat) (m_sheets : Nat) (m_fresh : Nat) (m_rootWhich : Nat) (m_signs : Nat) (m_atNought : Nat) (m_change : Nat) (m_table : Nat) (m_carried : Nat) (nw : Nat → Int32) (u : Nat) (fi : Int32) (aa : Int64) (bb : Int64) (dd : Int64) (ro : Nat) (db : Int32) (mn : Nat) (n : Nat) (hn12 : nw 12 = nI n) (hn : n ≤ 8) : yk_Ci l D vwCl (yk_ty cy) yX8_isSimple wsX8_isSimple 4 94 [.ref ta] [(ta, .inr (8, [.ref m_now, .ref m_undone, .ref m_slots, .ref m_slotKind, .ref m_hasSlot, .ref m_sheetBits, .ref m_sheetSize, .ref m_sheets, .int (nI u), .int fi, .ref m_fresh, .long aa, .long bb, .long dd, .int (nI ro), .ref m_rootWhich, .int db, .ref m_signs, .ref m_atNought, .int (nI mn), .ref m_change, .ref m_table, .ref m_carried])), (m_now, .inl (cy 0, 29, .inl nw))] (f_X8_isSimple nw n) [(ta, .inr (8, [.ref m_now, .ref m_undone, .ref m_slots, .ref m_slotKind, .ref m_hasSlot, .ref m_sheetBits, .ref m_sheetSize, .ref m_sheets, .int (nI u), .int fi, .ref m_fresh, .long aa, .long bb, .long dd, .int (nI ro), .ref m_rootWhich, .int db, .ref m_signs, .ref m_atNought, .int (nI mn), .ref m_change, .ref m_table, .ref m_carried])), (m_now, .inl (cy 0, 29, .inl nw))] := by
  refine yk_eI (cc := cX8_isSimple) (maxL := 5) (by decide) rfl (Nat.le_of_ble_eq_true rfl) (yk_nb (b_X8_isSimple nw n)) ?_
  intro p e R s m args below meth c A Q ls H locs hx hb hml hown hts hRf hRl hA hK hG hP hD hS hl hQ
  have hP : va_P D vwCl [(ta, .inr (8, [.ref m_now, .ref m_undone, .ref m_slots, .ref m_slotKind, .ref m_hasSlot, .ref m_sheetBits, .ref m_sheetSize, .ref m_sheets, .int (nI u), .int fi, .ref m_fresh, .long aa, .long bb, .long dd, .int (nI ro), .ref m_rootWhich, .int db, .ref m_signs, .ref m_atNought, .int (nI mn), .ref m_change, .ref m_table, .ref m_carried])), (m_now, .inl (cy 0, 29, .inl nw))] H := hP
  have hl : lv_has ls 5 [(0, .ref ta)] := hl
  have hown : s.vm.findClass RX8 = some m.cls := hown
  have hF : (f_X8_isSimple nw n) = (f_X8_isSimple nw n) := rfl
  refine lv_aload_n hx hb dX8_isSimple_0 rfl (lv_at hl 0 rfl) ?_
  refine yk_i [0, 1] (va_runV (As := []) (rest := []) ⟨hx, hb, hml, hown, hts⟩ (c_X8_corners l D cy ta m_now m_undone m_slots m_slotKind m_hasSlot m_sheetBits m_sheetSize m_sheets m_fresh m_rootWhich m_signs m_atNought m_change m_table m_carried nw u fi aa bb dd ro db mn H.size) (cwV 0 hts gX8_isSimple_X8_corners rfl rfl rfl hv_X8_corners (yk_room hRf hRl rfl rfl)) (yk_pv (q := (RX8, TX8, 23)) hG hA hS hK hP hD [0, 1] (by decide +kernel) rfl rfl rfl) rfl rfl hl.1 rfl (lv_room (Nat.le_of_ble_eq_true rfl)) dX8_isSimple_1 ⟨Nat.zero_le _, Nat.zero_le _⟩) hP hD hS hA rfl (Eq.trans (b := [ta, m_now]) rfl rfl) (fun H locs hP9 hD9 hS9 => ?_)
  replace hP : va_P D vwCl [(ta, .inr (8, [.ref m_now, .ref m_undone, .ref m_slots, .ref m_slotKind, .ref m_hasSlot, .ref m_sheetBits, .ref m_sheetSize, .ref m_sheets, .int (nI u), .int fi, .ref m_fresh, .long aa, .long bb, .long dd, .int (nI ro), .ref m_rootWhich, .int db, .ref m_signs, .ref m_atNought, .int (nI mn), .ref m_change, .ref m_table, .ref m_carried])), (m_now, .inl (cy 0, 29, .inl nw))] H := hP9
  replace hD : va_D A [(ta, .inr (8, [.ref m_now, .ref m_undone, .ref m_slots, .ref m_slotKind, .ref m_hasSlot, .ref m_sheetBits, .ref m_sheetSize, .ref m_sheets, .int (nI u), .int fi, .ref m_fresh, .long aa, .long bb, .long dd, .int (nI ro), .ref m_rootWhich, .int db, .ref m_signs, .ref m_atNought, .int (nI mn), .ref m_change, .ref m_table, .ref m_carried])), (m_now, .inl (cy 0, 29, .inl nw))] := hD9
  replace hS := hS9
  clear hP9 hD9 hS9
  refine yk_ti (y := nI n) (hn12) ?_
  refine lv_istore_n (lv' := [(1, .int (nI n)), (0, .ref ta)]) hx hb dX8_isSimple_4 rfl hl (by decide) rfl (fun ls hl9 => ?_)
  replace hl := hl9
  clear hl9
  refine lv_iload_n hx hb dX8_isSimple_5 rfl (lv_at hl 0 rfl) ?_
  refine lv_iconst (v := 3) hx hb dX8_isSimple_6 (by decide) ?_
  refine lv_icmp_ge (tgt := 12) hx hb dX8_isSimple_7 (by decide) (fun hc1 => ?_) (fun hc1 => ?_)
  · replace hF := hF.trans (if_pos hc1)
    refine lv_iconst (v := 0) hx hb dX8_isSimple_12 (by decide) ?_
    refine lv_istore_n (lv' := [(2, .int 0), (1, .int (nI n)), (0, .ref ta)]) hx hb dX8_isSimple_13 rfl hl (by decide) rfl (fun ls hl9 => ?_)
    replace hl := hl9
    clear hl9
    have L14 : ∀ (M9 n14 ki : Nat) (H : Heap) (locs : List Loc) (ls : Array Slot), n14 < M9 → ki + n14 = n → f_X8_isSimple nw n = (l_X8_isSimple_14 nw n (n14 + 1) ki) → va_P D vwCl [(ta, .inr (8, [.ref m_now, .ref m_undone, .ref m_slots, .ref m_slotKind, .ref m_hasSlot, .ref m_sheetBits, .ref m_sheetSize, .ref m_sheets, .int (nI u), .int fi, .ref m_fresh, .long aa, .long bb, .long dd, .int (nI ro), .ref m_rootWhich, .int db, .ref m_signs, .ref m_atNought, .int (nI mn), .ref m_change, .ref m_table, .ref m_carried])), (m_now, .inl (cy 0, 29, .inl nw))] H → va_D A [(ta, .inr (8, [.ref m_now, .ref m_undone, .ref m_slots, .ref m_slotKind, .ref m_hasSlot, .ref m_sheetBits, .ref m_sheetSize, .ref m_sheets, .int (nI u), .int fi, .ref m_fresh, .long aa, .long bb, .long dd, .int (nI ro), .ref m_rootWhich, .int db, .ref m_signs, .ref m_atNought, .int (nI mn), .ref m_change, .ref m_table, .ref m_carried])), (m_now, .inl (cy 0, 29, .inl nw))] → va_S A s.heap H locs → lv_has ls 5 [(0, .ref ta), (1, .int (nI n)), (2, .int (nI ki))] → W p l e R s m args below meth c H locs 0 0 Q (F0 m 14 ls []) := by
      clear hP hD hS hl hF
      intro M9
      induction M9 with
      | zero => intro n14 ki _ _ _ hn; exact absurd hn (Nat.not_lt_zero _)
      | succ M9 ih14 =>
        intro n14 ki H locs ls hn14 hk14 hF hP hD hS hl
        refine lv_iload_n hx hb dX8_isSimple_14 rfl (lv_at hl 2 rfl) ?_
        refine lv_iload_n hx hb dX8_isSimple_15 rfl (lv_at hl 1 rfl) ?_
        refine lv_icmp_ge (tgt := 66) hx hb dX8_isSimple_16 (by decide) (fun hc2 => ?_) (fun hc2 => ?_)
        · replace hF := hF.trans (if_pos hc2)
          refine lv_iconst (v := 0) hx hb dX8_isSimple_66 (by decide) ?_
          refine lv_istore_n (lv' := [(2, .int 0), (0, .ref ta), (1, .int (nI n))]) hx hb dX8_isSimple_67 rfl hl (by decide) rfl (fun ls hl9 => ?_)
          replace hl := hl9
          clear hl9
          have L68 : ∀ (M9 n68 ki2 : Nat) (H : Heap) (locs : List Loc) (ls : Array Slot), n68 < M9 → ki2 + n68 = n → f_X8_isSimple nw n = (l_X8_isSimple_68 nw n (n68 + 1) ki2) → va_P D vwCl [(ta, .inr (8, [.ref m_now, .ref m_undone, .ref m_slots, .ref m_slotKind, .ref m_hasSlot, .ref m_sheetBits, .ref m_sheetSize, .ref m_sheets, .int (nI u), .int fi, .ref m_fresh, .long aa, .long bb, .long dd, .int (nI ro), .ref m_rootWhich, .int db, .ref m_signs, .ref m_atNought, .int (nI mn), .ref m_change, .ref m_table, .ref m_carried])), (m_now, .inl (cy 0, 29, .inl nw))] H → va_D A [(ta, .inr (8, [.ref m_now, .ref m_undone, .ref m_slots, .ref m_slotKind, .ref m_hasSlot, .ref m_sheetBits, .ref m_sheetSize, .ref m_sheets, .int (nI u), .int fi, .ref m_fresh, .long aa, .long bb, .long dd, .int (nI ro), .ref m_rootWhich, .int db, .ref m_signs, .ref m_atNought, .int (nI mn), .ref m_change, .ref m_table, .ref m_carried])), (m_now, .inl (cy 0, 29, .inl nw))] → va_S A s.heap H locs → lv_has ls 5 [(0, .ref ta), (1, .int (nI n)), (2, .int (nI ki2))] → W p l e R s m args below meth c H locs 0 0 Q (F0 m 68 ls []) := by
            clear hP hD hS hl hF
            intro M9
            induction M9 with
            | zero => intro n68 ki2 _ _ _ hn; exact absurd hn (Nat.not_lt_zero _)
            | succ M9 ih68 =>
              intro n68 ki2 H locs ls hn68 hk68 hF hP hD hS hl
              refine lv_iload_n hx hb dX8_isSimple_68 rfl (lv_at hl 2 rfl) ?_
              refine lv_iload_n hx hb dX8_isSimple_69 rfl (lv_at hl 1 rfl) ?_
              refine lv_icmp_ge (tgt := 185) hx hb dX8_isSimple_70 (by decide) (fun hc3 => ?_) (fun hc3 => ?_)
              · replace hF := hF.trans (if_pos hc3)
                refine lv_iconst (v := 1) hx hb dX8_isSimple_185 (by decide) ?_
                have hF : f_X8_isSimple nw n = 1 := hF
                rw [hF] at hQ
                exact hQ _ _ _ _ dX8_isSimple_186 hP hS
              · replace hF := hF.trans (if_neg hc3)
                have hlt68 : ki2 < n := yk_lt hk68 (by omega) hc3
                refine lv_aload_n hx hb dX8_isSimple_73 rfl (lv_at hl 0 rfl) ?_
                refine lv_iload_n hx hb dX8_isSimple_74 rfl (lv_at hl 2 rfl) ?_
                refine lv_iload_n hx hb dX8_isSimple_75 rfl (lv_at hl 1 rfl) ?_
                refine lv_iadd hx hb dX8_isSimple_76 ?_
                refine yk_ti (y := nI (ki2 + n)) (nI_add ki2 n) ?_
                refine lv_iconst (v := 1) hx hb dX8_isSimple_77 (by decide) ?_
                refine lv_isub hx hb dX8_isSimple_78 ?_
                refine yk_ti (y := nI (ki2 + n - 1)) (pk_sub (b := 1) (by omega)) ?_
                refine lv_aload_n hx hb dX8_isSimple_79 rfl (lv_at hl 0 rfl) ?_
                refine lv_iload_n hx hb dX8_isSimple_80 rfl (lv_at hl 2 rfl) ?_
                refine lv_iconst (v := 1) hx hb dX8_isSimple_81 (by decide) ?_
                refine lv_iadd hx hb dX8_isSimple_82 ?_
                refine yk_ti (y := nI (ki2 + 1)) (nI_add ki2 1) ?_
                refine yk_i [0, 1] (va_runV (As := [.int (nI (ki2 + 1))]) (rest := [.int (nI (ki2 + n - 1)), .ref ta]) ⟨hx, hb, hml, hown, hts⟩ (c_X8_xOf l D cy ta m_now m_undone m_slots m_slotKind m_hasSlot m_sheetBits m_sheetSize m_sheets m_fresh m_rootWhich m_signs m_atNought m_change m_table m_carried nw u fi aa bb dd ro db mn (ki2 + 1) n hn12 hn (by omega) (by omega) H.size) (cwV 1 hts gX8_isSimple_X8_xOf rfl rfl rfl hv_X8_xOf (yk_room hRf hRl rfl rfl)) (yk_pv (q := (RX8, TX8, 23)) hG hA hS hK hP hD [0, 1] (by decide +kernel) rfl rfl rfl) rfl rfl hl.1 rfl (lv_room (Nat.le_of_ble_eq_true rfl)) dX8_isSimple_83 ⟨Nat.zero_le _, Nat.zero_le _⟩) hP hD hS hA rfl (Eq.trans (b := [ta, m_now]) rfl rfl) (fun H locs hP9 hD9 hS9 => ?_)
                replace hP : va_P D vwCl [(ta, .inr (8, [.ref m_now, .ref m_undone, .ref m_slots, .ref m_slotKind, .ref m_hasSlot, .ref m_sheetBits, .ref m_sheetSize, .ref m_sheets, .int (nI u), .int fi, .ref m_fresh, .long aa, .long bb, .long dd, .int (nI ro), .ref m_rootWhich, .int db, .ref m_signs, .ref m_atNought, .int (nI mn), .ref m_change, .ref m_table, .ref m_carried])), (m_now, .inl (cy 0, 29, .inl nw))] H := hP9
                replace hD : va_D A [(ta, .inr (8, [.ref m_now, .ref m_undone, .ref m_slots, .ref m_slotKind, .ref m_hasSlot, .ref m_sheetBits, .ref m_sheetSize, .ref m_sheets, .int (nI u), .int fi, .ref m_fresh, .long aa, .long bb, .long dd, .int (nI ro), .ref m_rootWhich, .int db, .ref m_signs, .ref m_atNought, .int (nI mn), .ref m_change, .ref m_table, .ref m_carried])), (m_now, .inl (cy 0, 29, .inl nw))] := hD9
                replace hS := hS9
                clear hP9 hD9 hS9
                refine lv_aload_n hx hb dX8_isSimple_86 rfl (lv_at hl 0 rfl) ?_
                refine lv_iload_n hx hb dX8_isSimple_87 rfl (lv_at hl 2 rfl) ?_
                refine lv_iconst (v := 1) hx hb dX8_isSimple_88 (by decide) ?_
                refine lv_iadd hx hb dX8_isSimple_89 ?_
                refine yk_ti (y := nI (ki2 + 1)) (nI_add ki2 1) ?_
                refine yk_i [0, 1] (va_runV (As := [.int (nI (ki2 + 1))]) (rest := [.int (f_X8_xOf nw (ki2 + 1) n), .int (nI (ki2 + n - 1)), .ref ta]) ⟨hx, hb, hml, hown, hts⟩ (c_X8_yOf l D cy ta m_now m_undone m_slots m_slotKind m_hasSlot m_sheetBits m_sheetSize m_sheets m_fresh m_rootWhich m_signs m_atNought m_change m_table m_carried nw u fi aa bb dd ro db mn (ki2 + 1) n hn12 hn (by omega) (by omega) H.size) (cwV 1 hts gX8_isSimple_X8_yOf rfl rfl rfl hv_X8_yOf (yk_room hRf hRl rfl rfl)) (yk_pv (q := (RX8, TX8, 23)) hG hA hS hK hP hD [0, 1] (by decide +kernel) rfl rfl rfl) rfl rfl hl.1 rfl (lv_room (Nat.le_of_ble_eq_true rfl)) dX8_isSimple_90 ⟨Nat.zero_le _, Nat.zero_le _⟩) hP hD hS hA rfl (Eq.trans (b := [ta, m_now]) rfl rfl) (fun H locs hP9 hD9 hS9 => ?_)
                replace hP : va_P D vwCl [(ta, .inr (8, [.ref m_now, .ref m_undone, .ref m_slots, .ref m_slotKind, .ref m_hasSlot, .ref m_sheetBits, .ref m_sheetSize, .ref m_sheets, .int (nI u), .int fi, .ref m_fresh, .long aa, .long bb, .long dd, .int (nI ro), .ref m_rootWhich, .int db, .ref m_signs, .ref m_atNought, .int (nI mn), .ref m_change, .ref m_table, .ref m_carried])), (m_now, .inl (cy 0, 29, .inl nw))] H := hP9
                replace hD : va_D A [(ta, .inr (8, [.ref m_now, .ref m_undone, .ref m_slots, .ref m_slotKind, .ref m_hasSlot, .ref m_sheetBits, .ref m_sheetSize, .ref m_sheets, .int (nI u), .int fi, .ref m_fresh, .long aa, .long bb, .long dd, .int (nI ro), .ref m_rootWhich, .int db, .ref m_signs, .ref m_atNought, .int (nI mn), .ref m_change, .ref m_table, .ref m_carried])), (m_now, .inl (cy 0, 29, .inl nw))] := hD9
                replace hS := hS9
                clear hP9 hD9 hS9
                refine yk_i [0, 1] (va_runV (As := [.int (nI (ki2 + n - 1)), .int (f_X8_xOf nw (ki2 + 1) n), .int (f_X8_yOf nw (ki2 + 1) n)]) (rest := []) ⟨hx, hb, hml, hown, hts⟩ (c_X8_isOn l D cy ta m_now m_undone m_slots m_slotKind m_hasSlot m_sheetBits m_sheetSize m_sheets m_fresh m_rootWhich m_signs m_atNought m_change m_table m_carried nw u fi aa bb dd ro db mn (ki2 + n - 1) (f_X8_xOf nw (ki2 + 1) n) (f_X8_yOf nw (ki2 + 1) n) n hn12 hn (by omega) (by omega) H.size) (cwV 3 hts gX8_isSimple_X8_isOn rfl rfl rfl hv_X8_isOn (yk_room hRf hRl rfl rfl)) (yk_pv (q := (RX8, TX8, 23)) hG hA hS hK hP hD [0, 1] (by decide +kernel) rfl rfl rfl) rfl rfl hl.1 rfl (lv_room (Nat.le_of_ble_eq_true rfl)) dX8_isSimple_93 ⟨Nat.zero_le _, Nat.zero_le _⟩) hP hD hS hA rfl (Eq.trans (b := [ta, m_now]) rfl rfl) (fun H locs hP9 hD9 hS9 => ?_)
                replace hP : va_P D vwCl [(ta, .inr (8, [.ref m_now, .ref m_undone, .ref m_slots, .ref m_slotKind, .ref m_hasSlot, .ref m_sheetBits, .ref m_sheetSize, .ref m_sheets, .int (nI u), .int fi, .ref m_fresh, .long aa, .long bb, .long dd, .int (nI ro), .ref m_rootWhich, .int db, .ref m_signs, .ref m_atNought, .int (nI mn), .ref m_change, .ref m_table, .ref m_carried])), (m_now, .inl (cy 0, 29, .inl nw))] H := hP9
                replace hD : va_D A [(ta, .inr (8, [.ref m_now, .ref m_undone, .ref m_slots, .ref m_slotKind, .ref m_hasSlot, .ref m_sheetBits, .ref m_sheetSize, .ref m_sheets, .int (nI u), .int fi, .ref m_fresh, .long aa, .long bb, .long dd, .int (nI ro), .ref m_rootWhich, .int db, .ref m_signs, .ref m_atNought, .int (nI mn), .ref m_change, .ref m_table, .ref m_carried])), (m_now, .inl (cy 0, 29, .inl nw))] := hD9
                replace hS := hS9
                clear hP9 hD9 hS9
                refine lv_if_ne (tgt := 125) hx hb dX8_isSimple_96 (by decide) (fun hc4 => ?_) (fun hc4 => ?_)
                · replace hF := hF.trans (if_neg hc4)
                  refine lv_iconst (v := 0) hx hb dX8_isSimple_125 (by decide) ?_
                  have hF : f_X8_isSimple nw n = 0 := hF
                  rw [hF] at hQ
                  exact hQ _ _ _ _ dX8_isSimple_126 hP hS
                · replace hF := hF.trans (if_pos hc4)
                  refine lv_aload_n hx hb dX8_isSimple_99 rfl (lv_at hl 0 rfl) ?_
                  refine lv_iload_n hx hb dX8_isSimple_100 rfl (lv_at hl 2 rfl) ?_
                  refine lv_aload_n hx hb dX8_isSimple_101 rfl (lv_at hl 0 rfl) ?_
                  refine lv_iload_n hx hb dX8_isSimple_102 rfl (lv_at hl 2 rfl) ?_
                  refine lv_iload_n hx hb dX8_isSimple_103 rfl (lv_at hl 1 rfl) ?_
                  refine lv_iadd hx hb dX8_isSimple_104 ?_
                  refine yk_ti (y := nI (ki2 + n)) (nI_add ki2 n) ?_
                  refine lv_iconst (v := 1) hx hb dX8_isSimple_105 (by decide) ?_
                  refine lv_isub hx hb dX8_isSimple_106 ?_
                  refine yk_ti (y := nI (ki2 + n - 1)) (pk_sub (b := 1) (by omega)) ?_
                  refine yk_i [0, 1] (va_runV (As := [.int (nI (ki2 + n - 1))]) (rest := [.int (nI ki2), .ref ta]) ⟨hx, hb, hml, hown, hts⟩ (c_X8_xOf l D cy ta m_now m_undone m_slots m_slotKind m_hasSlot m_sheetBits m_sheetSize m_sheets m_fresh m_rootWhich m_signs m_atNought m_change m_table m_carried nw u fi aa bb dd ro db mn (ki2 + n - 1) n hn12 hn (by omega) (by omega) H.size) (cwV 1 hts gX8_isSimple_X8_xOf rfl rfl rfl hv_X8_xOf (yk_room hRf hRl rfl rfl)) (yk_pv (q := (RX8, TX8, 23)) hG hA hS hK hP hD [0, 1] (by decide +kernel) rfl rfl rfl) rfl rfl hl.1 rfl (lv_room (Nat.le_of_ble_eq_true rfl)) dX8_isSimple_107 ⟨Nat.zero_le _, Nat.zero_le _⟩) hP hD hS hA rfl (Eq.trans (b := [ta, m_now]) rfl rfl) (fun H locs hP9 hD9 hS9 => ?_)
                  replace hP : va_P D vwCl [(ta, .inr (8, [.ref m_now, .ref m_undone, .ref m_slots, .ref m_slotKind, .ref m_hasSlot, .ref m_sheetBits, .ref m_sheetSize, .ref m_sheets, .int (nI u), .int fi, .ref m_fresh, .long aa, .long bb, .long dd, .int (nI ro), .ref m_rootWhich, .int db, .ref m_signs, .ref m_atNought, .int (nI mn), .ref m_change, .ref m_table, .ref m_carried])), (m_now, .inl (cy 0, 29, .inl nw))] H := hP9
                  replace hD : va_D A [(ta, .inr (8, [.ref m_now, .ref m_undone, .ref m_slots, .ref m_slotKind, .ref m_hasSlot, .ref m_sheetBits, .ref m_sheetSize, .ref m_sheets, .int (nI u), .int fi, .ref m_fresh, .long aa, .long bb, .long dd, .int (nI ro), .ref m_rootWhich, .int db, .ref m_signs, .ref m_atNought, .int (nI mn), .ref m_change, .ref m_table, .ref m_carried])), (m_now, .inl (cy 0, 29, .inl nw))] := hD9
                  replace hS := hS9
                  clear hP9 hD9 hS9
                  refine lv_aload_n hx hb dX8_isSimple_110 rfl (lv_at hl 0 rfl) ?_
                  refine lv_iload_n hx hb dX8_isSimple_111 rfl (lv_at hl 2 rfl) ?_
                  refine lv_iload_n hx hb dX8_isSimple_112 rfl (lv_at hl 1 rfl) ?_
                  refine lv_iadd hx hb dX8_isSimple_113 ?_
                  refine yk_ti (y := nI (ki2 + n)) (nI_add ki2 n) ?_
                  refine lv_iconst (v := 1) hx hb dX8_isSimple_114 (by decide) ?_
                  refine lv_isub hx hb dX8_isSimple_115 ?_
                  refine yk_ti (y := nI (ki2 + n - 1)) (pk_sub (b := 1) (by omega)) ?_
                  refine yk_i [0, 1] (va_runV (As := [.int (nI (ki2 + n - 1))]) (rest := [.int (f_X8_xOf nw (ki2 + n - 1) n), .int (nI ki2), .ref ta]) ⟨hx, hb, hml, hown, hts⟩ (c_X8_yOf l D cy ta m_now m_undone m_slots m_slotKind m_hasSlot m_sheetBits m_sheetSize m_sheets m_fresh m_rootWhich m_signs m_atNought m_change m_table m_carried nw u fi aa bb dd ro db mn (ki2 + n - 1) n hn12 hn (by omega) (by omega) H.size) (cwV 1 hts gX8_isSimple_X8_yOf rfl rfl rfl hv_X8_yOf (yk_room hRf hRl rfl rfl)) (yk_pv (q := (RX8, TX8, 23)) hG hA hS hK hP hD [0, 1] (by decide +kernel) rfl rfl rfl) rfl rfl hl.1 rfl (lv_room (Nat.le_of_ble_eq_true rfl)) dX8_isSimple_116 ⟨Nat.zero_le _, Nat.zero_le _⟩) hP hD hS hA rfl (Eq.trans (b := [ta, m_now]) rfl rfl) (fun H locs hP9 hD9 hS9 => ?_)
                  replace hP : va_P D vwCl [(ta, .inr (8, [.ref m_now, .ref m_undone, .ref m_slots, .ref m_slotKind, .ref m_hasSlot, .ref m_sheetBits, .ref m_sheetSize, .ref m_sheets, .int (nI u), .int fi, .ref m_fresh, .long aa, .long bb, .long dd, .int (nI ro), .ref m_rootWhich, .int db, .ref m_signs, .ref m_atNought, .int (nI mn), .ref m_change, .ref m_table, .ref m_carried])), (m_now, .inl (cy 0, 29, .inl nw))] H := hP9
                  replace hD : va_D A [(ta, .inr (8, [.ref m_now, .ref m_undone, .ref m_slots, .ref m_slotKind, .ref m_hasSlot, .ref m_sheetBits, .ref m_sheetSize, .ref m_sheets, .int (nI u), .int fi, .ref m_fresh, .long aa, .long bb, .long dd, .int (nI ro), .ref m_rootWhich, .int db, .ref m_signs, .ref m_atNought, .int (nI mn), .ref m_change, .ref m_table, .ref m_carried])), (m_now, .inl (cy 0, 29, .inl nw))] := hD9
                  replace hS := hS9
                  clear hP9 hD9 hS9
                  refine yk_i [0, 1] (va_runV (As := [.int (nI ki2), .int (f_X8_xOf nw (ki2 + n - 1) n), .int (f_X8_yOf nw (ki2 + n - 1) n)]) (rest := []) ⟨hx, hb, hml, hown, hts⟩ (c_X8_isOn l D cy ta m_now m_undone m_slots m_slotKind m_hasSlot m_sheetBits m_sheetSize m_sheets m_fresh m_rootWhich m_signs m_atNought m_change m_table m_carried nw u fi aa bb dd ro db mn ki2 (f_X8_xOf nw (ki2 + n - 1) n) (f_X8_yOf nw (ki2 + n - 1) n) n hn12 hn (by omega) (by omega) H.size) (cwV 3 hts gX8_isSimple_X8_isOn rfl rfl rfl hv_X8_isOn (yk_room hRf hRl rfl rfl)) (yk_pv (q := (RX8, TX8, 23)) hG hA hS hK hP hD [0, 1] (by decide +kernel) rfl rfl rfl) rfl rfl hl.1 rfl (lv_room (Nat.le_of_ble_eq_true rfl)) dX8_isSimple_119 ⟨Nat.zero_le _, Nat.zero_le _⟩) hP hD hS hA rfl (Eq.trans (b := [ta, m_now]) rfl rfl) (fun H locs hP9 hD9 hS9 => ?_)
                  replace hP : va_P D vwCl [(ta, .inr (8, [.ref m_now, .ref m_undone, .ref m_slots, .ref m_slotKind, .ref m_hasSlot, .ref m_sheetBits, .ref m_sheetSize, .ref m_sheets, .int (nI u), .int fi, .ref m_fresh, .long aa, .long bb, .long dd, .int (nI ro), .ref m_rootWhich, .int db, .ref m_signs, .ref m_atNought, .int (nI mn), .ref m_change, .ref m_table, .ref m_carried])), (m_now, .inl (cy 0, 29, .inl nw))] H := hP9
                  replace hD : va_D A [(ta, .inr (8, [.ref m_now, .ref m_undone, .ref m_slots, .ref m_slotKind, .ref m_hasSlot, .ref m_sheetBits, .ref m_sheetSize, .ref m_sheets, .int (nI u), .int fi, .ref m_fresh, .long aa, .long bb, .long dd, .int (nI ro), .ref m_rootWhich, .int db, .ref m_signs, .ref m_atNought, .int (nI mn), .ref m_change, .ref m_table, .ref m_carried])), (m_now, .inl (cy 0, 29, .inl nw))] := hD9
                  replace hS := hS9
                  clear hP9 hD9 hS9
                  refine lv_if_eq (tgt := 127) hx hb dX8_isSimple_122 (by decide) (fun hc5 => ?_) (fun hc5 => ?_)
                  · replace hF := hF.trans (if_pos hc5)
                    refine lv_iconst (v := 0) hx hb dX8_isSimple_127 (by decide) ?_
                    refine lv_istore_n (lv' := [(3, .int 0), (0, .ref ta), (1, .int (nI n)), (2, .int (nI ki2))]) hx hb dX8_isSimple_128 rfl hl (by decide) rfl (fun ls hl9 => ?_)
                    replace hl := hl9
                    clear hl9
                    have L129 : ∀ (M9 n129 kj2 : Nat) (H : Heap) (locs : List Loc) (ls : Array Slot), n129 < M9 → kj2 + n129 = ki2 → f_X8_isSimple nw n = (l_X8_isSimple_129 nw n ki2 (fun ki2' => l_X8_isSimple_68 nw n n68 ki2') (n129 + 1) kj2) → va_P D vwCl [(ta, .inr (8, [.ref m_now, .ref m_undone, .ref m_slots, .ref m_slotKind, .ref m_hasSlot, .ref m_sheetBits, .ref m_sheetSize, .ref m_sheets, .int (nI u), .int fi, .ref m_fresh, .long aa, .long bb, .long dd, .int (nI ro), .ref m_rootWhich, .int db, .ref m_signs, .ref m_atNought, .int (nI mn), .ref m_change, .ref m_table, .ref m_carried])), (m_now, .inl (cy 0, 29, .inl nw))] H → va_D A [(ta, .inr (8, [.ref m_now, .ref m_undone, .ref m_slots, .ref m_slotKind, .ref m_hasSlot, .ref m_sheetBits, .ref m_sheetSize, .ref m_sheets, .int (nI u), .int fi, .ref m_fresh, .long aa, .long bb, .long dd, .int (nI ro), .ref m_rootWhich, .int db, .ref m_signs, .ref m_atNought, .int (nI mn), .ref m_change, .ref m_table, .ref m_carried])), (m_now, .inl (cy 0, 29, .inl nw))] → va_S A s.heap H locs → lv_has ls 5 [(0, .ref ta), (1, .int (nI n)), (2, .int (nI ki2)), (3, .int (nI kj2))] → W p l e R s m args below meth c H locs 0 0 Q (F0 m 129 ls []) := by
                      clear hP hD hS hl hF
                      intro M9
                      induction M9 with
                      | zero => intro n129 kj2 _ _ _ hn; exact absurd hn (Nat.not_lt_zero _)
                      | succ M9 ih129 =>
                        intro n129 kj2 H locs ls hn129 hk129 hF hP hD hS hl
                        refine lv_iload_n hx hb dX8_isSimple_129 rfl (lv_at hl 3 rfl) ?_
                        refine lv_iload_n hx hb dX8_isSimple_130 rfl (lv_at hl 2 rfl) ?_
                        refine lv_icmp_ge (tgt := 179) hx hb dX8_isSimple_131 (by decide) (fun hc6 => ?_) (fun hc6 => ?_)
                        · replace hF := hF.trans (if_pos hc6)
                          refine lv_iinc (v := nI (ki2 + 1)) (lv' := [(2, .int (nI (ki2 + 1))), (0, .ref ta), (1, .int (nI n)), (3, .int (nI kj2))]) hx hb dX8_isSimple_179 hl (k := 2) rfl (yk_inc ki2) (by decide) rfl (fun ls hl9 => ?_)
                          replace hl := hl9
                          clear hl9
                          refine lv_goto (tgt := 68) hx hb dX8_isSimple_182 (by decide) ?_
                          obtain ⟨n9, rfl⟩ : ∃ n9, n68 = n9 + 1 := ⟨n68 - 1, by omega⟩
                          exact ih68 n9 (ki2 + 1) _ _ _ (by omega) (by omega)  hF hP hD hS (lv_sub hl [1, 2, 0] rfl)
                        · replace hF := hF.trans (if_neg hc6)
                          have hlt129 : kj2 < ki2 := yk_lt hk129 (by omega) hc6
                          refine lv_iload_n hx hb dX8_isSimple_134 rfl (lv_at hl 2 rfl) ?_
                          refine lv_iload_n hx hb dX8_isSimple_135 rfl (lv_at hl 3 rfl) ?_
                          refine lv_isub hx hb dX8_isSimple_136 ?_
                          refine lv_iconst (v := 1) hx hb dX8_isSimple_137 (by decide) ?_
                          have J10 : ∀ (v9 : Int32) (H : Heap) (locs : List Loc) (ls : Array Slot), v9 = (if ((nI ki2) - (nI kj2)) = 1 then 1 else (if ((nI ki2) - (nI kj2)) = ((nI n) - 1) then 1 else 0)) → va_P D vwCl [(ta, .inr (8, [.ref m_now, .ref m_undone, .ref m_slots, .ref m_slotKind, .ref m_hasSlot, .ref m_sheetBits, .ref m_sheetSize, .ref m_sheets, .int (nI u), .int fi, .ref m_fresh, .long aa, .long bb, .long dd, .int (nI ro), .ref m_rootWhich, .int db, .ref m_signs, .ref m_atNought, .int (nI mn), .ref m_change, .ref m_table, .ref m_carried])), (m_now, .inl (cy 0, 29, .inl nw))] H → va_D A [(ta, .inr (8, [.ref m_now, .ref m_undone, .ref m_slots, .ref m_slotKind, .ref m_hasSlot, .ref m_sheetBits, .ref m_sheetSize, .ref m_sheets, .int (nI u), .int fi, .ref m_fresh, .long aa, .long bb, .long dd, .int (nI ro), .ref m_rootWhich, .int db, .ref m_signs, .ref m_atNought, .int (nI mn), .ref m_change, .ref m_table, .ref m_carried])), (m_now, .inl (cy 0, 29, .inl nw))] → va_S A s.heap H locs → lv_has ls 5 [(0, .ref ta), (1, .int (nI n)), (2, .int (nI ki2)), (3, .int (nI kj2))] → W p l e R s m args below meth c H locs 0 0 Q (F0 m 155 ls [.int v9]) := by
                            clear hP hD hS hl
                            intro v9 H locs ls ev9
                            rw [ev9]
                            clear ev9
                            intro hP hD hS hl
                            refine lv_istore (lv' := [(4, .int (if ((nI ki2) - (nI kj2)) = 1 then 1 else (if ((nI ki2) - (nI kj2)) = ((nI n) - 1) then 1 else 0))), (0, .ref ta), (1, .int (nI n)), (2, .int (nI ki2)), (3, .int (nI kj2))]) hx hb dX8_isSimple_155 hl (by decide) rfl (fun ls hl9 => ?_)
                            replace hl := hl9
                            clear hl9
                            refine lv_iload hx hb dX8_isSimple_157 (lv_at hl 0 rfl) ?_
                            refine lv_if_ne (tgt := 173) hx hb dX8_isSimple_159 (by decide) (fun hc11 => ?_) (fun hc11 => ?_)
                            · replace hF := hF.trans (if_neg hc11)
                              refine lv_iinc (v := nI (kj2 + 1)) (lv' := [(3, .int (nI (kj2 + 1))), (4, .int (if ((nI ki2) - (nI kj2)) = 1 then 1 else (if ((nI ki2) - (nI kj2)) = ((nI n) - 1) then 1 else 0))), (0, .ref ta), (1, .int (nI n)), (2, .int (nI ki2))]) hx hb dX8_isSimple_173 hl (k := 4) rfl (yk_inc kj2) (by decide) rfl (fun ls hl9 => ?_)
                              replace hl := hl9
                              clear hl9
                              refine lv_goto (tgt := 129) hx hb dX8_isSimple_176 (by decide) ?_
                              obtain ⟨n9, rfl⟩ : ∃ n9, n129 = n9 + 1 := ⟨n129 - 1, by omega⟩
                              exact ih129 n9 (kj2 + 1) _ _ _ (by omega) (by omega)  hF hP hD hS (lv_sub hl [2, 3, 4, 0] rfl)
                            · replace hF := hF.trans (if_pos hc11)
                              refine lv_aload_n hx hb dX8_isSimple_162 rfl (lv_at hl 1 rfl) ?_
                              refine lv_iload_n hx hb dX8_isSimple_163 rfl (lv_at hl 3 rfl) ?_
                              refine lv_iload_n hx hb dX8_isSimple_164 rfl (lv_at hl 4 rfl) ?_
                              refine yk_i [0, 1] (va_runV (As := [.int (nI ki2), .int (nI kj2)]) (rest := []) ⟨hx, hb, hml, hown, hts⟩ (c_X8_doMeet l D cy ta m_now m_undone m_slots m_slotKind m_hasSlot m_sheetBits m_sheetSize m_sheets m_fresh m_rootWhich m_signs m_atNought m_change m_table m_carried nw u fi aa bb dd ro db mn ki2 kj2 n hn12 hn (by omega) (by omega) (by omega) H.size) (cwV 2 hts gX8_isSimple_X8_doMeet rfl rfl rfl hv_X8_doMeet (yk_room hRf hRl rfl rfl)) (yk_pv (q := (RX8, TX8, 23)) hG hA hS hK hP hD [0, 1] (by decide +kernel) rfl rfl rfl) rfl rfl hl.1 rfl (lv_room (Nat.le_of_ble_eq_true rfl)) dX8_isSimple_165 ⟨Nat.zero_le _, Nat.zero_le _⟩) hP hD hS hA rfl (Eq.trans (b := [ta, m_now]) rfl rfl) (fun H locs hP9 hD9 hS9 => ?_)
                              replace hP : va_P D vwCl [(ta, .inr (8, [.ref m_now, .ref m_undone, .ref m_slots, .ref m_slotKind, .ref m_hasSlot, .ref m_sheetBits, .ref m_sheetSize, .ref m_sheets, .int (nI u), .int fi, .ref m_fresh, .long aa, .long bb, .long dd, .int (nI ro), .ref m_rootWhich, .int db, .ref m_signs, .ref m_atNought, .int (nI mn), .ref m_change, .ref m_table, .ref m_carried])), (m_now, .inl (cy 0, 29, .inl nw))] H := hP9
                              replace hD : va_D A [(ta, .inr (8, [.ref m_now, .ref m_undone, .ref m_slots, .ref m_slotKind, .ref m_hasSlot, .ref m_sheetBits, .ref m_sheetSize, .ref m_sheets, .int (nI u), .int fi, .ref m_fresh, .long aa, .long bb, .long dd, .int (nI ro), .ref m_rootWhich, .int db, .ref m_signs, .ref m_atNought, .int (nI mn), .ref m_change, .ref m_table, .ref m_carried])), (m_now, .inl (cy 0, 29, .inl nw))] := hD9
                              replace hS := hS9
                              clear hP9 hD9 hS9
                              refine lv_if_eq (tgt := 173) hx hb dX8_isSimple_168 (by decide) (fun hc12 => ?_) (fun hc12 => ?_)
                              · replace hF := hF.trans (if_pos hc12)
                                refine lv_iinc (v := nI (kj2 + 1)) (lv' := [(3, .int (nI (kj2 + 1))), (4, .int (if ((nI ki2) - (nI kj2)) = 1 then 1 else (if ((nI ki2) - (nI kj2)) = ((nI n) - 1) then 1 else 0))), (0, .ref ta), (1, .int (nI n)), (2, .int (nI ki2))]) hx hb dX8_isSimple_173 hl (k := 4) rfl (yk_inc kj2) (by decide) rfl (fun ls hl9 => ?_)
                                replace hl := hl9
                                clear hl9
                                refine lv_goto (tgt := 129) hx hb dX8_isSimple_176 (by decide) ?_
                                obtain ⟨n9, rfl⟩ : ∃ n9, n129 = n9 + 1 := ⟨n129 - 1, by omega⟩
                                exact ih129 n9 (kj2 + 1) _ _ _ (by omega) (by omega)  hF hP hD hS (lv_sub hl [2, 3, 4, 0] rfl)
                              · replace hF := hF.trans (if_neg hc12)
                                refine lv_iconst (v := 0) hx hb dX8_isSimple_171 (by decide) ?_
                                have hF : f_X8_isSimple nw n = 0 := hF
                                rw [hF] at hQ
                                exact hQ _ _ _ _ dX8_isSimple_172 hP hS
                          refine lv_icmp_eq (tgt := 150) hx hb dX8_isSimple_138 (by decide) (fun hc7 => ?_) (fun hc7 => ?_)
                          · refine lv_iconst (v := 1) hx hb dX8_isSimple_150 (by decide) ?_
                            refine lv_goto (tgt := 155) hx hb dX8_isSimple_151 (by decide) ?_
                            exact J10 _ _ _ _ ((if_pos hc7).symm) hP hD hS (lv_sub hl [0, 1, 2, 3] rfl)
                          · refine lv_iload_n hx hb dX8_isSimple_141 rfl (lv_at hl 2 rfl) ?_
                            refine lv_iload_n hx hb dX8_isSimple_142 rfl (lv_at hl 3 rfl) ?_
                            refine lv_isub hx hb dX8_isSimple_143 ?_
                            refine lv_iload_n hx hb dX8_isSimple_144 rfl (lv_at hl 1 rfl) ?_
                            refine lv_iconst (v := 1) hx hb dX8_isSimple_145 (by decide) ?_
                            refine lv_isub hx hb dX8_isSimple_146 ?_
                            refine lv_icmp_ne (tgt := 154) hx hb dX8_isSimple_147 (by decide) (fun hc8 => ?_) (fun hc8 => ?_)
                            · refine lv_iconst (v := 0) hx hb dX8_isSimple_154 (by decide) ?_
                              exact J10 _ _ _ _ (((if_neg hc7).trans (if_neg hc8)).symm) hP hD hS (lv_sub hl [0, 1, 2, 3] rfl)
                            · refine lv_iconst (v := 1) hx hb dX8_isSimple_150 (by decide) ?_
                              refine lv_goto (tgt := 155) hx hb dX8_isSimple_151 (by decide) ?_
                              exact J10 _ _ _ _ (((if_neg hc7).trans (if_pos hc8)).symm) hP hD hS (lv_sub hl [0, 1, 2, 3] rfl)
                    exact L129 (ki2 + 1) ki2 0  _ _ _ (Nat.lt_succ_self _) (by omega)  hF hP hD hS (lv_sub hl [1, 2, 3, 0] rfl)
                  · replace hF := hF.trans (if_neg hc5)
                    refine lv_iconst (v := 0) hx hb dX8_isSimple_125 (by decide) ?_
                    have hF : f_X8_isSimple nw n = 0 := hF
                    rw [hF] at hQ
                    exact hQ _ _ _ _ dX8_isSimple_126 hP hS
          exact L68 (n + 1) n 0  _ _ _ (Nat.lt_succ_self _) (by omega)  hF hP hD hS (lv_sub hl [1, 2, 0] rfl)
        · replace hF := hF.trans (if_neg hc2)
          have hlt14 : ki < n := yk_lt hk14 (by omega) hc2
          refine lv_iconst (v := 0) hx hb dX8_isSimple_19 (by decide) ?_
          refine lv_istore_n (lv' := [(3, .int 0), (0, .ref ta), (1, .int (nI n)), (2, .int (nI ki))]) hx hb dX8_isSimple_20 rfl hl (by decide) rfl (fun ls hl9 => ?_)
          replace hl := hl9
          clear hl9
          have L21 : ∀ (M9 n21 kj : Nat) (H : Heap) (locs : List Loc) (ls : Array Slot), n21 < M9 → kj + n21 = ki → f_X8_isSimple nw n = (l_X8_isSimple_21 nw n ki (fun ki' => l_X8_isSimple_14 nw n n14 ki') (n21 + 1) kj) → va_P D vwCl [(ta, .inr (8, [.ref m_now, .ref m_undone, .ref m_slots, .ref m_slotKind, .ref m_hasSlot, .ref m_sheetBits, .ref m_sheetSize, .ref m_sheets, .int (nI u), .int fi, .ref m_fresh, .long aa, .long bb, .long dd, .int (nI ro), .ref m_rootWhich, .int db, .ref m_signs, .ref m_atNought, .int (nI mn), .ref m_change, .ref m_table, .ref m_carried])), (m_now, .inl (cy 0, 29, .inl nw))] H → va_D A [(ta, .inr (8, [.ref m_now, .ref m_undone, .ref m_slots, .ref m_slotKind, .ref m_hasSlot, .ref m_sheetBits, .ref m_sheetSize, .ref m_sheets, .int (nI u), .int fi, .ref m_fresh, .long aa, .long bb, .long dd, .int (nI ro), .ref m_rootWhich, .int db, .ref m_signs, .ref m_atNought, .int (nI mn), .ref m_change, .ref m_table, .ref m_carried])), (m_now, .inl (cy 0, 29, .inl nw))] → va_S A s.heap H locs → lv_has ls 5 [(0, .ref ta), (1, .int (nI n)), (2, .int (nI ki)), (3, .int (nI kj))] → W p l e R s m args below meth c H locs 0 0 Q (F0 m 21 ls []) := by
            clear hP hD hS hl hF
            intro M9
            induction M9 with
            | zero => intro n21 kj _ _ _ hn; exact absurd hn (Nat.not_lt_zero _)
            | succ M9 ih21 =>
              intro n21 kj H locs ls hn21 hk21 hF hP hD hS hl
              refine lv_iload_n hx hb dX8_isSimple_21 rfl (lv_at hl 3 rfl) ?_
              refine lv_iload_n hx hb dX8_isSimple_22 rfl (lv_at hl 2 rfl) ?_
              refine lv_icmp_ge (tgt := 60) hx hb dX8_isSimple_23 (by decide) (fun hc13 => ?_) (fun hc13 => ?_)
              · replace hF := hF.trans (if_pos hc13)
                refine lv_iinc (v := nI (ki + 1)) (lv' := [(2, .int (nI (ki + 1))), (0, .ref ta), (1, .int (nI n)), (3, .int (nI kj))]) hx hb dX8_isSimple_60 hl (k := 2) rfl (yk_inc ki) (by decide) rfl (fun ls hl9 => ?_)
                replace hl := hl9
                clear hl9
                refine lv_goto (tgt := 14) hx hb dX8_isSimple_63 (by decide) ?_
                obtain ⟨n9, rfl⟩ : ∃ n9, n14 = n9 + 1 := ⟨n14 - 1, by omega⟩
                exact ih14 n9 (ki + 1) _ _ _ (by omega) (by omega)  hF hP hD hS (lv_sub hl [1, 2, 0] rfl)
              · replace hF := hF.trans (if_neg hc13)
                have hlt21 : kj < ki := yk_lt hk21 (by omega) hc13
                refine lv_aload_n hx hb dX8_isSimple_26 rfl (lv_at hl 0 rfl) ?_
                refine lv_iload_n hx hb dX8_isSimple_27 rfl (lv_at hl 2 rfl) ?_
                refine yk_i [0, 1] (va_runV (As := [.int (nI ki)]) (rest := []) ⟨hx, hb, hml, hown, hts⟩ (c_X8_xOf l D cy ta m_now m_undone m_slots m_slotKind m_hasSlot m_sheetBits m_sheetSize m_sheets m_fresh m_rootWhich m_signs m_atNought m_change m_table m_carried nw u fi aa bb dd ro db mn ki n hn12 hn (by omega) (by omega) H.size) (cwV 1 hts gX8_isSimple_X8_xOf rfl rfl rfl hv_X8_xOf (yk_room hRf hRl rfl rfl)) (yk_pv (q := (RX8, TX8, 23)) hG hA hS hK hP hD [0, 1] (by decide +kernel) rfl rfl rfl) rfl rfl hl.1 rfl (lv_room (Nat.le_of_ble_eq_true rfl)) dX8_isSimple_28 ⟨Nat.zero_le _, Nat.zero_le _⟩) hP hD hS hA rfl (Eq.trans (b := [ta, m_now]) rfl rfl) (fun H locs hP9 hD9 hS9 => ?_)
                replace hP : va_P D vwCl [(ta, .inr (8, [.ref m_now, .ref m_undone, .ref m_slots, .ref m_slotKind, .ref m_hasSlot, .ref m_sheetBits, .ref m_sheetSize, .ref m_sheets, .int (nI u), .int fi, .ref m_fresh, .long aa, .long bb, .long dd, .int (nI ro), .ref m_rootWhich, .int db, .ref m_signs, .ref m_atNought, .int (nI mn), .ref m_change, .ref m_table, .ref m_carried])), (m_now, .inl (cy 0, 29, .inl nw))] H := hP9
                replace hD : va_D A [(ta, .inr (8, [.ref m_now, .ref m_undone, .ref m_slots, .ref m_slotKind, .ref m_hasSlot, .ref m_sheetBits, .ref m_sheetSize, .ref m_sheets, .int (nI u), .int fi, .ref m_fresh, .long aa, .long bb, .long dd, .int (nI ro), .ref m_rootWhich, .int db, .ref m_signs, .ref m_atNought, .int (nI mn), .ref m_change, .ref m_table, .ref m_carried])), (m_now, .inl (cy 0, 29, .inl nw))] := hD9
                replace hS := hS9
                clear hP9 hD9 hS9
                refine lv_aload_n hx hb dX8_isSimple_31 rfl (lv_at hl 0 rfl) ?_
                refine lv_iload_n hx hb dX8_isSimple_32 rfl (lv_at hl 3 rfl) ?_
                refine yk_i [0, 1] (va_runV (As := [.int (nI kj)]) (rest := [.int (f_X8_xOf nw ki n)]) ⟨hx, hb, hml, hown, hts⟩ (c_X8_xOf l D cy ta m_now m_undone m_slots m_slotKind m_hasSlot m_sheetBits m_sheetSize m_sheets m_fresh m_rootWhich m_signs m_atNought m_change m_table m_carried nw u fi aa bb dd ro db mn kj n hn12 hn (by omega) (by omega) H.size) (cwV 1 hts gX8_isSimple_X8_xOf rfl rfl rfl hv_X8_xOf (yk_room hRf hRl rfl rfl)) (yk_pv (q := (RX8, TX8, 23)) hG hA hS hK hP hD [0, 1] (by decide +kernel) rfl rfl rfl) rfl rfl hl.1 rfl (lv_room (Nat.le_of_ble_eq_true rfl)) dX8_isSimple_33 ⟨Nat.zero_le _, Nat.zero_le _⟩) hP hD hS hA rfl (Eq.trans (b := [ta, m_now]) rfl rfl) (fun H locs hP9 hD9 hS9 => ?_)
                replace hP : va_P D vwCl [(ta, .inr (8, [.ref m_now, .ref m_undone, .ref m_slots, .ref m_slotKind, .ref m_hasSlot, .ref m_sheetBits, .ref m_sheetSize, .ref m_sheets, .int (nI u), .int fi, .ref m_fresh, .long aa, .long bb, .long dd, .int (nI ro), .ref m_rootWhich, .int db, .ref m_signs, .ref m_atNought, .int (nI mn), .ref m_change, .ref m_table, .ref m_carried])), (m_now, .inl (cy 0, 29, .inl nw))] H := hP9
                replace hD : va_D A [(ta, .inr (8, [.ref m_now, .ref m_undone, .ref m_slots, .ref m_slotKind, .ref m_hasSlot, .ref m_sheetBits, .ref m_sheetSize, .ref m_sheets, .int (nI u), .int fi, .ref m_fresh, .long aa, .long bb, .long dd, .int (nI ro), .ref m_rootWhich, .int db, .ref m_signs, .ref m_atNought, .int (nI mn), .ref m_change, .ref m_table, .ref m_carried])), (m_now, .inl (cy 0, 29, .inl nw))] := hD9
                replace hS := hS9
                clear hP9 hD9 hS9
                refine lv_icmp_ne (tgt := 54) hx hb dX8_isSimple_36 (by decide) (fun hc14 => ?_) (fun hc14 => ?_)
                · replace hF := hF.trans (if_neg hc14)
                  refine lv_iinc (v := nI (kj + 1)) (lv' := [(3, .int (nI (kj + 1))), (0, .ref ta), (1, .int (nI n)), (2, .int (nI ki))]) hx hb dX8_isSimple_54 hl (k := 3) rfl (yk_inc kj) (by decide) rfl (fun ls hl9 => ?_)
                  replace hl := hl9
                  clear hl9
                  refine lv_goto (tgt := 21) hx hb dX8_isSimple_57 (by decide) ?_
                  obtain ⟨n9, rfl⟩ : ∃ n9, n21 = n9 + 1 := ⟨n21 - 1, by omega⟩
                  exact ih21 n9 (kj + 1) _ _ _ (by omega) (by omega)  hF hP hD hS (lv_sub hl [1, 2, 3, 0] rfl)
                · replace hF := hF.trans (if_pos hc14)
                  refine lv_aload_n hx hb dX8_isSimple_39 rfl (lv_at hl 0 rfl) ?_
                  refine lv_iload_n hx hb dX8_isSimple_40 rfl (lv_at hl 2 rfl) ?_
                  refine yk_i [0, 1] (va_runV (As := [.int (nI ki)]) (rest := []) ⟨hx, hb, hml, hown, hts⟩ (c_X8_yOf l D cy ta m_now m_undone m_slots m_slotKind m_hasSlot m_sheetBits m_sheetSize m_sheets m_fresh m_rootWhich m_signs m_atNought m_change m_table m_carried nw u fi aa bb dd ro db mn ki n hn12 hn (by omega) (by omega) H.size) (cwV 1 hts gX8_isSimple_X8_yOf rfl rfl rfl hv_X8_yOf (yk_room hRf hRl rfl rfl)) (yk_pv (q := (RX8, TX8, 23)) hG hA hS hK hP hD [0, 1] (by decide +kernel) rfl rfl rfl) rfl rfl hl.1 rfl (lv_room (Nat.le_of_ble_eq_true rfl)) dX8_isSimple_41 ⟨Nat.zero_le _, Nat.zero_le _⟩) hP hD hS hA rfl (Eq.trans (b := [ta, m_now]) rfl rfl) (fun H locs hP9 hD9 hS9 => ?_)
                  replace hP : va_P D vwCl [(ta, .inr (8, [.ref m_now, .ref m_undone, .ref m_slots, .ref m_slotKind, .ref m_hasSlot, .ref m_sheetBits, .ref m_sheetSize, .ref m_sheets, .int (nI u), .int fi, .ref m_fresh, .long aa, .long bb, .long dd, .int (nI ro), .ref m_rootWhich, .int db, .ref m_signs, .ref m_atNought, .int (nI mn), .ref m_change, .ref m_table, .ref m_carried])), (m_now, .inl (cy 0, 29, .inl nw))] H := hP9
                  replace hD : va_D A [(ta, .inr (8, [.ref m_now, .ref m_undone, .ref m_slots, .ref m_slotKind, .ref m_hasSlot, .ref m_sheetBits, .ref m_sheetSize, .ref m_sheets, .int (nI u), .int fi, .ref m_fresh, .long aa, .long bb, .long dd, .int (nI ro), .ref m_rootWhich, .int db, .ref m_signs, .ref m_atNought, .int (nI mn), .ref m_change, .ref m_table, .ref m_carried])), (m_now, .inl (cy 0, 29, .inl nw))] := hD9
                  replace hS := hS9
                  clear hP9 hD9 hS9
                  refine lv_aload_n hx hb dX8_isSimple_44 rfl (lv_at hl 0 rfl) ?_
                  refine lv_iload_n hx hb dX8_isSimple_45 rfl (lv_at hl 3 rfl) ?_
                  refine yk_i [0, 1] (va_runV (As := [.int (nI kj)]) (rest := [.int (f_X8_yOf nw ki n)]) ⟨hx, hb, hml, hown, hts⟩ (c_X8_yOf l D cy ta m_now m_undone m_slots m_slotKind m_hasSlot m_sheetBits m_sheetSize m_sheets m_fresh m_rootWhich m_signs m_atNought m_change m_table m_carried nw u fi aa bb dd ro db mn kj n hn12 hn (by omega) (by omega) H.size) (cwV 1 hts gX8_isSimple_X8_yOf rfl rfl rfl hv_X8_yOf (yk_room hRf hRl rfl rfl)) (yk_pv (q := (RX8, TX8, 23)) hG hA hS hK hP hD [0, 1] (by decide +kernel) rfl rfl rfl) rfl rfl hl.1 rfl (lv_room (Nat.le_of_ble_eq_true rfl)) dX8_isSimple_46 ⟨Nat.zero_le _, Nat.zero_le _⟩) hP hD hS hA rfl (Eq.trans (b := [ta, m_now]) rfl rfl) (fun H locs hP9 hD9 hS9 => ?_)
                  replace hP : va_P D vwCl [(ta, .inr (8, [.ref m_now, .ref m_undone, .ref m_slots, .ref m_slotKind, .ref m_hasSlot, .ref m_sheetBits, .ref m_sheetSize, .ref m_sheets, .int (nI u), .int fi, .ref m_fresh, .long aa, .long bb, .long dd, .int (nI ro), .ref m_rootWhich, .int db, .ref m_signs, .ref m_atNought, .int (nI mn), .ref m_change, .ref m_table, .ref m_carried])), (m_now, .inl (cy 0, 29, .inl nw))] H := hP9
                  replace hD : va_D A [(ta, .inr (8, [.ref m_now, .ref m_undone, .ref m_slots, .ref m_slotKind, .ref m_hasSlot, .ref m_sheetBits, .ref m_sheetSize, .ref m_sheets, .int (nI u), .int fi, .ref m_fresh, .long aa, .long bb, .long dd, .int (nI ro), .ref m_rootWhich, .int db, .ref m_signs, .ref m_atNought, .int (nI mn), .ref m_change, .ref m_table, .ref m_carried])), (m_now, .inl (cy 0, 29, .inl nw))] := hD9
                  replace hS := hS9
                  clear hP9 hD9 hS9
                  refine lv_icmp_ne (tgt := 54) hx hb dX8_isSimple_49 (by decide) (fun hc15 => ?_) (fun hc15 => ?_)
                  · replace hF := hF.trans (if_neg hc15)
                    refine lv_iinc (v := nI (kj + 1)) (lv' := [(3, .int (nI (kj + 1))), (0, .ref ta), (1, .int (nI n)), (2, .int (nI ki))]) hx hb dX8_isSimple_54 hl (k := 3) rfl (yk_inc kj) (by decide) rfl (fun ls hl9 => ?_)
                    replace hl := hl9
                    clear hl9
                    refine lv_goto (tgt := 21) hx hb dX8_isSimple_57 (by decide) ?_
                    obtain ⟨n9, rfl⟩ : ∃ n9, n21 = n9 + 1 := ⟨n21 - 1, by omega⟩
                    exact ih21 n9 (kj + 1) _ _ _ (by omega) (by omega)  hF hP hD hS (lv_sub hl [1, 2, 3, 0] rfl)
                  · replace hF := hF.trans (if_pos hc15)
                    refine lv_iconst (v := 0) hx hb dX8_isSimple_52 (by decide) ?_
                    have hF : f_X8_isSimple nw n = 0 := hF
                    rw [hF] at hQ
                    exact hQ _ _ _ _ dX8_isSimple_53 hP hS
          exact L21 (ki + 1) ki 0  _ _ _ (Nat.lt_succ_self _) (by omega)  hF hP hD hS (lv_sub hl [1, 2, 3, 0] rfl)
    exact L14 (n + 1) n 0  _ _ _ (Nat.lt_succ_self _) (by omega)  hF hP hD hS (lv_sub hl [2, 1, 0] rfl)
  · replace hF := hF.trans (if_neg hc1)
    refine lv_iconst (v := 0) hx hb dX8_isSimple_10 (by decide) ?_
    have hF : f_X8_isSimple nw n = 0 := hF
    rw [hF] at hQ
    exact hQ _ _ _ _ dX8_isSimple_11 hP hS

def l_X8_areaOf_4 (nw : Nat → Int32) (n : Nat) : Nat → Nat → Int32 → Int32
  | 0, ki, z1_4 => z1_4
  | fu_X8_areaOf_4 + 1, ki, z1_4 => (if (nI n) ≤ (nI ki) then z1_4 else (l_X8_areaOf_4 nw n fu_X8_areaOf_4 (ki + 1) (z1_4 + (((f_X8_xOf nw ki n) * (f_X8_yOf nw (ki + 1) n)) - ((f_X8_yOf nw ki n) * (f_X8_xOf nw (ki + 1) n))))))
def f_X8_areaOf (nw : Nat → Int32) (n : Nat) : Int32 := (l_X8_areaOf_4 nw n (n + 1) 0 0)
set_option maxHeartbeats 400000000 in
set_option maxRecDepth 100000 in
theorem c_X8_areaOf (l : Launch) (D : va_G) (cy : Nat → ClassId) (ta : Nat) (m_now : Nat) (m_undone : Nat) (m_slots : Nat) (m_slotKind : Nat) (m_hasSlot : Nat) (m_sheetBits : Nat) (m_sheetSize : Nat) (m_sheets : Nat) (m_fresh : Nat) (m_rootWhich : Nat) (m_signs : Nat) (m_atNought : Nat) (m_change : Nat) (m_table : Nat) (m_carried : Nat) (nw : Nat → Int32) (u : Nat) (fi : Int32) (aa : Int64) (bb : Int64) (dd : Int64) (ro : Nat) (db : Int32) (mn : Nat) (n : Nat) (hn12 : nw 12 = nI n) (hn : n ≤ 8) : yk_Ci l D vwCl (yk_ty cy) yX8_areaOf wsX8_areaOf 2 41 [.ref ta] [(ta, .inr (8, [.ref m_now, .ref m_undone, .ref m_slots, .ref m_slotKind, .ref m_hasSlot, .ref m_sheetBits, .ref m_sheetSize, .ref m_sheets, .int (nI u), .int fi, .ref m_fresh, .long aa, .long bb, .long dd, .int (nI ro), .ref m_rootWhich, .int db, .ref m_signs, .ref m_atNought, .int (nI mn), .ref m_change, .ref m_table, .ref m_carried])), (m_now, .inl (cy 0, 29, .inl nw))] (f_X8_areaOf nw n) [(ta, .inr (8, [.ref m_now, .ref m_undone, .ref m_slots, .ref m_slotKind, .ref m_hasSlot, .ref m_sheetBits, .ref m_sheetSize, .ref m_sheets, .int (nI u), .int fi, .ref m_fresh, .long aa, .long bb, .long dd, .int (nI ro), .ref m_rootWhich, .int db, .ref m_signs, .ref m_atNought, .int (nI mn), .ref m_change, .ref m_table, .ref m_carried])), (m_now, .inl (cy 0, 29, .inl nw))] := by
  refine yk_eI (cc := cX8_areaOf) (maxL := 3) (by decide) rfl (Nat.le_of_ble_eq_true rfl) rfl ?_
  intro p e R s m args below meth c A Q ls H locs hx hb hml hown hts hRf hRl hA hK hG hP hD hS hl hQ
  have hP : va_P D vwCl [(ta, .inr (8, [.ref m_now, .ref m_undone, .ref m_slots, .ref m_slotKind, .ref m_hasSlot, .ref m_sheetBits, .ref m_sheetSize, .ref m_sheets, .int (nI u), .int fi, .ref m_fresh, .long aa, .long bb, .long dd, .int (nI ro), .ref m_rootWhich, .int db, .ref m_signs, .ref m_atNought, .int (nI mn), .ref m_change, .ref m_table, .ref m_carried])), (m_now, .inl (cy 0, 29, .inl nw))] H := hP
  have hl : lv_has ls 3 [(0, .ref ta)] := hl
  have hown : s.vm.findClass RX8 = some m.cls := hown
  have hF : (f_X8_areaOf nw n) = (f_X8_areaOf nw n) := rfl
  refine lv_iconst (v := 0) hx hb dX8_areaOf_0 (by decide) ?_
  refine lv_istore_n (lv' := [(1, .int 0), (0, .ref ta)]) hx hb dX8_areaOf_1 rfl hl (by decide) rfl (fun ls hl9 => ?_)
  replace hl := hl9
  clear hl9
  refine lv_iconst (v := 0) hx hb dX8_areaOf_2 (by decide) ?_
  refine lv_istore_n (lv' := [(2, .int 0), (1, .int 0), (0, .ref ta)]) hx hb dX8_areaOf_3 rfl hl (by decide) rfl (fun ls hl9 => ?_)
  replace hl := hl9
  clear hl9
  have J2 : ∀ (H : Heap) (locs : List Loc) (ls : Array Slot), va_P D vwCl [(ta, .inr (8, [.ref m_now, .ref m_undone, .ref m_slots, .ref m_slotKind, .ref m_hasSlot, .ref m_sheetBits, .ref m_sheetSize, .ref m_sheets, .int (nI u), .int fi, .ref m_fresh, .long aa, .long bb, .long dd, .int (nI ro), .ref m_rootWhich, .int db, .ref m_signs, .ref m_atNought, .int (nI mn), .ref m_change, .ref m_table, .ref m_carried])), (m_now, .inl (cy 0, 29, .inl nw))] H → va_D A [(ta, .inr (8, [.ref m_now, .ref m_undone, .ref m_slots, .ref m_slotKind, .ref m_hasSlot, .ref m_sheetBits, .ref m_sheetSize, .ref m_sheets, .int (nI u), .int fi, .ref m_fresh, .long aa, .long bb, .long dd, .int (nI ro), .ref m_rootWhich, .int db, .ref m_signs, .ref m_atNought, .int (nI mn), .ref m_change, .ref m_table, .ref m_carried])), (m_now, .inl (cy 0, 29, .inl nw))] → va_S A s.heap H locs → lv_has ls 3 [(0, .ref ta), (1, .int (l_X8_areaOf_4 nw n (n + 1) 0 0))] → W p l e R s m args below meth c H locs 0 0 Q (F0 m 48 ls []) := by
    clear hP hD hS hl
    intro H locs ls hP hD hS hl
    refine lv_iload_n hx hb dX8_areaOf_48 rfl (lv_at hl 1 rfl) ?_
    have hF : f_X8_areaOf nw n = (l_X8_areaOf_4 nw n (n + 1) 0 0) := hF
    rw [hF] at hQ
    exact hQ _ _ _ _ dX8_areaOf_49 hP hS
  have L4 : ∀ (M9 n4 ki : Nat) (z1_4 : Int32) (H : Heap) (locs : List Loc) (ls : Array Slot), n4 < M9 → ki + n4 = n → (l_X8_areaOf_4 nw n (n + 1) 0 0) = (l_X8_areaOf_4 nw n (n4 + 1) ki z1_4) → va_P D vwCl [(ta, .inr (8, [.ref m_now, .ref m_undone, .ref m_slots, .ref m_slotKind, .ref m_hasSlot, .ref m_sheetBits, .ref m_sheetSize, .ref m_sheets, .int (nI u), .int fi, .ref m_fresh, .long aa, .long bb, .long dd, .int (nI ro), .ref m_rootWhich, .int db, .ref m_signs, .ref m_atNought, .int (nI mn), .ref m_change, .ref m_table, .ref m_carried])), (m_now, .inl (cy 0, 29, .inl nw))] H → va_D A [(ta, .inr (8, [.ref m_now, .ref m_undone, .ref m_slots, .ref m_slotKind, .ref m_hasSlot, .ref m_sheetBits, .ref m_sheetSize, .ref m_sheets, .int (nI u), .int fi, .ref m_fresh, .long aa, .long bb, .long dd, .int (nI ro), .ref m_rootWhich, .int db, .ref m_signs, .ref m_atNought, .int (nI mn), .ref m_change, .ref m_table, .ref m_carried])), (m_now, .inl (cy 0, 29, .inl nw))] → va_S A s.heap H locs → lv_has ls 3 [(0, .ref ta), (1, .int z1_4), (2, .int (nI ki))] → W p l e R s m args below meth c H locs 0 0 Q (F0 m 4 ls []) := by
    clear hP hD hS hl
    intro M9
    induction M9 with
    | zero => intro n4 ki _ _ _ _ hn; exact absurd hn (Nat.not_lt_zero _)
    | succ M9 ih4 =>
      intro n4 ki z1_4 H locs ls hn4 hk4 hV4 hP hD hS hl
      refine lv_iload_n hx hb dX8_areaOf_4 rfl (lv_at hl 2 rfl) ?_
      refine lv_aload_n hx hb dX8_areaOf_5 rfl (lv_at hl 0 rfl) ?_
      refine yk_i [0, 1] (va_runV (As := []) (rest := [.int (nI ki)]) ⟨hx, hb, hml, hown, hts⟩ (c_X8_corners l D cy ta m_now m_undone m_slots m_slotKind m_hasSlot m_sheetBits m_sheetSize m_sheets m_fresh m_rootWhich m_signs m_atNought m_change m_table m_carried nw u fi aa bb dd ro db mn H.size) (cwV 0 hts gX8_areaOf_X8_corners rfl rfl rfl hv_X8_corners (yk_room hRf hRl rfl rfl)) (yk_pv (q := (RX8, TX8, 23)) hG hA hS hK hP hD [0, 1] (by decide +kernel) rfl rfl rfl) rfl rfl hl.1 rfl (lv_room (Nat.le_of_ble_eq_true rfl)) dX8_areaOf_6 ⟨Nat.zero_le _, Nat.zero_le _⟩) hP hD hS hA rfl (Eq.trans (b := [ta, m_now]) rfl rfl) (fun H locs hP9 hD9 hS9 => ?_)
      replace hP : va_P D vwCl [(ta, .inr (8, [.ref m_now, .ref m_undone, .ref m_slots, .ref m_slotKind, .ref m_hasSlot, .ref m_sheetBits, .ref m_sheetSize, .ref m_sheets, .int (nI u), .int fi, .ref m_fresh, .long aa, .long bb, .long dd, .int (nI ro), .ref m_rootWhich, .int db, .ref m_signs, .ref m_atNought, .int (nI mn), .ref m_change, .ref m_table, .ref m_carried])), (m_now, .inl (cy 0, 29, .inl nw))] H := hP9
      replace hD : va_D A [(ta, .inr (8, [.ref m_now, .ref m_undone, .ref m_slots, .ref m_slotKind, .ref m_hasSlot, .ref m_sheetBits, .ref m_sheetSize, .ref m_sheets, .int (nI u), .int fi, .ref m_fresh, .long aa, .long bb, .long dd, .int (nI ro), .ref m_rootWhich, .int db, .ref m_signs, .ref m_atNought, .int (nI mn), .ref m_change, .ref m_table, .ref m_carried])), (m_now, .inl (cy 0, 29, .inl nw))] := hD9
      replace hS := hS9
      clear hP9 hD9 hS9
      refine yk_ti (y := nI n) (hn12) ?_
      refine lv_icmp_ge (tgt := 48) hx hb dX8_areaOf_9 (by decide) (fun hc1 => ?_) (fun hc1 => ?_)
      · replace hV4 := hV4.trans (if_pos hc1)
        have hV4 : (l_X8_areaOf_4 nw n (n + 1) 0 0) = z1_4 := hV4
        have J2 := J2
        rw [hV4] at J2
        exact J2 _ _ _ hP hD hS (lv_sub hl [0, 1] rfl)
      · replace hV4 := hV4.trans (if_neg hc1)
        have hlt4 : ki < n := yk_lt hk4 (by omega) hc1
        refine lv_iload_n hx hb dX8_areaOf_12 rfl (lv_at hl 1 rfl) ?_
        refine lv_aload_n hx hb dX8_areaOf_13 rfl (lv_at hl 0 rfl) ?_
        refine lv_iload_n hx hb dX8_areaOf_14 rfl (lv_at hl 2 rfl) ?_
        refine yk_i [0, 1] (va_runV (As := [.int (nI ki)]) (rest := [.int z1_4]) ⟨hx, hb, hml, hown, hts⟩ (c_X8_xOf l D cy ta m_now m_undone m_slots m_slotKind m_hasSlot m_sheetBits m_sheetSize m_sheets m_fresh m_rootWhich m_signs m_atNought m_change m_table m_carried nw u fi aa bb dd ro db mn ki n hn12 hn (by omega) (by omega) H.size) (cwV 1 hts gX8_areaOf_X8_xOf rfl rfl rfl hv_X8_xOf (yk_room hRf hRl rfl rfl)) (yk_pv (q := (RX8, TX8, 23)) hG hA hS hK hP hD [0, 1] (by decide +kernel) rfl rfl rfl) rfl rfl hl.1 rfl (lv_room (Nat.le_of_ble_eq_true rfl)) dX8_areaOf_15 ⟨Nat.zero_le _, Nat.zero_le _⟩) hP hD hS hA rfl (Eq.trans (b := [ta, m_now]) rfl rfl) (fun H locs hP9 hD9 hS9 => ?_)
        replace hP : va_P D vwCl [(ta, .inr (8, [.ref m_now, .ref m_undone, .ref m_slots, .ref m_slotKind, .ref m_hasSlot, .ref m_sheetBits, .ref m_sheetSize, .ref m_sheets, .int (nI u), .int fi, .ref m_fresh, .long aa, .long bb, .long dd, .int (nI ro), .ref m_rootWhich, .int db, .ref m_signs, .ref m_atNought, .int (nI mn), .ref m_change, .ref m_table, .ref m_carried])), (m_now, .inl (cy 0, 29, .inl nw))] H := hP9
        replace hD : va_D A [(ta, .inr (8, [.ref m_now, .ref m_undone, .ref m_slots, .ref m_slotKind, .ref m_hasSlot, .ref m_sheetBits, .ref m_sheetSize, .ref m_sheets, .int (nI u), .int fi, .ref m_fresh, .long aa, .long bb, .long dd, .int (nI ro), .ref m_rootWhich, .int db, .ref m_signs, .ref m_atNought, .int (nI mn), .ref m_change, .ref m_table, .ref m_carried])), (m_now, .inl (cy 0, 29, .inl nw))] := hD9
        replace hS := hS9
        clear hP9 hD9 hS9
        refine lv_aload_n hx hb dX8_areaOf_18 rfl (lv_at hl 0 rfl) ?_
        refine lv_iload_n hx hb dX8_areaOf_19 rfl (lv_at hl 2 rfl) ?_
        refine lv_iconst (v := 1) hx hb dX8_areaOf_20 (by decide) ?_
        refine lv_iadd hx hb dX8_areaOf_21 ?_
        refine yk_ti (y := nI (ki + 1)) (nI_add ki 1) ?_
        refine yk_i [0, 1] (va_runV (As := [.int (nI (ki + 1))]) (rest := [.int (f_X8_xOf nw ki n), .int z1_4]) ⟨hx, hb, hml, hown, hts⟩ (c_X8_yOf l D cy ta m_now m_undone m_slots m_slotKind m_hasSlot m_sheetBits m_sheetSize m_sheets m_fresh m_rootWhich m_signs m_atNought m_change m_table m_carried nw u fi aa bb dd ro db mn (ki + 1) n hn12 hn (by omega) (by omega) H.size) (cwV 1 hts gX8_areaOf_X8_yOf rfl rfl rfl hv_X8_yOf (yk_room hRf hRl rfl rfl)) (yk_pv (q := (RX8, TX8, 23)) hG hA hS hK hP hD [0, 1] (by decide +kernel) rfl rfl rfl) rfl rfl hl.1 rfl (lv_room (Nat.le_of_ble_eq_true rfl)) dX8_areaOf_22 ⟨Nat.zero_le _, Nat.zero_le _⟩) hP hD hS hA rfl (Eq.trans (b := [ta, m_now]) rfl rfl) (fun H locs hP9 hD9 hS9 => ?_)
        replace hP : va_P D vwCl [(ta, .inr (8, [.ref m_now, .ref m_undone, .ref m_slots, .ref m_slotKind, .ref m_hasSlot, .ref m_sheetBits, .ref m_sheetSize, .ref m_sheets, .int (nI u), .int fi, .ref m_fresh, .long aa, .long bb, .long dd, .int (nI ro), .ref m_rootWhich, .int db, .ref m_signs, .ref m_atNought, .int (nI mn), .ref m_change, .ref m_table, .ref m_carried])), (m_now, .inl (cy 0, 29, .inl nw))] H := hP9
        replace hD : va_D A [(ta, .inr (8, [.ref m_now, .ref m_undone, .ref m_slots, .ref m_slotKind, .ref m_hasSlot, .ref m_sheetBits, .ref m_sheetSize, .ref m_sheets, .int (nI u), .int fi, .ref m_fresh, .long aa, .long bb, .long dd, .int (nI ro), .ref m_rootWhich, .int db, .ref m_signs, .ref m_atNought, .int (nI mn), .ref m_change, .ref m_table, .ref m_carried])), (m_now, .inl (cy 0, 29, .inl nw))] := hD9
        replace hS := hS9
        clear hP9 hD9 hS9
        refine lv_imul hx hb dX8_areaOf_25 ?_
        refine lv_aload_n hx hb dX8_areaOf_26 rfl (lv_at hl 0 rfl) ?_
        refine lv_iload_n hx hb dX8_areaOf_27 rfl (lv_at hl 2 rfl) ?_
        refine yk_i [0, 1] (va_runV (As := [.int (nI ki)]) (rest := [.int ((f_X8_xOf nw ki n) * (f_X8_yOf nw (ki + 1) n)), .int z1_4]) ⟨hx, hb, hml, hown, hts⟩ (c_X8_yOf l D cy ta m_now m_undone m_slots m_slotKind m_hasSlot m_sheetBits m_sheetSize m_sheets m_fresh m_rootWhich m_signs m_atNought m_change m_table m_carried nw u fi aa bb dd ro db mn ki n hn12 hn (by omega) (by omega) H.size) (cwV 1 hts gX8_areaOf_X8_yOf rfl rfl rfl hv_X8_yOf (yk_room hRf hRl rfl rfl)) (yk_pv (q := (RX8, TX8, 23)) hG hA hS hK hP hD [0, 1] (by decide +kernel) rfl rfl rfl) rfl rfl hl.1 rfl (lv_room (Nat.le_of_ble_eq_true rfl)) dX8_areaOf_28 ⟨Nat.zero_le _, Nat.zero_le _⟩) hP hD hS hA rfl (Eq.trans (b := [ta, m_now]) rfl rfl) (fun H locs hP9 hD9 hS9 => ?_)
        replace hP : va_P D vwCl [(ta, .inr (8, [.ref m_now, .ref m_undone, .ref m_slots, .ref m_slotKind, .ref m_hasSlot, .ref m_sheetBits, .ref m_sheetSize, .ref m_sheets, .int (nI u), .int fi, .ref m_fresh, .long aa, .long bb, .long dd, .int (nI ro), .ref m_rootWhich, .int db, .ref m_signs, .ref m_atNought, .int (nI mn), .ref m_change, .ref m_table, .ref m_carried])), (m_now, .inl (cy 0, 29, .inl nw))] H := hP9
        replace hD : va_D A [(ta, .inr (8, [.ref m_now, .ref m_undone, .ref m_slots, .ref m_slotKind, .ref m_hasSlot, .ref m_sheetBits, .ref m_sheetSize, .ref m_sheets, .int (nI u), .int fi, .ref m_fresh, .long aa, .long bb, .long dd, .int (nI ro), .ref m_rootWhich, .int db, .ref m_signs, .ref m_atNought, .int (nI mn), .ref m_change, .ref m_table, .ref m_carried])), (m_now, .inl (cy 0, 29, .inl nw))] := hD9
        replace hS := hS9
        clear hP9 hD9 hS9
        refine lv_aload_n hx hb dX8_areaOf_31 rfl (lv_at hl 0 rfl) ?_
        refine lv_iload_n hx hb dX8_areaOf_32 rfl (lv_at hl 2 rfl) ?_
        refine lv_iconst (v := 1) hx hb dX8_areaOf_33 (by decide) ?_
        refine lv_iadd hx hb dX8_areaOf_34 ?_
        refine yk_ti (y := nI (ki + 1)) (nI_add ki 1) ?_
        refine yk_i [0, 1] (va_runV (As := [.int (nI (ki + 1))]) (rest := [.int (f_X8_yOf nw ki n), .int ((f_X8_xOf nw ki n) * (f_X8_yOf nw (ki + 1) n)), .int z1_4]) ⟨hx, hb, hml, hown, hts⟩ (c_X8_xOf l D cy ta m_now m_undone m_slots m_slotKind m_hasSlot m_sheetBits m_sheetSize m_sheets m_fresh m_rootWhich m_signs m_atNought m_change m_table m_carried nw u fi aa bb dd ro db mn (ki + 1) n hn12 hn (by omega) (by omega) H.size) (cwV 1 hts gX8_areaOf_X8_xOf rfl rfl rfl hv_X8_xOf (yk_room hRf hRl rfl rfl)) (yk_pv (q := (RX8, TX8, 23)) hG hA hS hK hP hD [0, 1] (by decide +kernel) rfl rfl rfl) rfl rfl hl.1 rfl (lv_room (Nat.le_of_ble_eq_true rfl)) dX8_areaOf_35 ⟨Nat.zero_le _, Nat.zero_le _⟩) hP hD hS hA rfl (Eq.trans (b := [ta, m_now]) rfl rfl) (fun H locs hP9 hD9 hS9 => ?_)
        replace hP : va_P D vwCl [(ta, .inr (8, [.ref m_now, .ref m_undone, .ref m_slots, .ref m_slotKind, .ref m_hasSlot, .ref m_sheetBits, .ref m_sheetSize, .ref m_sheets, .int (nI u), .int fi, .ref m_fresh, .long aa, .long bb, .long dd, .int (nI ro), .ref m_rootWhich, .int db, .ref m_signs, .ref m_atNought, .int (nI mn), .ref m_change, .ref m_table, .ref m_carried])), (m_now, .inl (cy 0, 29, .inl nw))] H := hP9
        replace hD : va_D A [(ta, .inr (8, [.ref m_now, .ref m_undone, .ref m_slots, .ref m_slotKind, .ref m_hasSlot, .ref m_sheetBits, .ref m_sheetSize, .ref m_sheets, .int (nI u), .int fi, .ref m_fresh, .long aa, .long bb, .long dd, .int (nI ro), .ref m_rootWhich, .int db, .ref m_signs, .ref m_atNought, .int (nI mn), .ref m_change, .ref m_table, .ref m_carried])), (m_now, .inl (cy 0, 29, .inl nw))] := hD9
        replace hS := hS9
        clear hP9 hD9 hS9
        refine lv_imul hx hb dX8_areaOf_38 ?_
        refine lv_isub hx hb dX8_areaOf_39 ?_
        refine lv_iadd hx hb dX8_areaOf_40 ?_
        refine lv_istore_n (lv' := [(1, .int (z1_4 + (((f_X8_xOf nw ki n) * (f_X8_yOf nw (ki + 1) n)) - ((f_X8_yOf nw ki n) * (f_X8_xOf nw (ki + 1) n))))), (0, .ref ta), (2, .int (nI ki))]) hx hb dX8_areaOf_41 rfl hl (by decide) rfl (fun ls hl9 => ?_)
        replace hl := hl9
        clear hl9
        refine lv_iinc (v := nI (ki + 1)) (lv' := [(2, .int (nI (ki + 1))), (1, .int (z1_4 + (((f_X8_xOf nw ki n) * (f_X8_yOf nw (ki + 1) n)) - ((f_X8_yOf nw ki n) * (f_X8_xOf nw (ki + 1) n))))), (0, .ref ta)]) hx hb dX8_areaOf_42 hl (k := 2) rfl (yk_inc ki) (by decide) rfl (fun ls hl9 => ?_)
        replace hl := hl9
        clear hl9
        refine lv_goto (tgt := 4) hx hb dX8_areaOf_45 (by decide) ?_
        obtain ⟨n9, rfl⟩ : ∃ n9, n4 = n9 + 1 := ⟨n4 - 1, by omega⟩
        exact ih4 n9 (ki + 1) (z1_4 + (((f_X8_xOf nw ki n) * (f_X8_yOf nw (ki + 1) n)) - ((f_X8_yOf nw ki n) * (f_X8_xOf nw (ki + 1) n)))) _ _ _ (by omega) (by omega)  hV4 hP hD hS (lv_sub hl [2, 1, 0] rfl)
  exact L4 (n + 1) n 0 0 _ _ _ (Nat.lt_succ_self _) (by omega)  rfl hP hD hS (lv_sub hl [2, 1, 0] rfl)

def f_X8_simple (nw : Nat → Int32) (bq : Int32) (n : Nat) : Int32 := (if (f_X8_isSimple nw n) = 0 then 0 else (if bq = 0 then 1 else (if (f_X8_areaOf nw n) ≤ 0 then 0 else 1)))
set_option maxHeartbeats 400000000 in
set_option maxRecDepth 100000 in
theorem c_X8_simple (l : Launch) (D : va_G) (cy : Nat → ClassId) (ta : Nat) (m_now : Nat) (m_undone : Nat) (m_slots : Nat) (m_slotKind : Nat) (m_hasSlot : Nat) (m_sheetBits : Nat) (m_sheetSize : Nat) (m_sheets : Nat) (m_fresh : Nat) (m_rootWhich : Nat) (m_signs : Nat) (m_atNought : Nat) (m_change : Nat) (m_table : Nat) (m_carried : Nat) (nw : Nat → Int32) (u : Nat) (fi : Int32) (aa : Int64) (bb : Int64) (dd : Int64) (ro : Nat) (db : Int32) (mn : Nat) (bq : Int32) (n : Nat) (hn12 : nw 12 = nI n) (hn : n ≤ 8) : yk_Ci l D vwCl (yk_ty cy) yX8_simple wsX8_simple 5 118 [.ref ta, .int bq] [(ta, .inr (8, [.ref m_now, .ref m_undone, .ref m_slots, .ref m_slotKind, .ref m_hasSlot, .ref m_sheetBits, .ref m_sheetSize, .ref m_sheets, .int (nI u), .int fi, .ref m_fresh, .long aa, .long bb, .long dd, .int (nI ro), .ref m_rootWhich, .int db, .ref m_signs, .ref m_atNought, .int (nI mn), .ref m_change, .ref m_table, .ref m_carried])), (m_now, .inl (cy 0, 29, .inl nw))] (f_X8_simple nw bq n) [(ta, .inr (8, [.ref m_now, .ref m_undone, .ref m_slots, .ref m_slotKind, .ref m_hasSlot, .ref m_sheetBits, .ref m_sheetSize, .ref m_sheets, .int (nI u), .int fi, .ref m_fresh, .long aa, .long bb, .long dd, .int (nI ro), .ref m_rootWhich, .int db, .ref m_signs, .ref m_atNought, .int (nI mn), .ref m_change, .ref m_table, .ref m_carried])), (m_now, .inl (cy 0, 29, .inl nw))] := by
  refine yk_eI (cc := cX8_simple) (maxL := 2) (by decide) rfl (Nat.le_of_ble_eq_true rfl) rfl ?_
  intro p e R s m args below meth c A Q ls H locs hx hb hml hown hts hRf hRl hA hK hG hP hD hS hl hQ
  have hP : va_P D vwCl [(ta, .inr (8, [.ref m_now, .ref m_undone, .ref m_slots, .ref m_slotKind, .ref m_hasSlot, .ref m_sheetBits, .ref m_sheetSize, .ref m_sheets, .int (nI u), .int fi, .ref m_fresh, .long aa, .long bb, .long dd, .int (nI ro), .ref m_rootWhich, .int db, .ref m_signs, .ref m_atNought, .int (nI mn), .ref m_change, .ref m_table, .ref m_carried])), (m_now, .inl (cy 0, 29, .inl nw))] H := hP
  have hl : lv_has ls 2 [(0, .ref ta), (1, .int bq)] := hl
  have hown : s.vm.findClass RX8 = some m.cls := hown
  have hF : (f_X8_simple nw bq n) = (f_X8_simple nw bq n) := rfl
  refine lv_aload_n hx hb dX8_simple_0 rfl (lv_at hl 0 rfl) ?_
  refine yk_i [0, 1] (va_runV (As := []) (rest := []) ⟨hx, hb, hml, hown, hts⟩ (c_X8_isSimple l D cy ta m_now m_undone m_slots m_slotKind m_hasSlot m_sheetBits m_sheetSize m_sheets m_fresh m_rootWhich m_signs m_atNought m_change m_table m_carried nw u fi aa bb dd ro db mn n hn12 hn H.size) (cwV 0 hts gX8_simple_X8_isSimple rfl rfl rfl hv_X8_isSimple (yk_room hRf hRl rfl rfl)) (yk_pv (q := (RX8, TX8, 23)) hG hA hS hK hP hD [0, 1] (by decide +kernel) rfl rfl rfl) rfl rfl hl.1 rfl (lv_room (Nat.le_of_ble_eq_true rfl)) dX8_simple_1 ⟨Nat.zero_le _, Nat.zero_le _⟩) hP hD hS hA rfl (Eq.trans (b := [ta, m_now]) rfl rfl) (fun H locs hP9 hD9 hS9 => ?_)
  replace hP : va_P D vwCl [(ta, .inr (8, [.ref m_now, .ref m_undone, .ref m_slots, .ref m_slotKind, .ref m_hasSlot, .ref m_sheetBits, .ref m_sheetSize, .ref m_sheets, .int (nI u), .int fi, .ref m_fresh, .long aa, .long bb, .long dd, .int (nI ro), .ref m_rootWhich, .int db, .ref m_signs, .ref m_atNought, .int (nI mn), .ref m_change, .ref m_table, .ref m_carried])), (m_now, .inl (cy 0, 29, .inl nw))] H := hP9
  replace hD : va_D A [(ta, .inr (8, [.ref m_now, .ref m_undone, .ref m_slots, .ref m_slotKind, .ref m_hasSlot, .ref m_sheetBits, .ref m_sheetSize, .ref m_sheets, .int (nI u), .int fi, .ref m_fresh, .long aa, .long bb, .long dd, .int (nI ro), .ref m_rootWhich, .int db, .ref m_signs, .ref m_atNought, .int (nI mn), .ref m_change, .ref m_table, .ref m_carried])), (m_now, .inl (cy 0, 29, .inl nw))] := hD9
  replace hS := hS9
  clear hP9 hD9 hS9
  have J5 : ∀ (v4 : Int32) (H : Heap) (locs : List Loc) (ls : Array Slot), v4 = (if (f_X8_isSimple nw n) = 0 then 0 else (if bq = 0 then 1 else (if (f_X8_areaOf nw n) ≤ 0 then 0 else 1))) → va_P D vwCl [(ta, .inr (8, [.ref m_now, .ref m_undone, .ref m_slots, .ref m_slotKind, .ref m_hasSlot, .ref m_sheetBits, .ref m_sheetSize, .ref m_sheets, .int (nI u), .int fi, .ref m_fresh, .long aa, .long bb, .long dd, .int (nI ro), .ref m_rootWhich, .int db, .ref m_signs, .ref m_atNought, .int (nI mn), .ref m_change, .ref m_table, .ref m_carried])), (m_now, .inl (cy 0, 29, .inl nw))] H → va_D A [(ta, .inr (8, [.ref m_now, .ref m_undone, .ref m_slots, .ref m_slotKind, .ref m_hasSlot, .ref m_sheetBits, .ref m_sheetSize, .ref m_sheets, .int (nI u), .int fi, .ref m_fresh, .long aa, .long bb, .long dd, .int (nI ro), .ref m_rootWhich, .int db, .ref m_signs, .ref m_atNought, .int (nI mn), .ref m_change, .ref m_table, .ref m_carried])), (m_now, .inl (cy 0, 29, .inl nw))] → va_S A s.heap H locs → lv_has ls 2 [(0, .ref ta), (1, .int bq)] → W p l e R s m args below meth c H locs 0 0 Q (F0 m 23 ls [.int v4]) := by
    clear hP hD hS hl
    intro v4 H locs ls ev4
    rw [ev4]
    clear ev4
    intro hP hD hS hl
    have hF : f_X8_simple nw bq n = (if (f_X8_isSimple nw n) = 0 then 0 else (if bq = 0 then 1 else (if (f_X8_areaOf nw n) ≤ 0 then 0 else 1))) := hF
    rw [hF] at hQ
    exact hQ _ _ _ _ dX8_simple_23 hP hS
  refine lv_if_eq (tgt := 22) hx hb dX8_simple_4 (by decide) (fun hc1 => ?_) (fun hc1 => ?_)
  · refine lv_iconst (v := 0) hx hb dX8_simple_22 (by decide) ?_
    exact J5 _ _ _ _ ((if_pos hc1).symm) hP hD hS (lv_sub hl [0, 1] rfl)
  · refine lv_iload_n hx hb dX8_simple_7 rfl (lv_at hl 1 rfl) ?_
    refine lv_if_eq (tgt := 18) hx hb dX8_simple_8 (by decide) (fun hc2 => ?_) (fun hc2 => ?_)
    · refine lv_iconst (v := 1) hx hb dX8_simple_18 (by decide) ?_
      refine lv_goto (tgt := 23) hx hb dX8_simple_19 (by decide) ?_
      exact J5 _ _ _ _ (((if_neg hc1).trans (if_pos hc2)).symm) hP hD hS (lv_sub hl [0, 1] rfl)
    · refine lv_aload_n hx hb dX8_simple_11 rfl (lv_at hl 0 rfl) ?_
      refine yk_i [0, 1] (va_runV (As := []) (rest := []) ⟨hx, hb, hml, hown, hts⟩ (c_X8_areaOf l D cy ta m_now m_undone m_slots m_slotKind m_hasSlot m_sheetBits m_sheetSize m_sheets m_fresh m_rootWhich m_signs m_atNought m_change m_table m_carried nw u fi aa bb dd ro db mn n hn12 hn H.size) (cwV 0 hts gX8_simple_X8_areaOf rfl rfl rfl hv_X8_areaOf (yk_room hRf hRl rfl rfl)) (yk_pv (q := (RX8, TX8, 23)) hG hA hS hK hP hD [0, 1] (by decide +kernel) rfl rfl rfl) rfl rfl hl.1 rfl (lv_room (Nat.le_of_ble_eq_true rfl)) dX8_simple_12 ⟨Nat.zero_le _, Nat.zero_le _⟩) hP hD hS hA rfl (Eq.trans (b := [ta, m_now]) rfl rfl) (fun H locs hP9 hD9 hS9 => ?_)
      replace hP : va_P D vwCl [(ta, .inr (8, [.ref m_now, .ref m_undone, .ref m_slots, .ref m_slotKind, .ref m_hasSlot, .ref m_sheetBits, .ref m_sheetSize, .ref m_sheets, .int (nI u), .int fi, .ref m_fresh, .long aa, .long bb, .long dd, .int (nI ro), .ref m_rootWhich, .int db, .ref m_signs, .ref m_atNought, .int (nI mn), .ref m_change, .ref m_table, .ref m_carried])), (m_now, .inl (cy 0, 29, .inl nw))] H := hP9
      replace hD : va_D A [(ta, .inr (8, [.ref m_now, .ref m_undone, .ref m_slots, .ref m_slotKind, .ref m_hasSlot, .ref m_sheetBits, .ref m_sheetSize, .ref m_sheets, .int (nI u), .int fi, .ref m_fresh, .long aa, .long bb, .long dd, .int (nI ro), .ref m_rootWhich, .int db, .ref m_signs, .ref m_atNought, .int (nI mn), .ref m_change, .ref m_table, .ref m_carried])), (m_now, .inl (cy 0, 29, .inl nw))] := hD9
      replace hS := hS9
      clear hP9 hD9 hS9
      refine lv_if_le (tgt := 22) hx hb dX8_simple_15 (by decide) (fun hc3 => ?_) (fun hc3 => ?_)
      · refine lv_iconst (v := 0) hx hb dX8_simple_22 (by decide) ?_
        exact J5 _ _ _ _ (((if_neg hc1).trans ((if_neg hc2).trans (if_pos hc3))).symm) hP hD hS (lv_sub hl [0, 1] rfl)
      · refine lv_iconst (v := 1) hx hb dX8_simple_18 (by decide) ?_
        refine lv_goto (tgt := 23) hx hb dX8_simple_19 (by decide) ?_
        exact J5 _ _ _ _ (((if_neg hc1).trans ((if_neg hc2).trans (if_neg hc3))).symm) hP hD hS (lv_sub hl [0, 1] rfl)

def f_X8_area (nw : Nat → Int32) (n : Nat) : Int32 := (f_X8_areaOf nw n)
set_option maxHeartbeats 400000000 in
set_option maxRecDepth 100000 in
theorem c_X8_area (l : Launch) (D : va_G) (cy : Nat → ClassId) (ta : Nat) (m_now : Nat) (m_undone : Nat) (m_slots : Nat) (m_slotKind : Nat) (m_hasSlot : Nat) (m_sheetBits : Nat) (m_sheetSize : Nat) (m_sheets : Nat) (m_fresh : Nat) (m_rootWhich : Nat) (m_signs : Nat) (m_atNought : Nat) (m_change : Nat) (m_table : Nat) (m_carried : Nat) (nw : Nat → Int32) (u : Nat) (fi : Int32) (aa : Int64) (bb : Int64) (dd : Int64) (ro : Nat) (db : Int32) (mn : Nat) (n : Nat) (hn12 : nw 12 = nI n) (hn : n ≤ 8) : yk_Ci l D vwCl (yk_ty cy) yX8_area wsX8_area 3 63 [.ref ta] [(ta, .inr (8, [.ref m_now, .ref m_undone, .ref m_slots, .ref m_slotKind, .ref m_hasSlot, .ref m_sheetBits, .ref m_sheetSize, .ref m_sheets, .int (nI u), .int fi, .ref m_fresh, .long aa, .long bb, .long dd, .int (nI ro), .ref m_rootWhich, .int db, .ref m_signs, .ref m_atNought, .int (nI mn), .ref m_change, .ref m_table, .ref m_carried])), (m_now, .inl (cy 0, 29, .inl nw))] (f_X8_area nw n) [(ta, .inr (8, [.ref m_now, .ref m_undone, .ref m_slots, .ref m_slotKind, .ref m_hasSlot, .ref m_sheetBits, .ref m_sheetSize, .ref m_sheets, .int (nI u), .int fi, .ref m_fresh, .long aa, .long bb, .long dd, .int (nI ro), .ref m_rootWhich, .int db, .ref m_signs, .ref m_atNought, .int (nI mn), .ref m_change, .ref m_table, .ref m_carried])), (m_now, .inl (cy 0, 29, .inl nw))] := by
  refine yk_eI (cc := cX8_area) (maxL := 1) (by decide) rfl (Nat.le_of_ble_eq_true rfl) rfl ?_
  intro p e R s m args below meth c A Q ls H locs hx hb hml hown hts hRf hRl hA hK hG hP hD hS hl hQ
  have hP : va_P D vwCl [(ta, .inr (8, [.ref m_now, .ref m_undone, .ref m_slots, .ref m_slotKind, .ref m_hasSlot, .ref m_sheetBits, .ref m_sheetSize, .ref m_sheets, .int (nI u), .int fi, .ref m_fresh, .long aa, .long bb, .long dd, .int (nI ro), .ref m_rootWhich, .int db, .ref m_signs, .ref m_atNought, .int (nI mn), .ref m_change, .ref m_table, .ref m_carried])), (m_now, .inl (cy 0, 29, .inl nw))] H := hP
  have hl : lv_has ls 1 [(0, .ref ta)] := hl
  have hown : s.vm.findClass RX8 = some m.cls := hown
  have hF : (f_X8_area nw n) = (f_X8_area nw n) := rfl
  refine lv_aload_n hx hb dX8_area_0 rfl (lv_at hl 0 rfl) ?_
  refine yk_i [0, 1] (va_runV (As := []) (rest := []) ⟨hx, hb, hml, hown, hts⟩ (c_X8_areaOf l D cy ta m_now m_undone m_slots m_slotKind m_hasSlot m_sheetBits m_sheetSize m_sheets m_fresh m_rootWhich m_signs m_atNought m_change m_table m_carried nw u fi aa bb dd ro db mn n hn12 hn H.size) (cwV 0 hts gX8_area_X8_areaOf rfl rfl rfl hv_X8_areaOf (yk_room hRf hRl rfl rfl)) (yk_pv (q := (RX8, TX8, 23)) hG hA hS hK hP hD [0, 1] (by decide +kernel) rfl rfl rfl) rfl rfl hl.1 rfl (lv_room (Nat.le_of_ble_eq_true rfl)) dX8_area_1 ⟨Nat.zero_le _, Nat.zero_le _⟩) hP hD hS hA rfl (Eq.trans (b := [ta, m_now]) rfl rfl) (fun H locs hP9 hD9 hS9 => ?_)
  replace hP : va_P D vwCl [(ta, .inr (8, [.ref m_now, .ref m_undone, .ref m_slots, .ref m_slotKind, .ref m_hasSlot, .ref m_sheetBits, .ref m_sheetSize, .ref m_sheets, .int (nI u), .int fi, .ref m_fresh, .long aa, .long bb, .long dd, .int (nI ro), .ref m_rootWhich, .int db, .ref m_signs, .ref m_atNought, .int (nI mn), .ref m_change, .ref m_table, .ref m_carried])), (m_now, .inl (cy 0, 29, .inl nw))] H := hP9
  replace hD : va_D A [(ta, .inr (8, [.ref m_now, .ref m_undone, .ref m_slots, .ref m_slotKind, .ref m_hasSlot, .ref m_sheetBits, .ref m_sheetSize, .ref m_sheets, .int (nI u), .int fi, .ref m_fresh, .long aa, .long bb, .long dd, .int (nI ro), .ref m_rootWhich, .int db, .ref m_signs, .ref m_atNought, .int (nI mn), .ref m_change, .ref m_table, .ref m_carried])), (m_now, .inl (cy 0, 29, .inl nw))] := hD9
  replace hS := hS9
  clear hP9 hD9 hS9
  have hF : f_X8_area nw n = (f_X8_areaOf nw n) := hF
  rw [hF] at hQ
  exact hQ _ _ _ _ dX8_area_4 hP hS

def l_X8_where_33 (nw : Nat → Int32) (px : Int32) (py : Int32) (n : Nat) : Nat → Nat → Int32 → Int32
  | 0, kj, z3_33 => z3_33
  | fu_X8_where_33 + 1, kj, z3_33 => (if (nI n) ≤ (nI kj) then z3_33 else (l_X8_where_33 nw px py n fu_X8_where_33 (kj + 1) (if ((if (f_X8_yOf nw kj n) ≤ py then 0 else 1) : Int32) = (if (f_X8_yOf nw (kj + 1) n) ≤ py then 0 else 1) then z3_33 else (if (f_X8_yOf nw (kj + 1) n) ≤ (f_X8_yOf nw kj n) then (if 0 ≤ (f_X8_turn (f_X8_xOf nw kj n) (f_X8_yOf nw kj n) (f_X8_xOf nw (kj + 1) n) (f_X8_yOf nw (kj + 1) n) px py) then z3_33 else (if z3_33 = 0 then 1 else 0)) else (if (f_X8_turn (f_X8_xOf nw kj n) (f_X8_yOf nw kj n) (f_X8_xOf nw (kj + 1) n) (f_X8_yOf nw (kj + 1) n) px py) ≤ 0 then z3_33 else (if z3_33 = 0 then 1 else 0))))))
def l_X8_where_2 (nw : Nat → Int32) (px : Int32) (py : Int32) (n : Nat) : Nat → Nat → Int32
  | 0, ki => 0
  | fu_X8_where_2 + 1, ki => (if (nI n) ≤ (nI ki) then (if (l_X8_where_33 nw px py n (n + 1) 0 0) = 0 then 0 else 2) else (if (f_X8_isOn nw ki px py n) = 0 then (l_X8_where_2 nw px py n fu_X8_where_2 (ki + 1)) else 1))
def f_X8_where (nw : Nat → Int32) (px : Int32) (py : Int32) (n : Nat) : Int32 := (l_X8_where_2 nw px py n (n + 1) 0)
set_option maxHeartbeats 400000000 in
set_option maxRecDepth 100000 in
theorem c_X8_where (l : Launch) (D : va_G) (cy : Nat → ClassId) (ta : Nat) (m_now : Nat) (m_undone : Nat) (m_slots : Nat) (m_slotKind : Nat) (m_hasSlot : Nat) (m_sheetBits : Nat) (m_sheetSize : Nat) (m_sheets : Nat) (m_fresh : Nat) (m_rootWhich : Nat) (m_signs : Nat) (m_atNought : Nat) (m_change : Nat) (m_table : Nat) (m_carried : Nat) (nw : Nat → Int32) (u : Nat) (fi : Int32) (aa : Int64) (bb : Int64) (dd : Int64) (ro : Nat) (db : Int32) (mn : Nat) (px : Int32) (py : Int32) (n : Nat) (hn12 : nw 12 = nI n) (hn : n ≤ 8) : yk_Ci l D vwCl (yk_ty cy) yX8_where wsX8_where 3 68 [.ref ta, .int px, .int py] [(ta, .inr (8, [.ref m_now, .ref m_undone, .ref m_slots, .ref m_slotKind, .ref m_hasSlot, .ref m_sheetBits, .ref m_sheetSize, .ref m_sheets, .int (nI u), .int fi, .ref m_fresh, .long aa, .long bb, .long dd, .int (nI ro), .ref m_rootWhich, .int db, .ref m_signs, .ref m_atNought, .int (nI mn), .ref m_change, .ref m_table, .ref m_carried])), (m_now, .inl (cy 0, 29, .inl nw))] (f_X8_where nw px py n) [(ta, .inr (8, [.ref m_now, .ref m_undone, .ref m_slots, .ref m_slotKind, .ref m_hasSlot, .ref m_sheetBits, .ref m_sheetSize, .ref m_sheets, .int (nI u), .int fi, .ref m_fresh, .long aa, .long bb, .long dd, .int (nI ro), .ref m_rootWhich, .int db, .ref m_signs, .ref m_atNought, .int (nI mn), .ref m_change, .ref m_table, .ref m_carried])), (m_now, .inl (cy 0, 29, .inl nw))] := by
  refine yk_eI (cc := cX8_where) (maxL := 8) (by decide) rfl (Nat.le_of_ble_eq_true rfl) rfl ?_
  intro p e R s m args below meth c A Q ls H locs hx hb hml hown hts hRf hRl hA hK hG hP hD hS hl hQ
  have hP : va_P D vwCl [(ta, .inr (8, [.ref m_now, .ref m_undone, .ref m_slots, .ref m_slotKind, .ref m_hasSlot, .ref m_sheetBits, .ref m_sheetSize, .ref m_sheets, .int (nI u), .int fi, .ref m_fresh, .long aa, .long bb, .long dd, .int (nI ro), .ref m_rootWhich, .int db, .ref m_signs, .ref m_atNought, .int (nI mn), .ref m_change, .ref m_table, .ref m_carried])), (m_now, .inl (cy 0, 29, .inl nw))] H := hP
  have hl : lv_has ls 8 [(0, .ref ta), (1, .int px), (2, .int py)] := hl
  have hown : s.vm.findClass RX8 = some m.cls := hown
  have hF : (f_X8_where nw px py n) = (f_X8_where nw px py n) := rfl
  refine lv_iconst (v := 0) hx hb dX8_where_0 (by decide) ?_
  refine lv_istore_n (lv' := [(3, .int 0), (0, .ref ta), (1, .int px), (2, .int py)]) hx hb dX8_where_1 rfl hl (by decide) rfl (fun ls hl9 => ?_)
  replace hl := hl9
  clear hl9
  have L2 : ∀ (M9 n2 ki : Nat) (H : Heap) (locs : List Loc) (ls : Array Slot), n2 < M9 → ki + n2 = n → f_X8_where nw px py n = (l_X8_where_2 nw px py n (n2 + 1) ki) → va_P D vwCl [(ta, .inr (8, [.ref m_now, .ref m_undone, .ref m_slots, .ref m_slotKind, .ref m_hasSlot, .ref m_sheetBits, .ref m_sheetSize, .ref m_sheets, .int (nI u), .int fi, .ref m_fresh, .long aa, .long bb, .long dd, .int (nI ro), .ref m_rootWhich, .int db, .ref m_signs, .ref m_atNought, .int (nI mn), .ref m_change, .ref m_table, .ref m_carried])), (m_now, .inl (cy 0, 29, .inl nw))] H → va_D A [(ta, .inr (8, [.ref m_now, .ref m_undone, .ref m_slots, .ref m_slotKind, .ref m_hasSlot, .ref m_sheetBits, .ref m_sheetSize, .ref m_sheets, .int (nI u), .int fi, .ref m_fresh, .long aa, .long bb, .long dd, .int (nI ro), .ref m_rootWhich, .int db, .ref m_signs, .ref m_atNought, .int (nI mn), .ref m_change, .ref m_table, .ref m_carried])), (m_now, .inl (cy 0, 29, .inl nw))] → va_S A s.heap H locs → lv_has ls 8 [(0, .ref ta), (1, .int px), (2, .int py), (3, .int (nI ki))] → W p l e R s m args below meth c H locs 0 0 Q (F0 m 2 ls []) := by
    clear hP hD hS hl hF
    intro M9
    induction M9 with
    | zero => intro n2 ki _ _ _ hn; exact absurd hn (Nat.not_lt_zero _)
    | succ M9 ih2 =>
      intro n2 ki H locs ls hn2 hk2 hF hP hD hS hl
      refine lv_iload_n hx hb dX8_where_2 rfl (lv_at hl 3 rfl) ?_
      refine lv_aload_n hx hb dX8_where_3 rfl (lv_at hl 0 rfl) ?_
      refine yk_i [0, 1] (va_runV (As := []) (rest := [.int (nI ki)]) ⟨hx, hb, hml, hown, hts⟩ (c_X8_corners l D cy ta m_now m_undone m_slots m_slotKind m_hasSlot m_sheetBits m_sheetSize m_sheets m_fresh m_rootWhich m_signs m_atNought m_change m_table m_carried nw u fi aa bb dd ro db mn H.size) (cwV 0 hts gX8_where_X8_corners rfl rfl rfl hv_X8_corners (yk_room hRf hRl rfl rfl)) (yk_pv (q := (RX8, TX8, 23)) hG hA hS hK hP hD [0, 1] (by decide +kernel) rfl rfl rfl) rfl rfl hl.1 rfl (lv_room (Nat.le_of_ble_eq_true rfl)) dX8_where_4 ⟨Nat.zero_le _, Nat.zero_le _⟩) hP hD hS hA rfl (Eq.trans (b := [ta, m_now]) rfl rfl) (fun H locs hP9 hD9 hS9 => ?_)
      replace hP : va_P D vwCl [(ta, .inr (8, [.ref m_now, .ref m_undone, .ref m_slots, .ref m_slotKind, .ref m_hasSlot, .ref m_sheetBits, .ref m_sheetSize, .ref m_sheets, .int (nI u), .int fi, .ref m_fresh, .long aa, .long bb, .long dd, .int (nI ro), .ref m_rootWhich, .int db, .ref m_signs, .ref m_atNought, .int (nI mn), .ref m_change, .ref m_table, .ref m_carried])), (m_now, .inl (cy 0, 29, .inl nw))] H := hP9
      replace hD : va_D A [(ta, .inr (8, [.ref m_now, .ref m_undone, .ref m_slots, .ref m_slotKind, .ref m_hasSlot, .ref m_sheetBits, .ref m_sheetSize, .ref m_sheets, .int (nI u), .int fi, .ref m_fresh, .long aa, .long bb, .long dd, .int (nI ro), .ref m_rootWhich, .int db, .ref m_signs, .ref m_atNought, .int (nI mn), .ref m_change, .ref m_table, .ref m_carried])), (m_now, .inl (cy 0, 29, .inl nw))] := hD9
      replace hS := hS9
      clear hP9 hD9 hS9
      refine yk_ti (y := nI n) (hn12) ?_
      refine lv_icmp_ge (tgt := 28) hx hb dX8_where_7 (by decide) (fun hc1 => ?_) (fun hc1 => ?_)
      · replace hF := hF.trans (if_pos hc1)
        refine lv_iconst (v := 0) hx hb dX8_where_28 (by decide) ?_
        refine lv_istore_n (lv' := [(3, .int 0), (0, .ref ta), (1, .int px), (2, .int py)]) hx hb dX8_where_29 rfl hl (by decide) rfl (fun ls hl9 => ?_)
        replace hl := hl9
        clear hl9
        refine lv_iconst (v := 0) hx hb dX8_where_30 (by decide) ?_
        refine lv_istore (lv' := [(4, .int 0), (3, .int 0), (0, .ref ta), (1, .int px), (2, .int py)]) hx hb dX8_where_31 hl (by decide) rfl (fun ls hl9 => ?_)
        replace hl := hl9
        clear hl9
        have J21 : ∀ (H : Heap) (locs : List Loc) (ls : Array Slot), va_P D vwCl [(ta, .inr (8, [.ref m_now, .ref m_undone, .ref m_slots, .ref m_slotKind, .ref m_hasSlot, .ref m_sheetBits, .ref m_sheetSize, .ref m_sheets, .int (nI u), .int fi, .ref m_fresh, .long aa, .long bb, .long dd, .int (nI ro), .ref m_rootWhich, .int db, .ref m_signs, .ref m_atNought, .int (nI mn), .ref m_change, .ref m_table, .ref m_carried])), (m_now, .inl (cy 0, 29, .inl nw))] H → va_D A [(ta, .inr (8, [.ref m_now, .ref m_undone, .ref m_slots, .ref m_slotKind, .ref m_hasSlot, .ref m_sheetBits, .ref m_sheetSize, .ref m_sheets, .int (nI u), .int fi, .ref m_fresh, .long aa, .long bb, .long dd, .int (nI ro), .ref m_rootWhich, .int db, .ref m_signs, .ref m_atNought, .int (nI mn), .ref m_change, .ref m_table, .ref m_carried])), (m_now, .inl (cy 0, 29, .inl nw))] → va_S A s.heap H locs → lv_has ls 8 [(0, .ref ta), (1, .int px), (2, .int py), (3, .int (l_X8_where_33 nw px py n (n + 1) 0 0))] → W p l e R s m args below meth c H locs 0 0 Q (F0 m 149 ls []) := by
          clear hP hD hS hl
          intro H locs ls hP hD hS hl
          refine lv_iload_n hx hb dX8_where_149 rfl (lv_at hl 3 rfl) ?_
          have J24 : ∀ (v23 : Int32) (H : Heap) (locs : List Loc) (ls : Array Slot), v23 = (if (l_X8_where_33 nw px py n (n + 1) 0 0) = 0 then 0 else 2) → va_P D vwCl [(ta, .inr (8, [.ref m_now, .ref m_undone, .ref m_slots, .ref m_slotKind, .ref m_hasSlot, .ref m_sheetBits, .ref m_sheetSize, .ref m_sheets, .int (nI u), .int fi, .ref m_fresh, .long aa, .long bb, .long dd, .int (nI ro), .ref m_rootWhich, .int db, .ref m_signs, .ref m_atNought, .int (nI mn), .ref m_change, .ref m_table, .ref m_carried])), (m_now, .inl (cy 0, 29, .inl nw))] H → va_D A [(ta, .inr (8, [.ref m_now, .ref m_undone, .ref m_slots, .ref m_slotKind, .ref m_hasSlot, .ref m_sheetBits, .ref m_sheetSize, .ref m_sheets, .int (nI u), .int fi, .ref m_fresh, .long aa, .long bb, .long dd, .int (nI ro), .ref m_rootWhich, .int db, .ref m_signs, .ref m_atNought, .int (nI mn), .ref m_change, .ref m_table, .ref m_carried])), (m_now, .inl (cy 0, 29, .inl nw))] → va_S A s.heap H locs → lv_has ls 8 [(0, .ref ta), (1, .int px), (2, .int py), (3, .int (l_X8_where_33 nw px py n (n + 1) 0 0))] → W p l e R s m args below meth c H locs 0 0 Q (F0 m 158 ls [.int v23]) := by
            clear hP hD hS hl
            intro v23 H locs ls ev23
            rw [ev23]
            clear ev23
            intro hP hD hS hl
            have hF : f_X8_where nw px py n = (if (l_X8_where_33 nw px py n (n + 1) 0 0) = 0 then 0 else 2) := hF
            rw [hF] at hQ
            exact hQ _ _ _ _ dX8_where_158 hP hS
          refine lv_if_eq (tgt := 157) hx hb dX8_where_150 (by decide) (fun hc22 => ?_) (fun hc22 => ?_)
          · refine lv_iconst (v := 0) hx hb dX8_where_157 (by decide) ?_
            exact J24 _ _ _ _ ((if_pos hc22).symm) hP hD hS (lv_sub hl [0, 1, 2, 3] rfl)
          · refine lv_iconst (v := 2) hx hb dX8_where_153 (by decide) ?_
            refine lv_goto (tgt := 158) hx hb dX8_where_154 (by decide) ?_
            exact J24 _ _ _ _ ((if_neg hc22).symm) hP hD hS (lv_sub hl [0, 1, 2, 3] rfl)
        have L33 : ∀ (M9 n33 kj : Nat) (z3_33 : Int32) (H : Heap) (locs : List Loc) (ls : Array Slot), n33 < M9 → kj + n33 = n → (l_X8_where_33 nw px py n (n + 1) 0 0) = (l_X8_where_33 nw px py n (n33 + 1) kj z3_33) → va_P D vwCl [(ta, .inr (8, [.ref m_now, .ref m_undone, .ref m_slots, .ref m_slotKind, .ref m_hasSlot, .ref m_sheetBits, .ref m_sheetSize, .ref m_sheets, .int (nI u), .int fi, .ref m_fresh, .long aa, .long bb, .long dd, .int (nI ro), .ref m_rootWhich, .int db, .ref m_signs, .ref m_atNought, .int (nI mn), .ref m_change, .ref m_table, .ref m_carried])), (m_now, .inl (cy 0, 29, .inl nw))] H → va_D A [(ta, .inr (8, [.ref m_now, .ref m_undone, .ref m_slots, .ref m_slotKind, .ref m_hasSlot, .ref m_sheetBits, .ref m_sheetSize, .ref m_sheets, .int (nI u), .int fi, .ref m_fresh, .long aa, .long bb, .long dd, .int (nI ro), .ref m_rootWhich, .int db, .ref m_signs, .ref m_atNought, .int (nI mn), .ref m_change, .ref m_table, .ref m_carried])), (m_now, .inl (cy 0, 29, .inl nw))] → va_S A s.heap H locs → lv_has ls 8 [(0, .ref ta), (1, .int px), (2, .int py), (3, .int z3_33), (4, .int (nI kj))] → W p l e R s m args below meth c H locs 0 0 Q (F0 m 33 ls []) := by
          clear hP hD hS hl
          intro M9
          induction M9 with
          | zero => intro n33 kj _ _ _ _ hn; exact absurd hn (Nat.not_lt_zero _)
          | succ M9 ih33 =>
            intro n33 kj z3_33 H locs ls hn33 hk33 hV33 hP hD hS hl
            refine lv_iload hx hb dX8_where_33 (lv_at hl 4 rfl) ?_
            refine lv_aload_n hx hb dX8_where_35 rfl (lv_at hl 0 rfl) ?_
            refine yk_i [0, 1] (va_runV (As := []) (rest := [.int (nI kj)]) ⟨hx, hb, hml, hown, hts⟩ (c_X8_corners l D cy ta m_now m_undone m_slots m_slotKind m_hasSlot m_sheetBits m_sheetSize m_sheets m_fresh m_rootWhich m_signs m_atNought m_change m_table m_carried nw u fi aa bb dd ro db mn H.size) (cwV 0 hts gX8_where_X8_corners rfl rfl rfl hv_X8_corners (yk_room hRf hRl rfl rfl)) (yk_pv (q := (RX8, TX8, 23)) hG hA hS hK hP hD [0, 1] (by decide +kernel) rfl rfl rfl) rfl rfl hl.1 rfl (lv_room (Nat.le_of_ble_eq_true rfl)) dX8_where_36 ⟨Nat.zero_le _, Nat.zero_le _⟩) hP hD hS hA rfl (Eq.trans (b := [ta, m_now]) rfl rfl) (fun H locs hP9 hD9 hS9 => ?_)
            replace hP : va_P D vwCl [(ta, .inr (8, [.ref m_now, .ref m_undone, .ref m_slots, .ref m_slotKind, .ref m_hasSlot, .ref m_sheetBits, .ref m_sheetSize, .ref m_sheets, .int (nI u), .int fi, .ref m_fresh, .long aa, .long bb, .long dd, .int (nI ro), .ref m_rootWhich, .int db, .ref m_signs, .ref m_atNought, .int (nI mn), .ref m_change, .ref m_table, .ref m_carried])), (m_now, .inl (cy 0, 29, .inl nw))] H := hP9
            replace hD : va_D A [(ta, .inr (8, [.ref m_now, .ref m_undone, .ref m_slots, .ref m_slotKind, .ref m_hasSlot, .ref m_sheetBits, .ref m_sheetSize, .ref m_sheets, .int (nI u), .int fi, .ref m_fresh, .long aa, .long bb, .long dd, .int (nI ro), .ref m_rootWhich, .int db, .ref m_signs, .ref m_atNought, .int (nI mn), .ref m_change, .ref m_table, .ref m_carried])), (m_now, .inl (cy 0, 29, .inl nw))] := hD9
            replace hS := hS9
            clear hP9 hD9 hS9
            refine yk_ti (y := nI n) (hn12) ?_
            refine lv_icmp_ge (tgt := 149) hx hb dX8_where_39 (by decide) (fun hc2 => ?_) (fun hc2 => ?_)
            · replace hV33 := hV33.trans (if_pos hc2)
              have hV33 : (l_X8_where_33 nw px py n (n + 1) 0 0) = z3_33 := hV33
              have J21 := J21
              rw [hV33] at J21
              exact J21 _ _ _ hP hD hS (lv_sub hl [0, 1, 2, 3] rfl)
            · replace hV33 := hV33.trans (if_neg hc2)
              have hlt33 : kj < n := yk_lt hk33 (by omega) hc2
              refine lv_aload_n hx hb dX8_where_42 rfl (lv_at hl 0 rfl) ?_
              refine lv_iload hx hb dX8_where_43 (lv_at hl 4 rfl) ?_
              refine yk_i [0, 1] (va_runV (As := [.int (nI kj)]) (rest := []) ⟨hx, hb, hml, hown, hts⟩ (c_X8_yOf l D cy ta m_now m_undone m_slots m_slotKind m_hasSlot m_sheetBits m_sheetSize m_sheets m_fresh m_rootWhich m_signs m_atNought m_change m_table m_carried nw u fi aa bb dd ro db mn kj n hn12 hn (by omega) (by omega) H.size) (cwV 1 hts gX8_where_X8_yOf rfl rfl rfl hv_X8_yOf (yk_room hRf hRl rfl rfl)) (yk_pv (q := (RX8, TX8, 23)) hG hA hS hK hP hD [0, 1] (by decide +kernel) rfl rfl rfl) rfl rfl hl.1 rfl (lv_room (Nat.le_of_ble_eq_true rfl)) dX8_where_45 ⟨Nat.zero_le _, Nat.zero_le _⟩) hP hD hS hA rfl (Eq.trans (b := [ta, m_now]) rfl rfl) (fun H locs hP9 hD9 hS9 => ?_)
              replace hP : va_P D vwCl [(ta, .inr (8, [.ref m_now, .ref m_undone, .ref m_slots, .ref m_slotKind, .ref m_hasSlot, .ref m_sheetBits, .ref m_sheetSize, .ref m_sheets, .int (nI u), .int fi, .ref m_fresh, .long aa, .long bb, .long dd, .int (nI ro), .ref m_rootWhich, .int db, .ref m_signs, .ref m_atNought, .int (nI mn), .ref m_change, .ref m_table, .ref m_carried])), (m_now, .inl (cy 0, 29, .inl nw))] H := hP9
              replace hD : va_D A [(ta, .inr (8, [.ref m_now, .ref m_undone, .ref m_slots, .ref m_slotKind, .ref m_hasSlot, .ref m_sheetBits, .ref m_sheetSize, .ref m_sheets, .int (nI u), .int fi, .ref m_fresh, .long aa, .long bb, .long dd, .int (nI ro), .ref m_rootWhich, .int db, .ref m_signs, .ref m_atNought, .int (nI mn), .ref m_change, .ref m_table, .ref m_carried])), (m_now, .inl (cy 0, 29, .inl nw))] := hD9
              replace hS := hS9
              clear hP9 hD9 hS9
              refine lv_istore (lv' := [(5, .int (f_X8_yOf nw kj n)), (0, .ref ta), (1, .int px), (2, .int py), (3, .int z3_33), (4, .int (nI kj))]) hx hb dX8_where_48 hl (by decide) rfl (fun ls hl9 => ?_)
              replace hl := hl9
              clear hl9
              refine lv_aload_n hx hb dX8_where_50 rfl (lv_at hl 1 rfl) ?_
              refine lv_iload hx hb dX8_where_51 (lv_at hl 5 rfl) ?_
              refine lv_iconst (v := 1) hx hb dX8_where_53 (by decide) ?_
              refine lv_iadd hx hb dX8_where_54 ?_
              refine yk_ti (y := nI (kj + 1)) (nI_add kj 1) ?_
              refine yk_i [0, 1] (va_runV (As := [.int (nI (kj + 1))]) (rest := []) ⟨hx, hb, hml, hown, hts⟩ (c_X8_yOf l D cy ta m_now m_undone m_slots m_slotKind m_hasSlot m_sheetBits m_sheetSize m_sheets m_fresh m_rootWhich m_signs m_atNought m_change m_table m_carried nw u fi aa bb dd ro db mn (kj + 1) n hn12 hn (by omega) (by omega) H.size) (cwV 1 hts gX8_where_X8_yOf rfl rfl rfl hv_X8_yOf (yk_room hRf hRl rfl rfl)) (yk_pv (q := (RX8, TX8, 23)) hG hA hS hK hP hD [0, 1] (by decide +kernel) rfl rfl rfl) rfl rfl hl.1 rfl (lv_room (Nat.le_of_ble_eq_true rfl)) dX8_where_55 ⟨Nat.zero_le _, Nat.zero_le _⟩) hP hD hS hA rfl (Eq.trans (b := [ta, m_now]) rfl rfl) (fun H locs hP9 hD9 hS9 => ?_)
              replace hP : va_P D vwCl [(ta, .inr (8, [.ref m_now, .ref m_undone, .ref m_slots, .ref m_slotKind, .ref m_hasSlot, .ref m_sheetBits, .ref m_sheetSize, .ref m_sheets, .int (nI u), .int fi, .ref m_fresh, .long aa, .long bb, .long dd, .int (nI ro), .ref m_rootWhich, .int db, .ref m_signs, .ref m_atNought, .int (nI mn), .ref m_change, .ref m_table, .ref m_carried])), (m_now, .inl (cy 0, 29, .inl nw))] H := hP9
              replace hD : va_D A [(ta, .inr (8, [.ref m_now, .ref m_undone, .ref m_slots, .ref m_slotKind, .ref m_hasSlot, .ref m_sheetBits, .ref m_sheetSize, .ref m_sheets, .int (nI u), .int fi, .ref m_fresh, .long aa, .long bb, .long dd, .int (nI ro), .ref m_rootWhich, .int db, .ref m_signs, .ref m_atNought, .int (nI mn), .ref m_change, .ref m_table, .ref m_carried])), (m_now, .inl (cy 0, 29, .inl nw))] := hD9
              replace hS := hS9
              clear hP9 hD9 hS9
              refine lv_istore (lv' := [(6, .int (f_X8_yOf nw (kj + 1) n)), (5, .int (f_X8_yOf nw kj n)), (0, .ref ta), (1, .int px), (2, .int py), (3, .int z3_33), (4, .int (nI kj))]) hx hb dX8_where_58 hl (by decide) rfl (fun ls hl9 => ?_)
              replace hl := hl9
              clear hl9
              refine lv_iload hx hb dX8_where_60 (lv_at hl 1 rfl) ?_
              refine lv_iload_n hx hb dX8_where_62 rfl (lv_at hl 4 rfl) ?_
              have J5 : ∀ (v4 : Int32) (H : Heap) (locs : List Loc) (ls : Array Slot), v4 = (if (f_X8_yOf nw kj n) ≤ py then 0 else 1) → va_P D vwCl [(ta, .inr (8, [.ref m_now, .ref m_undone, .ref m_slots, .ref m_slotKind, .ref m_hasSlot, .ref m_sheetBits, .ref m_sheetSize, .ref m_sheets, .int (nI u), .int fi, .ref m_fresh, .long aa, .long bb, .long dd, .int (nI ro), .ref m_rootWhich, .int db, .ref m_signs, .ref m_atNought, .int (nI mn), .ref m_change, .ref m_table, .ref m_carried])), (m_now, .inl (cy 0, 29, .inl nw))] H → va_D A [(ta, .inr (8, [.ref m_now, .ref m_undone, .ref m_slots, .ref m_slotKind, .ref m_hasSlot, .ref m_sheetBits, .ref m_sheetSize, .ref m_sheets, .int (nI u), .int fi, .ref m_fresh, .long aa, .long bb, .long dd, .int (nI ro), .ref m_rootWhich, .int db, .ref m_signs, .ref m_atNought, .int (nI mn), .ref m_change, .ref m_table, .ref m_carried])), (m_now, .inl (cy 0, 29, .inl nw))] → va_S A s.heap H locs → lv_has ls 8 [(0, .ref ta), (1, .int px), (2, .int py), (3, .int z3_33), (4, .int (nI kj)), (5, .int (f_X8_yOf nw kj n)), (6, .int (f_X8_yOf nw (kj + 1) n))] → W p l e R s m args below meth c H locs 0 0 Q (F0 m 71 ls [.int v4]) := by
                clear hP hD hS hl
                intro v4 H locs ls ev4
                rw [ev4]
                clear ev4
                intro hP hD hS hl
                refine lv_iload hx hb dX8_where_71 (lv_at hl 6 rfl) ?_
                refine lv_iload_n hx hb dX8_where_73 rfl (lv_at hl 2 rfl) ?_
                have J8 : ∀ (v7 : Int32) (H : Heap) (locs : List Loc) (ls : Array Slot), v7 = (if (f_X8_yOf nw (kj + 1) n) ≤ py then 0 else 1) → va_P D vwCl [(ta, .inr (8, [.ref m_now, .ref m_undone, .ref m_slots, .ref m_slotKind, .ref m_hasSlot, .ref m_sheetBits, .ref m_sheetSize, .ref m_sheets, .int (nI u), .int fi, .ref m_fresh, .long aa, .long bb, .long dd, .int (nI ro), .ref m_rootWhich, .int db, .ref m_signs, .ref m_atNought, .int (nI mn), .ref m_change, .ref m_table, .ref m_carried])), (m_now, .inl (cy 0, 29, .inl nw))] H → va_D A [(ta, .inr (8, [.ref m_now, .ref m_undone, .ref m_slots, .ref m_slotKind, .ref m_hasSlot, .ref m_sheetBits, .ref m_sheetSize, .ref m_sheets, .int (nI u), .int fi, .ref m_fresh, .long aa, .long bb, .long dd, .int (nI ro), .ref m_rootWhich, .int db, .ref m_signs, .ref m_atNought, .int (nI mn), .ref m_change, .ref m_table, .ref m_carried])), (m_now, .inl (cy 0, 29, .inl nw))] → va_S A s.heap H locs → lv_has ls 8 [(0, .ref ta), (1, .int px), (2, .int py), (3, .int z3_33), (4, .int (nI kj)), (5, .int (f_X8_yOf nw kj n)), (6, .int (f_X8_yOf nw (kj + 1) n))] → W p l e R s m args below meth c H locs 0 0 Q (F0 m 82 ls [.int v7, .int (if (f_X8_yOf nw kj n) ≤ py then 0 else 1)]) := by
                  clear hP hD hS hl
                  intro v7 H locs ls ev7
                  rw [ev7]
                  clear ev7
                  intro hP hD hS hl
                  have J20 : ∀ (v19 : Int32) (H : Heap) (locs : List Loc) (ls : Array Slot), v19 = (if ((if (f_X8_yOf nw kj n) ≤ py then 0 else 1) : Int32) = (if (f_X8_yOf nw (kj + 1) n) ≤ py then 0 else 1) then z3_33 else (if (f_X8_yOf nw (kj + 1) n) ≤ (f_X8_yOf nw kj n) then (if 0 ≤ (f_X8_turn (f_X8_xOf nw kj n) (f_X8_yOf nw kj n) (f_X8_xOf nw (kj + 1) n) (f_X8_yOf nw (kj + 1) n) px py) then z3_33 else (if z3_33 = 0 then 1 else 0)) else (if (f_X8_turn (f_X8_xOf nw kj n) (f_X8_yOf nw kj n) (f_X8_xOf nw (kj + 1) n) (f_X8_yOf nw (kj + 1) n) px py) ≤ 0 then z3_33 else (if z3_33 = 0 then 1 else 0)))) → va_P D vwCl [(ta, .inr (8, [.ref m_now, .ref m_undone, .ref m_slots, .ref m_slotKind, .ref m_hasSlot, .ref m_sheetBits, .ref m_sheetSize, .ref m_sheets, .int (nI u), .int fi, .ref m_fresh, .long aa, .long bb, .long dd, .int (nI ro), .ref m_rootWhich, .int db, .ref m_signs, .ref m_atNought, .int (nI mn), .ref m_change, .ref m_table, .ref m_carried])), (m_now, .inl (cy 0, 29, .inl nw))] H → va_D A [(ta, .inr (8, [.ref m_now, .ref m_undone, .ref m_slots, .ref m_slotKind, .ref m_hasSlot, .ref m_sheetBits, .ref m_sheetSize, .ref m_sheets, .int (nI u), .int fi, .ref m_fresh, .long aa, .long bb, .long dd, .int (nI ro), .ref m_rootWhich, .int db, .ref m_signs, .ref m_atNought, .int (nI mn), .ref m_change, .ref m_table, .ref m_carried])), (m_now, .inl (cy 0, 29, .inl nw))] → va_S A s.heap H locs → lv_has ls 8 [(0, .ref ta), (1, .int px), (2, .int py), (3, .int v19), (4, .int (nI kj)), (5, .int (f_X8_yOf nw kj n)), (6, .int (f_X8_yOf nw (kj + 1) n))] → W p l e R s m args below meth c H locs 0 0 Q (F0 m 143 ls []) := by
                    clear hP hD hS hl
                    intro v19 H locs ls ev19
                    rw [ev19]
                    clear ev19
                    intro hP hD hS hl
                    refine lv_iinc (v := nI (kj + 1)) (lv' := [(4, .int (nI (kj + 1))), (0, .ref ta), (1, .int px), (2, .int py), (3, .int (if ((if (f_X8_yOf nw kj n) ≤ py then 0 else 1) : Int32) = (if (f_X8_yOf nw (kj + 1) n) ≤ py then 0 else 1) then z3_33 else (if (f_X8_yOf nw (kj + 1) n) ≤ (f_X8_yOf nw kj n) then (if 0 ≤ (f_X8_turn (f_X8_xOf nw kj n) (f_X8_yOf nw kj n) (f_X8_xOf nw (kj + 1) n) (f_X8_yOf nw (kj + 1) n) px py) then z3_33 else (if z3_33 = 0 then 1 else 0)) else (if (f_X8_turn (f_X8_xOf nw kj n) (f_X8_yOf nw kj n) (f_X8_xOf nw (kj + 1) n) (f_X8_yOf nw (kj + 1) n) px py) ≤ 0 then z3_33 else (if z3_33 = 0 then 1 else 0))))), (5, .int (f_X8_yOf nw kj n)), (6, .int (f_X8_yOf nw (kj + 1) n))]) hx hb dX8_where_143 hl (k := 4) rfl (yk_inc kj) (by decide) rfl (fun ls hl9 => ?_)
                    replace hl := hl9
                    clear hl9
                    refine lv_goto (tgt := 33) hx hb dX8_where_146 (by decide) ?_
                    obtain ⟨n9, rfl⟩ : ∃ n9, n33 = n9 + 1 := ⟨n33 - 1, by omega⟩
                    exact ih33 n9 (kj + 1) (if ((if (f_X8_yOf nw kj n) ≤ py then 0 else 1) : Int32) = (if (f_X8_yOf nw (kj + 1) n) ≤ py then 0 else 1) then z3_33 else (if (f_X8_yOf nw (kj + 1) n) ≤ (f_X8_yOf nw kj n) then (if 0 ≤ (f_X8_turn (f_X8_xOf nw kj n) (f_X8_yOf nw kj n) (f_X8_xOf nw (kj + 1) n) (f_X8_yOf nw (kj + 1) n) px py) then z3_33 else (if z3_33 = 0 then 1 else 0)) else (if (f_X8_turn (f_X8_xOf nw kj n) (f_X8_yOf nw kj n) (f_X8_xOf nw (kj + 1) n) (f_X8_yOf nw (kj + 1) n) px py) ≤ 0 then z3_33 else (if z3_33 = 0 then 1 else 0)))) _ _ _ (by omega) (by omega)  hV33 hP hD hS (lv_sub hl [1, 2, 3, 4, 0] rfl)
                  refine lv_icmp_ne (tgt := 88) hx hb dX8_where_82 (by decide) (fun hc9 => ?_) (fun hc9 => ?_)
                  · refine lv_aload_n hx hb dX8_where_88 rfl (lv_at hl 0 rfl) ?_
                    refine lv_iload hx hb dX8_where_89 (lv_at hl 4 rfl) ?_
                    refine yk_i [0, 1] (va_runV (As := [.int (nI kj)]) (rest := []) ⟨hx, hb, hml, hown, hts⟩ (c_X8_xOf l D cy ta m_now m_undone m_slots m_slotKind m_hasSlot m_sheetBits m_sheetSize m_sheets m_fresh m_rootWhich m_signs m_atNought m_change m_table m_carried nw u fi aa bb dd ro db mn kj n hn12 hn (by omega) (by omega) H.size) (cwV 1 hts gX8_where_X8_xOf rfl rfl rfl hv_X8_xOf (yk_room hRf hRl rfl rfl)) (yk_pv (q := (RX8, TX8, 23)) hG hA hS hK hP hD [0, 1] (by decide +kernel) rfl rfl rfl) rfl rfl hl.1 rfl (lv_room (Nat.le_of_ble_eq_true rfl)) dX8_where_91 ⟨Nat.zero_le _, Nat.zero_le _⟩) hP hD hS hA rfl (Eq.trans (b := [ta, m_now]) rfl rfl) (fun H locs hP9 hD9 hS9 => ?_)
                    replace hP : va_P D vwCl [(ta, .inr (8, [.ref m_now, .ref m_undone, .ref m_slots, .ref m_slotKind, .ref m_hasSlot, .ref m_sheetBits, .ref m_sheetSize, .ref m_sheets, .int (nI u), .int fi, .ref m_fresh, .long aa, .long bb, .long dd, .int (nI ro), .ref m_rootWhich, .int db, .ref m_signs, .ref m_atNought, .int (nI mn), .ref m_change, .ref m_table, .ref m_carried])), (m_now, .inl (cy 0, 29, .inl nw))] H := hP9
                    replace hD : va_D A [(ta, .inr (8, [.ref m_now, .ref m_undone, .ref m_slots, .ref m_slotKind, .ref m_hasSlot, .ref m_sheetBits, .ref m_sheetSize, .ref m_sheets, .int (nI u), .int fi, .ref m_fresh, .long aa, .long bb, .long dd, .int (nI ro), .ref m_rootWhich, .int db, .ref m_signs, .ref m_atNought, .int (nI mn), .ref m_change, .ref m_table, .ref m_carried])), (m_now, .inl (cy 0, 29, .inl nw))] := hD9
                    replace hS := hS9
                    clear hP9 hD9 hS9
                    refine lv_iload hx hb dX8_where_94 (lv_at hl 5 rfl) ?_
                    refine lv_aload_n hx hb dX8_where_96 rfl (lv_at hl 0 rfl) ?_
                    refine lv_iload hx hb dX8_where_97 (lv_at hl 4 rfl) ?_
                    refine lv_iconst (v := 1) hx hb dX8_where_99 (by decide) ?_
                    refine lv_iadd hx hb dX8_where_100 ?_
                    refine yk_ti (y := nI (kj + 1)) (nI_add kj 1) ?_
                    refine yk_i [0, 1] (va_runV (As := [.int (nI (kj + 1))]) (rest := [.int (f_X8_yOf nw kj n), .int (f_X8_xOf nw kj n)]) ⟨hx, hb, hml, hown, hts⟩ (c_X8_xOf l D cy ta m_now m_undone m_slots m_slotKind m_hasSlot m_sheetBits m_sheetSize m_sheets m_fresh m_rootWhich m_signs m_atNought m_change m_table m_carried nw u fi aa bb dd ro db mn (kj + 1) n hn12 hn (by omega) (by omega) H.size) (cwV 1 hts gX8_where_X8_xOf rfl rfl rfl hv_X8_xOf (yk_room hRf hRl rfl rfl)) (yk_pv (q := (RX8, TX8, 23)) hG hA hS hK hP hD [0, 1] (by decide +kernel) rfl rfl rfl) rfl rfl hl.1 rfl (lv_room (Nat.le_of_ble_eq_true rfl)) dX8_where_101 ⟨Nat.zero_le _, Nat.zero_le _⟩) hP hD hS hA rfl (Eq.trans (b := [ta, m_now]) rfl rfl) (fun H locs hP9 hD9 hS9 => ?_)
                    replace hP : va_P D vwCl [(ta, .inr (8, [.ref m_now, .ref m_undone, .ref m_slots, .ref m_slotKind, .ref m_hasSlot, .ref m_sheetBits, .ref m_sheetSize, .ref m_sheets, .int (nI u), .int fi, .ref m_fresh, .long aa, .long bb, .long dd, .int (nI ro), .ref m_rootWhich, .int db, .ref m_signs, .ref m_atNought, .int (nI mn), .ref m_change, .ref m_table, .ref m_carried])), (m_now, .inl (cy 0, 29, .inl nw))] H := hP9
                    replace hD : va_D A [(ta, .inr (8, [.ref m_now, .ref m_undone, .ref m_slots, .ref m_slotKind, .ref m_hasSlot, .ref m_sheetBits, .ref m_sheetSize, .ref m_sheets, .int (nI u), .int fi, .ref m_fresh, .long aa, .long bb, .long dd, .int (nI ro), .ref m_rootWhich, .int db, .ref m_signs, .ref m_atNought, .int (nI mn), .ref m_change, .ref m_table, .ref m_carried])), (m_now, .inl (cy 0, 29, .inl nw))] := hD9
                    replace hS := hS9
                    clear hP9 hD9 hS9
                    refine lv_iload hx hb dX8_where_104 (lv_at hl 6 rfl) ?_
                    refine lv_iload_n hx hb dX8_where_106 rfl (lv_at hl 1 rfl) ?_
                    refine lv_iload_n hx hb dX8_where_107 rfl (lv_at hl 2 rfl) ?_
                    refine yk_i [] (va_runS (As := [.int (f_X8_xOf nw kj n), .int (f_X8_yOf nw kj n), .int (f_X8_xOf nw (kj + 1) n), .int (f_X8_yOf nw (kj + 1) n), .int px, .int py]) (rest := []) ⟨hx, hb, hml, hown, hts⟩ (c_X8_turn l D cy (f_X8_xOf nw kj n) (f_X8_yOf nw kj n) (f_X8_xOf nw (kj + 1) n) (f_X8_yOf nw (kj + 1) n) px py H.size) (va_cwS 6 hts gX8_where_X8_turn rfl rfl rfl hs_X8_turn (yk_room hRf hRl rfl rfl)) (yk_ps hG hA hS hK hP hD [] (by decide +kernel) rfl) rfl rfl hl.1 rfl (lv_room (Nat.le_of_ble_eq_true rfl)) dX8_where_108 ⟨Nat.zero_le _, Nat.zero_le _⟩) hP hD hS hA rfl rfl (fun H locs hP9 hD9 hS9 => ?_)
                    replace hP : va_P D vwCl [(ta, .inr (8, [.ref m_now, .ref m_undone, .ref m_slots, .ref m_slotKind, .ref m_hasSlot, .ref m_sheetBits, .ref m_sheetSize, .ref m_sheets, .int (nI u), .int fi, .ref m_fresh, .long aa, .long bb, .long dd, .int (nI ro), .ref m_rootWhich, .int db, .ref m_signs, .ref m_atNought, .int (nI mn), .ref m_change, .ref m_table, .ref m_carried])), (m_now, .inl (cy 0, 29, .inl nw))] H := hP9
                    replace hD : va_D A [(ta, .inr (8, [.ref m_now, .ref m_undone, .ref m_slots, .ref m_slotKind, .ref m_hasSlot, .ref m_sheetBits, .ref m_sheetSize, .ref m_sheets, .int (nI u), .int fi, .ref m_fresh, .long aa, .long bb, .long dd, .int (nI ro), .ref m_rootWhich, .int db, .ref m_signs, .ref m_atNought, .int (nI mn), .ref m_change, .ref m_table, .ref m_carried])), (m_now, .inl (cy 0, 29, .inl nw))] := hD9
                    replace hS := hS9
                    clear hP9 hD9 hS9
                    refine lv_istore (lv' := [(7, .int (f_X8_turn (f_X8_xOf nw kj n) (f_X8_yOf nw kj n) (f_X8_xOf nw (kj + 1) n) (f_X8_yOf nw (kj + 1) n) px py)), (0, .ref ta), (1, .int px), (2, .int py), (3, .int z3_33), (4, .int (nI kj)), (5, .int (f_X8_yOf nw kj n)), (6, .int (f_X8_yOf nw (kj + 1) n))]) hx hb dX8_where_111 hl (by decide) rfl (fun ls hl9 => ?_)
                    replace hl := hl9
                    clear hl9
                    refine lv_iload hx hb dX8_where_113 (lv_at hl 7 rfl) ?_
                    refine lv_iload hx hb dX8_where_115 (lv_at hl 6 rfl) ?_
                    refine lv_icmp_le (tgt := 128) hx hb dX8_where_117 (by decide) (fun hc10 => ?_) (fun hc10 => ?_)
                    · refine lv_iload hx hb dX8_where_128 (lv_at hl 0 rfl) ?_
                      refine lv_if_ge (tgt := 143) hx hb dX8_where_130 (by decide) (fun hc11 => ?_) (fun hc11 => ?_)
                      · exact J20 _ _ _ _ (((if_neg hc9).trans ((if_pos hc10).trans (if_pos hc11))).symm) hP hD hS (lv_sub hl [1, 2, 3, 4, 5, 6, 7] rfl)
                      · refine lv_iload_n hx hb dX8_where_133 rfl (lv_at hl 4 rfl) ?_
                        have J14 : ∀ (v13 : Int32) (H : Heap) (locs : List Loc) (ls : Array Slot), v13 = (if z3_33 = 0 then 1 else 0) → va_P D vwCl [(ta, .inr (8, [.ref m_now, .ref m_undone, .ref m_slots, .ref m_slotKind, .ref m_hasSlot, .ref m_sheetBits, .ref m_sheetSize, .ref m_sheets, .int (nI u), .int fi, .ref m_fresh, .long aa, .long bb, .long dd, .int (nI ro), .ref m_rootWhich, .int db, .ref m_signs, .ref m_atNought, .int (nI mn), .ref m_change, .ref m_table, .ref m_carried])), (m_now, .inl (cy 0, 29, .inl nw))] H → va_D A [(ta, .inr (8, [.ref m_now, .ref m_undone, .ref m_slots, .ref m_slotKind, .ref m_hasSlot, .ref m_sheetBits, .ref m_sheetSize, .ref m_sheets, .int (nI u), .int fi, .ref m_fresh, .long aa, .long bb, .long dd, .int (nI ro), .ref m_rootWhich, .int db, .ref m_signs, .ref m_atNought, .int (nI mn), .ref m_change, .ref m_table, .ref m_carried])), (m_now, .inl (cy 0, 29, .inl nw))] → va_S A s.heap H locs → lv_has ls 8 [(0, .ref ta), (1, .int px), (2, .int py), (3, .int z3_33), (4, .int (nI kj)), (5, .int (f_X8_yOf nw kj n)), (6, .int (f_X8_yOf nw (kj + 1) n)), (7, .int (f_X8_turn (f_X8_xOf nw kj n) (f_X8_yOf nw kj n) (f_X8_xOf nw (kj + 1) n) (f_X8_yOf nw (kj + 1) n) px py))] → W p l e R s m args below meth c H locs 0 0 Q (F0 m 142 ls [.int v13]) := by
                          clear hP hD hS hl
                          intro v13 H locs ls ev13
                          rw [ev13]
                          clear ev13
                          intro hP hD hS hl
                          refine lv_istore_n (lv' := [(3, .int (if z3_33 = 0 then 1 else 0)), (0, .ref ta), (1, .int px), (2, .int py), (4, .int (nI kj)), (5, .int (f_X8_yOf nw kj n)), (6, .int (f_X8_yOf nw (kj + 1) n)), (7, .int (f_X8_turn (f_X8_xOf nw kj n) (f_X8_yOf nw kj n) (f_X8_xOf nw (kj + 1) n) (f_X8_yOf nw (kj + 1) n) px py))]) hx hb dX8_where_142 rfl hl (by decide) rfl (fun ls hl9 => ?_)
                          replace hl := hl9
                          clear hl9
                          exact J20 _ _ _ _ (((if_neg hc9).trans ((if_pos hc10).trans (if_neg hc11))).symm) hP hD hS (lv_sub hl [1, 2, 3, 0, 4, 5, 6] rfl)
                        refine lv_if_ne (tgt := 141) hx hb dX8_where_134 (by decide) (fun hc12 => ?_) (fun hc12 => ?_)
                        · refine lv_iconst (v := 0) hx hb dX8_where_141 (by decide) ?_
                          exact J14 _ _ _ _ ((if_neg hc12).symm) hP hD hS (lv_sub hl [1, 2, 3, 4, 5, 6, 7, 0] rfl)
                        · refine lv_iconst (v := 1) hx hb dX8_where_137 (by decide) ?_
                          refine lv_goto (tgt := 142) hx hb dX8_where_138 (by decide) ?_
                          exact J14 _ _ _ _ ((if_pos hc12).symm) hP hD hS (lv_sub hl [1, 2, 3, 4, 5, 6, 7, 0] rfl)
                    · refine lv_iload hx hb dX8_where_120 (lv_at hl 0 rfl) ?_
                      refine lv_if_le (tgt := 143) hx hb dX8_where_122 (by decide) (fun hc15 => ?_) (fun hc15 => ?_)
                      · exact J20 _ _ _ _ (((if_neg hc9).trans ((if_neg hc10).trans (if_pos hc15))).symm) hP hD hS (lv_sub hl [1, 2, 3, 4, 5, 6, 7] rfl)
                      · refine lv_goto (tgt := 133) hx hb dX8_where_125 (by decide) ?_
                        refine lv_iload_n hx hb dX8_where_133 rfl (lv_at hl 4 rfl) ?_
                        have J18 : ∀ (v17 : Int32) (H : Heap) (locs : List Loc) (ls : Array Slot), v17 = (if z3_33 = 0 then 1 else 0) → va_P D vwCl [(ta, .inr (8, [.ref m_now, .ref m_undone, .ref m_slots, .ref m_slotKind, .ref m_hasSlot, .ref m_sheetBits, .ref m_sheetSize, .ref m_sheets, .int (nI u), .int fi, .ref m_fresh, .long aa, .long bb, .long dd, .int (nI ro), .ref m_rootWhich, .int db, .ref m_signs, .ref m_atNought, .int (nI mn), .ref m_change, .ref m_table, .ref m_carried])), (m_now, .inl (cy 0, 29, .inl nw))] H → va_D A [(ta, .inr (8, [.ref m_now, .ref m_undone, .ref m_slots, .ref m_slotKind, .ref m_hasSlot, .ref m_sheetBits, .ref m_sheetSize, .ref m_sheets, .int (nI u), .int fi, .ref m_fresh, .long aa, .long bb, .long dd, .int (nI ro), .ref m_rootWhich, .int db, .ref m_signs, .ref m_atNought, .int (nI mn), .ref m_change, .ref m_table, .ref m_carried])), (m_now, .inl (cy 0, 29, .inl nw))] → va_S A s.heap H locs → lv_has ls 8 [(0, .ref ta), (1, .int px), (2, .int py), (3, .int z3_33), (4, .int (nI kj)), (5, .int (f_X8_yOf nw kj n)), (6, .int (f_X8_yOf nw (kj + 1) n)), (7, .int (f_X8_turn (f_X8_xOf nw kj n) (f_X8_yOf nw kj n) (f_X8_xOf nw (kj + 1) n) (f_X8_yOf nw (kj + 1) n) px py))] → W p l e R s m args below meth c H locs 0 0 Q (F0 m 142 ls [.int v17]) := by
                          clear hP hD hS hl
                          intro v17 H locs ls ev17
                          rw [ev17]
                          clear ev17
                          intro hP hD hS hl
                          refine lv_istore_n (lv' := [(3, .int (if z3_33 = 0 then 1 else 0)), (0, .ref ta), (1, .int px), (2, .int py), (4, .int (nI kj)), (5, .int (f_X8_yOf nw kj n)), (6, .int (f_X8_yOf nw (kj + 1) n)), (7, .int (f_X8_turn (f_X8_xOf nw kj n) (f_X8_yOf nw kj n) (f_X8_xOf nw (kj + 1) n) (f_X8_yOf nw (kj + 1) n) px py))]) hx hb dX8_where_142 rfl hl (by decide) rfl (fun ls hl9 => ?_)
                          replace hl := hl9
                          clear hl9
                          exact J20 _ _ _ _ (((if_neg hc9).trans ((if_neg hc10).trans (if_neg hc15))).symm) hP hD hS (lv_sub hl [1, 2, 3, 0, 4, 5, 6] rfl)
                        refine lv_if_ne (tgt := 141) hx hb dX8_where_134 (by decide) (fun hc16 => ?_) (fun hc16 => ?_)
                        · refine lv_iconst (v := 0) hx hb dX8_where_141 (by decide) ?_
                          exact J18 _ _ _ _ ((if_neg hc16).symm) hP hD hS (lv_sub hl [1, 2, 3, 4, 5, 6, 7, 0] rfl)
                        · refine lv_iconst (v := 1) hx hb dX8_where_137 (by decide) ?_
                          refine lv_goto (tgt := 142) hx hb dX8_where_138 (by decide) ?_
                          exact J18 _ _ _ _ ((if_pos hc16).symm) hP hD hS (lv_sub hl [1, 2, 3, 4, 5, 6, 7, 0] rfl)
                  · refine lv_goto (tgt := 143) hx hb dX8_where_85 (by decide) ?_
                    exact J20 _ _ _ _ ((if_pos hc9).symm) hP hD hS (lv_sub hl [0, 1, 2, 3, 4, 5, 6] rfl)
                refine lv_icmp_le (tgt := 81) hx hb dX8_where_74 (by decide) (fun hc6 => ?_) (fun hc6 => ?_)
                · refine lv_iconst (v := 0) hx hb dX8_where_81 (by decide) ?_
                  exact J8 _ _ _ _ ((if_pos hc6).symm) hP hD hS (lv_sub hl [0, 1, 2, 3, 4, 5, 6] rfl)
                · refine lv_iconst (v := 1) hx hb dX8_where_77 (by decide) ?_
                  refine lv_goto (tgt := 82) hx hb dX8_where_78 (by decide) ?_
                  exact J8 _ _ _ _ ((if_neg hc6).symm) hP hD hS (lv_sub hl [0, 1, 2, 3, 4, 5, 6] rfl)
              refine lv_icmp_le (tgt := 70) hx hb dX8_where_63 (by decide) (fun hc3 => ?_) (fun hc3 => ?_)
              · refine lv_iconst (v := 0) hx hb dX8_where_70 (by decide) ?_
                exact J5 _ _ _ _ ((if_pos hc3).symm) hP hD hS (lv_sub hl [2, 3, 4, 5, 6, 1, 0] rfl)
              · refine lv_iconst (v := 1) hx hb dX8_where_66 (by decide) ?_
                refine lv_goto (tgt := 71) hx hb dX8_where_67 (by decide) ?_
                exact J5 _ _ _ _ ((if_neg hc3).symm) hP hD hS (lv_sub hl [2, 3, 4, 5, 6, 1, 0] rfl)
        exact L33 (n + 1) n 0 0 _ _ _ (Nat.lt_succ_self _) (by omega)  rfl hP hD hS (lv_sub hl [2, 3, 4, 1, 0] rfl)
      · replace hF := hF.trans (if_neg hc1)
        have hlt2 : ki < n := yk_lt hk2 (by omega) hc1
        refine lv_aload_n hx hb dX8_where_10 rfl (lv_at hl 0 rfl) ?_
        refine lv_iload_n hx hb dX8_where_11 rfl (lv_at hl 3 rfl) ?_
        refine lv_iload_n hx hb dX8_where_12 rfl (lv_at hl 1 rfl) ?_
        refine lv_iload_n hx hb dX8_where_13 rfl (lv_at hl 2 rfl) ?_
        refine yk_i [0, 1] (va_runV (As := [.int (nI ki), .int px, .int py]) (rest := []) ⟨hx, hb, hml, hown, hts⟩ (c_X8_isOn l D cy ta m_now m_undone m_slots m_slotKind m_hasSlot m_sheetBits m_sheetSize m_sheets m_fresh m_rootWhich m_signs m_atNought m_change m_table m_carried nw u fi aa bb dd ro db mn ki px py n hn12 hn (by omega) (by omega) H.size) (cwV 3 hts gX8_where_X8_isOn rfl rfl rfl hv_X8_isOn (yk_room hRf hRl rfl rfl)) (yk_pv (q := (RX8, TX8, 23)) hG hA hS hK hP hD [0, 1] (by decide +kernel) rfl rfl rfl) rfl rfl hl.1 rfl (lv_room (Nat.le_of_ble_eq_true rfl)) dX8_where_14 ⟨Nat.zero_le _, Nat.zero_le _⟩) hP hD hS hA rfl (Eq.trans (b := [ta, m_now]) rfl rfl) (fun H locs hP9 hD9 hS9 => ?_)
        replace hP : va_P D vwCl [(ta, .inr (8, [.ref m_now, .ref m_undone, .ref m_slots, .ref m_slotKind, .ref m_hasSlot, .ref m_sheetBits, .ref m_sheetSize, .ref m_sheets, .int (nI u), .int fi, .ref m_fresh, .long aa, .long bb, .long dd, .int (nI ro), .ref m_rootWhich, .int db, .ref m_signs, .ref m_atNought, .int (nI mn), .ref m_change, .ref m_table, .ref m_carried])), (m_now, .inl (cy 0, 29, .inl nw))] H := hP9
        replace hD : va_D A [(ta, .inr (8, [.ref m_now, .ref m_undone, .ref m_slots, .ref m_slotKind, .ref m_hasSlot, .ref m_sheetBits, .ref m_sheetSize, .ref m_sheets, .int (nI u), .int fi, .ref m_fresh, .long aa, .long bb, .long dd, .int (nI ro), .ref m_rootWhich, .int db, .ref m_signs, .ref m_atNought, .int (nI mn), .ref m_change, .ref m_table, .ref m_carried])), (m_now, .inl (cy 0, 29, .inl nw))] := hD9
        replace hS := hS9
        clear hP9 hD9 hS9
        refine lv_if_eq (tgt := 22) hx hb dX8_where_17 (by decide) (fun hc25 => ?_) (fun hc25 => ?_)
        · replace hF := hF.trans (if_pos hc25)
          refine lv_iinc (v := nI (ki + 1)) (lv' := [(3, .int (nI (ki + 1))), (0, .ref ta), (1, .int px), (2, .int py)]) hx hb dX8_where_22 hl (k := 3) rfl (yk_inc ki) (by decide) rfl (fun ls hl9 => ?_)
          replace hl := hl9
          clear hl9
          refine lv_goto (tgt := 2) hx hb dX8_where_25 (by decide) ?_
          obtain ⟨n9, rfl⟩ : ∃ n9, n2 = n9 + 1 := ⟨n2 - 1, by omega⟩
          exact ih2 n9 (ki + 1) _ _ _ (by omega) (by omega)  hF hP hD hS (lv_sub hl [1, 2, 3, 0] rfl)
        · replace hF := hF.trans (if_neg hc25)
          refine lv_iconst (v := 1) hx hb dX8_where_20 (by decide) ?_
          have hF : f_X8_where nw px py n = 1 := hF
          rw [hF] at hQ
          exact hQ _ _ _ _ dX8_where_21 hP hS
  exact L2 (n + 1) n 0  _ _ _ (Nat.lt_succ_self _) (by omega)  hF hP hD hS (lv_sub hl [1, 2, 3, 0] rfl)
