theorem hv_X8_xIn : yX8_xIn.cls = RX8 ∧ yX8_xIn.cls ≠ "java/lang/invoke/MethodHandle" ∧ yX8_xIn.cls ≠ "java/lang/invoke/VarHandle" ∧ (parseMethodDescriptor yX8_xIn.desc).map (fun d => d.parameters.length) = some 1 := by decide +kernel
theorem hs_X8_xIn : yX8_xIn.cls ≠ "java/lang/invoke/MethodHandle" ∧ yX8_xIn.cls ≠ "java/lang/invoke/VarHandle" ∧ (parseMethodDescriptor yX8_xIn.desc).map (fun d => d.parameters.length) = some 1 := by decide +kernel
theorem hv_X8_yIn : yX8_yIn.cls = RX8 ∧ yX8_yIn.cls ≠ "java/lang/invoke/MethodHandle" ∧ yX8_yIn.cls ≠ "java/lang/invoke/VarHandle" ∧ (parseMethodDescriptor yX8_yIn.desc).map (fun d => d.parameters.length) = some 1 := by decide +kernel
theorem hs_X8_yIn : yX8_yIn.cls ≠ "java/lang/invoke/MethodHandle" ∧ yX8_yIn.cls ≠ "java/lang/invoke/VarHandle" ∧ (parseMethodDescriptor yX8_yIn.desc).map (fun d => d.parameters.length) = some 1 := by decide +kernel
theorem hv_X8_place : yX8_place.cls = RX8 ∧ yX8_place.cls ≠ "java/lang/invoke/MethodHandle" ∧ yX8_place.cls ≠ "java/lang/invoke/VarHandle" ∧ (parseMethodDescriptor yX8_place.desc).map (fun d => d.parameters.length) = some 2 := by decide +kernel
theorem hs_X8_place : yX8_place.cls ≠ "java/lang/invoke/MethodHandle" ∧ yX8_place.cls ≠ "java/lang/invoke/VarHandle" ∧ (parseMethodDescriptor yX8_place.desc).map (fun d => d.parameters.length) = some 2 := by decide +kernel
theorem hv_X8_areSmall : yX8_areSmall.cls = RX8 ∧ yX8_areSmall.cls ≠ "java/lang/invoke/MethodHandle" ∧ yX8_areSmall.cls ≠ "java/lang/invoke/VarHandle" ∧ (parseMethodDescriptor yX8_areSmall.desc).map (fun d => d.parameters.length) = some 5 := by decide +kernel
theorem hs_X8_areSmall : yX8_areSmall.cls ≠ "java/lang/invoke/MethodHandle" ∧ yX8_areSmall.cls ≠ "java/lang/invoke/VarHandle" ∧ (parseMethodDescriptor yX8_areSmall.desc).map (fun d => d.parameters.length) = some 5 := by decide +kernel
theorem hv_X8_changes : yX8_changes.cls = RX8 ∧ yX8_changes.cls ≠ "java/lang/invoke/MethodHandle" ∧ yX8_changes.cls ≠ "java/lang/invoke/VarHandle" ∧ (parseMethodDescriptor yX8_changes.desc).map (fun d => d.parameters.length) = some 5 := by decide +kernel
theorem hs_X8_changes : yX8_changes.cls ≠ "java/lang/invoke/MethodHandle" ∧ yX8_changes.cls ≠ "java/lang/invoke/VarHandle" ∧ (parseMethodDescriptor yX8_changes.desc).map (fun d => d.parameters.length) = some 5 := by decide +kernel
theorem kX8_indexes_0 : Cond.constant RX8 100 (-1000006) ∈ wsX8_indexes := by decide +kernel
theorem kX8_indexes_1 : Cond.constant RX8 138 (-1000004) ∈ wsX8_indexes := by decide +kernel
def l_X8_indexes_28 (nw : Nat → Int32) (fi : Int32) (n : Nat) (ki : Nat) (z1_19 : Int32) (kc : Nat → Int32 → Int32 × Int32) : Nat → Nat → Int32 → Int32 × Int32
  | 0, kj, z1_28 => (0, fi)
  | fu_X8_indexes_28 + 1, kj, z1_28 => (if 6 < (nI kj - 6) then (kc (ki + 1) z1_28) else (if (f_X8_isRest nw (nI ki - 6) (nI kj - 6)) = 0 then (l_X8_indexes_28 nw fi n ki z1_19 kc fu_X8_indexes_28 (kj + 1) z1_28) else (if (f_X8_where nw (nI ki - 6) (nI kj - 6) n) = 2 then (if (f_X8_sortAt nw (nI ki - 6) (nI kj - 6)) = 5 then (((f_X8_found fi (-1000006)).1), ((f_X8_found fi (-1000006)).2)) else (l_X8_indexes_28 nw fi n ki z1_19 kc fu_X8_indexes_28 (kj + 1) (z1_28 + (if (f_X8_sortAt nw (nI ki - 6) (nI kj - 6)) = 1 then (-1) else 1)))) else (l_X8_indexes_28 nw fi n ki z1_19 kc fu_X8_indexes_28 (kj + 1) z1_28))))
def l_X8_indexes_19 (nw : Nat → Int32) (fi : Int32) (n : Nat) : Nat → Nat → Int32 → Int32 × Int32
  | 0, ki, z1_19 => (0, fi)
  | fu_X8_indexes_19 + 1, ki, z1_19 => (if 6 < (nI ki - 6) then (z1_19, fi) else (l_X8_indexes_28 nw fi n ki z1_19 (fun ki' z1_19' => l_X8_indexes_19 nw fi n fu_X8_indexes_19 (ki') (z1_19')) (13 + 1) 0 z1_19))
def f_X8_indexes (nw : Nat → Int32) (fi : Int32) (n : Nat) : Int32 × Int32 := (if (f_X8_isSimple nw n) = 0 then (((f_X8_found fi (-1000004)).1), ((f_X8_found fi (-1000004)).2)) else (l_X8_indexes_19 nw fi n (13 + 1) 0 0))
set_option maxHeartbeats 400000000 in
set_option maxRecDepth 100000 in
theorem c_X8_indexes (l : Launch) (D : va_G) (cy : Nat → ClassId) (ta : Nat) (m_now : Nat) (m_undone : Nat) (m_slots : Nat) (m_slotKind : Nat) (m_hasSlot : Nat) (m_sheetBits : Nat) (m_sheetSize : Nat) (m_sheets : Nat) (m_fresh : Nat) (m_rootWhich : Nat) (m_signs : Nat) (m_atNought : Nat) (m_change : Nat) (m_table : Nat) (m_carried : Nat) (nw : Nat → Int32) (u : Nat) (fi : Int32) (aa : Int64) (bb : Int64) (dd : Int64) (ro : Nat) (db : Int32) (mn : Nat) (n : Nat) (hn12 : nw 12 = nI n) (hn : n ≤ 8) : yk_Ci l D vwCl (yk_ty cy) yX8_indexes wsX8_indexes 5 118 [.ref ta] [(ta, .inr (8, [.ref m_now, .ref m_undone, .ref m_slots, .ref m_slotKind, .ref m_hasSlot, .ref m_sheetBits, .ref m_sheetSize, .ref m_sheets, .int (nI u), .int fi, .ref m_fresh, .long aa, .long bb, .long dd, .int (nI ro), .ref m_rootWhich, .int db, .ref m_signs, .ref m_atNought, .int (nI mn), .ref m_change, .ref m_table, .ref m_carried])), (m_now, .inl (cy 0, 29, .inl nw))] ((f_X8_indexes nw fi n).1) [(ta, .inr (8, [.ref m_now, .ref m_undone, .ref m_slots, .ref m_slotKind, .ref m_hasSlot, .ref m_sheetBits, .ref m_sheetSize, .ref m_sheets, .int (nI u), .int ((f_X8_indexes nw fi n).2), .ref m_fresh, .long aa, .long bb, .long dd, .int (nI ro), .ref m_rootWhich, .int db, .ref m_signs, .ref m_atNought, .int (nI mn), .ref m_change, .ref m_table, .ref m_carried])), (m_now, .inl (cy 0, 29, .inl nw))] := by
  refine yk_eI (cc := cX8_indexes) (maxL := 5) (by decide) rfl (Nat.le_of_ble_eq_true rfl) rfl ?_
  intro p e R s m args below meth c A Q ls H locs hx hb hml hown hts hRf hRl hA hK hG hP hD hS hl hQ
  have hP : va_P D vwCl [(ta, .inr (8, [.ref m_now, .ref m_undone, .ref m_slots, .ref m_slotKind, .ref m_hasSlot, .ref m_sheetBits, .ref m_sheetSize, .ref m_sheets, .int (nI u), .int fi, .ref m_fresh, .long aa, .long bb, .long dd, .int (nI ro), .ref m_rootWhich, .int db, .ref m_signs, .ref m_atNought, .int (nI mn), .ref m_change, .ref m_table, .ref m_carried])), (m_now, .inl (cy 0, 29, .inl nw))] H := hP
  have hl : lv_has ls 5 [(0, .ref ta)] := hl
  have hown : s.vm.findClass RX8 = some m.cls := hown
  have hF : (f_X8_indexes nw fi n) = (f_X8_indexes nw fi n) := rfl
  refine lv_aload_n hx hb dX8_indexes_0 rfl (lv_at hl 0 rfl) ?_
  refine yk_i [0, 1] (va_runV (As := []) (rest := []) ⟨hx, hb, hml, hown, hts⟩ (c_X8_isSimple l D cy ta m_now m_undone m_slots m_slotKind m_hasSlot m_sheetBits m_sheetSize m_sheets m_fresh m_rootWhich m_signs m_atNought m_change m_table m_carried nw u fi aa bb dd ro db mn n hn12 hn H.size) (cwV 0 hts gX8_indexes_X8_isSimple rfl rfl rfl hv_X8_isSimple (yk_room hRf hRl rfl rfl)) (yk_pv (q := (RX8, TX8, 23)) hG hA hS hK hP hD [0, 1] (by decide +kernel) rfl rfl rfl) rfl rfl hl.1 rfl (lv_room (Nat.le_of_ble_eq_true rfl)) dX8_indexes_1 ⟨Nat.zero_le _, Nat.zero_le _⟩) hP hD hS hA rfl (Eq.trans (b := [ta, m_now]) rfl rfl) (fun H locs hP9 hD9 hS9 => ?_)
  replace hP : va_P D vwCl [(ta, .inr (8, [.ref m_now, .ref m_undone, .ref m_slots, .ref m_slotKind, .ref m_hasSlot, .ref m_sheetBits, .ref m_sheetSize, .ref m_sheets, .int (nI u), .int fi, .ref m_fresh, .long aa, .long bb, .long dd, .int (nI ro), .ref m_rootWhich, .int db, .ref m_signs, .ref m_atNought, .int (nI mn), .ref m_change, .ref m_table, .ref m_carried])), (m_now, .inl (cy 0, 29, .inl nw))] H := hP9
  replace hD : va_D A [(ta, .inr (8, [.ref m_now, .ref m_undone, .ref m_slots, .ref m_slotKind, .ref m_hasSlot, .ref m_sheetBits, .ref m_sheetSize, .ref m_sheets, .int (nI u), .int fi, .ref m_fresh, .long aa, .long bb, .long dd, .int (nI ro), .ref m_rootWhich, .int db, .ref m_signs, .ref m_atNought, .int (nI mn), .ref m_change, .ref m_table, .ref m_carried])), (m_now, .inl (cy 0, 29, .inl nw))] := hD9
  replace hS := hS9
  clear hP9 hD9 hS9
  refine lv_if_ne (tgt := 14) hx hb dX8_indexes_4 (by decide) (fun hc1 => ?_) (fun hc1 => ?_)
  · replace hF := hF.trans (if_neg hc1)
    refine lv_iconst (v := 0) hx hb dX8_indexes_14 (by decide) ?_
    refine lv_istore_n (lv' := [(1, .int 0), (0, .ref ta)]) hx hb dX8_indexes_15 rfl hl (by decide) rfl (fun ls hl9 => ?_)
    replace hl := hl9
    clear hl9
    refine lv_bipush (v := (-6)) hx hb dX8_indexes_16 (by decide) ?_
    refine lv_istore_n (lv' := [(2, .int (-6)), (1, .int 0), (0, .ref ta)]) hx hb dX8_indexes_18 rfl hl (by decide) rfl (fun ls hl9 => ?_)
    replace hl := hl9
    clear hl9
    have L19 : ∀ (M9 n19 ki : Nat) (z1_19 : Int32) (H : Heap) (locs : List Loc) (ls : Array Slot), n19 < M9 → ki + n19 = 13 → f_X8_indexes nw fi n = (l_X8_indexes_19 nw fi n (n19 + 1) ki z1_19) → va_P D vwCl [(ta, .inr (8, [.ref m_now, .ref m_undone, .ref m_slots, .ref m_slotKind, .ref m_hasSlot, .ref m_sheetBits, .ref m_sheetSize, .ref m_sheets, .int (nI u), .int fi, .ref m_fresh, .long aa, .long bb, .long dd, .int (nI ro), .ref m_rootWhich, .int db, .ref m_signs, .ref m_atNought, .int (nI mn), .ref m_change, .ref m_table, .ref m_carried])), (m_now, .inl (cy 0, 29, .inl nw))] H → va_D A [(ta, .inr (8, [.ref m_now, .ref m_undone, .ref m_slots, .ref m_slotKind, .ref m_hasSlot, .ref m_sheetBits, .ref m_sheetSize, .ref m_sheets, .int (nI u), .int fi, .ref m_fresh, .long aa, .long bb, .long dd, .int (nI ro), .ref m_rootWhich, .int db, .ref m_signs, .ref m_atNought, .int (nI mn), .ref m_change, .ref m_table, .ref m_carried])), (m_now, .inl (cy 0, 29, .inl nw))] → va_S A s.heap H locs → lv_has ls 5 [(0, .ref ta), (1, .int z1_19), (2, .int (nI ki - 6))] → W p l e R s m args below meth c H locs 0 0 Q (F0 m 19 ls []) := by
      clear hP hD hS hl hF
      intro M9
      induction M9 with
      | zero => intro n19 ki _ _ _ _ hn; exact absurd hn (Nat.not_lt_zero _)
      | succ M9 ih19 =>
        intro n19 ki z1_19 H locs ls hn19 hk19 hF hP hD hS hl
        refine lv_iload_n hx hb dX8_indexes_19 rfl (lv_at hl 2 rfl) ?_
        refine lv_bipush (v := 6) hx hb dX8_indexes_20 (by decide) ?_
        refine lv_icmp_gt (tgt := 103) hx hb dX8_indexes_22 (by decide) (fun hc2 => ?_) (fun hc2 => ?_)
        · replace hF := hF.trans (if_pos hc2)
          refine lv_iload_n hx hb dX8_indexes_103 rfl (lv_at hl 1 rfl) ?_
          have hF : f_X8_indexes nw fi n = (z1_19, fi) := hF
          have hf0 := yk_fst hF
          have hg0 := yk_snd hF
          rw [hf0, hg0] at hQ
          exact hQ _ _ _ _ dX8_indexes_104 hP hS
        · replace hF := hF.trans (if_neg hc2)
          have hlt19 : ki < 13 := yk_lt6 hk19 hc2
          refine lv_bipush (v := (-6)) hx hb dX8_indexes_25 (by decide) ?_
          refine lv_istore_n (lv' := [(3, .int (-6)), (0, .ref ta), (1, .int z1_19), (2, .int (nI ki - 6))]) hx hb dX8_indexes_27 rfl hl (by decide) rfl (fun ls hl9 => ?_)
          replace hl := hl9
          clear hl9
          have L28 : ∀ (M9 n28 kj : Nat) (z1_28 : Int32) (H : Heap) (locs : List Loc) (ls : Array Slot), n28 < M9 → kj + n28 = 13 → f_X8_indexes nw fi n = (l_X8_indexes_28 nw fi n ki z1_19 (fun ki' z1_19' => l_X8_indexes_19 nw fi n n19 ki' z1_19') (n28 + 1) kj z1_28) → va_P D vwCl [(ta, .inr (8, [.ref m_now, .ref m_undone, .ref m_slots, .ref m_slotKind, .ref m_hasSlot, .ref m_sheetBits, .ref m_sheetSize, .ref m_sheets, .int (nI u), .int fi, .ref m_fresh, .long aa, .long bb, .long dd, .int (nI ro), .ref m_rootWhich, .int db, .ref m_signs, .ref m_atNought, .int (nI mn), .ref m_change, .ref m_table, .ref m_carried])), (m_now, .inl (cy 0, 29, .inl nw))] H → va_D A [(ta, .inr (8, [.ref m_now, .ref m_undone, .ref m_slots, .ref m_slotKind, .ref m_hasSlot, .ref m_sheetBits, .ref m_sheetSize, .ref m_sheets, .int (nI u), .int fi, .ref m_fresh, .long aa, .long bb, .long dd, .int (nI ro), .ref m_rootWhich, .int db, .ref m_signs, .ref m_atNought, .int (nI mn), .ref m_change, .ref m_table, .ref m_carried])), (m_now, .inl (cy 0, 29, .inl nw))] → va_S A s.heap H locs → lv_has ls 5 [(0, .ref ta), (1, .int z1_28), (2, .int (nI ki - 6)), (3, .int (nI kj - 6))] → W p l e R s m args below meth c H locs 0 0 Q (F0 m 28 ls []) := by
            clear hP hD hS hl hF
            intro M9
            induction M9 with
            | zero => intro n28 kj _ _ _ _ hn; exact absurd hn (Nat.not_lt_zero _)
            | succ M9 ih28 =>
              intro n28 kj z1_28 H locs ls hn28 hk28 hF hP hD hS hl
              refine lv_iload_n hx hb dX8_indexes_28 rfl (lv_at hl 3 rfl) ?_
              refine lv_bipush (v := 6) hx hb dX8_indexes_29 (by decide) ?_
              refine lv_icmp_gt (tgt := 97) hx hb dX8_indexes_31 (by decide) (fun hc3 => ?_) (fun hc3 => ?_)
              · replace hF := hF.trans (if_pos hc3)
                refine lv_iinc (v := ((nI ki - 6) + 1)) (lv' := [(2, .int ((nI ki - 6) + 1)), (0, .ref ta), (1, .int z1_28), (3, .int (nI kj - 6))]) hx hb dX8_indexes_97 hl (k := 2) rfl (yk_incg _) (by decide) rfl (fun ls hl9 => ?_)
                replace hl := hl9
                clear hl9
                refine lv_goto (tgt := 19) hx hb dX8_indexes_100 (by decide) ?_
                obtain ⟨n9, rfl⟩ : ∃ n9, n19 = n9 + 1 := ⟨n19 - 1, by omega⟩
                rw [yk_off ki 6] at hl
                exact ih19 n9 (ki + 1) z1_28 _ _ _ (by omega) (by omega)  hF hP hD hS (lv_sub hl [1, 2, 0] rfl)
              · replace hF := hF.trans (if_neg hc3)
                have hlt28 : kj < 13 := yk_lt6 hk28 hc3
                refine lv_aload_n hx hb dX8_indexes_34 rfl (lv_at hl 0 rfl) ?_
                refine lv_iload_n hx hb dX8_indexes_35 rfl (lv_at hl 2 rfl) ?_
                refine lv_iload_n hx hb dX8_indexes_36 rfl (lv_at hl 3 rfl) ?_
                refine yk_i [0, 1] (va_runV (As := [.int (nI ki - 6), .int (nI kj - 6)]) (rest := []) ⟨hx, hb, hml, hown, hts⟩ (c_X8_isRest l D cy ta m_now m_undone m_slots m_slotKind m_hasSlot m_sheetBits m_sheetSize m_sheets m_fresh m_rootWhich m_signs m_atNought m_change m_table m_carried nw u fi aa bb dd ro db mn (nI ki - 6) (nI kj - 6) H.size) (cwV 2 hts gX8_indexes_X8_isRest rfl rfl rfl hv_X8_isRest (yk_room hRf hRl rfl rfl)) (yk_pv (q := (RX8, TX8, 23)) hG hA hS hK hP hD [0, 1] (by decide +kernel) rfl rfl rfl) rfl rfl hl.1 rfl (lv_room (Nat.le_of_ble_eq_true rfl)) dX8_indexes_37 ⟨Nat.zero_le _, Nat.zero_le _⟩) hP hD hS hA rfl (Eq.trans (b := [ta, m_now]) rfl rfl) (fun H locs hP9 hD9 hS9 => ?_)
                replace hP : va_P D vwCl [(ta, .inr (8, [.ref m_now, .ref m_undone, .ref m_slots, .ref m_slotKind, .ref m_hasSlot, .ref m_sheetBits, .ref m_sheetSize, .ref m_sheets, .int (nI u), .int fi, .ref m_fresh, .long aa, .long bb, .long dd, .int (nI ro), .ref m_rootWhich, .int db, .ref m_signs, .ref m_atNought, .int (nI mn), .ref m_change, .ref m_table, .ref m_carried])), (m_now, .inl (cy 0, 29, .inl nw))] H := hP9
                replace hD : va_D A [(ta, .inr (8, [.ref m_now, .ref m_undone, .ref m_slots, .ref m_slotKind, .ref m_hasSlot, .ref m_sheetBits, .ref m_sheetSize, .ref m_sheets, .int (nI u), .int fi, .ref m_fresh, .long aa, .long bb, .long dd, .int (nI ro), .ref m_rootWhich, .int db, .ref m_signs, .ref m_atNought, .int (nI mn), .ref m_change, .ref m_table, .ref m_carried])), (m_now, .inl (cy 0, 29, .inl nw))] := hD9
                replace hS := hS9
                clear hP9 hD9 hS9
                refine lv_if_eq (tgt := 91) hx hb dX8_indexes_40 (by decide) (fun hc4 => ?_) (fun hc4 => ?_)
                · replace hF := hF.trans (if_pos hc4)
                  refine lv_iinc (v := ((nI kj - 6) + 1)) (lv' := [(3, .int ((nI kj - 6) + 1)), (0, .ref ta), (1, .int z1_28), (2, .int (nI ki - 6))]) hx hb dX8_indexes_91 hl (k := 3) rfl (yk_incg _) (by decide) rfl (fun ls hl9 => ?_)
                  replace hl := hl9
                  clear hl9
                  refine lv_goto (tgt := 28) hx hb dX8_indexes_94 (by decide) ?_
                  obtain ⟨n9, rfl⟩ : ∃ n9, n28 = n9 + 1 := ⟨n28 - 1, by omega⟩
                  rw [yk_off kj 6] at hl
                  exact ih28 n9 (kj + 1) z1_28 _ _ _ (by omega) (by omega)  hF hP hD hS (lv_sub hl [1, 2, 3, 0] rfl)
                · replace hF := hF.trans (if_neg hc4)
                  refine lv_aload_n hx hb dX8_indexes_43 rfl (lv_at hl 0 rfl) ?_
                  refine lv_iload_n hx hb dX8_indexes_44 rfl (lv_at hl 2 rfl) ?_
                  refine lv_iload_n hx hb dX8_indexes_45 rfl (lv_at hl 3 rfl) ?_
                  refine yk_i [0, 1] (va_runV (As := [.int (nI ki - 6), .int (nI kj - 6)]) (rest := []) ⟨hx, hb, hml, hown, hts⟩ (c_X8_where l D cy ta m_now m_undone m_slots m_slotKind m_hasSlot m_sheetBits m_sheetSize m_sheets m_fresh m_rootWhich m_signs m_atNought m_change m_table m_carried nw u fi aa bb dd ro db mn (nI ki - 6) (nI kj - 6) n hn12 hn H.size) (cwV 2 hts gX8_indexes_X8_where rfl rfl rfl hv_X8_where (yk_room hRf hRl rfl rfl)) (yk_pv (q := (RX8, TX8, 23)) hG hA hS hK hP hD [0, 1] (by decide +kernel) rfl rfl rfl) rfl rfl hl.1 rfl (lv_room (Nat.le_of_ble_eq_true rfl)) dX8_indexes_46 ⟨Nat.zero_le _, Nat.zero_le _⟩) hP hD hS hA rfl (Eq.trans (b := [ta, m_now]) rfl rfl) (fun H locs hP9 hD9 hS9 => ?_)
                  replace hP : va_P D vwCl [(ta, .inr (8, [.ref m_now, .ref m_undone, .ref m_slots, .ref m_slotKind, .ref m_hasSlot, .ref m_sheetBits, .ref m_sheetSize, .ref m_sheets, .int (nI u), .int fi, .ref m_fresh, .long aa, .long bb, .long dd, .int (nI ro), .ref m_rootWhich, .int db, .ref m_signs, .ref m_atNought, .int (nI mn), .ref m_change, .ref m_table, .ref m_carried])), (m_now, .inl (cy 0, 29, .inl nw))] H := hP9
                  replace hD : va_D A [(ta, .inr (8, [.ref m_now, .ref m_undone, .ref m_slots, .ref m_slotKind, .ref m_hasSlot, .ref m_sheetBits, .ref m_sheetSize, .ref m_sheets, .int (nI u), .int fi, .ref m_fresh, .long aa, .long bb, .long dd, .int (nI ro), .ref m_rootWhich, .int db, .ref m_signs, .ref m_atNought, .int (nI mn), .ref m_change, .ref m_table, .ref m_carried])), (m_now, .inl (cy 0, 29, .inl nw))] := hD9
                  replace hS := hS9
                  clear hP9 hD9 hS9
                  refine lv_iconst (v := 2) hx hb dX8_indexes_49 (by decide) ?_
                  refine lv_icmp_eq (tgt := 56) hx hb dX8_indexes_50 (by decide) (fun hc5 => ?_) (fun hc5 => ?_)
                  · replace hF := hF.trans (if_pos hc5)
                    refine lv_aload_n hx hb dX8_indexes_56 rfl (lv_at hl 0 rfl) ?_
                    refine lv_iload_n hx hb dX8_indexes_57 rfl (lv_at hl 2 rfl) ?_
                    refine lv_iload_n hx hb dX8_indexes_58 rfl (lv_at hl 3 rfl) ?_
                    refine yk_i [0, 1] (va_runV (As := [.int (nI ki - 6), .int (nI kj - 6)]) (rest := []) ⟨hx, hb, hml, hown, hts⟩ (c_X8_sortAt l D cy ta m_now m_undone m_slots m_slotKind m_hasSlot m_sheetBits m_sheetSize m_sheets m_fresh m_rootWhich m_signs m_atNought m_change m_table m_carried nw u fi aa bb dd ro db mn (nI ki - 6) (nI kj - 6) H.size) (cwV 2 hts gX8_indexes_X8_sortAt rfl rfl rfl hv_X8_sortAt (yk_room hRf hRl rfl rfl)) (yk_pv (q := (RX8, TX8, 23)) hG hA hS hK hP hD [0, 1] (by decide +kernel) rfl rfl rfl) rfl rfl hl.1 rfl (lv_room (Nat.le_of_ble_eq_true rfl)) dX8_indexes_59 ⟨Nat.zero_le _, Nat.zero_le _⟩) hP hD hS hA rfl (Eq.trans (b := [ta, m_now]) rfl rfl) (fun H locs hP9 hD9 hS9 => ?_)
                    replace hP : va_P D vwCl [(ta, .inr (8, [.ref m_now, .ref m_undone, .ref m_slots, .ref m_slotKind, .ref m_hasSlot, .ref m_sheetBits, .ref m_sheetSize, .ref m_sheets, .int (nI u), .int fi, .ref m_fresh, .long aa, .long bb, .long dd, .int (nI ro), .ref m_rootWhich, .int db, .ref m_signs, .ref m_atNought, .int (nI mn), .ref m_change, .ref m_table, .ref m_carried])), (m_now, .inl (cy 0, 29, .inl nw))] H := hP9
                    replace hD : va_D A [(ta, .inr (8, [.ref m_now, .ref m_undone, .ref m_slots, .ref m_slotKind, .ref m_hasSlot, .ref m_sheetBits, .ref m_sheetSize, .ref m_sheets, .int (nI u), .int fi, .ref m_fresh, .long aa, .long bb, .long dd, .int (nI ro), .ref m_rootWhich, .int db, .ref m_signs, .ref m_atNought, .int (nI mn), .ref m_change, .ref m_table, .ref m_carried])), (m_now, .inl (cy 0, 29, .inl nw))] := hD9
                    replace hS := hS9
                    clear hP9 hD9 hS9
                    refine lv_istore (lv' := [(4, .int (f_X8_sortAt nw (nI ki - 6) (nI kj - 6))), (0, .ref ta), (1, .int z1_28), (2, .int (nI ki - 6)), (3, .int (nI kj - 6))]) hx hb dX8_indexes_62 hl (by decide) rfl (fun ls hl9 => ?_)
                    replace hl := hl9
                    clear hl9
                    refine lv_iload hx hb dX8_indexes_64 (lv_at hl 0 rfl) ?_
                    refine lv_iconst (v := 5) hx hb dX8_indexes_66 (by decide) ?_
                    refine lv_icmp_ne (tgt := 77) hx hb dX8_indexes_67 (by decide) (fun hc6 => ?_) (fun hc6 => ?_)
                    · replace hF := hF.trans (if_neg hc6)
                      refine lv_iload_n hx hb dX8_indexes_77 rfl (lv_at hl 2 rfl) ?_
                      refine lv_iload hx hb dX8_indexes_78 (lv_at hl 0 rfl) ?_
                      refine lv_iconst (v := 1) hx hb dX8_indexes_80 (by decide) ?_
                      have J9 : ∀ (v8 : Int32) (H : Heap) (locs : List Loc) (ls : Array Slot), v8 = (if (f_X8_sortAt nw (nI ki - 6) (nI kj - 6)) = 1 then (-1) else 1) → va_P D vwCl [(ta, .inr (8, [.ref m_now, .ref m_undone, .ref m_slots, .ref m_slotKind, .ref m_hasSlot, .ref m_sheetBits, .ref m_sheetSize, .ref m_sheets, .int (nI u), .int fi, .ref m_fresh, .long aa, .long bb, .long dd, .int (nI ro), .ref m_rootWhich, .int db, .ref m_signs, .ref m_atNought, .int (nI mn), .ref m_change, .ref m_table, .ref m_carried])), (m_now, .inl (cy 0, 29, .inl nw))] H → va_D A [(ta, .inr (8, [.ref m_now, .ref m_undone, .ref m_slots, .ref m_slotKind, .ref m_hasSlot, .ref m_sheetBits, .ref m_sheetSize, .ref m_sheets, .int (nI u), .int fi, .ref m_fresh, .long aa, .long bb, .long dd, .int (nI ro), .ref m_rootWhich, .int db, .ref m_signs, .ref m_atNought, .int (nI mn), .ref m_change, .ref m_table, .ref m_carried])), (m_now, .inl (cy 0, 29, .inl nw))] → va_S A s.heap H locs → lv_has ls 5 [(0, .ref ta), (1, .int z1_28), (2, .int (nI ki - 6)), (3, .int (nI kj - 6)), (4, .int (f_X8_sortAt nw (nI ki - 6) (nI kj - 6)))] → W p l e R s m args below meth c H locs 0 0 Q (F0 m 89 ls [.int v8, .int z1_28]) := by
                        clear hP hD hS hl
                        intro v8 H locs ls ev8
                        rw [ev8]
                        clear ev8
                        intro hP hD hS hl
                        refine lv_iadd hx hb dX8_indexes_89 ?_
                        refine lv_istore_n (lv' := [(1, .int (z1_28 + (if (f_X8_sortAt nw (nI ki - 6) (nI kj - 6)) = 1 then (-1) else 1))), (0, .ref ta), (2, .int (nI ki - 6)), (3, .int (nI kj - 6)), (4, .int (f_X8_sortAt nw (nI ki - 6) (nI kj - 6)))]) hx hb dX8_indexes_90 rfl hl (by decide) rfl (fun ls hl9 => ?_)
                        replace hl := hl9
                        clear hl9
                        refine lv_iinc (v := ((nI kj - 6) + 1)) (lv' := [(3, .int ((nI kj - 6) + 1)), (1, .int (z1_28 + (if (f_X8_sortAt nw (nI ki - 6) (nI kj - 6)) = 1 then (-1) else 1))), (0, .ref ta), (2, .int (nI ki - 6)), (4, .int (f_X8_sortAt nw (nI ki - 6) (nI kj - 6)))]) hx hb dX8_indexes_91 hl (k := 3) rfl (yk_incg _) (by decide) rfl (fun ls hl9 => ?_)
                        replace hl := hl9
                        clear hl9
                        refine lv_goto (tgt := 28) hx hb dX8_indexes_94 (by decide) ?_
                        obtain ⟨n9, rfl⟩ : ∃ n9, n28 = n9 + 1 := ⟨n28 - 1, by omega⟩
                        rw [yk_off kj 6] at hl
                        exact ih28 n9 (kj + 1) (z1_28 + (if (f_X8_sortAt nw (nI ki - 6) (nI kj - 6)) = 1 then (-1) else 1)) _ _ _ (by omega) (by omega)  hF hP hD hS (lv_sub hl [2, 1, 3, 0] rfl)
                      refine lv_icmp_ne (tgt := 88) hx hb dX8_indexes_81 (by decide) (fun hc7 => ?_) (fun hc7 => ?_)
                      · refine lv_iconst (v := 1) hx hb dX8_indexes_88 (by decide) ?_
                        exact J9 _ _ _ _ ((if_neg hc7).symm) hP hD hS (lv_sub hl [1, 2, 3, 4, 0] rfl)
                      · refine lv_iconst (v := (-1)) hx hb dX8_indexes_84 (by decide) ?_
                        refine lv_goto (tgt := 89) hx hb dX8_indexes_85 (by decide) ?_
                        exact J9 _ _ _ _ ((if_pos hc7).symm) hP hD hS (lv_sub hl [1, 2, 3, 4, 0] rfl)
                    · replace hF := hF.trans (if_pos hc6)
                      refine lv_aload_n hx hb dX8_indexes_70 rfl (lv_at hl 1 rfl) ?_
                      refine lv_ldc (v := (-1000006)) hx hb hown (hts _ kX8_indexes_0) dX8_indexes_71 ?_
                      refine yk_i [0] (va_runV (As := [.int (-1000006)]) (rest := []) ⟨hx, hb, hml, hown, hts⟩ (c_X8_found l D cy ta m_now m_undone m_slots m_slotKind m_hasSlot m_sheetBits m_sheetSize m_sheets m_fresh m_rootWhich m_signs m_atNought m_change m_table m_carried u fi aa bb dd ro db mn (-1000006) H.size) (cwV 1 hts gX8_indexes_X8_found rfl rfl rfl hv_X8_found (yk_room hRf hRl rfl rfl)) (yk_pv (q := (RX8, TX8, 23)) hG hA hS hK hP hD [0] (by decide +kernel) rfl rfl rfl) rfl rfl hl.1 rfl (lv_room (Nat.le_of_ble_eq_true rfl)) dX8_indexes_73 ⟨Nat.zero_le _, Nat.zero_le _⟩) hP hD hS hA rfl (Eq.trans (b := [ta]) rfl rfl) (fun H locs hP9 hD9 hS9 => ?_)
                      replace hP : va_P D vwCl [(ta, .inr (8, [.ref m_now, .ref m_undone, .ref m_slots, .ref m_slotKind, .ref m_hasSlot, .ref m_sheetBits, .ref m_sheetSize, .ref m_sheets, .int (nI u), .int ((f_X8_found fi (-1000006)).2), .ref m_fresh, .long aa, .long bb, .long dd, .int (nI ro), .ref m_rootWhich, .int db, .ref m_signs, .ref m_atNought, .int (nI mn), .ref m_change, .ref m_table, .ref m_carried])), (m_now, .inl (cy 0, 29, .inl nw))] H := hP9
                      replace hD : va_D A [(ta, .inr (8, [.ref m_now, .ref m_undone, .ref m_slots, .ref m_slotKind, .ref m_hasSlot, .ref m_sheetBits, .ref m_sheetSize, .ref m_sheets, .int (nI u), .int ((f_X8_found fi (-1000006)).2), .ref m_fresh, .long aa, .long bb, .long dd, .int (nI ro), .ref m_rootWhich, .int db, .ref m_signs, .ref m_atNought, .int (nI mn), .ref m_change, .ref m_table, .ref m_carried])), (m_now, .inl (cy 0, 29, .inl nw))] := hD9
                      replace hS := hS9
                      clear hP9 hD9 hS9
                      have hF : f_X8_indexes nw fi n = (((f_X8_found fi (-1000006)).1), ((f_X8_found fi (-1000006)).2)) := hF
                      have hf0 := yk_fst hF
                      have hg0 := yk_snd hF
                      rw [hf0, hg0] at hQ
                      exact hQ _ _ _ _ dX8_indexes_76 hP hS
                  · replace hF := hF.trans (if_neg hc5)
                    refine lv_goto (tgt := 91) hx hb dX8_indexes_53 (by decide) ?_
                    refine lv_iinc (v := ((nI kj - 6) + 1)) (lv' := [(3, .int ((nI kj - 6) + 1)), (0, .ref ta), (1, .int z1_28), (2, .int (nI ki - 6))]) hx hb dX8_indexes_91 hl (k := 3) rfl (yk_incg _) (by decide) rfl (fun ls hl9 => ?_)
                    replace hl := hl9
                    clear hl9
                    refine lv_goto (tgt := 28) hx hb dX8_indexes_94 (by decide) ?_
                    obtain ⟨n9, rfl⟩ : ∃ n9, n28 = n9 + 1 := ⟨n28 - 1, by omega⟩
                    rw [yk_off kj 6] at hl
                    exact ih28 n9 (kj + 1) z1_28 _ _ _ (by omega) (by omega)  hF hP hD hS (lv_sub hl [1, 2, 3, 0] rfl)
          rw [show (-6 : Int32) = nI 0 - 6 from rfl] at hl
          exact L28 (13 + 1) 13 0 z1_19 _ _ _ (Nat.lt_succ_self _) (by omega)  hF hP hD hS (lv_sub hl [1, 2, 3, 0] rfl)
    rw [show (-6 : Int32) = nI 0 - 6 from rfl] at hl
    exact L19 (13 + 1) 13 0 0 _ _ _ (Nat.lt_succ_self _) (by omega)  hF hP hD hS (lv_sub hl [2, 1, 0] rfl)
  · replace hF := hF.trans (if_pos hc1)
    refine lv_aload_n hx hb dX8_indexes_7 rfl (lv_at hl 0 rfl) ?_
    refine lv_ldc (v := (-1000004)) hx hb hown (hts _ kX8_indexes_1) dX8_indexes_8 ?_
    refine yk_i [0] (va_runV (As := [.int (-1000004)]) (rest := []) ⟨hx, hb, hml, hown, hts⟩ (c_X8_found l D cy ta m_now m_undone m_slots m_slotKind m_hasSlot m_sheetBits m_sheetSize m_sheets m_fresh m_rootWhich m_signs m_atNought m_change m_table m_carried u fi aa bb dd ro db mn (-1000004) H.size) (cwV 1 hts gX8_indexes_X8_found rfl rfl rfl hv_X8_found (yk_room hRf hRl rfl rfl)) (yk_pv (q := (RX8, TX8, 23)) hG hA hS hK hP hD [0] (by decide +kernel) rfl rfl rfl) rfl rfl hl.1 rfl (lv_room (Nat.le_of_ble_eq_true rfl)) dX8_indexes_10 ⟨Nat.zero_le _, Nat.zero_le _⟩) hP hD hS hA rfl (Eq.trans (b := [ta]) rfl rfl) (fun H locs hP9 hD9 hS9 => ?_)
    replace hP : va_P D vwCl [(ta, .inr (8, [.ref m_now, .ref m_undone, .ref m_slots, .ref m_slotKind, .ref m_hasSlot, .ref m_sheetBits, .ref m_sheetSize, .ref m_sheets, .int (nI u), .int ((f_X8_found fi (-1000004)).2), .ref m_fresh, .long aa, .long bb, .long dd, .int (nI ro), .ref m_rootWhich, .int db, .ref m_signs, .ref m_atNought, .int (nI mn), .ref m_change, .ref m_table, .ref m_carried])), (m_now, .inl (cy 0, 29, .inl nw))] H := hP9
    replace hD : va_D A [(ta, .inr (8, [.ref m_now, .ref m_undone, .ref m_slots, .ref m_slotKind, .ref m_hasSlot, .ref m_sheetBits, .ref m_sheetSize, .ref m_sheets, .int (nI u), .int ((f_X8_found fi (-1000004)).2), .ref m_fresh, .long aa, .long bb, .long dd, .int (nI ro), .ref m_rootWhich, .int db, .ref m_signs, .ref m_atNought, .int (nI mn), .ref m_change, .ref m_table, .ref m_carried])), (m_now, .inl (cy 0, 29, .inl nw))] := hD9
    replace hS := hS9
    clear hP9 hD9 hS9
    have hF : f_X8_indexes nw fi n = (((f_X8_found fi (-1000004)).1), ((f_X8_found fi (-1000004)).2)) := hF
    have hf0 := yk_fst hF
    have hg0 := yk_snd hF
    rw [hf0, hg0] at hQ
    exact hQ _ _ _ _ dX8_indexes_13 hP hS

def f_X8_place (x : Int32) (y : Int32) : Int32 := (if (x + y) = 0 then 0 else (if (x + y) = 1 then (1 + y) else (if (x + y) = 2 then (3 + y) else (6 + y))))
set_option maxHeartbeats 400000000 in
set_option maxRecDepth 100000 in
theorem c_X8_place (l : Launch) (D : va_G) (cy : Nat → ClassId) (x : Int32) (y : Int32) : yk_Ci l D vwCl (yk_ty cy) yX8_place wsX8_place 0 0 [.int x, .int y] [] (f_X8_place x y) [] := by
  refine yk_eI (cc := cX8_place) (maxL := 3) (by decide) rfl (Nat.le_of_ble_eq_true rfl) rfl ?_
  intro p e R s m args below meth c A Q ls H locs hx hb hml hown hts hRf hRl hA hK hG hP hD hS hl hQ
  have hP : va_P D vwCl [] H := hP
  have hl : lv_has ls 3 [(0, .int x), (1, .int y)] := hl
  have hown : s.vm.findClass RX8 = some m.cls := hown
  have hF : (f_X8_place x y) = (f_X8_place x y) := rfl
  refine lv_iload_n hx hb dX8_place_0 rfl (lv_at hl 0 rfl) ?_
  refine lv_iload_n hx hb dX8_place_1 rfl (lv_at hl 1 rfl) ?_
  refine lv_iadd hx hb dX8_place_2 ?_
  refine lv_istore_n (lv' := [(2, .int (x + y)), (0, .int x), (1, .int y)]) hx hb dX8_place_3 rfl hl (by decide) rfl (fun ls hl9 => ?_)
  replace hl := hl9
  clear hl9
  refine lv_iload_n hx hb dX8_place_4 rfl (lv_at hl 0 rfl) ?_
  have J5 : ∀ (v4 : Int32) (H : Heap) (locs : List Loc) (ls : Array Slot), v4 = (if (x + y) = 0 then 0 else (if (x + y) = 1 then (1 + y) else (if (x + y) = 2 then (3 + y) else (6 + y)))) → va_P D vwCl [] H → va_D A [] → va_S A s.heap H locs → lv_has ls 3 [(0, .int x), (1, .int y), (2, .int (x + y))] → W p l e R s m args below meth c H locs 0 0 Q (F0 m 38 ls [.int v4]) := by
    clear hP hD hS hl
    intro v4 H locs ls ev4
    rw [ev4]
    clear ev4
    intro hP hD hS hl
    have hF : f_X8_place x y = (if (x + y) = 0 then 0 else (if (x + y) = 1 then (1 + y) else (if (x + y) = 2 then (3 + y) else (6 + y)))) := hF
    rw [hF] at hQ
    exact hQ _ _ _ _ dX8_place_38 hP hS
  refine lv_if_ne (tgt := 12) hx hb dX8_place_5 (by decide) (fun hc1 => ?_) (fun hc1 => ?_)
  · refine lv_iload_n hx hb dX8_place_12 rfl (lv_at hl 0 rfl) ?_
    refine lv_iconst (v := 1) hx hb dX8_place_13 (by decide) ?_
    refine lv_icmp_ne (tgt := 23) hx hb dX8_place_14 (by decide) (fun hc2 => ?_) (fun hc2 => ?_)
    · refine lv_iload_n hx hb dX8_place_23 rfl (lv_at hl 0 rfl) ?_
      refine lv_iconst (v := 2) hx hb dX8_place_24 (by decide) ?_
      refine lv_icmp_ne (tgt := 34) hx hb dX8_place_25 (by decide) (fun hc3 => ?_) (fun hc3 => ?_)
      · refine lv_bipush (v := 6) hx hb dX8_place_34 (by decide) ?_
        refine lv_iload_n hx hb dX8_place_36 rfl (lv_at hl 2 rfl) ?_
        refine lv_iadd hx hb dX8_place_37 ?_
        exact J5 _ _ _ _ (((if_neg hc1).trans ((if_neg hc2).trans (if_neg hc3))).symm) hP hD hS (lv_sub hl [1, 2, 0] rfl)
      · refine lv_iconst (v := 3) hx hb dX8_place_28 (by decide) ?_
        refine lv_iload_n hx hb dX8_place_29 rfl (lv_at hl 2 rfl) ?_
        refine lv_iadd hx hb dX8_place_30 ?_
        refine lv_goto (tgt := 38) hx hb dX8_place_31 (by decide) ?_
        exact J5 _ _ _ _ (((if_neg hc1).trans ((if_neg hc2).trans (if_pos hc3))).symm) hP hD hS (lv_sub hl [1, 2, 0] rfl)
    · refine lv_iconst (v := 1) hx hb dX8_place_17 (by decide) ?_
      refine lv_iload_n hx hb dX8_place_18 rfl (lv_at hl 2 rfl) ?_
      refine lv_iadd hx hb dX8_place_19 ?_
      refine lv_goto (tgt := 38) hx hb dX8_place_20 (by decide) ?_
      exact J5 _ _ _ _ (((if_neg hc1).trans (if_pos hc2)).symm) hP hD hS (lv_sub hl [1, 2, 0] rfl)
  · refine lv_iconst (v := 0) hx hb dX8_place_8 (by decide) ?_
    refine lv_goto (tgt := 38) hx hb dX8_place_9 (by decide) ?_
    exact J5 _ _ _ _ ((if_pos hc1).symm) hP hD hS (lv_sub hl [1, 2, 0] rfl)

def f_X8_xIn (x : Int32) : Int32 := (if x = 1 then 1 else (if x = 4 then 1 else (if x = 3 then 2 else 0)))
set_option maxHeartbeats 400000000 in
set_option maxRecDepth 100000 in
theorem c_X8_xIn (l : Launch) (D : va_G) (cy : Nat → ClassId) (x : Int32) : yk_Ci l D vwCl (yk_ty cy) yX8_xIn wsX8_xIn 0 0 [.int x] [] (f_X8_xIn x) [] := by
  refine yk_eI (cc := cX8_xIn) (maxL := 1) (by decide) rfl (Nat.le_of_ble_eq_true rfl) rfl ?_
  intro p e R s m args below meth c A Q ls H locs hx hb hml hown hts hRf hRl hA hK hG hP hD hS hl hQ
  have hP : va_P D vwCl [] H := hP
  have hl : lv_has ls 1 [(0, .int x)] := hl
  have hown : s.vm.findClass RX8 = some m.cls := hown
  have hF : (f_X8_xIn x) = (f_X8_xIn x) := rfl
  refine lv_iload_n hx hb dX8_xIn_0 rfl (lv_at hl 0 rfl) ?_
  refine lv_iconst (v := 1) hx hb dX8_xIn_1 (by decide) ?_
  have J5 : ∀ (v4 : Int32) (H : Heap) (locs : List Loc) (ls : Array Slot), v4 = (if x = 1 then 1 else (if x = 4 then 1 else (if x = 3 then 2 else 0))) → va_P D vwCl [] H → va_D A [] → va_S A s.heap H locs → lv_has ls 1 [(0, .int x)] → W p l e R s m args below meth c H locs 0 0 Q (F0 m 24 ls [.int v4]) := by
    clear hP hD hS hl
    intro v4 H locs ls ev4
    rw [ev4]
    clear ev4
    intro hP hD hS hl
    have hF : f_X8_xIn x = (if x = 1 then 1 else (if x = 4 then 1 else (if x = 3 then 2 else 0))) := hF
    rw [hF] at hQ
    exact hQ _ _ _ _ dX8_xIn_24 hP hS
  refine lv_icmp_eq (tgt := 10) hx hb dX8_xIn_2 (by decide) (fun hc1 => ?_) (fun hc1 => ?_)
  · refine lv_iconst (v := 1) hx hb dX8_xIn_10 (by decide) ?_
    refine lv_goto (tgt := 24) hx hb dX8_xIn_11 (by decide) ?_
    exact J5 _ _ _ _ ((if_pos hc1).symm) hP hD hS (lv_sub hl [0] rfl)
  · refine lv_iload_n hx hb dX8_xIn_5 rfl (lv_at hl 0 rfl) ?_
    refine lv_iconst (v := 4) hx hb dX8_xIn_6 (by decide) ?_
    refine lv_icmp_ne (tgt := 14) hx hb dX8_xIn_7 (by decide) (fun hc2 => ?_) (fun hc2 => ?_)
    · refine lv_iload_n hx hb dX8_xIn_14 rfl (lv_at hl 0 rfl) ?_
      refine lv_iconst (v := 3) hx hb dX8_xIn_15 (by decide) ?_
      refine lv_icmp_ne (tgt := 23) hx hb dX8_xIn_16 (by decide) (fun hc3 => ?_) (fun hc3 => ?_)
      · refine lv_iconst (v := 0) hx hb dX8_xIn_23 (by decide) ?_
        exact J5 _ _ _ _ (((if_neg hc1).trans ((if_neg hc2).trans (if_neg hc3))).symm) hP hD hS (lv_sub hl [0] rfl)
      · refine lv_iconst (v := 2) hx hb dX8_xIn_19 (by decide) ?_
        refine lv_goto (tgt := 24) hx hb dX8_xIn_20 (by decide) ?_
        exact J5 _ _ _ _ (((if_neg hc1).trans ((if_neg hc2).trans (if_pos hc3))).symm) hP hD hS (lv_sub hl [0] rfl)
    · refine lv_iconst (v := 1) hx hb dX8_xIn_10 (by decide) ?_
      refine lv_goto (tgt := 24) hx hb dX8_xIn_11 (by decide) ?_
      exact J5 _ _ _ _ (((if_neg hc1).trans (if_pos hc2)).symm) hP hD hS (lv_sub hl [0] rfl)

def f_X8_yIn (x : Int32) : Int32 := (if x = 2 then 1 else (if x = 4 then 1 else (if x = 5 then 2 else 0)))
set_option maxHeartbeats 400000000 in
set_option maxRecDepth 100000 in
theorem c_X8_yIn (l : Launch) (D : va_G) (cy : Nat → ClassId) (x : Int32) : yk_Ci l D vwCl (yk_ty cy) yX8_yIn wsX8_yIn 0 0 [.int x] [] (f_X8_yIn x) [] := by
  refine yk_eI (cc := cX8_yIn) (maxL := 1) (by decide) rfl (Nat.le_of_ble_eq_true rfl) rfl ?_
  intro p e R s m args below meth c A Q ls H locs hx hb hml hown hts hRf hRl hA hK hG hP hD hS hl hQ
  have hP : va_P D vwCl [] H := hP
  have hl : lv_has ls 1 [(0, .int x)] := hl
  have hown : s.vm.findClass RX8 = some m.cls := hown
  have hF : (f_X8_yIn x) = (f_X8_yIn x) := rfl
  refine lv_iload_n hx hb dX8_yIn_0 rfl (lv_at hl 0 rfl) ?_
  refine lv_iconst (v := 2) hx hb dX8_yIn_1 (by decide) ?_
  have J5 : ∀ (v4 : Int32) (H : Heap) (locs : List Loc) (ls : Array Slot), v4 = (if x = 2 then 1 else (if x = 4 then 1 else (if x = 5 then 2 else 0))) → va_P D vwCl [] H → va_D A [] → va_S A s.heap H locs → lv_has ls 1 [(0, .int x)] → W p l e R s m args below meth c H locs 0 0 Q (F0 m 24 ls [.int v4]) := by
    clear hP hD hS hl
    intro v4 H locs ls ev4
    rw [ev4]
    clear ev4
    intro hP hD hS hl
    have hF : f_X8_yIn x = (if x = 2 then 1 else (if x = 4 then 1 else (if x = 5 then 2 else 0))) := hF
    rw [hF] at hQ
    exact hQ _ _ _ _ dX8_yIn_24 hP hS
  refine lv_icmp_eq (tgt := 10) hx hb dX8_yIn_2 (by decide) (fun hc1 => ?_) (fun hc1 => ?_)
  · refine lv_iconst (v := 1) hx hb dX8_yIn_10 (by decide) ?_
    refine lv_goto (tgt := 24) hx hb dX8_yIn_11 (by decide) ?_
    exact J5 _ _ _ _ ((if_pos hc1).symm) hP hD hS (lv_sub hl [0] rfl)
  · refine lv_iload_n hx hb dX8_yIn_5 rfl (lv_at hl 0 rfl) ?_
    refine lv_iconst (v := 4) hx hb dX8_yIn_6 (by decide) ?_
    refine lv_icmp_ne (tgt := 14) hx hb dX8_yIn_7 (by decide) (fun hc2 => ?_) (fun hc2 => ?_)
    · refine lv_iload_n hx hb dX8_yIn_14 rfl (lv_at hl 0 rfl) ?_
      refine lv_iconst (v := 5) hx hb dX8_yIn_15 (by decide) ?_
      refine lv_icmp_ne (tgt := 23) hx hb dX8_yIn_16 (by decide) (fun hc3 => ?_) (fun hc3 => ?_)
      · refine lv_iconst (v := 0) hx hb dX8_yIn_23 (by decide) ?_
        exact J5 _ _ _ _ (((if_neg hc1).trans ((if_neg hc2).trans (if_neg hc3))).symm) hP hD hS (lv_sub hl [0] rfl)
      · refine lv_iconst (v := 2) hx hb dX8_yIn_19 (by decide) ?_
        refine lv_goto (tgt := 24) hx hb dX8_yIn_20 (by decide) ?_
        exact J5 _ _ _ _ (((if_neg hc1).trans ((if_neg hc2).trans (if_pos hc3))).symm) hP hD hS (lv_sub hl [0] rfl)
    · refine lv_iconst (v := 1) hx hb dX8_yIn_10 (by decide) ?_
      refine lv_goto (tgt := 24) hx hb dX8_yIn_11 (by decide) ?_
      exact J5 _ _ _ _ (((if_neg hc1).trans (if_pos hc2)).symm) hP hD hS (lv_sub hl [0] rfl)

def f_X8_areSmall (xa : Int32) (xb : Int32) (xc : Int32) (xd : Int32) (xe : Int32) : Int32 := (if (f_X8_in xa (-9) 9) = 0 then 0 else (if (f_X8_in xb (-9) 9) = 0 then 0 else (if (f_X8_in xc (-9) 9) = 0 then 0 else (if (f_X8_in xd (-9) 9) = 0 then 0 else (if (f_X8_in xe (-9) 9) = 0 then 0 else 1)))))
theorem b_X8_areSmall (xa : Int32) (xb : Int32) (xc : Int32) (xd : Int32) (xe : Int32) : (f_X8_areSmall xa xb xc xd xe) = 0 ∨ (f_X8_areSmall xa xb xc xd xe) = 1 := by
  unfold f_X8_areSmall; (repeat' split) <;> first | exact Or.inl (by with_reducible rfl) | exact Or.inr (by with_reducible rfl) | with_reducible exact b_X8_in _ _ _
set_option maxHeartbeats 400000000 in
set_option maxRecDepth 100000 in
theorem c_X8_areSmall (l : Launch) (D : va_G) (cy : Nat → ClassId) (xa : Int32) (xb : Int32) (xc : Int32) (xd : Int32) (xe : Int32) : yk_Ci l D vwCl (yk_ty cy) yX8_areSmall wsX8_areSmall 1 22 [.int xa, .int xb, .int xc, .int xd, .int xe] [] (f_X8_areSmall xa xb xc xd xe) [] := by
  refine yk_eI (cc := cX8_areSmall) (maxL := 5) (by decide) rfl (Nat.le_of_ble_eq_true rfl) (yk_nb (b_X8_areSmall xa xb xc xd xe)) ?_
  intro p e R s m args below meth c A Q ls H locs hx hb hml hown hts hRf hRl hA hK hG hP hD hS hl hQ
  have hP : va_P D vwCl [] H := hP
  have hl : lv_has ls 5 [(0, .int xa), (1, .int xb), (2, .int xc), (3, .int xd), (4, .int xe)] := hl
  have hown : s.vm.findClass RX8 = some m.cls := hown
  have hF : (f_X8_areSmall xa xb xc xd xe) = (f_X8_areSmall xa xb xc xd xe) := rfl
  refine lv_iload_n hx hb dX8_areSmall_0 rfl (lv_at hl 0 rfl) ?_
  refine lv_bipush (v := (-9)) hx hb dX8_areSmall_1 (by decide) ?_
  refine lv_bipush (v := 9) hx hb dX8_areSmall_3 (by decide) ?_
  refine yk_i [] (va_runS (As := [.int xa, .int (-9), .int 9]) (rest := []) ⟨hx, hb, hml, hown, hts⟩ (c_X8_in l D cy xa (-9) 9 H.size) (va_cwS 3 hts gX8_areSmall_X8_in rfl rfl rfl hs_X8_in (yk_room hRf hRl rfl rfl)) (yk_ps hG hA hS hK hP hD [] (by decide +kernel) rfl) rfl rfl hl.1 rfl (lv_room (Nat.le_of_ble_eq_true rfl)) dX8_areSmall_5 ⟨Nat.zero_le _, Nat.zero_le _⟩) hP hD hS hA rfl rfl (fun H locs hP9 hD9 hS9 => ?_)
  replace hP : va_P D vwCl [] H := hP9
  replace hD : va_D A [] := hD9
  replace hS := hS9
  clear hP9 hD9 hS9
  have J7 : ∀ (v6 : Int32) (H : Heap) (locs : List Loc) (ls : Array Slot), v6 = (if (f_X8_in xa (-9) 9) = 0 then 0 else (if (f_X8_in xb (-9) 9) = 0 then 0 else (if (f_X8_in xc (-9) 9) = 0 then 0 else (if (f_X8_in xd (-9) 9) = 0 then 0 else (if (f_X8_in xe (-9) 9) = 0 then 0 else 1))))) → va_P D vwCl [] H → va_D A [] → va_S A s.heap H locs → lv_has ls 5 [(0, .int xa), (1, .int xb), (2, .int xc), (3, .int xd), (4, .int xe)] → W p l e R s m args below meth c H locs 0 0 Q (F0 m 61 ls [.int v6]) := by
    clear hP hD hS hl
    intro v6 H locs ls ev6
    rw [ev6]
    clear ev6
    intro hP hD hS hl
    have hF : f_X8_areSmall xa xb xc xd xe = (if (f_X8_in xa (-9) 9) = 0 then 0 else (if (f_X8_in xb (-9) 9) = 0 then 0 else (if (f_X8_in xc (-9) 9) = 0 then 0 else (if (f_X8_in xd (-9) 9) = 0 then 0 else (if (f_X8_in xe (-9) 9) = 0 then 0 else 1))))) := hF
    rw [hF] at hQ
    exact hQ _ _ _ _ dX8_areSmall_61 hP hS
  refine lv_if_eq (tgt := 60) hx hb dX8_areSmall_8 (by decide) (fun hc1 => ?_) (fun hc1 => ?_)
  · refine lv_iconst (v := 0) hx hb dX8_areSmall_60 (by decide) ?_
    exact J7 _ _ _ _ ((if_pos hc1).symm) hP hD hS (lv_sub hl [0, 1, 2, 3, 4] rfl)
  · refine lv_iload_n hx hb dX8_areSmall_11 rfl (lv_at hl 1 rfl) ?_
    refine lv_bipush (v := (-9)) hx hb dX8_areSmall_12 (by decide) ?_
    refine lv_bipush (v := 9) hx hb dX8_areSmall_14 (by decide) ?_
    refine yk_i [] (va_runS (As := [.int xb, .int (-9), .int 9]) (rest := []) ⟨hx, hb, hml, hown, hts⟩ (c_X8_in l D cy xb (-9) 9 H.size) (va_cwS 3 hts gX8_areSmall_X8_in rfl rfl rfl hs_X8_in (yk_room hRf hRl rfl rfl)) (yk_ps hG hA hS hK hP hD [] (by decide +kernel) rfl) rfl rfl hl.1 rfl (lv_room (Nat.le_of_ble_eq_true rfl)) dX8_areSmall_16 ⟨Nat.zero_le _, Nat.zero_le _⟩) hP hD hS hA rfl rfl (fun H locs hP9 hD9 hS9 => ?_)
    replace hP : va_P D vwCl [] H := hP9
    replace hD : va_D A [] := hD9
    replace hS := hS9
    clear hP9 hD9 hS9
    refine lv_if_eq (tgt := 60) hx hb dX8_areSmall_19 (by decide) (fun hc2 => ?_) (fun hc2 => ?_)
    · refine lv_iconst (v := 0) hx hb dX8_areSmall_60 (by decide) ?_
      exact J7 _ _ _ _ (((if_neg hc1).trans (if_pos hc2)).symm) hP hD hS (lv_sub hl [0, 1, 2, 3, 4] rfl)
    · refine lv_iload_n hx hb dX8_areSmall_22 rfl (lv_at hl 2 rfl) ?_
      refine lv_bipush (v := (-9)) hx hb dX8_areSmall_23 (by decide) ?_
      refine lv_bipush (v := 9) hx hb dX8_areSmall_25 (by decide) ?_
      refine yk_i [] (va_runS (As := [.int xc, .int (-9), .int 9]) (rest := []) ⟨hx, hb, hml, hown, hts⟩ (c_X8_in l D cy xc (-9) 9 H.size) (va_cwS 3 hts gX8_areSmall_X8_in rfl rfl rfl hs_X8_in (yk_room hRf hRl rfl rfl)) (yk_ps hG hA hS hK hP hD [] (by decide +kernel) rfl) rfl rfl hl.1 rfl (lv_room (Nat.le_of_ble_eq_true rfl)) dX8_areSmall_27 ⟨Nat.zero_le _, Nat.zero_le _⟩) hP hD hS hA rfl rfl (fun H locs hP9 hD9 hS9 => ?_)
      replace hP : va_P D vwCl [] H := hP9
      replace hD : va_D A [] := hD9
      replace hS := hS9
      clear hP9 hD9 hS9
      refine lv_if_eq (tgt := 60) hx hb dX8_areSmall_30 (by decide) (fun hc3 => ?_) (fun hc3 => ?_)
      · refine lv_iconst (v := 0) hx hb dX8_areSmall_60 (by decide) ?_
        exact J7 _ _ _ _ (((if_neg hc1).trans ((if_neg hc2).trans (if_pos hc3))).symm) hP hD hS (lv_sub hl [0, 1, 2, 3, 4] rfl)
      · refine lv_iload_n hx hb dX8_areSmall_33 rfl (lv_at hl 3 rfl) ?_
        refine lv_bipush (v := (-9)) hx hb dX8_areSmall_34 (by decide) ?_
        refine lv_bipush (v := 9) hx hb dX8_areSmall_36 (by decide) ?_
        refine yk_i [] (va_runS (As := [.int xd, .int (-9), .int 9]) (rest := []) ⟨hx, hb, hml, hown, hts⟩ (c_X8_in l D cy xd (-9) 9 H.size) (va_cwS 3 hts gX8_areSmall_X8_in rfl rfl rfl hs_X8_in (yk_room hRf hRl rfl rfl)) (yk_ps hG hA hS hK hP hD [] (by decide +kernel) rfl) rfl rfl hl.1 rfl (lv_room (Nat.le_of_ble_eq_true rfl)) dX8_areSmall_38 ⟨Nat.zero_le _, Nat.zero_le _⟩) hP hD hS hA rfl rfl (fun H locs hP9 hD9 hS9 => ?_)
        replace hP : va_P D vwCl [] H := hP9
        replace hD : va_D A [] := hD9
        replace hS := hS9
        clear hP9 hD9 hS9
        refine lv_if_eq (tgt := 60) hx hb dX8_areSmall_41 (by decide) (fun hc4 => ?_) (fun hc4 => ?_)
        · refine lv_iconst (v := 0) hx hb dX8_areSmall_60 (by decide) ?_
          exact J7 _ _ _ _ (((if_neg hc1).trans ((if_neg hc2).trans ((if_neg hc3).trans (if_pos hc4)))).symm) hP hD hS (lv_sub hl [0, 1, 2, 3, 4] rfl)
        · refine lv_iload hx hb dX8_areSmall_44 (lv_at hl 4 rfl) ?_
          refine lv_bipush (v := (-9)) hx hb dX8_areSmall_46 (by decide) ?_
          refine lv_bipush (v := 9) hx hb dX8_areSmall_48 (by decide) ?_
          refine yk_i [] (va_runS (As := [.int xe, .int (-9), .int 9]) (rest := []) ⟨hx, hb, hml, hown, hts⟩ (c_X8_in l D cy xe (-9) 9 H.size) (va_cwS 3 hts gX8_areSmall_X8_in rfl rfl rfl hs_X8_in (yk_room hRf hRl rfl rfl)) (yk_ps hG hA hS hK hP hD [] (by decide +kernel) rfl) rfl rfl hl.1 rfl (lv_room (Nat.le_of_ble_eq_true rfl)) dX8_areSmall_50 ⟨Nat.zero_le _, Nat.zero_le _⟩) hP hD hS hA rfl rfl (fun H locs hP9 hD9 hS9 => ?_)
          replace hP : va_P D vwCl [] H := hP9
          replace hD : va_D A [] := hD9
          replace hS := hS9
          clear hP9 hD9 hS9
          refine lv_if_eq (tgt := 60) hx hb dX8_areSmall_53 (by decide) (fun hc5 => ?_) (fun hc5 => ?_)
          · refine lv_iconst (v := 0) hx hb dX8_areSmall_60 (by decide) ?_
            exact J7 _ _ _ _ (((if_neg hc1).trans ((if_neg hc2).trans ((if_neg hc3).trans ((if_neg hc4).trans (if_pos hc5))))).symm) hP hD hS (lv_sub hl [0, 1, 2, 3, 4] rfl)
          · refine lv_iconst (v := 1) hx hb dX8_areSmall_56 (by decide) ?_
            refine lv_goto (tgt := 61) hx hb dX8_areSmall_57 (by decide) ?_
            exact J7 _ _ _ _ (((if_neg hc1).trans ((if_neg hc2).trans ((if_neg hc3).trans ((if_neg hc4).trans (if_neg hc5))))).symm) hP hD hS (lv_sub hl [0, 1, 2, 3, 4] rfl)

def f_X8_isSlot (x : Int32) : Int32 := (f_X8_in x 0 3)
theorem b_X8_isSlot (x : Int32) : (f_X8_isSlot x) = 0 ∨ (f_X8_isSlot x) = 1 := by
  unfold f_X8_isSlot; (repeat' split) <;> first | exact Or.inl (by with_reducible rfl) | exact Or.inr (by with_reducible rfl) | with_reducible exact b_X8_in _ _ _
set_option maxHeartbeats 400000000 in
set_option maxRecDepth 100000 in
theorem c_X8_isSlot (l : Launch) (D : va_G) (cy : Nat → ClassId) (x : Int32) : yk_Ci l D vwCl (yk_ty cy) yX8_isSlot wsX8_isSlot 1 22 [.int x] [] (f_X8_isSlot x) [] := by
  refine yk_eI (cc := cX8_isSlot) (maxL := 1) (by decide) rfl (Nat.le_of_ble_eq_true rfl) (yk_nb (b_X8_isSlot x)) ?_
  intro p e R s m args below meth c A Q ls H locs hx hb hml hown hts hRf hRl hA hK hG hP hD hS hl hQ
  have hP : va_P D vwCl [] H := hP
  have hl : lv_has ls 1 [(0, .int x)] := hl
  have hown : s.vm.findClass RX8 = some m.cls := hown
  have hF : (f_X8_isSlot x) = (f_X8_isSlot x) := rfl
  refine lv_iload_n hx hb dX8_isSlot_0 rfl (lv_at hl 0 rfl) ?_
  refine lv_iconst (v := 0) hx hb dX8_isSlot_1 (by decide) ?_
  refine lv_iconst (v := 3) hx hb dX8_isSlot_2 (by decide) ?_
  refine yk_i [] (va_runS (As := [.int x, .int 0, .int 3]) (rest := []) ⟨hx, hb, hml, hown, hts⟩ (c_X8_in l D cy x 0 3 H.size) (va_cwS 3 hts gX8_isSlot_X8_in rfl rfl rfl hs_X8_in (yk_room hRf hRl rfl rfl)) (yk_ps hG hA hS hK hP hD [] (by decide +kernel) rfl) rfl rfl hl.1 rfl (lv_room (Nat.le_of_ble_eq_true rfl)) dX8_isSlot_3 ⟨Nat.zero_le _, Nat.zero_le _⟩) hP hD hS hA rfl rfl (fun H locs hP9 hD9 hS9 => ?_)
  replace hP : va_P D vwCl [] H := hP9
  replace hD : va_D A [] := hD9
  replace hS := hS9
  clear hP9 hD9 hS9
  have hF : f_X8_isSlot x = (f_X8_in x 0 3) := hF
  rw [hF] at hQ
  exact hQ _ _ _ _ dX8_isSlot_6 hP hS

theorem pl_0 {j : Nat} (h : j < 6) : f_X8_place (f_X8_xIn (nI j)) (f_X8_yIn (nI j)) = nI j :=
  match j, h with
  | 0, _ => rfl
  | 1, _ => rfl
  | 2, _ => rfl
  | 3, _ => rfl
  | 4, _ => rfl
  | 5, _ => rfl
theorem pl_1 {j : Nat} (h : j < 6) : f_X8_place (f_X8_xIn (nI j) + 1) (f_X8_yIn (nI j)) = nI (yk_TX j) :=
  match j, h with
  | 0, _ => rfl
  | 1, _ => rfl
  | 2, _ => rfl
  | 3, _ => rfl
  | 4, _ => rfl
  | 5, _ => rfl
theorem pl_2 {j : Nat} (h : j < 6) : f_X8_place (f_X8_xIn (nI j)) (f_X8_yIn (nI j) + 1) = nI (yk_TY j) :=
  match j, h with
  | 0, _ => rfl
  | 1, _ => rfl
  | 2, _ => rfl
  | 3, _ => rfl
  | 4, _ => rfl
  | 5, _ => rfl
theorem ix_sl {x : Int32} (h : ¬ f_X8_isSlot x = 0) : x = nI x.toNatClampNeg ∧ x.toNatClampNeg < 4 := ix_in (b := 3) (N := 4) (by decide) rfl (by decide) h
theorem ix_ss {x y : Int32} (hy : ∃ m : Nat, y = nI m ∧ m ≤ 16) (h : ¬ f_X8_in x 0 (y - 1) = 0) : x = nI x.toNatClampNeg ∧ x.toNatClampNeg < 16 := by
  obtain ⟨n, rfl, hn⟩ := hy
  unfold f_X8_in at h
  by_cases h0 : x < 0
  · exact absurd (if_pos h0) h
  rw [if_neg h0] at h
  by_cases h1 : nI n - 1 < x
  · exact absurd (if_pos h1) h
  obtain ⟨j, hj, rfl⟩ := nI_of h0
  rw [nI_clamp hj]
  refine ⟨rfl, ?_⟩
  rw [Int32.lt_iff_toInt_lt, nI_toInt hj, show (nI n - 1).toInt = (n : Int) - 1 from pk_sub_toInt (b := 1) (by omega) (by decide)] at h1
  omega
theorem cp_ok {x y z : Int32} (hy : ∃ m : Nat, z = nI m ∧ m ≤ 16) (h0 : ¬ x < 0) (h1 : ¬ y < 0) (h : x.toInt64 + y.toInt64 ≤ z.toInt64) : (x = nI x.toNatClampNeg ∧ x.toNatClampNeg < 17) ∧ (y = nI y.toNatClampNeg ∧ y.toNatClampNeg < 17) ∧ x.toNatClampNeg + y.toNatClampNeg ≤ 16 := by
  obtain ⟨n, rfl, hn⟩ := hy
  obtain ⟨i, hi, rfl⟩ := nI_of h0
  obtain ⟨j, hj, rfl⟩ := nI_of h1
  rw [nI_clamp hi, nI_clamp hj]
  rw [nI_l hi, nI_l hj, nI_l (show n < 2 ^ 31 by omega), lN_add, pk_lLE (by omega) (by omega)] at h
  exact ⟨⟨rfl, by omega⟩, ⟨rfl, by omega⟩, by omega⟩
theorem yk_cle {x y : Int64} (h : ¬ 0 < lg_cmp x y) : x ≤ y := by
  unfold lg_cmp at h
  by_cases h1 : x > y
  · rw [if_pos h1] at h; exact absurd (by decide) h
  · exact Int64.not_lt.mp h1
theorem yk_cle' {x y : Int64} (h : lg_cmp x y ≤ 0) : x ≤ y := yk_cle (Int32.not_lt.mpr h)
theorem yk_ne5 {n : Nat} (hn : n ≤ 5) (h : ¬ nI n = 5) : n < 5 := by
  rcases Nat.lt_or_ge n 5 with q | q
  · exact q
  · have : n = 5 := by omega
    subst this
    exact absurd rfl h
theorem yk_eq5 {n k : Nat} (hk : k + n = 5) (h : (5 : Int32) ≤ nI k) : k = 5 := by
  rcases Nat.lt_or_ge k 5 with q | q
  · exact absurd h (nI_ge (b := 5) q (by decide))
  · omega

theorem kX8_changes_0 : Cond.fieldLink RX8 47 "FlowPlaneModel" "change" "[J" ∈ wsX8_changes := by decide +kernel
theorem uX8_changes_X8 : ∀ w ∈ u_ws RX8 TX8 23, w ∈ wsX8_changes := by decide +kernel
def l_X8_changes_3 (nw : Nat → Int32) (ch : Nat → Int64) (pa : Int32) (pb : Int32) (pc_ : Int32) (pd : Int32) (pe : Int32) : Nat → Nat → (Nat → Int64) → (Nat → Int64)
  | 0, ki, zchange_3 => zchange_3
  | fu_X8_changes_3 + 1, ki, zchange_3 => (if 10 ≤ (nI ki) then zchange_3 else (l_X8_changes_3 nw ch pa pb pc_ pd pe fu_X8_changes_3 (ki + 1) (vp_updL zchange_3 ki 0)))
def l_X8_changes_27 (nw : Nat → Int32) (ch : Nat → Int64) (pa : Int32) (pb : Int32) (pc_ : Int32) (pd : Int32) (pe : Int32) : Nat → Nat → (Nat → Int64) → (Nat → Int64)
  | 0, kj, zchange_27 => zchange_27
  | fu_X8_changes_27 + 1, kj, zchange_27 => (if 6 ≤ (nI kj) then zchange_27 else (l_X8_changes_27 nw ch pa pb pc_ pd pe fu_X8_changes_27 (kj + 1) (vp_updL (vp_updL (vp_updL zchange_27 kj ((zchange_27 kj) + ((((pa * (f_X8_get nw 0 kj)) + (pb * (f_X8_get nw 1 kj)))).toInt64))) (yk_TX kj) (((vp_updL zchange_27 kj ((zchange_27 kj) + ((((pa * (f_X8_get nw 0 kj)) + (pb * (f_X8_get nw 1 kj)))).toInt64))) (yk_TX kj)) + (((((2 * pc_) * (f_X8_get nw 0 kj)) + (pd * (f_X8_get nw 1 kj)))).toInt64))) (yk_TY kj) (((vp_updL (vp_updL zchange_27 kj ((zchange_27 kj) + ((((pa * (f_X8_get nw 0 kj)) + (pb * (f_X8_get nw 1 kj)))).toInt64))) (yk_TX kj) (((vp_updL zchange_27 kj ((zchange_27 kj) + ((((pa * (f_X8_get nw 0 kj)) + (pb * (f_X8_get nw 1 kj)))).toInt64))) (yk_TX kj)) + (((((2 * pc_) * (f_X8_get nw 0 kj)) + (pd * (f_X8_get nw 1 kj)))).toInt64))) (yk_TY kj)) + ((((pd * (f_X8_get nw 0 kj)) + ((2 * pe) * (f_X8_get nw 1 kj)))).toInt64)))))
def f_X8_changes (nw : Nat → Int32) (ch : Nat → Int64) (pa : Int32) (pb : Int32) (pc_ : Int32) (pd : Int32) (pe : Int32) : (Nat → Int64) := (l_X8_changes_27 nw ch pa pb pc_ pd pe (6 + 1) 0 (l_X8_changes_3 nw ch pa pb pc_ pd pe (10 + 1) 0 ch))
set_option maxHeartbeats 400000000 in
set_option maxRecDepth 100000 in
theorem c_X8_changes (l : Launch) (D : va_G) (cy : Nat → ClassId) (ta : Nat) (m_now : Nat) (m_change : Nat) (m_undone : Nat) (m_slots : Nat) (m_slotKind : Nat) (m_hasSlot : Nat) (m_sheetBits : Nat) (m_sheetSize : Nat) (m_sheets : Nat) (m_fresh : Nat) (m_rootWhich : Nat) (m_signs : Nat) (m_atNought : Nat) (m_table : Nat) (m_carried : Nat) (nw : Nat → Int32) (u : Nat) (fi : Int32) (aa : Int64) (bb : Int64) (dd : Int64) (ro : Nat) (db : Int32) (mn : Nat) (ch : Nat → Int64) (pa : Int32) (pb : Int32) (pc_ : Int32) (pd : Int32) (pe : Int32) : yk_Cv l D vwCl (yk_ty cy) yX8_changes wsX8_changes 1 22 [.ref ta, .int pa, .int pb, .int pc_, .int pd, .int pe] [(ta, .inr (8, [.ref m_now, .ref m_undone, .ref m_slots, .ref m_slotKind, .ref m_hasSlot, .ref m_sheetBits, .ref m_sheetSize, .ref m_sheets, .int (nI u), .int fi, .ref m_fresh, .long aa, .long bb, .long dd, .int (nI ro), .ref m_rootWhich, .int db, .ref m_signs, .ref m_atNought, .int (nI mn), .ref m_change, .ref m_table, .ref m_carried])), (m_now, .inl (cy 0, 29, .inl nw)), (m_change, .inl (cy 1, 10, .inr (.inl ch)))] [(ta, .inr (8, [.ref m_now, .ref m_undone, .ref m_slots, .ref m_slotKind, .ref m_hasSlot, .ref m_sheetBits, .ref m_sheetSize, .ref m_sheets, .int (nI u), .int fi, .ref m_fresh, .long aa, .long bb, .long dd, .int (nI ro), .ref m_rootWhich, .int db, .ref m_signs, .ref m_atNought, .int (nI mn), .ref m_change, .ref m_table, .ref m_carried])), (m_now, .inl (cy 0, 29, .inl nw)), (m_change, .inl (cy 1, 10, .inr (.inl (f_X8_changes nw ch pa pb pc_ pd pe))))] := by
  refine yk_eV (cc := cX8_changes) (maxL := 9) (by decide) rfl (Nat.le_of_ble_eq_true rfl) ?_
  intro p e R s m args below meth c A Q ls H locs hx hb hml hown hts hRf hRl hA hK hG hP hD hS hl hQ
  have hP : va_P D vwCl [(ta, .inr (8, [.ref m_now, .ref m_undone, .ref m_slots, .ref m_slotKind, .ref m_hasSlot, .ref m_sheetBits, .ref m_sheetSize, .ref m_sheets, .int (nI u), .int fi, .ref m_fresh, .long aa, .long bb, .long dd, .int (nI ro), .ref m_rootWhich, .int db, .ref m_signs, .ref m_atNought, .int (nI mn), .ref m_change, .ref m_table, .ref m_carried])), (m_now, .inl (cy 0, 29, .inl nw)), (m_change, .inl (cy 1, 10, .inr (.inl ch)))] H := hP
  have hl : lv_has ls 9 [(0, .ref ta), (1, .int pa), (2, .int pb), (3, .int pc_), (4, .int pd), (5, .int pe)] := hl
  have hown : s.vm.findClass RX8 = some m.cls := hown
  have hF : (f_X8_changes nw ch pa pb pc_ pd pe) = (f_X8_changes nw ch pa pb pc_ pd pe) := rfl
  refine lv_iconst (v := 0) hx hb dX8_changes_0 (by decide) ?_
  refine lv_istore (lv' := [(6, .int 0), (0, .ref ta), (1, .int pa), (2, .int pb), (3, .int pc_), (4, .int pd), (5, .int pe)]) hx hb dX8_changes_1 hl (by decide) rfl (fun ls hl9 => ?_)
  replace hl := hl9
  clear hl9
  have J3 : ∀ (H : Heap) (locs : List Loc) (ls : Array Slot), va_P D vwCl [(ta, .inr (8, [.ref m_now, .ref m_undone, .ref m_slots, .ref m_slotKind, .ref m_hasSlot, .ref m_sheetBits, .ref m_sheetSize, .ref m_sheets, .int (nI u), .int fi, .ref m_fresh, .long aa, .long bb, .long dd, .int (nI ro), .ref m_rootWhich, .int db, .ref m_signs, .ref m_atNought, .int (nI mn), .ref m_change, .ref m_table, .ref m_carried])), (m_now, .inl (cy 0, 29, .inl nw)), (m_change, .inl (cy 1, 10, .inr (.inl (l_X8_changes_3 nw ch pa pb pc_ pd pe (10 + 1) 0 ch))))] H → va_D A [(ta, .inr (8, [.ref m_now, .ref m_undone, .ref m_slots, .ref m_slotKind, .ref m_hasSlot, .ref m_sheetBits, .ref m_sheetSize, .ref m_sheets, .int (nI u), .int fi, .ref m_fresh, .long aa, .long bb, .long dd, .int (nI ro), .ref m_rootWhich, .int db, .ref m_signs, .ref m_atNought, .int (nI mn), .ref m_change, .ref m_table, .ref m_carried])), (m_now, .inl (cy 0, 29, .inl nw)), (m_change, .inl (cy 1, 10, .inr (.inl (l_X8_changes_3 nw ch pa pb pc_ pd pe (10 + 1) 0 ch))))] → va_S A s.heap H locs → lv_has ls 9 [(0, .ref ta), (1, .int pa), (2, .int pb), (3, .int pc_), (4, .int pd), (5, .int pe)] → W p l e R s m args below meth c H locs 0 0 Q (F0 m 24 ls []) := by
    clear hP hD hS hl
    intro H locs ls hP hD hS hl
    refine lv_iconst (v := 0) hx hb dX8_changes_24 (by decide) ?_
    refine lv_istore (lv' := [(6, .int 0), (0, .ref ta), (1, .int pa), (2, .int pb), (3, .int pc_), (4, .int pd), (5, .int pe)]) hx hb dX8_changes_25 hl (by decide) rfl (fun ls hl9 => ?_)
    replace hl := hl9
    clear hl9
    have J6 : ∀ (H : Heap) (locs : List Loc) (ls : Array Slot), va_P D vwCl [(ta, .inr (8, [.ref m_now, .ref m_undone, .ref m_slots, .ref m_slotKind, .ref m_hasSlot, .ref m_sheetBits, .ref m_sheetSize, .ref m_sheets, .int (nI u), .int fi, .ref m_fresh, .long aa, .long bb, .long dd, .int (nI ro), .ref m_rootWhich, .int db, .ref m_signs, .ref m_atNought, .int (nI mn), .ref m_change, .ref m_table, .ref m_carried])), (m_now, .inl (cy 0, 29, .inl nw)), (m_change, .inl (cy 1, 10, .inr (.inl (l_X8_changes_27 nw ch pa pb pc_ pd pe (6 + 1) 0 (l_X8_changes_3 nw ch pa pb pc_ pd pe (10 + 1) 0 ch)))))] H → va_D A [(ta, .inr (8, [.ref m_now, .ref m_undone, .ref m_slots, .ref m_slotKind, .ref m_hasSlot, .ref m_sheetBits, .ref m_sheetSize, .ref m_sheets, .int (nI u), .int fi, .ref m_fresh, .long aa, .long bb, .long dd, .int (nI ro), .ref m_rootWhich, .int db, .ref m_signs, .ref m_atNought, .int (nI mn), .ref m_change, .ref m_table, .ref m_carried])), (m_now, .inl (cy 0, 29, .inl nw)), (m_change, .inl (cy 1, 10, .inr (.inl (l_X8_changes_27 nw ch pa pb pc_ pd pe (6 + 1) 0 (l_X8_changes_3 nw ch pa pb pc_ pd pe (10 + 1) 0 ch)))))] → va_S A s.heap H locs → lv_has ls 9 [(0, .ref ta), (1, .int pa), (2, .int pb), (3, .int pc_), (4, .int pd), (5, .int pe)] → W p l e R s m args below meth c H locs 0 0 Q (F0 m 170 ls []) := by
      clear hP hD hS hl
      intro H locs ls hP hD hS hl
      have hF : f_X8_changes nw ch pa pb pc_ pd pe = (l_X8_changes_27 nw ch pa pb pc_ pd pe (6 + 1) 0 (l_X8_changes_3 nw ch pa pb pc_ pd pe (10 + 1) 0 ch)) := hF
      rw [hF] at hQ
      exact hQ _ _ _ _ dX8_changes_170 hP hS
    have L27 : ∀ (M9 n27 kj : Nat) (zchange_27 : Nat → Int64) (H : Heap) (locs : List Loc) (ls : Array Slot), n27 < M9 → kj + n27 = 6 → (l_X8_changes_27 nw ch pa pb pc_ pd pe (6 + 1) 0 (l_X8_changes_3 nw ch pa pb pc_ pd pe (10 + 1) 0 ch)) = (l_X8_changes_27 nw ch pa pb pc_ pd pe (n27 + 1) kj zchange_27) → va_P D vwCl [(ta, .inr (8, [.ref m_now, .ref m_undone, .ref m_slots, .ref m_slotKind, .ref m_hasSlot, .ref m_sheetBits, .ref m_sheetSize, .ref m_sheets, .int (nI u), .int fi, .ref m_fresh, .long aa, .long bb, .long dd, .int (nI ro), .ref m_rootWhich, .int db, .ref m_signs, .ref m_atNought, .int (nI mn), .ref m_change, .ref m_table, .ref m_carried])), (m_now, .inl (cy 0, 29, .inl nw)), (m_change, .inl (cy 1, 10, .inr (.inl zchange_27)))] H → va_D A [(ta, .inr (8, [.ref m_now, .ref m_undone, .ref m_slots, .ref m_slotKind, .ref m_hasSlot, .ref m_sheetBits, .ref m_sheetSize, .ref m_sheets, .int (nI u), .int fi, .ref m_fresh, .long aa, .long bb, .long dd, .int (nI ro), .ref m_rootWhich, .int db, .ref m_signs, .ref m_atNought, .int (nI mn), .ref m_change, .ref m_table, .ref m_carried])), (m_now, .inl (cy 0, 29, .inl nw)), (m_change, .inl (cy 1, 10, .inr (.inl zchange_27)))] → va_S A s.heap H locs → lv_has ls 9 [(0, .ref ta), (1, .int pa), (2, .int pb), (3, .int pc_), (4, .int pd), (5, .int pe), (6, .int (nI kj))] → W p l e R s m args below meth c H locs 0 0 Q (F0 m 27 ls []) := by
      clear hP hD hS hl
      intro M9
      induction M9 with
      | zero => intro n27 kj _ _ _ _ hn; exact absurd hn (Nat.not_lt_zero _)
      | succ M9 ih27 =>
        intro n27 kj zchange_27 H locs ls hn27 hk27 hV27 hP hD hS hl
        refine lv_iload hx hb dX8_changes_27 (lv_at hl 6 rfl) ?_
        refine lv_bipush (v := 6) hx hb dX8_changes_29 (by decide) ?_
        refine lv_icmp_ge (tgt := 170) hx hb dX8_changes_31 (by decide) (fun hc5 => ?_) (fun hc5 => ?_)
        · replace hV27 := hV27.trans (if_pos hc5)
          have hV27 : (l_X8_changes_27 nw ch pa pb pc_ pd pe (6 + 1) 0 (l_X8_changes_3 nw ch pa pb pc_ pd pe (10 + 1) 0 ch)) = zchange_27 := hV27
          have J6 := J6
          rw [hV27] at J6
          exact J6 _ _ _ hP hD hS (lv_sub hl [0, 1, 2, 3, 4, 5] rfl)
        · replace hV27 := hV27.trans (if_neg hc5)
          have hlt27 : kj < 6 := yk_lt hk27 (by omega) hc5
          refine lv_iload hx hb dX8_changes_34 (lv_at hl 6 rfl) ?_
          refine yk_i [] (va_runS (As := [.int (nI kj)]) (rest := []) ⟨hx, hb, hml, hown, hts⟩ (c_X8_xIn l D cy (nI kj) H.size) (va_cwS 1 hts gX8_changes_X8_xIn rfl rfl rfl hs_X8_xIn (yk_room hRf hRl rfl rfl)) (yk_ps hG hA hS hK hP hD [] (by decide +kernel) rfl) rfl rfl hl.1 rfl (lv_room (Nat.le_of_ble_eq_true rfl)) dX8_changes_36 ⟨Nat.zero_le _, Nat.zero_le _⟩) hP hD hS hA rfl rfl (fun H locs hP9 hD9 hS9 => ?_)
          replace hP : va_P D vwCl [(ta, .inr (8, [.ref m_now, .ref m_undone, .ref m_slots, .ref m_slotKind, .ref m_hasSlot, .ref m_sheetBits, .ref m_sheetSize, .ref m_sheets, .int (nI u), .int fi, .ref m_fresh, .long aa, .long bb, .long dd, .int (nI ro), .ref m_rootWhich, .int db, .ref m_signs, .ref m_atNought, .int (nI mn), .ref m_change, .ref m_table, .ref m_carried])), (m_now, .inl (cy 0, 29, .inl nw)), (m_change, .inl (cy 1, 10, .inr (.inl zchange_27)))] H := hP9
          replace hD : va_D A [(ta, .inr (8, [.ref m_now, .ref m_undone, .ref m_slots, .ref m_slotKind, .ref m_hasSlot, .ref m_sheetBits, .ref m_sheetSize, .ref m_sheets, .int (nI u), .int fi, .ref m_fresh, .long aa, .long bb, .long dd, .int (nI ro), .ref m_rootWhich, .int db, .ref m_signs, .ref m_atNought, .int (nI mn), .ref m_change, .ref m_table, .ref m_carried])), (m_now, .inl (cy 0, 29, .inl nw)), (m_change, .inl (cy 1, 10, .inr (.inl zchange_27)))] := hD9
          replace hS := hS9
          clear hP9 hD9 hS9
          refine lv_istore (lv' := [(7, .int (f_X8_xIn (nI kj))), (0, .ref ta), (1, .int pa), (2, .int pb), (3, .int pc_), (4, .int pd), (5, .int pe), (6, .int (nI kj))]) hx hb dX8_changes_39 hl (by decide) rfl (fun ls hl9 => ?_)
          replace hl := hl9
          clear hl9
          refine lv_iload hx hb dX8_changes_41 (lv_at hl 7 rfl) ?_
          refine yk_i [] (va_runS (As := [.int (nI kj)]) (rest := []) ⟨hx, hb, hml, hown, hts⟩ (c_X8_yIn l D cy (nI kj) H.size) (va_cwS 1 hts gX8_changes_X8_yIn rfl rfl rfl hs_X8_yIn (yk_room hRf hRl rfl rfl)) (yk_ps hG hA hS hK hP hD [] (by decide +kernel) rfl) rfl rfl hl.1 rfl (lv_room (Nat.le_of_ble_eq_true rfl)) dX8_changes_43 ⟨Nat.zero_le _, Nat.zero_le _⟩) hP hD hS hA rfl rfl (fun H locs hP9 hD9 hS9 => ?_)
          replace hP : va_P D vwCl [(ta, .inr (8, [.ref m_now, .ref m_undone, .ref m_slots, .ref m_slotKind, .ref m_hasSlot, .ref m_sheetBits, .ref m_sheetSize, .ref m_sheets, .int (nI u), .int fi, .ref m_fresh, .long aa, .long bb, .long dd, .int (nI ro), .ref m_rootWhich, .int db, .ref m_signs, .ref m_atNought, .int (nI mn), .ref m_change, .ref m_table, .ref m_carried])), (m_now, .inl (cy 0, 29, .inl nw)), (m_change, .inl (cy 1, 10, .inr (.inl zchange_27)))] H := hP9
          replace hD : va_D A [(ta, .inr (8, [.ref m_now, .ref m_undone, .ref m_slots, .ref m_slotKind, .ref m_hasSlot, .ref m_sheetBits, .ref m_sheetSize, .ref m_sheets, .int (nI u), .int fi, .ref m_fresh, .long aa, .long bb, .long dd, .int (nI ro), .ref m_rootWhich, .int db, .ref m_signs, .ref m_atNought, .int (nI mn), .ref m_change, .ref m_table, .ref m_carried])), (m_now, .inl (cy 0, 29, .inl nw)), (m_change, .inl (cy 1, 10, .inr (.inl zchange_27)))] := hD9
          replace hS := hS9
          clear hP9 hD9 hS9
          refine lv_istore (lv' := [(8, .int (f_X8_yIn (nI kj))), (7, .int (f_X8_xIn (nI kj))), (0, .ref ta), (1, .int pa), (2, .int pb), (3, .int pc_), (4, .int pd), (5, .int pe), (6, .int (nI kj))]) hx hb dX8_changes_46 hl (by decide) rfl (fun ls hl9 => ?_)
          replace hl := hl9
          clear hl9
          refine lv_aload_n hx hb dX8_changes_48 rfl (lv_at hl 2 rfl) ?_
          refine va_get (D := D) (ci := 8) (v := .ref m_change) (C := RX8) (T := TX8) (N := 23) hx hb hts uX8_changes_X8 hown hK hP 0 rfl rfl 20 (by decide) (hts _ kX8_changes_0) (fun _ h9 => h9) rfl dX8_changes_49 ?_
          refine lv_iload hx hb dX8_changes_52 (lv_at hl 1 rfl) ?_
          refine lv_iload hx hb dX8_changes_54 (lv_at hl 0 rfl) ?_
          refine yk_i [] (va_runS (As := [.int (f_X8_xIn (nI kj)), .int (f_X8_yIn (nI kj))]) (rest := [.ref m_change]) ⟨hx, hb, hml, hown, hts⟩ (c_X8_place l D cy (f_X8_xIn (nI kj)) (f_X8_yIn (nI kj)) H.size) (va_cwS 2 hts gX8_changes_X8_place rfl rfl rfl hs_X8_place (yk_room hRf hRl rfl rfl)) (yk_ps hG hA hS hK hP hD [] (by decide +kernel) rfl) rfl rfl hl.1 rfl (lv_room (Nat.le_of_ble_eq_true rfl)) dX8_changes_56 ⟨Nat.zero_le _, Nat.zero_le _⟩) hP hD hS hA rfl rfl (fun H locs hP9 hD9 hS9 => ?_)
          replace hP : va_P D vwCl [(ta, .inr (8, [.ref m_now, .ref m_undone, .ref m_slots, .ref m_slotKind, .ref m_hasSlot, .ref m_sheetBits, .ref m_sheetSize, .ref m_sheets, .int (nI u), .int fi, .ref m_fresh, .long aa, .long bb, .long dd, .int (nI ro), .ref m_rootWhich, .int db, .ref m_signs, .ref m_atNought, .int (nI mn), .ref m_change, .ref m_table, .ref m_carried])), (m_now, .inl (cy 0, 29, .inl nw)), (m_change, .inl (cy 1, 10, .inr (.inl zchange_27)))] H := hP9
          replace hD : va_D A [(ta, .inr (8, [.ref m_now, .ref m_undone, .ref m_slots, .ref m_slotKind, .ref m_hasSlot, .ref m_sheetBits, .ref m_sheetSize, .ref m_sheets, .int (nI u), .int fi, .ref m_fresh, .long aa, .long bb, .long dd, .int (nI ro), .ref m_rootWhich, .int db, .ref m_signs, .ref m_atNought, .int (nI mn), .ref m_change, .ref m_table, .ref m_carried])), (m_now, .inl (cy 0, 29, .inl nw)), (m_change, .inl (cy 1, 10, .inr (.inl zchange_27)))] := hD9
          replace hS := hS9
          clear hP9 hD9 hS9
          refine yk_ti (y := nI kj) (pl_0 hlt27) ?_
          refine lv_dup2_11 hx hb dX8_changes_59 rfl rfl ?_
          refine yk_lld hx hb hK hP 2 1 rfl rfl kj (by omega) (by decide) dX8_changes_60 ?_
          refine lv_iload_n hx hb dX8_changes_61 rfl (lv_at hl 3 rfl) ?_
          refine lv_aload_n hx hb dX8_changes_62 rfl (lv_at hl 2 rfl) ?_
          refine lv_iconst (v := 0) hx hb dX8_changes_63 (by decide) ?_
          refine lv_iload hx hb dX8_changes_64 (lv_at hl 8 rfl) ?_
          refine yk_i [0, 1] (va_runV (As := [.int 0, .int (nI kj)]) (rest := [.int pa, .long (zchange_27 kj), .int (nI kj), .ref m_change]) ⟨hx, hb, hml, hown, hts⟩ (c_X8_get l D cy ta m_now m_undone m_slots m_slotKind m_hasSlot m_sheetBits m_sheetSize m_sheets m_fresh m_rootWhich m_signs m_atNought m_change m_table m_carried nw u fi aa bb dd ro db mn 0 kj (by omega) H.size) (cwV 2 hts gX8_changes_X8_get rfl rfl rfl hv_X8_get (yk_room hRf hRl rfl rfl)) (yk_pv (q := (RX8, TX8, 23)) hG hA hS hK hP hD [0, 1] (by decide +kernel) rfl rfl rfl) rfl rfl hl.1 rfl (lv_room (Nat.le_of_ble_eq_true rfl)) dX8_changes_66 ⟨Nat.zero_le _, Nat.zero_le _⟩) hP hD hS hA rfl (Eq.trans (b := [ta, m_now]) rfl rfl) (fun H locs hP9 hD9 hS9 => ?_)
          replace hP : va_P D vwCl [(ta, .inr (8, [.ref m_now, .ref m_undone, .ref m_slots, .ref m_slotKind, .ref m_hasSlot, .ref m_sheetBits, .ref m_sheetSize, .ref m_sheets, .int (nI u), .int fi, .ref m_fresh, .long aa, .long bb, .long dd, .int (nI ro), .ref m_rootWhich, .int db, .ref m_signs, .ref m_atNought, .int (nI mn), .ref m_change, .ref m_table, .ref m_carried])), (m_now, .inl (cy 0, 29, .inl nw)), (m_change, .inl (cy 1, 10, .inr (.inl zchange_27)))] H := hP9
          replace hD : va_D A [(ta, .inr (8, [.ref m_now, .ref m_undone, .ref m_slots, .ref m_slotKind, .ref m_hasSlot, .ref m_sheetBits, .ref m_sheetSize, .ref m_sheets, .int (nI u), .int fi, .ref m_fresh, .long aa, .long bb, .long dd, .int (nI ro), .ref m_rootWhich, .int db, .ref m_signs, .ref m_atNought, .int (nI mn), .ref m_change, .ref m_table, .ref m_carried])), (m_now, .inl (cy 0, 29, .inl nw)), (m_change, .inl (cy 1, 10, .inr (.inl zchange_27)))] := hD9
          replace hS := hS9
          clear hP9 hD9 hS9
          refine lv_imul hx hb dX8_changes_69 ?_
          refine lv_iload_n hx hb dX8_changes_70 rfl (lv_at hl 4 rfl) ?_
          refine lv_aload_n hx hb dX8_changes_71 rfl (lv_at hl 2 rfl) ?_
          refine lv_iconst (v := 1) hx hb dX8_changes_72 (by decide) ?_
          refine lv_iload hx hb dX8_changes_73 (lv_at hl 8 rfl) ?_
          refine yk_i [0, 1] (va_runV (As := [.int 1, .int (nI kj)]) (rest := [.int pb, .int (pa * (f_X8_get nw 0 kj)), .long (zchange_27 kj), .int (nI kj), .ref m_change]) ⟨hx, hb, hml, hown, hts⟩ (c_X8_get l D cy ta m_now m_undone m_slots m_slotKind m_hasSlot m_sheetBits m_sheetSize m_sheets m_fresh m_rootWhich m_signs m_atNought m_change m_table m_carried nw u fi aa bb dd ro db mn 1 kj (by omega) H.size) (cwV 2 hts gX8_changes_X8_get rfl rfl rfl hv_X8_get (yk_room hRf hRl rfl rfl)) (yk_pv (q := (RX8, TX8, 23)) hG hA hS hK hP hD [0, 1] (by decide +kernel) rfl rfl rfl) rfl rfl hl.1 rfl (lv_room (Nat.le_of_ble_eq_true rfl)) dX8_changes_75 ⟨Nat.zero_le _, Nat.zero_le _⟩) hP hD hS hA rfl (Eq.trans (b := [ta, m_now]) rfl rfl) (fun H locs hP9 hD9 hS9 => ?_)
          replace hP : va_P D vwCl [(ta, .inr (8, [.ref m_now, .ref m_undone, .ref m_slots, .ref m_slotKind, .ref m_hasSlot, .ref m_sheetBits, .ref m_sheetSize, .ref m_sheets, .int (nI u), .int fi, .ref m_fresh, .long aa, .long bb, .long dd, .int (nI ro), .ref m_rootWhich, .int db, .ref m_signs, .ref m_atNought, .int (nI mn), .ref m_change, .ref m_table, .ref m_carried])), (m_now, .inl (cy 0, 29, .inl nw)), (m_change, .inl (cy 1, 10, .inr (.inl zchange_27)))] H := hP9
          replace hD : va_D A [(ta, .inr (8, [.ref m_now, .ref m_undone, .ref m_slots, .ref m_slotKind, .ref m_hasSlot, .ref m_sheetBits, .ref m_sheetSize, .ref m_sheets, .int (nI u), .int fi, .ref m_fresh, .long aa, .long bb, .long dd, .int (nI ro), .ref m_rootWhich, .int db, .ref m_signs, .ref m_atNought, .int (nI mn), .ref m_change, .ref m_table, .ref m_carried])), (m_now, .inl (cy 0, 29, .inl nw)), (m_change, .inl (cy 1, 10, .inr (.inl zchange_27)))] := hD9
          replace hS := hS9
          clear hP9 hD9 hS9
          refine lv_imul hx hb dX8_changes_78 ?_
          refine lv_iadd hx hb dX8_changes_79 ?_
          refine lv_i2l hx hb dX8_changes_80 rfl ?_
          refine lv_ladd hx hb dX8_changes_81 ?_
          refine yk_lst hx hb hK hP hD hS 2 1 rfl rfl kj (by omega) (by decide) dX8_changes_82 (fun H locs hP9 hD9 hS9 => ?_)
          replace hP : va_P D vwCl [(ta, .inr (8, [.ref m_now, .ref m_undone, .ref m_slots, .ref m_slotKind, .ref m_hasSlot, .ref m_sheetBits, .ref m_sheetSize, .ref m_sheets, .int (nI u), .int fi, .ref m_fresh, .long aa, .long bb, .long dd, .int (nI ro), .ref m_rootWhich, .int db, .ref m_signs, .ref m_atNought, .int (nI mn), .ref m_change, .ref m_table, .ref m_carried])), (m_now, .inl (cy 0, 29, .inl nw)), (m_change, .inl (cy 1, 10, .inr (.inl (vp_updL zchange_27 kj ((zchange_27 kj) + ((((pa * (f_X8_get nw 0 kj)) + (pb * (f_X8_get nw 1 kj)))).toInt64))))))] H := hP9
          replace hD : va_D A [(ta, .inr (8, [.ref m_now, .ref m_undone, .ref m_slots, .ref m_slotKind, .ref m_hasSlot, .ref m_sheetBits, .ref m_sheetSize, .ref m_sheets, .int (nI u), .int fi, .ref m_fresh, .long aa, .long bb, .long dd, .int (nI ro), .ref m_rootWhich, .int db, .ref m_signs, .ref m_atNought, .int (nI mn), .ref m_change, .ref m_table, .ref m_carried])), (m_now, .inl (cy 0, 29, .inl nw)), (m_change, .inl (cy 1, 10, .inr (.inl (vp_updL zchange_27 kj ((zchange_27 kj) + ((((pa * (f_X8_get nw 0 kj)) + (pb * (f_X8_get nw 1 kj)))).toInt64))))))] := hD9
          replace hS := hS9
          clear hP9 hD9 hS9
          refine lv_aload_n hx hb dX8_changes_83 rfl (lv_at hl 2 rfl) ?_
          refine va_get (D := D) (ci := 8) (v := .ref m_change) (C := RX8) (T := TX8) (N := 23) hx hb hts uX8_changes_X8 hown hK hP 0 rfl rfl 20 (by decide) (hts _ kX8_changes_0) (fun _ h9 => h9) rfl dX8_changes_84 ?_
          refine lv_iload hx hb dX8_changes_87 (lv_at hl 1 rfl) ?_
          refine lv_iconst (v := 1) hx hb dX8_changes_89 (by decide) ?_
          refine lv_iadd hx hb dX8_changes_90 ?_
          refine lv_iload hx hb dX8_changes_91 (lv_at hl 0 rfl) ?_
          refine yk_i [] (va_runS (As := [.int ((f_X8_xIn (nI kj)) + 1), .int (f_X8_yIn (nI kj))]) (rest := [.ref m_change]) ⟨hx, hb, hml, hown, hts⟩ (c_X8_place l D cy ((f_X8_xIn (nI kj)) + 1) (f_X8_yIn (nI kj)) H.size) (va_cwS 2 hts gX8_changes_X8_place rfl rfl rfl hs_X8_place (yk_room hRf hRl rfl rfl)) (yk_ps hG hA hS hK hP hD [] (by decide +kernel) rfl) rfl rfl hl.1 rfl (lv_room (Nat.le_of_ble_eq_true rfl)) dX8_changes_93 ⟨Nat.zero_le _, Nat.zero_le _⟩) hP hD hS hA rfl rfl (fun H locs hP9 hD9 hS9 => ?_)
          replace hP : va_P D vwCl [(ta, .inr (8, [.ref m_now, .ref m_undone, .ref m_slots, .ref m_slotKind, .ref m_hasSlot, .ref m_sheetBits, .ref m_sheetSize, .ref m_sheets, .int (nI u), .int fi, .ref m_fresh, .long aa, .long bb, .long dd, .int (nI ro), .ref m_rootWhich, .int db, .ref m_signs, .ref m_atNought, .int (nI mn), .ref m_change, .ref m_table, .ref m_carried])), (m_now, .inl (cy 0, 29, .inl nw)), (m_change, .inl (cy 1, 10, .inr (.inl (vp_updL zchange_27 kj ((zchange_27 kj) + ((((pa * (f_X8_get nw 0 kj)) + (pb * (f_X8_get nw 1 kj)))).toInt64))))))] H := hP9
          replace hD : va_D A [(ta, .inr (8, [.ref m_now, .ref m_undone, .ref m_slots, .ref m_slotKind, .ref m_hasSlot, .ref m_sheetBits, .ref m_sheetSize, .ref m_sheets, .int (nI u), .int fi, .ref m_fresh, .long aa, .long bb, .long dd, .int (nI ro), .ref m_rootWhich, .int db, .ref m_signs, .ref m_atNought, .int (nI mn), .ref m_change, .ref m_table, .ref m_carried])), (m_now, .inl (cy 0, 29, .inl nw)), (m_change, .inl (cy 1, 10, .inr (.inl (vp_updL zchange_27 kj ((zchange_27 kj) + ((((pa * (f_X8_get nw 0 kj)) + (pb * (f_X8_get nw 1 kj)))).toInt64))))))] := hD9
          replace hS := hS9
          clear hP9 hD9 hS9
          refine yk_ti (y := nI (yk_TX kj)) (pl_1 hlt27) ?_
          refine lv_dup2_11 hx hb dX8_changes_96 rfl rfl ?_
          refine yk_lld hx hb hK hP 2 1 rfl rfl (yk_TX kj) (yk_txb hlt27) (by decide) dX8_changes_97 ?_
          refine lv_iconst (v := 2) hx hb dX8_changes_98 (by decide) ?_
          refine lv_iload_n hx hb dX8_changes_99 rfl (lv_at hl 5 rfl) ?_
          refine lv_imul hx hb dX8_changes_100 ?_
          refine lv_aload_n hx hb dX8_changes_101 rfl (lv_at hl 2 rfl) ?_
          refine lv_iconst (v := 0) hx hb dX8_changes_102 (by decide) ?_
          refine lv_iload hx hb dX8_changes_103 (lv_at hl 8 rfl) ?_
          refine yk_i [0, 1] (va_runV (As := [.int 0, .int (nI kj)]) (rest := [.int (2 * pc_), .long ((vp_updL zchange_27 kj ((zchange_27 kj) + ((((pa * (f_X8_get nw 0 kj)) + (pb * (f_X8_get nw 1 kj)))).toInt64))) (yk_TX kj)), .int (nI (yk_TX kj)), .ref m_change]) ⟨hx, hb, hml, hown, hts⟩ (c_X8_get l D cy ta m_now m_undone m_slots m_slotKind m_hasSlot m_sheetBits m_sheetSize m_sheets m_fresh m_rootWhich m_signs m_atNought m_change m_table m_carried nw u fi aa bb dd ro db mn 0 kj (by omega) H.size) (cwV 2 hts gX8_changes_X8_get rfl rfl rfl hv_X8_get (yk_room hRf hRl rfl rfl)) (yk_pv (q := (RX8, TX8, 23)) hG hA hS hK hP hD [0, 1] (by decide +kernel) rfl rfl rfl) rfl rfl hl.1 rfl (lv_room (Nat.le_of_ble_eq_true rfl)) dX8_changes_105 ⟨Nat.zero_le _, Nat.zero_le _⟩) hP hD hS hA rfl (Eq.trans (b := [ta, m_now]) rfl rfl) (fun H locs hP9 hD9 hS9 => ?_)
          replace hP : va_P D vwCl [(ta, .inr (8, [.ref m_now, .ref m_undone, .ref m_slots, .ref m_slotKind, .ref m_hasSlot, .ref m_sheetBits, .ref m_sheetSize, .ref m_sheets, .int (nI u), .int fi, .ref m_fresh, .long aa, .long bb, .long dd, .int (nI ro), .ref m_rootWhich, .int db, .ref m_signs, .ref m_atNought, .int (nI mn), .ref m_change, .ref m_table, .ref m_carried])), (m_now, .inl (cy 0, 29, .inl nw)), (m_change, .inl (cy 1, 10, .inr (.inl (vp_updL zchange_27 kj ((zchange_27 kj) + ((((pa * (f_X8_get nw 0 kj)) + (pb * (f_X8_get nw 1 kj)))).toInt64))))))] H := hP9
          replace hD : va_D A [(ta, .inr (8, [.ref m_now, .ref m_undone, .ref m_slots, .ref m_slotKind, .ref m_hasSlot, .ref m_sheetBits, .ref m_sheetSize, .ref m_sheets, .int (nI u), .int fi, .ref m_fresh, .long aa, .long bb, .long dd, .int (nI ro), .ref m_rootWhich, .int db, .ref m_signs, .ref m_atNought, .int (nI mn), .ref m_change, .ref m_table, .ref m_carried])), (m_now, .inl (cy 0, 29, .inl nw)), (m_change, .inl (cy 1, 10, .inr (.inl (vp_updL zchange_27 kj ((zchange_27 kj) + ((((pa * (f_X8_get nw 0 kj)) + (pb * (f_X8_get nw 1 kj)))).toInt64))))))] := hD9
          replace hS := hS9
          clear hP9 hD9 hS9
          refine lv_imul hx hb dX8_changes_108 ?_
          refine lv_iload hx hb dX8_changes_109 (lv_at hl 6 rfl) ?_
          refine lv_aload_n hx hb dX8_changes_111 rfl (lv_at hl 2 rfl) ?_
          refine lv_iconst (v := 1) hx hb dX8_changes_112 (by decide) ?_
          refine lv_iload hx hb dX8_changes_113 (lv_at hl 8 rfl) ?_
          refine yk_i [0, 1] (va_runV (As := [.int 1, .int (nI kj)]) (rest := [.int pd, .int ((2 * pc_) * (f_X8_get nw 0 kj)), .long ((vp_updL zchange_27 kj ((zchange_27 kj) + ((((pa * (f_X8_get nw 0 kj)) + (pb * (f_X8_get nw 1 kj)))).toInt64))) (yk_TX kj)), .int (nI (yk_TX kj)), .ref m_change]) ⟨hx, hb, hml, hown, hts⟩ (c_X8_get l D cy ta m_now m_undone m_slots m_slotKind m_hasSlot m_sheetBits m_sheetSize m_sheets m_fresh m_rootWhich m_signs m_atNought m_change m_table m_carried nw u fi aa bb dd ro db mn 1 kj (by omega) H.size) (cwV 2 hts gX8_changes_X8_get rfl rfl rfl hv_X8_get (yk_room hRf hRl rfl rfl)) (yk_pv (q := (RX8, TX8, 23)) hG hA hS hK hP hD [0, 1] (by decide +kernel) rfl rfl rfl) rfl rfl hl.1 rfl (lv_room (Nat.le_of_ble_eq_true rfl)) dX8_changes_115 ⟨Nat.zero_le _, Nat.zero_le _⟩) hP hD hS hA rfl (Eq.trans (b := [ta, m_now]) rfl rfl) (fun H locs hP9 hD9 hS9 => ?_)
          replace hP : va_P D vwCl [(ta, .inr (8, [.ref m_now, .ref m_undone, .ref m_slots, .ref m_slotKind, .ref m_hasSlot, .ref m_sheetBits, .ref m_sheetSize, .ref m_sheets, .int (nI u), .int fi, .ref m_fresh, .long aa, .long bb, .long dd, .int (nI ro), .ref m_rootWhich, .int db, .ref m_signs, .ref m_atNought, .int (nI mn), .ref m_change, .ref m_table, .ref m_carried])), (m_now, .inl (cy 0, 29, .inl nw)), (m_change, .inl (cy 1, 10, .inr (.inl (vp_updL zchange_27 kj ((zchange_27 kj) + ((((pa * (f_X8_get nw 0 kj)) + (pb * (f_X8_get nw 1 kj)))).toInt64))))))] H := hP9
          replace hD : va_D A [(ta, .inr (8, [.ref m_now, .ref m_undone, .ref m_slots, .ref m_slotKind, .ref m_hasSlot, .ref m_sheetBits, .ref m_sheetSize, .ref m_sheets, .int (nI u), .int fi, .ref m_fresh, .long aa, .long bb, .long dd, .int (nI ro), .ref m_rootWhich, .int db, .ref m_signs, .ref m_atNought, .int (nI mn), .ref m_change, .ref m_table, .ref m_carried])), (m_now, .inl (cy 0, 29, .inl nw)), (m_change, .inl (cy 1, 10, .inr (.inl (vp_updL zchange_27 kj ((zchange_27 kj) + ((((pa * (f_X8_get nw 0 kj)) + (pb * (f_X8_get nw 1 kj)))).toInt64))))))] := hD9
          replace hS := hS9
          clear hP9 hD9 hS9
          refine lv_imul hx hb dX8_changes_118 ?_
          refine lv_iadd hx hb dX8_changes_119 ?_
          refine lv_i2l hx hb dX8_changes_120 rfl ?_
          refine lv_ladd hx hb dX8_changes_121 ?_
          refine yk_lst hx hb hK hP hD hS 2 1 rfl rfl (yk_TX kj) (yk_txb hlt27) (by decide) dX8_changes_122 (fun H locs hP9 hD9 hS9 => ?_)
          replace hP : va_P D vwCl [(ta, .inr (8, [.ref m_now, .ref m_undone, .ref m_slots, .ref m_slotKind, .ref m_hasSlot, .ref m_sheetBits, .ref m_sheetSize, .ref m_sheets, .int (nI u), .int fi, .ref m_fresh, .long aa, .long bb, .long dd, .int (nI ro), .ref m_rootWhich, .int db, .ref m_signs, .ref m_atNought, .int (nI mn), .ref m_change, .ref m_table, .ref m_carried])), (m_now, .inl (cy 0, 29, .inl nw)), (m_change, .inl (cy 1, 10, .inr (.inl (vp_updL (vp_updL zchange_27 kj ((zchange_27 kj) + ((((pa * (f_X8_get nw 0 kj)) + (pb * (f_X8_get nw 1 kj)))).toInt64))) (yk_TX kj) (((vp_updL zchange_27 kj ((zchange_27 kj) + ((((pa * (f_X8_get nw 0 kj)) + (pb * (f_X8_get nw 1 kj)))).toInt64))) (yk_TX kj)) + (((((2 * pc_) * (f_X8_get nw 0 kj)) + (pd * (f_X8_get nw 1 kj)))).toInt64))))))] H := hP9
          replace hD : va_D A [(ta, .inr (8, [.ref m_now, .ref m_undone, .ref m_slots, .ref m_slotKind, .ref m_hasSlot, .ref m_sheetBits, .ref m_sheetSize, .ref m_sheets, .int (nI u), .int fi, .ref m_fresh, .long aa, .long bb, .long dd, .int (nI ro), .ref m_rootWhich, .int db, .ref m_signs, .ref m_atNought, .int (nI mn), .ref m_change, .ref m_table, .ref m_carried])), (m_now, .inl (cy 0, 29, .inl nw)), (m_change, .inl (cy 1, 10, .inr (.inl (vp_updL (vp_updL zchange_27 kj ((zchange_27 kj) + ((((pa * (f_X8_get nw 0 kj)) + (pb * (f_X8_get nw 1 kj)))).toInt64))) (yk_TX kj) (((vp_updL zchange_27 kj ((zchange_27 kj) + ((((pa * (f_X8_get nw 0 kj)) + (pb * (f_X8_get nw 1 kj)))).toInt64))) (yk_TX kj)) + (((((2 * pc_) * (f_X8_get nw 0 kj)) + (pd * (f_X8_get nw 1 kj)))).toInt64))))))] := hD9
          replace hS := hS9
          clear hP9 hD9 hS9
          refine lv_aload_n hx hb dX8_changes_123 rfl (lv_at hl 2 rfl) ?_
          refine va_get (D := D) (ci := 8) (v := .ref m_change) (C := RX8) (T := TX8) (N := 23) hx hb hts uX8_changes_X8 hown hK hP 0 rfl rfl 20 (by decide) (hts _ kX8_changes_0) (fun _ h9 => h9) rfl dX8_changes_124 ?_
          refine lv_iload hx hb dX8_changes_127 (lv_at hl 1 rfl) ?_
          refine lv_iload hx hb dX8_changes_129 (lv_at hl 0 rfl) ?_
          refine lv_iconst (v := 1) hx hb dX8_changes_131 (by decide) ?_
          refine lv_iadd hx hb dX8_changes_132 ?_
          refine yk_i [] (va_runS (As := [.int (f_X8_xIn (nI kj)), .int ((f_X8_yIn (nI kj)) + 1)]) (rest := [.ref m_change]) ⟨hx, hb, hml, hown, hts⟩ (c_X8_place l D cy (f_X8_xIn (nI kj)) ((f_X8_yIn (nI kj)) + 1) H.size) (va_cwS 2 hts gX8_changes_X8_place rfl rfl rfl hs_X8_place (yk_room hRf hRl rfl rfl)) (yk_ps hG hA hS hK hP hD [] (by decide +kernel) rfl) rfl rfl hl.1 rfl (lv_room (Nat.le_of_ble_eq_true rfl)) dX8_changes_133 ⟨Nat.zero_le _, Nat.zero_le _⟩) hP hD hS hA rfl rfl (fun H locs hP9 hD9 hS9 => ?_)
          replace hP : va_P D vwCl [(ta, .inr (8, [.ref m_now, .ref m_undone, .ref m_slots, .ref m_slotKind, .ref m_hasSlot, .ref m_sheetBits, .ref m_sheetSize, .ref m_sheets, .int (nI u), .int fi, .ref m_fresh, .long aa, .long bb, .long dd, .int (nI ro), .ref m_rootWhich, .int db, .ref m_signs, .ref m_atNought, .int (nI mn), .ref m_change, .ref m_table, .ref m_carried])), (m_now, .inl (cy 0, 29, .inl nw)), (m_change, .inl (cy 1, 10, .inr (.inl (vp_updL (vp_updL zchange_27 kj ((zchange_27 kj) + ((((pa * (f_X8_get nw 0 kj)) + (pb * (f_X8_get nw 1 kj)))).toInt64))) (yk_TX kj) (((vp_updL zchange_27 kj ((zchange_27 kj) + ((((pa * (f_X8_get nw 0 kj)) + (pb * (f_X8_get nw 1 kj)))).toInt64))) (yk_TX kj)) + (((((2 * pc_) * (f_X8_get nw 0 kj)) + (pd * (f_X8_get nw 1 kj)))).toInt64))))))] H := hP9
          replace hD : va_D A [(ta, .inr (8, [.ref m_now, .ref m_undone, .ref m_slots, .ref m_slotKind, .ref m_hasSlot, .ref m_sheetBits, .ref m_sheetSize, .ref m_sheets, .int (nI u), .int fi, .ref m_fresh, .long aa, .long bb, .long dd, .int (nI ro), .ref m_rootWhich, .int db, .ref m_signs, .ref m_atNought, .int (nI mn), .ref m_change, .ref m_table, .ref m_carried])), (m_now, .inl (cy 0, 29, .inl nw)), (m_change, .inl (cy 1, 10, .inr (.inl (vp_updL (vp_updL zchange_27 kj ((zchange_27 kj) + ((((pa * (f_X8_get nw 0 kj)) + (pb * (f_X8_get nw 1 kj)))).toInt64))) (yk_TX kj) (((vp_updL zchange_27 kj ((zchange_27 kj) + ((((pa * (f_X8_get nw 0 kj)) + (pb * (f_X8_get nw 1 kj)))).toInt64))) (yk_TX kj)) + (((((2 * pc_) * (f_X8_get nw 0 kj)) + (pd * (f_X8_get nw 1 kj)))).toInt64))))))] := hD9
          replace hS := hS9
          clear hP9 hD9 hS9
          refine yk_ti (y := nI (yk_TY kj)) (pl_2 hlt27) ?_
          refine lv_dup2_11 hx hb dX8_changes_136 rfl rfl ?_
          refine yk_lld hx hb hK hP 2 1 rfl rfl (yk_TY kj) (yk_tyb hlt27) (by decide) dX8_changes_137 ?_
          refine lv_iload hx hb dX8_changes_138 (lv_at hl 6 rfl) ?_
          refine lv_aload_n hx hb dX8_changes_140 rfl (lv_at hl 2 rfl) ?_
          refine lv_iconst (v := 0) hx hb dX8_changes_141 (by decide) ?_
          refine lv_iload hx hb dX8_changes_142 (lv_at hl 8 rfl) ?_
          refine yk_i [0, 1] (va_runV (As := [.int 0, .int (nI kj)]) (rest := [.int pd, .long ((vp_updL (vp_updL zchange_27 kj ((zchange_27 kj) + ((((pa * (f_X8_get nw 0 kj)) + (pb * (f_X8_get nw 1 kj)))).toInt64))) (yk_TX kj) (((vp_updL zchange_27 kj ((zchange_27 kj) + ((((pa * (f_X8_get nw 0 kj)) + (pb * (f_X8_get nw 1 kj)))).toInt64))) (yk_TX kj)) + (((((2 * pc_) * (f_X8_get nw 0 kj)) + (pd * (f_X8_get nw 1 kj)))).toInt64))) (yk_TY kj)), .int (nI (yk_TY kj)), .ref m_change]) ⟨hx, hb, hml, hown, hts⟩ (c_X8_get l D cy ta m_now m_undone m_slots m_slotKind m_hasSlot m_sheetBits m_sheetSize m_sheets m_fresh m_rootWhich m_signs m_atNought m_change m_table m_carried nw u fi aa bb dd ro db mn 0 kj (by omega) H.size) (cwV 2 hts gX8_changes_X8_get rfl rfl rfl hv_X8_get (yk_room hRf hRl rfl rfl)) (yk_pv (q := (RX8, TX8, 23)) hG hA hS hK hP hD [0, 1] (by decide +kernel) rfl rfl rfl) rfl rfl hl.1 rfl (lv_room (Nat.le_of_ble_eq_true rfl)) dX8_changes_144 ⟨Nat.zero_le _, Nat.zero_le _⟩) hP hD hS hA rfl (Eq.trans (b := [ta, m_now]) rfl rfl) (fun H locs hP9 hD9 hS9 => ?_)
          replace hP : va_P D vwCl [(ta, .inr (8, [.ref m_now, .ref m_undone, .ref m_slots, .ref m_slotKind, .ref m_hasSlot, .ref m_sheetBits, .ref m_sheetSize, .ref m_sheets, .int (nI u), .int fi, .ref m_fresh, .long aa, .long bb, .long dd, .int (nI ro), .ref m_rootWhich, .int db, .ref m_signs, .ref m_atNought, .int (nI mn), .ref m_change, .ref m_table, .ref m_carried])), (m_now, .inl (cy 0, 29, .inl nw)), (m_change, .inl (cy 1, 10, .inr (.inl (vp_updL (vp_updL zchange_27 kj ((zchange_27 kj) + ((((pa * (f_X8_get nw 0 kj)) + (pb * (f_X8_get nw 1 kj)))).toInt64))) (yk_TX kj) (((vp_updL zchange_27 kj ((zchange_27 kj) + ((((pa * (f_X8_get nw 0 kj)) + (pb * (f_X8_get nw 1 kj)))).toInt64))) (yk_TX kj)) + (((((2 * pc_) * (f_X8_get nw 0 kj)) + (pd * (f_X8_get nw 1 kj)))).toInt64))))))] H := hP9
          replace hD : va_D A [(ta, .inr (8, [.ref m_now, .ref m_undone, .ref m_slots, .ref m_slotKind, .ref m_hasSlot, .ref m_sheetBits, .ref m_sheetSize, .ref m_sheets, .int (nI u), .int fi, .ref m_fresh, .long aa, .long bb, .long dd, .int (nI ro), .ref m_rootWhich, .int db, .ref m_signs, .ref m_atNought, .int (nI mn), .ref m_change, .ref m_table, .ref m_carried])), (m_now, .inl (cy 0, 29, .inl nw)), (m_change, .inl (cy 1, 10, .inr (.inl (vp_updL (vp_updL zchange_27 kj ((zchange_27 kj) + ((((pa * (f_X8_get nw 0 kj)) + (pb * (f_X8_get nw 1 kj)))).toInt64))) (yk_TX kj) (((vp_updL zchange_27 kj ((zchange_27 kj) + ((((pa * (f_X8_get nw 0 kj)) + (pb * (f_X8_get nw 1 kj)))).toInt64))) (yk_TX kj)) + (((((2 * pc_) * (f_X8_get nw 0 kj)) + (pd * (f_X8_get nw 1 kj)))).toInt64))))))] := hD9
          replace hS := hS9
          clear hP9 hD9 hS9
          refine lv_imul hx hb dX8_changes_147 ?_
          refine lv_iconst (v := 2) hx hb dX8_changes_148 (by decide) ?_
          refine lv_iload hx hb dX8_changes_149 (lv_at hl 7 rfl) ?_
          refine lv_imul hx hb dX8_changes_151 ?_
          refine lv_aload_n hx hb dX8_changes_152 rfl (lv_at hl 2 rfl) ?_
          refine lv_iconst (v := 1) hx hb dX8_changes_153 (by decide) ?_
          refine lv_iload hx hb dX8_changes_154 (lv_at hl 8 rfl) ?_
          refine yk_i [0, 1] (va_runV (As := [.int 1, .int (nI kj)]) (rest := [.int (2 * pe), .int (pd * (f_X8_get nw 0 kj)), .long ((vp_updL (vp_updL zchange_27 kj ((zchange_27 kj) + ((((pa * (f_X8_get nw 0 kj)) + (pb * (f_X8_get nw 1 kj)))).toInt64))) (yk_TX kj) (((vp_updL zchange_27 kj ((zchange_27 kj) + ((((pa * (f_X8_get nw 0 kj)) + (pb * (f_X8_get nw 1 kj)))).toInt64))) (yk_TX kj)) + (((((2 * pc_) * (f_X8_get nw 0 kj)) + (pd * (f_X8_get nw 1 kj)))).toInt64))) (yk_TY kj)), .int (nI (yk_TY kj)), .ref m_change]) ⟨hx, hb, hml, hown, hts⟩ (c_X8_get l D cy ta m_now m_undone m_slots m_slotKind m_hasSlot m_sheetBits m_sheetSize m_sheets m_fresh m_rootWhich m_signs m_atNought m_change m_table m_carried nw u fi aa bb dd ro db mn 1 kj (by omega) H.size) (cwV 2 hts gX8_changes_X8_get rfl rfl rfl hv_X8_get (yk_room hRf hRl rfl rfl)) (yk_pv (q := (RX8, TX8, 23)) hG hA hS hK hP hD [0, 1] (by decide +kernel) rfl rfl rfl) rfl rfl hl.1 rfl (lv_room (Nat.le_of_ble_eq_true rfl)) dX8_changes_156 ⟨Nat.zero_le _, Nat.zero_le _⟩) hP hD hS hA rfl (Eq.trans (b := [ta, m_now]) rfl rfl) (fun H locs hP9 hD9 hS9 => ?_)
          replace hP : va_P D vwCl [(ta, .inr (8, [.ref m_now, .ref m_undone, .ref m_slots, .ref m_slotKind, .ref m_hasSlot, .ref m_sheetBits, .ref m_sheetSize, .ref m_sheets, .int (nI u), .int fi, .ref m_fresh, .long aa, .long bb, .long dd, .int (nI ro), .ref m_rootWhich, .int db, .ref m_signs, .ref m_atNought, .int (nI mn), .ref m_change, .ref m_table, .ref m_carried])), (m_now, .inl (cy 0, 29, .inl nw)), (m_change, .inl (cy 1, 10, .inr (.inl (vp_updL (vp_updL zchange_27 kj ((zchange_27 kj) + ((((pa * (f_X8_get nw 0 kj)) + (pb * (f_X8_get nw 1 kj)))).toInt64))) (yk_TX kj) (((vp_updL zchange_27 kj ((zchange_27 kj) + ((((pa * (f_X8_get nw 0 kj)) + (pb * (f_X8_get nw 1 kj)))).toInt64))) (yk_TX kj)) + (((((2 * pc_) * (f_X8_get nw 0 kj)) + (pd * (f_X8_get nw 1 kj)))).toInt64))))))] H := hP9
          replace hD : va_D A [(ta, .inr (8, [.ref m_now, .ref m_undone, .ref m_slots, .ref m_slotKind, .ref m_hasSlot, .ref m_sheetBits, .ref m_sheetSize, .ref m_sheets, .int (nI u), .int fi, .ref m_fresh, .long aa, .long bb, .long dd, .int (nI ro), .ref m_rootWhich, .int db, .ref m_signs, .ref m_atNought, .int (nI mn), .ref m_change, .ref m_table, .ref m_carried])), (m_now, .inl (cy 0, 29, .inl nw)), (m_change, .inl (cy 1, 10, .inr (.inl (vp_updL (vp_updL zchange_27 kj ((zchange_27 kj) + ((((pa * (f_X8_get nw 0 kj)) + (pb * (f_X8_get nw 1 kj)))).toInt64))) (yk_TX kj) (((vp_updL zchange_27 kj ((zchange_27 kj) + ((((pa * (f_X8_get nw 0 kj)) + (pb * (f_X8_get nw 1 kj)))).toInt64))) (yk_TX kj)) + (((((2 * pc_) * (f_X8_get nw 0 kj)) + (pd * (f_X8_get nw 1 kj)))).toInt64))))))] := hD9
          replace hS := hS9
          clear hP9 hD9 hS9
          refine lv_imul hx hb dX8_changes_159 ?_
          refine lv_iadd hx hb dX8_changes_160 ?_
          refine lv_i2l hx hb dX8_changes_161 rfl ?_
          refine lv_ladd hx hb dX8_changes_162 ?_
          refine yk_lst hx hb hK hP hD hS 2 1 rfl rfl (yk_TY kj) (yk_tyb hlt27) (by decide) dX8_changes_163 (fun H locs hP9 hD9 hS9 => ?_)
          replace hP : va_P D vwCl [(ta, .inr (8, [.ref m_now, .ref m_undone, .ref m_slots, .ref m_slotKind, .ref m_hasSlot, .ref m_sheetBits, .ref m_sheetSize, .ref m_sheets, .int (nI u), .int fi, .ref m_fresh, .long aa, .long bb, .long dd, .int (nI ro), .ref m_rootWhich, .int db, .ref m_signs, .ref m_atNought, .int (nI mn), .ref m_change, .ref m_table, .ref m_carried])), (m_now, .inl (cy 0, 29, .inl nw)), (m_change, .inl (cy 1, 10, .inr (.inl (vp_updL (vp_updL (vp_updL zchange_27 kj ((zchange_27 kj) + ((((pa * (f_X8_get nw 0 kj)) + (pb * (f_X8_get nw 1 kj)))).toInt64))) (yk_TX kj) (((vp_updL zchange_27 kj ((zchange_27 kj) + ((((pa * (f_X8_get nw 0 kj)) + (pb * (f_X8_get nw 1 kj)))).toInt64))) (yk_TX kj)) + (((((2 * pc_) * (f_X8_get nw 0 kj)) + (pd * (f_X8_get nw 1 kj)))).toInt64))) (yk_TY kj) (((vp_updL (vp_updL zchange_27 kj ((zchange_27 kj) + ((((pa * (f_X8_get nw 0 kj)) + (pb * (f_X8_get nw 1 kj)))).toInt64))) (yk_TX kj) (((vp_updL zchange_27 kj ((zchange_27 kj) + ((((pa * (f_X8_get nw 0 kj)) + (pb * (f_X8_get nw 1 kj)))).toInt64))) (yk_TX kj)) + (((((2 * pc_) * (f_X8_get nw 0 kj)) + (pd * (f_X8_get nw 1 kj)))).toInt64))) (yk_TY kj)) + ((((pd * (f_X8_get nw 0 kj)) + ((2 * pe) * (f_X8_get nw 1 kj)))).toInt64))))))] H := hP9
          replace hD : va_D A [(ta, .inr (8, [.ref m_now, .ref m_undone, .ref m_slots, .ref m_slotKind, .ref m_hasSlot, .ref m_sheetBits, .ref m_sheetSize, .ref m_sheets, .int (nI u), .int fi, .ref m_fresh, .long aa, .long bb, .long dd, .int (nI ro), .ref m_rootWhich, .int db, .ref m_signs, .ref m_atNought, .int (nI mn), .ref m_change, .ref m_table, .ref m_carried])), (m_now, .inl (cy 0, 29, .inl nw)), (m_change, .inl (cy 1, 10, .inr (.inl (vp_updL (vp_updL (vp_updL zchange_27 kj ((zchange_27 kj) + ((((pa * (f_X8_get nw 0 kj)) + (pb * (f_X8_get nw 1 kj)))).toInt64))) (yk_TX kj) (((vp_updL zchange_27 kj ((zchange_27 kj) + ((((pa * (f_X8_get nw 0 kj)) + (pb * (f_X8_get nw 1 kj)))).toInt64))) (yk_TX kj)) + (((((2 * pc_) * (f_X8_get nw 0 kj)) + (pd * (f_X8_get nw 1 kj)))).toInt64))) (yk_TY kj) (((vp_updL (vp_updL zchange_27 kj ((zchange_27 kj) + ((((pa * (f_X8_get nw 0 kj)) + (pb * (f_X8_get nw 1 kj)))).toInt64))) (yk_TX kj) (((vp_updL zchange_27 kj ((zchange_27 kj) + ((((pa * (f_X8_get nw 0 kj)) + (pb * (f_X8_get nw 1 kj)))).toInt64))) (yk_TX kj)) + (((((2 * pc_) * (f_X8_get nw 0 kj)) + (pd * (f_X8_get nw 1 kj)))).toInt64))) (yk_TY kj)) + ((((pd * (f_X8_get nw 0 kj)) + ((2 * pe) * (f_X8_get nw 1 kj)))).toInt64))))))] := hD9
          replace hS := hS9
          clear hP9 hD9 hS9
          refine lv_iinc (v := nI (kj + 1)) (lv' := [(6, .int (nI (kj + 1))), (8, .int (f_X8_yIn (nI kj))), (7, .int (f_X8_xIn (nI kj))), (0, .ref ta), (1, .int pa), (2, .int pb), (3, .int pc_), (4, .int pd), (5, .int pe)]) hx hb dX8_changes_164 hl (k := 8) rfl (yk_inc kj) (by decide) rfl (fun ls hl9 => ?_)
          replace hl := hl9
          clear hl9
          refine lv_goto (tgt := 27) hx hb dX8_changes_167 (by decide) ?_
          obtain ⟨n9, rfl⟩ : ∃ n9, n27 = n9 + 1 := ⟨n27 - 1, by omega⟩
          exact ih27 n9 (kj + 1) (vp_updL (vp_updL (vp_updL zchange_27 kj ((zchange_27 kj) + ((((pa * (f_X8_get nw 0 kj)) + (pb * (f_X8_get nw 1 kj)))).toInt64))) (yk_TX kj) (((vp_updL zchange_27 kj ((zchange_27 kj) + ((((pa * (f_X8_get nw 0 kj)) + (pb * (f_X8_get nw 1 kj)))).toInt64))) (yk_TX kj)) + (((((2 * pc_) * (f_X8_get nw 0 kj)) + (pd * (f_X8_get nw 1 kj)))).toInt64))) (yk_TY kj) (((vp_updL (vp_updL zchange_27 kj ((zchange_27 kj) + ((((pa * (f_X8_get nw 0 kj)) + (pb * (f_X8_get nw 1 kj)))).toInt64))) (yk_TX kj) (((vp_updL zchange_27 kj ((zchange_27 kj) + ((((pa * (f_X8_get nw 0 kj)) + (pb * (f_X8_get nw 1 kj)))).toInt64))) (yk_TX kj)) + (((((2 * pc_) * (f_X8_get nw 0 kj)) + (pd * (f_X8_get nw 1 kj)))).toInt64))) (yk_TY kj)) + ((((pd * (f_X8_get nw 0 kj)) + ((2 * pe) * (f_X8_get nw 1 kj)))).toInt64))) _ _ _ (by omega) (by omega)  hV27 hP hD hS (lv_sub hl [3, 4, 5, 6, 7, 8, 0] rfl)
    exact L27 (6 + 1) 6 0 (l_X8_changes_3 nw ch pa pb pc_ pd pe (10 + 1) 0 ch) _ _ _ (Nat.lt_succ_self _) (by omega)  rfl hP hD hS (lv_sub hl [1, 2, 3, 4, 5, 6, 0] rfl)
  have L3 : ∀ (M9 n3 ki : Nat) (zchange_3 : Nat → Int64) (H : Heap) (locs : List Loc) (ls : Array Slot), n3 < M9 → ki + n3 = 10 → (l_X8_changes_3 nw ch pa pb pc_ pd pe (10 + 1) 0 ch) = (l_X8_changes_3 nw ch pa pb pc_ pd pe (n3 + 1) ki zchange_3) → va_P D vwCl [(ta, .inr (8, [.ref m_now, .ref m_undone, .ref m_slots, .ref m_slotKind, .ref m_hasSlot, .ref m_sheetBits, .ref m_sheetSize, .ref m_sheets, .int (nI u), .int fi, .ref m_fresh, .long aa, .long bb, .long dd, .int (nI ro), .ref m_rootWhich, .int db, .ref m_signs, .ref m_atNought, .int (nI mn), .ref m_change, .ref m_table, .ref m_carried])), (m_now, .inl (cy 0, 29, .inl nw)), (m_change, .inl (cy 1, 10, .inr (.inl zchange_3)))] H → va_D A [(ta, .inr (8, [.ref m_now, .ref m_undone, .ref m_slots, .ref m_slotKind, .ref m_hasSlot, .ref m_sheetBits, .ref m_sheetSize, .ref m_sheets, .int (nI u), .int fi, .ref m_fresh, .long aa, .long bb, .long dd, .int (nI ro), .ref m_rootWhich, .int db, .ref m_signs, .ref m_atNought, .int (nI mn), .ref m_change, .ref m_table, .ref m_carried])), (m_now, .inl (cy 0, 29, .inl nw)), (m_change, .inl (cy 1, 10, .inr (.inl zchange_3)))] → va_S A s.heap H locs → lv_has ls 9 [(0, .ref ta), (1, .int pa), (2, .int pb), (3, .int pc_), (4, .int pd), (5, .int pe), (6, .int (nI ki))] → W p l e R s m args below meth c H locs 0 0 Q (F0 m 3 ls []) := by
    clear hP hD hS hl
    intro M9
    induction M9 with
    | zero => intro n3 ki _ _ _ _ hn; exact absurd hn (Nat.not_lt_zero _)
    | succ M9 ih3 =>
      intro n3 ki zchange_3 H locs ls hn3 hk3 hV3 hP hD hS hl
      refine lv_iload hx hb dX8_changes_3 (lv_at hl 6 rfl) ?_
      refine lv_bipush (v := 10) hx hb dX8_changes_5 (by decide) ?_
      refine lv_icmp_ge (tgt := 24) hx hb dX8_changes_7 (by decide) (fun hc2 => ?_) (fun hc2 => ?_)
      · replace hV3 := hV3.trans (if_pos hc2)
        have hV3 : (l_X8_changes_3 nw ch pa pb pc_ pd pe (10 + 1) 0 ch) = zchange_3 := hV3
        have J3 := J3
        rw [hV3] at J3
        exact J3 _ _ _ hP hD hS (lv_sub hl [0, 1, 2, 3, 4, 5] rfl)
      · replace hV3 := hV3.trans (if_neg hc2)
        have hlt3 : ki < 10 := yk_lt hk3 (by omega) hc2
        refine lv_aload_n hx hb dX8_changes_10 rfl (lv_at hl 0 rfl) ?_
        refine va_get (D := D) (ci := 8) (v := .ref m_change) (C := RX8) (T := TX8) (N := 23) hx hb hts uX8_changes_X8 hown hK hP 0 rfl rfl 20 (by decide) (hts _ kX8_changes_0) (fun _ h9 => h9) rfl dX8_changes_11 ?_
        refine lv_iload hx hb dX8_changes_14 (lv_at hl 6 rfl) ?_
        refine lv_lconst (v := 0) hx hb dX8_changes_16 (by decide) ?_
        refine yk_lst hx hb hK hP hD hS 2 1 rfl rfl ki (by omega) (by decide) dX8_changes_17 (fun H locs hP9 hD9 hS9 => ?_)
        replace hP : va_P D vwCl [(ta, .inr (8, [.ref m_now, .ref m_undone, .ref m_slots, .ref m_slotKind, .ref m_hasSlot, .ref m_sheetBits, .ref m_sheetSize, .ref m_sheets, .int (nI u), .int fi, .ref m_fresh, .long aa, .long bb, .long dd, .int (nI ro), .ref m_rootWhich, .int db, .ref m_signs, .ref m_atNought, .int (nI mn), .ref m_change, .ref m_table, .ref m_carried])), (m_now, .inl (cy 0, 29, .inl nw)), (m_change, .inl (cy 1, 10, .inr (.inl (vp_updL zchange_3 ki 0))))] H := hP9
        replace hD : va_D A [(ta, .inr (8, [.ref m_now, .ref m_undone, .ref m_slots, .ref m_slotKind, .ref m_hasSlot, .ref m_sheetBits, .ref m_sheetSize, .ref m_sheets, .int (nI u), .int fi, .ref m_fresh, .long aa, .long bb, .long dd, .int (nI ro), .ref m_rootWhich, .int db, .ref m_signs, .ref m_atNought, .int (nI mn), .ref m_change, .ref m_table, .ref m_carried])), (m_now, .inl (cy 0, 29, .inl nw)), (m_change, .inl (cy 1, 10, .inr (.inl (vp_updL zchange_3 ki 0))))] := hD9
        replace hS := hS9
        clear hP9 hD9 hS9
        refine lv_iinc (v := nI (ki + 1)) (lv' := [(6, .int (nI (ki + 1))), (0, .ref ta), (1, .int pa), (2, .int pb), (3, .int pc_), (4, .int pd), (5, .int pe)]) hx hb dX8_changes_18 hl (k := 6) rfl (yk_inc ki) (by decide) rfl (fun ls hl9 => ?_)
        replace hl := hl9
        clear hl9
        refine lv_goto (tgt := 3) hx hb dX8_changes_21 (by decide) ?_
        obtain ⟨n9, rfl⟩ : ∃ n9, n3 = n9 + 1 := ⟨n3 - 1, by omega⟩
        exact ih3 n9 (ki + 1) (vp_updL zchange_3 ki 0) _ _ _ (by omega) (by omega)  hV3 hP hD hS (lv_sub hl [1, 2, 3, 4, 5, 6, 0] rfl)
  exact L3 (10 + 1) 10 0 ch _ _ _ (Nat.lt_succ_self _) (by omega)  rfl hP hD hS (lv_sub hl [1, 2, 3, 4, 5, 6, 0] rfl)

theorem kX8_along_0 : Cond.constant RX8 68 (-1000001) ∈ wsX8_along := by decide +kernel
theorem kX8_along_1 : Cond.fieldLink RX8 47 "FlowPlaneModel" "change" "[J" ∈ wsX8_along := by decide +kernel
theorem uX8_along_X8 : ∀ w ∈ u_ws RX8 TX8 23, w ∈ wsX8_along := by decide +kernel
def f_X8_along (nw : Nat → Int32) (fi : Int32) (ch : Nat → Int64) (pa : Int32) (pb : Int32) (pc_ : Int32) (pd : Int32) (pe : Int32) (pm : Int32) : Int32 × Int32 × (Nat → Int64) := (if (f_X8_areSmall pa pb pc_ pd pe) = 0 then (((f_X8_found fi (-1000001)).1), ((f_X8_found fi (-1000001)).2), ch) else (if (f_X8_in pm 0 9) = 0 then (((f_X8_found fi (-1000001)).1), ((f_X8_found fi (-1000001)).2), ch) else (((((f_X8_changes nw ch pa pb pc_ pd pe) pm.toNatClampNeg)).toInt32), fi, (f_X8_changes nw ch pa pb pc_ pd pe))))
set_option maxHeartbeats 400000000 in
set_option maxRecDepth 100000 in
theorem c_X8_along (l : Launch) (D : va_G) (cy : Nat → ClassId) (ta : Nat) (m_now : Nat) (m_change : Nat) (m_undone : Nat) (m_slots : Nat) (m_slotKind : Nat) (m_hasSlot : Nat) (m_sheetBits : Nat) (m_sheetSize : Nat) (m_sheets : Nat) (m_fresh : Nat) (m_rootWhich : Nat) (m_signs : Nat) (m_atNought : Nat) (m_table : Nat) (m_carried : Nat) (nw : Nat → Int32) (u : Nat) (fi : Int32) (aa : Int64) (bb : Int64) (dd : Int64) (ro : Nat) (db : Int32) (mn : Nat) (ch : Nat → Int64) (pa : Int32) (pb : Int32) (pc_ : Int32) (pd : Int32) (pe : Int32) (pm : Int32) : yk_Ci l D vwCl (yk_ty cy) yX8_along wsX8_along 2 50 [.ref ta, .int pa, .int pb, .int pc_, .int pd, .int pe, .int pm] [(ta, .inr (8, [.ref m_now, .ref m_undone, .ref m_slots, .ref m_slotKind, .ref m_hasSlot, .ref m_sheetBits, .ref m_sheetSize, .ref m_sheets, .int (nI u), .int fi, .ref m_fresh, .long aa, .long bb, .long dd, .int (nI ro), .ref m_rootWhich, .int db, .ref m_signs, .ref m_atNought, .int (nI mn), .ref m_change, .ref m_table, .ref m_carried])), (m_now, .inl (cy 0, 29, .inl nw)), (m_change, .inl (cy 1, 10, .inr (.inl ch)))] ((f_X8_along nw fi ch pa pb pc_ pd pe pm).1) [(ta, .inr (8, [.ref m_now, .ref m_undone, .ref m_slots, .ref m_slotKind, .ref m_hasSlot, .ref m_sheetBits, .ref m_sheetSize, .ref m_sheets, .int (nI u), .int ((f_X8_along nw fi ch pa pb pc_ pd pe pm).2.1), .ref m_fresh, .long aa, .long bb, .long dd, .int (nI ro), .ref m_rootWhich, .int db, .ref m_signs, .ref m_atNought, .int (nI mn), .ref m_change, .ref m_table, .ref m_carried])), (m_now, .inl (cy 0, 29, .inl nw)), (m_change, .inl (cy 1, 10, .inr (.inl ((f_X8_along nw fi ch pa pb pc_ pd pe pm).2.2))))] := by
  refine yk_eI (cc := cX8_along) (maxL := 7) (by decide) rfl (Nat.le_of_ble_eq_true rfl) rfl ?_
  intro p e R s m args below meth c A Q ls H locs hx hb hml hown hts hRf hRl hA hK hG hP hD hS hl hQ
  have hP : va_P D vwCl [(ta, .inr (8, [.ref m_now, .ref m_undone, .ref m_slots, .ref m_slotKind, .ref m_hasSlot, .ref m_sheetBits, .ref m_sheetSize, .ref m_sheets, .int (nI u), .int fi, .ref m_fresh, .long aa, .long bb, .long dd, .int (nI ro), .ref m_rootWhich, .int db, .ref m_signs, .ref m_atNought, .int (nI mn), .ref m_change, .ref m_table, .ref m_carried])), (m_now, .inl (cy 0, 29, .inl nw)), (m_change, .inl (cy 1, 10, .inr (.inl ch)))] H := hP
  have hl : lv_has ls 7 [(0, .ref ta), (1, .int pa), (2, .int pb), (3, .int pc_), (4, .int pd), (5, .int pe), (6, .int pm)] := hl
  have hown : s.vm.findClass RX8 = some m.cls := hown
  have hF : (f_X8_along nw fi ch pa pb pc_ pd pe pm) = (f_X8_along nw fi ch pa pb pc_ pd pe pm) := rfl
  refine lv_iload_n hx hb dX8_along_0 rfl (lv_at hl 1 rfl) ?_
  refine lv_iload_n hx hb dX8_along_1 rfl (lv_at hl 2 rfl) ?_
  refine lv_iload_n hx hb dX8_along_2 rfl (lv_at hl 3 rfl) ?_
  refine lv_iload hx hb dX8_along_3 (lv_at hl 4 rfl) ?_
  refine lv_iload hx hb dX8_along_5 (lv_at hl 5 rfl) ?_
  refine yk_i [] (va_runS (As := [.int pa, .int pb, .int pc_, .int pd, .int pe]) (rest := []) ⟨hx, hb, hml, hown, hts⟩ (c_X8_areSmall l D cy pa pb pc_ pd pe H.size) (va_cwS 5 hts gX8_along_X8_areSmall rfl rfl rfl hs_X8_areSmall (yk_room hRf hRl rfl rfl)) (yk_ps hG hA hS hK hP hD [] (by decide +kernel) rfl) rfl rfl hl.1 rfl (lv_room (Nat.le_of_ble_eq_true rfl)) dX8_along_7 ⟨Nat.zero_le _, Nat.zero_le _⟩) hP hD hS hA rfl rfl (fun H locs hP9 hD9 hS9 => ?_)
  replace hP : va_P D vwCl [(ta, .inr (8, [.ref m_now, .ref m_undone, .ref m_slots, .ref m_slotKind, .ref m_hasSlot, .ref m_sheetBits, .ref m_sheetSize, .ref m_sheets, .int (nI u), .int fi, .ref m_fresh, .long aa, .long bb, .long dd, .int (nI ro), .ref m_rootWhich, .int db, .ref m_signs, .ref m_atNought, .int (nI mn), .ref m_change, .ref m_table, .ref m_carried])), (m_now, .inl (cy 0, 29, .inl nw)), (m_change, .inl (cy 1, 10, .inr (.inl ch)))] H := hP9
  replace hD : va_D A [(ta, .inr (8, [.ref m_now, .ref m_undone, .ref m_slots, .ref m_slotKind, .ref m_hasSlot, .ref m_sheetBits, .ref m_sheetSize, .ref m_sheets, .int (nI u), .int fi, .ref m_fresh, .long aa, .long bb, .long dd, .int (nI ro), .ref m_rootWhich, .int db, .ref m_signs, .ref m_atNought, .int (nI mn), .ref m_change, .ref m_table, .ref m_carried])), (m_now, .inl (cy 0, 29, .inl nw)), (m_change, .inl (cy 1, 10, .inr (.inl ch)))] := hD9
  replace hS := hS9
  clear hP9 hD9 hS9
  refine lv_if_eq (tgt := 24) hx hb dX8_along_10 (by decide) (fun hc1 => ?_) (fun hc1 => ?_)
  · replace hF := hF.trans (if_pos hc1)
    refine lv_aload_n hx hb dX8_along_24 rfl (lv_at hl 0 rfl) ?_
    refine lv_ldc (v := (-1000001)) hx hb hown (hts _ kX8_along_0) dX8_along_25 ?_
    refine yk_i [0] (va_runV (As := [.int (-1000001)]) (rest := []) ⟨hx, hb, hml, hown, hts⟩ (c_X8_found l D cy ta m_now m_undone m_slots m_slotKind m_hasSlot m_sheetBits m_sheetSize m_sheets m_fresh m_rootWhich m_signs m_atNought m_change m_table m_carried u fi aa bb dd ro db mn (-1000001) H.size) (cwV 1 hts gX8_along_X8_found rfl rfl rfl hv_X8_found (yk_room hRf hRl rfl rfl)) (yk_pv (q := (RX8, TX8, 23)) hG hA hS hK hP hD [0] (by decide +kernel) rfl rfl rfl) rfl rfl hl.1 rfl (lv_room (Nat.le_of_ble_eq_true rfl)) dX8_along_27 ⟨Nat.zero_le _, Nat.zero_le _⟩) hP hD hS hA rfl (Eq.trans (b := [ta]) rfl rfl) (fun H locs hP9 hD9 hS9 => ?_)
    replace hP : va_P D vwCl [(ta, .inr (8, [.ref m_now, .ref m_undone, .ref m_slots, .ref m_slotKind, .ref m_hasSlot, .ref m_sheetBits, .ref m_sheetSize, .ref m_sheets, .int (nI u), .int ((f_X8_found fi (-1000001)).2), .ref m_fresh, .long aa, .long bb, .long dd, .int (nI ro), .ref m_rootWhich, .int db, .ref m_signs, .ref m_atNought, .int (nI mn), .ref m_change, .ref m_table, .ref m_carried])), (m_now, .inl (cy 0, 29, .inl nw)), (m_change, .inl (cy 1, 10, .inr (.inl ch)))] H := hP9
    replace hD : va_D A [(ta, .inr (8, [.ref m_now, .ref m_undone, .ref m_slots, .ref m_slotKind, .ref m_hasSlot, .ref m_sheetBits, .ref m_sheetSize, .ref m_sheets, .int (nI u), .int ((f_X8_found fi (-1000001)).2), .ref m_fresh, .long aa, .long bb, .long dd, .int (nI ro), .ref m_rootWhich, .int db, .ref m_signs, .ref m_atNought, .int (nI mn), .ref m_change, .ref m_table, .ref m_carried])), (m_now, .inl (cy 0, 29, .inl nw)), (m_change, .inl (cy 1, 10, .inr (.inl ch)))] := hD9
    replace hS := hS9
    clear hP9 hD9 hS9
    have hF : f_X8_along nw fi ch pa pb pc_ pd pe pm = (((f_X8_found fi (-1000001)).1), ((f_X8_found fi (-1000001)).2), ch) := hF
    have hf0 := yk_fst hF
    have hg0 := yk_snd hF
    have hf1 := yk_fst hg0
    have hg1 := yk_snd hg0
    rw [hf0, hf1, hg1] at hQ
    exact hQ _ _ _ _ dX8_along_30 hP hS
  · replace hF := hF.trans (if_neg hc1)
    refine lv_iload hx hb dX8_along_13 (lv_at hl 6 rfl) ?_
    refine lv_iconst (v := 0) hx hb dX8_along_15 (by decide) ?_
    refine lv_bipush (v := 9) hx hb dX8_along_16 (by decide) ?_
    refine yk_i [] (va_runS (As := [.int pm, .int 0, .int 9]) (rest := []) ⟨hx, hb, hml, hown, hts⟩ (c_X8_in l D cy pm 0 9 H.size) (va_cwS 3 hts gX8_along_X8_in rfl rfl rfl hs_X8_in (yk_room hRf hRl rfl rfl)) (yk_ps hG hA hS hK hP hD [] (by decide +kernel) rfl) rfl rfl hl.1 rfl (lv_room (Nat.le_of_ble_eq_true rfl)) dX8_along_18 ⟨Nat.zero_le _, Nat.zero_le _⟩) hP hD hS hA rfl rfl (fun H locs hP9 hD9 hS9 => ?_)
    replace hP : va_P D vwCl [(ta, .inr (8, [.ref m_now, .ref m_undone, .ref m_slots, .ref m_slotKind, .ref m_hasSlot, .ref m_sheetBits, .ref m_sheetSize, .ref m_sheets, .int (nI u), .int fi, .ref m_fresh, .long aa, .long bb, .long dd, .int (nI ro), .ref m_rootWhich, .int db, .ref m_signs, .ref m_atNought, .int (nI mn), .ref m_change, .ref m_table, .ref m_carried])), (m_now, .inl (cy 0, 29, .inl nw)), (m_change, .inl (cy 1, 10, .inr (.inl ch)))] H := hP9
    replace hD : va_D A [(ta, .inr (8, [.ref m_now, .ref m_undone, .ref m_slots, .ref m_slotKind, .ref m_hasSlot, .ref m_sheetBits, .ref m_sheetSize, .ref m_sheets, .int (nI u), .int fi, .ref m_fresh, .long aa, .long bb, .long dd, .int (nI ro), .ref m_rootWhich, .int db, .ref m_signs, .ref m_atNought, .int (nI mn), .ref m_change, .ref m_table, .ref m_carried])), (m_now, .inl (cy 0, 29, .inl nw)), (m_change, .inl (cy 1, 10, .inr (.inl ch)))] := hD9
    replace hS := hS9
    clear hP9 hD9 hS9
    refine lv_if_ne (tgt := 31) hx hb dX8_along_21 (by decide) (fun hc2 => ?_) (fun hc2 => ?_)
    · replace hF := hF.trans (if_neg hc2)
      have hq3 : pm = nI pm.toNatClampNeg := (ix_in (N := 10) (b := 9) (by decide) rfl (by decide) (by assumption)).1
      have hq3b : pm.toNatClampNeg < 10 := (ix_in (N := 10) (b := 9) (by decide) rfl (by decide) (by assumption)).2
      rw [hq3] at hl
      refine lv_aload_n hx hb dX8_along_31 rfl (lv_at hl 0 rfl) ?_
      refine lv_iload_n hx hb dX8_along_32 rfl (lv_at hl 1 rfl) ?_
      refine lv_iload_n hx hb dX8_along_33 rfl (lv_at hl 2 rfl) ?_
      refine lv_iload_n hx hb dX8_along_34 rfl (lv_at hl 3 rfl) ?_
      refine lv_iload hx hb dX8_along_35 (lv_at hl 4 rfl) ?_
      refine lv_iload hx hb dX8_along_37 (lv_at hl 5 rfl) ?_
      refine yk_v [0, 1, 2] (va_runV (As := [.int pa, .int pb, .int pc_, .int pd, .int pe]) (rest := []) ⟨hx, hb, hml, hown, hts⟩ (c_X8_changes l D cy ta m_now m_change m_undone m_slots m_slotKind m_hasSlot m_sheetBits m_sheetSize m_sheets m_fresh m_rootWhich m_signs m_atNought m_table m_carried nw u fi aa bb dd ro db mn ch pa pb pc_ pd pe H.size) (cwV 5 hts gX8_along_X8_changes rfl rfl rfl hv_X8_changes (yk_room hRf hRl rfl rfl)) (yk_pv (q := (RX8, TX8, 23)) hG hA hS hK hP hD [0, 1, 2] (by decide +kernel) rfl rfl rfl) rfl rfl hl.1 rfl (lv_room (Nat.le_of_ble_eq_true rfl)) dX8_along_39 ⟨Nat.zero_le _, Nat.zero_le _⟩) hP hD hS hA rfl (Eq.trans (b := [ta, m_now, m_change]) rfl rfl) (fun H locs hP9 hD9 hS9 => ?_)
      replace hP : va_P D vwCl [(ta, .inr (8, [.ref m_now, .ref m_undone, .ref m_slots, .ref m_slotKind, .ref m_hasSlot, .ref m_sheetBits, .ref m_sheetSize, .ref m_sheets, .int (nI u), .int fi, .ref m_fresh, .long aa, .long bb, .long dd, .int (nI ro), .ref m_rootWhich, .int db, .ref m_signs, .ref m_atNought, .int (nI mn), .ref m_change, .ref m_table, .ref m_carried])), (m_now, .inl (cy 0, 29, .inl nw)), (m_change, .inl (cy 1, 10, .inr (.inl (f_X8_changes nw ch pa pb pc_ pd pe))))] H := hP9
      replace hD : va_D A [(ta, .inr (8, [.ref m_now, .ref m_undone, .ref m_slots, .ref m_slotKind, .ref m_hasSlot, .ref m_sheetBits, .ref m_sheetSize, .ref m_sheets, .int (nI u), .int fi, .ref m_fresh, .long aa, .long bb, .long dd, .int (nI ro), .ref m_rootWhich, .int db, .ref m_signs, .ref m_atNought, .int (nI mn), .ref m_change, .ref m_table, .ref m_carried])), (m_now, .inl (cy 0, 29, .inl nw)), (m_change, .inl (cy 1, 10, .inr (.inl (f_X8_changes nw ch pa pb pc_ pd pe))))] := hD9
      replace hS := hS9
      clear hP9 hD9 hS9
      refine lv_aload_n hx hb dX8_along_42 rfl (lv_at hl 0 rfl) ?_
      refine va_get (D := D) (ci := 8) (v := .ref m_change) (C := RX8) (T := TX8) (N := 23) hx hb hts uX8_along_X8 hown hK hP 0 rfl rfl 20 (by decide) (hts _ kX8_along_1) (fun _ h9 => h9) rfl dX8_along_43 ?_
      refine lv_iload hx hb dX8_along_46 (lv_at hl 6 rfl) ?_
      refine yk_lld hx hb hK hP 2 1 rfl rfl pm.toNatClampNeg (by omega) (by decide) dX8_along_48 ?_
      refine lv_l2i hx hb dX8_along_49 rfl ?_
      have hF : f_X8_along nw fi ch pa pb pc_ pd pe pm = (((((f_X8_changes nw ch pa pb pc_ pd pe) pm.toNatClampNeg)).toInt32), fi, (f_X8_changes nw ch pa pb pc_ pd pe)) := hF
      have hf0 := yk_fst hF
      have hg0 := yk_snd hF
      have hf1 := yk_fst hg0
      have hg1 := yk_snd hg0
      rw [hf0, hf1, hg1] at hQ
      exact hQ _ _ _ _ dX8_along_50 hP hS
    · replace hF := hF.trans (if_pos hc2)
      refine lv_aload_n hx hb dX8_along_24 rfl (lv_at hl 0 rfl) ?_
      refine lv_ldc (v := (-1000001)) hx hb hown (hts _ kX8_along_0) dX8_along_25 ?_
      refine yk_i [0] (va_runV (As := [.int (-1000001)]) (rest := []) ⟨hx, hb, hml, hown, hts⟩ (c_X8_found l D cy ta m_now m_undone m_slots m_slotKind m_hasSlot m_sheetBits m_sheetSize m_sheets m_fresh m_rootWhich m_signs m_atNought m_change m_table m_carried u fi aa bb dd ro db mn (-1000001) H.size) (cwV 1 hts gX8_along_X8_found rfl rfl rfl hv_X8_found (yk_room hRf hRl rfl rfl)) (yk_pv (q := (RX8, TX8, 23)) hG hA hS hK hP hD [0] (by decide +kernel) rfl rfl rfl) rfl rfl hl.1 rfl (lv_room (Nat.le_of_ble_eq_true rfl)) dX8_along_27 ⟨Nat.zero_le _, Nat.zero_le _⟩) hP hD hS hA rfl (Eq.trans (b := [ta]) rfl rfl) (fun H locs hP9 hD9 hS9 => ?_)
      replace hP : va_P D vwCl [(ta, .inr (8, [.ref m_now, .ref m_undone, .ref m_slots, .ref m_slotKind, .ref m_hasSlot, .ref m_sheetBits, .ref m_sheetSize, .ref m_sheets, .int (nI u), .int ((f_X8_found fi (-1000001)).2), .ref m_fresh, .long aa, .long bb, .long dd, .int (nI ro), .ref m_rootWhich, .int db, .ref m_signs, .ref m_atNought, .int (nI mn), .ref m_change, .ref m_table, .ref m_carried])), (m_now, .inl (cy 0, 29, .inl nw)), (m_change, .inl (cy 1, 10, .inr (.inl ch)))] H := hP9
      replace hD : va_D A [(ta, .inr (8, [.ref m_now, .ref m_undone, .ref m_slots, .ref m_slotKind, .ref m_hasSlot, .ref m_sheetBits, .ref m_sheetSize, .ref m_sheets, .int (nI u), .int ((f_X8_found fi (-1000001)).2), .ref m_fresh, .long aa, .long bb, .long dd, .int (nI ro), .ref m_rootWhich, .int db, .ref m_signs, .ref m_atNought, .int (nI mn), .ref m_change, .ref m_table, .ref m_carried])), (m_now, .inl (cy 0, 29, .inl nw)), (m_change, .inl (cy 1, 10, .inr (.inl ch)))] := hD9
      replace hS := hS9
      clear hP9 hD9 hS9
      have hF : f_X8_along nw fi ch pa pb pc_ pd pe pm = (((f_X8_found fi (-1000001)).1), ((f_X8_found fi (-1000001)).2), ch) := hF
      have hf0 := yk_fst hF
      have hg0 := yk_snd hF
      have hf1 := yk_fst hg0
      have hg1 := yk_snd hg0
      rw [hf0, hf1, hg1] at hQ
      exact hQ _ _ _ _ dX8_along_30 hP hS

theorem kX8_falls_0 : Cond.constant RX8 68 (-1000001) ∈ wsX8_falls := by decide +kernel
def f_X8_falls (nw : Nat → Int32) (fi : Int32) (pa : Int32) (pb : Int32) (pc_ : Int32) (pd : Int32) (pe : Int32) (px : Int32) (py : Int32) : Int32 × Int32 := (if (f_X8_areSmall pa pb pc_ pd pe) = 0 then (((f_X8_found fi (-1000001)).1), ((f_X8_found fi (-1000001)).2)) else (if (f_X8_isPlace px py) = 0 then (((f_X8_found fi (-1000001)).1), ((f_X8_found fi (-1000001)).2)) else (((((pa + ((2 * pc_) * px)) + (pd * py)) * (f_X8_speedAt nw px py 0)) + (((pb + (pd * px)) + ((2 * pe) * py)) * (f_X8_speedAt nw px py 1))), fi)))
set_option maxHeartbeats 400000000 in
set_option maxRecDepth 100000 in
theorem c_X8_falls (l : Launch) (D : va_G) (cy : Nat → ClassId) (ta : Nat) (m_now : Nat) (m_undone : Nat) (m_slots : Nat) (m_slotKind : Nat) (m_hasSlot : Nat) (m_sheetBits : Nat) (m_sheetSize : Nat) (m_sheets : Nat) (m_fresh : Nat) (m_rootWhich : Nat) (m_signs : Nat) (m_atNought : Nat) (m_change : Nat) (m_table : Nat) (m_carried : Nat) (nw : Nat → Int32) (u : Nat) (fi : Int32) (aa : Int64) (bb : Int64) (dd : Int64) (ro : Nat) (db : Int32) (mn : Nat) (pa : Int32) (pb : Int32) (pc_ : Int32) (pd : Int32) (pe : Int32) (px : Int32) (py : Int32) : yk_Ci l D vwCl (yk_ty cy) yX8_falls wsX8_falls 2 46 [.ref ta, .int pa, .int pb, .int pc_, .int pd, .int pe, .int px, .int py] [(ta, .inr (8, [.ref m_now, .ref m_undone, .ref m_slots, .ref m_slotKind, .ref m_hasSlot, .ref m_sheetBits, .ref m_sheetSize, .ref m_sheets, .int (nI u), .int fi, .ref m_fresh, .long aa, .long bb, .long dd, .int (nI ro), .ref m_rootWhich, .int db, .ref m_signs, .ref m_atNought, .int (nI mn), .ref m_change, .ref m_table, .ref m_carried])), (m_now, .inl (cy 0, 29, .inl nw))] ((f_X8_falls nw fi pa pb pc_ pd pe px py).1) [(ta, .inr (8, [.ref m_now, .ref m_undone, .ref m_slots, .ref m_slotKind, .ref m_hasSlot, .ref m_sheetBits, .ref m_sheetSize, .ref m_sheets, .int (nI u), .int ((f_X8_falls nw fi pa pb pc_ pd pe px py).2), .ref m_fresh, .long aa, .long bb, .long dd, .int (nI ro), .ref m_rootWhich, .int db, .ref m_signs, .ref m_atNought, .int (nI mn), .ref m_change, .ref m_table, .ref m_carried])), (m_now, .inl (cy 0, 29, .inl nw))] := by
  refine yk_eI (cc := cX8_falls) (maxL := 8) (by decide) rfl (Nat.le_of_ble_eq_true rfl) rfl ?_
  intro p e R s m args below meth c A Q ls H locs hx hb hml hown hts hRf hRl hA hK hG hP hD hS hl hQ
  have hP : va_P D vwCl [(ta, .inr (8, [.ref m_now, .ref m_undone, .ref m_slots, .ref m_slotKind, .ref m_hasSlot, .ref m_sheetBits, .ref m_sheetSize, .ref m_sheets, .int (nI u), .int fi, .ref m_fresh, .long aa, .long bb, .long dd, .int (nI ro), .ref m_rootWhich, .int db, .ref m_signs, .ref m_atNought, .int (nI mn), .ref m_change, .ref m_table, .ref m_carried])), (m_now, .inl (cy 0, 29, .inl nw))] H := hP
  have hl : lv_has ls 8 [(0, .ref ta), (1, .int pa), (2, .int pb), (3, .int pc_), (4, .int pd), (5, .int pe), (6, .int px), (7, .int py)] := hl
  have hown : s.vm.findClass RX8 = some m.cls := hown
  have hF : (f_X8_falls nw fi pa pb pc_ pd pe px py) = (f_X8_falls nw fi pa pb pc_ pd pe px py) := rfl
  refine lv_iload_n hx hb dX8_falls_0 rfl (lv_at hl 1 rfl) ?_
  refine lv_iload_n hx hb dX8_falls_1 rfl (lv_at hl 2 rfl) ?_
  refine lv_iload_n hx hb dX8_falls_2 rfl (lv_at hl 3 rfl) ?_
  refine lv_iload hx hb dX8_falls_3 (lv_at hl 4 rfl) ?_
  refine lv_iload hx hb dX8_falls_5 (lv_at hl 5 rfl) ?_
  refine yk_i [] (va_runS (As := [.int pa, .int pb, .int pc_, .int pd, .int pe]) (rest := []) ⟨hx, hb, hml, hown, hts⟩ (c_X8_areSmall l D cy pa pb pc_ pd pe H.size) (va_cwS 5 hts gX8_falls_X8_areSmall rfl rfl rfl hs_X8_areSmall (yk_room hRf hRl rfl rfl)) (yk_ps hG hA hS hK hP hD [] (by decide +kernel) rfl) rfl rfl hl.1 rfl (lv_room (Nat.le_of_ble_eq_true rfl)) dX8_falls_7 ⟨Nat.zero_le _, Nat.zero_le _⟩) hP hD hS hA rfl rfl (fun H locs hP9 hD9 hS9 => ?_)
  replace hP : va_P D vwCl [(ta, .inr (8, [.ref m_now, .ref m_undone, .ref m_slots, .ref m_slotKind, .ref m_hasSlot, .ref m_sheetBits, .ref m_sheetSize, .ref m_sheets, .int (nI u), .int fi, .ref m_fresh, .long aa, .long bb, .long dd, .int (nI ro), .ref m_rootWhich, .int db, .ref m_signs, .ref m_atNought, .int (nI mn), .ref m_change, .ref m_table, .ref m_carried])), (m_now, .inl (cy 0, 29, .inl nw))] H := hP9
  replace hD : va_D A [(ta, .inr (8, [.ref m_now, .ref m_undone, .ref m_slots, .ref m_slotKind, .ref m_hasSlot, .ref m_sheetBits, .ref m_sheetSize, .ref m_sheets, .int (nI u), .int fi, .ref m_fresh, .long aa, .long bb, .long dd, .int (nI ro), .ref m_rootWhich, .int db, .ref m_signs, .ref m_atNought, .int (nI mn), .ref m_change, .ref m_table, .ref m_carried])), (m_now, .inl (cy 0, 29, .inl nw))] := hD9
  replace hS := hS9
  clear hP9 hD9 hS9
  refine lv_if_eq (tgt := 23) hx hb dX8_falls_10 (by decide) (fun hc1 => ?_) (fun hc1 => ?_)
  · replace hF := hF.trans (if_pos hc1)
    refine lv_aload_n hx hb dX8_falls_23 rfl (lv_at hl 0 rfl) ?_
    refine lv_ldc (v := (-1000001)) hx hb hown (hts _ kX8_falls_0) dX8_falls_24 ?_
    refine yk_i [0] (va_runV (As := [.int (-1000001)]) (rest := []) ⟨hx, hb, hml, hown, hts⟩ (c_X8_found l D cy ta m_now m_undone m_slots m_slotKind m_hasSlot m_sheetBits m_sheetSize m_sheets m_fresh m_rootWhich m_signs m_atNought m_change m_table m_carried u fi aa bb dd ro db mn (-1000001) H.size) (cwV 1 hts gX8_falls_X8_found rfl rfl rfl hv_X8_found (yk_room hRf hRl rfl rfl)) (yk_pv (q := (RX8, TX8, 23)) hG hA hS hK hP hD [0] (by decide +kernel) rfl rfl rfl) rfl rfl hl.1 rfl (lv_room (Nat.le_of_ble_eq_true rfl)) dX8_falls_26 ⟨Nat.zero_le _, Nat.zero_le _⟩) hP hD hS hA rfl (Eq.trans (b := [ta]) rfl rfl) (fun H locs hP9 hD9 hS9 => ?_)
    replace hP : va_P D vwCl [(ta, .inr (8, [.ref m_now, .ref m_undone, .ref m_slots, .ref m_slotKind, .ref m_hasSlot, .ref m_sheetBits, .ref m_sheetSize, .ref m_sheets, .int (nI u), .int ((f_X8_found fi (-1000001)).2), .ref m_fresh, .long aa, .long bb, .long dd, .int (nI ro), .ref m_rootWhich, .int db, .ref m_signs, .ref m_atNought, .int (nI mn), .ref m_change, .ref m_table, .ref m_carried])), (m_now, .inl (cy 0, 29, .inl nw))] H := hP9
    replace hD : va_D A [(ta, .inr (8, [.ref m_now, .ref m_undone, .ref m_slots, .ref m_slotKind, .ref m_hasSlot, .ref m_sheetBits, .ref m_sheetSize, .ref m_sheets, .int (nI u), .int ((f_X8_found fi (-1000001)).2), .ref m_fresh, .long aa, .long bb, .long dd, .int (nI ro), .ref m_rootWhich, .int db, .ref m_signs, .ref m_atNought, .int (nI mn), .ref m_change, .ref m_table, .ref m_carried])), (m_now, .inl (cy 0, 29, .inl nw))] := hD9
    replace hS := hS9
    clear hP9 hD9 hS9
    have hF : f_X8_falls nw fi pa pb pc_ pd pe px py = (((f_X8_found fi (-1000001)).1), ((f_X8_found fi (-1000001)).2)) := hF
    have hf0 := yk_fst hF
    have hg0 := yk_snd hF
    rw [hf0, hg0] at hQ
    exact hQ _ _ _ _ dX8_falls_29 hP hS
  · replace hF := hF.trans (if_neg hc1)
    refine lv_iload hx hb dX8_falls_13 (lv_at hl 6 rfl) ?_
    refine lv_iload hx hb dX8_falls_15 (lv_at hl 7 rfl) ?_
    refine yk_i [] (va_runS (As := [.int px, .int py]) (rest := []) ⟨hx, hb, hml, hown, hts⟩ (c_X8_isPlace l D cy px py H.size) (va_cwS 2 hts gX8_falls_X8_isPlace rfl rfl rfl hs_X8_isPlace (yk_room hRf hRl rfl rfl)) (yk_ps hG hA hS hK hP hD [] (by decide +kernel) rfl) rfl rfl hl.1 rfl (lv_room (Nat.le_of_ble_eq_true rfl)) dX8_falls_17 ⟨Nat.zero_le _, Nat.zero_le _⟩) hP hD hS hA rfl rfl (fun H locs hP9 hD9 hS9 => ?_)
    replace hP : va_P D vwCl [(ta, .inr (8, [.ref m_now, .ref m_undone, .ref m_slots, .ref m_slotKind, .ref m_hasSlot, .ref m_sheetBits, .ref m_sheetSize, .ref m_sheets, .int (nI u), .int fi, .ref m_fresh, .long aa, .long bb, .long dd, .int (nI ro), .ref m_rootWhich, .int db, .ref m_signs, .ref m_atNought, .int (nI mn), .ref m_change, .ref m_table, .ref m_carried])), (m_now, .inl (cy 0, 29, .inl nw))] H := hP9
    replace hD : va_D A [(ta, .inr (8, [.ref m_now, .ref m_undone, .ref m_slots, .ref m_slotKind, .ref m_hasSlot, .ref m_sheetBits, .ref m_sheetSize, .ref m_sheets, .int (nI u), .int fi, .ref m_fresh, .long aa, .long bb, .long dd, .int (nI ro), .ref m_rootWhich, .int db, .ref m_signs, .ref m_atNought, .int (nI mn), .ref m_change, .ref m_table, .ref m_carried])), (m_now, .inl (cy 0, 29, .inl nw))] := hD9
    replace hS := hS9
    clear hP9 hD9 hS9
    refine lv_if_ne (tgt := 30) hx hb dX8_falls_20 (by decide) (fun hc2 => ?_) (fun hc2 => ?_)
    · replace hF := hF.trans (if_neg hc2)
      refine lv_iload_n hx hb dX8_falls_30 rfl (lv_at hl 1 rfl) ?_
      refine lv_iconst (v := 2) hx hb dX8_falls_31 (by decide) ?_
      refine lv_iload_n hx hb dX8_falls_32 rfl (lv_at hl 3 rfl) ?_
      refine lv_imul hx hb dX8_falls_33 ?_
      refine lv_iload hx hb dX8_falls_34 (lv_at hl 6 rfl) ?_
      refine lv_imul hx hb dX8_falls_36 ?_
      refine lv_iadd hx hb dX8_falls_37 ?_
      refine lv_iload hx hb dX8_falls_38 (lv_at hl 4 rfl) ?_
      refine lv_iload hx hb dX8_falls_40 (lv_at hl 7 rfl) ?_
      refine lv_imul hx hb dX8_falls_42 ?_
      refine lv_iadd hx hb dX8_falls_43 ?_
      refine lv_aload_n hx hb dX8_falls_44 rfl (lv_at hl 0 rfl) ?_
      refine lv_iload hx hb dX8_falls_45 (lv_at hl 6 rfl) ?_
      refine lv_iload hx hb dX8_falls_47 (lv_at hl 7 rfl) ?_
      refine lv_iconst (v := 0) hx hb dX8_falls_49 (by decide) ?_
      refine yk_i [0, 1] (va_runV (As := [.int px, .int py, .int 0]) (rest := [.int ((pa + ((2 * pc_) * px)) + (pd * py))]) ⟨hx, hb, hml, hown, hts⟩ (c_X8_speedAt l D cy ta m_now m_undone m_slots m_slotKind m_hasSlot m_sheetBits m_sheetSize m_sheets m_fresh m_rootWhich m_signs m_atNought m_change m_table m_carried nw u fi aa bb dd ro db mn px py 0 H.size) (cwV 3 hts gX8_falls_X8_speedAt rfl rfl rfl hv_X8_speedAt (yk_room hRf hRl rfl rfl)) (yk_pv (q := (RX8, TX8, 23)) hG hA hS hK hP hD [0, 1] (by decide +kernel) rfl rfl rfl) rfl rfl hl.1 rfl (lv_room (Nat.le_of_ble_eq_true rfl)) dX8_falls_50 ⟨Nat.zero_le _, Nat.zero_le _⟩) hP hD hS hA rfl (Eq.trans (b := [ta, m_now]) rfl rfl) (fun H locs hP9 hD9 hS9 => ?_)
      replace hP : va_P D vwCl [(ta, .inr (8, [.ref m_now, .ref m_undone, .ref m_slots, .ref m_slotKind, .ref m_hasSlot, .ref m_sheetBits, .ref m_sheetSize, .ref m_sheets, .int (nI u), .int fi, .ref m_fresh, .long aa, .long bb, .long dd, .int (nI ro), .ref m_rootWhich, .int db, .ref m_signs, .ref m_atNought, .int (nI mn), .ref m_change, .ref m_table, .ref m_carried])), (m_now, .inl (cy 0, 29, .inl nw))] H := hP9
      replace hD : va_D A [(ta, .inr (8, [.ref m_now, .ref m_undone, .ref m_slots, .ref m_slotKind, .ref m_hasSlot, .ref m_sheetBits, .ref m_sheetSize, .ref m_sheets, .int (nI u), .int fi, .ref m_fresh, .long aa, .long bb, .long dd, .int (nI ro), .ref m_rootWhich, .int db, .ref m_signs, .ref m_atNought, .int (nI mn), .ref m_change, .ref m_table, .ref m_carried])), (m_now, .inl (cy 0, 29, .inl nw))] := hD9
      replace hS := hS9
      clear hP9 hD9 hS9
      refine lv_imul hx hb dX8_falls_53 ?_
      refine lv_iload_n hx hb dX8_falls_54 rfl (lv_at hl 2 rfl) ?_
      refine lv_iload hx hb dX8_falls_55 (lv_at hl 4 rfl) ?_
      refine lv_iload hx hb dX8_falls_57 (lv_at hl 6 rfl) ?_
      refine lv_imul hx hb dX8_falls_59 ?_
      refine lv_iadd hx hb dX8_falls_60 ?_
      refine lv_iconst (v := 2) hx hb dX8_falls_61 (by decide) ?_
      refine lv_iload hx hb dX8_falls_62 (lv_at hl 5 rfl) ?_
      refine lv_imul hx hb dX8_falls_64 ?_
      refine lv_iload hx hb dX8_falls_65 (lv_at hl 7 rfl) ?_
      refine lv_imul hx hb dX8_falls_67 ?_
      refine lv_iadd hx hb dX8_falls_68 ?_
      refine lv_aload_n hx hb dX8_falls_69 rfl (lv_at hl 0 rfl) ?_
      refine lv_iload hx hb dX8_falls_70 (lv_at hl 6 rfl) ?_
      refine lv_iload hx hb dX8_falls_72 (lv_at hl 7 rfl) ?_
      refine lv_iconst (v := 1) hx hb dX8_falls_74 (by decide) ?_
      refine yk_i [0, 1] (va_runV (As := [.int px, .int py, .int 1]) (rest := [.int ((pb + (pd * px)) + ((2 * pe) * py)), .int (((pa + ((2 * pc_) * px)) + (pd * py)) * (f_X8_speedAt nw px py 0))]) ⟨hx, hb, hml, hown, hts⟩ (c_X8_speedAt l D cy ta m_now m_undone m_slots m_slotKind m_hasSlot m_sheetBits m_sheetSize m_sheets m_fresh m_rootWhich m_signs m_atNought m_change m_table m_carried nw u fi aa bb dd ro db mn px py 1 H.size) (cwV 3 hts gX8_falls_X8_speedAt rfl rfl rfl hv_X8_speedAt (yk_room hRf hRl rfl rfl)) (yk_pv (q := (RX8, TX8, 23)) hG hA hS hK hP hD [0, 1] (by decide +kernel) rfl rfl rfl) rfl rfl hl.1 rfl (lv_room (Nat.le_of_ble_eq_true rfl)) dX8_falls_75 ⟨Nat.zero_le _, Nat.zero_le _⟩) hP hD hS hA rfl (Eq.trans (b := [ta, m_now]) rfl rfl) (fun H locs hP9 hD9 hS9 => ?_)
      replace hP : va_P D vwCl [(ta, .inr (8, [.ref m_now, .ref m_undone, .ref m_slots, .ref m_slotKind, .ref m_hasSlot, .ref m_sheetBits, .ref m_sheetSize, .ref m_sheets, .int (nI u), .int fi, .ref m_fresh, .long aa, .long bb, .long dd, .int (nI ro), .ref m_rootWhich, .int db, .ref m_signs, .ref m_atNought, .int (nI mn), .ref m_change, .ref m_table, .ref m_carried])), (m_now, .inl (cy 0, 29, .inl nw))] H := hP9
      replace hD : va_D A [(ta, .inr (8, [.ref m_now, .ref m_undone, .ref m_slots, .ref m_slotKind, .ref m_hasSlot, .ref m_sheetBits, .ref m_sheetSize, .ref m_sheets, .int (nI u), .int fi, .ref m_fresh, .long aa, .long bb, .long dd, .int (nI ro), .ref m_rootWhich, .int db, .ref m_signs, .ref m_atNought, .int (nI mn), .ref m_change, .ref m_table, .ref m_carried])), (m_now, .inl (cy 0, 29, .inl nw))] := hD9
      replace hS := hS9
      clear hP9 hD9 hS9
      refine lv_imul hx hb dX8_falls_78 ?_
      refine lv_iadd hx hb dX8_falls_79 ?_
      have hF : f_X8_falls nw fi pa pb pc_ pd pe px py = (((((pa + ((2 * pc_) * px)) + (pd * py)) * (f_X8_speedAt nw px py 0)) + (((pb + (pd * px)) + ((2 * pe) * py)) * (f_X8_speedAt nw px py 1))), fi) := hF
      have hf0 := yk_fst hF
      have hg0 := yk_snd hF
      rw [hf0, hg0] at hQ
      exact hQ _ _ _ _ dX8_falls_80 hP hS
    · replace hF := hF.trans (if_pos hc2)
      refine lv_aload_n hx hb dX8_falls_23 rfl (lv_at hl 0 rfl) ?_
      refine lv_ldc (v := (-1000001)) hx hb hown (hts _ kX8_falls_0) dX8_falls_24 ?_
      refine yk_i [0] (va_runV (As := [.int (-1000001)]) (rest := []) ⟨hx, hb, hml, hown, hts⟩ (c_X8_found l D cy ta m_now m_undone m_slots m_slotKind m_hasSlot m_sheetBits m_sheetSize m_sheets m_fresh m_rootWhich m_signs m_atNought m_change m_table m_carried u fi aa bb dd ro db mn (-1000001) H.size) (cwV 1 hts gX8_falls_X8_found rfl rfl rfl hv_X8_found (yk_room hRf hRl rfl rfl)) (yk_pv (q := (RX8, TX8, 23)) hG hA hS hK hP hD [0] (by decide +kernel) rfl rfl rfl) rfl rfl hl.1 rfl (lv_room (Nat.le_of_ble_eq_true rfl)) dX8_falls_26 ⟨Nat.zero_le _, Nat.zero_le _⟩) hP hD hS hA rfl (Eq.trans (b := [ta]) rfl rfl) (fun H locs hP9 hD9 hS9 => ?_)
      replace hP : va_P D vwCl [(ta, .inr (8, [.ref m_now, .ref m_undone, .ref m_slots, .ref m_slotKind, .ref m_hasSlot, .ref m_sheetBits, .ref m_sheetSize, .ref m_sheets, .int (nI u), .int ((f_X8_found fi (-1000001)).2), .ref m_fresh, .long aa, .long bb, .long dd, .int (nI ro), .ref m_rootWhich, .int db, .ref m_signs, .ref m_atNought, .int (nI mn), .ref m_change, .ref m_table, .ref m_carried])), (m_now, .inl (cy 0, 29, .inl nw))] H := hP9
      replace hD : va_D A [(ta, .inr (8, [.ref m_now, .ref m_undone, .ref m_slots, .ref m_slotKind, .ref m_hasSlot, .ref m_sheetBits, .ref m_sheetSize, .ref m_sheets, .int (nI u), .int ((f_X8_found fi (-1000001)).2), .ref m_fresh, .long aa, .long bb, .long dd, .int (nI ro), .ref m_rootWhich, .int db, .ref m_signs, .ref m_atNought, .int (nI mn), .ref m_change, .ref m_table, .ref m_carried])), (m_now, .inl (cy 0, 29, .inl nw))] := hD9
      replace hS := hS9
      clear hP9 hD9 hS9
      have hF : f_X8_falls nw fi pa pb pc_ pd pe px py = (((f_X8_found fi (-1000001)).1), ((f_X8_found fi (-1000001)).2)) := hF
      have hf0 := yk_fst hF
      have hg0 := yk_snd hF
      rw [hf0, hg0] at hQ
      exact hQ _ _ _ _ dX8_falls_29 hP hS
