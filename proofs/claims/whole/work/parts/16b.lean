theorem hv_X8_take : yX8_take.cls = RX8 ∧ yX8_take.cls ≠ "java/lang/invoke/MethodHandle" ∧ yX8_take.cls ≠ "java/lang/invoke/VarHandle" ∧ (parseMethodDescriptor yX8_take.desc).map (fun d => d.parameters.length) = some 0 := by decide +kernel
theorem hs_X8_take : yX8_take.cls ≠ "java/lang/invoke/MethodHandle" ∧ yX8_take.cls ≠ "java/lang/invoke/VarHandle" ∧ (parseMethodDescriptor yX8_take.desc).map (fun d => d.parameters.length) = some 0 := by decide +kernel
theorem kX8_back_0 : Cond.fieldLink RX8 7 "FlowPlaneModel" "now" "[I" ∈ wsX8_back := by decide +kernel
theorem uX8_back_X8 : ∀ w ∈ u_ws RX8 TX8 23, w ∈ wsX8_back := by decide +kernel
def l_X8_back_6 (nw : Nat → Int32) (un : Nat → Int32) (u : Nat) : Nat → Nat → (Nat → Int32) → (Nat → Int32)
  | 0, ki, znow_6 => znow_6
  | fu_X8_back_6 + 1, ki, znow_6 => (if 12 ≤ (nI ki) then znow_6 else (l_X8_back_6 nw un u fu_X8_back_6 (ki + 1) (upd znow_6 ki (-(znow_6 ki)))))
def f_X8_back (nw : Nat → Int32) (un : Nat → Int32) (u : Nat) : Int32 × Nat × (Nat → Int32) × (Nat → Int32) := (1, ((f_X8_remember nw un u).1), (l_X8_back_6 nw un u (12 + 1) 0 nw), ((f_X8_remember nw un u).2))
set_option maxHeartbeats 400000000 in
set_option maxRecDepth 100000 in
theorem c_X8_back (l : Launch) (D : va_G) (cy : Nat → ClassId) (ta : Nat) (m_now : Nat) (m_undone : Nat) (m_slots : Nat) (m_slotKind : Nat) (m_hasSlot : Nat) (m_sheetBits : Nat) (m_sheetSize : Nat) (m_sheets : Nat) (m_fresh : Nat) (m_rootWhich : Nat) (m_signs : Nat) (m_atNought : Nat) (m_change : Nat) (m_table : Nat) (m_carried : Nat) (nw : Nat → Int32) (un : Nat → Int32) (u : Nat) (fi : Int32) (aa : Int64) (bb : Int64) (dd : Int64) (ro : Nat) (db : Int32) (mn : Nat) (hu : u ≤ 25) : yk_Ci l D vwCl (yk_ty cy) yX8_back wsX8_back 1 21 [.ref ta] [(ta, .inr (8, [.ref m_now, .ref m_undone, .ref m_slots, .ref m_slotKind, .ref m_hasSlot, .ref m_sheetBits, .ref m_sheetSize, .ref m_sheets, .int (nI u), .int fi, .ref m_fresh, .long aa, .long bb, .long dd, .int (nI ro), .ref m_rootWhich, .int db, .ref m_signs, .ref m_atNought, .int (nI mn), .ref m_change, .ref m_table, .ref m_carried])), (m_now, .inl (cy 0, 29, .inl nw)), (m_undone, .inl (cy 0, 725, .inl un))] ((f_X8_back nw un u).1) [(ta, .inr (8, [.ref m_now, .ref m_undone, .ref m_slots, .ref m_slotKind, .ref m_hasSlot, .ref m_sheetBits, .ref m_sheetSize, .ref m_sheets, .int (nI ((f_X8_back nw un u).2.1)), .int fi, .ref m_fresh, .long aa, .long bb, .long dd, .int (nI ro), .ref m_rootWhich, .int db, .ref m_signs, .ref m_atNought, .int (nI mn), .ref m_change, .ref m_table, .ref m_carried])), (m_now, .inl (cy 0, 29, .inl ((f_X8_back nw un u).2.2.1))), (m_undone, .inl (cy 0, 725, .inl ((f_X8_back nw un u).2.2.2)))] := by
  refine yk_eI (cc := cX8_back) (maxL := 2) (by decide) rfl (Nat.le_of_ble_eq_true rfl) rfl ?_
  intro p e R s m args below meth c A Q ls H locs hx hb hml hown hts hRf hRl hA hK hG hP hD hS hl hQ
  have hP : va_P D vwCl [(ta, .inr (8, [.ref m_now, .ref m_undone, .ref m_slots, .ref m_slotKind, .ref m_hasSlot, .ref m_sheetBits, .ref m_sheetSize, .ref m_sheets, .int (nI u), .int fi, .ref m_fresh, .long aa, .long bb, .long dd, .int (nI ro), .ref m_rootWhich, .int db, .ref m_signs, .ref m_atNought, .int (nI mn), .ref m_change, .ref m_table, .ref m_carried])), (m_now, .inl (cy 0, 29, .inl nw)), (m_undone, .inl (cy 0, 725, .inl un))] H := hP
  have hl : lv_has ls 2 [(0, .ref ta)] := hl
  have hown : s.vm.findClass RX8 = some m.cls := hown
  have hF : (f_X8_back nw un u) = (f_X8_back nw un u) := rfl
  refine lv_aload_n hx hb dX8_back_0 rfl (lv_at hl 0 rfl) ?_
  refine yk_v [0, 1, 2] (va_runV (As := []) (rest := []) ⟨hx, hb, hml, hown, hts⟩ (c_X8_remember l D cy ta m_now m_undone m_slots m_slotKind m_hasSlot m_sheetBits m_sheetSize m_sheets m_fresh m_rootWhich m_signs m_atNought m_change m_table m_carried nw un u fi aa bb dd ro db mn hu H.size) (cwV 0 hts gX8_back_X8_remember rfl rfl rfl hv_X8_remember (yk_room hRf hRl rfl rfl)) (yk_pv (q := (RX8, TX8, 23)) hG hA hS hK hP hD [0, 1, 2] (by decide +kernel) rfl rfl rfl) rfl rfl hl.1 rfl (lv_room (Nat.le_of_ble_eq_true rfl)) dX8_back_1 ⟨Nat.zero_le _, Nat.zero_le _⟩) hP hD hS hA rfl (Eq.trans (b := [ta, m_now, m_undone]) rfl rfl) (fun H locs hP9 hD9 hS9 => ?_)
  replace hP : va_P D vwCl [(ta, .inr (8, [.ref m_now, .ref m_undone, .ref m_slots, .ref m_slotKind, .ref m_hasSlot, .ref m_sheetBits, .ref m_sheetSize, .ref m_sheets, .int (nI ((f_X8_remember nw un u).1)), .int fi, .ref m_fresh, .long aa, .long bb, .long dd, .int (nI ro), .ref m_rootWhich, .int db, .ref m_signs, .ref m_atNought, .int (nI mn), .ref m_change, .ref m_table, .ref m_carried])), (m_now, .inl (cy 0, 29, .inl nw)), (m_undone, .inl (cy 0, 725, .inl ((f_X8_remember nw un u).2)))] H := hP9
  replace hD : va_D A [(ta, .inr (8, [.ref m_now, .ref m_undone, .ref m_slots, .ref m_slotKind, .ref m_hasSlot, .ref m_sheetBits, .ref m_sheetSize, .ref m_sheets, .int (nI ((f_X8_remember nw un u).1)), .int fi, .ref m_fresh, .long aa, .long bb, .long dd, .int (nI ro), .ref m_rootWhich, .int db, .ref m_signs, .ref m_atNought, .int (nI mn), .ref m_change, .ref m_table, .ref m_carried])), (m_now, .inl (cy 0, 29, .inl nw)), (m_undone, .inl (cy 0, 725, .inl ((f_X8_remember nw un u).2)))] := hD9
  replace hS := hS9
  clear hP9 hD9 hS9
  refine lv_iconst (v := 0) hx hb dX8_back_4 (by decide) ?_
  refine lv_istore_n (lv' := [(1, .int 0), (0, .ref ta)]) hx hb dX8_back_5 rfl hl (by decide) rfl (fun ls hl9 => ?_)
  replace hl := hl9
  clear hl9
  have J3 : ∀ (H : Heap) (locs : List Loc) (ls : Array Slot), va_P D vwCl [(ta, .inr (8, [.ref m_now, .ref m_undone, .ref m_slots, .ref m_slotKind, .ref m_hasSlot, .ref m_sheetBits, .ref m_sheetSize, .ref m_sheets, .int (nI ((f_X8_remember nw un u).1)), .int fi, .ref m_fresh, .long aa, .long bb, .long dd, .int (nI ro), .ref m_rootWhich, .int db, .ref m_signs, .ref m_atNought, .int (nI mn), .ref m_change, .ref m_table, .ref m_carried])), (m_now, .inl (cy 0, 29, .inl (l_X8_back_6 nw un u (12 + 1) 0 nw))), (m_undone, .inl (cy 0, 725, .inl ((f_X8_remember nw un u).2)))] H → va_D A [(ta, .inr (8, [.ref m_now, .ref m_undone, .ref m_slots, .ref m_slotKind, .ref m_hasSlot, .ref m_sheetBits, .ref m_sheetSize, .ref m_sheets, .int (nI ((f_X8_remember nw un u).1)), .int fi, .ref m_fresh, .long aa, .long bb, .long dd, .int (nI ro), .ref m_rootWhich, .int db, .ref m_signs, .ref m_atNought, .int (nI mn), .ref m_change, .ref m_table, .ref m_carried])), (m_now, .inl (cy 0, 29, .inl (l_X8_back_6 nw un u (12 + 1) 0 nw))), (m_undone, .inl (cy 0, 725, .inl ((f_X8_remember nw un u).2)))] → va_S A s.heap H locs → lv_has ls 2 [(0, .ref ta)] → W p l e R s m args below meth c H locs 0 0 Q (F0 m 31 ls []) := by
    clear hP hD hS hl
    intro H locs ls hP hD hS hl
    refine lv_iconst (v := 1) hx hb dX8_back_31 (by decide) ?_
    have hF : f_X8_back nw un u = (1, ((f_X8_remember nw un u).1), (l_X8_back_6 nw un u (12 + 1) 0 nw), ((f_X8_remember nw un u).2)) := hF
    have hf0 := yk_fst hF
    have hg0 := yk_snd hF
    have hf1 := yk_fst hg0
    have hg1 := yk_snd hg0
    have hf2 := yk_fst hg1
    have hg2 := yk_snd hg1
    rw [hf0, hf1, hf2, hg2] at hQ
    exact hQ _ _ _ _ dX8_back_32 hP hS
  have L6 : ∀ (M9 n6 ki : Nat) (znow_6 : Nat → Int32) (H : Heap) (locs : List Loc) (ls : Array Slot), n6 < M9 → ki + n6 = 12 → (l_X8_back_6 nw un u (12 + 1) 0 nw) = (l_X8_back_6 nw un u (n6 + 1) ki znow_6) → va_P D vwCl [(ta, .inr (8, [.ref m_now, .ref m_undone, .ref m_slots, .ref m_slotKind, .ref m_hasSlot, .ref m_sheetBits, .ref m_sheetSize, .ref m_sheets, .int (nI ((f_X8_remember nw un u).1)), .int fi, .ref m_fresh, .long aa, .long bb, .long dd, .int (nI ro), .ref m_rootWhich, .int db, .ref m_signs, .ref m_atNought, .int (nI mn), .ref m_change, .ref m_table, .ref m_carried])), (m_now, .inl (cy 0, 29, .inl znow_6)), (m_undone, .inl (cy 0, 725, .inl ((f_X8_remember nw un u).2)))] H → va_D A [(ta, .inr (8, [.ref m_now, .ref m_undone, .ref m_slots, .ref m_slotKind, .ref m_hasSlot, .ref m_sheetBits, .ref m_sheetSize, .ref m_sheets, .int (nI ((f_X8_remember nw un u).1)), .int fi, .ref m_fresh, .long aa, .long bb, .long dd, .int (nI ro), .ref m_rootWhich, .int db, .ref m_signs, .ref m_atNought, .int (nI mn), .ref m_change, .ref m_table, .ref m_carried])), (m_now, .inl (cy 0, 29, .inl znow_6)), (m_undone, .inl (cy 0, 725, .inl ((f_X8_remember nw un u).2)))] → va_S A s.heap H locs → lv_has ls 2 [(0, .ref ta), (1, .int (nI ki))] → W p l e R s m args below meth c H locs 0 0 Q (F0 m 6 ls []) := by
    clear hP hD hS hl
    intro M9
    induction M9 with
    | zero => intro n6 ki _ _ _ _ hn; exact absurd hn (Nat.not_lt_zero _)
    | succ M9 ih6 =>
      intro n6 ki znow_6 H locs ls hn6 hk6 hV6 hP hD hS hl
      refine lv_iload_n hx hb dX8_back_6 rfl (lv_at hl 1 rfl) ?_
      refine lv_bipush (v := 12) hx hb dX8_back_7 (by decide) ?_
      refine lv_icmp_ge (tgt := 31) hx hb dX8_back_9 (by decide) (fun hc2 => ?_) (fun hc2 => ?_)
      · replace hV6 := hV6.trans (if_pos hc2)
        have hV6 : (l_X8_back_6 nw un u (12 + 1) 0 nw) = znow_6 := hV6
        have J3 := J3
        rw [hV6] at J3
        exact J3 _ _ _ hP hD hS (lv_sub hl [0] rfl)
      · replace hV6 := hV6.trans (if_neg hc2)
        have hlt6 : ki < 12 := yk_lt hk6 (by omega) hc2
        refine lv_aload_n hx hb dX8_back_12 rfl (lv_at hl 0 rfl) ?_
        refine va_get (D := D) (ci := 8) (v := .ref m_now) (C := RX8) (T := TX8) (N := 23) hx hb hts uX8_back_X8 hown hK hP 0 rfl rfl 0 (by decide) (hts _ kX8_back_0) (fun _ h9 => h9) rfl dX8_back_13 ?_
        refine lv_iload_n hx hb dX8_back_16 rfl (lv_at hl 1 rfl) ?_
        refine lv_aload_n hx hb dX8_back_17 rfl (lv_at hl 0 rfl) ?_
        refine va_get (D := D) (ci := 8) (v := .ref m_now) (C := RX8) (T := TX8) (N := 23) hx hb hts uX8_back_X8 hown hK hP 0 rfl rfl 0 (by decide) (hts _ kX8_back_0) (fun _ h9 => h9) rfl dX8_back_18 ?_
        refine lv_iload_n hx hb dX8_back_21 rfl (lv_at hl 1 rfl) ?_
        refine yk_ild hx hb hK hP 1 0 rfl rfl ki (by omega) (by decide) dX8_back_22 ?_
        refine lv_ineg hx hb dX8_back_23 ?_
        refine yk_ist hx hb hK hP hD hS 1 0 rfl rfl ki (by omega) (by decide) dX8_back_24 (fun H locs hP9 hD9 hS9 => ?_)
        replace hP : va_P D vwCl [(ta, .inr (8, [.ref m_now, .ref m_undone, .ref m_slots, .ref m_slotKind, .ref m_hasSlot, .ref m_sheetBits, .ref m_sheetSize, .ref m_sheets, .int (nI ((f_X8_remember nw un u).1)), .int fi, .ref m_fresh, .long aa, .long bb, .long dd, .int (nI ro), .ref m_rootWhich, .int db, .ref m_signs, .ref m_atNought, .int (nI mn), .ref m_change, .ref m_table, .ref m_carried])), (m_now, .inl (cy 0, 29, .inl (upd znow_6 ki (-(znow_6 ki))))), (m_undone, .inl (cy 0, 725, .inl ((f_X8_remember nw un u).2)))] H := hP9
        replace hD : va_D A [(ta, .inr (8, [.ref m_now, .ref m_undone, .ref m_slots, .ref m_slotKind, .ref m_hasSlot, .ref m_sheetBits, .ref m_sheetSize, .ref m_sheets, .int (nI ((f_X8_remember nw un u).1)), .int fi, .ref m_fresh, .long aa, .long bb, .long dd, .int (nI ro), .ref m_rootWhich, .int db, .ref m_signs, .ref m_atNought, .int (nI mn), .ref m_change, .ref m_table, .ref m_carried])), (m_now, .inl (cy 0, 29, .inl (upd znow_6 ki (-(znow_6 ki))))), (m_undone, .inl (cy 0, 725, .inl ((f_X8_remember nw un u).2)))] := hD9
        replace hS := hS9
        clear hP9 hD9 hS9
        refine lv_iinc (v := nI (ki + 1)) (lv' := [(1, .int (nI (ki + 1))), (0, .ref ta)]) hx hb dX8_back_25 hl (k := 1) rfl (yk_inc ki) (by decide) rfl (fun ls hl9 => ?_)
        replace hl := hl9
        clear hl9
        refine lv_goto (tgt := 6) hx hb dX8_back_28 (by decide) ?_
        obtain ⟨n9, rfl⟩ : ∃ n9, n6 = n9 + 1 := ⟨n6 - 1, by omega⟩
        exact ih6 n9 (ki + 1) (upd znow_6 ki (-(znow_6 ki))) _ _ _ (by omega) (by omega)  hV6 hP hD hS (lv_sub hl [1, 0] rfl)
  exact L6 (12 + 1) 12 0 nw _ _ _ (Nat.lt_succ_self _) (by omega)  rfl hP hD hS (lv_sub hl [1, 0] rfl)

theorem kX8_take_0 : Cond.fieldLink RX8 7 "FlowPlaneModel" "now" "[I" ∈ wsX8_take := by decide +kernel
theorem kX8_take_1 : Cond.fieldLink RX8 35 "FlowPlaneModel" "fresh" "[I" ∈ wsX8_take := by decide +kernel
theorem uX8_take_X8 : ∀ w ∈ u_ws RX8 TX8 23, w ∈ wsX8_take := by decide +kernel
def l_X8_take_2 (nw : Nat → Int32) (fr : Nat → Int32) : Nat → Nat → (Nat → Int32) → (Nat → Int32)
  | 0, ki, znow_2 => znow_2
  | fu_X8_take_2 + 1, ki, znow_2 => (if 12 ≤ (nI ki) then znow_2 else (l_X8_take_2 nw fr fu_X8_take_2 (ki + 1) (upd znow_2 ki (fr ki))))
def f_X8_take (nw : Nat → Int32) (fr : Nat → Int32) : (Nat → Int32) := (l_X8_take_2 nw fr (12 + 1) 0 nw)
set_option maxHeartbeats 400000000 in
set_option maxRecDepth 100000 in
theorem c_X8_take (l : Launch) (D : va_G) (cy : Nat → ClassId) (ta : Nat) (m_now : Nat) (m_fresh : Nat) (m_undone : Nat) (m_slots : Nat) (m_slotKind : Nat) (m_hasSlot : Nat) (m_sheetBits : Nat) (m_sheetSize : Nat) (m_sheets : Nat) (m_rootWhich : Nat) (m_signs : Nat) (m_atNought : Nat) (m_change : Nat) (m_table : Nat) (m_carried : Nat) (nw : Nat → Int32) (u : Nat) (fi : Int32) (fr : Nat → Int32) (aa : Int64) (bb : Int64) (dd : Int64) (ro : Nat) (db : Int32) (mn : Nat) : yk_Cv l D vwCl (yk_ty cy) yX8_take wsX8_take 0 0 [.ref ta] [(ta, .inr (8, [.ref m_now, .ref m_undone, .ref m_slots, .ref m_slotKind, .ref m_hasSlot, .ref m_sheetBits, .ref m_sheetSize, .ref m_sheets, .int (nI u), .int fi, .ref m_fresh, .long aa, .long bb, .long dd, .int (nI ro), .ref m_rootWhich, .int db, .ref m_signs, .ref m_atNought, .int (nI mn), .ref m_change, .ref m_table, .ref m_carried])), (m_now, .inl (cy 0, 29, .inl nw)), (m_fresh, .inl (cy 0, 12, .inl fr))] [(ta, .inr (8, [.ref m_now, .ref m_undone, .ref m_slots, .ref m_slotKind, .ref m_hasSlot, .ref m_sheetBits, .ref m_sheetSize, .ref m_sheets, .int (nI u), .int fi, .ref m_fresh, .long aa, .long bb, .long dd, .int (nI ro), .ref m_rootWhich, .int db, .ref m_signs, .ref m_atNought, .int (nI mn), .ref m_change, .ref m_table, .ref m_carried])), (m_now, .inl (cy 0, 29, .inl (f_X8_take nw fr))), (m_fresh, .inl (cy 0, 12, .inl fr))] := by
  refine yk_eV (cc := cX8_take) (maxL := 2) (by decide) rfl (Nat.le_of_ble_eq_true rfl) ?_
  intro p e R s m args below meth c A Q ls H locs hx hb hml hown hts hRf hRl hA hK hG hP hD hS hl hQ
  have hP : va_P D vwCl [(ta, .inr (8, [.ref m_now, .ref m_undone, .ref m_slots, .ref m_slotKind, .ref m_hasSlot, .ref m_sheetBits, .ref m_sheetSize, .ref m_sheets, .int (nI u), .int fi, .ref m_fresh, .long aa, .long bb, .long dd, .int (nI ro), .ref m_rootWhich, .int db, .ref m_signs, .ref m_atNought, .int (nI mn), .ref m_change, .ref m_table, .ref m_carried])), (m_now, .inl (cy 0, 29, .inl nw)), (m_fresh, .inl (cy 0, 12, .inl fr))] H := hP
  have hl : lv_has ls 2 [(0, .ref ta)] := hl
  have hown : s.vm.findClass RX8 = some m.cls := hown
  have hF : (f_X8_take nw fr) = (f_X8_take nw fr) := rfl
  refine lv_iconst (v := 0) hx hb dX8_take_0 (by decide) ?_
  refine lv_istore_n (lv' := [(1, .int 0), (0, .ref ta)]) hx hb dX8_take_1 rfl hl (by decide) rfl (fun ls hl9 => ?_)
  replace hl := hl9
  clear hl9
  have J3 : ∀ (H : Heap) (locs : List Loc) (ls : Array Slot), va_P D vwCl [(ta, .inr (8, [.ref m_now, .ref m_undone, .ref m_slots, .ref m_slotKind, .ref m_hasSlot, .ref m_sheetBits, .ref m_sheetSize, .ref m_sheets, .int (nI u), .int fi, .ref m_fresh, .long aa, .long bb, .long dd, .int (nI ro), .ref m_rootWhich, .int db, .ref m_signs, .ref m_atNought, .int (nI mn), .ref m_change, .ref m_table, .ref m_carried])), (m_now, .inl (cy 0, 29, .inl (l_X8_take_2 nw fr (12 + 1) 0 nw))), (m_fresh, .inl (cy 0, 12, .inl fr))] H → va_D A [(ta, .inr (8, [.ref m_now, .ref m_undone, .ref m_slots, .ref m_slotKind, .ref m_hasSlot, .ref m_sheetBits, .ref m_sheetSize, .ref m_sheets, .int (nI u), .int fi, .ref m_fresh, .long aa, .long bb, .long dd, .int (nI ro), .ref m_rootWhich, .int db, .ref m_signs, .ref m_atNought, .int (nI mn), .ref m_change, .ref m_table, .ref m_carried])), (m_now, .inl (cy 0, 29, .inl (l_X8_take_2 nw fr (12 + 1) 0 nw))), (m_fresh, .inl (cy 0, 12, .inl fr))] → va_S A s.heap H locs → lv_has ls 2 [(0, .ref ta)] → W p l e R s m args below meth c H locs 0 0 Q (F0 m 26 ls []) := by
    clear hP hD hS hl
    intro H locs ls hP hD hS hl
    have hF : f_X8_take nw fr = (l_X8_take_2 nw fr (12 + 1) 0 nw) := hF
    rw [hF] at hQ
    exact hQ _ _ _ _ dX8_take_26 hP hS
  have L2 : ∀ (M9 n2 ki : Nat) (znow_2 : Nat → Int32) (H : Heap) (locs : List Loc) (ls : Array Slot), n2 < M9 → ki + n2 = 12 → (l_X8_take_2 nw fr (12 + 1) 0 nw) = (l_X8_take_2 nw fr (n2 + 1) ki znow_2) → va_P D vwCl [(ta, .inr (8, [.ref m_now, .ref m_undone, .ref m_slots, .ref m_slotKind, .ref m_hasSlot, .ref m_sheetBits, .ref m_sheetSize, .ref m_sheets, .int (nI u), .int fi, .ref m_fresh, .long aa, .long bb, .long dd, .int (nI ro), .ref m_rootWhich, .int db, .ref m_signs, .ref m_atNought, .int (nI mn), .ref m_change, .ref m_table, .ref m_carried])), (m_now, .inl (cy 0, 29, .inl znow_2)), (m_fresh, .inl (cy 0, 12, .inl fr))] H → va_D A [(ta, .inr (8, [.ref m_now, .ref m_undone, .ref m_slots, .ref m_slotKind, .ref m_hasSlot, .ref m_sheetBits, .ref m_sheetSize, .ref m_sheets, .int (nI u), .int fi, .ref m_fresh, .long aa, .long bb, .long dd, .int (nI ro), .ref m_rootWhich, .int db, .ref m_signs, .ref m_atNought, .int (nI mn), .ref m_change, .ref m_table, .ref m_carried])), (m_now, .inl (cy 0, 29, .inl znow_2)), (m_fresh, .inl (cy 0, 12, .inl fr))] → va_S A s.heap H locs → lv_has ls 2 [(0, .ref ta), (1, .int (nI ki))] → W p l e R s m args below meth c H locs 0 0 Q (F0 m 2 ls []) := by
    clear hP hD hS hl
    intro M9
    induction M9 with
    | zero => intro n2 ki _ _ _ _ hn; exact absurd hn (Nat.not_lt_zero _)
    | succ M9 ih2 =>
      intro n2 ki znow_2 H locs ls hn2 hk2 hV2 hP hD hS hl
      refine lv_iload_n hx hb dX8_take_2 rfl (lv_at hl 1 rfl) ?_
      refine lv_bipush (v := 12) hx hb dX8_take_3 (by decide) ?_
      refine lv_icmp_ge (tgt := 26) hx hb dX8_take_5 (by decide) (fun hc2 => ?_) (fun hc2 => ?_)
      · replace hV2 := hV2.trans (if_pos hc2)
        have hV2 : (l_X8_take_2 nw fr (12 + 1) 0 nw) = znow_2 := hV2
        have J3 := J3
        rw [hV2] at J3
        exact J3 _ _ _ hP hD hS (lv_sub hl [0] rfl)
      · replace hV2 := hV2.trans (if_neg hc2)
        have hlt2 : ki < 12 := yk_lt hk2 (by omega) hc2
        refine lv_aload_n hx hb dX8_take_8 rfl (lv_at hl 0 rfl) ?_
        refine va_get (D := D) (ci := 8) (v := .ref m_now) (C := RX8) (T := TX8) (N := 23) hx hb hts uX8_take_X8 hown hK hP 0 rfl rfl 0 (by decide) (hts _ kX8_take_0) (fun _ h9 => h9) rfl dX8_take_9 ?_
        refine lv_iload_n hx hb dX8_take_12 rfl (lv_at hl 1 rfl) ?_
        refine lv_aload_n hx hb dX8_take_13 rfl (lv_at hl 0 rfl) ?_
        refine va_get (D := D) (ci := 8) (v := .ref m_fresh) (C := RX8) (T := TX8) (N := 23) hx hb hts uX8_take_X8 hown hK hP 0 rfl rfl 10 (by decide) (hts _ kX8_take_1) (fun _ h9 => h9) rfl dX8_take_14 ?_
        refine lv_iload_n hx hb dX8_take_17 rfl (lv_at hl 1 rfl) ?_
        refine yk_ild hx hb hK hP 2 0 rfl rfl ki (by omega) (by decide) dX8_take_18 ?_
        refine yk_ist hx hb hK hP hD hS 1 0 rfl rfl ki (by omega) (by decide) dX8_take_19 (fun H locs hP9 hD9 hS9 => ?_)
        replace hP : va_P D vwCl [(ta, .inr (8, [.ref m_now, .ref m_undone, .ref m_slots, .ref m_slotKind, .ref m_hasSlot, .ref m_sheetBits, .ref m_sheetSize, .ref m_sheets, .int (nI u), .int fi, .ref m_fresh, .long aa, .long bb, .long dd, .int (nI ro), .ref m_rootWhich, .int db, .ref m_signs, .ref m_atNought, .int (nI mn), .ref m_change, .ref m_table, .ref m_carried])), (m_now, .inl (cy 0, 29, .inl (upd znow_2 ki (fr ki)))), (m_fresh, .inl (cy 0, 12, .inl fr))] H := hP9
        replace hD : va_D A [(ta, .inr (8, [.ref m_now, .ref m_undone, .ref m_slots, .ref m_slotKind, .ref m_hasSlot, .ref m_sheetBits, .ref m_sheetSize, .ref m_sheets, .int (nI u), .int fi, .ref m_fresh, .long aa, .long bb, .long dd, .int (nI ro), .ref m_rootWhich, .int db, .ref m_signs, .ref m_atNought, .int (nI mn), .ref m_change, .ref m_table, .ref m_carried])), (m_now, .inl (cy 0, 29, .inl (upd znow_2 ki (fr ki)))), (m_fresh, .inl (cy 0, 12, .inl fr))] := hD9
        replace hS := hS9
        clear hP9 hD9 hS9
        refine lv_iinc (v := nI (ki + 1)) (lv' := [(1, .int (nI (ki + 1))), (0, .ref ta)]) hx hb dX8_take_20 hl (k := 1) rfl (yk_inc ki) (by decide) rfl (fun ls hl9 => ?_)
        replace hl := hl9
        clear hl9
        refine lv_goto (tgt := 2) hx hb dX8_take_23 (by decide) ?_
        obtain ⟨n9, rfl⟩ : ∃ n9, n2 = n9 + 1 := ⟨n2 - 1, by omega⟩
        exact ih2 n9 (ki + 1) (upd znow_2 ki (fr ki)) _ _ _ (by omega) (by omega)  hV2 hP hD hS (lv_sub hl [1, 0] rfl)
  exact L2 (12 + 1) 12 0 nw _ _ _ (Nat.lt_succ_self _) (by omega)  rfl hP hD hS (lv_sub hl [1, 0] rfl)

theorem yk_ne8 {n : Nat} (hn : n ≤ 8) (h : ¬ nI n = 8) : n < 8 := by
  rcases Nat.lt_or_ge n 8 with q | q
  · exact q
  · have : n = 8 := by omega
    subst this
    exact absurd rfl h
theorem ix_inn {x : Int32} {n : Nat} (hn : n ≤ 8) (h : ¬ f_X8_in x 0 (nI n - 1) = 0) : x = nI x.toNatClampNeg ∧ x.toNatClampNeg < n := by
  unfold f_X8_in at h
  by_cases h0 : x < 0
  · exact absurd (if_pos h0) h
  rw [if_neg h0] at h
  by_cases h1 : nI n - 1 < x
  · exact absurd (if_pos h1) h
  obtain ⟨j, hj, rfl⟩ := nI_of h0
  rw [nI_clamp hj]
  refine ⟨rfl, ?_⟩
  rw [Int32.lt_iff_toInt_lt, nI_toInt hj, show (nI n - 1).toInt = (n : Int) - 1 from pk_sub_toInt (b := 1) (by omega) (by decide)] at h1
  omega

theorem kX8_quarter_0 : Cond.fieldLink RX8 35 "FlowPlaneModel" "fresh" "[I" ∈ wsX8_quarter := by decide +kernel
theorem kX8_quarter_1 : Cond.fieldLink RX8 7 "FlowPlaneModel" "now" "[I" ∈ wsX8_quarter := by decide +kernel
theorem uX8_quarter_X8 : ∀ w ∈ u_ws RX8 TX8 23, w ∈ wsX8_quarter := by decide +kernel
def l_X8_quarter_6 (nw : Nat → Int32) (un : Nat → Int32) (u : Nat) (fr : Nat → Int32) : Nat → Nat → (Nat → Int32) → (Nat → Int32)
  | 0, ki, zfresh_6 => zfresh_6
  | fu_X8_quarter_6 + 1, ki, zfresh_6 => (if 2 ≤ (nI ki) then zfresh_6 else (l_X8_quarter_6 nw un u fr fu_X8_quarter_6 (ki + 1) (upd (upd (upd (upd (upd (upd zfresh_6 (6 * ki) ((if (nI ki) = 0 then (-1) else 1) * (nw (if (nI ki) = 0 then 6 else 0)))) ((6 * ki) + 1) ((-(if (nI ki) = 0 then (-1) else 1)) * (nw ((if (nI ki) = 0 then 6 else 0) + 2)))) ((6 * ki) + 2) ((if (nI ki) = 0 then (-1) else 1) * (nw ((if (nI ki) = 0 then 6 else 0) + 1)))) ((6 * ki) + 3) ((if (nI ki) = 0 then (-1) else 1) * (nw ((if (nI ki) = 0 then 6 else 0) + 5)))) ((6 * ki) + 4) ((-(if (nI ki) = 0 then (-1) else 1)) * (nw ((if (nI ki) = 0 then 6 else 0) + 4)))) ((6 * ki) + 5) ((if (nI ki) = 0 then (-1) else 1) * (nw ((if (nI ki) = 0 then 6 else 0) + 3))))))
def f_X8_quarter (nw : Nat → Int32) (un : Nat → Int32) (u : Nat) (fr : Nat → Int32) : Int32 × Nat × (Nat → Int32) × (Nat → Int32) × (Nat → Int32) := (1, ((f_X8_remember nw un u).1), (f_X8_take nw (l_X8_quarter_6 nw un u fr (2 + 1) 0 fr)), ((f_X8_remember nw un u).2), (l_X8_quarter_6 nw un u fr (2 + 1) 0 fr))
set_option maxHeartbeats 400000000 in
set_option maxRecDepth 100000 in
theorem c_X8_quarter (l : Launch) (D : va_G) (cy : Nat → ClassId) (ta : Nat) (m_now : Nat) (m_undone : Nat) (m_fresh : Nat) (m_slots : Nat) (m_slotKind : Nat) (m_hasSlot : Nat) (m_sheetBits : Nat) (m_sheetSize : Nat) (m_sheets : Nat) (m_rootWhich : Nat) (m_signs : Nat) (m_atNought : Nat) (m_change : Nat) (m_table : Nat) (m_carried : Nat) (nw : Nat → Int32) (un : Nat → Int32) (u : Nat) (fi : Int32) (fr : Nat → Int32) (aa : Int64) (bb : Int64) (dd : Int64) (ro : Nat) (db : Int32) (mn : Nat) (hu : u ≤ 25) : yk_Ci l D vwCl (yk_ty cy) yX8_quarter wsX8_quarter 1 21 [.ref ta] [(ta, .inr (8, [.ref m_now, .ref m_undone, .ref m_slots, .ref m_slotKind, .ref m_hasSlot, .ref m_sheetBits, .ref m_sheetSize, .ref m_sheets, .int (nI u), .int fi, .ref m_fresh, .long aa, .long bb, .long dd, .int (nI ro), .ref m_rootWhich, .int db, .ref m_signs, .ref m_atNought, .int (nI mn), .ref m_change, .ref m_table, .ref m_carried])), (m_now, .inl (cy 0, 29, .inl nw)), (m_undone, .inl (cy 0, 725, .inl un)), (m_fresh, .inl (cy 0, 12, .inl fr))] ((f_X8_quarter nw un u fr).1) [(ta, .inr (8, [.ref m_now, .ref m_undone, .ref m_slots, .ref m_slotKind, .ref m_hasSlot, .ref m_sheetBits, .ref m_sheetSize, .ref m_sheets, .int (nI ((f_X8_quarter nw un u fr).2.1)), .int fi, .ref m_fresh, .long aa, .long bb, .long dd, .int (nI ro), .ref m_rootWhich, .int db, .ref m_signs, .ref m_atNought, .int (nI mn), .ref m_change, .ref m_table, .ref m_carried])), (m_now, .inl (cy 0, 29, .inl ((f_X8_quarter nw un u fr).2.2.1))), (m_undone, .inl (cy 0, 725, .inl ((f_X8_quarter nw un u fr).2.2.2.1))), (m_fresh, .inl (cy 0, 12, .inl ((f_X8_quarter nw un u fr).2.2.2.2)))] := by
  refine yk_eI (cc := cX8_quarter) (maxL := 5) (by decide) rfl (Nat.le_of_ble_eq_true rfl) rfl ?_
  intro p e R s m args below meth c A Q ls H locs hx hb hml hown hts hRf hRl hA hK hG hP hD hS hl hQ
  have hP : va_P D vwCl [(ta, .inr (8, [.ref m_now, .ref m_undone, .ref m_slots, .ref m_slotKind, .ref m_hasSlot, .ref m_sheetBits, .ref m_sheetSize, .ref m_sheets, .int (nI u), .int fi, .ref m_fresh, .long aa, .long bb, .long dd, .int (nI ro), .ref m_rootWhich, .int db, .ref m_signs, .ref m_atNought, .int (nI mn), .ref m_change, .ref m_table, .ref m_carried])), (m_now, .inl (cy 0, 29, .inl nw)), (m_undone, .inl (cy 0, 725, .inl un)), (m_fresh, .inl (cy 0, 12, .inl fr))] H := hP
  have hl : lv_has ls 5 [(0, .ref ta)] := hl
  have hown : s.vm.findClass RX8 = some m.cls := hown
  have hF : (f_X8_quarter nw un u fr) = (f_X8_quarter nw un u fr) := rfl
  refine lv_aload_n hx hb dX8_quarter_0 rfl (lv_at hl 0 rfl) ?_
  refine yk_v [0, 1, 2] (va_runV (As := []) (rest := []) ⟨hx, hb, hml, hown, hts⟩ (c_X8_remember l D cy ta m_now m_undone m_slots m_slotKind m_hasSlot m_sheetBits m_sheetSize m_sheets m_fresh m_rootWhich m_signs m_atNought m_change m_table m_carried nw un u fi aa bb dd ro db mn hu H.size) (cwV 0 hts gX8_quarter_X8_remember rfl rfl rfl hv_X8_remember (yk_room hRf hRl rfl rfl)) (yk_pv (q := (RX8, TX8, 23)) hG hA hS hK hP hD [0, 1, 2] (by decide +kernel) rfl rfl rfl) rfl rfl hl.1 rfl (lv_room (Nat.le_of_ble_eq_true rfl)) dX8_quarter_1 ⟨Nat.zero_le _, Nat.zero_le _⟩) hP hD hS hA rfl (Eq.trans (b := [ta, m_now, m_undone]) rfl rfl) (fun H locs hP9 hD9 hS9 => ?_)
  replace hP : va_P D vwCl [(ta, .inr (8, [.ref m_now, .ref m_undone, .ref m_slots, .ref m_slotKind, .ref m_hasSlot, .ref m_sheetBits, .ref m_sheetSize, .ref m_sheets, .int (nI ((f_X8_remember nw un u).1)), .int fi, .ref m_fresh, .long aa, .long bb, .long dd, .int (nI ro), .ref m_rootWhich, .int db, .ref m_signs, .ref m_atNought, .int (nI mn), .ref m_change, .ref m_table, .ref m_carried])), (m_now, .inl (cy 0, 29, .inl nw)), (m_undone, .inl (cy 0, 725, .inl ((f_X8_remember nw un u).2))), (m_fresh, .inl (cy 0, 12, .inl fr))] H := hP9
  replace hD : va_D A [(ta, .inr (8, [.ref m_now, .ref m_undone, .ref m_slots, .ref m_slotKind, .ref m_hasSlot, .ref m_sheetBits, .ref m_sheetSize, .ref m_sheets, .int (nI ((f_X8_remember nw un u).1)), .int fi, .ref m_fresh, .long aa, .long bb, .long dd, .int (nI ro), .ref m_rootWhich, .int db, .ref m_signs, .ref m_atNought, .int (nI mn), .ref m_change, .ref m_table, .ref m_carried])), (m_now, .inl (cy 0, 29, .inl nw)), (m_undone, .inl (cy 0, 725, .inl ((f_X8_remember nw un u).2))), (m_fresh, .inl (cy 0, 12, .inl fr))] := hD9
  replace hS := hS9
  clear hP9 hD9 hS9
  refine lv_iconst (v := 0) hx hb dX8_quarter_4 (by decide) ?_
  refine lv_istore_n (lv' := [(1, .int 0), (0, .ref ta)]) hx hb dX8_quarter_5 rfl hl (by decide) rfl (fun ls hl9 => ?_)
  replace hl := hl9
  clear hl9
  have J15 : ∀ (H : Heap) (locs : List Loc) (ls : Array Slot), va_P D vwCl [(ta, .inr (8, [.ref m_now, .ref m_undone, .ref m_slots, .ref m_slotKind, .ref m_hasSlot, .ref m_sheetBits, .ref m_sheetSize, .ref m_sheets, .int (nI ((f_X8_remember nw un u).1)), .int fi, .ref m_fresh, .long aa, .long bb, .long dd, .int (nI ro), .ref m_rootWhich, .int db, .ref m_signs, .ref m_atNought, .int (nI mn), .ref m_change, .ref m_table, .ref m_carried])), (m_now, .inl (cy 0, 29, .inl nw)), (m_undone, .inl (cy 0, 725, .inl ((f_X8_remember nw un u).2))), (m_fresh, .inl (cy 0, 12, .inl (l_X8_quarter_6 nw un u fr (2 + 1) 0 fr)))] H → va_D A [(ta, .inr (8, [.ref m_now, .ref m_undone, .ref m_slots, .ref m_slotKind, .ref m_hasSlot, .ref m_sheetBits, .ref m_sheetSize, .ref m_sheets, .int (nI ((f_X8_remember nw un u).1)), .int fi, .ref m_fresh, .long aa, .long bb, .long dd, .int (nI ro), .ref m_rootWhich, .int db, .ref m_signs, .ref m_atNought, .int (nI mn), .ref m_change, .ref m_table, .ref m_carried])), (m_now, .inl (cy 0, 29, .inl nw)), (m_undone, .inl (cy 0, 725, .inl ((f_X8_remember nw un u).2))), (m_fresh, .inl (cy 0, 12, .inl (l_X8_quarter_6 nw un u fr (2 + 1) 0 fr)))] → va_S A s.heap H locs → lv_has ls 5 [(0, .ref ta)] → W p l e R s m args below meth c H locs 0 0 Q (F0 m 156 ls []) := by
    clear hP hD hS hl
    intro H locs ls hP hD hS hl
    refine lv_aload_n hx hb dX8_quarter_156 rfl (lv_at hl 0 rfl) ?_
    refine yk_v [0, 1, 3] (va_runV (As := []) (rest := []) ⟨hx, hb, hml, hown, hts⟩ (c_X8_take l D cy ta m_now m_fresh m_undone m_slots m_slotKind m_hasSlot m_sheetBits m_sheetSize m_sheets m_rootWhich m_signs m_atNought m_change m_table m_carried nw ((f_X8_remember nw un u).1) fi (l_X8_quarter_6 nw un u fr (2 + 1) 0 fr) aa bb dd ro db mn H.size) (cwV 0 hts gX8_quarter_X8_take rfl rfl rfl hv_X8_take (yk_room hRf hRl rfl rfl)) (yk_pv (q := (RX8, TX8, 23)) hG hA hS hK hP hD [0, 1, 3] (by decide +kernel) rfl rfl rfl) rfl rfl hl.1 rfl (lv_room (Nat.le_of_ble_eq_true rfl)) dX8_quarter_157 ⟨Nat.zero_le _, Nat.zero_le _⟩) hP hD hS hA rfl (Eq.trans (b := [ta, m_now, m_fresh]) rfl rfl) (fun H locs hP9 hD9 hS9 => ?_)
    replace hP : va_P D vwCl [(ta, .inr (8, [.ref m_now, .ref m_undone, .ref m_slots, .ref m_slotKind, .ref m_hasSlot, .ref m_sheetBits, .ref m_sheetSize, .ref m_sheets, .int (nI ((f_X8_remember nw un u).1)), .int fi, .ref m_fresh, .long aa, .long bb, .long dd, .int (nI ro), .ref m_rootWhich, .int db, .ref m_signs, .ref m_atNought, .int (nI mn), .ref m_change, .ref m_table, .ref m_carried])), (m_now, .inl (cy 0, 29, .inl (f_X8_take nw (l_X8_quarter_6 nw un u fr (2 + 1) 0 fr)))), (m_undone, .inl (cy 0, 725, .inl ((f_X8_remember nw un u).2))), (m_fresh, .inl (cy 0, 12, .inl (l_X8_quarter_6 nw un u fr (2 + 1) 0 fr)))] H := hP9
    replace hD : va_D A [(ta, .inr (8, [.ref m_now, .ref m_undone, .ref m_slots, .ref m_slotKind, .ref m_hasSlot, .ref m_sheetBits, .ref m_sheetSize, .ref m_sheets, .int (nI ((f_X8_remember nw un u).1)), .int fi, .ref m_fresh, .long aa, .long bb, .long dd, .int (nI ro), .ref m_rootWhich, .int db, .ref m_signs, .ref m_atNought, .int (nI mn), .ref m_change, .ref m_table, .ref m_carried])), (m_now, .inl (cy 0, 29, .inl (f_X8_take nw (l_X8_quarter_6 nw un u fr (2 + 1) 0 fr)))), (m_undone, .inl (cy 0, 725, .inl ((f_X8_remember nw un u).2))), (m_fresh, .inl (cy 0, 12, .inl (l_X8_quarter_6 nw un u fr (2 + 1) 0 fr)))] := hD9
    replace hS := hS9
    clear hP9 hD9 hS9
    refine lv_iconst (v := 1) hx hb dX8_quarter_160 (by decide) ?_
    have hF : f_X8_quarter nw un u fr = (1, ((f_X8_remember nw un u).1), (f_X8_take nw (l_X8_quarter_6 nw un u fr (2 + 1) 0 fr)), ((f_X8_remember nw un u).2), (l_X8_quarter_6 nw un u fr (2 + 1) 0 fr)) := hF
    have hf0 := yk_fst hF
    have hg0 := yk_snd hF
    have hf1 := yk_fst hg0
    have hg1 := yk_snd hg0
    have hf2 := yk_fst hg1
    have hg2 := yk_snd hg1
    have hf3 := yk_fst hg2
    have hg3 := yk_snd hg2
    rw [hf0, hf1, hf2, hf3, hg3] at hQ
    exact hQ _ _ _ _ dX8_quarter_161 hP hS
  have L6 : ∀ (M9 n6 ki : Nat) (zfresh_6 : Nat → Int32) (H : Heap) (locs : List Loc) (ls : Array Slot), n6 < M9 → ki + n6 = 2 → (l_X8_quarter_6 nw un u fr (2 + 1) 0 fr) = (l_X8_quarter_6 nw un u fr (n6 + 1) ki zfresh_6) → va_P D vwCl [(ta, .inr (8, [.ref m_now, .ref m_undone, .ref m_slots, .ref m_slotKind, .ref m_hasSlot, .ref m_sheetBits, .ref m_sheetSize, .ref m_sheets, .int (nI ((f_X8_remember nw un u).1)), .int fi, .ref m_fresh, .long aa, .long bb, .long dd, .int (nI ro), .ref m_rootWhich, .int db, .ref m_signs, .ref m_atNought, .int (nI mn), .ref m_change, .ref m_table, .ref m_carried])), (m_now, .inl (cy 0, 29, .inl nw)), (m_undone, .inl (cy 0, 725, .inl ((f_X8_remember nw un u).2))), (m_fresh, .inl (cy 0, 12, .inl zfresh_6))] H → va_D A [(ta, .inr (8, [.ref m_now, .ref m_undone, .ref m_slots, .ref m_slotKind, .ref m_hasSlot, .ref m_sheetBits, .ref m_sheetSize, .ref m_sheets, .int (nI ((f_X8_remember nw un u).1)), .int fi, .ref m_fresh, .long aa, .long bb, .long dd, .int (nI ro), .ref m_rootWhich, .int db, .ref m_signs, .ref m_atNought, .int (nI mn), .ref m_change, .ref m_table, .ref m_carried])), (m_now, .inl (cy 0, 29, .inl nw)), (m_undone, .inl (cy 0, 725, .inl ((f_X8_remember nw un u).2))), (m_fresh, .inl (cy 0, 12, .inl zfresh_6))] → va_S A s.heap H locs → lv_has ls 5 [(0, .ref ta), (1, .int (nI ki))] → W p l e R s m args below meth c H locs 0 0 Q (F0 m 6 ls []) := by
    clear hP hD hS hl
    intro M9
    induction M9 with
    | zero => intro n6 ki _ _ _ _ hn; exact absurd hn (Nat.not_lt_zero _)
    | succ M9 ih6 =>
      intro n6 ki zfresh_6 H locs ls hn6 hk6 hV6 hP hD hS hl
      refine lv_iload_n hx hb dX8_quarter_6 rfl (lv_at hl 1 rfl) ?_
      refine lv_iconst (v := 2) hx hb dX8_quarter_7 (by decide) ?_
      refine lv_icmp_ge (tgt := 156) hx hb dX8_quarter_8 (by decide) (fun hc8 => ?_) (fun hc8 => ?_)
      · replace hV6 := hV6.trans (if_pos hc8)
        have hV6 : (l_X8_quarter_6 nw un u fr (2 + 1) 0 fr) = zfresh_6 := hV6
        have J15 := J15
        rw [hV6] at J15
        exact J15 _ _ _ hP hD hS (lv_sub hl [0] rfl)
      · replace hV6 := hV6.trans (if_neg hc8)
        have hlt6 : ki < 2 := yk_lt hk6 (by omega) hc8
        refine lv_iload_n hx hb dX8_quarter_11 rfl (lv_at hl 1 rfl) ?_
        have J11 : ∀ (v10 : Nat) (H : Heap) (locs : List Loc) (ls : Array Slot), v10 = (if (nI ki) = 0 then 6 else 0) → va_P D vwCl [(ta, .inr (8, [.ref m_now, .ref m_undone, .ref m_slots, .ref m_slotKind, .ref m_hasSlot, .ref m_sheetBits, .ref m_sheetSize, .ref m_sheets, .int (nI ((f_X8_remember nw un u).1)), .int fi, .ref m_fresh, .long aa, .long bb, .long dd, .int (nI ro), .ref m_rootWhich, .int db, .ref m_signs, .ref m_atNought, .int (nI mn), .ref m_change, .ref m_table, .ref m_carried])), (m_now, .inl (cy 0, 29, .inl nw)), (m_undone, .inl (cy 0, 725, .inl ((f_X8_remember nw un u).2))), (m_fresh, .inl (cy 0, 12, .inl zfresh_6))] H → va_D A [(ta, .inr (8, [.ref m_now, .ref m_undone, .ref m_slots, .ref m_slotKind, .ref m_hasSlot, .ref m_sheetBits, .ref m_sheetSize, .ref m_sheets, .int (nI ((f_X8_remember nw un u).1)), .int fi, .ref m_fresh, .long aa, .long bb, .long dd, .int (nI ro), .ref m_rootWhich, .int db, .ref m_signs, .ref m_atNought, .int (nI mn), .ref m_change, .ref m_table, .ref m_carried])), (m_now, .inl (cy 0, 29, .inl nw)), (m_undone, .inl (cy 0, 725, .inl ((f_X8_remember nw un u).2))), (m_fresh, .inl (cy 0, 12, .inl zfresh_6))] → va_S A s.heap H locs → lv_has ls 5 [(0, .ref ta), (1, .int (nI ki))] → W p l e R s m args below meth c H locs 0 0 Q (F0 m 21 ls [.int (nI v10)]) := by
          clear hP hD hS hl
          intro v10 H locs ls ev10
          rw [ev10]
          clear ev10
          intro hP hD hS hl
          refine lv_istore_n (lv' := [(2, .int (nI (if (nI ki) = 0 then 6 else 0))), (0, .ref ta), (1, .int (nI ki))]) hx hb dX8_quarter_21 rfl hl (by decide) rfl (fun ls hl9 => ?_)
          replace hl := hl9
          clear hl9
          refine lv_iload_n hx hb dX8_quarter_22 rfl (lv_at hl 2 rfl) ?_
          have J14 : ∀ (v13 : Int32) (H : Heap) (locs : List Loc) (ls : Array Slot), v13 = (if (nI ki) = 0 then (-1) else 1) → va_P D vwCl [(ta, .inr (8, [.ref m_now, .ref m_undone, .ref m_slots, .ref m_slotKind, .ref m_hasSlot, .ref m_sheetBits, .ref m_sheetSize, .ref m_sheets, .int (nI ((f_X8_remember nw un u).1)), .int fi, .ref m_fresh, .long aa, .long bb, .long dd, .int (nI ro), .ref m_rootWhich, .int db, .ref m_signs, .ref m_atNought, .int (nI mn), .ref m_change, .ref m_table, .ref m_carried])), (m_now, .inl (cy 0, 29, .inl nw)), (m_undone, .inl (cy 0, 725, .inl ((f_X8_remember nw un u).2))), (m_fresh, .inl (cy 0, 12, .inl zfresh_6))] H → va_D A [(ta, .inr (8, [.ref m_now, .ref m_undone, .ref m_slots, .ref m_slotKind, .ref m_hasSlot, .ref m_sheetBits, .ref m_sheetSize, .ref m_sheets, .int (nI ((f_X8_remember nw un u).1)), .int fi, .ref m_fresh, .long aa, .long bb, .long dd, .int (nI ro), .ref m_rootWhich, .int db, .ref m_signs, .ref m_atNought, .int (nI mn), .ref m_change, .ref m_table, .ref m_carried])), (m_now, .inl (cy 0, 29, .inl nw)), (m_undone, .inl (cy 0, 725, .inl ((f_X8_remember nw un u).2))), (m_fresh, .inl (cy 0, 12, .inl zfresh_6))] → va_S A s.heap H locs → lv_has ls 5 [(0, .ref ta), (1, .int (nI ki)), (2, .int (nI (if (nI ki) = 0 then 6 else 0)))] → W p l e R s m args below meth c H locs 0 0 Q (F0 m 31 ls [.int v13]) := by
            clear hP hD hS hl
            intro v13 H locs ls ev13
            rw [ev13]
            clear ev13
            intro hP hD hS hl
            refine lv_istore_n (lv' := [(3, .int (if (nI ki) = 0 then (-1) else 1)), (0, .ref ta), (1, .int (nI ki)), (2, .int (nI (if (nI ki) = 0 then 6 else 0)))]) hx hb dX8_quarter_31 rfl hl (by decide) rfl (fun ls hl9 => ?_)
            replace hl := hl9
            clear hl9
            refine lv_bipush (v := 6) hx hb dX8_quarter_32 (by decide) ?_
            refine lv_iload_n hx hb dX8_quarter_34 rfl (lv_at hl 2 rfl) ?_
            refine lv_imul hx hb dX8_quarter_35 ?_
            refine yk_ti (y := nI (6 * ki)) (pk_mul 6 ki) ?_
            refine lv_istore (lv' := [(4, .int (nI (6 * ki))), (3, .int (if (nI ki) = 0 then (-1) else 1)), (0, .ref ta), (1, .int (nI ki)), (2, .int (nI (if (nI ki) = 0 then 6 else 0)))]) hx hb dX8_quarter_36 hl (by decide) rfl (fun ls hl9 => ?_)
            replace hl := hl9
            clear hl9
            refine lv_aload_n hx hb dX8_quarter_38 rfl (lv_at hl 2 rfl) ?_
            refine va_get (D := D) (ci := 8) (v := .ref m_fresh) (C := RX8) (T := TX8) (N := 23) hx hb hts uX8_quarter_X8 hown hK hP 0 rfl rfl 10 (by decide) (hts _ kX8_quarter_0) (fun _ h9 => h9) rfl dX8_quarter_39 ?_
            refine lv_iload hx hb dX8_quarter_42 (lv_at hl 0 rfl) ?_
            refine lv_iload_n hx hb dX8_quarter_44 rfl (lv_at hl 1 rfl) ?_
            refine lv_aload_n hx hb dX8_quarter_45 rfl (lv_at hl 2 rfl) ?_
            refine va_get (D := D) (ci := 8) (v := .ref m_now) (C := RX8) (T := TX8) (N := 23) hx hb hts uX8_quarter_X8 hown hK hP 0 rfl rfl 0 (by decide) (hts _ kX8_quarter_1) (fun _ h9 => h9) rfl dX8_quarter_46 ?_
            refine lv_iload_n hx hb dX8_quarter_49 rfl (lv_at hl 4 rfl) ?_
            refine yk_ild hx hb hK hP 1 0 rfl rfl (if (nI ki) = 0 then 6 else 0) (by (repeat' split) <;> omega) (by decide) dX8_quarter_50 ?_
            refine lv_imul hx hb dX8_quarter_51 ?_
            refine yk_ist hx hb hK hP hD hS 3 0 rfl rfl (6 * ki) (by omega) (by decide) dX8_quarter_52 (fun H locs hP9 hD9 hS9 => ?_)
            replace hP : va_P D vwCl [(ta, .inr (8, [.ref m_now, .ref m_undone, .ref m_slots, .ref m_slotKind, .ref m_hasSlot, .ref m_sheetBits, .ref m_sheetSize, .ref m_sheets, .int (nI ((f_X8_remember nw un u).1)), .int fi, .ref m_fresh, .long aa, .long bb, .long dd, .int (nI ro), .ref m_rootWhich, .int db, .ref m_signs, .ref m_atNought, .int (nI mn), .ref m_change, .ref m_table, .ref m_carried])), (m_now, .inl (cy 0, 29, .inl nw)), (m_undone, .inl (cy 0, 725, .inl ((f_X8_remember nw un u).2))), (m_fresh, .inl (cy 0, 12, .inl (upd zfresh_6 (6 * ki) ((if (nI ki) = 0 then (-1) else 1) * (nw (if (nI ki) = 0 then 6 else 0))))))] H := hP9
            replace hD : va_D A [(ta, .inr (8, [.ref m_now, .ref m_undone, .ref m_slots, .ref m_slotKind, .ref m_hasSlot, .ref m_sheetBits, .ref m_sheetSize, .ref m_sheets, .int (nI ((f_X8_remember nw un u).1)), .int fi, .ref m_fresh, .long aa, .long bb, .long dd, .int (nI ro), .ref m_rootWhich, .int db, .ref m_signs, .ref m_atNought, .int (nI mn), .ref m_change, .ref m_table, .ref m_carried])), (m_now, .inl (cy 0, 29, .inl nw)), (m_undone, .inl (cy 0, 725, .inl ((f_X8_remember nw un u).2))), (m_fresh, .inl (cy 0, 12, .inl (upd zfresh_6 (6 * ki) ((if (nI ki) = 0 then (-1) else 1) * (nw (if (nI ki) = 0 then 6 else 0))))))] := hD9
            replace hS := hS9
            clear hP9 hD9 hS9
            refine lv_aload_n hx hb dX8_quarter_53 rfl (lv_at hl 2 rfl) ?_
            refine va_get (D := D) (ci := 8) (v := .ref m_fresh) (C := RX8) (T := TX8) (N := 23) hx hb hts uX8_quarter_X8 hown hK hP 0 rfl rfl 10 (by decide) (hts _ kX8_quarter_0) (fun _ h9 => h9) rfl dX8_quarter_54 ?_
            refine lv_iload hx hb dX8_quarter_57 (lv_at hl 0 rfl) ?_
            refine lv_iconst (v := 1) hx hb dX8_quarter_59 (by decide) ?_
            refine lv_iadd hx hb dX8_quarter_60 ?_
            refine yk_ti (y := nI ((6 * ki) + 1)) (nI_add (6 * ki) 1) ?_
            refine lv_iload_n hx hb dX8_quarter_61 rfl (lv_at hl 1 rfl) ?_
            refine lv_ineg hx hb dX8_quarter_62 ?_
            refine lv_aload_n hx hb dX8_quarter_63 rfl (lv_at hl 2 rfl) ?_
            refine va_get (D := D) (ci := 8) (v := .ref m_now) (C := RX8) (T := TX8) (N := 23) hx hb hts uX8_quarter_X8 hown hK hP 0 rfl rfl 0 (by decide) (hts _ kX8_quarter_1) (fun _ h9 => h9) rfl dX8_quarter_64 ?_
            refine lv_iload_n hx hb dX8_quarter_67 rfl (lv_at hl 4 rfl) ?_
            refine lv_iconst (v := 2) hx hb dX8_quarter_68 (by decide) ?_
            refine lv_iadd hx hb dX8_quarter_69 ?_
            refine yk_ti (y := nI ((if (nI ki) = 0 then 6 else 0) + 2)) (nI_add (if (nI ki) = 0 then 6 else 0) 2) ?_
            refine yk_ild hx hb hK hP 1 0 rfl rfl ((if (nI ki) = 0 then 6 else 0) + 2) (by (repeat' split) <;> omega) (by decide) dX8_quarter_70 ?_
            refine lv_imul hx hb dX8_quarter_71 ?_
            refine yk_ist hx hb hK hP hD hS 3 0 rfl rfl ((6 * ki) + 1) (by omega) (by decide) dX8_quarter_72 (fun H locs hP9 hD9 hS9 => ?_)
            replace hP : va_P D vwCl [(ta, .inr (8, [.ref m_now, .ref m_undone, .ref m_slots, .ref m_slotKind, .ref m_hasSlot, .ref m_sheetBits, .ref m_sheetSize, .ref m_sheets, .int (nI ((f_X8_remember nw un u).1)), .int fi, .ref m_fresh, .long aa, .long bb, .long dd, .int (nI ro), .ref m_rootWhich, .int db, .ref m_signs, .ref m_atNought, .int (nI mn), .ref m_change, .ref m_table, .ref m_carried])), (m_now, .inl (cy 0, 29, .inl nw)), (m_undone, .inl (cy 0, 725, .inl ((f_X8_remember nw un u).2))), (m_fresh, .inl (cy 0, 12, .inl (upd (upd zfresh_6 (6 * ki) ((if (nI ki) = 0 then (-1) else 1) * (nw (if (nI ki) = 0 then 6 else 0)))) ((6 * ki) + 1) ((-(if (nI ki) = 0 then (-1) else 1)) * (nw ((if (nI ki) = 0 then 6 else 0) + 2))))))] H := hP9
            replace hD : va_D A [(ta, .inr (8, [.ref m_now, .ref m_undone, .ref m_slots, .ref m_slotKind, .ref m_hasSlot, .ref m_sheetBits, .ref m_sheetSize, .ref m_sheets, .int (nI ((f_X8_remember nw un u).1)), .int fi, .ref m_fresh, .long aa, .long bb, .long dd, .int (nI ro), .ref m_rootWhich, .int db, .ref m_signs, .ref m_atNought, .int (nI mn), .ref m_change, .ref m_table, .ref m_carried])), (m_now, .inl (cy 0, 29, .inl nw)), (m_undone, .inl (cy 0, 725, .inl ((f_X8_remember nw un u).2))), (m_fresh, .inl (cy 0, 12, .inl (upd (upd zfresh_6 (6 * ki) ((if (nI ki) = 0 then (-1) else 1) * (nw (if (nI ki) = 0 then 6 else 0)))) ((6 * ki) + 1) ((-(if (nI ki) = 0 then (-1) else 1)) * (nw ((if (nI ki) = 0 then 6 else 0) + 2))))))] := hD9
            replace hS := hS9
            clear hP9 hD9 hS9
            refine lv_aload_n hx hb dX8_quarter_73 rfl (lv_at hl 2 rfl) ?_
            refine va_get (D := D) (ci := 8) (v := .ref m_fresh) (C := RX8) (T := TX8) (N := 23) hx hb hts uX8_quarter_X8 hown hK hP 0 rfl rfl 10 (by decide) (hts _ kX8_quarter_0) (fun _ h9 => h9) rfl dX8_quarter_74 ?_
            refine lv_iload hx hb dX8_quarter_77 (lv_at hl 0 rfl) ?_
            refine lv_iconst (v := 2) hx hb dX8_quarter_79 (by decide) ?_
            refine lv_iadd hx hb dX8_quarter_80 ?_
            refine yk_ti (y := nI ((6 * ki) + 2)) (nI_add (6 * ki) 2) ?_
            refine lv_iload_n hx hb dX8_quarter_81 rfl (lv_at hl 1 rfl) ?_
            refine lv_aload_n hx hb dX8_quarter_82 rfl (lv_at hl 2 rfl) ?_
            refine va_get (D := D) (ci := 8) (v := .ref m_now) (C := RX8) (T := TX8) (N := 23) hx hb hts uX8_quarter_X8 hown hK hP 0 rfl rfl 0 (by decide) (hts _ kX8_quarter_1) (fun _ h9 => h9) rfl dX8_quarter_83 ?_
            refine lv_iload_n hx hb dX8_quarter_86 rfl (lv_at hl 4 rfl) ?_
            refine lv_iconst (v := 1) hx hb dX8_quarter_87 (by decide) ?_
            refine lv_iadd hx hb dX8_quarter_88 ?_
            refine yk_ti (y := nI ((if (nI ki) = 0 then 6 else 0) + 1)) (nI_add (if (nI ki) = 0 then 6 else 0) 1) ?_
            refine yk_ild hx hb hK hP 1 0 rfl rfl ((if (nI ki) = 0 then 6 else 0) + 1) (by (repeat' split) <;> omega) (by decide) dX8_quarter_89 ?_
            refine lv_imul hx hb dX8_quarter_90 ?_
            refine yk_ist hx hb hK hP hD hS 3 0 rfl rfl ((6 * ki) + 2) (by omega) (by decide) dX8_quarter_91 (fun H locs hP9 hD9 hS9 => ?_)
            replace hP : va_P D vwCl [(ta, .inr (8, [.ref m_now, .ref m_undone, .ref m_slots, .ref m_slotKind, .ref m_hasSlot, .ref m_sheetBits, .ref m_sheetSize, .ref m_sheets, .int (nI ((f_X8_remember nw un u).1)), .int fi, .ref m_fresh, .long aa, .long bb, .long dd, .int (nI ro), .ref m_rootWhich, .int db, .ref m_signs, .ref m_atNought, .int (nI mn), .ref m_change, .ref m_table, .ref m_carried])), (m_now, .inl (cy 0, 29, .inl nw)), (m_undone, .inl (cy 0, 725, .inl ((f_X8_remember nw un u).2))), (m_fresh, .inl (cy 0, 12, .inl (upd (upd (upd zfresh_6 (6 * ki) ((if (nI ki) = 0 then (-1) else 1) * (nw (if (nI ki) = 0 then 6 else 0)))) ((6 * ki) + 1) ((-(if (nI ki) = 0 then (-1) else 1)) * (nw ((if (nI ki) = 0 then 6 else 0) + 2)))) ((6 * ki) + 2) ((if (nI ki) = 0 then (-1) else 1) * (nw ((if (nI ki) = 0 then 6 else 0) + 1))))))] H := hP9
            replace hD : va_D A [(ta, .inr (8, [.ref m_now, .ref m_undone, .ref m_slots, .ref m_slotKind, .ref m_hasSlot, .ref m_sheetBits, .ref m_sheetSize, .ref m_sheets, .int (nI ((f_X8_remember nw un u).1)), .int fi, .ref m_fresh, .long aa, .long bb, .long dd, .int (nI ro), .ref m_rootWhich, .int db, .ref m_signs, .ref m_atNought, .int (nI mn), .ref m_change, .ref m_table, .ref m_carried])), (m_now, .inl (cy 0, 29, .inl nw)), (m_undone, .inl (cy 0, 725, .inl ((f_X8_remember nw un u).2))), (m_fresh, .inl (cy 0, 12, .inl (upd (upd (upd zfresh_6 (6 * ki) ((if (nI ki) = 0 then (-1) else 1) * (nw (if (nI ki) = 0 then 6 else 0)))) ((6 * ki) + 1) ((-(if (nI ki) = 0 then (-1) else 1)) * (nw ((if (nI ki) = 0 then 6 else 0) + 2)))) ((6 * ki) + 2) ((if (nI ki) = 0 then (-1) else 1) * (nw ((if (nI ki) = 0 then 6 else 0) + 1))))))] := hD9
            replace hS := hS9
            clear hP9 hD9 hS9
            refine lv_aload_n hx hb dX8_quarter_92 rfl (lv_at hl 2 rfl) ?_
            refine va_get (D := D) (ci := 8) (v := .ref m_fresh) (C := RX8) (T := TX8) (N := 23) hx hb hts uX8_quarter_X8 hown hK hP 0 rfl rfl 10 (by decide) (hts _ kX8_quarter_0) (fun _ h9 => h9) rfl dX8_quarter_93 ?_
            refine lv_iload hx hb dX8_quarter_96 (lv_at hl 0 rfl) ?_
            refine lv_iconst (v := 3) hx hb dX8_quarter_98 (by decide) ?_
            refine lv_iadd hx hb dX8_quarter_99 ?_
            refine yk_ti (y := nI ((6 * ki) + 3)) (nI_add (6 * ki) 3) ?_
            refine lv_iload_n hx hb dX8_quarter_100 rfl (lv_at hl 1 rfl) ?_
            refine lv_aload_n hx hb dX8_quarter_101 rfl (lv_at hl 2 rfl) ?_
            refine va_get (D := D) (ci := 8) (v := .ref m_now) (C := RX8) (T := TX8) (N := 23) hx hb hts uX8_quarter_X8 hown hK hP 0 rfl rfl 0 (by decide) (hts _ kX8_quarter_1) (fun _ h9 => h9) rfl dX8_quarter_102 ?_
            refine lv_iload_n hx hb dX8_quarter_105 rfl (lv_at hl 4 rfl) ?_
            refine lv_iconst (v := 5) hx hb dX8_quarter_106 (by decide) ?_
            refine lv_iadd hx hb dX8_quarter_107 ?_
            refine yk_ti (y := nI ((if (nI ki) = 0 then 6 else 0) + 5)) (nI_add (if (nI ki) = 0 then 6 else 0) 5) ?_
            refine yk_ild hx hb hK hP 1 0 rfl rfl ((if (nI ki) = 0 then 6 else 0) + 5) (by (repeat' split) <;> omega) (by decide) dX8_quarter_108 ?_
            refine lv_imul hx hb dX8_quarter_109 ?_
            refine yk_ist hx hb hK hP hD hS 3 0 rfl rfl ((6 * ki) + 3) (by omega) (by decide) dX8_quarter_110 (fun H locs hP9 hD9 hS9 => ?_)
            replace hP : va_P D vwCl [(ta, .inr (8, [.ref m_now, .ref m_undone, .ref m_slots, .ref m_slotKind, .ref m_hasSlot, .ref m_sheetBits, .ref m_sheetSize, .ref m_sheets, .int (nI ((f_X8_remember nw un u).1)), .int fi, .ref m_fresh, .long aa, .long bb, .long dd, .int (nI ro), .ref m_rootWhich, .int db, .ref m_signs, .ref m_atNought, .int (nI mn), .ref m_change, .ref m_table, .ref m_carried])), (m_now, .inl (cy 0, 29, .inl nw)), (m_undone, .inl (cy 0, 725, .inl ((f_X8_remember nw un u).2))), (m_fresh, .inl (cy 0, 12, .inl (upd (upd (upd (upd zfresh_6 (6 * ki) ((if (nI ki) = 0 then (-1) else 1) * (nw (if (nI ki) = 0 then 6 else 0)))) ((6 * ki) + 1) ((-(if (nI ki) = 0 then (-1) else 1)) * (nw ((if (nI ki) = 0 then 6 else 0) + 2)))) ((6 * ki) + 2) ((if (nI ki) = 0 then (-1) else 1) * (nw ((if (nI ki) = 0 then 6 else 0) + 1)))) ((6 * ki) + 3) ((if (nI ki) = 0 then (-1) else 1) * (nw ((if (nI ki) = 0 then 6 else 0) + 5))))))] H := hP9
            replace hD : va_D A [(ta, .inr (8, [.ref m_now, .ref m_undone, .ref m_slots, .ref m_slotKind, .ref m_hasSlot, .ref m_sheetBits, .ref m_sheetSize, .ref m_sheets, .int (nI ((f_X8_remember nw un u).1)), .int fi, .ref m_fresh, .long aa, .long bb, .long dd, .int (nI ro), .ref m_rootWhich, .int db, .ref m_signs, .ref m_atNought, .int (nI mn), .ref m_change, .ref m_table, .ref m_carried])), (m_now, .inl (cy 0, 29, .inl nw)), (m_undone, .inl (cy 0, 725, .inl ((f_X8_remember nw un u).2))), (m_fresh, .inl (cy 0, 12, .inl (upd (upd (upd (upd zfresh_6 (6 * ki) ((if (nI ki) = 0 then (-1) else 1) * (nw (if (nI ki) = 0 then 6 else 0)))) ((6 * ki) + 1) ((-(if (nI ki) = 0 then (-1) else 1)) * (nw ((if (nI ki) = 0 then 6 else 0) + 2)))) ((6 * ki) + 2) ((if (nI ki) = 0 then (-1) else 1) * (nw ((if (nI ki) = 0 then 6 else 0) + 1)))) ((6 * ki) + 3) ((if (nI ki) = 0 then (-1) else 1) * (nw ((if (nI ki) = 0 then 6 else 0) + 5))))))] := hD9
            replace hS := hS9
            clear hP9 hD9 hS9
            refine lv_aload_n hx hb dX8_quarter_111 rfl (lv_at hl 2 rfl) ?_
            refine va_get (D := D) (ci := 8) (v := .ref m_fresh) (C := RX8) (T := TX8) (N := 23) hx hb hts uX8_quarter_X8 hown hK hP 0 rfl rfl 10 (by decide) (hts _ kX8_quarter_0) (fun _ h9 => h9) rfl dX8_quarter_112 ?_
            refine lv_iload hx hb dX8_quarter_115 (lv_at hl 0 rfl) ?_
            refine lv_iconst (v := 4) hx hb dX8_quarter_117 (by decide) ?_
            refine lv_iadd hx hb dX8_quarter_118 ?_
            refine yk_ti (y := nI ((6 * ki) + 4)) (nI_add (6 * ki) 4) ?_
            refine lv_iload_n hx hb dX8_quarter_119 rfl (lv_at hl 1 rfl) ?_
            refine lv_ineg hx hb dX8_quarter_120 ?_
            refine lv_aload_n hx hb dX8_quarter_121 rfl (lv_at hl 2 rfl) ?_
            refine va_get (D := D) (ci := 8) (v := .ref m_now) (C := RX8) (T := TX8) (N := 23) hx hb hts uX8_quarter_X8 hown hK hP 0 rfl rfl 0 (by decide) (hts _ kX8_quarter_1) (fun _ h9 => h9) rfl dX8_quarter_122 ?_
            refine lv_iload_n hx hb dX8_quarter_125 rfl (lv_at hl 4 rfl) ?_
            refine lv_iconst (v := 4) hx hb dX8_quarter_126 (by decide) ?_
            refine lv_iadd hx hb dX8_quarter_127 ?_
            refine yk_ti (y := nI ((if (nI ki) = 0 then 6 else 0) + 4)) (nI_add (if (nI ki) = 0 then 6 else 0) 4) ?_
            refine yk_ild hx hb hK hP 1 0 rfl rfl ((if (nI ki) = 0 then 6 else 0) + 4) (by (repeat' split) <;> omega) (by decide) dX8_quarter_128 ?_
            refine lv_imul hx hb dX8_quarter_129 ?_
            refine yk_ist hx hb hK hP hD hS 3 0 rfl rfl ((6 * ki) + 4) (by omega) (by decide) dX8_quarter_130 (fun H locs hP9 hD9 hS9 => ?_)
            replace hP : va_P D vwCl [(ta, .inr (8, [.ref m_now, .ref m_undone, .ref m_slots, .ref m_slotKind, .ref m_hasSlot, .ref m_sheetBits, .ref m_sheetSize, .ref m_sheets, .int (nI ((f_X8_remember nw un u).1)), .int fi, .ref m_fresh, .long aa, .long bb, .long dd, .int (nI ro), .ref m_rootWhich, .int db, .ref m_signs, .ref m_atNought, .int (nI mn), .ref m_change, .ref m_table, .ref m_carried])), (m_now, .inl (cy 0, 29, .inl nw)), (m_undone, .inl (cy 0, 725, .inl ((f_X8_remember nw un u).2))), (m_fresh, .inl (cy 0, 12, .inl (upd (upd (upd (upd (upd zfresh_6 (6 * ki) ((if (nI ki) = 0 then (-1) else 1) * (nw (if (nI ki) = 0 then 6 else 0)))) ((6 * ki) + 1) ((-(if (nI ki) = 0 then (-1) else 1)) * (nw ((if (nI ki) = 0 then 6 else 0) + 2)))) ((6 * ki) + 2) ((if (nI ki) = 0 then (-1) else 1) * (nw ((if (nI ki) = 0 then 6 else 0) + 1)))) ((6 * ki) + 3) ((if (nI ki) = 0 then (-1) else 1) * (nw ((if (nI ki) = 0 then 6 else 0) + 5)))) ((6 * ki) + 4) ((-(if (nI ki) = 0 then (-1) else 1)) * (nw ((if (nI ki) = 0 then 6 else 0) + 4))))))] H := hP9
            replace hD : va_D A [(ta, .inr (8, [.ref m_now, .ref m_undone, .ref m_slots, .ref m_slotKind, .ref m_hasSlot, .ref m_sheetBits, .ref m_sheetSize, .ref m_sheets, .int (nI ((f_X8_remember nw un u).1)), .int fi, .ref m_fresh, .long aa, .long bb, .long dd, .int (nI ro), .ref m_rootWhich, .int db, .ref m_signs, .ref m_atNought, .int (nI mn), .ref m_change, .ref m_table, .ref m_carried])), (m_now, .inl (cy 0, 29, .inl nw)), (m_undone, .inl (cy 0, 725, .inl ((f_X8_remember nw un u).2))), (m_fresh, .inl (cy 0, 12, .inl (upd (upd (upd (upd (upd zfresh_6 (6 * ki) ((if (nI ki) = 0 then (-1) else 1) * (nw (if (nI ki) = 0 then 6 else 0)))) ((6 * ki) + 1) ((-(if (nI ki) = 0 then (-1) else 1)) * (nw ((if (nI ki) = 0 then 6 else 0) + 2)))) ((6 * ki) + 2) ((if (nI ki) = 0 then (-1) else 1) * (nw ((if (nI ki) = 0 then 6 else 0) + 1)))) ((6 * ki) + 3) ((if (nI ki) = 0 then (-1) else 1) * (nw ((if (nI ki) = 0 then 6 else 0) + 5)))) ((6 * ki) + 4) ((-(if (nI ki) = 0 then (-1) else 1)) * (nw ((if (nI ki) = 0 then 6 else 0) + 4))))))] := hD9
            replace hS := hS9
            clear hP9 hD9 hS9
            refine lv_aload_n hx hb dX8_quarter_131 rfl (lv_at hl 2 rfl) ?_
            refine va_get (D := D) (ci := 8) (v := .ref m_fresh) (C := RX8) (T := TX8) (N := 23) hx hb hts uX8_quarter_X8 hown hK hP 0 rfl rfl 10 (by decide) (hts _ kX8_quarter_0) (fun _ h9 => h9) rfl dX8_quarter_132 ?_
            refine lv_iload hx hb dX8_quarter_135 (lv_at hl 0 rfl) ?_
            refine lv_iconst (v := 5) hx hb dX8_quarter_137 (by decide) ?_
            refine lv_iadd hx hb dX8_quarter_138 ?_
            refine yk_ti (y := nI ((6 * ki) + 5)) (nI_add (6 * ki) 5) ?_
            refine lv_iload_n hx hb dX8_quarter_139 rfl (lv_at hl 1 rfl) ?_
            refine lv_aload_n hx hb dX8_quarter_140 rfl (lv_at hl 2 rfl) ?_
            refine va_get (D := D) (ci := 8) (v := .ref m_now) (C := RX8) (T := TX8) (N := 23) hx hb hts uX8_quarter_X8 hown hK hP 0 rfl rfl 0 (by decide) (hts _ kX8_quarter_1) (fun _ h9 => h9) rfl dX8_quarter_141 ?_
            refine lv_iload_n hx hb dX8_quarter_144 rfl (lv_at hl 4 rfl) ?_
            refine lv_iconst (v := 3) hx hb dX8_quarter_145 (by decide) ?_
            refine lv_iadd hx hb dX8_quarter_146 ?_
            refine yk_ti (y := nI ((if (nI ki) = 0 then 6 else 0) + 3)) (nI_add (if (nI ki) = 0 then 6 else 0) 3) ?_
            refine yk_ild hx hb hK hP 1 0 rfl rfl ((if (nI ki) = 0 then 6 else 0) + 3) (by (repeat' split) <;> omega) (by decide) dX8_quarter_147 ?_
            refine lv_imul hx hb dX8_quarter_148 ?_
            refine yk_ist hx hb hK hP hD hS 3 0 rfl rfl ((6 * ki) + 5) (by omega) (by decide) dX8_quarter_149 (fun H locs hP9 hD9 hS9 => ?_)
            replace hP : va_P D vwCl [(ta, .inr (8, [.ref m_now, .ref m_undone, .ref m_slots, .ref m_slotKind, .ref m_hasSlot, .ref m_sheetBits, .ref m_sheetSize, .ref m_sheets, .int (nI ((f_X8_remember nw un u).1)), .int fi, .ref m_fresh, .long aa, .long bb, .long dd, .int (nI ro), .ref m_rootWhich, .int db, .ref m_signs, .ref m_atNought, .int (nI mn), .ref m_change, .ref m_table, .ref m_carried])), (m_now, .inl (cy 0, 29, .inl nw)), (m_undone, .inl (cy 0, 725, .inl ((f_X8_remember nw un u).2))), (m_fresh, .inl (cy 0, 12, .inl (upd (upd (upd (upd (upd (upd zfresh_6 (6 * ki) ((if (nI ki) = 0 then (-1) else 1) * (nw (if (nI ki) = 0 then 6 else 0)))) ((6 * ki) + 1) ((-(if (nI ki) = 0 then (-1) else 1)) * (nw ((if (nI ki) = 0 then 6 else 0) + 2)))) ((6 * ki) + 2) ((if (nI ki) = 0 then (-1) else 1) * (nw ((if (nI ki) = 0 then 6 else 0) + 1)))) ((6 * ki) + 3) ((if (nI ki) = 0 then (-1) else 1) * (nw ((if (nI ki) = 0 then 6 else 0) + 5)))) ((6 * ki) + 4) ((-(if (nI ki) = 0 then (-1) else 1)) * (nw ((if (nI ki) = 0 then 6 else 0) + 4)))) ((6 * ki) + 5) ((if (nI ki) = 0 then (-1) else 1) * (nw ((if (nI ki) = 0 then 6 else 0) + 3))))))] H := hP9
            replace hD : va_D A [(ta, .inr (8, [.ref m_now, .ref m_undone, .ref m_slots, .ref m_slotKind, .ref m_hasSlot, .ref m_sheetBits, .ref m_sheetSize, .ref m_sheets, .int (nI ((f_X8_remember nw un u).1)), .int fi, .ref m_fresh, .long aa, .long bb, .long dd, .int (nI ro), .ref m_rootWhich, .int db, .ref m_signs, .ref m_atNought, .int (nI mn), .ref m_change, .ref m_table, .ref m_carried])), (m_now, .inl (cy 0, 29, .inl nw)), (m_undone, .inl (cy 0, 725, .inl ((f_X8_remember nw un u).2))), (m_fresh, .inl (cy 0, 12, .inl (upd (upd (upd (upd (upd (upd zfresh_6 (6 * ki) ((if (nI ki) = 0 then (-1) else 1) * (nw (if (nI ki) = 0 then 6 else 0)))) ((6 * ki) + 1) ((-(if (nI ki) = 0 then (-1) else 1)) * (nw ((if (nI ki) = 0 then 6 else 0) + 2)))) ((6 * ki) + 2) ((if (nI ki) = 0 then (-1) else 1) * (nw ((if (nI ki) = 0 then 6 else 0) + 1)))) ((6 * ki) + 3) ((if (nI ki) = 0 then (-1) else 1) * (nw ((if (nI ki) = 0 then 6 else 0) + 5)))) ((6 * ki) + 4) ((-(if (nI ki) = 0 then (-1) else 1)) * (nw ((if (nI ki) = 0 then 6 else 0) + 4)))) ((6 * ki) + 5) ((if (nI ki) = 0 then (-1) else 1) * (nw ((if (nI ki) = 0 then 6 else 0) + 3))))))] := hD9
            replace hS := hS9
            clear hP9 hD9 hS9
            refine lv_iinc (v := nI (ki + 1)) (lv' := [(1, .int (nI (ki + 1))), (4, .int (nI (6 * ki))), (3, .int (if (nI ki) = 0 then (-1) else 1)), (0, .ref ta), (2, .int (nI (if (nI ki) = 0 then 6 else 0)))]) hx hb dX8_quarter_150 hl (k := 3) rfl (yk_inc ki) (by decide) rfl (fun ls hl9 => ?_)
            replace hl := hl9
            clear hl9
            refine lv_goto (tgt := 6) hx hb dX8_quarter_153 (by decide) ?_
            obtain ⟨n9, rfl⟩ : ∃ n9, n6 = n9 + 1 := ⟨n6 - 1, by omega⟩
            exact ih6 n9 (ki + 1) (upd (upd (upd (upd (upd (upd zfresh_6 (6 * ki) ((if (nI ki) = 0 then (-1) else 1) * (nw (if (nI ki) = 0 then 6 else 0)))) ((6 * ki) + 1) ((-(if (nI ki) = 0 then (-1) else 1)) * (nw ((if (nI ki) = 0 then 6 else 0) + 2)))) ((6 * ki) + 2) ((if (nI ki) = 0 then (-1) else 1) * (nw ((if (nI ki) = 0 then 6 else 0) + 1)))) ((6 * ki) + 3) ((if (nI ki) = 0 then (-1) else 1) * (nw ((if (nI ki) = 0 then 6 else 0) + 5)))) ((6 * ki) + 4) ((-(if (nI ki) = 0 then (-1) else 1)) * (nw ((if (nI ki) = 0 then 6 else 0) + 4)))) ((6 * ki) + 5) ((if (nI ki) = 0 then (-1) else 1) * (nw ((if (nI ki) = 0 then 6 else 0) + 3)))) _ _ _ (by omega) (by omega)  hV6 hP hD hS (lv_sub hl [3, 0] rfl)
          refine lv_if_ne (tgt := 30) hx hb dX8_quarter_23 (by decide) (fun hc12 => ?_) (fun hc12 => ?_)
          · refine lv_iconst (v := 1) hx hb dX8_quarter_30 (by decide) ?_
            exact J14 _ _ _ _ ((if_neg hc12).symm) hP hD hS (lv_sub hl [1, 2, 0] rfl)
          · refine lv_iconst (v := (-1)) hx hb dX8_quarter_26 (by decide) ?_
            refine lv_goto (tgt := 31) hx hb dX8_quarter_27 (by decide) ?_
            exact J14 _ _ _ _ ((if_pos hc12).symm) hP hD hS (lv_sub hl [1, 2, 0] rfl)
        refine lv_if_ne (tgt := 20) hx hb dX8_quarter_12 (by decide) (fun hc9 => ?_) (fun hc9 => ?_)
        · refine lv_iconst (v := 0) hx hb dX8_quarter_20 (by decide) ?_
          exact J11 _ _ _ _ ((if_neg hc9).symm) hP hD hS (lv_sub hl [0, 1] rfl)
        · refine lv_bipush (v := 6) hx hb dX8_quarter_15 (by decide) ?_
          refine lv_goto (tgt := 21) hx hb dX8_quarter_17 (by decide) ?_
          exact J11 _ _ _ _ ((if_pos hc9).symm) hP hD hS (lv_sub hl [0, 1] rfl)
  exact L6 (2 + 1) 2 0 fr _ _ _ (Nat.lt_succ_self _) (by omega)  rfl hP hD hS (lv_sub hl [1, 0] rfl)

theorem kX8_mirror_0 : Cond.fieldLink RX8 7 "FlowPlaneModel" "now" "[I" ∈ wsX8_mirror := by decide +kernel
theorem uX8_mirror_X8 : ∀ w ∈ u_ws RX8 TX8 23, w ∈ wsX8_mirror := by decide +kernel
def l_X8_mirror_6 (nw : Nat → Int32) (un : Nat → Int32) (u : Nat) : Nat → Nat → (Nat → Int32) → (Nat → Int32)
  | 0, ki, znow_6 => znow_6
  | fu_X8_mirror_6 + 1, ki, znow_6 => (if 12 ≤ (nI ki) then znow_6 else (l_X8_mirror_6 nw un u fu_X8_mirror_6 (ki + 1) (upd znow_6 ki (if (nI (ki % 6)) = 1 then ((-(if 6 ≤ (nI ki) then 1 else (-1))) * (znow_6 ki)) else (if (nI (ki % 6)) = 4 then ((-(if 6 ≤ (nI ki) then 1 else (-1))) * (znow_6 ki)) else ((if 6 ≤ (nI ki) then 1 else (-1)) * (znow_6 ki)))))))
def f_X8_mirror (nw : Nat → Int32) (un : Nat → Int32) (u : Nat) : Int32 × Nat × (Nat → Int32) × (Nat → Int32) := (1, ((f_X8_remember nw un u).1), (l_X8_mirror_6 nw un u (12 + 1) 0 nw), ((f_X8_remember nw un u).2))
set_option maxHeartbeats 400000000 in
set_option maxRecDepth 100000 in
theorem c_X8_mirror (l : Launch) (D : va_G) (cy : Nat → ClassId) (ta : Nat) (m_now : Nat) (m_undone : Nat) (m_slots : Nat) (m_slotKind : Nat) (m_hasSlot : Nat) (m_sheetBits : Nat) (m_sheetSize : Nat) (m_sheets : Nat) (m_fresh : Nat) (m_rootWhich : Nat) (m_signs : Nat) (m_atNought : Nat) (m_change : Nat) (m_table : Nat) (m_carried : Nat) (nw : Nat → Int32) (un : Nat → Int32) (u : Nat) (fi : Int32) (aa : Int64) (bb : Int64) (dd : Int64) (ro : Nat) (db : Int32) (mn : Nat) (hu : u ≤ 25) : yk_Ci l D vwCl (yk_ty cy) yX8_mirror wsX8_mirror 1 21 [.ref ta] [(ta, .inr (8, [.ref m_now, .ref m_undone, .ref m_slots, .ref m_slotKind, .ref m_hasSlot, .ref m_sheetBits, .ref m_sheetSize, .ref m_sheets, .int (nI u), .int fi, .ref m_fresh, .long aa, .long bb, .long dd, .int (nI ro), .ref m_rootWhich, .int db, .ref m_signs, .ref m_atNought, .int (nI mn), .ref m_change, .ref m_table, .ref m_carried])), (m_now, .inl (cy 0, 29, .inl nw)), (m_undone, .inl (cy 0, 725, .inl un))] ((f_X8_mirror nw un u).1) [(ta, .inr (8, [.ref m_now, .ref m_undone, .ref m_slots, .ref m_slotKind, .ref m_hasSlot, .ref m_sheetBits, .ref m_sheetSize, .ref m_sheets, .int (nI ((f_X8_mirror nw un u).2.1)), .int fi, .ref m_fresh, .long aa, .long bb, .long dd, .int (nI ro), .ref m_rootWhich, .int db, .ref m_signs, .ref m_atNought, .int (nI mn), .ref m_change, .ref m_table, .ref m_carried])), (m_now, .inl (cy 0, 29, .inl ((f_X8_mirror nw un u).2.2.1))), (m_undone, .inl (cy 0, 725, .inl ((f_X8_mirror nw un u).2.2.2)))] := by
  refine yk_eI (cc := cX8_mirror) (maxL := 4) (by decide) rfl (Nat.le_of_ble_eq_true rfl) rfl ?_
  intro p e R s m args below meth c A Q ls H locs hx hb hml hown hts hRf hRl hA hK hG hP hD hS hl hQ
  have hP : va_P D vwCl [(ta, .inr (8, [.ref m_now, .ref m_undone, .ref m_slots, .ref m_slotKind, .ref m_hasSlot, .ref m_sheetBits, .ref m_sheetSize, .ref m_sheets, .int (nI u), .int fi, .ref m_fresh, .long aa, .long bb, .long dd, .int (nI ro), .ref m_rootWhich, .int db, .ref m_signs, .ref m_atNought, .int (nI mn), .ref m_change, .ref m_table, .ref m_carried])), (m_now, .inl (cy 0, 29, .inl nw)), (m_undone, .inl (cy 0, 725, .inl un))] H := hP
  have hl : lv_has ls 4 [(0, .ref ta)] := hl
  have hown : s.vm.findClass RX8 = some m.cls := hown
  have hF : (f_X8_mirror nw un u) = (f_X8_mirror nw un u) := rfl
  refine lv_aload_n hx hb dX8_mirror_0 rfl (lv_at hl 0 rfl) ?_
  refine yk_v [0, 1, 2] (va_runV (As := []) (rest := []) ⟨hx, hb, hml, hown, hts⟩ (c_X8_remember l D cy ta m_now m_undone m_slots m_slotKind m_hasSlot m_sheetBits m_sheetSize m_sheets m_fresh m_rootWhich m_signs m_atNought m_change m_table m_carried nw un u fi aa bb dd ro db mn hu H.size) (cwV 0 hts gX8_mirror_X8_remember rfl rfl rfl hv_X8_remember (yk_room hRf hRl rfl rfl)) (yk_pv (q := (RX8, TX8, 23)) hG hA hS hK hP hD [0, 1, 2] (by decide +kernel) rfl rfl rfl) rfl rfl hl.1 rfl (lv_room (Nat.le_of_ble_eq_true rfl)) dX8_mirror_1 ⟨Nat.zero_le _, Nat.zero_le _⟩) hP hD hS hA rfl (Eq.trans (b := [ta, m_now, m_undone]) rfl rfl) (fun H locs hP9 hD9 hS9 => ?_)
  replace hP : va_P D vwCl [(ta, .inr (8, [.ref m_now, .ref m_undone, .ref m_slots, .ref m_slotKind, .ref m_hasSlot, .ref m_sheetBits, .ref m_sheetSize, .ref m_sheets, .int (nI ((f_X8_remember nw un u).1)), .int fi, .ref m_fresh, .long aa, .long bb, .long dd, .int (nI ro), .ref m_rootWhich, .int db, .ref m_signs, .ref m_atNought, .int (nI mn), .ref m_change, .ref m_table, .ref m_carried])), (m_now, .inl (cy 0, 29, .inl nw)), (m_undone, .inl (cy 0, 725, .inl ((f_X8_remember nw un u).2)))] H := hP9
  replace hD : va_D A [(ta, .inr (8, [.ref m_now, .ref m_undone, .ref m_slots, .ref m_slotKind, .ref m_hasSlot, .ref m_sheetBits, .ref m_sheetSize, .ref m_sheets, .int (nI ((f_X8_remember nw un u).1)), .int fi, .ref m_fresh, .long aa, .long bb, .long dd, .int (nI ro), .ref m_rootWhich, .int db, .ref m_signs, .ref m_atNought, .int (nI mn), .ref m_change, .ref m_table, .ref m_carried])), (m_now, .inl (cy 0, 29, .inl nw)), (m_undone, .inl (cy 0, 725, .inl ((f_X8_remember nw un u).2)))] := hD9
  replace hS := hS9
  clear hP9 hD9 hS9
  refine lv_iconst (v := 0) hx hb dX8_mirror_4 (by decide) ?_
  refine lv_istore_n (lv' := [(1, .int 0), (0, .ref ta)]) hx hb dX8_mirror_5 rfl hl (by decide) rfl (fun ls hl9 => ?_)
  replace hl := hl9
  clear hl9
  have J17 : ∀ (H : Heap) (locs : List Loc) (ls : Array Slot), va_P D vwCl [(ta, .inr (8, [.ref m_now, .ref m_undone, .ref m_slots, .ref m_slotKind, .ref m_hasSlot, .ref m_sheetBits, .ref m_sheetSize, .ref m_sheets, .int (nI ((f_X8_remember nw un u).1)), .int fi, .ref m_fresh, .long aa, .long bb, .long dd, .int (nI ro), .ref m_rootWhich, .int db, .ref m_signs, .ref m_atNought, .int (nI mn), .ref m_change, .ref m_table, .ref m_carried])), (m_now, .inl (cy 0, 29, .inl (l_X8_mirror_6 nw un u (12 + 1) 0 nw))), (m_undone, .inl (cy 0, 725, .inl ((f_X8_remember nw un u).2)))] H → va_D A [(ta, .inr (8, [.ref m_now, .ref m_undone, .ref m_slots, .ref m_slotKind, .ref m_hasSlot, .ref m_sheetBits, .ref m_sheetSize, .ref m_sheets, .int (nI ((f_X8_remember nw un u).1)), .int fi, .ref m_fresh, .long aa, .long bb, .long dd, .int (nI ro), .ref m_rootWhich, .int db, .ref m_signs, .ref m_atNought, .int (nI mn), .ref m_change, .ref m_table, .ref m_carried])), (m_now, .inl (cy 0, 29, .inl (l_X8_mirror_6 nw un u (12 + 1) 0 nw))), (m_undone, .inl (cy 0, 725, .inl ((f_X8_remember nw un u).2)))] → va_S A s.heap H locs → lv_has ls 4 [(0, .ref ta)] → W p l e R s m args below meth c H locs 0 0 Q (F0 m 71 ls []) := by
    clear hP hD hS hl
    intro H locs ls hP hD hS hl
    refine lv_iconst (v := 1) hx hb dX8_mirror_71 (by decide) ?_
    have hF : f_X8_mirror nw un u = (1, ((f_X8_remember nw un u).1), (l_X8_mirror_6 nw un u (12 + 1) 0 nw), ((f_X8_remember nw un u).2)) := hF
    have hf0 := yk_fst hF
    have hg0 := yk_snd hF
    have hf1 := yk_fst hg0
    have hg1 := yk_snd hg0
    have hf2 := yk_fst hg1
    have hg2 := yk_snd hg1
    rw [hf0, hf1, hf2, hg2] at hQ
    exact hQ _ _ _ _ dX8_mirror_72 hP hS
  have L6 : ∀ (M9 n6 ki : Nat) (znow_6 : Nat → Int32) (H : Heap) (locs : List Loc) (ls : Array Slot), n6 < M9 → ki + n6 = 12 → (l_X8_mirror_6 nw un u (12 + 1) 0 nw) = (l_X8_mirror_6 nw un u (n6 + 1) ki znow_6) → va_P D vwCl [(ta, .inr (8, [.ref m_now, .ref m_undone, .ref m_slots, .ref m_slotKind, .ref m_hasSlot, .ref m_sheetBits, .ref m_sheetSize, .ref m_sheets, .int (nI ((f_X8_remember nw un u).1)), .int fi, .ref m_fresh, .long aa, .long bb, .long dd, .int (nI ro), .ref m_rootWhich, .int db, .ref m_signs, .ref m_atNought, .int (nI mn), .ref m_change, .ref m_table, .ref m_carried])), (m_now, .inl (cy 0, 29, .inl znow_6)), (m_undone, .inl (cy 0, 725, .inl ((f_X8_remember nw un u).2)))] H → va_D A [(ta, .inr (8, [.ref m_now, .ref m_undone, .ref m_slots, .ref m_slotKind, .ref m_hasSlot, .ref m_sheetBits, .ref m_sheetSize, .ref m_sheets, .int (nI ((f_X8_remember nw un u).1)), .int fi, .ref m_fresh, .long aa, .long bb, .long dd, .int (nI ro), .ref m_rootWhich, .int db, .ref m_signs, .ref m_atNought, .int (nI mn), .ref m_change, .ref m_table, .ref m_carried])), (m_now, .inl (cy 0, 29, .inl znow_6)), (m_undone, .inl (cy 0, 725, .inl ((f_X8_remember nw un u).2)))] → va_S A s.heap H locs → lv_has ls 4 [(0, .ref ta), (1, .int (nI ki))] → W p l e R s m args below meth c H locs 0 0 Q (F0 m 6 ls []) := by
    clear hP hD hS hl
    intro M9
    induction M9 with
    | zero => intro n6 ki _ _ _ _ hn; exact absurd hn (Nat.not_lt_zero _)
    | succ M9 ih6 =>
      intro n6 ki znow_6 H locs ls hn6 hk6 hV6 hP hD hS hl
      refine lv_iload_n hx hb dX8_mirror_6 rfl (lv_at hl 1 rfl) ?_
      refine lv_bipush (v := 12) hx hb dX8_mirror_7 (by decide) ?_
      refine lv_icmp_ge (tgt := 71) hx hb dX8_mirror_9 (by decide) (fun hc9 => ?_) (fun hc9 => ?_)
      · replace hV6 := hV6.trans (if_pos hc9)
        have hV6 : (l_X8_mirror_6 nw un u (12 + 1) 0 nw) = znow_6 := hV6
        have J17 := J17
        rw [hV6] at J17
        exact J17 _ _ _ hP hD hS (lv_sub hl [0] rfl)
      · replace hV6 := hV6.trans (if_neg hc9)
        have hlt6 : ki < 12 := yk_lt hk6 (by omega) hc9
        refine lv_iload_n hx hb dX8_mirror_12 rfl (lv_at hl 1 rfl) ?_
        refine lv_bipush (v := 6) hx hb dX8_mirror_13 (by decide) ?_
        refine lv_irem hx hb dX8_mirror_15 (by decide) ?_
        refine yk_ti (y := nI (ki % 6)) (pk_rem (d := 6) (by omega) (by decide) (by decide)) ?_
        refine lv_istore_n (lv' := [(2, .int (nI (ki % 6))), (0, .ref ta), (1, .int (nI ki))]) hx hb dX8_mirror_16 rfl hl (by decide) rfl (fun ls hl9 => ?_)
        replace hl := hl9
        clear hl9
        refine lv_iload_n hx hb dX8_mirror_17 rfl (lv_at hl 2 rfl) ?_
        refine lv_bipush (v := 6) hx hb dX8_mirror_18 (by decide) ?_
        have J12 : ∀ (v11 : Int32) (H : Heap) (locs : List Loc) (ls : Array Slot), v11 = (if 6 ≤ (nI ki) then 1 else (-1)) → va_P D vwCl [(ta, .inr (8, [.ref m_now, .ref m_undone, .ref m_slots, .ref m_slotKind, .ref m_hasSlot, .ref m_sheetBits, .ref m_sheetSize, .ref m_sheets, .int (nI ((f_X8_remember nw un u).1)), .int fi, .ref m_fresh, .long aa, .long bb, .long dd, .int (nI ro), .ref m_rootWhich, .int db, .ref m_signs, .ref m_atNought, .int (nI mn), .ref m_change, .ref m_table, .ref m_carried])), (m_now, .inl (cy 0, 29, .inl znow_6)), (m_undone, .inl (cy 0, 725, .inl ((f_X8_remember nw un u).2)))] H → va_D A [(ta, .inr (8, [.ref m_now, .ref m_undone, .ref m_slots, .ref m_slotKind, .ref m_hasSlot, .ref m_sheetBits, .ref m_sheetSize, .ref m_sheets, .int (nI ((f_X8_remember nw un u).1)), .int fi, .ref m_fresh, .long aa, .long bb, .long dd, .int (nI ro), .ref m_rootWhich, .int db, .ref m_signs, .ref m_atNought, .int (nI mn), .ref m_change, .ref m_table, .ref m_carried])), (m_now, .inl (cy 0, 29, .inl znow_6)), (m_undone, .inl (cy 0, 725, .inl ((f_X8_remember nw un u).2)))] → va_S A s.heap H locs → lv_has ls 4 [(0, .ref ta), (1, .int (nI ki)), (2, .int (nI (ki % 6)))] → W p l e R s m args below meth c H locs 0 0 Q (F0 m 28 ls [.int v11]) := by
          clear hP hD hS hl
          intro v11 H locs ls ev11
          rw [ev11]
          clear ev11
          intro hP hD hS hl
          refine lv_istore_n (lv' := [(3, .int (if 6 ≤ (nI ki) then 1 else (-1))), (0, .ref ta), (1, .int (nI ki)), (2, .int (nI (ki % 6)))]) hx hb dX8_mirror_28 rfl hl (by decide) rfl (fun ls hl9 => ?_)
          replace hl := hl9
          clear hl9
          refine lv_aload_n hx hb dX8_mirror_29 rfl (lv_at hl 1 rfl) ?_
          refine va_get (D := D) (ci := 8) (v := .ref m_now) (C := RX8) (T := TX8) (N := 23) hx hb hts uX8_mirror_X8 hown hK hP 0 rfl rfl 0 (by decide) (hts _ kX8_mirror_0) (fun _ h9 => h9) rfl dX8_mirror_30 ?_
          refine lv_iload_n hx hb dX8_mirror_33 rfl (lv_at hl 2 rfl) ?_
          refine lv_iload_n hx hb dX8_mirror_34 rfl (lv_at hl 3 rfl) ?_
          refine lv_iconst (v := 1) hx hb dX8_mirror_35 (by decide) ?_
          have J16 : ∀ (v15 : Int32) (H : Heap) (locs : List Loc) (ls : Array Slot), v15 = (if (nI (ki % 6)) = 1 then ((-(if 6 ≤ (nI ki) then 1 else (-1))) * (znow_6 ki)) else (if (nI (ki % 6)) = 4 then ((-(if 6 ≤ (nI ki) then 1 else (-1))) * (znow_6 ki)) else ((if 6 ≤ (nI ki) then 1 else (-1)) * (znow_6 ki)))) → va_P D vwCl [(ta, .inr (8, [.ref m_now, .ref m_undone, .ref m_slots, .ref m_slotKind, .ref m_hasSlot, .ref m_sheetBits, .ref m_sheetSize, .ref m_sheets, .int (nI ((f_X8_remember nw un u).1)), .int fi, .ref m_fresh, .long aa, .long bb, .long dd, .int (nI ro), .ref m_rootWhich, .int db, .ref m_signs, .ref m_atNought, .int (nI mn), .ref m_change, .ref m_table, .ref m_carried])), (m_now, .inl (cy 0, 29, .inl znow_6)), (m_undone, .inl (cy 0, 725, .inl ((f_X8_remember nw un u).2)))] H → va_D A [(ta, .inr (8, [.ref m_now, .ref m_undone, .ref m_slots, .ref m_slotKind, .ref m_hasSlot, .ref m_sheetBits, .ref m_sheetSize, .ref m_sheets, .int (nI ((f_X8_remember nw un u).1)), .int fi, .ref m_fresh, .long aa, .long bb, .long dd, .int (nI ro), .ref m_rootWhich, .int db, .ref m_signs, .ref m_atNought, .int (nI mn), .ref m_change, .ref m_table, .ref m_carried])), (m_now, .inl (cy 0, 29, .inl znow_6)), (m_undone, .inl (cy 0, 725, .inl ((f_X8_remember nw un u).2)))] → va_S A s.heap H locs → lv_has ls 4 [(0, .ref ta), (1, .int (nI ki)), (2, .int (nI (ki % 6))), (3, .int (if 6 ≤ (nI ki) then 1 else (-1)))] → W p l e R s m args below meth c H locs 0 0 Q (F0 m 64 ls [.int v15, .int (nI ki), .ref m_now]) := by
            clear hP hD hS hl
            intro v15 H locs ls ev15
            rw [ev15]
            clear ev15
            intro hP hD hS hl
            refine yk_ist hx hb hK hP hD hS 1 0 rfl rfl ki (by omega) (by decide) dX8_mirror_64 (fun H locs hP9 hD9 hS9 => ?_)
            replace hP : va_P D vwCl [(ta, .inr (8, [.ref m_now, .ref m_undone, .ref m_slots, .ref m_slotKind, .ref m_hasSlot, .ref m_sheetBits, .ref m_sheetSize, .ref m_sheets, .int (nI ((f_X8_remember nw un u).1)), .int fi, .ref m_fresh, .long aa, .long bb, .long dd, .int (nI ro), .ref m_rootWhich, .int db, .ref m_signs, .ref m_atNought, .int (nI mn), .ref m_change, .ref m_table, .ref m_carried])), (m_now, .inl (cy 0, 29, .inl (upd znow_6 ki (if (nI (ki % 6)) = 1 then ((-(if 6 ≤ (nI ki) then 1 else (-1))) * (znow_6 ki)) else (if (nI (ki % 6)) = 4 then ((-(if 6 ≤ (nI ki) then 1 else (-1))) * (znow_6 ki)) else ((if 6 ≤ (nI ki) then 1 else (-1)) * (znow_6 ki))))))), (m_undone, .inl (cy 0, 725, .inl ((f_X8_remember nw un u).2)))] H := hP9
            replace hD : va_D A [(ta, .inr (8, [.ref m_now, .ref m_undone, .ref m_slots, .ref m_slotKind, .ref m_hasSlot, .ref m_sheetBits, .ref m_sheetSize, .ref m_sheets, .int (nI ((f_X8_remember nw un u).1)), .int fi, .ref m_fresh, .long aa, .long bb, .long dd, .int (nI ro), .ref m_rootWhich, .int db, .ref m_signs, .ref m_atNought, .int (nI mn), .ref m_change, .ref m_table, .ref m_carried])), (m_now, .inl (cy 0, 29, .inl (upd znow_6 ki (if (nI (ki % 6)) = 1 then ((-(if 6 ≤ (nI ki) then 1 else (-1))) * (znow_6 ki)) else (if (nI (ki % 6)) = 4 then ((-(if 6 ≤ (nI ki) then 1 else (-1))) * (znow_6 ki)) else ((if 6 ≤ (nI ki) then 1 else (-1)) * (znow_6 ki))))))), (m_undone, .inl (cy 0, 725, .inl ((f_X8_remember nw un u).2)))] := hD9
            replace hS := hS9
            clear hP9 hD9 hS9
            refine lv_iinc (v := nI (ki + 1)) (lv' := [(1, .int (nI (ki + 1))), (0, .ref ta), (2, .int (nI (ki % 6))), (3, .int (if 6 ≤ (nI ki) then 1 else (-1)))]) hx hb dX8_mirror_65 hl (k := 1) rfl (yk_inc ki) (by decide) rfl (fun ls hl9 => ?_)
            replace hl := hl9
            clear hl9
            refine lv_goto (tgt := 6) hx hb dX8_mirror_68 (by decide) ?_
            obtain ⟨n9, rfl⟩ : ∃ n9, n6 = n9 + 1 := ⟨n6 - 1, by omega⟩
            exact ih6 n9 (ki + 1) (upd znow_6 ki (if (nI (ki % 6)) = 1 then ((-(if 6 ≤ (nI ki) then 1 else (-1))) * (znow_6 ki)) else (if (nI (ki % 6)) = 4 then ((-(if 6 ≤ (nI ki) then 1 else (-1))) * (znow_6 ki)) else ((if 6 ≤ (nI ki) then 1 else (-1)) * (znow_6 ki))))) _ _ _ (by omega) (by omega)  hV6 hP hD hS (lv_sub hl [1, 0] rfl)
          refine lv_icmp_eq (tgt := 44) hx hb dX8_mirror_36 (by decide) (fun hc13 => ?_) (fun hc13 => ?_)
          · refine lv_iload_n hx hb dX8_mirror_44 rfl (lv_at hl 0 rfl) ?_
            refine lv_ineg hx hb dX8_mirror_45 ?_
            refine lv_aload_n hx hb dX8_mirror_46 rfl (lv_at hl 1 rfl) ?_
            refine va_get (D := D) (ci := 8) (v := .ref m_now) (C := RX8) (T := TX8) (N := 23) hx hb hts uX8_mirror_X8 hown hK hP 0 rfl rfl 0 (by decide) (hts _ kX8_mirror_0) (fun _ h9 => h9) rfl dX8_mirror_47 ?_
            refine lv_iload_n hx hb dX8_mirror_50 rfl (lv_at hl 2 rfl) ?_
            refine yk_ild hx hb hK hP 1 0 rfl rfl ki (by omega) (by decide) dX8_mirror_51 ?_
            refine lv_imul hx hb dX8_mirror_52 ?_
            refine lv_goto (tgt := 64) hx hb dX8_mirror_53 (by decide) ?_
            exact J16 _ _ _ _ ((if_pos hc13).symm) hP hD hS (lv_sub hl [1, 2, 3, 0] rfl)
          · refine lv_iload_n hx hb dX8_mirror_39 rfl (lv_at hl 3 rfl) ?_
            refine lv_iconst (v := 4) hx hb dX8_mirror_40 (by decide) ?_
            refine lv_icmp_ne (tgt := 56) hx hb dX8_mirror_41 (by decide) (fun hc14 => ?_) (fun hc14 => ?_)
            · refine lv_iload_n hx hb dX8_mirror_56 rfl (lv_at hl 0 rfl) ?_
              refine lv_aload_n hx hb dX8_mirror_57 rfl (lv_at hl 1 rfl) ?_
              refine va_get (D := D) (ci := 8) (v := .ref m_now) (C := RX8) (T := TX8) (N := 23) hx hb hts uX8_mirror_X8 hown hK hP 0 rfl rfl 0 (by decide) (hts _ kX8_mirror_0) (fun _ h9 => h9) rfl dX8_mirror_58 ?_
              refine lv_iload_n hx hb dX8_mirror_61 rfl (lv_at hl 2 rfl) ?_
              refine yk_ild hx hb hK hP 1 0 rfl rfl ki (by omega) (by decide) dX8_mirror_62 ?_
              refine lv_imul hx hb dX8_mirror_63 ?_
              exact J16 _ _ _ _ (((if_neg hc13).trans (if_neg hc14)).symm) hP hD hS (lv_sub hl [1, 2, 3, 0] rfl)
            · refine lv_iload_n hx hb dX8_mirror_44 rfl (lv_at hl 0 rfl) ?_
              refine lv_ineg hx hb dX8_mirror_45 ?_
              refine lv_aload_n hx hb dX8_mirror_46 rfl (lv_at hl 1 rfl) ?_
              refine va_get (D := D) (ci := 8) (v := .ref m_now) (C := RX8) (T := TX8) (N := 23) hx hb hts uX8_mirror_X8 hown hK hP 0 rfl rfl 0 (by decide) (hts _ kX8_mirror_0) (fun _ h9 => h9) rfl dX8_mirror_47 ?_
              refine lv_iload_n hx hb dX8_mirror_50 rfl (lv_at hl 2 rfl) ?_
              refine yk_ild hx hb hK hP 1 0 rfl rfl ki (by omega) (by decide) dX8_mirror_51 ?_
              refine lv_imul hx hb dX8_mirror_52 ?_
              refine lv_goto (tgt := 64) hx hb dX8_mirror_53 (by decide) ?_
              exact J16 _ _ _ _ (((if_neg hc13).trans (if_pos hc14)).symm) hP hD hS (lv_sub hl [1, 2, 3, 0] rfl)
        refine lv_icmp_ge (tgt := 27) hx hb dX8_mirror_20 (by decide) (fun hc10 => ?_) (fun hc10 => ?_)
        · refine lv_iconst (v := 1) hx hb dX8_mirror_27 (by decide) ?_
          exact J12 _ _ _ _ ((if_pos hc10).symm) hP hD hS (lv_sub hl [1, 2, 0] rfl)
        · refine lv_iconst (v := (-1)) hx hb dX8_mirror_23 (by decide) ?_
          refine lv_goto (tgt := 28) hx hb dX8_mirror_24 (by decide) ?_
          exact J12 _ _ _ _ ((if_neg hc10).symm) hP hD hS (lv_sub hl [1, 2, 0] rfl)
  exact L6 (12 + 1) 12 0 nw _ _ _ (Nat.lt_succ_self _) (by omega)  rfl hP hD hS (lv_sub hl [1, 0] rfl)

theorem kX8_isSmall_0 : Cond.fieldLink RX8 35 "FlowPlaneModel" "fresh" "[I" ∈ wsX8_isSmall := by decide +kernel
theorem uX8_isSmall_X8 : ∀ w ∈ u_ws RX8 TX8 23, w ∈ wsX8_isSmall := by decide +kernel
def l_X8_isSmall_2 (fr : Nat → Int32) : Nat → Nat → Int32
  | 0, ki => 0
  | fu_X8_isSmall_2 + 1, ki => (if 12 ≤ (nI ki) then 1 else (if (f_X8_in (fr ki) (-4) 4) = 0 then 0 else (l_X8_isSmall_2 fr fu_X8_isSmall_2 (ki + 1))))
def f_X8_isSmall (fr : Nat → Int32) : Int32 := (l_X8_isSmall_2 fr (12 + 1) 0)
theorem bl_X8_isSmall_2 (fr : Nat → Int32) : ∀ (fz : Nat) (q0 : Nat), (l_X8_isSmall_2 fr fz q0) = 0 ∨ (l_X8_isSmall_2 fr fz q0) = 1
  | 0, _ => Or.inl rfl
  | fz + 1, _ => by
    unfold l_X8_isSmall_2
    (repeat' split) <;> first | exact Or.inl (by with_reducible rfl) | exact Or.inr (by with_reducible rfl) | exact bl_X8_isSmall_2 _ fz _ | with_reducible exact b_X8_in _ _ _
theorem b_X8_isSmall (fr : Nat → Int32) : (f_X8_isSmall fr) = 0 ∨ (f_X8_isSmall fr) = 1 := by
  unfold f_X8_isSmall; (repeat' split) <;> first | exact Or.inl (by with_reducible rfl) | exact Or.inr (by with_reducible rfl) | with_reducible exact b_X8_in _ _ _ | with_reducible exact bl_X8_isSmall_2 _ _ _
set_option maxHeartbeats 400000000 in
set_option maxRecDepth 100000 in
theorem c_X8_isSmall (l : Launch) (D : va_G) (cy : Nat → ClassId) (ta : Nat) (m_fresh : Nat) (m_now : Nat) (m_undone : Nat) (m_slots : Nat) (m_slotKind : Nat) (m_hasSlot : Nat) (m_sheetBits : Nat) (m_sheetSize : Nat) (m_sheets : Nat) (m_rootWhich : Nat) (m_signs : Nat) (m_atNought : Nat) (m_change : Nat) (m_table : Nat) (m_carried : Nat) (u : Nat) (fi : Int32) (fr : Nat → Int32) (aa : Int64) (bb : Int64) (dd : Int64) (ro : Nat) (db : Int32) (mn : Nat) : yk_Ci l D vwCl (yk_ty cy) yX8_isSmall wsX8_isSmall 1 22 [.ref ta] [(ta, .inr (8, [.ref m_now, .ref m_undone, .ref m_slots, .ref m_slotKind, .ref m_hasSlot, .ref m_sheetBits, .ref m_sheetSize, .ref m_sheets, .int (nI u), .int fi, .ref m_fresh, .long aa, .long bb, .long dd, .int (nI ro), .ref m_rootWhich, .int db, .ref m_signs, .ref m_atNought, .int (nI mn), .ref m_change, .ref m_table, .ref m_carried])), (m_fresh, .inl (cy 0, 12, .inl fr))] (f_X8_isSmall fr) [(ta, .inr (8, [.ref m_now, .ref m_undone, .ref m_slots, .ref m_slotKind, .ref m_hasSlot, .ref m_sheetBits, .ref m_sheetSize, .ref m_sheets, .int (nI u), .int fi, .ref m_fresh, .long aa, .long bb, .long dd, .int (nI ro), .ref m_rootWhich, .int db, .ref m_signs, .ref m_atNought, .int (nI mn), .ref m_change, .ref m_table, .ref m_carried])), (m_fresh, .inl (cy 0, 12, .inl fr))] := by
  refine yk_eI (cc := cX8_isSmall) (maxL := 2) (by decide) rfl (Nat.le_of_ble_eq_true rfl) (yk_nb (b_X8_isSmall fr)) ?_
  intro p e R s m args below meth c A Q ls H locs hx hb hml hown hts hRf hRl hA hK hG hP hD hS hl hQ
  have hP : va_P D vwCl [(ta, .inr (8, [.ref m_now, .ref m_undone, .ref m_slots, .ref m_slotKind, .ref m_hasSlot, .ref m_sheetBits, .ref m_sheetSize, .ref m_sheets, .int (nI u), .int fi, .ref m_fresh, .long aa, .long bb, .long dd, .int (nI ro), .ref m_rootWhich, .int db, .ref m_signs, .ref m_atNought, .int (nI mn), .ref m_change, .ref m_table, .ref m_carried])), (m_fresh, .inl (cy 0, 12, .inl fr))] H := hP
  have hl : lv_has ls 2 [(0, .ref ta)] := hl
  have hown : s.vm.findClass RX8 = some m.cls := hown
  have hF : (f_X8_isSmall fr) = (f_X8_isSmall fr) := rfl
  refine lv_iconst (v := 0) hx hb dX8_isSmall_0 (by decide) ?_
  refine lv_istore_n (lv' := [(1, .int 0), (0, .ref ta)]) hx hb dX8_isSmall_1 rfl hl (by decide) rfl (fun ls hl9 => ?_)
  replace hl := hl9
  clear hl9
  have L2 : ∀ (M9 n2 ki : Nat) (H : Heap) (locs : List Loc) (ls : Array Slot), n2 < M9 → ki + n2 = 12 → f_X8_isSmall fr = (l_X8_isSmall_2 fr (n2 + 1) ki) → va_P D vwCl [(ta, .inr (8, [.ref m_now, .ref m_undone, .ref m_slots, .ref m_slotKind, .ref m_hasSlot, .ref m_sheetBits, .ref m_sheetSize, .ref m_sheets, .int (nI u), .int fi, .ref m_fresh, .long aa, .long bb, .long dd, .int (nI ro), .ref m_rootWhich, .int db, .ref m_signs, .ref m_atNought, .int (nI mn), .ref m_change, .ref m_table, .ref m_carried])), (m_fresh, .inl (cy 0, 12, .inl fr))] H → va_D A [(ta, .inr (8, [.ref m_now, .ref m_undone, .ref m_slots, .ref m_slotKind, .ref m_hasSlot, .ref m_sheetBits, .ref m_sheetSize, .ref m_sheets, .int (nI u), .int fi, .ref m_fresh, .long aa, .long bb, .long dd, .int (nI ro), .ref m_rootWhich, .int db, .ref m_signs, .ref m_atNought, .int (nI mn), .ref m_change, .ref m_table, .ref m_carried])), (m_fresh, .inl (cy 0, 12, .inl fr))] → va_S A s.heap H locs → lv_has ls 2 [(0, .ref ta), (1, .int (nI ki))] → W p l e R s m args below meth c H locs 0 0 Q (F0 m 2 ls []) := by
    clear hP hD hS hl hF
    intro M9
    induction M9 with
    | zero => intro n2 ki _ _ _ hn; exact absurd hn (Nat.not_lt_zero _)
    | succ M9 ih2 =>
      intro n2 ki H locs ls hn2 hk2 hF hP hD hS hl
      refine lv_iload_n hx hb dX8_isSmall_2 rfl (lv_at hl 1 rfl) ?_
      refine lv_bipush (v := 12) hx hb dX8_isSmall_3 (by decide) ?_
      refine lv_icmp_ge (tgt := 31) hx hb dX8_isSmall_5 (by decide) (fun hc1 => ?_) (fun hc1 => ?_)
      · replace hF := hF.trans (if_pos hc1)
        refine lv_iconst (v := 1) hx hb dX8_isSmall_31 (by decide) ?_
        have hF : f_X8_isSmall fr = 1 := hF
        rw [hF] at hQ
        exact hQ _ _ _ _ dX8_isSmall_32 hP hS
      · replace hF := hF.trans (if_neg hc1)
        have hlt2 : ki < 12 := yk_lt hk2 (by omega) hc1
        refine lv_aload_n hx hb dX8_isSmall_8 rfl (lv_at hl 0 rfl) ?_
        refine va_get (D := D) (ci := 8) (v := .ref m_fresh) (C := RX8) (T := TX8) (N := 23) hx hb hts uX8_isSmall_X8 hown hK hP 0 rfl rfl 10 (by decide) (hts _ kX8_isSmall_0) (fun _ h9 => h9) rfl dX8_isSmall_9 ?_
        refine lv_iload_n hx hb dX8_isSmall_12 rfl (lv_at hl 1 rfl) ?_
        refine yk_ild hx hb hK hP 1 0 rfl rfl ki (by omega) (by decide) dX8_isSmall_13 ?_
        refine lv_bipush (v := (-4)) hx hb dX8_isSmall_14 (by decide) ?_
        refine lv_iconst (v := 4) hx hb dX8_isSmall_16 (by decide) ?_
        refine yk_i [] (va_runS (As := [.int (fr ki), .int (-4), .int 4]) (rest := []) ⟨hx, hb, hml, hown, hts⟩ (c_X8_in l D cy (fr ki) (-4) 4 H.size) (va_cwS 3 hts gX8_isSmall_X8_in rfl rfl rfl hs_X8_in (yk_room hRf hRl rfl rfl)) (yk_ps hG hA hS hK hP hD [] (by decide +kernel) rfl) rfl rfl hl.1 rfl (lv_room (Nat.le_of_ble_eq_true rfl)) dX8_isSmall_17 ⟨Nat.zero_le _, Nat.zero_le _⟩) hP hD hS hA rfl rfl (fun H locs hP9 hD9 hS9 => ?_)
        replace hP : va_P D vwCl [(ta, .inr (8, [.ref m_now, .ref m_undone, .ref m_slots, .ref m_slotKind, .ref m_hasSlot, .ref m_sheetBits, .ref m_sheetSize, .ref m_sheets, .int (nI u), .int fi, .ref m_fresh, .long aa, .long bb, .long dd, .int (nI ro), .ref m_rootWhich, .int db, .ref m_signs, .ref m_atNought, .int (nI mn), .ref m_change, .ref m_table, .ref m_carried])), (m_fresh, .inl (cy 0, 12, .inl fr))] H := hP9
        replace hD : va_D A [(ta, .inr (8, [.ref m_now, .ref m_undone, .ref m_slots, .ref m_slotKind, .ref m_hasSlot, .ref m_sheetBits, .ref m_sheetSize, .ref m_sheets, .int (nI u), .int fi, .ref m_fresh, .long aa, .long bb, .long dd, .int (nI ro), .ref m_rootWhich, .int db, .ref m_signs, .ref m_atNought, .int (nI mn), .ref m_change, .ref m_table, .ref m_carried])), (m_fresh, .inl (cy 0, 12, .inl fr))] := hD9
        replace hS := hS9
        clear hP9 hD9 hS9
        refine lv_if_ne (tgt := 25) hx hb dX8_isSmall_20 (by decide) (fun hc2 => ?_) (fun hc2 => ?_)
        · replace hF := hF.trans (if_neg hc2)
          refine lv_iinc (v := nI (ki + 1)) (lv' := [(1, .int (nI (ki + 1))), (0, .ref ta)]) hx hb dX8_isSmall_25 hl (k := 1) rfl (yk_inc ki) (by decide) rfl (fun ls hl9 => ?_)
          replace hl := hl9
          clear hl9
          refine lv_goto (tgt := 2) hx hb dX8_isSmall_28 (by decide) ?_
          obtain ⟨n9, rfl⟩ : ∃ n9, n2 = n9 + 1 := ⟨n2 - 1, by omega⟩
          exact ih2 n9 (ki + 1) _ _ _ (by omega) (by omega)  hF hP hD hS (lv_sub hl [1, 0] rfl)
        · replace hF := hF.trans (if_pos hc2)
          refine lv_iconst (v := 0) hx hb dX8_isSmall_23 (by decide) ?_
          have hF : f_X8_isSmall fr = 0 := hF
          rw [hF] at hQ
          exact hQ _ _ _ _ dX8_isSmall_24 hP hS
  exact L2 (12 + 1) 12 0  _ _ _ (Nat.lt_succ_self _) (by omega)  hF hP hD hS (lv_sub hl [1, 0] rfl)
