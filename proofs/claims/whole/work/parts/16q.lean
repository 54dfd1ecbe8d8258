
theorem kX8_bring_0 : Cond.fieldLink RX8 22 "FlowPlaneModel" "hasSlot" "[Z" ∈ wsX8_bring := by decide +kernel
theorem kX8_bring_1 : Cond.fieldLink RX8 7 "FlowPlaneModel" "now" "[I" ∈ wsX8_bring := by decide +kernel
theorem kX8_bring_2 : Cond.fieldLink RX8 16 "FlowPlaneModel" "slots" "[I" ∈ wsX8_bring := by decide +kernel
theorem kX8_bring_3 : Cond.fieldLink RX8 19 "FlowPlaneModel" "slotKind" "[I" ∈ wsX8_bring := by decide +kernel
theorem kX8_bring_4 : Cond.constant RX8 100 (-1000006) ∈ wsX8_bring := by decide +kernel
theorem kX8_bring_5 : Cond.constant RX8 68 (-1000001) ∈ wsX8_bring := by decide +kernel
theorem uX8_bring_X8 : ∀ w ∈ u_ws RX8 TX8 23, w ∈ wsX8_bring := by decide +kernel
def l_X8_bring_36 (nw : Nat → Int32) (un : Nat → Int32) (sl : Nat → Int32) (sk : Nat → Int32) (hs : Nat → Int32) (u : Nat) (fi : Int32) (px : Int32) : Nat → Nat → (Nat → Int32) → (Nat → Int32)
  | 0, ki, znow_36 => znow_36
  | fu_X8_bring_36 + 1, ki, znow_36 => (if 12 ≤ (nI ki) then znow_36 else (l_X8_bring_36 nw un sl sk hs u fi px fu_X8_bring_36 (ki + 1) (upd znow_36 ki (sl ((12 * px.toNatClampNeg) + ki)))))
def f_X8_bring (nw : Nat → Int32) (un : Nat → Int32) (sl : Nat → Int32) (sk : Nat → Int32) (hs : Nat → Int32) (u : Nat) (fi : Int32) (px : Int32) : Int32 × Nat × Int32 × (Nat → Int32) × (Nat → Int32) := (if (f_X8_isSlot px) = 0 then (((f_X8_found fi (-1000001)).1), u, ((f_X8_found fi (-1000001)).2), nw, un) else (if (hs px.toNatClampNeg) = 0 then (((f_X8_found fi (-1000006)).1), u, ((f_X8_found fi (-1000006)).2), nw, un) else ((sk px.toNatClampNeg), ((f_X8_remember nw un u).1), fi, (l_X8_bring_36 nw un sl sk hs u fi px (12 + 1) 0 nw), ((f_X8_remember nw un u).2))))
set_option maxHeartbeats 400000000 in
set_option maxRecDepth 100000 in
theorem c_X8_bring (l : Launch) (D : va_G) (cy : Nat → ClassId) (ta : Nat) (m_now : Nat) (m_undone : Nat) (m_slots : Nat) (m_slotKind : Nat) (m_hasSlot : Nat) (m_sheetBits : Nat) (m_sheetSize : Nat) (m_sheets : Nat) (m_fresh : Nat) (m_rootWhich : Nat) (m_signs : Nat) (m_atNought : Nat) (m_change : Nat) (m_table : Nat) (m_carried : Nat) (nw : Nat → Int32) (un : Nat → Int32) (sl : Nat → Int32) (sk : Nat → Int32) (hs : Nat → Int32) (u : Nat) (fi : Int32) (aa : Int64) (bb : Int64) (dd : Int64) (ro : Nat) (db : Int32) (mn : Nat) (px : Int32) (hu : u ≤ 25) : yk_Ci l D vwCl (yk_ty cy) yX8_bring wsX8_bring 2 42 [.ref ta, .int px] [(ta, .inr (8, [.ref m_now, .ref m_undone, .ref m_slots, .ref m_slotKind, .ref m_hasSlot, .ref m_sheetBits, .ref m_sheetSize, .ref m_sheets, .int (nI u), .int fi, .ref m_fresh, .long aa, .long bb, .long dd, .int (nI ro), .ref m_rootWhich, .int db, .ref m_signs, .ref m_atNought, .int (nI mn), .ref m_change, .ref m_table, .ref m_carried])), (m_now, .inl (cy 0, 29, .inl nw)), (m_undone, .inl (cy 0, 725, .inl un)), (m_slots, .inl (cy 0, 48, .inl sl)), (m_slotKind, .inl (cy 0, 4, .inl sk)), (m_hasSlot, .inl (cy 2, 4, .inl hs))] ((f_X8_bring nw un sl sk hs u fi px).1) [(ta, .inr (8, [.ref m_now, .ref m_undone, .ref m_slots, .ref m_slotKind, .ref m_hasSlot, .ref m_sheetBits, .ref m_sheetSize, .ref m_sheets, .int (nI ((f_X8_bring nw un sl sk hs u fi px).2.1)), .int ((f_X8_bring nw un sl sk hs u fi px).2.2.1), .ref m_fresh, .long aa, .long bb, .long dd, .int (nI ro), .ref m_rootWhich, .int db, .ref m_signs, .ref m_atNought, .int (nI mn), .ref m_change, .ref m_table, .ref m_carried])), (m_now, .inl (cy 0, 29, .inl ((f_X8_bring nw un sl sk hs u fi px).2.2.2.1))), (m_undone, .inl (cy 0, 725, .inl ((f_X8_bring nw un sl sk hs u fi px).2.2.2.2))), (m_slots, .inl (cy 0, 48, .inl sl)), (m_slotKind, .inl (cy 0, 4, .inl sk)), (m_hasSlot, .inl (cy 2, 4, .inl hs))] := by
  refine yk_eI (cc := cX8_bring) (maxL := 3) (by decide) rfl (Nat.le_of_ble_eq_true rfl) rfl ?_
  intro p e R s m args below meth c A Q ls H locs hx hb hml hown hts hRf hRl hA hK hG hP hD hS hl hQ
  have hP : va_P D vwCl [(ta, .inr (8, [.ref m_now, .ref m_undone, .ref m_slots, .ref m_slotKind, .ref m_hasSlot, .ref m_sheetBits, .ref m_sheetSize, .ref m_sheets, .int (nI u), .int fi, .ref m_fresh, .long aa, .long bb, .long dd, .int (nI ro), .ref m_rootWhich, .int db, .ref m_signs, .ref m_atNought, .int (nI mn), .ref m_change, .ref m_table, .ref m_carried])), (m_now, .inl (cy 0, 29, .inl nw)), (m_undone, .inl (cy 0, 725, .inl un)), (m_slots, .inl (cy 0, 48, .inl sl)), (m_slotKind, .inl (cy 0, 4, .inl sk)), (m_hasSlot, .inl (cy 2, 4, .inl hs))] H := hP
  have hl : lv_has ls 3 [(0, .ref ta), (1, .int px)] := hl
  have hown : s.vm.findClass RX8 = some m.cls := hown
  have hF : (f_X8_bring nw un sl sk hs u fi px) = (f_X8_bring nw un sl sk hs u fi px) := rfl
  refine lv_iload_n hx hb dX8_bring_0 rfl (lv_at hl 1 rfl) ?_
  refine yk_i [] (va_runS (As := [.int px]) (rest := []) ⟨hx, hb, hml, hown, hts⟩ (c_X8_isSlot l D cy px H.size) (va_cwS 1 hts gX8_bring_X8_isSlot rfl rfl rfl hs_X8_isSlot (yk_room hRf hRl rfl rfl)) (yk_ps hG hA hS hK hP hD [] (by decide +kernel) rfl) rfl rfl hl.1 rfl (lv_room (Nat.le_of_ble_eq_true rfl)) dX8_bring_1 ⟨Nat.zero_le _, Nat.zero_le _⟩) hP hD hS hA rfl rfl (fun H locs hP9 hD9 hS9 => ?_)
  replace hP : va_P D vwCl [(ta, .inr (8, [.ref m_now, .ref m_undone, .ref m_slots, .ref m_slotKind, .ref m_hasSlot, .ref m_sheetBits, .ref m_sheetSize, .ref m_sheets, .int (nI u), .int fi, .ref m_fresh, .long aa, .long bb, .long dd, .int (nI ro), .ref m_rootWhich, .int db, .ref m_signs, .ref m_atNought, .int (nI mn), .ref m_change, .ref m_table, .ref m_carried])), (m_now, .inl (cy 0, 29, .inl nw)), (m_undone, .inl (cy 0, 725, .inl un)), (m_slots, .inl (cy 0, 48, .inl sl)), (m_slotKind, .inl (cy 0, 4, .inl sk)), (m_hasSlot, .inl (cy 2, 4, .inl hs))] H := hP9
  replace hD : va_D A [(ta, .inr (8, [.ref m_now, .ref m_undone, .ref m_slots, .ref m_slotKind, .ref m_hasSlot, .ref m_sheetBits, .ref m_sheetSize, .ref m_sheets, .int (nI u), .int fi, .ref m_fresh, .long aa, .long bb, .long dd, .int (nI ro), .ref m_rootWhich, .int db, .ref m_signs, .ref m_atNought, .int (nI mn), .ref m_change, .ref m_table, .ref m_carried])), (m_now, .inl (cy 0, 29, .inl nw)), (m_undone, .inl (cy 0, 725, .inl un)), (m_slots, .inl (cy 0, 48, .inl sl)), (m_slotKind, .inl (cy 0, 4, .inl sk)), (m_hasSlot, .inl (cy 2, 4, .inl hs))] := hD9
  replace hS := hS9
  clear hP9 hD9 hS9
  refine lv_if_ne (tgt := 14) hx hb dX8_bring_4 (by decide) (fun hc1 => ?_) (fun hc1 => ?_)
  · replace hF := hF.trans (if_neg hc1)
    have hq2 : px = nI px.toNatClampNeg := (ix_sl (by assumption)).1
    have hq2b : px.toNatClampNeg < 4 := (ix_sl (by assumption)).2
    rw [hq2] at hl
    refine lv_aload_n hx hb dX8_bring_14 rfl (lv_at hl 0 rfl) ?_
    refine va_get (D := D) (ci := 8) (v := .ref m_hasSlot) (C := RX8) (T := TX8) (N := 23) hx hb hts uX8_bring_X8 hown hK hP 0 rfl rfl 4 (by decide) (hts _ kX8_bring_0) (fun _ h9 => h9) rfl dX8_bring_15 ?_
    refine lv_iload_n hx hb dX8_bring_18 rfl (lv_at hl 1 rfl) ?_
    refine yk_zld hx hb hK hP 5 2 rfl rfl px.toNatClampNeg (by omega) (by decide) dX8_bring_19 ?_
    refine lv_if_ne (tgt := 30) hx hb dX8_bring_20 (by decide) (fun hc3 => ?_) (fun hc3 => ?_)
    · replace hF := hF.trans (if_neg hc3)
      refine lv_aload_n hx hb dX8_bring_30 rfl (lv_at hl 0 rfl) ?_
      refine yk_v [0, 1, 2] (va_runV (As := []) (rest := []) ⟨hx, hb, hml, hown, hts⟩ (c_X8_remember l D cy ta m_now m_undone m_slots m_slotKind m_hasSlot m_sheetBits m_sheetSize m_sheets m_fresh m_rootWhich m_signs m_atNought m_change m_table m_carried nw un u fi aa bb dd ro db mn hu H.size) (cwV 0 hts gX8_bring_X8_remember rfl rfl rfl hv_X8_remember (yk_room hRf hRl rfl rfl)) (yk_pv (q := (RX8, TX8, 23)) hG hA hS hK hP hD [0, 1, 2] (by decide +kernel) rfl rfl rfl) rfl rfl hl.1 rfl (lv_room (Nat.le_of_ble_eq_true rfl)) dX8_bring_31 ⟨Nat.zero_le _, Nat.zero_le _⟩) hP hD hS hA rfl (Eq.trans (b := [ta, m_now, m_undone]) rfl rfl) (fun H locs hP9 hD9 hS9 => ?_)
      replace hP : va_P D vwCl [(ta, .inr (8, [.ref m_now, .ref m_undone, .ref m_slots, .ref m_slotKind, .ref m_hasSlot, .ref m_sheetBits, .ref m_sheetSize, .ref m_sheets, .int (nI ((f_X8_remember nw un u).1)), .int fi, .ref m_fresh, .long aa, .long bb, .long dd, .int (nI ro), .ref m_rootWhich, .int db, .ref m_signs, .ref m_atNought, .int (nI mn), .ref m_change, .ref m_table, .ref m_carried])), (m_now, .inl (cy 0, 29, .inl nw)), (m_undone, .inl (cy 0, 725, .inl ((f_X8_remember nw un u).2))), (m_slots, .inl (cy 0, 48, .inl sl)), (m_slotKind, .inl (cy 0, 4, .inl sk)), (m_hasSlot, .inl (cy 2, 4, .inl hs))] H := hP9
      replace hD : va_D A [(ta, .inr (8, [.ref m_now, .ref m_undone, .ref m_slots, .ref m_slotKind, .ref m_hasSlot, .ref m_sheetBits, .ref m_sheetSize, .ref m_sheets, .int (nI ((f_X8_remember nw un u).1)), .int fi, .ref m_fresh, .long aa, .long bb, .long dd, .int (nI ro), .ref m_rootWhich, .int db, .ref m_signs, .ref m_atNought, .int (nI mn), .ref m_change, .ref m_table, .ref m_carried])), (m_now, .inl (cy 0, 29, .inl nw)), (m_undone, .inl (cy 0, 725, .inl ((f_X8_remember nw un u).2))), (m_slots, .inl (cy 0, 48, .inl sl)), (m_slotKind, .inl (cy 0, 4, .inl sk)), (m_hasSlot, .inl (cy 2, 4, .inl hs))] := hD9
      replace hS := hS9
      clear hP9 hD9 hS9
      refine lv_iconst (v := 0) hx hb dX8_bring_34 (by decide) ?_
      refine lv_istore_n (lv' := [(2, .int 0), (0, .ref ta), (1, .int (nI px.toNatClampNeg))]) hx hb dX8_bring_35 rfl hl (by decide) rfl (fun ls hl9 => ?_)
      replace hl := hl9
      clear hl9
      have J6 : ∀ (H : Heap) (locs : List Loc) (ls : Array Slot), va_P D vwCl [(ta, .inr (8, [.ref m_now, .ref m_undone, .ref m_slots, .ref m_slotKind, .ref m_hasSlot, .ref m_sheetBits, .ref m_sheetSize, .ref m_sheets, .int (nI ((f_X8_remember nw un u).1)), .int fi, .ref m_fresh, .long aa, .long bb, .long dd, .int (nI ro), .ref m_rootWhich, .int db, .ref m_signs, .ref m_atNought, .int (nI mn), .ref m_change, .ref m_table, .ref m_carried])), (m_now, .inl (cy 0, 29, .inl (l_X8_bring_36 nw un sl sk hs u fi px (12 + 1) 0 nw))), (m_undone, .inl (cy 0, 725, .inl ((f_X8_remember nw un u).2))), (m_slots, .inl (cy 0, 48, .inl sl)), (m_slotKind, .inl (cy 0, 4, .inl sk)), (m_hasSlot, .inl (cy 2, 4, .inl hs))] H → va_D A [(ta, .inr (8, [.ref m_now, .ref m_undone, .ref m_slots, .ref m_slotKind, .ref m_hasSlot, .ref m_sheetBits, .ref m_sheetSize, .ref m_sheets, .int (nI ((f_X8_remember nw un u).1)), .int fi, .ref m_fresh, .long aa, .long bb, .long dd, .int (nI ro), .ref m_rootWhich, .int db, .ref m_signs, .ref m_atNought, .int (nI mn), .ref m_change, .ref m_table, .ref m_carried])), (m_now, .inl (cy 0, 29, .inl (l_X8_bring_36 nw un sl sk hs u fi px (12 + 1) 0 nw))), (m_undone, .inl (cy 0, 725, .inl ((f_X8_remember nw un u).2))), (m_slots, .inl (cy 0, 48, .inl sl)), (m_slotKind, .inl (cy 0, 4, .inl sk)), (m_hasSlot, .inl (cy 2, 4, .inl hs))] → va_S A s.heap H locs → lv_has ls 3 [(0, .ref ta), (1, .int (nI px.toNatClampNeg))] → W p l e R s m args below meth c H locs 0 0 Q (F0 m 65 ls []) := by
        clear hP hD hS hl
        intro H locs ls hP hD hS hl
        refine lv_aload_n hx hb dX8_bring_65 rfl (lv_at hl 0 rfl) ?_
        refine va_get (D := D) (ci := 8) (v := .ref m_slotKind) (C := RX8) (T := TX8) (N := 23) hx hb hts uX8_bring_X8 hown hK hP 0 rfl rfl 3 (by decide) (hts _ kX8_bring_3) (fun _ h9 => h9) rfl dX8_bring_66 ?_
        refine lv_iload_n hx hb dX8_bring_69 rfl (lv_at hl 1 rfl) ?_
        refine yk_ild hx hb hK hP 4 0 rfl rfl px.toNatClampNeg (by omega) (by decide) dX8_bring_70 ?_
        have hF : f_X8_bring nw un sl sk hs u fi px = ((sk px.toNatClampNeg), ((f_X8_remember nw un u).1), fi, (l_X8_bring_36 nw un sl sk hs u fi px (12 + 1) 0 nw), ((f_X8_remember nw un u).2)) := hF
        have hf0 := yk_fst hF
        have hg0 := yk_snd hF
        have hf1 := yk_fst hg0
        have hg1 := yk_snd hg0
        have hf2 := yk_fst hg1
        have hg2 := yk_snd hg1
        have hf3 := yk_fst hg2
        have hg3 := yk_snd hg2
        rw [hf0, hf1, hf2, hf3, hg3] at hQ
        exact hQ _ _ _ _ dX8_bring_71 hP hS
      have L36 : ∀ (M9 n36 ki : Nat) (znow_36 : Nat → Int32) (H : Heap) (locs : List Loc) (ls : Array Slot), n36 < M9 → ki + n36 = 12 → (l_X8_bring_36 nw un sl sk hs u fi px (12 + 1) 0 nw) = (l_X8_bring_36 nw un sl sk hs u fi px (n36 + 1) ki znow_36) → va_P D vwCl [(ta, .inr (8, [.ref m_now, .ref m_undone, .ref m_slots, .ref m_slotKind, .ref m_hasSlot, .ref m_sheetBits, .ref m_sheetSize, .ref m_sheets, .int (nI ((f_X8_remember nw un u).1)), .int fi, .ref m_fresh, .long aa, .long bb, .long dd, .int (nI ro), .ref m_rootWhich, .int db, .ref m_signs, .ref m_atNought, .int (nI mn), .ref m_change, .ref m_table, .ref m_carried])), (m_now, .inl (cy 0, 29, .inl znow_36)), (m_undone, .inl (cy 0, 725, .inl ((f_X8_remember nw un u).2))), (m_slots, .inl (cy 0, 48, .inl sl)), (m_slotKind, .inl (cy 0, 4, .inl sk)), (m_hasSlot, .inl (cy 2, 4, .inl hs))] H → va_D A [(ta, .inr (8, [.ref m_now, .ref m_undone, .ref m_slots, .ref m_slotKind, .ref m_hasSlot, .ref m_sheetBits, .ref m_sheetSize, .ref m_sheets, .int (nI ((f_X8_remember nw un u).1)), .int fi, .ref m_fresh, .long aa, .long bb, .long dd, .int (nI ro), .ref m_rootWhich, .int db, .ref m_signs, .ref m_atNought, .int (nI mn), .ref m_change, .ref m_table, .ref m_carried])), (m_now, .inl (cy 0, 29, .inl znow_36)), (m_undone, .inl (cy 0, 725, .inl ((f_X8_remember nw un u).2))), (m_slots, .inl (cy 0, 48, .inl sl)), (m_slotKind, .inl (cy 0, 4, .inl sk)), (m_hasSlot, .inl (cy 2, 4, .inl hs))] → va_S A s.heap H locs → lv_has ls 3 [(0, .ref ta), (1, .int (nI px.toNatClampNeg)), (2, .int (nI ki))] → W p l e R s m args below meth c H locs 0 0 Q (F0 m 36 ls []) := by
        clear hP hD hS hl
        intro M9
        induction M9 with
        | zero => intro n36 ki _ _ _ _ hn; exact absurd hn (Nat.not_lt_zero _)
        | succ M9 ih36 =>
          intro n36 ki znow_36 H locs ls hn36 hk36 hV36 hP hD hS hl
          refine lv_iload_n hx hb dX8_bring_36 rfl (lv_at hl 2 rfl) ?_
          refine lv_bipush (v := 12) hx hb dX8_bring_37 (by decide) ?_
          refine lv_icmp_ge (tgt := 65) hx hb dX8_bring_39 (by decide) (fun hc5 => ?_) (fun hc5 => ?_)
          · replace hV36 := hV36.trans (if_pos hc5)
            have hV36 : (l_X8_bring_36 nw un sl sk hs u fi px (12 + 1) 0 nw) = znow_36 := hV36
            have J6 := J6
            rw [hV36] at J6
            exact J6 _ _ _ hP hD hS (lv_sub hl [0, 1] rfl)
          · replace hV36 := hV36.trans (if_neg hc5)
            have hlt36 : ki < 12 := yk_lt hk36 (by omega) hc5
            refine lv_aload_n hx hb dX8_bring_42 rfl (lv_at hl 0 rfl) ?_
            refine va_get (D := D) (ci := 8) (v := .ref m_now) (C := RX8) (T := TX8) (N := 23) hx hb hts uX8_bring_X8 hown hK hP 0 rfl rfl 0 (by decide) (hts _ kX8_bring_1) (fun _ h9 => h9) rfl dX8_bring_43 ?_
            refine lv_iload_n hx hb dX8_bring_46 rfl (lv_at hl 2 rfl) ?_
            refine lv_aload_n hx hb dX8_bring_47 rfl (lv_at hl 0 rfl) ?_
            refine va_get (D := D) (ci := 8) (v := .ref m_slots) (C := RX8) (T := TX8) (N := 23) hx hb hts uX8_bring_X8 hown hK hP 0 rfl rfl 2 (by decide) (hts _ kX8_bring_2) (fun _ h9 => h9) rfl dX8_bring_48 ?_
            refine lv_bipush (v := 12) hx hb dX8_bring_51 (by decide) ?_
            refine lv_iload_n hx hb dX8_bring_53 rfl (lv_at hl 1 rfl) ?_
            refine lv_imul hx hb dX8_bring_54 ?_
            refine yk_ti (y := nI (12 * px.toNatClampNeg)) (pk_mul 12 px.toNatClampNeg) ?_
            refine lv_iload_n hx hb dX8_bring_55 rfl (lv_at hl 2 rfl) ?_
            refine lv_iadd hx hb dX8_bring_56 ?_
            refine yk_ti (y := nI ((12 * px.toNatClampNeg) + ki)) (nI_add (12 * px.toNatClampNeg) ki) ?_
            refine yk_ild hx hb hK hP 3 0 rfl rfl ((12 * px.toNatClampNeg) + ki) (by omega) (by decide) dX8_bring_57 ?_
            refine yk_ist hx hb hK hP hD hS 1 0 rfl rfl ki (by omega) (by decide) dX8_bring_58 (fun H locs hP9 hD9 hS9 => ?_)
            replace hP : va_P D vwCl [(ta, .inr (8, [.ref m_now, .ref m_undone, .ref m_slots, .ref m_slotKind, .ref m_hasSlot, .ref m_sheetBits, .ref m_sheetSize, .ref m_sheets, .int (nI ((f_X8_remember nw un u).1)), .int fi, .ref m_fresh, .long aa, .long bb, .long dd, .int (nI ro), .ref m_rootWhich, .int db, .ref m_signs, .ref m_atNought, .int (nI mn), .ref m_change, .ref m_table, .ref m_carried])), (m_now, .inl (cy 0, 29, .inl (upd znow_36 ki (sl ((12 * px.toNatClampNeg) + ki))))), (m_undone, .inl (cy 0, 725, .inl ((f_X8_remember nw un u).2))), (m_slots, .inl (cy 0, 48, .inl sl)), (m_slotKind, .inl (cy 0, 4, .inl sk)), (m_hasSlot, .inl (cy 2, 4, .inl hs))] H := hP9
            replace hD : va_D A [(ta, .inr (8, [.ref m_now, .ref m_undone, .ref m_slots, .ref m_slotKind, .ref m_hasSlot, .ref m_sheetBits, .ref m_sheetSize, .ref m_sheets, .int (nI ((f_X8_remember nw un u).1)), .int fi, .ref m_fresh, .long aa, .long bb, .long dd, .int (nI ro), .ref m_rootWhich, .int db, .ref m_signs, .ref m_atNought, .int (nI mn), .ref m_change, .ref m_table, .ref m_carried])), (m_now, .inl (cy 0, 29, .inl (upd znow_36 ki (sl ((12 * px.toNatClampNeg) + ki))))), (m_undone, .inl (cy 0, 725, .inl ((f_X8_remember nw un u).2))), (m_slots, .inl (cy 0, 48, .inl sl)), (m_slotKind, .inl (cy 0, 4, .inl sk)), (m_hasSlot, .inl (cy 2, 4, .inl hs))] := hD9
            replace hS := hS9
            clear hP9 hD9 hS9
            refine lv_iinc (v := nI (ki + 1)) (lv' := [(2, .int (nI (ki + 1))), (0, .ref ta), (1, .int (nI px.toNatClampNeg))]) hx hb dX8_bring_59 hl (k := 2) rfl (yk_inc ki) (by decide) rfl (fun ls hl9 => ?_)
            replace hl := hl9
            clear hl9
            refine lv_goto (tgt := 36) hx hb dX8_bring_62 (by decide) ?_
            obtain ⟨n9, rfl⟩ : ∃ n9, n36 = n9 + 1 := ⟨n36 - 1, by omega⟩
            exact ih36 n9 (ki + 1) (upd znow_36 ki (sl ((12 * px.toNatClampNeg) + ki))) _ _ _ (by omega) (by omega)  hV36 hP hD hS (lv_sub hl [1, 2, 0] rfl)
      exact L36 (12 + 1) 12 0 nw _ _ _ (Nat.lt_succ_self _) (by omega)  rfl hP hD hS (lv_sub hl [1, 2, 0] rfl)
    · replace hF := hF.trans (if_pos hc3)
      refine lv_aload_n hx hb dX8_bring_23 rfl (lv_at hl 0 rfl) ?_
      refine lv_ldc (v := (-1000006)) hx hb hown (hts _ kX8_bring_4) dX8_bring_24 ?_
      refine yk_i [0] (va_runV (As := [.int (-1000006)]) (rest := []) ⟨hx, hb, hml, hown, hts⟩ (c_X8_found l D cy ta m_now m_undone m_slots m_slotKind m_hasSlot m_sheetBits m_sheetSize m_sheets m_fresh m_rootWhich m_signs m_atNought m_change m_table m_carried u fi aa bb dd ro db mn (-1000006) H.size) (cwV 1 hts gX8_bring_X8_found rfl rfl rfl hv_X8_found (yk_room hRf hRl rfl rfl)) (yk_pv (q := (RX8, TX8, 23)) hG hA hS hK hP hD [0] (by decide +kernel) rfl rfl rfl) rfl rfl hl.1 rfl (lv_room (Nat.le_of_ble_eq_true rfl)) dX8_bring_26 ⟨Nat.zero_le _, Nat.zero_le _⟩) hP hD hS hA rfl (Eq.trans (b := [ta]) rfl rfl) (fun H locs hP9 hD9 hS9 => ?_)
      replace hP : va_P D vwCl [(ta, .inr (8, [.ref m_now, .ref m_undone, .ref m_slots, .ref m_slotKind, .ref m_hasSlot, .ref m_sheetBits, .ref m_sheetSize, .ref m_sheets, .int (nI u), .int ((f_X8_found fi (-1000006)).2), .ref m_fresh, .long aa, .long bb, .long dd, .int (nI ro), .ref m_rootWhich, .int db, .ref m_signs, .ref m_atNought, .int (nI mn), .ref m_change, .ref m_table, .ref m_carried])), (m_now, .inl (cy 0, 29, .inl nw)), (m_undone, .inl (cy 0, 725, .inl un)), (m_slots, .inl (cy 0, 48, .inl sl)), (m_slotKind, .inl (cy 0, 4, .inl sk)), (m_hasSlot, .inl (cy 2, 4, .inl hs))] H := hP9
      replace hD : va_D A [(ta, .inr (8, [.ref m_now, .ref m_undone, .ref m_slots, .ref m_slotKind, .ref m_hasSlot, .ref m_sheetBits, .ref m_sheetSize, .ref m_sheets, .int (nI u), .int ((f_X8_found fi (-1000006)).2), .ref m_fresh, .long aa, .long bb, .long dd, .int (nI ro), .ref m_rootWhich, .int db, .ref m_signs, .ref m_atNought, .int (nI mn), .ref m_change, .ref m_table, .ref m_carried])), (m_now, .inl (cy 0, 29, .inl nw)), (m_undone, .inl (cy 0, 725, .inl un)), (m_slots, .inl (cy 0, 48, .inl sl)), (m_slotKind, .inl (cy 0, 4, .inl sk)), (m_hasSlot, .inl (cy 2, 4, .inl hs))] := hD9
      replace hS := hS9
      clear hP9 hD9 hS9
      have hF : f_X8_bring nw un sl sk hs u fi px = (((f_X8_found fi (-1000006)).1), u, ((f_X8_found fi (-1000006)).2), nw, un) := hF
      have hf0 := yk_fst hF
      have hg0 := yk_snd hF
      have hf1 := yk_fst hg0
      have hg1 := yk_snd hg0
      have hf2 := yk_fst hg1
      have hg2 := yk_snd hg1
      have hf3 := yk_fst hg2
      have hg3 := yk_snd hg2
      rw [hf0, hf1, hf2, hf3, hg3] at hQ
      exact hQ _ _ _ _ dX8_bring_29 hP hS
  · replace hF := hF.trans (if_pos hc1)
    refine lv_aload_n hx hb dX8_bring_7 rfl (lv_at hl 0 rfl) ?_
    refine lv_ldc (v := (-1000001)) hx hb hown (hts _ kX8_bring_5) dX8_bring_8 ?_
    refine yk_i [0] (va_runV (As := [.int (-1000001)]) (rest := []) ⟨hx, hb, hml, hown, hts⟩ (c_X8_found l D cy ta m_now m_undone m_slots m_slotKind m_hasSlot m_sheetBits m_sheetSize m_sheets m_fresh m_rootWhich m_signs m_atNought m_change m_table m_carried u fi aa bb dd ro db mn (-1000001) H.size) (cwV 1 hts gX8_bring_X8_found rfl rfl rfl hv_X8_found (yk_room hRf hRl rfl rfl)) (yk_pv (q := (RX8, TX8, 23)) hG hA hS hK hP hD [0] (by decide +kernel) rfl rfl rfl) rfl rfl hl.1 rfl (lv_room (Nat.le_of_ble_eq_true rfl)) dX8_bring_10 ⟨Nat.zero_le _, Nat.zero_le _⟩) hP hD hS hA rfl (Eq.trans (b := [ta]) rfl rfl) (fun H locs hP9 hD9 hS9 => ?_)
    replace hP : va_P D vwCl [(ta, .inr (8, [.ref m_now, .ref m_undone, .ref m_slots, .ref m_slotKind, .ref m_hasSlot, .ref m_sheetBits, .ref m_sheetSize, .ref m_sheets, .int (nI u), .int ((f_X8_found fi (-1000001)).2), .ref m_fresh, .long aa, .long bb, .long dd, .int (nI ro), .ref m_rootWhich, .int db, .ref m_signs, .ref m_atNought, .int (nI mn), .ref m_change, .ref m_table, .ref m_carried])), (m_now, .inl (cy 0, 29, .inl nw)), (m_undone, .inl (cy 0, 725, .inl un)), (m_slots, .inl (cy 0, 48, .inl sl)), (m_slotKind, .inl (cy 0, 4, .inl sk)), (m_hasSlot, .inl (cy 2, 4, .inl hs))] H := hP9
    replace hD : va_D A [(ta, .inr (8, [.ref m_now, .ref m_undone, .ref m_slots, .ref m_slotKind, .ref m_hasSlot, .ref m_sheetBits, .ref m_sheetSize, .ref m_sheets, .int (nI u), .int ((f_X8_found fi (-1000001)).2), .ref m_fresh, .long aa, .long bb, .long dd, .int (nI ro), .ref m_rootWhich, .int db, .ref m_signs, .ref m_atNought, .int (nI mn), .ref m_change, .ref m_table, .ref m_carried])), (m_now, .inl (cy 0, 29, .inl nw)), (m_undone, .inl (cy 0, 725, .inl un)), (m_slots, .inl (cy 0, 48, .inl sl)), (m_slotKind, .inl (cy 0, 4, .inl sk)), (m_hasSlot, .inl (cy 2, 4, .inl hs))] := hD9
    replace hS := hS9
    clear hP9 hD9 hS9
    have hF : f_X8_bring nw un sl sk hs u fi px = (((f_X8_found fi (-1000001)).1), u, ((f_X8_found fi (-1000001)).2), nw, un) := hF
    have hf0 := yk_fst hF
    have hg0 := yk_snd hF
    have hf1 := yk_fst hg0
    have hg1 := yk_snd hg0
    have hf2 := yk_fst hg1
    have hg2 := yk_snd hg1
    have hf3 := yk_fst hg2
    have hg3 := yk_snd hg2
    rw [hf0, hf1, hf2, hf3, hg3] at hQ
    exact hQ _ _ _ _ dX8_bring_13 hP hS

theorem kX8_as_0 : Cond.constant RX8 68 (-1000001) ∈ wsX8_as := by decide +kernel
theorem kX8_as_1 : Cond.fieldLink RX8 22 "FlowPlaneModel" "hasSlot" "[Z" ∈ wsX8_as := by decide +kernel
theorem kX8_as_2 : Cond.fieldLink RX8 19 "FlowPlaneModel" "slotKind" "[I" ∈ wsX8_as := by decide +kernel
theorem kX8_as_3 : Cond.constant RX8 138 (-1000004) ∈ wsX8_as := by decide +kernel
theorem kX8_as_4 : Cond.fieldLink RX8 16 "FlowPlaneModel" "slots" "[I" ∈ wsX8_as := by decide +kernel
theorem kX8_as_5 : Cond.constant RX8 100 (-1000006) ∈ wsX8_as := by decide +kernel
theorem uX8_as_X8 : ∀ w ∈ u_ws RX8 TX8 23, w ∈ wsX8_as := by decide +kernel
def l_X8_as_78 (sl : Nat → Int32) (sk : Nat → Int32) (hs : Nat → Int32) (fi : Int32) (px : Int32) (py : Int32) : Nat → Nat → Int32 → Int32
  | 0, ki, z4_78 => z4_78
  | fu_X8_as_78 + 1, ki, z4_78 => (if 12 ≤ (nI ki) then z4_78 else (l_X8_as_78 sl sk hs fi px py fu_X8_as_78 (ki + 1) (z4_78 + (if (sl ((12 * px.toNatClampNeg) + ki)) = 0 then 0 else 1))))
def fb_X8_as_b72 (sl : Nat → Int32) (sk : Nat → Int32) (hs : Nat → Int32) (fi : Int32) (px : Int32) (py : Int32) : Int32 × Int32 := ((l_X8_as_78 sl sk hs fi px py (12 + 1) 0 0), fi)
def f_X8_as (sl : Nat → Int32) (sk : Nat → Int32) (hs : Nat → Int32) (fi : Int32) (px : Int32) (py : Int32) : Int32 × Int32 := (if (f_X8_isSlot px) = 0 then (((f_X8_found fi (-1000001)).1), ((f_X8_found fi (-1000001)).2)) else (if (f_X8_in py 0 3) = 0 then (((f_X8_found fi (-1000001)).1), ((f_X8_found fi (-1000001)).2)) else (if (hs px.toNatClampNeg) = 0 then (((f_X8_found fi (-1000006)).1), ((f_X8_found fi (-1000006)).2)) else (if py = 0 then (fb_X8_as_b72 sl sk hs fi px py) else (if py = (sk px.toNatClampNeg) then (fb_X8_as_b72 sl sk hs fi px py) else (if py = 1 then (if (sk px.toNatClampNeg) = 2 then (fb_X8_as_b72 sl sk hs fi px py) else (((f_X8_found fi (-1000004)).1), ((f_X8_found fi (-1000004)).2))) else (((f_X8_found fi (-1000004)).1), ((f_X8_found fi (-1000004)).2))))))))
set_option maxHeartbeats 400000000 in
set_option maxRecDepth 100000 in
theorem c_X8_as (l : Launch) (D : va_G) (cy : Nat → ClassId) (ta : Nat) (m_slots : Nat) (m_slotKind : Nat) (m_hasSlot : Nat) (m_now : Nat) (m_undone : Nat) (m_sheetBits : Nat) (m_sheetSize : Nat) (m_sheets : Nat) (m_fresh : Nat) (m_rootWhich : Nat) (m_signs : Nat) (m_atNought : Nat) (m_change : Nat) (m_table : Nat) (m_carried : Nat) (sl : Nat → Int32) (sk : Nat → Int32) (hs : Nat → Int32) (u : Nat) (fi : Int32) (aa : Int64) (bb : Int64) (dd : Int64) (ro : Nat) (db : Int32) (mn : Nat) (px : Int32) (py : Int32) : yk_Ci l D vwCl (yk_ty cy) yX8_as wsX8_as 2 42 [.ref ta, .int px, .int py] [(ta, .inr (8, [.ref m_now, .ref m_undone, .ref m_slots, .ref m_slotKind, .ref m_hasSlot, .ref m_sheetBits, .ref m_sheetSize, .ref m_sheets, .int (nI u), .int fi, .ref m_fresh, .long aa, .long bb, .long dd, .int (nI ro), .ref m_rootWhich, .int db, .ref m_signs, .ref m_atNought, .int (nI mn), .ref m_change, .ref m_table, .ref m_carried])), (m_slots, .inl (cy 0, 48, .inl sl)), (m_slotKind, .inl (cy 0, 4, .inl sk)), (m_hasSlot, .inl (cy 2, 4, .inl hs))] ((f_X8_as sl sk hs fi px py).1) [(ta, .inr (8, [.ref m_now, .ref m_undone, .ref m_slots, .ref m_slotKind, .ref m_hasSlot, .ref m_sheetBits, .ref m_sheetSize, .ref m_sheets, .int (nI u), .int ((f_X8_as sl sk hs fi px py).2), .ref m_fresh, .long aa, .long bb, .long dd, .int (nI ro), .ref m_rootWhich, .int db, .ref m_signs, .ref m_atNought, .int (nI mn), .ref m_change, .ref m_table, .ref m_carried])), (m_slots, .inl (cy 0, 48, .inl sl)), (m_slotKind, .inl (cy 0, 4, .inl sk)), (m_hasSlot, .inl (cy 2, 4, .inl hs))] := by
  refine yk_eI (cc := cX8_as) (maxL := 6) (by decide) rfl (Nat.le_of_ble_eq_true rfl) rfl ?_
  intro p e R s m args below meth c A Q ls H locs hx hb hml hown hts hRf hRl hA hK hG hP hD hS hl hQ
  have hP : va_P D vwCl [(ta, .inr (8, [.ref m_now, .ref m_undone, .ref m_slots, .ref m_slotKind, .ref m_hasSlot, .ref m_sheetBits, .ref m_sheetSize, .ref m_sheets, .int (nI u), .int fi, .ref m_fresh, .long aa, .long bb, .long dd, .int (nI ro), .ref m_rootWhich, .int db, .ref m_signs, .ref m_atNought, .int (nI mn), .ref m_change, .ref m_table, .ref m_carried])), (m_slots, .inl (cy 0, 48, .inl sl)), (m_slotKind, .inl (cy 0, 4, .inl sk)), (m_hasSlot, .inl (cy 2, 4, .inl hs))] H := hP
  have hl : lv_has ls 6 [(0, .ref ta), (1, .int px), (2, .int py)] := hl
  have hown : s.vm.findClass RX8 = some m.cls := hown
  have hF : (f_X8_as sl sk hs fi px py) = (f_X8_as sl sk hs fi px py) := rfl
  refine lv_iload_n hx hb dX8_as_0 rfl (lv_at hl 1 rfl) ?_
  refine yk_i [] (va_runS (As := [.int px]) (rest := []) ⟨hx, hb, hml, hown, hts⟩ (c_X8_isSlot l D cy px H.size) (va_cwS 1 hts gX8_as_X8_isSlot rfl rfl rfl hs_X8_isSlot (yk_room hRf hRl rfl rfl)) (yk_ps hG hA hS hK hP hD [] (by decide +kernel) rfl) rfl rfl hl.1 rfl (lv_room (Nat.le_of_ble_eq_true rfl)) dX8_as_1 ⟨Nat.zero_le _, Nat.zero_le _⟩) hP hD hS hA rfl rfl (fun H locs hP9 hD9 hS9 => ?_)
  replace hP : va_P D vwCl [(ta, .inr (8, [.ref m_now, .ref m_undone, .ref m_slots, .ref m_slotKind, .ref m_hasSlot, .ref m_sheetBits, .ref m_sheetSize, .ref m_sheets, .int (nI u), .int fi, .ref m_fresh, .long aa, .long bb, .long dd, .int (nI ro), .ref m_rootWhich, .int db, .ref m_signs, .ref m_atNought, .int (nI mn), .ref m_change, .ref m_table, .ref m_carried])), (m_slots, .inl (cy 0, 48, .inl sl)), (m_slotKind, .inl (cy 0, 4, .inl sk)), (m_hasSlot, .inl (cy 2, 4, .inl hs))] H := hP9
  replace hD : va_D A [(ta, .inr (8, [.ref m_now, .ref m_undone, .ref m_slots, .ref m_slotKind, .ref m_hasSlot, .ref m_sheetBits, .ref m_sheetSize, .ref m_sheets, .int (nI u), .int fi, .ref m_fresh, .long aa, .long bb, .long dd, .int (nI ro), .ref m_rootWhich, .int db, .ref m_signs, .ref m_atNought, .int (nI mn), .ref m_change, .ref m_table, .ref m_carried])), (m_slots, .inl (cy 0, 48, .inl sl)), (m_slotKind, .inl (cy 0, 4, .inl sk)), (m_hasSlot, .inl (cy 2, 4, .inl hs))] := hD9
  replace hS := hS9
  clear hP9 hD9 hS9
  refine lv_if_eq (tgt := 16) hx hb dX8_as_4 (by decide) (fun hc1 => ?_) (fun hc1 => ?_)
  · replace hF := hF.trans (if_pos hc1)
    refine lv_aload_n hx hb dX8_as_16 rfl (lv_at hl 0 rfl) ?_
    refine lv_ldc (v := (-1000001)) hx hb hown (hts _ kX8_as_0) dX8_as_17 ?_
    refine yk_i [0] (va_runV (As := [.int (-1000001)]) (rest := []) ⟨hx, hb, hml, hown, hts⟩ (c_X8_found l D cy ta m_now m_undone m_slots m_slotKind m_hasSlot m_sheetBits m_sheetSize m_sheets m_fresh m_rootWhich m_signs m_atNought m_change m_table m_carried u fi aa bb dd ro db mn (-1000001) H.size) (cwV 1 hts gX8_as_X8_found rfl rfl rfl hv_X8_found (yk_room hRf hRl rfl rfl)) (yk_pv (q := (RX8, TX8, 23)) hG hA hS hK hP hD [0] (by decide +kernel) rfl rfl rfl) rfl rfl hl.1 rfl (lv_room (Nat.le_of_ble_eq_true rfl)) dX8_as_19 ⟨Nat.zero_le _, Nat.zero_le _⟩) hP hD hS hA rfl (Eq.trans (b := [ta]) rfl rfl) (fun H locs hP9 hD9 hS9 => ?_)
    replace hP : va_P D vwCl [(ta, .inr (8, [.ref m_now, .ref m_undone, .ref m_slots, .ref m_slotKind, .ref m_hasSlot, .ref m_sheetBits, .ref m_sheetSize, .ref m_sheets, .int (nI u), .int ((f_X8_found fi (-1000001)).2), .ref m_fresh, .long aa, .long bb, .long dd, .int (nI ro), .ref m_rootWhich, .int db, .ref m_signs, .ref m_atNought, .int (nI mn), .ref m_change, .ref m_table, .ref m_carried])), (m_slots, .inl (cy 0, 48, .inl sl)), (m_slotKind, .inl (cy 0, 4, .inl sk)), (m_hasSlot, .inl (cy 2, 4, .inl hs))] H := hP9
    replace hD : va_D A [(ta, .inr (8, [.ref m_now, .ref m_undone, .ref m_slots, .ref m_slotKind, .ref m_hasSlot, .ref m_sheetBits, .ref m_sheetSize, .ref m_sheets, .int (nI u), .int ((f_X8_found fi (-1000001)).2), .ref m_fresh, .long aa, .long bb, .long dd, .int (nI ro), .ref m_rootWhich, .int db, .ref m_signs, .ref m_atNought, .int (nI mn), .ref m_change, .ref m_table, .ref m_carried])), (m_slots, .inl (cy 0, 48, .inl sl)), (m_slotKind, .inl (cy 0, 4, .inl sk)), (m_hasSlot, .inl (cy 2, 4, .inl hs))] := hD9
    replace hS := hS9
    clear hP9 hD9 hS9
    have hF : f_X8_as sl sk hs fi px py = (((f_X8_found fi (-1000001)).1), ((f_X8_found fi (-1000001)).2)) := hF
    have hf0 := yk_fst hF
    have hg0 := yk_snd hF
    rw [hf0, hg0] at hQ
    exact hQ _ _ _ _ dX8_as_22 hP hS
  · replace hF := hF.trans (if_neg hc1)
    refine lv_iload_n hx hb dX8_as_7 rfl (lv_at hl 2 rfl) ?_
    refine lv_iconst (v := 0) hx hb dX8_as_8 (by decide) ?_
    refine lv_iconst (v := 3) hx hb dX8_as_9 (by decide) ?_
    refine yk_i [] (va_runS (As := [.int py, .int 0, .int 3]) (rest := []) ⟨hx, hb, hml, hown, hts⟩ (c_X8_in l D cy py 0 3 H.size) (va_cwS 3 hts gX8_as_X8_in rfl rfl rfl hs_X8_in (yk_room hRf hRl rfl rfl)) (yk_ps hG hA hS hK hP hD [] (by decide +kernel) rfl) rfl rfl hl.1 rfl (lv_room (Nat.le_of_ble_eq_true rfl)) dX8_as_10 ⟨Nat.zero_le _, Nat.zero_le _⟩) hP hD hS hA rfl rfl (fun H locs hP9 hD9 hS9 => ?_)
    replace hP : va_P D vwCl [(ta, .inr (8, [.ref m_now, .ref m_undone, .ref m_slots, .ref m_slotKind, .ref m_hasSlot, .ref m_sheetBits, .ref m_sheetSize, .ref m_sheets, .int (nI u), .int fi, .ref m_fresh, .long aa, .long bb, .long dd, .int (nI ro), .ref m_rootWhich, .int db, .ref m_signs, .ref m_atNought, .int (nI mn), .ref m_change, .ref m_table, .ref m_carried])), (m_slots, .inl (cy 0, 48, .inl sl)), (m_slotKind, .inl (cy 0, 4, .inl sk)), (m_hasSlot, .inl (cy 2, 4, .inl hs))] H := hP9
    replace hD : va_D A [(ta, .inr (8, [.ref m_now, .ref m_undone, .ref m_slots, .ref m_slotKind, .ref m_hasSlot, .ref m_sheetBits, .ref m_sheetSize, .ref m_sheets, .int (nI u), .int fi, .ref m_fresh, .long aa, .long bb, .long dd, .int (nI ro), .ref m_rootWhich, .int db, .ref m_signs, .ref m_atNought, .int (nI mn), .ref m_change, .ref m_table, .ref m_carried])), (m_slots, .inl (cy 0, 48, .inl sl)), (m_slotKind, .inl (cy 0, 4, .inl sk)), (m_hasSlot, .inl (cy 2, 4, .inl hs))] := hD9
    replace hS := hS9
    clear hP9 hD9 hS9
    refine lv_if_ne (tgt := 23) hx hb dX8_as_13 (by decide) (fun hc2 => ?_) (fun hc2 => ?_)
    · replace hF := hF.trans (if_neg hc2)
      have hq3 : px = nI px.toNatClampNeg := (ix_sl (by assumption)).1
      have hq3b : px.toNatClampNeg < 4 := (ix_sl (by assumption)).2
      rw [hq3] at hl
      refine lv_aload_n hx hb dX8_as_23 rfl (lv_at hl 0 rfl) ?_
      refine va_get (D := D) (ci := 8) (v := .ref m_hasSlot) (C := RX8) (T := TX8) (N := 23) hx hb hts uX8_as_X8 hown hK hP 0 rfl rfl 4 (by decide) (hts _ kX8_as_1) (fun _ h9 => h9) rfl dX8_as_24 ?_
      refine lv_iload_n hx hb dX8_as_27 rfl (lv_at hl 1 rfl) ?_
      refine yk_zld hx hb hK hP 3 2 rfl rfl px.toNatClampNeg (by omega) (by decide) dX8_as_28 ?_
      refine lv_if_ne (tgt := 39) hx hb dX8_as_29 (by decide) (fun hc4 => ?_) (fun hc4 => ?_)
      · replace hF := hF.trans (if_neg hc4)
        refine lv_aload_n hx hb dX8_as_39 rfl (lv_at hl 0 rfl) ?_
        refine va_get (D := D) (ci := 8) (v := .ref m_slotKind) (C := RX8) (T := TX8) (N := 23) hx hb hts uX8_as_X8 hown hK hP 0 rfl rfl 3 (by decide) (hts _ kX8_as_2) (fun _ h9 => h9) rfl dX8_as_40 ?_
        refine lv_iload_n hx hb dX8_as_43 rfl (lv_at hl 1 rfl) ?_
        refine yk_ild hx hb hK hP 2 0 rfl rfl px.toNatClampNeg (by omega) (by decide) dX8_as_44 ?_
        refine lv_istore_n (lv' := [(3, .int (sk px.toNatClampNeg)), (0, .ref ta), (1, .int (nI px.toNatClampNeg)), (2, .int py)]) hx hb dX8_as_45 rfl hl (by decide) rfl (fun ls hl9 => ?_)
        replace hl := hl9
        clear hl9
        refine lv_iload_n hx hb dX8_as_46 rfl (lv_at hl 3 rfl) ?_
        have K72 : ∀ (H : Heap) (locs : List Loc) (ls : Array Slot), f_X8_as sl sk hs fi px py = fb_X8_as_b72 sl sk hs fi px py → va_P D vwCl [(ta, .inr (8, [.ref m_now, .ref m_undone, .ref m_slots, .ref m_slotKind, .ref m_hasSlot, .ref m_sheetBits, .ref m_sheetSize, .ref m_sheets, .int (nI u), .int fi, .ref m_fresh, .long aa, .long bb, .long dd, .int (nI ro), .ref m_rootWhich, .int db, .ref m_signs, .ref m_atNought, .int (nI mn), .ref m_change, .ref m_table, .ref m_carried])), (m_slots, .inl (cy 0, 48, .inl sl)), (m_slotKind, .inl (cy 0, 4, .inl sk)), (m_hasSlot, .inl (cy 2, 4, .inl hs))] H → va_D A [(ta, .inr (8, [.ref m_now, .ref m_undone, .ref m_slots, .ref m_slotKind, .ref m_hasSlot, .ref m_sheetBits, .ref m_sheetSize, .ref m_sheets, .int (nI u), .int fi, .ref m_fresh, .long aa, .long bb, .long dd, .int (nI ro), .ref m_rootWhich, .int db, .ref m_signs, .ref m_atNought, .int (nI mn), .ref m_change, .ref m_table, .ref m_carried])), (m_slots, .inl (cy 0, 48, .inl sl)), (m_slotKind, .inl (cy 0, 4, .inl sk)), (m_hasSlot, .inl (cy 2, 4, .inl hs))] → va_S A s.heap H locs → lv_has ls 6 [(0, .ref ta), (1, .int (nI px.toNatClampNeg)), (2, .int py), (3, .int (sk px.toNatClampNeg))] → W p l e R s m args below meth c H locs 0 0 Q (F0 m 72 ls []) := by
          clear hP hD hS hl hF
          intro H locs ls hF hP hD hS hl
          refine lv_iconst (v := 0) hx hb dX8_as_72 (by decide) ?_
          refine lv_istore (lv' := [(4, .int 0), (0, .ref ta), (1, .int (nI px.toNatClampNeg)), (2, .int py), (3, .int (sk px.toNatClampNeg))]) hx hb dX8_as_73 hl (by decide) rfl (fun ls hl9 => ?_)
          replace hl := hl9
          clear hl9
          refine lv_iconst (v := 0) hx hb dX8_as_75 (by decide) ?_
          refine lv_istore (lv' := [(5, .int 0), (4, .int 0), (0, .ref ta), (1, .int (nI px.toNatClampNeg)), (2, .int py), (3, .int (sk px.toNatClampNeg))]) hx hb dX8_as_76 hl (by decide) rfl (fun ls hl9 => ?_)
          replace hl := hl9
          clear hl9
          have J13 : ∀ (H : Heap) (locs : List Loc) (ls : Array Slot), va_P D vwCl [(ta, .inr (8, [.ref m_now, .ref m_undone, .ref m_slots, .ref m_slotKind, .ref m_hasSlot, .ref m_sheetBits, .ref m_sheetSize, .ref m_sheets, .int (nI u), .int fi, .ref m_fresh, .long aa, .long bb, .long dd, .int (nI ro), .ref m_rootWhich, .int db, .ref m_signs, .ref m_atNought, .int (nI mn), .ref m_change, .ref m_table, .ref m_carried])), (m_slots, .inl (cy 0, 48, .inl sl)), (m_slotKind, .inl (cy 0, 4, .inl sk)), (m_hasSlot, .inl (cy 2, 4, .inl hs))] H → va_D A [(ta, .inr (8, [.ref m_now, .ref m_undone, .ref m_slots, .ref m_slotKind, .ref m_hasSlot, .ref m_sheetBits, .ref m_sheetSize, .ref m_sheets, .int (nI u), .int fi, .ref m_fresh, .long aa, .long bb, .long dd, .int (nI ro), .ref m_rootWhich, .int db, .ref m_signs, .ref m_atNought, .int (nI mn), .ref m_change, .ref m_table, .ref m_carried])), (m_slots, .inl (cy 0, 48, .inl sl)), (m_slotKind, .inl (cy 0, 4, .inl sk)), (m_hasSlot, .inl (cy 2, 4, .inl hs))] → va_S A s.heap H locs → lv_has ls 6 [(0, .ref ta), (1, .int (nI px.toNatClampNeg)), (2, .int py), (3, .int (sk px.toNatClampNeg)), (4, .int (l_X8_as_78 sl sk hs fi px py (12 + 1) 0 0))] → W p l e R s m args below meth c H locs 0 0 Q (F0 m 116 ls []) := by
            clear hP hD hS hl
            intro H locs ls hP hD hS hl
            refine lv_iload hx hb dX8_as_116 (lv_at hl 4 rfl) ?_
            have hF : f_X8_as sl sk hs fi px py = ((l_X8_as_78 sl sk hs fi px py (12 + 1) 0 0), fi) := hF
            have hf0 := yk_fst hF
            have hg0 := yk_snd hF
            rw [hf0, hg0] at hQ
            exact hQ _ _ _ _ dX8_as_118 hP hS
          have L78 : ∀ (M9 n78 ki : Nat) (z4_78 : Int32) (H : Heap) (locs : List Loc) (ls : Array Slot), n78 < M9 → ki + n78 = 12 → (l_X8_as_78 sl sk hs fi px py (12 + 1) 0 0) = (l_X8_as_78 sl sk hs fi px py (n78 + 1) ki z4_78) → va_P D vwCl [(ta, .inr (8, [.ref m_now, .ref m_undone, .ref m_slots, .ref m_slotKind, .ref m_hasSlot, .ref m_sheetBits, .ref m_sheetSize, .ref m_sheets, .int (nI u), .int fi, .ref m_fresh, .long aa, .long bb, .long dd, .int (nI ro), .ref m_rootWhich, .int db, .ref m_signs, .ref m_atNought, .int (nI mn), .ref m_change, .ref m_table, .ref m_carried])), (m_slots, .inl (cy 0, 48, .inl sl)), (m_slotKind, .inl (cy 0, 4, .inl sk)), (m_hasSlot, .inl (cy 2, 4, .inl hs))] H → va_D A [(ta, .inr (8, [.ref m_now, .ref m_undone, .ref m_slots, .ref m_slotKind, .ref m_hasSlot, .ref m_sheetBits, .ref m_sheetSize, .ref m_sheets, .int (nI u), .int fi, .ref m_fresh, .long aa, .long bb, .long dd, .int (nI ro), .ref m_rootWhich, .int db, .ref m_signs, .ref m_atNought, .int (nI mn), .ref m_change, .ref m_table, .ref m_carried])), (m_slots, .inl (cy 0, 48, .inl sl)), (m_slotKind, .inl (cy 0, 4, .inl sk)), (m_hasSlot, .inl (cy 2, 4, .inl hs))] → va_S A s.heap H locs → lv_has ls 6 [(0, .ref ta), (1, .int (nI px.toNatClampNeg)), (2, .int py), (3, .int (sk px.toNatClampNeg)), (4, .int z4_78), (5, .int (nI ki))] → W p l e R s m args below meth c H locs 0 0 Q (F0 m 78 ls []) := by
            clear hP hD hS hl
            intro M9
            induction M9 with
            | zero => intro n78 ki _ _ _ _ hn; exact absurd hn (Nat.not_lt_zero _)
            | succ M9 ih78 =>
              intro n78 ki z4_78 H locs ls hn78 hk78 hV78 hP hD hS hl
              refine lv_iload hx hb dX8_as_78 (lv_at hl 5 rfl) ?_
              refine lv_bipush (v := 12) hx hb dX8_as_80 (by decide) ?_
              refine lv_icmp_ge (tgt := 116) hx hb dX8_as_82 (by decide) (fun hc9 => ?_) (fun hc9 => ?_)
              · replace hV78 := hV78.trans (if_pos hc9)
                have hV78 : (l_X8_as_78 sl sk hs fi px py (12 + 1) 0 0) = z4_78 := hV78
                have J13 := J13
                rw [hV78] at J13
                exact J13 _ _ _ hP hD hS (lv_sub hl [0, 1, 2, 3, 4] rfl)
              · replace hV78 := hV78.trans (if_neg hc9)
                have hlt78 : ki < 12 := yk_lt hk78 (by omega) hc9
                refine lv_iload hx hb dX8_as_85 (lv_at hl 4 rfl) ?_
                refine lv_aload_n hx hb dX8_as_87 rfl (lv_at hl 0 rfl) ?_
                refine va_get (D := D) (ci := 8) (v := .ref m_slots) (C := RX8) (T := TX8) (N := 23) hx hb hts uX8_as_X8 hown hK hP 0 rfl rfl 2 (by decide) (hts _ kX8_as_4) (fun _ h9 => h9) rfl dX8_as_88 ?_
                refine lv_bipush (v := 12) hx hb dX8_as_91 (by decide) ?_
                refine lv_iload_n hx hb dX8_as_93 rfl (lv_at hl 1 rfl) ?_
                refine lv_imul hx hb dX8_as_94 ?_
                refine yk_ti (y := nI (12 * px.toNatClampNeg)) (pk_mul 12 px.toNatClampNeg) ?_
                refine lv_iload hx hb dX8_as_95 (lv_at hl 5 rfl) ?_
                refine lv_iadd hx hb dX8_as_97 ?_
                refine yk_ti (y := nI ((12 * px.toNatClampNeg) + ki)) (nI_add (12 * px.toNatClampNeg) ki) ?_
                refine yk_ild hx hb hK hP 1 0 rfl rfl ((12 * px.toNatClampNeg) + ki) (by omega) (by decide) dX8_as_98 ?_
                have J12 : ∀ (v11 : Int32) (H : Heap) (locs : List Loc) (ls : Array Slot), v11 = (if (sl ((12 * px.toNatClampNeg) + ki)) = 0 then 0 else 1) → va_P D vwCl [(ta, .inr (8, [.ref m_now, .ref m_undone, .ref m_slots, .ref m_slotKind, .ref m_hasSlot, .ref m_sheetBits, .ref m_sheetSize, .ref m_sheets, .int (nI u), .int fi, .ref m_fresh, .long aa, .long bb, .long dd, .int (nI ro), .ref m_rootWhich, .int db, .ref m_signs, .ref m_atNought, .int (nI mn), .ref m_change, .ref m_table, .ref m_carried])), (m_slots, .inl (cy 0, 48, .inl sl)), (m_slotKind, .inl (cy 0, 4, .inl sk)), (m_hasSlot, .inl (cy 2, 4, .inl hs))] H → va_D A [(ta, .inr (8, [.ref m_now, .ref m_undone, .ref m_slots, .ref m_slotKind, .ref m_hasSlot, .ref m_sheetBits, .ref m_sheetSize, .ref m_sheets, .int (nI u), .int fi, .ref m_fresh, .long aa, .long bb, .long dd, .int (nI ro), .ref m_rootWhich, .int db, .ref m_signs, .ref m_atNought, .int (nI mn), .ref m_change, .ref m_table, .ref m_carried])), (m_slots, .inl (cy 0, 48, .inl sl)), (m_slotKind, .inl (cy 0, 4, .inl sk)), (m_hasSlot, .inl (cy 2, 4, .inl hs))] → va_S A s.heap H locs → lv_has ls 6 [(0, .ref ta), (1, .int (nI px.toNatClampNeg)), (2, .int py), (3, .int (sk px.toNatClampNeg)), (4, .int z4_78), (5, .int (nI ki))] → W p l e R s m args below meth c H locs 0 0 Q (F0 m 107 ls [.int v11, .int z4_78]) := by
                  clear hP hD hS hl
                  intro v11 H locs ls ev11
                  rw [ev11]
                  clear ev11
                  intro hP hD hS hl
                  refine lv_iadd hx hb dX8_as_107 ?_
                  refine lv_istore (lv' := [(4, .int (z4_78 + (if (sl ((12 * px.toNatClampNeg) + ki)) = 0 then 0 else 1))), (0, .ref ta), (1, .int (nI px.toNatClampNeg)), (2, .int py), (3, .int (sk px.toNatClampNeg)), (5, .int (nI ki))]) hx hb dX8_as_108 hl (by decide) rfl (fun ls hl9 => ?_)
                  replace hl := hl9
                  clear hl9
                  refine lv_iinc (v := nI (ki + 1)) (lv' := [(5, .int (nI (ki + 1))), (4, .int (z4_78 + (if (sl ((12 * px.toNatClampNeg) + ki)) = 0 then 0 else 1))), (0, .ref ta), (1, .int (nI px.toNatClampNeg)), (2, .int py), (3, .int (sk px.toNatClampNeg))]) hx hb dX8_as_110 hl (k := 5) rfl (yk_inc ki) (by decide) rfl (fun ls hl9 => ?_)
                  replace hl := hl9
                  clear hl9
                  refine lv_goto (tgt := 78) hx hb dX8_as_113 (by decide) ?_
                  obtain ⟨n9, rfl⟩ : ∃ n9, n78 = n9 + 1 := ⟨n78 - 1, by omega⟩
                  exact ih78 n9 (ki + 1) (z4_78 + (if (sl ((12 * px.toNatClampNeg) + ki)) = 0 then 0 else 1)) _ _ _ (by omega) (by omega)  hV78 hP hD hS (lv_sub hl [2, 3, 4, 5, 1, 0] rfl)
                refine lv_if_eq (tgt := 106) hx hb dX8_as_99 (by decide) (fun hc10 => ?_) (fun hc10 => ?_)
                · refine lv_iconst (v := 0) hx hb dX8_as_106 (by decide) ?_
                  exact J12 _ _ _ _ ((if_pos hc10).symm) hP hD hS (lv_sub hl [0, 1, 2, 3, 4, 5] rfl)
                · refine lv_iconst (v := 1) hx hb dX8_as_102 (by decide) ?_
                  refine lv_goto (tgt := 107) hx hb dX8_as_103 (by decide) ?_
                  exact J12 _ _ _ _ ((if_neg hc10).symm) hP hD hS (lv_sub hl [0, 1, 2, 3, 4, 5] rfl)
          exact L78 (12 + 1) 12 0 0 _ _ _ (Nat.lt_succ_self _) (by omega)  rfl hP hD hS (lv_sub hl [2, 3, 4, 5, 1, 0] rfl)
        refine lv_if_eq (tgt := 72) hx hb dX8_as_47 (by decide) (fun hc5 => ?_) (fun hc5 => ?_)
        · replace hF := hF.trans (if_pos hc5)
          exact K72 _ _ _ hF hP hD hS (lv_sub hl [1, 2, 3, 0] rfl)
        · replace hF := hF.trans (if_neg hc5)
          refine lv_iload_n hx hb dX8_as_50 rfl (lv_at hl 3 rfl) ?_
          refine lv_iload_n hx hb dX8_as_51 rfl (lv_at hl 0 rfl) ?_
          refine lv_icmp_eq (tgt := 72) hx hb dX8_as_52 (by decide) (fun hc6 => ?_) (fun hc6 => ?_)
          · replace hF := hF.trans (if_pos hc6)
            exact K72 _ _ _ hF hP hD hS (lv_sub hl [1, 2, 3, 0] rfl)
          · replace hF := hF.trans (if_neg hc6)
            refine lv_iload_n hx hb dX8_as_55 rfl (lv_at hl 3 rfl) ?_
            refine lv_iconst (v := 1) hx hb dX8_as_56 (by decide) ?_
            refine lv_icmp_ne (tgt := 65) hx hb dX8_as_57 (by decide) (fun hc7 => ?_) (fun hc7 => ?_)
            · replace hF := hF.trans (if_neg hc7)
              refine lv_aload_n hx hb dX8_as_65 rfl (lv_at hl 1 rfl) ?_
              refine lv_ldc (v := (-1000004)) hx hb hown (hts _ kX8_as_3) dX8_as_66 ?_
              refine yk_i [0] (va_runV (As := [.int (-1000004)]) (rest := []) ⟨hx, hb, hml, hown, hts⟩ (c_X8_found l D cy ta m_now m_undone m_slots m_slotKind m_hasSlot m_sheetBits m_sheetSize m_sheets m_fresh m_rootWhich m_signs m_atNought m_change m_table m_carried u fi aa bb dd ro db mn (-1000004) H.size) (cwV 1 hts gX8_as_X8_found rfl rfl rfl hv_X8_found (yk_room hRf hRl rfl rfl)) (yk_pv (q := (RX8, TX8, 23)) hG hA hS hK hP hD [0] (by decide +kernel) rfl rfl rfl) rfl rfl hl.1 rfl (lv_room (Nat.le_of_ble_eq_true rfl)) dX8_as_68 ⟨Nat.zero_le _, Nat.zero_le _⟩) hP hD hS hA rfl (Eq.trans (b := [ta]) rfl rfl) (fun H locs hP9 hD9 hS9 => ?_)
              replace hP : va_P D vwCl [(ta, .inr (8, [.ref m_now, .ref m_undone, .ref m_slots, .ref m_slotKind, .ref m_hasSlot, .ref m_sheetBits, .ref m_sheetSize, .ref m_sheets, .int (nI u), .int ((f_X8_found fi (-1000004)).2), .ref m_fresh, .long aa, .long bb, .long dd, .int (nI ro), .ref m_rootWhich, .int db, .ref m_signs, .ref m_atNought, .int (nI mn), .ref m_change, .ref m_table, .ref m_carried])), (m_slots, .inl (cy 0, 48, .inl sl)), (m_slotKind, .inl (cy 0, 4, .inl sk)), (m_hasSlot, .inl (cy 2, 4, .inl hs))] H := hP9
              replace hD : va_D A [(ta, .inr (8, [.ref m_now, .ref m_undone, .ref m_slots, .ref m_slotKind, .ref m_hasSlot, .ref m_sheetBits, .ref m_sheetSize, .ref m_sheets, .int (nI u), .int ((f_X8_found fi (-1000004)).2), .ref m_fresh, .long aa, .long bb, .long dd, .int (nI ro), .ref m_rootWhich, .int db, .ref m_signs, .ref m_atNought, .int (nI mn), .ref m_change, .ref m_table, .ref m_carried])), (m_slots, .inl (cy 0, 48, .inl sl)), (m_slotKind, .inl (cy 0, 4, .inl sk)), (m_hasSlot, .inl (cy 2, 4, .inl hs))] := hD9
              replace hS := hS9
              clear hP9 hD9 hS9
              have hF : f_X8_as sl sk hs fi px py = (((f_X8_found fi (-1000004)).1), ((f_X8_found fi (-1000004)).2)) := hF
              have hf0 := yk_fst hF
              have hg0 := yk_snd hF
              rw [hf0, hg0] at hQ
              exact hQ _ _ _ _ dX8_as_71 hP hS
            · replace hF := hF.trans (if_pos hc7)
              refine lv_iload_n hx hb dX8_as_60 rfl (lv_at hl 0 rfl) ?_
              refine lv_iconst (v := 2) hx hb dX8_as_61 (by decide) ?_
              refine lv_icmp_eq (tgt := 72) hx hb dX8_as_62 (by decide) (fun hc8 => ?_) (fun hc8 => ?_)
              · replace hF := hF.trans (if_pos hc8)
                exact K72 _ _ _ hF hP hD hS (lv_sub hl [1, 2, 3, 0] rfl)
              · replace hF := hF.trans (if_neg hc8)
                refine lv_aload_n hx hb dX8_as_65 rfl (lv_at hl 1 rfl) ?_
                refine lv_ldc (v := (-1000004)) hx hb hown (hts _ kX8_as_3) dX8_as_66 ?_
                refine yk_i [0] (va_runV (As := [.int (-1000004)]) (rest := []) ⟨hx, hb, hml, hown, hts⟩ (c_X8_found l D cy ta m_now m_undone m_slots m_slotKind m_hasSlot m_sheetBits m_sheetSize m_sheets m_fresh m_rootWhich m_signs m_atNought m_change m_table m_carried u fi aa bb dd ro db mn (-1000004) H.size) (cwV 1 hts gX8_as_X8_found rfl rfl rfl hv_X8_found (yk_room hRf hRl rfl rfl)) (yk_pv (q := (RX8, TX8, 23)) hG hA hS hK hP hD [0] (by decide +kernel) rfl rfl rfl) rfl rfl hl.1 rfl (lv_room (Nat.le_of_ble_eq_true rfl)) dX8_as_68 ⟨Nat.zero_le _, Nat.zero_le _⟩) hP hD hS hA rfl (Eq.trans (b := [ta]) rfl rfl) (fun H locs hP9 hD9 hS9 => ?_)
                replace hP : va_P D vwCl [(ta, .inr (8, [.ref m_now, .ref m_undone, .ref m_slots, .ref m_slotKind, .ref m_hasSlot, .ref m_sheetBits, .ref m_sheetSize, .ref m_sheets, .int (nI u), .int ((f_X8_found fi (-1000004)).2), .ref m_fresh, .long aa, .long bb, .long dd, .int (nI ro), .ref m_rootWhich, .int db, .ref m_signs, .ref m_atNought, .int (nI mn), .ref m_change, .ref m_table, .ref m_carried])), (m_slots, .inl (cy 0, 48, .inl sl)), (m_slotKind, .inl (cy 0, 4, .inl sk)), (m_hasSlot, .inl (cy 2, 4, .inl hs))] H := hP9
                replace hD : va_D A [(ta, .inr (8, [.ref m_now, .ref m_undone, .ref m_slots, .ref m_slotKind, .ref m_hasSlot, .ref m_sheetBits, .ref m_sheetSize, .ref m_sheets, .int (nI u), .int ((f_X8_found fi (-1000004)).2), .ref m_fresh, .long aa, .long bb, .long dd, .int (nI ro), .ref m_rootWhich, .int db, .ref m_signs, .ref m_atNought, .int (nI mn), .ref m_change, .ref m_table, .ref m_carried])), (m_slots, .inl (cy 0, 48, .inl sl)), (m_slotKind, .inl (cy 0, 4, .inl sk)), (m_hasSlot, .inl (cy 2, 4, .inl hs))] := hD9
                replace hS := hS9
                clear hP9 hD9 hS9
                have hF : f_X8_as sl sk hs fi px py = (((f_X8_found fi (-1000004)).1), ((f_X8_found fi (-1000004)).2)) := hF
                have hf0 := yk_fst hF
                have hg0 := yk_snd hF
                rw [hf0, hg0] at hQ
                exact hQ _ _ _ _ dX8_as_71 hP hS
      · replace hF := hF.trans (if_pos hc4)
        refine lv_aload_n hx hb dX8_as_32 rfl (lv_at hl 0 rfl) ?_
        refine lv_ldc (v := (-1000006)) hx hb hown (hts _ kX8_as_5) dX8_as_33 ?_
        refine yk_i [0] (va_runV (As := [.int (-1000006)]) (rest := []) ⟨hx, hb, hml, hown, hts⟩ (c_X8_found l D cy ta m_now m_undone m_slots m_slotKind m_hasSlot m_sheetBits m_sheetSize m_sheets m_fresh m_rootWhich m_signs m_atNought m_change m_table m_carried u fi aa bb dd ro db mn (-1000006) H.size) (cwV 1 hts gX8_as_X8_found rfl rfl rfl hv_X8_found (yk_room hRf hRl rfl rfl)) (yk_pv (q := (RX8, TX8, 23)) hG hA hS hK hP hD [0] (by decide +kernel) rfl rfl rfl) rfl rfl hl.1 rfl (lv_room (Nat.le_of_ble_eq_true rfl)) dX8_as_35 ⟨Nat.zero_le _, Nat.zero_le _⟩) hP hD hS hA rfl (Eq.trans (b := [ta]) rfl rfl) (fun H locs hP9 hD9 hS9 => ?_)
        replace hP : va_P D vwCl [(ta, .inr (8, [.ref m_now, .ref m_undone, .ref m_slots, .ref m_slotKind, .ref m_hasSlot, .ref m_sheetBits, .ref m_sheetSize, .ref m_sheets, .int (nI u), .int ((f_X8_found fi (-1000006)).2), .ref m_fresh, .long aa, .long bb, .long dd, .int (nI ro), .ref m_rootWhich, .int db, .ref m_signs, .ref m_atNought, .int (nI mn), .ref m_change, .ref m_table, .ref m_carried])), (m_slots, .inl (cy 0, 48, .inl sl)), (m_slotKind, .inl (cy 0, 4, .inl sk)), (m_hasSlot, .inl (cy 2, 4, .inl hs))] H := hP9
        replace hD : va_D A [(ta, .inr (8, [.ref m_now, .ref m_undone, .ref m_slots, .ref m_slotKind, .ref m_hasSlot, .ref m_sheetBits, .ref m_sheetSize, .ref m_sheets, .int (nI u), .int ((f_X8_found fi (-1000006)).2), .ref m_fresh, .long aa, .long bb, .long dd, .int (nI ro), .ref m_rootWhich, .int db, .ref m_signs, .ref m_atNought, .int (nI mn), .ref m_change, .ref m_table, .ref m_carried])), (m_slots, .inl (cy 0, 48, .inl sl)), (m_slotKind, .inl (cy 0, 4, .inl sk)), (m_hasSlot, .inl (cy 2, 4, .inl hs))] := hD9
        replace hS := hS9
        clear hP9 hD9 hS9
        have hF : f_X8_as sl sk hs fi px py = (((f_X8_found fi (-1000006)).1), ((f_X8_found fi (-1000006)).2)) := hF
        have hf0 := yk_fst hF
        have hg0 := yk_snd hF
        rw [hf0, hg0] at hQ
        exact hQ _ _ _ _ dX8_as_38 hP hS
    · replace hF := hF.trans (if_pos hc2)
      refine lv_aload_n hx hb dX8_as_16 rfl (lv_at hl 0 rfl) ?_
      refine lv_ldc (v := (-1000001)) hx hb hown (hts _ kX8_as_0) dX8_as_17 ?_
      refine yk_i [0] (va_runV (As := [.int (-1000001)]) (rest := []) ⟨hx, hb, hml, hown, hts⟩ (c_X8_found l D cy ta m_now m_undone m_slots m_slotKind m_hasSlot m_sheetBits m_sheetSize m_sheets m_fresh m_rootWhich m_signs m_atNought m_change m_table m_carried u fi aa bb dd ro db mn (-1000001) H.size) (cwV 1 hts gX8_as_X8_found rfl rfl rfl hv_X8_found (yk_room hRf hRl rfl rfl)) (yk_pv (q := (RX8, TX8, 23)) hG hA hS hK hP hD [0] (by decide +kernel) rfl rfl rfl) rfl rfl hl.1 rfl (lv_room (Nat.le_of_ble_eq_true rfl)) dX8_as_19 ⟨Nat.zero_le _, Nat.zero_le _⟩) hP hD hS hA rfl (Eq.trans (b := [ta]) rfl rfl) (fun H locs hP9 hD9 hS9 => ?_)
      replace hP : va_P D vwCl [(ta, .inr (8, [.ref m_now, .ref m_undone, .ref m_slots, .ref m_slotKind, .ref m_hasSlot, .ref m_sheetBits, .ref m_sheetSize, .ref m_sheets, .int (nI u), .int ((f_X8_found fi (-1000001)).2), .ref m_fresh, .long aa, .long bb, .long dd, .int (nI ro), .ref m_rootWhich, .int db, .ref m_signs, .ref m_atNought, .int (nI mn), .ref m_change, .ref m_table, .ref m_carried])), (m_slots, .inl (cy 0, 48, .inl sl)), (m_slotKind, .inl (cy 0, 4, .inl sk)), (m_hasSlot, .inl (cy 2, 4, .inl hs))] H := hP9
      replace hD : va_D A [(ta, .inr (8, [.ref m_now, .ref m_undone, .ref m_slots, .ref m_slotKind, .ref m_hasSlot, .ref m_sheetBits, .ref m_sheetSize, .ref m_sheets, .int (nI u), .int ((f_X8_found fi (-1000001)).2), .ref m_fresh, .long aa, .long bb, .long dd, .int (nI ro), .ref m_rootWhich, .int db, .ref m_signs, .ref m_atNought, .int (nI mn), .ref m_change, .ref m_table, .ref m_carried])), (m_slots, .inl (cy 0, 48, .inl sl)), (m_slotKind, .inl (cy 0, 4, .inl sk)), (m_hasSlot, .inl (cy 2, 4, .inl hs))] := hD9
      replace hS := hS9
      clear hP9 hD9 hS9
      have hF : f_X8_as sl sk hs fi px py = (((f_X8_found fi (-1000001)).1), ((f_X8_found fi (-1000001)).2)) := hF
      have hf0 := yk_fst hF
      have hg0 := yk_snd hF
      rw [hf0, hg0] at hQ
      exact hQ _ _ _ _ dX8_as_22 hP hS

theorem kX8_sheet_0 : Cond.constant RX8 68 (-1000001) ∈ wsX8_sheet := by decide +kernel
theorem kX8_sheet_1 : Cond.fieldLink RX8 26 "FlowPlaneModel" "sheetBits" "[I" ∈ wsX8_sheet := by decide +kernel
theorem kX8_sheet_2 : Cond.fieldLink RX8 29 "FlowPlaneModel" "sheetSize" "[I" ∈ wsX8_sheet := by decide +kernel
theorem kX8_sheet_3 : Cond.fieldLink RX8 32 "FlowPlaneModel" "sheets" "[I" ∈ wsX8_sheet := by decide +kernel
theorem kX8_sheet_4 : Cond.constant RX8 99 (-1000003) ∈ wsX8_sheet := by decide +kernel
theorem uX8_sheet_X8 : ∀ w ∈ u_ws RX8 TX8 23, w ∈ wsX8_sheet := by decide +kernel
def l_X8_sheet_85 (sb : Nat → Int32) (ss : Nat → Int32) (sh : Nat → Int32) (fi : Int32) (px : Int32) (pb : Int32) (pn : Int32) : Nat → Nat → (Nat → Int32) → (Nat → Int32)
  | 0, ki, zsheets_85 => zsheets_85
  | fu_X8_sheet_85 + 1, ki, zsheets_85 => (if 16 ≤ (nI ki) then zsheets_85 else (l_X8_sheet_85 sb ss sh fi px pb pn fu_X8_sheet_85 (ki + 1) (upd zsheets_85 ((16 * px.toNatClampNeg) + ki) 0)))
def fb_X8_sheet_b36 (sb : Nat → Int32) (ss : Nat → Int32) (sh : Nat → Int32) (fi : Int32) (px : Int32) (pb : Int32) (pn : Int32) : Int32 × Int32 × (Nat → Int32) × (Nat → Int32) × (Nat → Int32) := (if 0 ≤ pn then (if pn ≤ 16 then (((upd ss px.toNatClampNeg (if pb = 0 then 0 else pn)) px.toNatClampNeg), fi, (upd sb px.toNatClampNeg pb), (upd ss px.toNatClampNeg (if pb = 0 then 0 else pn)), (l_X8_sheet_85 sb ss sh fi px pb pn (16 + 1) 0 sh)) else (((f_X8_found fi (-1000001)).1), ((f_X8_found fi (-1000001)).2), sb, ss, sh)) else (((f_X8_found fi (-1000003)).1), ((f_X8_found fi (-1000003)).2), sb, ss, sh))
def f_X8_sheet (sb : Nat → Int32) (ss : Nat → Int32) (sh : Nat → Int32) (fi : Int32) (px : Int32) (pb : Int32) (pn : Int32) : Int32 × Int32 × (Nat → Int32) × (Nat → Int32) × (Nat → Int32) := (if (f_X8_isSlot px) = 0 then (((f_X8_found fi (-1000001)).1), ((f_X8_found fi (-1000001)).2), sb, ss, sh) else (if pb = 0 then (fb_X8_sheet_b36 sb ss sh fi px pb pn) else (if pb = 8 then (fb_X8_sheet_b36 sb ss sh fi px pb pn) else (if pb = 16 then (fb_X8_sheet_b36 sb ss sh fi px pb pn) else (if pb = 32 then (fb_X8_sheet_b36 sb ss sh fi px pb pn) else (((f_X8_found fi (-1000001)).1), ((f_X8_found fi (-1000001)).2), sb, ss, sh))))))
set_option maxHeartbeats 400000000 in
set_option maxRecDepth 100000 in
theorem c_X8_sheet (l : Launch) (D : va_G) (cy : Nat → ClassId) (ta : Nat) (m_sheetBits : Nat) (m_sheetSize : Nat) (m_sheets : Nat) (m_now : Nat) (m_undone : Nat) (m_slots : Nat) (m_slotKind : Nat) (m_hasSlot : Nat) (m_fresh : Nat) (m_rootWhich : Nat) (m_signs : Nat) (m_atNought : Nat) (m_change : Nat) (m_table : Nat) (m_carried : Nat) (sb : Nat → Int32) (ss : Nat → Int32) (sh : Nat → Int32) (u : Nat) (fi : Int32) (aa : Int64) (bb : Int64) (dd : Int64) (ro : Nat) (db : Int32) (mn : Nat) (px : Int32) (pb : Int32) (pn : Int32) : yk_Ci l D vwCl (yk_ty cy) yX8_sheet wsX8_sheet 2 42 [.ref ta, .int px, .int pb, .int pn] [(ta, .inr (8, [.ref m_now, .ref m_undone, .ref m_slots, .ref m_slotKind, .ref m_hasSlot, .ref m_sheetBits, .ref m_sheetSize, .ref m_sheets, .int (nI u), .int fi, .ref m_fresh, .long aa, .long bb, .long dd, .int (nI ro), .ref m_rootWhich, .int db, .ref m_signs, .ref m_atNought, .int (nI mn), .ref m_change, .ref m_table, .ref m_carried])), (m_sheetBits, .inl (cy 0, 4, .inl sb)), (m_sheetSize, .inl (cy 0, 4, .inl ss)), (m_sheets, .inl (cy 0, 64, .inl sh))] ((f_X8_sheet sb ss sh fi px pb pn).1) [(ta, .inr (8, [.ref m_now, .ref m_undone, .ref m_slots, .ref m_slotKind, .ref m_hasSlot, .ref m_sheetBits, .ref m_sheetSize, .ref m_sheets, .int (nI u), .int ((f_X8_sheet sb ss sh fi px pb pn).2.1), .ref m_fresh, .long aa, .long bb, .long dd, .int (nI ro), .ref m_rootWhich, .int db, .ref m_signs, .ref m_atNought, .int (nI mn), .ref m_change, .ref m_table, .ref m_carried])), (m_sheetBits, .inl (cy 0, 4, .inl ((f_X8_sheet sb ss sh fi px pb pn).2.2.1))), (m_sheetSize, .inl (cy 0, 4, .inl ((f_X8_sheet sb ss sh fi px pb pn).2.2.2.1))), (m_sheets, .inl (cy 0, 64, .inl ((f_X8_sheet sb ss sh fi px pb pn).2.2.2.2)))] := by
  refine yk_eI (cc := cX8_sheet) (maxL := 5) (by decide) rfl (Nat.le_of_ble_eq_true rfl) rfl ?_
  intro p e R s m args below meth c A Q ls H locs hx hb hml hown hts hRf hRl hA hK hG hP hD hS hl hQ
  have hP : va_P D vwCl [(ta, .inr (8, [.ref m_now, .ref m_undone, .ref m_slots, .ref m_slotKind, .ref m_hasSlot, .ref m_sheetBits, .ref m_sheetSize, .ref m_sheets, .int (nI u), .int fi, .ref m_fresh, .long aa, .long bb, .long dd, .int (nI ro), .ref m_rootWhich, .int db, .ref m_signs, .ref m_atNought, .int (nI mn), .ref m_change, .ref m_table, .ref m_carried])), (m_sheetBits, .inl (cy 0, 4, .inl sb)), (m_sheetSize, .inl (cy 0, 4, .inl ss)), (m_sheets, .inl (cy 0, 64, .inl sh))] H := hP
  have hl : lv_has ls 5 [(0, .ref ta), (1, .int px), (2, .int pb), (3, .int pn)] := hl
  have hown : s.vm.findClass RX8 = some m.cls := hown
  have hF : (f_X8_sheet sb ss sh fi px pb pn) = (f_X8_sheet sb ss sh fi px pb pn) := rfl
  refine lv_iload_n hx hb dX8_sheet_0 rfl (lv_at hl 1 rfl) ?_
  refine yk_i [] (va_runS (As := [.int px]) (rest := []) ⟨hx, hb, hml, hown, hts⟩ (c_X8_isSlot l D cy px H.size) (va_cwS 1 hts gX8_sheet_X8_isSlot rfl rfl rfl hs_X8_isSlot (yk_room hRf hRl rfl rfl)) (yk_ps hG hA hS hK hP hD [] (by decide +kernel) rfl) rfl rfl hl.1 rfl (lv_room (Nat.le_of_ble_eq_true rfl)) dX8_sheet_1 ⟨Nat.zero_le _, Nat.zero_le _⟩) hP hD hS hA rfl rfl (fun H locs hP9 hD9 hS9 => ?_)
  replace hP : va_P D vwCl [(ta, .inr (8, [.ref m_now, .ref m_undone, .ref m_slots, .ref m_slotKind, .ref m_hasSlot, .ref m_sheetBits, .ref m_sheetSize, .ref m_sheets, .int (nI u), .int fi, .ref m_fresh, .long aa, .long bb, .long dd, .int (nI ro), .ref m_rootWhich, .int db, .ref m_signs, .ref m_atNought, .int (nI mn), .ref m_change, .ref m_table, .ref m_carried])), (m_sheetBits, .inl (cy 0, 4, .inl sb)), (m_sheetSize, .inl (cy 0, 4, .inl ss)), (m_sheets, .inl (cy 0, 64, .inl sh))] H := hP9
  replace hD : va_D A [(ta, .inr (8, [.ref m_now, .ref m_undone, .ref m_slots, .ref m_slotKind, .ref m_hasSlot, .ref m_sheetBits, .ref m_sheetSize, .ref m_sheets, .int (nI u), .int fi, .ref m_fresh, .long aa, .long bb, .long dd, .int (nI ro), .ref m_rootWhich, .int db, .ref m_signs, .ref m_atNought, .int (nI mn), .ref m_change, .ref m_table, .ref m_carried])), (m_sheetBits, .inl (cy 0, 4, .inl sb)), (m_sheetSize, .inl (cy 0, 4, .inl ss)), (m_sheets, .inl (cy 0, 64, .inl sh))] := hD9
  replace hS := hS9
  clear hP9 hD9 hS9
  refine lv_if_eq (tgt := 29) hx hb dX8_sheet_4 (by decide) (fun hc1 => ?_) (fun hc1 => ?_)
  · replace hF := hF.trans (if_pos hc1)
    refine lv_aload_n hx hb dX8_sheet_29 rfl (lv_at hl 0 rfl) ?_
    refine lv_ldc (v := (-1000001)) hx hb hown (hts _ kX8_sheet_0) dX8_sheet_30 ?_
    refine yk_i [0] (va_runV (As := [.int (-1000001)]) (rest := []) ⟨hx, hb, hml, hown, hts⟩ (c_X8_found l D cy ta m_now m_undone m_slots m_slotKind m_hasSlot m_sheetBits m_sheetSize m_sheets m_fresh m_rootWhich m_signs m_atNought m_change m_table m_carried u fi aa bb dd ro db mn (-1000001) H.size) (cwV 1 hts gX8_sheet_X8_found rfl rfl rfl hv_X8_found (yk_room hRf hRl rfl rfl)) (yk_pv (q := (RX8, TX8, 23)) hG hA hS hK hP hD [0] (by decide +kernel) rfl rfl rfl) rfl rfl hl.1 rfl (lv_room (Nat.le_of_ble_eq_true rfl)) dX8_sheet_32 ⟨Nat.zero_le _, Nat.zero_le _⟩) hP hD hS hA rfl (Eq.trans (b := [ta]) rfl rfl) (fun H locs hP9 hD9 hS9 => ?_)
    replace hP : va_P D vwCl [(ta, .inr (8, [.ref m_now, .ref m_undone, .ref m_slots, .ref m_slotKind, .ref m_hasSlot, .ref m_sheetBits, .ref m_sheetSize, .ref m_sheets, .int (nI u), .int ((f_X8_found fi (-1000001)).2), .ref m_fresh, .long aa, .long bb, .long dd, .int (nI ro), .ref m_rootWhich, .int db, .ref m_signs, .ref m_atNought, .int (nI mn), .ref m_change, .ref m_table, .ref m_carried])), (m_sheetBits, .inl (cy 0, 4, .inl sb)), (m_sheetSize, .inl (cy 0, 4, .inl ss)), (m_sheets, .inl (cy 0, 64, .inl sh))] H := hP9
    replace hD : va_D A [(ta, .inr (8, [.ref m_now, .ref m_undone, .ref m_slots, .ref m_slotKind, .ref m_hasSlot, .ref m_sheetBits, .ref m_sheetSize, .ref m_sheets, .int (nI u), .int ((f_X8_found fi (-1000001)).2), .ref m_fresh, .long aa, .long bb, .long dd, .int (nI ro), .ref m_rootWhich, .int db, .ref m_signs, .ref m_atNought, .int (nI mn), .ref m_change, .ref m_table, .ref m_carried])), (m_sheetBits, .inl (cy 0, 4, .inl sb)), (m_sheetSize, .inl (cy 0, 4, .inl ss)), (m_sheets, .inl (cy 0, 64, .inl sh))] := hD9
    replace hS := hS9
    clear hP9 hD9 hS9
    have hF : f_X8_sheet sb ss sh fi px pb pn = (((f_X8_found fi (-1000001)).1), ((f_X8_found fi (-1000001)).2), sb, ss, sh) := hF
    have hf0 := yk_fst hF
    have hg0 := yk_snd hF
    have hf1 := yk_fst hg0
    have hg1 := yk_snd hg0
    have hf2 := yk_fst hg1
    have hg2 := yk_snd hg1
    have hf3 := yk_fst hg2
    have hg3 := yk_snd hg2
    rw [hf0, hf1, hf2, hf3, hg3] at hQ
    exact hQ _ _ _ _ dX8_sheet_35 hP hS
  · replace hF := hF.trans (if_neg hc1)
    refine lv_iload_n hx hb dX8_sheet_7 rfl (lv_at hl 2 rfl) ?_
    have K36 : ∀ (H : Heap) (locs : List Loc) (ls : Array Slot), f_X8_sheet sb ss sh fi px pb pn = fb_X8_sheet_b36 sb ss sh fi px pb pn → va_P D vwCl [(ta, .inr (8, [.ref m_now, .ref m_undone, .ref m_slots, .ref m_slotKind, .ref m_hasSlot, .ref m_sheetBits, .ref m_sheetSize, .ref m_sheets, .int (nI u), .int fi, .ref m_fresh, .long aa, .long bb, .long dd, .int (nI ro), .ref m_rootWhich, .int db, .ref m_signs, .ref m_atNought, .int (nI mn), .ref m_change, .ref m_table, .ref m_carried])), (m_sheetBits, .inl (cy 0, 4, .inl sb)), (m_sheetSize, .inl (cy 0, 4, .inl ss)), (m_sheets, .inl (cy 0, 64, .inl sh))] H → va_D A [(ta, .inr (8, [.ref m_now, .ref m_undone, .ref m_slots, .ref m_slotKind, .ref m_hasSlot, .ref m_sheetBits, .ref m_sheetSize, .ref m_sheets, .int (nI u), .int fi, .ref m_fresh, .long aa, .long bb, .long dd, .int (nI ro), .ref m_rootWhich, .int db, .ref m_signs, .ref m_atNought, .int (nI mn), .ref m_change, .ref m_table, .ref m_carried])), (m_sheetBits, .inl (cy 0, 4, .inl sb)), (m_sheetSize, .inl (cy 0, 4, .inl ss)), (m_sheets, .inl (cy 0, 64, .inl sh))] → va_S A s.heap H locs → lv_has ls 5 [(0, .ref ta), (1, .int px), (2, .int pb), (3, .int pn)] → W p l e R s m args below meth c H locs 0 0 Q (F0 m 36 ls []) := by
      clear hP hD hS hl hF
      intro H locs ls hF hP hD hS hl
      have hq6 : px = nI px.toNatClampNeg := (ix_sl (by assumption)).1
      have hq6b : px.toNatClampNeg < 4 := (ix_sl (by assumption)).2
      rw [hq6] at hl
      refine lv_iload_n hx hb dX8_sheet_36 rfl (lv_at hl 3 rfl) ?_
      refine lv_if_ge (tgt := 47) hx hb dX8_sheet_37 (by decide) (fun hc7 => ?_) (fun hc7 => ?_)
      · replace hF := hF.trans (if_pos hc7)
        refine lv_iload_n hx hb dX8_sheet_47 rfl (lv_at hl 3 rfl) ?_
        refine lv_bipush (v := 16) hx hb dX8_sheet_48 (by decide) ?_
        refine lv_icmp_le (tgt := 60) hx hb dX8_sheet_50 (by decide) (fun hc8 => ?_) (fun hc8 => ?_)
        · replace hF := hF.trans (if_pos hc8)
          refine lv_aload_n hx hb dX8_sheet_60 rfl (lv_at hl 0 rfl) ?_
          refine va_get (D := D) (ci := 8) (v := .ref m_sheetBits) (C := RX8) (T := TX8) (N := 23) hx hb hts uX8_sheet_X8 hown hK hP 0 rfl rfl 5 (by decide) (hts _ kX8_sheet_1) (fun _ h9 => h9) rfl dX8_sheet_61 ?_
          refine lv_iload_n hx hb dX8_sheet_64 rfl (lv_at hl 1 rfl) ?_
          refine lv_iload_n hx hb dX8_sheet_65 rfl (lv_at hl 2 rfl) ?_
          refine yk_ist hx hb hK hP hD hS 1 0 rfl rfl px.toNatClampNeg (by omega) (by decide) dX8_sheet_66 (fun H locs hP9 hD9 hS9 => ?_)
          replace hP : va_P D vwCl [(ta, .inr (8, [.ref m_now, .ref m_undone, .ref m_slots, .ref m_slotKind, .ref m_hasSlot, .ref m_sheetBits, .ref m_sheetSize, .ref m_sheets, .int (nI u), .int fi, .ref m_fresh, .long aa, .long bb, .long dd, .int (nI ro), .ref m_rootWhich, .int db, .ref m_signs, .ref m_atNought, .int (nI mn), .ref m_change, .ref m_table, .ref m_carried])), (m_sheetBits, .inl (cy 0, 4, .inl (upd sb px.toNatClampNeg pb))), (m_sheetSize, .inl (cy 0, 4, .inl ss)), (m_sheets, .inl (cy 0, 64, .inl sh))] H := hP9
          replace hD : va_D A [(ta, .inr (8, [.ref m_now, .ref m_undone, .ref m_slots, .ref m_slotKind, .ref m_hasSlot, .ref m_sheetBits, .ref m_sheetSize, .ref m_sheets, .int (nI u), .int fi, .ref m_fresh, .long aa, .long bb, .long dd, .int (nI ro), .ref m_rootWhich, .int db, .ref m_signs, .ref m_atNought, .int (nI mn), .ref m_change, .ref m_table, .ref m_carried])), (m_sheetBits, .inl (cy 0, 4, .inl (upd sb px.toNatClampNeg pb))), (m_sheetSize, .inl (cy 0, 4, .inl ss)), (m_sheets, .inl (cy 0, 64, .inl sh))] := hD9
          replace hS := hS9
          clear hP9 hD9 hS9
          refine lv_aload_n hx hb dX8_sheet_67 rfl (lv_at hl 0 rfl) ?_
          refine va_get (D := D) (ci := 8) (v := .ref m_sheetSize) (C := RX8) (T := TX8) (N := 23) hx hb hts uX8_sheet_X8 hown hK hP 0 rfl rfl 6 (by decide) (hts _ kX8_sheet_2) (fun _ h9 => h9) rfl dX8_sheet_68 ?_
          refine lv_iload_n hx hb dX8_sheet_71 rfl (lv_at hl 1 rfl) ?_
          refine lv_iload_n hx hb dX8_sheet_72 rfl (lv_at hl 2 rfl) ?_
          have J11 : ∀ (v10 : Int32) (H : Heap) (locs : List Loc) (ls : Array Slot), v10 = (if pb = 0 then 0 else pn) → va_P D vwCl [(ta, .inr (8, [.ref m_now, .ref m_undone, .ref m_slots, .ref m_slotKind, .ref m_hasSlot, .ref m_sheetBits, .ref m_sheetSize, .ref m_sheets, .int (nI u), .int fi, .ref m_fresh, .long aa, .long bb, .long dd, .int (nI ro), .ref m_rootWhich, .int db, .ref m_signs, .ref m_atNought, .int (nI mn), .ref m_change, .ref m_table, .ref m_carried])), (m_sheetBits, .inl (cy 0, 4, .inl (upd sb px.toNatClampNeg pb))), (m_sheetSize, .inl (cy 0, 4, .inl ss)), (m_sheets, .inl (cy 0, 64, .inl sh))] H → va_D A [(ta, .inr (8, [.ref m_now, .ref m_undone, .ref m_slots, .ref m_slotKind, .ref m_hasSlot, .ref m_sheetBits, .ref m_sheetSize, .ref m_sheets, .int (nI u), .int fi, .ref m_fresh, .long aa, .long bb, .long dd, .int (nI ro), .ref m_rootWhich, .int db, .ref m_signs, .ref m_atNought, .int (nI mn), .ref m_change, .ref m_table, .ref m_carried])), (m_sheetBits, .inl (cy 0, 4, .inl (upd sb px.toNatClampNeg pb))), (m_sheetSize, .inl (cy 0, 4, .inl ss)), (m_sheets, .inl (cy 0, 64, .inl sh))] → va_S A s.heap H locs → lv_has ls 5 [(0, .ref ta), (1, .int (nI px.toNatClampNeg)), (2, .int pb), (3, .int pn)] → W p l e R s m args below meth c H locs 0 0 Q (F0 m 81 ls [.int v10, .int (nI px.toNatClampNeg), .ref m_sheetSize]) := by
            clear hP hD hS hl
            intro v10 H locs ls ev10
            rw [ev10]
            clear ev10
            intro hP hD hS hl
            refine yk_ist hx hb hK hP hD hS 2 0 rfl rfl px.toNatClampNeg (by omega) (by decide) dX8_sheet_81 (fun H locs hP9 hD9 hS9 => ?_)
            replace hP : va_P D vwCl [(ta, .inr (8, [.ref m_now, .ref m_undone, .ref m_slots, .ref m_slotKind, .ref m_hasSlot, .ref m_sheetBits, .ref m_sheetSize, .ref m_sheets, .int (nI u), .int fi, .ref m_fresh, .long aa, .long bb, .long dd, .int (nI ro), .ref m_rootWhich, .int db, .ref m_signs, .ref m_atNought, .int (nI mn), .ref m_change, .ref m_table, .ref m_carried])), (m_sheetBits, .inl (cy 0, 4, .inl (upd sb px.toNatClampNeg pb))), (m_sheetSize, .inl (cy 0, 4, .inl (upd ss px.toNatClampNeg (if pb = 0 then 0 else pn)))), (m_sheets, .inl (cy 0, 64, .inl sh))] H := hP9
            replace hD : va_D A [(ta, .inr (8, [.ref m_now, .ref m_undone, .ref m_slots, .ref m_slotKind, .ref m_hasSlot, .ref m_sheetBits, .ref m_sheetSize, .ref m_sheets, .int (nI u), .int fi, .ref m_fresh, .long aa, .long bb, .long dd, .int (nI ro), .ref m_rootWhich, .int db, .ref m_signs, .ref m_atNought, .int (nI mn), .ref m_change, .ref m_table, .ref m_carried])), (m_sheetBits, .inl (cy 0, 4, .inl (upd sb px.toNatClampNeg pb))), (m_sheetSize, .inl (cy 0, 4, .inl (upd ss px.toNatClampNeg (if pb = 0 then 0 else pn)))), (m_sheets, .inl (cy 0, 64, .inl sh))] := hD9
            replace hS := hS9
            clear hP9 hD9 hS9
            refine lv_iconst (v := 0) hx hb dX8_sheet_82 (by decide) ?_
            refine lv_istore (lv' := [(4, .int 0), (0, .ref ta), (1, .int (nI px.toNatClampNeg)), (2, .int pb), (3, .int pn)]) hx hb dX8_sheet_83 hl (by decide) rfl (fun ls hl9 => ?_)
            replace hl := hl9
            clear hl9
            have J14 : ∀ (H : Heap) (locs : List Loc) (ls : Array Slot), va_P D vwCl [(ta, .inr (8, [.ref m_now, .ref m_undone, .ref m_slots, .ref m_slotKind, .ref m_hasSlot, .ref m_sheetBits, .ref m_sheetSize, .ref m_sheets, .int (nI u), .int fi, .ref m_fresh, .long aa, .long bb, .long dd, .int (nI ro), .ref m_rootWhich, .int db, .ref m_signs, .ref m_atNought, .int (nI mn), .ref m_change, .ref m_table, .ref m_carried])), (m_sheetBits, .inl (cy 0, 4, .inl (upd sb px.toNatClampNeg pb))), (m_sheetSize, .inl (cy 0, 4, .inl (upd ss px.toNatClampNeg (if pb = 0 then 0 else pn)))), (m_sheets, .inl (cy 0, 64, .inl (l_X8_sheet_85 sb ss sh fi px pb pn (16 + 1) 0 sh)))] H → va_D A [(ta, .inr (8, [.ref m_now, .ref m_undone, .ref m_slots, .ref m_slotKind, .ref m_hasSlot, .ref m_sheetBits, .ref m_sheetSize, .ref m_sheets, .int (nI u), .int fi, .ref m_fresh, .long aa, .long bb, .long dd, .int (nI ro), .ref m_rootWhich, .int db, .ref m_signs, .ref m_atNought, .int (nI mn), .ref m_change, .ref m_table, .ref m_carried])), (m_sheetBits, .inl (cy 0, 4, .inl (upd sb px.toNatClampNeg pb))), (m_sheetSize, .inl (cy 0, 4, .inl (upd ss px.toNatClampNeg (if pb = 0 then 0 else pn)))), (m_sheets, .inl (cy 0, 64, .inl (l_X8_sheet_85 sb ss sh fi px pb pn (16 + 1) 0 sh)))] → va_S A s.heap H locs → lv_has ls 5 [(0, .ref ta), (1, .int (nI px.toNatClampNeg)), (2, .int pb), (3, .int pn)] → W p l e R s m args below meth c H locs 0 0 Q (F0 m 111 ls []) := by
              clear hP hD hS hl
              intro H locs ls hP hD hS hl
              refine lv_aload_n hx hb dX8_sheet_111 rfl (lv_at hl 0 rfl) ?_
              refine va_get (D := D) (ci := 8) (v := .ref m_sheetSize) (C := RX8) (T := TX8) (N := 23) hx hb hts uX8_sheet_X8 hown hK hP 0 rfl rfl 6 (by decide) (hts _ kX8_sheet_2) (fun _ h9 => h9) rfl dX8_sheet_112 ?_
              refine lv_iload_n hx hb dX8_sheet_115 rfl (lv_at hl 1 rfl) ?_
              refine yk_ild hx hb hK hP 2 0 rfl rfl px.toNatClampNeg (by omega) (by decide) dX8_sheet_116 ?_
              have hF : f_X8_sheet sb ss sh fi px pb pn = (((upd ss px.toNatClampNeg (if pb = 0 then 0 else pn)) px.toNatClampNeg), fi, (upd sb px.toNatClampNeg pb), (upd ss px.toNatClampNeg (if pb = 0 then 0 else pn)), (l_X8_sheet_85 sb ss sh fi px pb pn (16 + 1) 0 sh)) := hF
              have hf0 := yk_fst hF
              have hg0 := yk_snd hF
              have hf1 := yk_fst hg0
              have hg1 := yk_snd hg0
              have hf2 := yk_fst hg1
              have hg2 := yk_snd hg1
              have hf3 := yk_fst hg2
              have hg3 := yk_snd hg2
              rw [hf0, hf1, hf2, hf3, hg3] at hQ
              exact hQ _ _ _ _ dX8_sheet_117 hP hS
            have L85 : ∀ (M9 n85 ki : Nat) (zsheets_85 : Nat → Int32) (H : Heap) (locs : List Loc) (ls : Array Slot), n85 < M9 → ki + n85 = 16 → (l_X8_sheet_85 sb ss sh fi px pb pn (16 + 1) 0 sh) = (l_X8_sheet_85 sb ss sh fi px pb pn (n85 + 1) ki zsheets_85) → va_P D vwCl [(ta, .inr (8, [.ref m_now, .ref m_undone, .ref m_slots, .ref m_slotKind, .ref m_hasSlot, .ref m_sheetBits, .ref m_sheetSize, .ref m_sheets, .int (nI u), .int fi, .ref m_fresh, .long aa, .long bb, .long dd, .int (nI ro), .ref m_rootWhich, .int db, .ref m_signs, .ref m_atNought, .int (nI mn), .ref m_change, .ref m_table, .ref m_carried])), (m_sheetBits, .inl (cy 0, 4, .inl (upd sb px.toNatClampNeg pb))), (m_sheetSize, .inl (cy 0, 4, .inl (upd ss px.toNatClampNeg (if pb = 0 then 0 else pn)))), (m_sheets, .inl (cy 0, 64, .inl zsheets_85))] H → va_D A [(ta, .inr (8, [.ref m_now, .ref m_undone, .ref m_slots, .ref m_slotKind, .ref m_hasSlot, .ref m_sheetBits, .ref m_sheetSize, .ref m_sheets, .int (nI u), .int fi, .ref m_fresh, .long aa, .long bb, .long dd, .int (nI ro), .ref m_rootWhich, .int db, .ref m_signs, .ref m_atNought, .int (nI mn), .ref m_change, .ref m_table, .ref m_carried])), (m_sheetBits, .inl (cy 0, 4, .inl (upd sb px.toNatClampNeg pb))), (m_sheetSize, .inl (cy 0, 4, .inl (upd ss px.toNatClampNeg (if pb = 0 then 0 else pn)))), (m_sheets, .inl (cy 0, 64, .inl zsheets_85))] → va_S A s.heap H locs → lv_has ls 5 [(0, .ref ta), (1, .int (nI px.toNatClampNeg)), (2, .int pb), (3, .int pn), (4, .int (nI ki))] → W p l e R s m args below meth c H locs 0 0 Q (F0 m 85 ls []) := by
              clear hP hD hS hl
              intro M9
              induction M9 with
              | zero => intro n85 ki _ _ _ _ hn; exact absurd hn (Nat.not_lt_zero _)
              | succ M9 ih85 =>
                intro n85 ki zsheets_85 H locs ls hn85 hk85 hV85 hP hD hS hl
                refine lv_iload hx hb dX8_sheet_85 (lv_at hl 4 rfl) ?_
                refine lv_bipush (v := 16) hx hb dX8_sheet_87 (by decide) ?_
                refine lv_icmp_ge (tgt := 111) hx hb dX8_sheet_89 (by decide) (fun hc13 => ?_) (fun hc13 => ?_)
                · replace hV85 := hV85.trans (if_pos hc13)
                  have hV85 : (l_X8_sheet_85 sb ss sh fi px pb pn (16 + 1) 0 sh) = zsheets_85 := hV85
                  have J14 := J14
                  rw [hV85] at J14
                  exact J14 _ _ _ hP hD hS (lv_sub hl [0, 1, 2, 3] rfl)
                · replace hV85 := hV85.trans (if_neg hc13)
                  have hlt85 : ki < 16 := yk_lt hk85 (by omega) hc13
                  refine lv_aload_n hx hb dX8_sheet_92 rfl (lv_at hl 0 rfl) ?_
                  refine va_get (D := D) (ci := 8) (v := .ref m_sheets) (C := RX8) (T := TX8) (N := 23) hx hb hts uX8_sheet_X8 hown hK hP 0 rfl rfl 7 (by decide) (hts _ kX8_sheet_3) (fun _ h9 => h9) rfl dX8_sheet_93 ?_
                  refine lv_bipush (v := 16) hx hb dX8_sheet_96 (by decide) ?_
                  refine lv_iload_n hx hb dX8_sheet_98 rfl (lv_at hl 1 rfl) ?_
                  refine lv_imul hx hb dX8_sheet_99 ?_
                  refine yk_ti (y := nI (16 * px.toNatClampNeg)) (pk_mul 16 px.toNatClampNeg) ?_
                  refine lv_iload hx hb dX8_sheet_100 (lv_at hl 4 rfl) ?_
                  refine lv_iadd hx hb dX8_sheet_102 ?_
                  refine yk_ti (y := nI ((16 * px.toNatClampNeg) + ki)) (nI_add (16 * px.toNatClampNeg) ki) ?_
                  refine lv_iconst (v := 0) hx hb dX8_sheet_103 (by decide) ?_
                  refine yk_ist hx hb hK hP hD hS 3 0 rfl rfl ((16 * px.toNatClampNeg) + ki) (by omega) (by decide) dX8_sheet_104 (fun H locs hP9 hD9 hS9 => ?_)
                  replace hP : va_P D vwCl [(ta, .inr (8, [.ref m_now, .ref m_undone, .ref m_slots, .ref m_slotKind, .ref m_hasSlot, .ref m_sheetBits, .ref m_sheetSize, .ref m_sheets, .int (nI u), .int fi, .ref m_fresh, .long aa, .long bb, .long dd, .int (nI ro), .ref m_rootWhich, .int db, .ref m_signs, .ref m_atNought, .int (nI mn), .ref m_change, .ref m_table, .ref m_carried])), (m_sheetBits, .inl (cy 0, 4, .inl (upd sb px.toNatClampNeg pb))), (m_sheetSize, .inl (cy 0, 4, .inl (upd ss px.toNatClampNeg (if pb = 0 then 0 else pn)))), (m_sheets, .inl (cy 0, 64, .inl (upd zsheets_85 ((16 * px.toNatClampNeg) + ki) 0)))] H := hP9
                  replace hD : va_D A [(ta, .inr (8, [.ref m_now, .ref m_undone, .ref m_slots, .ref m_slotKind, .ref m_hasSlot, .ref m_sheetBits, .ref m_sheetSize, .ref m_sheets, .int (nI u), .int fi, .ref m_fresh, .long aa, .long bb, .long dd, .int (nI ro), .ref m_rootWhich, .int db, .ref m_signs, .ref m_atNought, .int (nI mn), .ref m_change, .ref m_table, .ref m_carried])), (m_sheetBits, .inl (cy 0, 4, .inl (upd sb px.toNatClampNeg pb))), (m_sheetSize, .inl (cy 0, 4, .inl (upd ss px.toNatClampNeg (if pb = 0 then 0 else pn)))), (m_sheets, .inl (cy 0, 64, .inl (upd zsheets_85 ((16 * px.toNatClampNeg) + ki) 0)))] := hD9
                  replace hS := hS9
                  clear hP9 hD9 hS9
                  refine lv_iinc (v := nI (ki + 1)) (lv' := [(4, .int (nI (ki + 1))), (0, .ref ta), (1, .int (nI px.toNatClampNeg)), (2, .int pb), (3, .int pn)]) hx hb dX8_sheet_105 hl (k := 4) rfl (yk_inc ki) (by decide) rfl (fun ls hl9 => ?_)
                  replace hl := hl9
                  clear hl9
                  refine lv_goto (tgt := 85) hx hb dX8_sheet_108 (by decide) ?_
                  obtain ⟨n9, rfl⟩ : ∃ n9, n85 = n9 + 1 := ⟨n85 - 1, by omega⟩
                  exact ih85 n9 (ki + 1) (upd zsheets_85 ((16 * px.toNatClampNeg) + ki) 0) _ _ _ (by omega) (by omega)  hV85 hP hD hS (lv_sub hl [1, 2, 3, 4, 0] rfl)
            exact L85 (16 + 1) 16 0 sh _ _ _ (Nat.lt_succ_self _) (by omega)  rfl hP hD hS (lv_sub hl [1, 2, 3, 4, 0] rfl)
          refine lv_if_ne (tgt := 80) hx hb dX8_sheet_73 (by decide) (fun hc9 => ?_) (fun hc9 => ?_)
          · refine lv_iload_n hx hb dX8_sheet_80 rfl (lv_at hl 3 rfl) ?_
            exact J11 _ _ _ _ ((if_neg hc9).symm) hP hD hS (lv_sub hl [0, 1, 2, 3] rfl)
          · refine lv_iconst (v := 0) hx hb dX8_sheet_76 (by decide) ?_
            refine lv_goto (tgt := 81) hx hb dX8_sheet_77 (by decide) ?_
            exact J11 _ _ _ _ ((if_pos hc9).symm) hP hD hS (lv_sub hl [0, 1, 2, 3] rfl)
        · replace hF := hF.trans (if_neg hc8)
          refine lv_aload_n hx hb dX8_sheet_53 rfl (lv_at hl 0 rfl) ?_
          refine lv_ldc (v := (-1000001)) hx hb hown (hts _ kX8_sheet_0) dX8_sheet_54 ?_
          refine yk_i [0] (va_runV (As := [.int (-1000001)]) (rest := []) ⟨hx, hb, hml, hown, hts⟩ (c_X8_found l D cy ta m_now m_undone m_slots m_slotKind m_hasSlot m_sheetBits m_sheetSize m_sheets m_fresh m_rootWhich m_signs m_atNought m_change m_table m_carried u fi aa bb dd ro db mn (-1000001) H.size) (cwV 1 hts gX8_sheet_X8_found rfl rfl rfl hv_X8_found (yk_room hRf hRl rfl rfl)) (yk_pv (q := (RX8, TX8, 23)) hG hA hS hK hP hD [0] (by decide +kernel) rfl rfl rfl) rfl rfl hl.1 rfl (lv_room (Nat.le_of_ble_eq_true rfl)) dX8_sheet_56 ⟨Nat.zero_le _, Nat.zero_le _⟩) hP hD hS hA rfl (Eq.trans (b := [ta]) rfl rfl) (fun H locs hP9 hD9 hS9 => ?_)
          replace hP : va_P D vwCl [(ta, .inr (8, [.ref m_now, .ref m_undone, .ref m_slots, .ref m_slotKind, .ref m_hasSlot, .ref m_sheetBits, .ref m_sheetSize, .ref m_sheets, .int (nI u), .int ((f_X8_found fi (-1000001)).2), .ref m_fresh, .long aa, .long bb, .long dd, .int (nI ro), .ref m_rootWhich, .int db, .ref m_signs, .ref m_atNought, .int (nI mn), .ref m_change, .ref m_table, .ref m_carried])), (m_sheetBits, .inl (cy 0, 4, .inl sb)), (m_sheetSize, .inl (cy 0, 4, .inl ss)), (m_sheets, .inl (cy 0, 64, .inl sh))] H := hP9
          replace hD : va_D A [(ta, .inr (8, [.ref m_now, .ref m_undone, .ref m_slots, .ref m_slotKind, .ref m_hasSlot, .ref m_sheetBits, .ref m_sheetSize, .ref m_sheets, .int (nI u), .int ((f_X8_found fi (-1000001)).2), .ref m_fresh, .long aa, .long bb, .long dd, .int (nI ro), .ref m_rootWhich, .int db, .ref m_signs, .ref m_atNought, .int (nI mn), .ref m_change, .ref m_table, .ref m_carried])), (m_sheetBits, .inl (cy 0, 4, .inl sb)), (m_sheetSize, .inl (cy 0, 4, .inl ss)), (m_sheets, .inl (cy 0, 64, .inl sh))] := hD9
          replace hS := hS9
          clear hP9 hD9 hS9
          have hF : f_X8_sheet sb ss sh fi px pb pn = (((f_X8_found fi (-1000001)).1), ((f_X8_found fi (-1000001)).2), sb, ss, sh) := hF
          have hf0 := yk_fst hF
          have hg0 := yk_snd hF
          have hf1 := yk_fst hg0
          have hg1 := yk_snd hg0
          have hf2 := yk_fst hg1
          have hg2 := yk_snd hg1
          have hf3 := yk_fst hg2
          have hg3 := yk_snd hg2
          rw [hf0, hf1, hf2, hf3, hg3] at hQ
          exact hQ _ _ _ _ dX8_sheet_59 hP hS
      · replace hF := hF.trans (if_neg hc7)
        refine lv_aload_n hx hb dX8_sheet_40 rfl (lv_at hl 0 rfl) ?_
        refine lv_ldc (v := (-1000003)) hx hb hown (hts _ kX8_sheet_4) dX8_sheet_41 ?_
        refine yk_i [0] (va_runV (As := [.int (-1000003)]) (rest := []) ⟨hx, hb, hml, hown, hts⟩ (c_X8_found l D cy ta m_now m_undone m_slots m_slotKind m_hasSlot m_sheetBits m_sheetSize m_sheets m_fresh m_rootWhich m_signs m_atNought m_change m_table m_carried u fi aa bb dd ro db mn (-1000003) H.size) (cwV 1 hts gX8_sheet_X8_found rfl rfl rfl hv_X8_found (yk_room hRf hRl rfl rfl)) (yk_pv (q := (RX8, TX8, 23)) hG hA hS hK hP hD [0] (by decide +kernel) rfl rfl rfl) rfl rfl hl.1 rfl (lv_room (Nat.le_of_ble_eq_true rfl)) dX8_sheet_43 ⟨Nat.zero_le _, Nat.zero_le _⟩) hP hD hS hA rfl (Eq.trans (b := [ta]) rfl rfl) (fun H locs hP9 hD9 hS9 => ?_)
        replace hP : va_P D vwCl [(ta, .inr (8, [.ref m_now, .ref m_undone, .ref m_slots, .ref m_slotKind, .ref m_hasSlot, .ref m_sheetBits, .ref m_sheetSize, .ref m_sheets, .int (nI u), .int ((f_X8_found fi (-1000003)).2), .ref m_fresh, .long aa, .long bb, .long dd, .int (nI ro), .ref m_rootWhich, .int db, .ref m_signs, .ref m_atNought, .int (nI mn), .ref m_change, .ref m_table, .ref m_carried])), (m_sheetBits, .inl (cy 0, 4, .inl sb)), (m_sheetSize, .inl (cy 0, 4, .inl ss)), (m_sheets, .inl (cy 0, 64, .inl sh))] H := hP9
        replace hD : va_D A [(ta, .inr (8, [.ref m_now, .ref m_undone, .ref m_slots, .ref m_slotKind, .ref m_hasSlot, .ref m_sheetBits, .ref m_sheetSize, .ref m_sheets, .int (nI u), .int ((f_X8_found fi (-1000003)).2), .ref m_fresh, .long aa, .long bb, .long dd, .int (nI ro), .ref m_rootWhich, .int db, .ref m_signs, .ref m_atNought, .int (nI mn), .ref m_change, .ref m_table, .ref m_carried])), (m_sheetBits, .inl (cy 0, 4, .inl sb)), (m_sheetSize, .inl (cy 0, 4, .inl ss)), (m_sheets, .inl (cy 0, 64, .inl sh))] := hD9
        replace hS := hS9
        clear hP9 hD9 hS9
        have hF : f_X8_sheet sb ss sh fi px pb pn = (((f_X8_found fi (-1000003)).1), ((f_X8_found fi (-1000003)).2), sb, ss, sh) := hF
        have hf0 := yk_fst hF
        have hg0 := yk_snd hF
        have hf1 := yk_fst hg0
        have hg1 := yk_snd hg0
        have hf2 := yk_fst hg1
        have hg2 := yk_snd hg1
        have hf3 := yk_fst hg2
        have hg3 := yk_snd hg2
        rw [hf0, hf1, hf2, hf3, hg3] at hQ
        exact hQ _ _ _ _ dX8_sheet_46 hP hS
    refine lv_if_eq (tgt := 36) hx hb dX8_sheet_8 (by decide) (fun hc2 => ?_) (fun hc2 => ?_)
    · replace hF := hF.trans (if_pos hc2)
      exact K36 _ _ _ hF hP hD hS (lv_sub hl [0, 1, 2, 3] rfl)
    · replace hF := hF.trans (if_neg hc2)
      refine lv_iload_n hx hb dX8_sheet_11 rfl (lv_at hl 2 rfl) ?_
      refine lv_bipush (v := 8) hx hb dX8_sheet_12 (by decide) ?_
      refine lv_icmp_eq (tgt := 36) hx hb dX8_sheet_14 (by decide) (fun hc3 => ?_) (fun hc3 => ?_)
      · replace hF := hF.trans (if_pos hc3)
        exact K36 _ _ _ hF hP hD hS (lv_sub hl [0, 1, 2, 3] rfl)
      · replace hF := hF.trans (if_neg hc3)
        refine lv_iload_n hx hb dX8_sheet_17 rfl (lv_at hl 2 rfl) ?_
        refine lv_bipush (v := 16) hx hb dX8_sheet_18 (by decide) ?_
        refine lv_icmp_eq (tgt := 36) hx hb dX8_sheet_20 (by decide) (fun hc4 => ?_) (fun hc4 => ?_)
        · replace hF := hF.trans (if_pos hc4)
          exact K36 _ _ _ hF hP hD hS (lv_sub hl [0, 1, 2, 3] rfl)
        · replace hF := hF.trans (if_neg hc4)
          refine lv_iload_n hx hb dX8_sheet_23 rfl (lv_at hl 2 rfl) ?_
          refine lv_bipush (v := 32) hx hb dX8_sheet_24 (by decide) ?_
          refine lv_icmp_eq (tgt := 36) hx hb dX8_sheet_26 (by decide) (fun hc5 => ?_) (fun hc5 => ?_)
          · replace hF := hF.trans (if_pos hc5)
            exact K36 _ _ _ hF hP hD hS (lv_sub hl [0, 1, 2, 3] rfl)
          · replace hF := hF.trans (if_neg hc5)
            refine lv_aload_n hx hb dX8_sheet_29 rfl (lv_at hl 0 rfl) ?_
            refine lv_ldc (v := (-1000001)) hx hb hown (hts _ kX8_sheet_0) dX8_sheet_30 ?_
            refine yk_i [0] (va_runV (As := [.int (-1000001)]) (rest := []) ⟨hx, hb, hml, hown, hts⟩ (c_X8_found l D cy ta m_now m_undone m_slots m_slotKind m_hasSlot m_sheetBits m_sheetSize m_sheets m_fresh m_rootWhich m_signs m_atNought m_change m_table m_carried u fi aa bb dd ro db mn (-1000001) H.size) (cwV 1 hts gX8_sheet_X8_found rfl rfl rfl hv_X8_found (yk_room hRf hRl rfl rfl)) (yk_pv (q := (RX8, TX8, 23)) hG hA hS hK hP hD [0] (by decide +kernel) rfl rfl rfl) rfl rfl hl.1 rfl (lv_room (Nat.le_of_ble_eq_true rfl)) dX8_sheet_32 ⟨Nat.zero_le _, Nat.zero_le _⟩) hP hD hS hA rfl (Eq.trans (b := [ta]) rfl rfl) (fun H locs hP9 hD9 hS9 => ?_)
            replace hP : va_P D vwCl [(ta, .inr (8, [.ref m_now, .ref m_undone, .ref m_slots, .ref m_slotKind, .ref m_hasSlot, .ref m_sheetBits, .ref m_sheetSize, .ref m_sheets, .int (nI u), .int ((f_X8_found fi (-1000001)).2), .ref m_fresh, .long aa, .long bb, .long dd, .int (nI ro), .ref m_rootWhich, .int db, .ref m_signs, .ref m_atNought, .int (nI mn), .ref m_change, .ref m_table, .ref m_carried])), (m_sheetBits, .inl (cy 0, 4, .inl sb)), (m_sheetSize, .inl (cy 0, 4, .inl ss)), (m_sheets, .inl (cy 0, 64, .inl sh))] H := hP9
            replace hD : va_D A [(ta, .inr (8, [.ref m_now, .ref m_undone, .ref m_slots, .ref m_slotKind, .ref m_hasSlot, .ref m_sheetBits, .ref m_sheetSize, .ref m_sheets, .int (nI u), .int ((f_X8_found fi (-1000001)).2), .ref m_fresh, .long aa, .long bb, .long dd, .int (nI ro), .ref m_rootWhich, .int db, .ref m_signs, .ref m_atNought, .int (nI mn), .ref m_change, .ref m_table, .ref m_carried])), (m_sheetBits, .inl (cy 0, 4, .inl sb)), (m_sheetSize, .inl (cy 0, 4, .inl ss)), (m_sheets, .inl (cy 0, 64, .inl sh))] := hD9
            replace hS := hS9
            clear hP9 hD9 hS9
            have hF : f_X8_sheet sb ss sh fi px pb pn = (((f_X8_found fi (-1000001)).1), ((f_X8_found fi (-1000001)).2), sb, ss, sh) := hF
            have hf0 := yk_fst hF
            have hg0 := yk_snd hF
            have hf1 := yk_fst hg0
            have hg1 := yk_snd hg0
            have hf2 := yk_fst hg1
            have hg2 := yk_snd hg1
            have hf3 := yk_fst hg2
            have hg3 := yk_snd hg2
            rw [hf0, hf1, hf2, hf3, hg3] at hQ
            exact hQ _ _ _ _ dX8_sheet_35 hP hS

theorem kX8_write_0 : Cond.fieldLink RX8 26 "FlowPlaneModel" "sheetBits" "[I" ∈ wsX8_write := by decide +kernel
theorem kX8_write_1 : Cond.fieldLink RX8 29 "FlowPlaneModel" "sheetSize" "[I" ∈ wsX8_write := by decide +kernel
theorem kX8_write_2 : Cond.fieldLink RX8 32 "FlowPlaneModel" "sheets" "[I" ∈ wsX8_write := by decide +kernel
theorem kX8_write_3 : Cond.constant RX8 68 (-1000001) ∈ wsX8_write := by decide +kernel
theorem kX8_write_4 : Cond.constant RX8 245 (-1000002) ∈ wsX8_write := by decide +kernel
theorem uX8_write_X8 : ∀ w ∈ u_ws RX8 TX8 23, w ∈ wsX8_write := by decide +kernel
def f_X8_write (sb : Nat → Int32) (ss : Nat → Int32) (sh : Nat → Int32) (fi : Int32) (px : Int32) (pm : Int32) (pv : Int32) : Int32 × Int32 × (Nat → Int32) := (if (f_X8_isSlot px) = 0 then (((f_X8_found fi (-1000001)).1), ((f_X8_found fi (-1000001)).2), sh) else (if (sb px.toNatClampNeg) = 0 then (((f_X8_found fi (-1000002)).1), ((f_X8_found fi (-1000002)).2), sh) else (if (f_X8_in pm 0 ((ss px.toNatClampNeg) - 1)) = 0 then (((f_X8_found fi (-1000001)).1), ((f_X8_found fi (-1000001)).2), sh) else (0, fi, (upd sh ((16 * px.toNatClampNeg) + pm.toNatClampNeg) (if (sb px.toNatClampNeg) = 8 then (pv).toInt8.toInt32 else (if (sb px.toNatClampNeg) = 16 then (pv).toInt16.toInt32 else pv)))))))
set_option maxHeartbeats 400000000 in
set_option maxRecDepth 100000 in
theorem c_X8_write (l : Launch) (D : va_G) (cy : Nat → ClassId) (ta : Nat) (m_sheetBits : Nat) (m_sheetSize : Nat) (m_sheets : Nat) (m_now : Nat) (m_undone : Nat) (m_slots : Nat) (m_slotKind : Nat) (m_hasSlot : Nat) (m_fresh : Nat) (m_rootWhich : Nat) (m_signs : Nat) (m_atNought : Nat) (m_change : Nat) (m_table : Nat) (m_carried : Nat) (sb : Nat → Int32) (ss : Nat → Int32) (sh : Nat → Int32) (u : Nat) (fi : Int32) (aa : Int64) (bb : Int64) (dd : Int64) (ro : Nat) (db : Int32) (mn : Nat) (px : Int32) (pm : Int32) (pv : Int32) (hss : ∀ j : Nat, j < 4 → ∃ m : Nat, ss j = nI m ∧ m ≤ 16) : yk_Ci l D vwCl (yk_ty cy) yX8_write wsX8_write 2 42 [.ref ta, .int px, .int pm, .int pv] [(ta, .inr (8, [.ref m_now, .ref m_undone, .ref m_slots, .ref m_slotKind, .ref m_hasSlot, .ref m_sheetBits, .ref m_sheetSize, .ref m_sheets, .int (nI u), .int fi, .ref m_fresh, .long aa, .long bb, .long dd, .int (nI ro), .ref m_rootWhich, .int db, .ref m_signs, .ref m_atNought, .int (nI mn), .ref m_change, .ref m_table, .ref m_carried])), (m_sheetBits, .inl (cy 0, 4, .inl sb)), (m_sheetSize, .inl (cy 0, 4, .inl ss)), (m_sheets, .inl (cy 0, 64, .inl sh))] ((f_X8_write sb ss sh fi px pm pv).1) [(ta, .inr (8, [.ref m_now, .ref m_undone, .ref m_slots, .ref m_slotKind, .ref m_hasSlot, .ref m_sheetBits, .ref m_sheetSize, .ref m_sheets, .int (nI u), .int ((f_X8_write sb ss sh fi px pm pv).2.1), .ref m_fresh, .long aa, .long bb, .long dd, .int (nI ro), .ref m_rootWhich, .int db, .ref m_signs, .ref m_atNought, .int (nI mn), .ref m_change, .ref m_table, .ref m_carried])), (m_sheetBits, .inl (cy 0, 4, .inl sb)), (m_sheetSize, .inl (cy 0, 4, .inl ss)), (m_sheets, .inl (cy 0, 64, .inl ((f_X8_write sb ss sh fi px pm pv).2.2)))] := by
  refine yk_eI (cc := cX8_write) (maxL := 4) (by decide) rfl (Nat.le_of_ble_eq_true rfl) rfl ?_
  intro p e R s m args below meth c A Q ls H locs hx hb hml hown hts hRf hRl hA hK hG hP hD hS hl hQ
  have hP : va_P D vwCl [(ta, .inr (8, [.ref m_now, .ref m_undone, .ref m_slots, .ref m_slotKind, .ref m_hasSlot, .ref m_sheetBits, .ref m_sheetSize, .ref m_sheets, .int (nI u), .int fi, .ref m_fresh, .long aa, .long bb, .long dd, .int (nI ro), .ref m_rootWhich, .int db, .ref m_signs, .ref m_atNought, .int (nI mn), .ref m_change, .ref m_table, .ref m_carried])), (m_sheetBits, .inl (cy 0, 4, .inl sb)), (m_sheetSize, .inl (cy 0, 4, .inl ss)), (m_sheets, .inl (cy 0, 64, .inl sh))] H := hP
  have hl : lv_has ls 4 [(0, .ref ta), (1, .int px), (2, .int pm), (3, .int pv)] := hl
  have hown : s.vm.findClass RX8 = some m.cls := hown
  have hF : (f_X8_write sb ss sh fi px pm pv) = (f_X8_write sb ss sh fi px pm pv) := rfl
  refine lv_iload_n hx hb dX8_write_0 rfl (lv_at hl 1 rfl) ?_
  refine yk_i [] (va_runS (As := [.int px]) (rest := []) ⟨hx, hb, hml, hown, hts⟩ (c_X8_isSlot l D cy px H.size) (va_cwS 1 hts gX8_write_X8_isSlot rfl rfl rfl hs_X8_isSlot (yk_room hRf hRl rfl rfl)) (yk_ps hG hA hS hK hP hD [] (by decide +kernel) rfl) rfl rfl hl.1 rfl (lv_room (Nat.le_of_ble_eq_true rfl)) dX8_write_1 ⟨Nat.zero_le _, Nat.zero_le _⟩) hP hD hS hA rfl rfl (fun H locs hP9 hD9 hS9 => ?_)
  replace hP : va_P D vwCl [(ta, .inr (8, [.ref m_now, .ref m_undone, .ref m_slots, .ref m_slotKind, .ref m_hasSlot, .ref m_sheetBits, .ref m_sheetSize, .ref m_sheets, .int (nI u), .int fi, .ref m_fresh, .long aa, .long bb, .long dd, .int (nI ro), .ref m_rootWhich, .int db, .ref m_signs, .ref m_atNought, .int (nI mn), .ref m_change, .ref m_table, .ref m_carried])), (m_sheetBits, .inl (cy 0, 4, .inl sb)), (m_sheetSize, .inl (cy 0, 4, .inl ss)), (m_sheets, .inl (cy 0, 64, .inl sh))] H := hP9
  replace hD : va_D A [(ta, .inr (8, [.ref m_now, .ref m_undone, .ref m_slots, .ref m_slotKind, .ref m_hasSlot, .ref m_sheetBits, .ref m_sheetSize, .ref m_sheets, .int (nI u), .int fi, .ref m_fresh, .long aa, .long bb, .long dd, .int (nI ro), .ref m_rootWhich, .int db, .ref m_signs, .ref m_atNought, .int (nI mn), .ref m_change, .ref m_table, .ref m_carried])), (m_sheetBits, .inl (cy 0, 4, .inl sb)), (m_sheetSize, .inl (cy 0, 4, .inl ss)), (m_sheets, .inl (cy 0, 64, .inl sh))] := hD9
  replace hS := hS9
  clear hP9 hD9 hS9
  refine lv_if_ne (tgt := 14) hx hb dX8_write_4 (by decide) (fun hc1 => ?_) (fun hc1 => ?_)
  · replace hF := hF.trans (if_neg hc1)
    have hq2 : px = nI px.toNatClampNeg := (ix_sl (by assumption)).1
    have hq2b : px.toNatClampNeg < 4 := (ix_sl (by assumption)).2
    rw [hq2] at hl
    refine lv_aload_n hx hb dX8_write_14 rfl (lv_at hl 0 rfl) ?_
    refine va_get (D := D) (ci := 8) (v := .ref m_sheetBits) (C := RX8) (T := TX8) (N := 23) hx hb hts uX8_write_X8 hown hK hP 0 rfl rfl 5 (by decide) (hts _ kX8_write_0) (fun _ h9 => h9) rfl dX8_write_15 ?_
    refine lv_iload_n hx hb dX8_write_18 rfl (lv_at hl 1 rfl) ?_
    refine yk_ild hx hb hK hP 1 0 rfl rfl px.toNatClampNeg (by omega) (by decide) dX8_write_19 ?_
    refine lv_if_ne (tgt := 30) hx hb dX8_write_20 (by decide) (fun hc3 => ?_) (fun hc3 => ?_)
    · replace hF := hF.trans (if_neg hc3)
      refine lv_iload_n hx hb dX8_write_30 rfl (lv_at hl 2 rfl) ?_
      refine lv_iconst (v := 0) hx hb dX8_write_31 (by decide) ?_
      refine lv_aload_n hx hb dX8_write_32 rfl (lv_at hl 0 rfl) ?_
      refine va_get (D := D) (ci := 8) (v := .ref m_sheetSize) (C := RX8) (T := TX8) (N := 23) hx hb hts uX8_write_X8 hown hK hP 0 rfl rfl 6 (by decide) (hts _ kX8_write_1) (fun _ h9 => h9) rfl dX8_write_33 ?_
      refine lv_iload_n hx hb dX8_write_36 rfl (lv_at hl 1 rfl) ?_
      refine yk_ild hx hb hK hP 2 0 rfl rfl px.toNatClampNeg (by omega) (by decide) dX8_write_37 ?_
      refine lv_iconst (v := 1) hx hb dX8_write_38 (by decide) ?_
      refine lv_isub hx hb dX8_write_39 ?_
      refine yk_i [] (va_runS (As := [.int pm, .int 0, .int ((ss px.toNatClampNeg) - 1)]) (rest := []) ⟨hx, hb, hml, hown, hts⟩ (c_X8_in l D cy pm 0 ((ss px.toNatClampNeg) - 1) H.size) (va_cwS 3 hts gX8_write_X8_in rfl rfl rfl hs_X8_in (yk_room hRf hRl rfl rfl)) (yk_ps hG hA hS hK hP hD [] (by decide +kernel) rfl) rfl rfl hl.1 rfl (lv_room (Nat.le_of_ble_eq_true rfl)) dX8_write_40 ⟨Nat.zero_le _, Nat.zero_le _⟩) hP hD hS hA rfl rfl (fun H locs hP9 hD9 hS9 => ?_)
      replace hP : va_P D vwCl [(ta, .inr (8, [.ref m_now, .ref m_undone, .ref m_slots, .ref m_slotKind, .ref m_hasSlot, .ref m_sheetBits, .ref m_sheetSize, .ref m_sheets, .int (nI u), .int fi, .ref m_fresh, .long aa, .long bb, .long dd, .int (nI ro), .ref m_rootWhich, .int db, .ref m_signs, .ref m_atNought, .int (nI mn), .ref m_change, .ref m_table, .ref m_carried])), (m_sheetBits, .inl (cy 0, 4, .inl sb)), (m_sheetSize, .inl (cy 0, 4, .inl ss)), (m_sheets, .inl (cy 0, 64, .inl sh))] H := hP9
      replace hD : va_D A [(ta, .inr (8, [.ref m_now, .ref m_undone, .ref m_slots, .ref m_slotKind, .ref m_hasSlot, .ref m_sheetBits, .ref m_sheetSize, .ref m_sheets, .int (nI u), .int fi, .ref m_fresh, .long aa, .long bb, .long dd, .int (nI ro), .ref m_rootWhich, .int db, .ref m_signs, .ref m_atNought, .int (nI mn), .ref m_change, .ref m_table, .ref m_carried])), (m_sheetBits, .inl (cy 0, 4, .inl sb)), (m_sheetSize, .inl (cy 0, 4, .inl ss)), (m_sheets, .inl (cy 0, 64, .inl sh))] := hD9
      replace hS := hS9
      clear hP9 hD9 hS9
      refine lv_if_ne (tgt := 53) hx hb dX8_write_43 (by decide) (fun hc4 => ?_) (fun hc4 => ?_)
      · replace hF := hF.trans (if_neg hc4)
        have hq8 := ix_ss (hss _ (ix_sl (by assumption)).2) (by assumption)
        have hq5 : pm = nI pm.toNatClampNeg := hq8.1
        have hq5b : pm.toNatClampNeg < 16 := hq8.2
        rw [hq5] at hl
        refine lv_aload_n hx hb dX8_write_53 rfl (lv_at hl 0 rfl) ?_
        refine va_get (D := D) (ci := 8) (v := .ref m_sheets) (C := RX8) (T := TX8) (N := 23) hx hb hts uX8_write_X8 hown hK hP 0 rfl rfl 7 (by decide) (hts _ kX8_write_2) (fun _ h9 => h9) rfl dX8_write_54 ?_
        refine lv_bipush (v := 16) hx hb dX8_write_57 (by decide) ?_
        refine lv_iload_n hx hb dX8_write_59 rfl (lv_at hl 1 rfl) ?_
        refine lv_imul hx hb dX8_write_60 ?_
        refine yk_ti (y := nI (16 * px.toNatClampNeg)) (pk_mul 16 px.toNatClampNeg) ?_
        refine lv_iload_n hx hb dX8_write_61 rfl (lv_at hl 2 rfl) ?_
        refine lv_iadd hx hb dX8_write_62 ?_
        refine yk_ti (y := nI ((16 * px.toNatClampNeg) + pm.toNatClampNeg)) (nI_add (16 * px.toNatClampNeg) pm.toNatClampNeg) ?_
        refine lv_aload_n hx hb dX8_write_63 rfl (lv_at hl 0 rfl) ?_
        refine va_get (D := D) (ci := 8) (v := .ref m_sheetBits) (C := RX8) (T := TX8) (N := 23) hx hb hts uX8_write_X8 hown hK hP 0 rfl rfl 5 (by decide) (hts _ kX8_write_0) (fun _ h9 => h9) rfl dX8_write_64 ?_
        refine lv_iload_n hx hb dX8_write_67 rfl (lv_at hl 1 rfl) ?_
        refine yk_ild hx hb hK hP 1 0 rfl rfl px.toNatClampNeg (by omega) (by decide) dX8_write_68 ?_
        refine lv_bipush (v := 8) hx hb dX8_write_69 (by decide) ?_
        have J9 : ∀ (v8 : Int32) (H : Heap) (locs : List Loc) (ls : Array Slot), v8 = (if (sb px.toNatClampNeg) = 8 then (pv).toInt8.toInt32 else (if (sb px.toNatClampNeg) = 16 then (pv).toInt16.toInt32 else pv)) → va_P D vwCl [(ta, .inr (8, [.ref m_now, .ref m_undone, .ref m_slots, .ref m_slotKind, .ref m_hasSlot, .ref m_sheetBits, .ref m_sheetSize, .ref m_sheets, .int (nI u), .int fi, .ref m_fresh, .long aa, .long bb, .long dd, .int (nI ro), .ref m_rootWhich, .int db, .ref m_signs, .ref m_atNought, .int (nI mn), .ref m_change, .ref m_table, .ref m_carried])), (m_sheetBits, .inl (cy 0, 4, .inl sb)), (m_sheetSize, .inl (cy 0, 4, .inl ss)), (m_sheets, .inl (cy 0, 64, .inl sh))] H → va_D A [(ta, .inr (8, [.ref m_now, .ref m_undone, .ref m_slots, .ref m_slotKind, .ref m_hasSlot, .ref m_sheetBits, .ref m_sheetSize, .ref m_sheets, .int (nI u), .int fi, .ref m_fresh, .long aa, .long bb, .long dd, .int (nI ro), .ref m_rootWhich, .int db, .ref m_signs, .ref m_atNought, .int (nI mn), .ref m_change, .ref m_table, .ref m_carried])), (m_sheetBits, .inl (cy 0, 4, .inl sb)), (m_sheetSize, .inl (cy 0, 4, .inl ss)), (m_sheets, .inl (cy 0, 64, .inl sh))] → va_S A s.heap H locs → lv_has ls 4 [(0, .ref ta), (1, .int (nI px.toNatClampNeg)), (2, .int (nI pm.toNatClampNeg)), (3, .int pv)] → W p l e R s m args below meth c H locs 0 0 Q (F0 m 96 ls [.int v8, .int (nI ((16 * px.toNatClampNeg) + pm.toNatClampNeg)), .ref m_sheets]) := by
          clear hP hD hS hl
          intro v8 H locs ls ev8
          rw [ev8]
          clear ev8
          intro hP hD hS hl
          refine yk_ist hx hb hK hP hD hS 3 0 rfl rfl ((16 * px.toNatClampNeg) + pm.toNatClampNeg) (by omega) (by decide) dX8_write_96 (fun H locs hP9 hD9 hS9 => ?_)
          replace hP : va_P D vwCl [(ta, .inr (8, [.ref m_now, .ref m_undone, .ref m_slots, .ref m_slotKind, .ref m_hasSlot, .ref m_sheetBits, .ref m_sheetSize, .ref m_sheets, .int (nI u), .int fi, .ref m_fresh, .long aa, .long bb, .long dd, .int (nI ro), .ref m_rootWhich, .int db, .ref m_signs, .ref m_atNought, .int (nI mn), .ref m_change, .ref m_table, .ref m_carried])), (m_sheetBits, .inl (cy 0, 4, .inl sb)), (m_sheetSize, .inl (cy 0, 4, .inl ss)), (m_sheets, .inl (cy 0, 64, .inl (upd sh ((16 * px.toNatClampNeg) + pm.toNatClampNeg) (if (sb px.toNatClampNeg) = 8 then (pv).toInt8.toInt32 else (if (sb px.toNatClampNeg) = 16 then (pv).toInt16.toInt32 else pv)))))] H := hP9
          replace hD : va_D A [(ta, .inr (8, [.ref m_now, .ref m_undone, .ref m_slots, .ref m_slotKind, .ref m_hasSlot, .ref m_sheetBits, .ref m_sheetSize, .ref m_sheets, .int (nI u), .int fi, .ref m_fresh, .long aa, .long bb, .long dd, .int (nI ro), .ref m_rootWhich, .int db, .ref m_signs, .ref m_atNought, .int (nI mn), .ref m_change, .ref m_table, .ref m_carried])), (m_sheetBits, .inl (cy 0, 4, .inl sb)), (m_sheetSize, .inl (cy 0, 4, .inl ss)), (m_sheets, .inl (cy 0, 64, .inl (upd sh ((16 * px.toNatClampNeg) + pm.toNatClampNeg) (if (sb px.toNatClampNeg) = 8 then (pv).toInt8.toInt32 else (if (sb px.toNatClampNeg) = 16 then (pv).toInt16.toInt32 else pv)))))] := hD9
          replace hS := hS9
          clear hP9 hD9 hS9
          refine lv_iconst (v := 0) hx hb dX8_write_97 (by decide) ?_
          have hF : f_X8_write sb ss sh fi px pm pv = (0, fi, (upd sh ((16 * px.toNatClampNeg) + pm.toNatClampNeg) (if (sb px.toNatClampNeg) = 8 then (pv).toInt8.toInt32 else (if (sb px.toNatClampNeg) = 16 then (pv).toInt16.toInt32 else pv)))) := hF
          have hf0 := yk_fst hF
          have hg0 := yk_snd hF
          have hf1 := yk_fst hg0
          have hg1 := yk_snd hg0
          rw [hf0, hf1, hg1] at hQ
          exact hQ _ _ _ _ dX8_write_98 hP hS
        refine lv_icmp_ne (tgt := 79) hx hb dX8_write_71 (by decide) (fun hc6 => ?_) (fun hc6 => ?_)
        · refine lv_aload_n hx hb dX8_write_79 rfl (lv_at hl 0 rfl) ?_
          refine va_get (D := D) (ci := 8) (v := .ref m_sheetBits) (C := RX8) (T := TX8) (N := 23) hx hb hts uX8_write_X8 hown hK hP 0 rfl rfl 5 (by decide) (hts _ kX8_write_0) (fun _ h9 => h9) rfl dX8_write_80 ?_
          refine lv_iload_n hx hb dX8_write_83 rfl (lv_at hl 1 rfl) ?_
          refine yk_ild hx hb hK hP 1 0 rfl rfl px.toNatClampNeg (by omega) (by decide) dX8_write_84 ?_
          refine lv_bipush (v := 16) hx hb dX8_write_85 (by decide) ?_
          refine lv_icmp_ne (tgt := 95) hx hb dX8_write_87 (by decide) (fun hc7 => ?_) (fun hc7 => ?_)
          · refine lv_iload_n hx hb dX8_write_95 rfl (lv_at hl 3 rfl) ?_
            exact J9 _ _ _ _ (((if_neg hc6).trans (if_neg hc7)).symm) hP hD hS (lv_sub hl [0, 1, 2, 3] rfl)
          · refine lv_iload_n hx hb dX8_write_90 rfl (lv_at hl 3 rfl) ?_
            refine lv_i2s hx hb dX8_write_91 rfl ?_
            refine lv_goto (tgt := 96) hx hb dX8_write_92 (by decide) ?_
            exact J9 _ _ _ _ (((if_neg hc6).trans (if_pos hc7)).symm) hP hD hS (lv_sub hl [0, 1, 2, 3] rfl)
        · refine lv_iload_n hx hb dX8_write_74 rfl (lv_at hl 3 rfl) ?_
          refine lv_i2b hx hb dX8_write_75 rfl ?_
          refine lv_goto (tgt := 96) hx hb dX8_write_76 (by decide) ?_
          exact J9 _ _ _ _ ((if_pos hc6).symm) hP hD hS (lv_sub hl [0, 1, 2, 3] rfl)
      · replace hF := hF.trans (if_pos hc4)
        refine lv_aload_n hx hb dX8_write_46 rfl (lv_at hl 0 rfl) ?_
        refine lv_ldc (v := (-1000001)) hx hb hown (hts _ kX8_write_3) dX8_write_47 ?_
        refine yk_i [0] (va_runV (As := [.int (-1000001)]) (rest := []) ⟨hx, hb, hml, hown, hts⟩ (c_X8_found l D cy ta m_now m_undone m_slots m_slotKind m_hasSlot m_sheetBits m_sheetSize m_sheets m_fresh m_rootWhich m_signs m_atNought m_change m_table m_carried u fi aa bb dd ro db mn (-1000001) H.size) (cwV 1 hts gX8_write_X8_found rfl rfl rfl hv_X8_found (yk_room hRf hRl rfl rfl)) (yk_pv (q := (RX8, TX8, 23)) hG hA hS hK hP hD [0] (by decide +kernel) rfl rfl rfl) rfl rfl hl.1 rfl (lv_room (Nat.le_of_ble_eq_true rfl)) dX8_write_49 ⟨Nat.zero_le _, Nat.zero_le _⟩) hP hD hS hA rfl (Eq.trans (b := [ta]) rfl rfl) (fun H locs hP9 hD9 hS9 => ?_)
        replace hP : va_P D vwCl [(ta, .inr (8, [.ref m_now, .ref m_undone, .ref m_slots, .ref m_slotKind, .ref m_hasSlot, .ref m_sheetBits, .ref m_sheetSize, .ref m_sheets, .int (nI u), .int ((f_X8_found fi (-1000001)).2), .ref m_fresh, .long aa, .long bb, .long dd, .int (nI ro), .ref m_rootWhich, .int db, .ref m_signs, .ref m_atNought, .int (nI mn), .ref m_change, .ref m_table, .ref m_carried])), (m_sheetBits, .inl (cy 0, 4, .inl sb)), (m_sheetSize, .inl (cy 0, 4, .inl ss)), (m_sheets, .inl (cy 0, 64, .inl sh))] H := hP9
        replace hD : va_D A [(ta, .inr (8, [.ref m_now, .ref m_undone, .ref m_slots, .ref m_slotKind, .ref m_hasSlot, .ref m_sheetBits, .ref m_sheetSize, .ref m_sheets, .int (nI u), .int ((f_X8_found fi (-1000001)).2), .ref m_fresh, .long aa, .long bb, .long dd, .int (nI ro), .ref m_rootWhich, .int db, .ref m_signs, .ref m_atNought, .int (nI mn), .ref m_change, .ref m_table, .ref m_carried])), (m_sheetBits, .inl (cy 0, 4, .inl sb)), (m_sheetSize, .inl (cy 0, 4, .inl ss)), (m_sheets, .inl (cy 0, 64, .inl sh))] := hD9
        replace hS := hS9
        clear hP9 hD9 hS9
        have hF : f_X8_write sb ss sh fi px pm pv = (((f_X8_found fi (-1000001)).1), ((f_X8_found fi (-1000001)).2), sh) := hF
        have hf0 := yk_fst hF
        have hg0 := yk_snd hF
        have hf1 := yk_fst hg0
        have hg1 := yk_snd hg0
        rw [hf0, hf1, hg1] at hQ
        exact hQ _ _ _ _ dX8_write_52 hP hS
    · replace hF := hF.trans (if_pos hc3)
      refine lv_aload_n hx hb dX8_write_23 rfl (lv_at hl 0 rfl) ?_
      refine lv_ldc (v := (-1000002)) hx hb hown (hts _ kX8_write_4) dX8_write_24 ?_
      refine yk_i [0] (va_runV (As := [.int (-1000002)]) (rest := []) ⟨hx, hb, hml, hown, hts⟩ (c_X8_found l D cy ta m_now m_undone m_slots m_slotKind m_hasSlot m_sheetBits m_sheetSize m_sheets m_fresh m_rootWhich m_signs m_atNought m_change m_table m_carried u fi aa bb dd ro db mn (-1000002) H.size) (cwV 1 hts gX8_write_X8_found rfl rfl rfl hv_X8_found (yk_room hRf hRl rfl rfl)) (yk_pv (q := (RX8, TX8, 23)) hG hA hS hK hP hD [0] (by decide +kernel) rfl rfl rfl) rfl rfl hl.1 rfl (lv_room (Nat.le_of_ble_eq_true rfl)) dX8_write_26 ⟨Nat.zero_le _, Nat.zero_le _⟩) hP hD hS hA rfl (Eq.trans (b := [ta]) rfl rfl) (fun H locs hP9 hD9 hS9 => ?_)
      replace hP : va_P D vwCl [(ta, .inr (8, [.ref m_now, .ref m_undone, .ref m_slots, .ref m_slotKind, .ref m_hasSlot, .ref m_sheetBits, .ref m_sheetSize, .ref m_sheets, .int (nI u), .int ((f_X8_found fi (-1000002)).2), .ref m_fresh, .long aa, .long bb, .long dd, .int (nI ro), .ref m_rootWhich, .int db, .ref m_signs, .ref m_atNought, .int (nI mn), .ref m_change, .ref m_table, .ref m_carried])), (m_sheetBits, .inl (cy 0, 4, .inl sb)), (m_sheetSize, .inl (cy 0, 4, .inl ss)), (m_sheets, .inl (cy 0, 64, .inl sh))] H := hP9
      replace hD : va_D A [(ta, .inr (8, [.ref m_now, .ref m_undone, .ref m_slots, .ref m_slotKind, .ref m_hasSlot, .ref m_sheetBits, .ref m_sheetSize, .ref m_sheets, .int (nI u), .int ((f_X8_found fi (-1000002)).2), .ref m_fresh, .long aa, .long bb, .long dd, .int (nI ro), .ref m_rootWhich, .int db, .ref m_signs, .ref m_atNought, .int (nI mn), .ref m_change, .ref m_table, .ref m_carried])), (m_sheetBits, .inl (cy 0, 4, .inl sb)), (m_sheetSize, .inl (cy 0, 4, .inl ss)), (m_sheets, .inl (cy 0, 64, .inl sh))] := hD9
      replace hS := hS9
      clear hP9 hD9 hS9
      have hF : f_X8_write sb ss sh fi px pm pv = (((f_X8_found fi (-1000002)).1), ((f_X8_found fi (-1000002)).2), sh) := hF
      have hf0 := yk_fst hF
      have hg0 := yk_snd hF
      have hf1 := yk_fst hg0
      have hg1 := yk_snd hg0
      rw [hf0, hf1, hg1] at hQ
      exact hQ _ _ _ _ dX8_write_29 hP hS
  · replace hF := hF.trans (if_pos hc1)
    refine lv_aload_n hx hb dX8_write_7 rfl (lv_at hl 0 rfl) ?_
    refine lv_ldc (v := (-1000001)) hx hb hown (hts _ kX8_write_3) dX8_write_8 ?_
    refine yk_i [0] (va_runV (As := [.int (-1000001)]) (rest := []) ⟨hx, hb, hml, hown, hts⟩ (c_X8_found l D cy ta m_now m_undone m_slots m_slotKind m_hasSlot m_sheetBits m_sheetSize m_sheets m_fresh m_rootWhich m_signs m_atNought m_change m_table m_carried u fi aa bb dd ro db mn (-1000001) H.size) (cwV 1 hts gX8_write_X8_found rfl rfl rfl hv_X8_found (yk_room hRf hRl rfl rfl)) (yk_pv (q := (RX8, TX8, 23)) hG hA hS hK hP hD [0] (by decide +kernel) rfl rfl rfl) rfl rfl hl.1 rfl (lv_room (Nat.le_of_ble_eq_true rfl)) dX8_write_10 ⟨Nat.zero_le _, Nat.zero_le _⟩) hP hD hS hA rfl (Eq.trans (b := [ta]) rfl rfl) (fun H locs hP9 hD9 hS9 => ?_)
    replace hP : va_P D vwCl [(ta, .inr (8, [.ref m_now, .ref m_undone, .ref m_slots, .ref m_slotKind, .ref m_hasSlot, .ref m_sheetBits, .ref m_sheetSize, .ref m_sheets, .int (nI u), .int ((f_X8_found fi (-1000001)).2), .ref m_fresh, .long aa, .long bb, .long dd, .int (nI ro), .ref m_rootWhich, .int db, .ref m_signs, .ref m_atNought, .int (nI mn), .ref m_change, .ref m_table, .ref m_carried])), (m_sheetBits, .inl (cy 0, 4, .inl sb)), (m_sheetSize, .inl (cy 0, 4, .inl ss)), (m_sheets, .inl (cy 0, 64, .inl sh))] H := hP9
    replace hD : va_D A [(ta, .inr (8, [.ref m_now, .ref m_undone, .ref m_slots, .ref m_slotKind, .ref m_hasSlot, .ref m_sheetBits, .ref m_sheetSize, .ref m_sheets, .int (nI u), .int ((f_X8_found fi (-1000001)).2), .ref m_fresh, .long aa, .long bb, .long dd, .int (nI ro), .ref m_rootWhich, .int db, .ref m_signs, .ref m_atNought, .int (nI mn), .ref m_change, .ref m_table, .ref m_carried])), (m_sheetBits, .inl (cy 0, 4, .inl sb)), (m_sheetSize, .inl (cy 0, 4, .inl ss)), (m_sheets, .inl (cy 0, 64, .inl sh))] := hD9
    replace hS := hS9
    clear hP9 hD9 hS9
    have hF : f_X8_write sb ss sh fi px pm pv = (((f_X8_found fi (-1000001)).1), ((f_X8_found fi (-1000001)).2), sh) := hF
    have hf0 := yk_fst hF
    have hg0 := yk_snd hF
    have hf1 := yk_fst hg0
    have hg1 := yk_snd hg0
    rw [hf0, hf1, hg1] at hQ
    exact hQ _ _ _ _ dX8_write_13 hP hS
