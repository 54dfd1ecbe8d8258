
theorem kX8_copy_0 : Cond.constant RX8 68 (-1000001) ∈ wsX8_copy := by decide +kernel
theorem kX8_copy_1 : Cond.fieldLink RX8 26 "FlowPlaneModel" "sheetBits" "[I" ∈ wsX8_copy := by decide +kernel
theorem kX8_copy_2 : Cond.constant RX8 245 (-1000002) ∈ wsX8_copy := by decide +kernel
theorem kX8_copy_3 : Cond.fieldLink RX8 29 "FlowPlaneModel" "sheetSize" "[I" ∈ wsX8_copy := by decide +kernel
theorem kX8_copy_4 : Cond.fieldLink RX8 54 "FlowPlaneModel" "carried" "[I" ∈ wsX8_copy := by decide +kernel
theorem kX8_copy_5 : Cond.fieldLink RX8 32 "FlowPlaneModel" "sheets" "[I" ∈ wsX8_copy := by decide +kernel
theorem kX8_copy_6 : Cond.constant RX8 138 (-1000004) ∈ wsX8_copy := by decide +kernel
theorem uX8_copy_X8 : ∀ w ∈ u_ws RX8 TX8 23, w ∈ wsX8_copy := by decide +kernel
def l_X8_copy_127 (sb : Nat → Int32) (ss : Nat → Int32) (sh : Nat → Int32) (fi : Int32) (cr : Nat → Int32) (px : Int32) (pf : Int32) (py : Int32) (po : Int32) (pn : Int32) : Nat → Nat → (Nat → Int32) → (Nat → Int32)
  | 0, ki, zcarried_127 => zcarried_127
  | fu_X8_copy_127 + 1, ki, zcarried_127 => (if (nI pn.toNatClampNeg) ≤ (nI ki) then zcarried_127 else (l_X8_copy_127 sb ss sh fi cr px pf py po pn fu_X8_copy_127 (ki + 1) (upd zcarried_127 ki (sh (((16 * px.toNatClampNeg) + pf.toNatClampNeg) + ki)))))
def l_X8_copy_164 (sb : Nat → Int32) (ss : Nat → Int32) (sh : Nat → Int32) (fi : Int32) (cr : Nat → Int32) (px : Int32) (pf : Int32) (py : Int32) (po : Int32) (pn : Int32) : Nat → Nat → (Nat → Int32) → (Nat → Int32)
  | 0, kj, zsheets_164 => zsheets_164
  | fu_X8_copy_164 + 1, kj, zsheets_164 => (if (nI pn.toNatClampNeg) ≤ (nI kj) then zsheets_164 else (l_X8_copy_164 sb ss sh fi cr px pf py po pn fu_X8_copy_164 (kj + 1) (upd zsheets_164 (((16 * py.toNatClampNeg) + po.toNatClampNeg) + kj) ((l_X8_copy_127 sb ss sh fi cr px pf py po pn (pn.toNatClampNeg + 1) 0 cr) kj))))
def f_X8_copy (sb : Nat → Int32) (ss : Nat → Int32) (sh : Nat → Int32) (fi : Int32) (cr : Nat → Int32) (px : Int32) (pf : Int32) (py : Int32) (po : Int32) (pn : Int32) : Int32 × Int32 × (Nat → Int32) × (Nat → Int32) := (if (f_X8_isSlot px) = 0 then (((f_X8_found fi (-1000001)).1), ((f_X8_found fi (-1000001)).2), sh, cr) else (if (f_X8_isSlot py) = 0 then (((f_X8_found fi (-1000001)).1), ((f_X8_found fi (-1000001)).2), sh, cr) else (if (sb px.toNatClampNeg) = 0 then (((f_X8_found fi (-1000002)).1), ((f_X8_found fi (-1000002)).2), sh, cr) else (if (sb py.toNatClampNeg) = 0 then (((f_X8_found fi (-1000002)).1), ((f_X8_found fi (-1000002)).2), sh, cr) else (if (sb px.toNatClampNeg) = (sb py.toNatClampNeg) then (if pf < 0 then (((f_X8_found fi (-1000001)).1), ((f_X8_found fi (-1000001)).2), sh, cr) else (if po < 0 then (((f_X8_found fi (-1000001)).1), ((f_X8_found fi (-1000001)).2), sh, cr) else (if pn < 0 then (((f_X8_found fi (-1000001)).1), ((f_X8_found fi (-1000001)).2), sh, cr) else (if 0 < (lg_cmp (((pf).toInt64) + ((pn).toInt64)) (((ss px.toNatClampNeg)).toInt64)) then (((f_X8_found fi (-1000001)).1), ((f_X8_found fi (-1000001)).2), sh, cr) else (if (lg_cmp (((po).toInt64) + ((pn).toInt64)) (((ss py.toNatClampNeg)).toInt64)) ≤ 0 then ((nI pn.toNatClampNeg), fi, (l_X8_copy_164 sb ss sh fi cr px pf py po pn (pn.toNatClampNeg + 1) 0 sh), (l_X8_copy_127 sb ss sh fi cr px pf py po pn (pn.toNatClampNeg + 1) 0 cr)) else (((f_X8_found fi (-1000001)).1), ((f_X8_found fi (-1000001)).2), sh, cr)))))) else (((f_X8_found fi (-1000004)).1), ((f_X8_found fi (-1000004)).2), sh, cr))))))
set_option maxHeartbeats 400000000 in
set_option maxRecDepth 100000 in
theorem c_X8_copy (l : Launch) (D : va_G) (cy : Nat → ClassId) (ta : Nat) (m_sheetBits : Nat) (m_sheetSize : Nat) (m_sheets : Nat) (m_carried : Nat) (m_now : Nat) (m_undone : Nat) (m_slots : Nat) (m_slotKind : Nat) (m_hasSlot : Nat) (m_fresh : Nat) (m_rootWhich : Nat) (m_signs : Nat) (m_atNought : Nat) (m_change : Nat) (m_table : Nat) (sb : Nat → Int32) (ss : Nat → Int32) (sh : Nat → Int32) (u : Nat) (fi : Int32) (aa : Int64) (bb : Int64) (dd : Int64) (ro : Nat) (db : Int32) (mn : Nat) (cr : Nat → Int32) (px : Int32) (pf : Int32) (py : Int32) (po : Int32) (pn : Int32) (hss : ∀ j : Nat, j < 4 → ∃ m : Nat, ss j = nI m ∧ m ≤ 16) : yk_Ci l D vwCl (yk_ty cy) yX8_copy wsX8_copy 2 42 [.ref ta, .int px, .int pf, .int py, .int po, .int pn] [(ta, .inr (8, [.ref m_now, .ref m_undone, .ref m_slots, .ref m_slotKind, .ref m_hasSlot, .ref m_sheetBits, .ref m_sheetSize, .ref m_sheets, .int (nI u), .int fi, .ref m_fresh, .long aa, .long bb, .long dd, .int (nI ro), .ref m_rootWhich, .int db, .ref m_signs, .ref m_atNought, .int (nI mn), .ref m_change, .ref m_table, .ref m_carried])), (m_sheetBits, .inl (cy 0, 4, .inl sb)), (m_sheetSize, .inl (cy 0, 4, .inl ss)), (m_sheets, .inl (cy 0, 64, .inl sh)), (m_carried, .inl (cy 0, 16, .inl cr))] ((f_X8_copy sb ss sh fi cr px pf py po pn).1) [(ta, .inr (8, [.ref m_now, .ref m_undone, .ref m_slots, .ref m_slotKind, .ref m_hasSlot, .ref m_sheetBits, .ref m_sheetSize, .ref m_sheets, .int (nI u), .int ((f_X8_copy sb ss sh fi cr px pf py po pn).2.1), .ref m_fresh, .long aa, .long bb, .long dd, .int (nI ro), .ref m_rootWhich, .int db, .ref m_signs, .ref m_atNought, .int (nI mn), .ref m_change, .ref m_table, .ref m_carried])), (m_sheetBits, .inl (cy 0, 4, .inl sb)), (m_sheetSize, .inl (cy 0, 4, .inl ss)), (m_sheets, .inl (cy 0, 64, .inl ((f_X8_copy sb ss sh fi cr px pf py po pn).2.2.1))), (m_carried, .inl (cy 0, 16, .inl ((f_X8_copy sb ss sh fi cr px pf py po pn).2.2.2)))] := by
  refine yk_eI (cc := cX8_copy) (maxL := 7) (by decide) rfl (Nat.le_of_ble_eq_true rfl) rfl ?_
  intro p e R s m args below meth c A Q ls H locs hx hb hml hown hts hRf hRl hA hK hG hP hD hS hl hQ
  have hP : va_P D vwCl [(ta, .inr (8, [.ref m_now, .ref m_undone, .ref m_slots, .ref m_slotKind, .ref m_hasSlot, .ref m_sheetBits, .ref m_sheetSize, .ref m_sheets, .int (nI u), .int fi, .ref m_fresh, .long aa, .long bb, .long dd, .int (nI ro), .ref m_rootWhich, .int db, .ref m_signs, .ref m_atNought, .int (nI mn), .ref m_change, .ref m_table, .ref m_carried])), (m_sheetBits, .inl (cy 0, 4, .inl sb)), (m_sheetSize, .inl (cy 0, 4, .inl ss)), (m_sheets, .inl (cy 0, 64, .inl sh)), (m_carried, .inl (cy 0, 16, .inl cr))] H := hP
  have hl : lv_has ls 7 [(0, .ref ta), (1, .int px), (2, .int pf), (3, .int py), (4, .int po), (5, .int pn)] := hl
  have hown : s.vm.findClass RX8 = some m.cls := hown
  have hF : (f_X8_copy sb ss sh fi cr px pf py po pn) = (f_X8_copy sb ss sh fi cr px pf py po pn) := rfl
  refine lv_iload_n hx hb dX8_copy_0 rfl (lv_at hl 1 rfl) ?_
  refine yk_i [] (va_runS (As := [.int px]) (rest := []) ⟨hx, hb, hml, hown, hts⟩ (c_X8_isSlot l D cy px H.size) (va_cwS 1 hts gX8_copy_X8_isSlot rfl rfl rfl hs_X8_isSlot (yk_room hRf hRl rfl rfl)) (yk_ps hG hA hS hK hP hD [] (by decide +kernel) rfl) rfl rfl hl.1 rfl (lv_room (Nat.le_of_ble_eq_true rfl)) dX8_copy_1 ⟨Nat.zero_le _, Nat.zero_le _⟩) hP hD hS hA rfl rfl (fun H locs hP9 hD9 hS9 => ?_)
  replace hP : va_P D vwCl [(ta, .inr (8, [.ref m_now, .ref m_undone, .ref m_slots, .ref m_slotKind, .ref m_hasSlot, .ref m_sheetBits, .ref m_sheetSize, .ref m_sheets, .int (nI u), .int fi, .ref m_fresh, .long aa, .long bb, .long dd, .int (nI ro), .ref m_rootWhich, .int db, .ref m_signs, .ref m_atNought, .int (nI mn), .ref m_change, .ref m_table, .ref m_carried])), (m_sheetBits, .inl (cy 0, 4, .inl sb)), (m_sheetSize, .inl (cy 0, 4, .inl ss)), (m_sheets, .inl (cy 0, 64, .inl sh)), (m_carried, .inl (cy 0, 16, .inl cr))] H := hP9
  replace hD : va_D A [(ta, .inr (8, [.ref m_now, .ref m_undone, .ref m_slots, .ref m_slotKind, .ref m_hasSlot, .ref m_sheetBits, .ref m_sheetSize, .ref m_sheets, .int (nI u), .int fi, .ref m_fresh, .long aa, .long bb, .long dd, .int (nI ro), .ref m_rootWhich, .int db, .ref m_signs, .ref m_atNought, .int (nI mn), .ref m_change, .ref m_table, .ref m_carried])), (m_sheetBits, .inl (cy 0, 4, .inl sb)), (m_sheetSize, .inl (cy 0, 4, .inl ss)), (m_sheets, .inl (cy 0, 64, .inl sh)), (m_carried, .inl (cy 0, 16, .inl cr))] := hD9
  replace hS := hS9
  clear hP9 hD9 hS9
  refine lv_if_eq (tgt := 14) hx hb dX8_copy_4 (by decide) (fun hc1 => ?_) (fun hc1 => ?_)
  · replace hF := hF.trans (if_pos hc1)
    refine lv_aload_n hx hb dX8_copy_14 rfl (lv_at hl 0 rfl) ?_
    refine lv_ldc (v := (-1000001)) hx hb hown (hts _ kX8_copy_0) dX8_copy_15 ?_
    refine yk_i [0] (va_runV (As := [.int (-1000001)]) (rest := []) ⟨hx, hb, hml, hown, hts⟩ (c_X8_found l D cy ta m_now m_undone m_slots m_slotKind m_hasSlot m_sheetBits m_sheetSize m_sheets m_fresh m_rootWhich m_signs m_atNought m_change m_table m_carried u fi aa bb dd ro db mn (-1000001) H.size) (cwV 1 hts gX8_copy_X8_found rfl rfl rfl hv_X8_found (yk_room hRf hRl rfl rfl)) (yk_pv (q := (RX8, TX8, 23)) hG hA hS hK hP hD [0] (by decide +kernel) rfl rfl rfl) rfl rfl hl.1 rfl (lv_room (Nat.le_of_ble_eq_true rfl)) dX8_copy_17 ⟨Nat.zero_le _, Nat.zero_le _⟩) hP hD hS hA rfl (Eq.trans (b := [ta]) rfl rfl) (fun H locs hP9 hD9 hS9 => ?_)
    replace hP : va_P D vwCl [(ta, .inr (8, [.ref m_now, .ref m_undone, .ref m_slots, .ref m_slotKind, .ref m_hasSlot, .ref m_sheetBits, .ref m_sheetSize, .ref m_sheets, .int (nI u), .int ((f_X8_found fi (-1000001)).2), .ref m_fresh, .long aa, .long bb, .long dd, .int (nI ro), .ref m_rootWhich, .int db, .ref m_signs, .ref m_atNought, .int (nI mn), .ref m_change, .ref m_table, .ref m_carried])), (m_sheetBits, .inl (cy 0, 4, .inl sb)), (m_sheetSize, .inl (cy 0, 4, .inl ss)), (m_sheets, .inl (cy 0, 64, .inl sh)), (m_carried, .inl (cy 0, 16, .inl cr))] H := hP9
    replace hD : va_D A [(ta, .inr (8, [.ref m_now, .ref m_undone, .ref m_slots, .ref m_slotKind, .ref m_hasSlot, .ref m_sheetBits, .ref m_sheetSize, .ref m_sheets, .int (nI u), .int ((f_X8_found fi (-1000001)).2), .ref m_fresh, .long aa, .long bb, .long dd, .int (nI ro), .ref m_rootWhich, .int db, .ref m_signs, .ref m_atNought, .int (nI mn), .ref m_change, .ref m_table, .ref m_carried])), (m_sheetBits, .inl (cy 0, 4, .inl sb)), (m_sheetSize, .inl (cy 0, 4, .inl ss)), (m_sheets, .inl (cy 0, 64, .inl sh)), (m_carried, .inl (cy 0, 16, .inl cr))] := hD9
    replace hS := hS9
    clear hP9 hD9 hS9
    have hF : f_X8_copy sb ss sh fi cr px pf py po pn = (((f_X8_found fi (-1000001)).1), ((f_X8_found fi (-1000001)).2), sh, cr) := hF
    have hf0 := yk_fst hF
    have hg0 := yk_snd hF
    have hf1 := yk_fst hg0
    have hg1 := yk_snd hg0
    have hf2 := yk_fst hg1
    have hg2 := yk_snd hg1
    rw [hf0, hf1, hf2, hg2] at hQ
    exact hQ _ _ _ _ dX8_copy_20 hP hS
  · replace hF := hF.trans (if_neg hc1)
    refine lv_iload_n hx hb dX8_copy_7 rfl (lv_at hl 3 rfl) ?_
    refine yk_i [] (va_runS (As := [.int py]) (rest := []) ⟨hx, hb, hml, hown, hts⟩ (c_X8_isSlot l D cy py H.size) (va_cwS 1 hts gX8_copy_X8_isSlot rfl rfl rfl hs_X8_isSlot (yk_room hRf hRl rfl rfl)) (yk_ps hG hA hS hK hP hD [] (by decide +kernel) rfl) rfl rfl hl.1 rfl (lv_room (Nat.le_of_ble_eq_true rfl)) dX8_copy_8 ⟨Nat.zero_le _, Nat.zero_le _⟩) hP hD hS hA rfl rfl (fun H locs hP9 hD9 hS9 => ?_)
    replace hP : va_P D vwCl [(ta, .inr (8, [.ref m_now, .ref m_undone, .ref m_slots, .ref m_slotKind, .ref m_hasSlot, .ref m_sheetBits, .ref m_sheetSize, .ref m_sheets, .int (nI u), .int fi, .ref m_fresh, .long aa, .long bb, .long dd, .int (nI ro), .ref m_rootWhich, .int db, .ref m_signs, .ref m_atNought, .int (nI mn), .ref m_change, .ref m_table, .ref m_carried])), (m_sheetBits, .inl (cy 0, 4, .inl sb)), (m_sheetSize, .inl (cy 0, 4, .inl ss)), (m_sheets, .inl (cy 0, 64, .inl sh)), (m_carried, .inl (cy 0, 16, .inl cr))] H := hP9
    replace hD : va_D A [(ta, .inr (8, [.ref m_now, .ref m_undone, .ref m_slots, .ref m_slotKind, .ref m_hasSlot, .ref m_sheetBits, .ref m_sheetSize, .ref m_sheets, .int (nI u), .int fi, .ref m_fresh, .long aa, .long bb, .long dd, .int (nI ro), .ref m_rootWhich, .int db, .ref m_signs, .ref m_atNought, .int (nI mn), .ref m_change, .ref m_table, .ref m_carried])), (m_sheetBits, .inl (cy 0, 4, .inl sb)), (m_sheetSize, .inl (cy 0, 4, .inl ss)), (m_sheets, .inl (cy 0, 64, .inl sh)), (m_carried, .inl (cy 0, 16, .inl cr))] := hD9
    replace hS := hS9
    clear hP9 hD9 hS9
    refine lv_if_ne (tgt := 21) hx hb dX8_copy_11 (by decide) (fun hc2 => ?_) (fun hc2 => ?_)
    · replace hF := hF.trans (if_neg hc2)
      have hq3 : px = nI px.toNatClampNeg := (ix_sl (by assumption)).1
      have hq3b : px.toNatClampNeg < 4 := (ix_sl (by assumption)).2
      rw [hq3] at hl
      have hq4 : py = nI py.toNatClampNeg := (ix_sl (by assumption)).1
      have hq4b : py.toNatClampNeg < 4 := (ix_sl (by assumption)).2
      rw [hq4] at hl
      refine lv_aload_n hx hb dX8_copy_21 rfl (lv_at hl 0 rfl) ?_
      refine va_get (D := D) (ci := 8) (v := .ref m_sheetBits) (C := RX8) (T := TX8) (N := 23) hx hb hts uX8_copy_X8 hown hK hP 0 rfl rfl 5 (by decide) (hts _ kX8_copy_1) (fun _ h9 => h9) rfl dX8_copy_22 ?_
      refine lv_iload_n hx hb dX8_copy_25 rfl (lv_at hl 1 rfl) ?_
      refine yk_ild hx hb hK hP 1 0 rfl rfl px.toNatClampNeg (by omega) (by decide) dX8_copy_26 ?_
      refine lv_if_eq (tgt := 39) hx hb dX8_copy_27 (by decide) (fun hc5 => ?_) (fun hc5 => ?_)
      · replace hF := hF.trans (if_pos hc5)
        refine lv_aload_n hx hb dX8_copy_39 rfl (lv_at hl 0 rfl) ?_
        refine lv_ldc (v := (-1000002)) hx hb hown (hts _ kX8_copy_2) dX8_copy_40 ?_
        refine yk_i [0] (va_runV (As := [.int (-1000002)]) (rest := []) ⟨hx, hb, hml, hown, hts⟩ (c_X8_found l D cy ta m_now m_undone m_slots m_slotKind m_hasSlot m_sheetBits m_sheetSize m_sheets m_fresh m_rootWhich m_signs m_atNought m_change m_table m_carried u fi aa bb dd ro db mn (-1000002) H.size) (cwV 1 hts gX8_copy_X8_found rfl rfl rfl hv_X8_found (yk_room hRf hRl rfl rfl)) (yk_pv (q := (RX8, TX8, 23)) hG hA hS hK hP hD [0] (by decide +kernel) rfl rfl rfl) rfl rfl hl.1 rfl (lv_room (Nat.le_of_ble_eq_true rfl)) dX8_copy_42 ⟨Nat.zero_le _, Nat.zero_le _⟩) hP hD hS hA rfl (Eq.trans (b := [ta]) rfl rfl) (fun H locs hP9 hD9 hS9 => ?_)
        replace hP : va_P D vwCl [(ta, .inr (8, [.ref m_now, .ref m_undone, .ref m_slots, .ref m_slotKind, .ref m_hasSlot, .ref m_sheetBits, .ref m_sheetSize, .ref m_sheets, .int (nI u), .int ((f_X8_found fi (-1000002)).2), .ref m_fresh, .long aa, .long bb, .long dd, .int (nI ro), .ref m_rootWhich, .int db, .ref m_signs, .ref m_atNought, .int (nI mn), .ref m_change, .ref m_table, .ref m_carried])), (m_sheetBits, .inl (cy 0, 4, .inl sb)), (m_sheetSize, .inl (cy 0, 4, .inl ss)), (m_sheets, .inl (cy 0, 64, .inl sh)), (m_carried, .inl (cy 0, 16, .inl cr))] H := hP9
        replace hD : va_D A [(ta, .inr (8, [.ref m_now, .ref m_undone, .ref m_slots, .ref m_slotKind, .ref m_hasSlot, .ref m_sheetBits, .ref m_sheetSize, .ref m_sheets, .int (nI u), .int ((f_X8_found fi (-1000002)).2), .ref m_fresh, .long aa, .long bb, .long dd, .int (nI ro), .ref m_rootWhich, .int db, .ref m_signs, .ref m_atNought, .int (nI mn), .ref m_change, .ref m_table, .ref m_carried])), (m_sheetBits, .inl (cy 0, 4, .inl sb)), (m_sheetSize, .inl (cy 0, 4, .inl ss)), (m_sheets, .inl (cy 0, 64, .inl sh)), (m_carried, .inl (cy 0, 16, .inl cr))] := hD9
        replace hS := hS9
        clear hP9 hD9 hS9
        have hF : f_X8_copy sb ss sh fi cr px pf py po pn = (((f_X8_found fi (-1000002)).1), ((f_X8_found fi (-1000002)).2), sh, cr) := hF
        have hf0 := yk_fst hF
        have hg0 := yk_snd hF
        have hf1 := yk_fst hg0
        have hg1 := yk_snd hg0
        have hf2 := yk_fst hg1
        have hg2 := yk_snd hg1
        rw [hf0, hf1, hf2, hg2] at hQ
        exact hQ _ _ _ _ dX8_copy_45 hP hS
      · replace hF := hF.trans (if_neg hc5)
        refine lv_aload_n hx hb dX8_copy_30 rfl (lv_at hl 0 rfl) ?_
        refine va_get (D := D) (ci := 8) (v := .ref m_sheetBits) (C := RX8) (T := TX8) (N := 23) hx hb hts uX8_copy_X8 hown hK hP 0 rfl rfl 5 (by decide) (hts _ kX8_copy_1) (fun _ h9 => h9) rfl dX8_copy_31 ?_
        refine lv_iload_n hx hb dX8_copy_34 rfl (lv_at hl 3 rfl) ?_
        refine yk_ild hx hb hK hP 1 0 rfl rfl py.toNatClampNeg (by omega) (by decide) dX8_copy_35 ?_
        refine lv_if_ne (tgt := 46) hx hb dX8_copy_36 (by decide) (fun hc6 => ?_) (fun hc6 => ?_)
        · replace hF := hF.trans (if_neg hc6)
          refine lv_aload_n hx hb dX8_copy_46 rfl (lv_at hl 0 rfl) ?_
          refine va_get (D := D) (ci := 8) (v := .ref m_sheetBits) (C := RX8) (T := TX8) (N := 23) hx hb hts uX8_copy_X8 hown hK hP 0 rfl rfl 5 (by decide) (hts _ kX8_copy_1) (fun _ h9 => h9) rfl dX8_copy_47 ?_
          refine lv_iload_n hx hb dX8_copy_50 rfl (lv_at hl 1 rfl) ?_
          refine yk_ild hx hb hK hP 1 0 rfl rfl px.toNatClampNeg (by omega) (by decide) dX8_copy_51 ?_
          refine lv_aload_n hx hb dX8_copy_52 rfl (lv_at hl 0 rfl) ?_
          refine va_get (D := D) (ci := 8) (v := .ref m_sheetBits) (C := RX8) (T := TX8) (N := 23) hx hb hts uX8_copy_X8 hown hK hP 0 rfl rfl 5 (by decide) (hts _ kX8_copy_1) (fun _ h9 => h9) rfl dX8_copy_53 ?_
          refine lv_iload_n hx hb dX8_copy_56 rfl (lv_at hl 3 rfl) ?_
          refine yk_ild hx hb hK hP 1 0 rfl rfl py.toNatClampNeg (by omega) (by decide) dX8_copy_57 ?_
          refine lv_icmp_eq (tgt := 68) hx hb dX8_copy_58 (by decide) (fun hc7 => ?_) (fun hc7 => ?_)
          · replace hF := hF.trans (if_pos hc7)
            refine lv_iload_n hx hb dX8_copy_68 rfl (lv_at hl 2 rfl) ?_
            refine lv_if_lt (tgt := 117) hx hb dX8_copy_69 (by decide) (fun hc8 => ?_) (fun hc8 => ?_)
            · replace hF := hF.trans (if_pos hc8)
              refine lv_aload_n hx hb dX8_copy_117 rfl (lv_at hl 0 rfl) ?_
              refine lv_ldc (v := (-1000001)) hx hb hown (hts _ kX8_copy_0) dX8_copy_118 ?_
              refine yk_i [0] (va_runV (As := [.int (-1000001)]) (rest := []) ⟨hx, hb, hml, hown, hts⟩ (c_X8_found l D cy ta m_now m_undone m_slots m_slotKind m_hasSlot m_sheetBits m_sheetSize m_sheets m_fresh m_rootWhich m_signs m_atNought m_change m_table m_carried u fi aa bb dd ro db mn (-1000001) H.size) (cwV 1 hts gX8_copy_X8_found rfl rfl rfl hv_X8_found (yk_room hRf hRl rfl rfl)) (yk_pv (q := (RX8, TX8, 23)) hG hA hS hK hP hD [0] (by decide +kernel) rfl rfl rfl) rfl rfl hl.1 rfl (lv_room (Nat.le_of_ble_eq_true rfl)) dX8_copy_120 ⟨Nat.zero_le _, Nat.zero_le _⟩) hP hD hS hA rfl (Eq.trans (b := [ta]) rfl rfl) (fun H locs hP9 hD9 hS9 => ?_)
              replace hP : va_P D vwCl [(ta, .inr (8, [.ref m_now, .ref m_undone, .ref m_slots, .ref m_slotKind, .ref m_hasSlot, .ref m_sheetBits, .ref m_sheetSize, .ref m_sheets, .int (nI u), .int ((f_X8_found fi (-1000001)).2), .ref m_fresh, .long aa, .long bb, .long dd, .int (nI ro), .ref m_rootWhich, .int db, .ref m_signs, .ref m_atNought, .int (nI mn), .ref m_change, .ref m_table, .ref m_carried])), (m_sheetBits, .inl (cy 0, 4, .inl sb)), (m_sheetSize, .inl (cy 0, 4, .inl ss)), (m_sheets, .inl (cy 0, 64, .inl sh)), (m_carried, .inl (cy 0, 16, .inl cr))] H := hP9
              replace hD : va_D A [(ta, .inr (8, [.ref m_now, .ref m_undone, .ref m_slots, .ref m_slotKind, .ref m_hasSlot, .ref m_sheetBits, .ref m_sheetSize, .ref m_sheets, .int (nI u), .int ((f_X8_found fi (-1000001)).2), .ref m_fresh, .long aa, .long bb, .long dd, .int (nI ro), .ref m_rootWhich, .int db, .ref m_signs, .ref m_atNought, .int (nI mn), .ref m_change, .ref m_table, .ref m_carried])), (m_sheetBits, .inl (cy 0, 4, .inl sb)), (m_sheetSize, .inl (cy 0, 4, .inl ss)), (m_sheets, .inl (cy 0, 64, .inl sh)), (m_carried, .inl (cy 0, 16, .inl cr))] := hD9
              replace hS := hS9
              clear hP9 hD9 hS9
              have hF : f_X8_copy sb ss sh fi cr px pf py po pn = (((f_X8_found fi (-1000001)).1), ((f_X8_found fi (-1000001)).2), sh, cr) := hF
              have hf0 := yk_fst hF
              have hg0 := yk_snd hF
              have hf1 := yk_fst hg0
              have hg1 := yk_snd hg0
              have hf2 := yk_fst hg1
              have hg2 := yk_snd hg1
              rw [hf0, hf1, hf2, hg2] at hQ
              exact hQ _ _ _ _ dX8_copy_123 hP hS
            · replace hF := hF.trans (if_neg hc8)
              refine lv_iload hx hb dX8_copy_72 (lv_at hl 4 rfl) ?_
              refine lv_if_lt (tgt := 117) hx hb dX8_copy_74 (by decide) (fun hc9 => ?_) (fun hc9 => ?_)
              · replace hF := hF.trans (if_pos hc9)
                refine lv_aload_n hx hb dX8_copy_117 rfl (lv_at hl 0 rfl) ?_
                refine lv_ldc (v := (-1000001)) hx hb hown (hts _ kX8_copy_0) dX8_copy_118 ?_
                refine yk_i [0] (va_runV (As := [.int (-1000001)]) (rest := []) ⟨hx, hb, hml, hown, hts⟩ (c_X8_found l D cy ta m_now m_undone m_slots m_slotKind m_hasSlot m_sheetBits m_sheetSize m_sheets m_fresh m_rootWhich m_signs m_atNought m_change m_table m_carried u fi aa bb dd ro db mn (-1000001) H.size) (cwV 1 hts gX8_copy_X8_found rfl rfl rfl hv_X8_found (yk_room hRf hRl rfl rfl)) (yk_pv (q := (RX8, TX8, 23)) hG hA hS hK hP hD [0] (by decide +kernel) rfl rfl rfl) rfl rfl hl.1 rfl (lv_room (Nat.le_of_ble_eq_true rfl)) dX8_copy_120 ⟨Nat.zero_le _, Nat.zero_le _⟩) hP hD hS hA rfl (Eq.trans (b := [ta]) rfl rfl) (fun H locs hP9 hD9 hS9 => ?_)
                replace hP : va_P D vwCl [(ta, .inr (8, [.ref m_now, .ref m_undone, .ref m_slots, .ref m_slotKind, .ref m_hasSlot, .ref m_sheetBits, .ref m_sheetSize, .ref m_sheets, .int (nI u), .int ((f_X8_found fi (-1000001)).2), .ref m_fresh, .long aa, .long bb, .long dd, .int (nI ro), .ref m_rootWhich, .int db, .ref m_signs, .ref m_atNought, .int (nI mn), .ref m_change, .ref m_table, .ref m_carried])), (m_sheetBits, .inl (cy 0, 4, .inl sb)), (m_sheetSize, .inl (cy 0, 4, .inl ss)), (m_sheets, .inl (cy 0, 64, .inl sh)), (m_carried, .inl (cy 0, 16, .inl cr))] H := hP9
                replace hD : va_D A [(ta, .inr (8, [.ref m_now, .ref m_undone, .ref m_slots, .ref m_slotKind, .ref m_hasSlot, .ref m_sheetBits, .ref m_sheetSize, .ref m_sheets, .int (nI u), .int ((f_X8_found fi (-1000001)).2), .ref m_fresh, .long aa, .long bb, .long dd, .int (nI ro), .ref m_rootWhich, .int db, .ref m_signs, .ref m_atNought, .int (nI mn), .ref m_change, .ref m_table, .ref m_carried])), (m_sheetBits, .inl (cy 0, 4, .inl sb)), (m_sheetSize, .inl (cy 0, 4, .inl ss)), (m_sheets, .inl (cy 0, 64, .inl sh)), (m_carried, .inl (cy 0, 16, .inl cr))] := hD9
                replace hS := hS9
                clear hP9 hD9 hS9
                have hF : f_X8_copy sb ss sh fi cr px pf py po pn = (((f_X8_found fi (-1000001)).1), ((f_X8_found fi (-1000001)).2), sh, cr) := hF
                have hf0 := yk_fst hF
                have hg0 := yk_snd hF
                have hf1 := yk_fst hg0
                have hg1 := yk_snd hg0
                have hf2 := yk_fst hg1
                have hg2 := yk_snd hg1
                rw [hf0, hf1, hf2, hg2] at hQ
                exact hQ _ _ _ _ dX8_copy_123 hP hS
              · replace hF := hF.trans (if_neg hc9)
                refine lv_iload hx hb dX8_copy_77 (lv_at hl 5 rfl) ?_
                refine lv_if_lt (tgt := 117) hx hb dX8_copy_79 (by decide) (fun hc10 => ?_) (fun hc10 => ?_)
                · replace hF := hF.trans (if_pos hc10)
                  refine lv_aload_n hx hb dX8_copy_117 rfl (lv_at hl 0 rfl) ?_
                  refine lv_ldc (v := (-1000001)) hx hb hown (hts _ kX8_copy_0) dX8_copy_118 ?_
                  refine yk_i [0] (va_runV (As := [.int (-1000001)]) (rest := []) ⟨hx, hb, hml, hown, hts⟩ (c_X8_found l D cy ta m_now m_undone m_slots m_slotKind m_hasSlot m_sheetBits m_sheetSize m_sheets m_fresh m_rootWhich m_signs m_atNought m_change m_table m_carried u fi aa bb dd ro db mn (-1000001) H.size) (cwV 1 hts gX8_copy_X8_found rfl rfl rfl hv_X8_found (yk_room hRf hRl rfl rfl)) (yk_pv (q := (RX8, TX8, 23)) hG hA hS hK hP hD [0] (by decide +kernel) rfl rfl rfl) rfl rfl hl.1 rfl (lv_room (Nat.le_of_ble_eq_true rfl)) dX8_copy_120 ⟨Nat.zero_le _, Nat.zero_le _⟩) hP hD hS hA rfl (Eq.trans (b := [ta]) rfl rfl) (fun H locs hP9 hD9 hS9 => ?_)
                  replace hP : va_P D vwCl [(ta, .inr (8, [.ref m_now, .ref m_undone, .ref m_slots, .ref m_slotKind, .ref m_hasSlot, .ref m_sheetBits, .ref m_sheetSize, .ref m_sheets, .int (nI u), .int ((f_X8_found fi (-1000001)).2), .ref m_fresh, .long aa, .long bb, .long dd, .int (nI ro), .ref m_rootWhich, .int db, .ref m_signs, .ref m_atNought, .int (nI mn), .ref m_change, .ref m_table, .ref m_carried])), (m_sheetBits, .inl (cy 0, 4, .inl sb)), (m_sheetSize, .inl (cy 0, 4, .inl ss)), (m_sheets, .inl (cy 0, 64, .inl sh)), (m_carried, .inl (cy 0, 16, .inl cr))] H := hP9
                  replace hD : va_D A [(ta, .inr (8, [.ref m_now, .ref m_undone, .ref m_slots, .ref m_slotKind, .ref m_hasSlot, .ref m_sheetBits, .ref m_sheetSize, .ref m_sheets, .int (nI u), .int ((f_X8_found fi (-1000001)).2), .ref m_fresh, .long aa, .long bb, .long dd, .int (nI ro), .ref m_rootWhich, .int db, .ref m_signs, .ref m_atNought, .int (nI mn), .ref m_change, .ref m_table, .ref m_carried])), (m_sheetBits, .inl (cy 0, 4, .inl sb)), (m_sheetSize, .inl (cy 0, 4, .inl ss)), (m_sheets, .inl (cy 0, 64, .inl sh)), (m_carried, .inl (cy 0, 16, .inl cr))] := hD9
                  replace hS := hS9
                  clear hP9 hD9 hS9
                  have hF : f_X8_copy sb ss sh fi cr px pf py po pn = (((f_X8_found fi (-1000001)).1), ((f_X8_found fi (-1000001)).2), sh, cr) := hF
                  have hf0 := yk_fst hF
                  have hg0 := yk_snd hF
                  have hf1 := yk_fst hg0
                  have hg1 := yk_snd hg0
                  have hf2 := yk_fst hg1
                  have hg2 := yk_snd hg1
                  rw [hf0, hf1, hf2, hg2] at hQ
                  exact hQ _ _ _ _ dX8_copy_123 hP hS
                · replace hF := hF.trans (if_neg hc10)
                  refine lv_iload_n hx hb dX8_copy_82 rfl (lv_at hl 2 rfl) ?_
                  refine lv_i2l hx hb dX8_copy_83 rfl ?_
                  refine lv_iload hx hb dX8_copy_84 (lv_at hl 5 rfl) ?_
                  refine lv_i2l hx hb dX8_copy_86 rfl ?_
                  refine lv_ladd hx hb dX8_copy_87 ?_
                  refine lv_aload_n hx hb dX8_copy_88 rfl (lv_at hl 0 rfl) ?_
                  refine va_get (D := D) (ci := 8) (v := .ref m_sheetSize) (C := RX8) (T := TX8) (N := 23) hx hb hts uX8_copy_X8 hown hK hP 0 rfl rfl 6 (by decide) (hts _ kX8_copy_3) (fun _ h9 => h9) rfl dX8_copy_89 ?_
                  refine lv_iload_n hx hb dX8_copy_92 rfl (lv_at hl 1 rfl) ?_
                  refine yk_ild hx hb hK hP 2 0 rfl rfl px.toNatClampNeg (by omega) (by decide) dX8_copy_93 ?_
                  refine lv_i2l hx hb dX8_copy_94 rfl ?_
                  refine W.lcmp hx hb dX8_copy_95 ?_
                  refine lv_if_gt (tgt := 117) hx hb dX8_copy_96 (by decide) (fun hc11 => ?_) (fun hc11 => ?_)
                  · replace hF := hF.trans (if_pos hc11)
                    refine lv_aload_n hx hb dX8_copy_117 rfl (lv_at hl 0 rfl) ?_
                    refine lv_ldc (v := (-1000001)) hx hb hown (hts _ kX8_copy_0) dX8_copy_118 ?_
                    refine yk_i [0] (va_runV (As := [.int (-1000001)]) (rest := []) ⟨hx, hb, hml, hown, hts⟩ (c_X8_found l D cy ta m_now m_undone m_slots m_slotKind m_hasSlot m_sheetBits m_sheetSize m_sheets m_fresh m_rootWhich m_signs m_atNought m_change m_table m_carried u fi aa bb dd ro db mn (-1000001) H.size) (cwV 1 hts gX8_copy_X8_found rfl rfl rfl hv_X8_found (yk_room hRf hRl rfl rfl)) (yk_pv (q := (RX8, TX8, 23)) hG hA hS hK hP hD [0] (by decide +kernel) rfl rfl rfl) rfl rfl hl.1 rfl (lv_room (Nat.le_of_ble_eq_true rfl)) dX8_copy_120 ⟨Nat.zero_le _, Nat.zero_le _⟩) hP hD hS hA rfl (Eq.trans (b := [ta]) rfl rfl) (fun H locs hP9 hD9 hS9 => ?_)
                    replace hP : va_P D vwCl [(ta, .inr (8, [.ref m_now, .ref m_undone, .ref m_slots, .ref m_slotKind, .ref m_hasSlot, .ref m_sheetBits, .ref m_sheetSize, .ref m_sheets, .int (nI u), .int ((f_X8_found fi (-1000001)).2), .ref m_fresh, .long aa, .long bb, .long dd, .int (nI ro), .ref m_rootWhich, .int db, .ref m_signs, .ref m_atNought, .int (nI mn), .ref m_change, .ref m_table, .ref m_carried])), (m_sheetBits, .inl (cy 0, 4, .inl sb)), (m_sheetSize, .inl (cy 0, 4, .inl ss)), (m_sheets, .inl (cy 0, 64, .inl sh)), (m_carried, .inl (cy 0, 16, .inl cr))] H := hP9
                    replace hD : va_D A [(ta, .inr (8, [.ref m_now, .ref m_undone, .ref m_slots, .ref m_slotKind, .ref m_hasSlot, .ref m_sheetBits, .ref m_sheetSize, .ref m_sheets, .int (nI u), .int ((f_X8_found fi (-1000001)).2), .ref m_fresh, .long aa, .long bb, .long dd, .int (nI ro), .ref m_rootWhich, .int db, .ref m_signs, .ref m_atNought, .int (nI mn), .ref m_change, .ref m_table, .ref m_carried])), (m_sheetBits, .inl (cy 0, 4, .inl sb)), (m_sheetSize, .inl (cy 0, 4, .inl ss)), (m_sheets, .inl (cy 0, 64, .inl sh)), (m_carried, .inl (cy 0, 16, .inl cr))] := hD9
                    replace hS := hS9
                    clear hP9 hD9 hS9
                    have hF : f_X8_copy sb ss sh fi cr px pf py po pn = (((f_X8_found fi (-1000001)).1), ((f_X8_found fi (-1000001)).2), sh, cr) := hF
                    have hf0 := yk_fst hF
                    have hg0 := yk_snd hF
                    have hf1 := yk_fst hg0
                    have hg1 := yk_snd hg0
                    have hf2 := yk_fst hg1
                    have hg2 := yk_snd hg1
                    rw [hf0, hf1, hf2, hg2] at hQ
                    exact hQ _ _ _ _ dX8_copy_123 hP hS
                  · replace hF := hF.trans (if_neg hc11)
                    refine lv_iload hx hb dX8_copy_99 (lv_at hl 4 rfl) ?_
                    refine lv_i2l hx hb dX8_copy_101 rfl ?_
                    refine lv_iload hx hb dX8_copy_102 (lv_at hl 5 rfl) ?_
                    refine lv_i2l hx hb dX8_copy_104 rfl ?_
                    refine lv_ladd hx hb dX8_copy_105 ?_
                    refine lv_aload_n hx hb dX8_copy_106 rfl (lv_at hl 0 rfl) ?_
                    refine va_get (D := D) (ci := 8) (v := .ref m_sheetSize) (C := RX8) (T := TX8) (N := 23) hx hb hts uX8_copy_X8 hown hK hP 0 rfl rfl 6 (by decide) (hts _ kX8_copy_3) (fun _ h9 => h9) rfl dX8_copy_107 ?_
                    refine lv_iload_n hx hb dX8_copy_110 rfl (lv_at hl 3 rfl) ?_
                    refine yk_ild hx hb hK hP 2 0 rfl rfl py.toNatClampNeg (by omega) (by decide) dX8_copy_111 ?_
                    refine lv_i2l hx hb dX8_copy_112 rfl ?_
                    refine W.lcmp hx hb dX8_copy_113 ?_
                    refine lv_if_le (tgt := 124) hx hb dX8_copy_114 (by decide) (fun hc12 => ?_) (fun hc12 => ?_)
                    · replace hF := hF.trans (if_pos hc12)
                      have hq8 := cp_ok (x := pf) (y := pn) (hss px.toNatClampNeg (by omega)) (by assumption) (by assumption) (yk_cle (by assumption))
                      have hq9 := cp_ok (x := po) (y := pn) (hss py.toNatClampNeg (by omega)) (by assumption) (by assumption) (yk_cle' (by assumption))
                      have hq13 : pf = nI pf.toNatClampNeg := hq8.1.1
                      have hq13b : pf.toNatClampNeg < 17 := hq8.1.2
                      rw [hq13] at hl
                      have hq14 : po = nI po.toNatClampNeg := hq9.1.1
                      have hq14b : po.toNatClampNeg < 17 := hq9.1.2
                      rw [hq14] at hl
                      have hq15 : pn = nI pn.toNatClampNeg := hq8.2.1.1
                      have hq15b : pn.toNatClampNeg < 17 := hq8.2.1.2
                      rw [hq15] at hl
                      refine lv_iconst (v := 0) hx hb dX8_copy_124 (by decide) ?_
                      refine lv_istore (lv' := [(6, .int 0), (0, .ref ta), (1, .int (nI px.toNatClampNeg)), (2, .int (nI pf.toNatClampNeg)), (3, .int (nI py.toNatClampNeg)), (4, .int (nI po.toNatClampNeg)), (5, .int (nI pn.toNatClampNeg))]) hx hb dX8_copy_125 hl (by decide) rfl (fun ls hl9 => ?_)
                      replace hl := hl9
                      clear hl9
                      have J18 : ∀ (H : Heap) (locs : List Loc) (ls : Array Slot), va_P D vwCl [(ta, .inr (8, [.ref m_now, .ref m_undone, .ref m_slots, .ref m_slotKind, .ref m_hasSlot, .ref m_sheetBits, .ref m_sheetSize, .ref m_sheets, .int (nI u), .int fi, .ref m_fresh, .long aa, .long bb, .long dd, .int (nI ro), .ref m_rootWhich, .int db, .ref m_signs, .ref m_atNought, .int (nI mn), .ref m_change, .ref m_table, .ref m_carried])), (m_sheetBits, .inl (cy 0, 4, .inl sb)), (m_sheetSize, .inl (cy 0, 4, .inl ss)), (m_sheets, .inl (cy 0, 64, .inl sh)), (m_carried, .inl (cy 0, 16, .inl (l_X8_copy_127 sb ss sh fi cr px pf py po pn (pn.toNatClampNeg + 1) 0 cr)))] H → va_D A [(ta, .inr (8, [.ref m_now, .ref m_undone, .ref m_slots, .ref m_slotKind, .ref m_hasSlot, .ref m_sheetBits, .ref m_sheetSize, .ref m_sheets, .int (nI u), .int fi, .ref m_fresh, .long aa, .long bb, .long dd, .int (nI ro), .ref m_rootWhich, .int db, .ref m_signs, .ref m_atNought, .int (nI mn), .ref m_change, .ref m_table, .ref m_carried])), (m_sheetBits, .inl (cy 0, 4, .inl sb)), (m_sheetSize, .inl (cy 0, 4, .inl ss)), (m_sheets, .inl (cy 0, 64, .inl sh)), (m_carried, .inl (cy 0, 16, .inl (l_X8_copy_127 sb ss sh fi cr px pf py po pn (pn.toNatClampNeg + 1) 0 cr)))] → va_S A s.heap H locs → lv_has ls 7 [(0, .ref ta), (1, .int (nI px.toNatClampNeg)), (2, .int (nI pf.toNatClampNeg)), (3, .int (nI py.toNatClampNeg)), (4, .int (nI po.toNatClampNeg)), (5, .int (nI pn.toNatClampNeg))] → W p l e R s m args below meth c H locs 0 0 Q (F0 m 161 ls []) := by
                        clear hP hD hS hl
                        intro H locs ls hP hD hS hl
                        refine lv_iconst (v := 0) hx hb dX8_copy_161 (by decide) ?_
                        refine lv_istore (lv' := [(6, .int 0), (0, .ref ta), (1, .int (nI px.toNatClampNeg)), (2, .int (nI pf.toNatClampNeg)), (3, .int (nI py.toNatClampNeg)), (4, .int (nI po.toNatClampNeg)), (5, .int (nI pn.toNatClampNeg))]) hx hb dX8_copy_162 hl (by decide) rfl (fun ls hl9 => ?_)
                        replace hl := hl9
                        clear hl9
                        have J21 : ∀ (H : Heap) (locs : List Loc) (ls : Array Slot), va_P D vwCl [(ta, .inr (8, [.ref m_now, .ref m_undone, .ref m_slots, .ref m_slotKind, .ref m_hasSlot, .ref m_sheetBits, .ref m_sheetSize, .ref m_sheets, .int (nI u), .int fi, .ref m_fresh, .long aa, .long bb, .long dd, .int (nI ro), .ref m_rootWhich, .int db, .ref m_signs, .ref m_atNought, .int (nI mn), .ref m_change, .ref m_table, .ref m_carried])), (m_sheetBits, .inl (cy 0, 4, .inl sb)), (m_sheetSize, .inl (cy 0, 4, .inl ss)), (m_sheets, .inl (cy 0, 64, .inl (l_X8_copy_164 sb ss sh fi cr px pf py po pn (pn.toNatClampNeg + 1) 0 sh))), (m_carried, .inl (cy 0, 16, .inl (l_X8_copy_127 sb ss sh fi cr px pf py po pn (pn.toNatClampNeg + 1) 0 cr)))] H → va_D A [(ta, .inr (8, [.ref m_now, .ref m_undone, .ref m_slots, .ref m_slotKind, .ref m_hasSlot, .ref m_sheetBits, .ref m_sheetSize, .ref m_sheets, .int (nI u), .int fi, .ref m_fresh, .long aa, .long bb, .long dd, .int (nI ro), .ref m_rootWhich, .int db, .ref m_signs, .ref m_atNought, .int (nI mn), .ref m_change, .ref m_table, .ref m_carried])), (m_sheetBits, .inl (cy 0, 4, .inl sb)), (m_sheetSize, .inl (cy 0, 4, .inl ss)), (m_sheets, .inl (cy 0, 64, .inl (l_X8_copy_164 sb ss sh fi cr px pf py po pn (pn.toNatClampNeg + 1) 0 sh))), (m_carried, .inl (cy 0, 16, .inl (l_X8_copy_127 sb ss sh fi cr px pf py po pn (pn.toNatClampNeg + 1) 0 cr)))] → va_S A s.heap H locs → lv_has ls 7 [(0, .ref ta), (1, .int (nI px.toNatClampNeg)), (2, .int (nI pf.toNatClampNeg)), (3, .int (nI py.toNatClampNeg)), (4, .int (nI po.toNatClampNeg)), (5, .int (nI pn.toNatClampNeg))] → W p l e R s m args below meth c H locs 0 0 Q (F0 m 199 ls []) := by
                          clear hP hD hS hl
                          intro H locs ls hP hD hS hl
                          refine lv_iload hx hb dX8_copy_199 (lv_at hl 5 rfl) ?_
                          have hF : f_X8_copy sb ss sh fi cr px pf py po pn = ((nI pn.toNatClampNeg), fi, (l_X8_copy_164 sb ss sh fi cr px pf py po pn (pn.toNatClampNeg + 1) 0 sh), (l_X8_copy_127 sb ss sh fi cr px pf py po pn (pn.toNatClampNeg + 1) 0 cr)) := hF
                          have hf0 := yk_fst hF
                          have hg0 := yk_snd hF
                          have hf1 := yk_fst hg0
                          have hg1 := yk_snd hg0
                          have hf2 := yk_fst hg1
                          have hg2 := yk_snd hg1
                          rw [hf0, hf1, hf2, hg2] at hQ
                          exact hQ _ _ _ _ dX8_copy_201 hP hS
                        have L164 : ∀ (M9 n164 kj : Nat) (zsheets_164 : Nat → Int32) (H : Heap) (locs : List Loc) (ls : Array Slot), n164 < M9 → kj + n164 = pn.toNatClampNeg → (l_X8_copy_164 sb ss sh fi cr px pf py po pn (pn.toNatClampNeg + 1) 0 sh) = (l_X8_copy_164 sb ss sh fi cr px pf py po pn (n164 + 1) kj zsheets_164) → va_P D vwCl [(ta, .inr (8, [.ref m_now, .ref m_undone, .ref m_slots, .ref m_slotKind, .ref m_hasSlot, .ref m_sheetBits, .ref m_sheetSize, .ref m_sheets, .int (nI u), .int fi, .ref m_fresh, .long aa, .long bb, .long dd, .int (nI ro), .ref m_rootWhich, .int db, .ref m_signs, .ref m_atNought, .int (nI mn), .ref m_change, .ref m_table, .ref m_carried])), (m_sheetBits, .inl (cy 0, 4, .inl sb)), (m_sheetSize, .inl (cy 0, 4, .inl ss)), (m_sheets, .inl (cy 0, 64, .inl zsheets_164)), (m_carried, .inl (cy 0, 16, .inl (l_X8_copy_127 sb ss sh fi cr px pf py po pn (pn.toNatClampNeg + 1) 0 cr)))] H → va_D A [(ta, .inr (8, [.ref m_now, .ref m_undone, .ref m_slots, .ref m_slotKind, .ref m_hasSlot, .ref m_sheetBits, .ref m_sheetSize, .ref m_sheets, .int (nI u), .int fi, .ref m_fresh, .long aa, .long bb, .long dd, .int (nI ro), .ref m_rootWhich, .int db, .ref m_signs, .ref m_atNought, .int (nI mn), .ref m_change, .ref m_table, .ref m_carried])), (m_sheetBits, .inl (cy 0, 4, .inl sb)), (m_sheetSize, .inl (cy 0, 4, .inl ss)), (m_sheets, .inl (cy 0, 64, .inl zsheets_164)), (m_carried, .inl (cy 0, 16, .inl (l_X8_copy_127 sb ss sh fi cr px pf py po pn (pn.toNatClampNeg + 1) 0 cr)))] → va_S A s.heap H locs → lv_has ls 7 [(0, .ref ta), (1, .int (nI px.toNatClampNeg)), (2, .int (nI pf.toNatClampNeg)), (3, .int (nI py.toNatClampNeg)), (4, .int (nI po.toNatClampNeg)), (5, .int (nI pn.toNatClampNeg)), (6, .int (nI kj))] → W p l e R s m args below meth c H locs 0 0 Q (F0 m 164 ls []) := by
                          clear hP hD hS hl
                          intro M9
                          induction M9 with
                          | zero => intro n164 kj _ _ _ _ hn; exact absurd hn (Nat.not_lt_zero _)
                          | succ M9 ih164 =>
                            intro n164 kj zsheets_164 H locs ls hn164 hk164 hV164 hP hD hS hl
                            refine lv_iload hx hb dX8_copy_164 (lv_at hl 6 rfl) ?_
                            refine lv_iload hx hb dX8_copy_166 (lv_at hl 5 rfl) ?_
                            refine lv_icmp_ge (tgt := 199) hx hb dX8_copy_168 (by decide) (fun hc20 => ?_) (fun hc20 => ?_)
                            · replace hV164 := hV164.trans (if_pos hc20)
                              have hV164 : (l_X8_copy_164 sb ss sh fi cr px pf py po pn (pn.toNatClampNeg + 1) 0 sh) = zsheets_164 := hV164
                              have J21 := J21
                              rw [hV164] at J21
                              exact J21 _ _ _ hP hD hS (lv_sub hl [0, 1, 2, 3, 4, 5] rfl)
                            · replace hV164 := hV164.trans (if_neg hc20)
                              have hlt164 : kj < pn.toNatClampNeg := yk_lt hk164 (by omega) hc20
                              refine lv_aload_n hx hb dX8_copy_171 rfl (lv_at hl 0 rfl) ?_
                              refine va_get (D := D) (ci := 8) (v := .ref m_sheets) (C := RX8) (T := TX8) (N := 23) hx hb hts uX8_copy_X8 hown hK hP 0 rfl rfl 7 (by decide) (hts _ kX8_copy_5) (fun _ h9 => h9) rfl dX8_copy_172 ?_
                              refine lv_bipush (v := 16) hx hb dX8_copy_175 (by decide) ?_
                              refine lv_iload_n hx hb dX8_copy_177 rfl (lv_at hl 3 rfl) ?_
                              refine lv_imul hx hb dX8_copy_178 ?_
                              refine yk_ti (y := nI (16 * py.toNatClampNeg)) (pk_mul 16 py.toNatClampNeg) ?_
                              refine lv_iload hx hb dX8_copy_179 (lv_at hl 4 rfl) ?_
                              refine lv_iadd hx hb dX8_copy_181 ?_
                              refine yk_ti (y := nI ((16 * py.toNatClampNeg) + po.toNatClampNeg)) (nI_add (16 * py.toNatClampNeg) po.toNatClampNeg) ?_
                              refine lv_iload hx hb dX8_copy_182 (lv_at hl 6 rfl) ?_
                              refine lv_iadd hx hb dX8_copy_184 ?_
                              refine yk_ti (y := nI (((16 * py.toNatClampNeg) + po.toNatClampNeg) + kj)) (nI_add ((16 * py.toNatClampNeg) + po.toNatClampNeg) kj) ?_
                              refine lv_aload_n hx hb dX8_copy_185 rfl (lv_at hl 0 rfl) ?_
                              refine va_get (D := D) (ci := 8) (v := .ref m_carried) (C := RX8) (T := TX8) (N := 23) hx hb hts uX8_copy_X8 hown hK hP 0 rfl rfl 22 (by decide) (hts _ kX8_copy_4) (fun _ h9 => h9) rfl dX8_copy_186 ?_
                              refine lv_iload hx hb dX8_copy_189 (lv_at hl 6 rfl) ?_
                              refine yk_ild hx hb hK hP 4 0 rfl rfl kj (by omega) (by decide) dX8_copy_191 ?_
                              refine yk_ist hx hb hK hP hD hS 3 0 rfl rfl (((16 * py.toNatClampNeg) + po.toNatClampNeg) + kj) (by omega) (by decide) dX8_copy_192 (fun H locs hP9 hD9 hS9 => ?_)
                              replace hP : va_P D vwCl [(ta, .inr (8, [.ref m_now, .ref m_undone, .ref m_slots, .ref m_slotKind, .ref m_hasSlot, .ref m_sheetBits, .ref m_sheetSize, .ref m_sheets, .int (nI u), .int fi, .ref m_fresh, .long aa, .long bb, .long dd, .int (nI ro), .ref m_rootWhich, .int db, .ref m_signs, .ref m_atNought, .int (nI mn), .ref m_change, .ref m_table, .ref m_carried])), (m_sheetBits, .inl (cy 0, 4, .inl sb)), (m_sheetSize, .inl (cy 0, 4, .inl ss)), (m_sheets, .inl (cy 0, 64, .inl (upd zsheets_164 (((16 * py.toNatClampNeg) + po.toNatClampNeg) + kj) ((l_X8_copy_127 sb ss sh fi cr px pf py po pn (pn.toNatClampNeg + 1) 0 cr) kj)))), (m_carried, .inl (cy 0, 16, .inl (l_X8_copy_127 sb ss sh fi cr px pf py po pn (pn.toNatClampNeg + 1) 0 cr)))] H := hP9
                              replace hD : va_D A [(ta, .inr (8, [.ref m_now, .ref m_undone, .ref m_slots, .ref m_slotKind, .ref m_hasSlot, .ref m_sheetBits, .ref m_sheetSize, .ref m_sheets, .int (nI u), .int fi, .ref m_fresh, .long aa, .long bb, .long dd, .int (nI ro), .ref m_rootWhich, .int db, .ref m_signs, .ref m_atNought, .int (nI mn), .ref m_change, .ref m_table, .ref m_carried])), (m_sheetBits, .inl (cy 0, 4, .inl sb)), (m_sheetSize, .inl (cy 0, 4, .inl ss)), (m_sheets, .inl (cy 0, 64, .inl (upd zsheets_164 (((16 * py.toNatClampNeg) + po.toNatClampNeg) + kj) ((l_X8_copy_127 sb ss sh fi cr px pf py po pn (pn.toNatClampNeg + 1) 0 cr) kj)))), (m_carried, .inl (cy 0, 16, .inl (l_X8_copy_127 sb ss sh fi cr px pf py po pn (pn.toNatClampNeg + 1) 0 cr)))] := hD9
                              replace hS := hS9
                              clear hP9 hD9 hS9
                              refine lv_iinc (v := nI (kj + 1)) (lv' := [(6, .int (nI (kj + 1))), (0, .ref ta), (1, .int (nI px.toNatClampNeg)), (2, .int (nI pf.toNatClampNeg)), (3, .int (nI py.toNatClampNeg)), (4, .int (nI po.toNatClampNeg)), (5, .int (nI pn.toNatClampNeg))]) hx hb dX8_copy_193 hl (k := 6) rfl (yk_inc kj) (by decide) rfl (fun ls hl9 => ?_)
                              replace hl := hl9
                              clear hl9
                              refine lv_goto (tgt := 164) hx hb dX8_copy_196 (by decide) ?_
                              obtain ⟨n9, rfl⟩ : ∃ n9, n164 = n9 + 1 := ⟨n164 - 1, by omega⟩
                              exact ih164 n9 (kj + 1) (upd zsheets_164 (((16 * py.toNatClampNeg) + po.toNatClampNeg) + kj) ((l_X8_copy_127 sb ss sh fi cr px pf py po pn (pn.toNatClampNeg + 1) 0 cr) kj)) _ _ _ (by omega) (by omega)  hV164 hP hD hS (lv_sub hl [1, 2, 3, 4, 5, 6, 0] rfl)
                        exact L164 (pn.toNatClampNeg + 1) pn.toNatClampNeg 0 sh _ _ _ (Nat.lt_succ_self _) (by omega)  rfl hP hD hS (lv_sub hl [1, 2, 3, 4, 5, 6, 0] rfl)
                      have L127 : ∀ (M9 n127 ki : Nat) (zcarried_127 : Nat → Int32) (H : Heap) (locs : List Loc) (ls : Array Slot), n127 < M9 → ki + n127 = pn.toNatClampNeg → (l_X8_copy_127 sb ss sh fi cr px pf py po pn (pn.toNatClampNeg + 1) 0 cr) = (l_X8_copy_127 sb ss sh fi cr px pf py po pn (n127 + 1) ki zcarried_127) → va_P D vwCl [(ta, .inr (8, [.ref m_now, .ref m_undone, .ref m_slots, .ref m_slotKind, .ref m_hasSlot, .ref m_sheetBits, .ref m_sheetSize, .ref m_sheets, .int (nI u), .int fi, .ref m_fresh, .long aa, .long bb, .long dd, .int (nI ro), .ref m_rootWhich, .int db, .ref m_signs, .ref m_atNought, .int (nI mn), .ref m_change, .ref m_table, .ref m_carried])), (m_sheetBits, .inl (cy 0, 4, .inl sb)), (m_sheetSize, .inl (cy 0, 4, .inl ss)), (m_sheets, .inl (cy 0, 64, .inl sh)), (m_carried, .inl (cy 0, 16, .inl zcarried_127))] H → va_D A [(ta, .inr (8, [.ref m_now, .ref m_undone, .ref m_slots, .ref m_slotKind, .ref m_hasSlot, .ref m_sheetBits, .ref m_sheetSize, .ref m_sheets, .int (nI u), .int fi, .ref m_fresh, .long aa, .long bb, .long dd, .int (nI ro), .ref m_rootWhich, .int db, .ref m_signs, .ref m_atNought, .int (nI mn), .ref m_change, .ref m_table, .ref m_carried])), (m_sheetBits, .inl (cy 0, 4, .inl sb)), (m_sheetSize, .inl (cy 0, 4, .inl ss)), (m_sheets, .inl (cy 0, 64, .inl sh)), (m_carried, .inl (cy 0, 16, .inl zcarried_127))] → va_S A s.heap H locs → lv_has ls 7 [(0, .ref ta), (1, .int (nI px.toNatClampNeg)), (2, .int (nI pf.toNatClampNeg)), (3, .int (nI py.toNatClampNeg)), (4, .int (nI po.toNatClampNeg)), (5, .int (nI pn.toNatClampNeg)), (6, .int (nI ki))] → W p l e R s m args below meth c H locs 0 0 Q (F0 m 127 ls []) := by
                        clear hP hD hS hl
                        intro M9
                        induction M9 with
                        | zero => intro n127 ki _ _ _ _ hn; exact absurd hn (Nat.not_lt_zero _)
                        | succ M9 ih127 =>
                          intro n127 ki zcarried_127 H locs ls hn127 hk127 hV127 hP hD hS hl
                          refine lv_iload hx hb dX8_copy_127 (lv_at hl 6 rfl) ?_
                          refine lv_iload hx hb dX8_copy_129 (lv_at hl 5 rfl) ?_
                          refine lv_icmp_ge (tgt := 161) hx hb dX8_copy_131 (by decide) (fun hc17 => ?_) (fun hc17 => ?_)
                          · replace hV127 := hV127.trans (if_pos hc17)
                            have hV127 : (l_X8_copy_127 sb ss sh fi cr px pf py po pn (pn.toNatClampNeg + 1) 0 cr) = zcarried_127 := hV127
                            have J18 := J18
                            rw [hV127] at J18
                            exact J18 _ _ _ hP hD hS (lv_sub hl [0, 1, 2, 3, 4, 5] rfl)
                          · replace hV127 := hV127.trans (if_neg hc17)
                            have hlt127 : ki < pn.toNatClampNeg := yk_lt hk127 (by omega) hc17
                            refine lv_aload_n hx hb dX8_copy_134 rfl (lv_at hl 0 rfl) ?_
                            refine va_get (D := D) (ci := 8) (v := .ref m_carried) (C := RX8) (T := TX8) (N := 23) hx hb hts uX8_copy_X8 hown hK hP 0 rfl rfl 22 (by decide) (hts _ kX8_copy_4) (fun _ h9 => h9) rfl dX8_copy_135 ?_
                            refine lv_iload hx hb dX8_copy_138 (lv_at hl 6 rfl) ?_
                            refine lv_aload_n hx hb dX8_copy_140 rfl (lv_at hl 0 rfl) ?_
                            refine va_get (D := D) (ci := 8) (v := .ref m_sheets) (C := RX8) (T := TX8) (N := 23) hx hb hts uX8_copy_X8 hown hK hP 0 rfl rfl 7 (by decide) (hts _ kX8_copy_5) (fun _ h9 => h9) rfl dX8_copy_141 ?_
                            refine lv_bipush (v := 16) hx hb dX8_copy_144 (by decide) ?_
                            refine lv_iload_n hx hb dX8_copy_146 rfl (lv_at hl 1 rfl) ?_
                            refine lv_imul hx hb dX8_copy_147 ?_
                            refine yk_ti (y := nI (16 * px.toNatClampNeg)) (pk_mul 16 px.toNatClampNeg) ?_
                            refine lv_iload_n hx hb dX8_copy_148 rfl (lv_at hl 2 rfl) ?_
                            refine lv_iadd hx hb dX8_copy_149 ?_
                            refine yk_ti (y := nI ((16 * px.toNatClampNeg) + pf.toNatClampNeg)) (nI_add (16 * px.toNatClampNeg) pf.toNatClampNeg) ?_
                            refine lv_iload hx hb dX8_copy_150 (lv_at hl 6 rfl) ?_
                            refine lv_iadd hx hb dX8_copy_152 ?_
                            refine yk_ti (y := nI (((16 * px.toNatClampNeg) + pf.toNatClampNeg) + ki)) (nI_add ((16 * px.toNatClampNeg) + pf.toNatClampNeg) ki) ?_
                            refine yk_ild hx hb hK hP 3 0 rfl rfl (((16 * px.toNatClampNeg) + pf.toNatClampNeg) + ki) (by omega) (by decide) dX8_copy_153 ?_
                            refine yk_ist hx hb hK hP hD hS 4 0 rfl rfl ki (by omega) (by decide) dX8_copy_154 (fun H locs hP9 hD9 hS9 => ?_)
                            replace hP : va_P D vwCl [(ta, .inr (8, [.ref m_now, .ref m_undone, .ref m_slots, .ref m_slotKind, .ref m_hasSlot, .ref m_sheetBits, .ref m_sheetSize, .ref m_sheets, .int (nI u), .int fi, .ref m_fresh, .long aa, .long bb, .long dd, .int (nI ro), .ref m_rootWhich, .int db, .ref m_signs, .ref m_atNought, .int (nI mn), .ref m_change, .ref m_table, .ref m_carried])), (m_sheetBits, .inl (cy 0, 4, .inl sb)), (m_sheetSize, .inl (cy 0, 4, .inl ss)), (m_sheets, .inl (cy 0, 64, .inl sh)), (m_carried, .inl (cy 0, 16, .inl (upd zcarried_127 ki (sh (((16 * px.toNatClampNeg) + pf.toNatClampNeg) + ki)))))] H := hP9
                            replace hD : va_D A [(ta, .inr (8, [.ref m_now, .ref m_undone, .ref m_slots, .ref m_slotKind, .ref m_hasSlot, .ref m_sheetBits, .ref m_sheetSize, .ref m_sheets, .int (nI u), .int fi, .ref m_fresh, .long aa, .long bb, .long dd, .int (nI ro), .ref m_rootWhich, .int db, .ref m_signs, .ref m_atNought, .int (nI mn), .ref m_change, .ref m_table, .ref m_carried])), (m_sheetBits, .inl (cy 0, 4, .inl sb)), (m_sheetSize, .inl (cy 0, 4, .inl ss)), (m_sheets, .inl (cy 0, 64, .inl sh)), (m_carried, .inl (cy 0, 16, .inl (upd zcarried_127 ki (sh (((16 * px.toNatClampNeg) + pf.toNatClampNeg) + ki)))))] := hD9
                            replace hS := hS9
                            clear hP9 hD9 hS9
                            refine lv_iinc (v := nI (ki + 1)) (lv' := [(6, .int (nI (ki + 1))), (0, .ref ta), (1, .int (nI px.toNatClampNeg)), (2, .int (nI pf.toNatClampNeg)), (3, .int (nI py.toNatClampNeg)), (4, .int (nI po.toNatClampNeg)), (5, .int (nI pn.toNatClampNeg))]) hx hb dX8_copy_155 hl (k := 6) rfl (yk_inc ki) (by decide) rfl (fun ls hl9 => ?_)
                            replace hl := hl9
                            clear hl9
                            refine lv_goto (tgt := 127) hx hb dX8_copy_158 (by decide) ?_
                            obtain ⟨n9, rfl⟩ : ∃ n9, n127 = n9 + 1 := ⟨n127 - 1, by omega⟩
                            exact ih127 n9 (ki + 1) (upd zcarried_127 ki (sh (((16 * px.toNatClampNeg) + pf.toNatClampNeg) + ki))) _ _ _ (by omega) (by omega)  hV127 hP hD hS (lv_sub hl [1, 2, 3, 4, 5, 6, 0] rfl)
                      exact L127 (pn.toNatClampNeg + 1) pn.toNatClampNeg 0 cr _ _ _ (Nat.lt_succ_self _) (by omega)  rfl hP hD hS (lv_sub hl [1, 2, 3, 4, 5, 6, 0] rfl)
                    · replace hF := hF.trans (if_neg hc12)
                      refine lv_aload_n hx hb dX8_copy_117 rfl (lv_at hl 0 rfl) ?_
                      refine lv_ldc (v := (-1000001)) hx hb hown (hts _ kX8_copy_0) dX8_copy_118 ?_
                      refine yk_i [0] (va_runV (As := [.int (-1000001)]) (rest := []) ⟨hx, hb, hml, hown, hts⟩ (c_X8_found l D cy ta m_now m_undone m_slots m_slotKind m_hasSlot m_sheetBits m_sheetSize m_sheets m_fresh m_rootWhich m_signs m_atNought m_change m_table m_carried u fi aa bb dd ro db mn (-1000001) H.size) (cwV 1 hts gX8_copy_X8_found rfl rfl rfl hv_X8_found (yk_room hRf hRl rfl rfl)) (yk_pv (q := (RX8, TX8, 23)) hG hA hS hK hP hD [0] (by decide +kernel) rfl rfl rfl) rfl rfl hl.1 rfl (lv_room (Nat.le_of_ble_eq_true rfl)) dX8_copy_120 ⟨Nat.zero_le _, Nat.zero_le _⟩) hP hD hS hA rfl (Eq.trans (b := [ta]) rfl rfl) (fun H locs hP9 hD9 hS9 => ?_)
                      replace hP : va_P D vwCl [(ta, .inr (8, [.ref m_now, .ref m_undone, .ref m_slots, .ref m_slotKind, .ref m_hasSlot, .ref m_sheetBits, .ref m_sheetSize, .ref m_sheets, .int (nI u), .int ((f_X8_found fi (-1000001)).2), .ref m_fresh, .long aa, .long bb, .long dd, .int (nI ro), .ref m_rootWhich, .int db, .ref m_signs, .ref m_atNought, .int (nI mn), .ref m_change, .ref m_table, .ref m_carried])), (m_sheetBits, .inl (cy 0, 4, .inl sb)), (m_sheetSize, .inl (cy 0, 4, .inl ss)), (m_sheets, .inl (cy 0, 64, .inl sh)), (m_carried, .inl (cy 0, 16, .inl cr))] H := hP9
                      replace hD : va_D A [(ta, .inr (8, [.ref m_now, .ref m_undone, .ref m_slots, .ref m_slotKind, .ref m_hasSlot, .ref m_sheetBits, .ref m_sheetSize, .ref m_sheets, .int (nI u), .int ((f_X8_found fi (-1000001)).2), .ref m_fresh, .long aa, .long bb, .long dd, .int (nI ro), .ref m_rootWhich, .int db, .ref m_signs, .ref m_atNought, .int (nI mn), .ref m_change, .ref m_table, .ref m_carried])), (m_sheetBits, .inl (cy 0, 4, .inl sb)), (m_sheetSize, .inl (cy 0, 4, .inl ss)), (m_sheets, .inl (cy 0, 64, .inl sh)), (m_carried, .inl (cy 0, 16, .inl cr))] := hD9
                      replace hS := hS9
                      clear hP9 hD9 hS9
                      have hF : f_X8_copy sb ss sh fi cr px pf py po pn = (((f_X8_found fi (-1000001)).1), ((f_X8_found fi (-1000001)).2), sh, cr) := hF
                      have hf0 := yk_fst hF
                      have hg0 := yk_snd hF
                      have hf1 := yk_fst hg0
                      have hg1 := yk_snd hg0
                      have hf2 := yk_fst hg1
                      have hg2 := yk_snd hg1
                      rw [hf0, hf1, hf2, hg2] at hQ
                      exact hQ _ _ _ _ dX8_copy_123 hP hS
          · replace hF := hF.trans (if_neg hc7)
            refine lv_aload_n hx hb dX8_copy_61 rfl (lv_at hl 0 rfl) ?_
            refine lv_ldc (v := (-1000004)) hx hb hown (hts _ kX8_copy_6) dX8_copy_62 ?_
            refine yk_i [0] (va_runV (As := [.int (-1000004)]) (rest := []) ⟨hx, hb, hml, hown, hts⟩ (c_X8_found l D cy ta m_now m_undone m_slots m_slotKind m_hasSlot m_sheetBits m_sheetSize m_sheets m_fresh m_rootWhich m_signs m_atNought m_change m_table m_carried u fi aa bb dd ro db mn (-1000004) H.size) (cwV 1 hts gX8_copy_X8_found rfl rfl rfl hv_X8_found (yk_room hRf hRl rfl rfl)) (yk_pv (q := (RX8, TX8, 23)) hG hA hS hK hP hD [0] (by decide +kernel) rfl rfl rfl) rfl rfl hl.1 rfl (lv_room (Nat.le_of_ble_eq_true rfl)) dX8_copy_64 ⟨Nat.zero_le _, Nat.zero_le _⟩) hP hD hS hA rfl (Eq.trans (b := [ta]) rfl rfl) (fun H locs hP9 hD9 hS9 => ?_)
            replace hP : va_P D vwCl [(ta, .inr (8, [.ref m_now, .ref m_undone, .ref m_slots, .ref m_slotKind, .ref m_hasSlot, .ref m_sheetBits, .ref m_sheetSize, .ref m_sheets, .int (nI u), .int ((f_X8_found fi (-1000004)).2), .ref m_fresh, .long aa, .long bb, .long dd, .int (nI ro), .ref m_rootWhich, .int db, .ref m_signs, .ref m_atNought, .int (nI mn), .ref m_change, .ref m_table, .ref m_carried])), (m_sheetBits, .inl (cy 0, 4, .inl sb)), (m_sheetSize, .inl (cy 0, 4, .inl ss)), (m_sheets, .inl (cy 0, 64, .inl sh)), (m_carried, .inl (cy 0, 16, .inl cr))] H := hP9
            replace hD : va_D A [(ta, .inr (8, [.ref m_now, .ref m_undone, .ref m_slots, .ref m_slotKind, .ref m_hasSlot, .ref m_sheetBits, .ref m_sheetSize, .ref m_sheets, .int (nI u), .int ((f_X8_found fi (-1000004)).2), .ref m_fresh, .long aa, .long bb, .long dd, .int (nI ro), .ref m_rootWhich, .int db, .ref m_signs, .ref m_atNought, .int (nI mn), .ref m_change, .ref m_table, .ref m_carried])), (m_sheetBits, .inl (cy 0, 4, .inl sb)), (m_sheetSize, .inl (cy 0, 4, .inl ss)), (m_sheets, .inl (cy 0, 64, .inl sh)), (m_carried, .inl (cy 0, 16, .inl cr))] := hD9
            replace hS := hS9
            clear hP9 hD9 hS9
            have hF : f_X8_copy sb ss sh fi cr px pf py po pn = (((f_X8_found fi (-1000004)).1), ((f_X8_found fi (-1000004)).2), sh, cr) := hF
            have hf0 := yk_fst hF
            have hg0 := yk_snd hF
            have hf1 := yk_fst hg0
            have hg1 := yk_snd hg0
            have hf2 := yk_fst hg1
            have hg2 := yk_snd hg1
            rw [hf0, hf1, hf2, hg2] at hQ
            exact hQ _ _ _ _ dX8_copy_67 hP hS
        · replace hF := hF.trans (if_pos hc6)
          refine lv_aload_n hx hb dX8_copy_39 rfl (lv_at hl 0 rfl) ?_
          refine lv_ldc (v := (-1000002)) hx hb hown (hts _ kX8_copy_2) dX8_copy_40 ?_
          refine yk_i [0] (va_runV (As := [.int (-1000002)]) (rest := []) ⟨hx, hb, hml, hown, hts⟩ (c_X8_found l D cy ta m_now m_undone m_slots m_slotKind m_hasSlot m_sheetBits m_sheetSize m_sheets m_fresh m_rootWhich m_signs m_atNought m_change m_table m_carried u fi aa bb dd ro db mn (-1000002) H.size) (cwV 1 hts gX8_copy_X8_found rfl rfl rfl hv_X8_found (yk_room hRf hRl rfl rfl)) (yk_pv (q := (RX8, TX8, 23)) hG hA hS hK hP hD [0] (by decide +kernel) rfl rfl rfl) rfl rfl hl.1 rfl (lv_room (Nat.le_of_ble_eq_true rfl)) dX8_copy_42 ⟨Nat.zero_le _, Nat.zero_le _⟩) hP hD hS hA rfl (Eq.trans (b := [ta]) rfl rfl) (fun H locs hP9 hD9 hS9 => ?_)
          replace hP : va_P D vwCl [(ta, .inr (8, [.ref m_now, .ref m_undone, .ref m_slots, .ref m_slotKind, .ref m_hasSlot, .ref m_sheetBits, .ref m_sheetSize, .ref m_sheets, .int (nI u), .int ((f_X8_found fi (-1000002)).2), .ref m_fresh, .long aa, .long bb, .long dd, .int (nI ro), .ref m_rootWhich, .int db, .ref m_signs, .ref m_atNought, .int (nI mn), .ref m_change, .ref m_table, .ref m_carried])), (m_sheetBits, .inl (cy 0, 4, .inl sb)), (m_sheetSize, .inl (cy 0, 4, .inl ss)), (m_sheets, .inl (cy 0, 64, .inl sh)), (m_carried, .inl (cy 0, 16, .inl cr))] H := hP9
          replace hD : va_D A [(ta, .inr (8, [.ref m_now, .ref m_undone, .ref m_slots, .ref m_slotKind, .ref m_hasSlot, .ref m_sheetBits, .ref m_sheetSize, .ref m_sheets, .int (nI u), .int ((f_X8_found fi (-1000002)).2), .ref m_fresh, .long aa, .long bb, .long dd, .int (nI ro), .ref m_rootWhich, .int db, .ref m_signs, .ref m_atNought, .int (nI mn), .ref m_change, .ref m_table, .ref m_carried])), (m_sheetBits, .inl (cy 0, 4, .inl sb)), (m_sheetSize, .inl (cy 0, 4, .inl ss)), (m_sheets, .inl (cy 0, 64, .inl sh)), (m_carried, .inl (cy 0, 16, .inl cr))] := hD9
          replace hS := hS9
          clear hP9 hD9 hS9
          have hF : f_X8_copy sb ss sh fi cr px pf py po pn = (((f_X8_found fi (-1000002)).1), ((f_X8_found fi (-1000002)).2), sh, cr) := hF
          have hf0 := yk_fst hF
          have hg0 := yk_snd hF
          have hf1 := yk_fst hg0
          have hg1 := yk_snd hg0
          have hf2 := yk_fst hg1
          have hg2 := yk_snd hg1
          rw [hf0, hf1, hf2, hg2] at hQ
          exact hQ _ _ _ _ dX8_copy_45 hP hS
    · replace hF := hF.trans (if_pos hc2)
      refine lv_aload_n hx hb dX8_copy_14 rfl (lv_at hl 0 rfl) ?_
      refine lv_ldc (v := (-1000001)) hx hb hown (hts _ kX8_copy_0) dX8_copy_15 ?_
      refine yk_i [0] (va_runV (As := [.int (-1000001)]) (rest := []) ⟨hx, hb, hml, hown, hts⟩ (c_X8_found l D cy ta m_now m_undone m_slots m_slotKind m_hasSlot m_sheetBits m_sheetSize m_sheets m_fresh m_rootWhich m_signs m_atNought m_change m_table m_carried u fi aa bb dd ro db mn (-1000001) H.size) (cwV 1 hts gX8_copy_X8_found rfl rfl rfl hv_X8_found (yk_room hRf hRl rfl rfl)) (yk_pv (q := (RX8, TX8, 23)) hG hA hS hK hP hD [0] (by decide +kernel) rfl rfl rfl) rfl rfl hl.1 rfl (lv_room (Nat.le_of_ble_eq_true rfl)) dX8_copy_17 ⟨Nat.zero_le _, Nat.zero_le _⟩) hP hD hS hA rfl (Eq.trans (b := [ta]) rfl rfl) (fun H locs hP9 hD9 hS9 => ?_)
      replace hP : va_P D vwCl [(ta, .inr (8, [.ref m_now, .ref m_undone, .ref m_slots, .ref m_slotKind, .ref m_hasSlot, .ref m_sheetBits, .ref m_sheetSize, .ref m_sheets, .int (nI u), .int ((f_X8_found fi (-1000001)).2), .ref m_fresh, .long aa, .long bb, .long dd, .int (nI ro), .ref m_rootWhich, .int db, .ref m_signs, .ref m_atNought, .int (nI mn), .ref m_change, .ref m_table, .ref m_carried])), (m_sheetBits, .inl (cy 0, 4, .inl sb)), (m_sheetSize, .inl (cy 0, 4, .inl ss)), (m_sheets, .inl (cy 0, 64, .inl sh)), (m_carried, .inl (cy 0, 16, .inl cr))] H := hP9
      replace hD : va_D A [(ta, .inr (8, [.ref m_now, .ref m_undone, .ref m_slots, .ref m_slotKind, .ref m_hasSlot, .ref m_sheetBits, .ref m_sheetSize, .ref m_sheets, .int (nI u), .int ((f_X8_found fi (-1000001)).2), .ref m_fresh, .long aa, .long bb, .long dd, .int (nI ro), .ref m_rootWhich, .int db, .ref m_signs, .ref m_atNought, .int (nI mn), .ref m_change, .ref m_table, .ref m_carried])), (m_sheetBits, .inl (cy 0, 4, .inl sb)), (m_sheetSize, .inl (cy 0, 4, .inl ss)), (m_sheets, .inl (cy 0, 64, .inl sh)), (m_carried, .inl (cy 0, 16, .inl cr))] := hD9
      replace hS := hS9
      clear hP9 hD9 hS9
      have hF : f_X8_copy sb ss sh fi cr px pf py po pn = (((f_X8_found fi (-1000001)).1), ((f_X8_found fi (-1000001)).2), sh, cr) := hF
      have hf0 := yk_fst hF
      have hg0 := yk_snd hF
      have hf1 := yk_fst hg0
      have hg1 := yk_snd hg0
      have hf2 := yk_fst hg1
      have hg2 := yk_snd hg1
      rw [hf0, hf1, hf2, hg2] at hQ
      exact hQ _ _ _ _ dX8_copy_20 hP hS

theorem kX8_lay_0 : Cond.fieldLink RX8 26 "FlowPlaneModel" "sheetBits" "[I" ∈ wsX8_lay := by decide +kernel
theorem kX8_lay_1 : Cond.fieldLink RX8 29 "FlowPlaneModel" "sheetSize" "[I" ∈ wsX8_lay := by decide +kernel
theorem kX8_lay_2 : Cond.fieldLink RX8 35 "FlowPlaneModel" "fresh" "[I" ∈ wsX8_lay := by decide +kernel
theorem kX8_lay_3 : Cond.fieldLink RX8 32 "FlowPlaneModel" "sheets" "[I" ∈ wsX8_lay := by decide +kernel
theorem kX8_lay_4 : Cond.constant RX8 68 (-1000001) ∈ wsX8_lay := by decide +kernel
theorem kX8_lay_5 : Cond.constant RX8 245 (-1000002) ∈ wsX8_lay := by decide +kernel
theorem uX8_lay_X8 : ∀ w ∈ u_ws RX8 TX8 23, w ∈ wsX8_lay := by decide +kernel
def l_X8_lay_55 (nw : Nat → Int32) (un : Nat → Int32) (sb : Nat → Int32) (ss : Nat → Int32) (sh : Nat → Int32) (u : Nat) (fi : Int32) (fr : Nat → Int32) (px : Int32) : Nat → Nat → (Nat → Int32) → (Nat → Int32)
  | 0, ki, zfresh_55 => zfresh_55
  | fu_X8_lay_55 + 1, ki, zfresh_55 => (if 12 ≤ (nI ki) then zfresh_55 else (l_X8_lay_55 nw un sb ss sh u fi fr px fu_X8_lay_55 (ki + 1) (upd zfresh_55 ki (if (if 12 ≤ (ss px.toNatClampNeg) then 12 else (ss px.toNatClampNeg)) ≤ (nI ki) then 0 else (sh ((16 * px.toNatClampNeg) + ki))))))
def f_X8_lay (nw : Nat → Int32) (un : Nat → Int32) (sb : Nat → Int32) (ss : Nat → Int32) (sh : Nat → Int32) (u : Nat) (fi : Int32) (fr : Nat → Int32) (px : Int32) : Int32 × Nat × Int32 × (Nat → Int32) × (Nat → Int32) × (Nat → Int32) := (if (f_X8_isSlot px) = 0 then (((f_X8_found fi (-1000001)).1), u, ((f_X8_found fi (-1000001)).2), nw, un, fr) else (if (sb px.toNatClampNeg) = 0 then (((f_X8_found fi (-1000002)).1), u, ((f_X8_found fi (-1000002)).2), nw, un, fr) else (if (f_X8_isSmall (l_X8_lay_55 nw un sb ss sh u fi fr px (12 + 1) 0 fr)) = 0 then (((f_X8_found fi (-1000001)).1), u, ((f_X8_found fi (-1000001)).2), nw, un, (l_X8_lay_55 nw un sb ss sh u fi fr px (12 + 1) 0 fr)) else ((if 12 ≤ (ss px.toNatClampNeg) then 12 else (ss px.toNatClampNeg)), ((f_X8_remember nw un u).1), fi, (f_X8_take nw (l_X8_lay_55 nw un sb ss sh u fi fr px (12 + 1) 0 fr)), ((f_X8_remember nw un u).2), (l_X8_lay_55 nw un sb ss sh u fi fr px (12 + 1) 0 fr)))))
set_option maxHeartbeats 400000000 in
set_option maxRecDepth 100000 in
theorem c_X8_lay (l : Launch) (D : va_G) (cy : Nat → ClassId) (ta : Nat) (m_now : Nat) (m_undone : Nat) (m_sheetBits : Nat) (m_sheetSize : Nat) (m_sheets : Nat) (m_fresh : Nat) (m_slots : Nat) (m_slotKind : Nat) (m_hasSlot : Nat) (m_rootWhich : Nat) (m_signs : Nat) (m_atNought : Nat) (m_change : Nat) (m_table : Nat) (m_carried : Nat) (nw : Nat → Int32) (un : Nat → Int32) (sb : Nat → Int32) (ss : Nat → Int32) (sh : Nat → Int32) (u : Nat) (fi : Int32) (fr : Nat → Int32) (aa : Int64) (bb : Int64) (dd : Int64) (ro : Nat) (db : Int32) (mn : Nat) (px : Int32) (hu : u ≤ 25) : yk_Ci l D vwCl (yk_ty cy) yX8_lay wsX8_lay 2 43 [.ref ta, .int px] [(ta, .inr (8, [.ref m_now, .ref m_undone, .ref m_slots, .ref m_slotKind, .ref m_hasSlot, .ref m_sheetBits, .ref m_sheetSize, .ref m_sheets, .int (nI u), .int fi, .ref m_fresh, .long aa, .long bb, .long dd, .int (nI ro), .ref m_rootWhich, .int db, .ref m_signs, .ref m_atNought, .int (nI mn), .ref m_change, .ref m_table, .ref m_carried])), (m_now, .inl (cy 0, 29, .inl nw)), (m_undone, .inl (cy 0, 725, .inl un)), (m_sheetBits, .inl (cy 0, 4, .inl sb)), (m_sheetSize, .inl (cy 0, 4, .inl ss)), (m_sheets, .inl (cy 0, 64, .inl sh)), (m_fresh, .inl (cy 0, 12, .inl fr))] ((f_X8_lay nw un sb ss sh u fi fr px).1) [(ta, .inr (8, [.ref m_now, .ref m_undone, .ref m_slots, .ref m_slotKind, .ref m_hasSlot, .ref m_sheetBits, .ref m_sheetSize, .ref m_sheets, .int (nI ((f_X8_lay nw un sb ss sh u fi fr px).2.1)), .int ((f_X8_lay nw un sb ss sh u fi fr px).2.2.1), .ref m_fresh, .long aa, .long bb, .long dd, .int (nI ro), .ref m_rootWhich, .int db, .ref m_signs, .ref m_atNought, .int (nI mn), .ref m_change, .ref m_table, .ref m_carried])), (m_now, .inl (cy 0, 29, .inl ((f_X8_lay nw un sb ss sh u fi fr px).2.2.2.1))), (m_undone, .inl (cy 0, 725, .inl ((f_X8_lay nw un sb ss sh u fi fr px).2.2.2.2.1))), (m_sheetBits, .inl (cy 0, 4, .inl sb)), (m_sheetSize, .inl (cy 0, 4, .inl ss)), (m_sheets, .inl (cy 0, 64, .inl sh)), (m_fresh, .inl (cy 0, 12, .inl ((f_X8_lay nw un sb ss sh u fi fr px).2.2.2.2.2)))] := by
  refine yk_eI (cc := cX8_lay) (maxL := 4) (by decide) rfl (Nat.le_of_ble_eq_true rfl) rfl ?_
  intro p e R s m args below meth c A Q ls H locs hx hb hml hown hts hRf hRl hA hK hG hP hD hS hl hQ
  have hP : va_P D vwCl [(ta, .inr (8, [.ref m_now, .ref m_undone, .ref m_slots, .ref m_slotKind, .ref m_hasSlot, .ref m_sheetBits, .ref m_sheetSize, .ref m_sheets, .int (nI u), .int fi, .ref m_fresh, .long aa, .long bb, .long dd, .int (nI ro), .ref m_rootWhich, .int db, .ref m_signs, .ref m_atNought, .int (nI mn), .ref m_change, .ref m_table, .ref m_carried])), (m_now, .inl (cy 0, 29, .inl nw)), (m_undone, .inl (cy 0, 725, .inl un)), (m_sheetBits, .inl (cy 0, 4, .inl sb)), (m_sheetSize, .inl (cy 0, 4, .inl ss)), (m_sheets, .inl (cy 0, 64, .inl sh)), (m_fresh, .inl (cy 0, 12, .inl fr))] H := hP
  have hl : lv_has ls 4 [(0, .ref ta), (1, .int px)] := hl
  have hown : s.vm.findClass RX8 = some m.cls := hown
  have hF : (f_X8_lay nw un sb ss sh u fi fr px) = (f_X8_lay nw un sb ss sh u fi fr px) := rfl
  refine lv_iload_n hx hb dX8_lay_0 rfl (lv_at hl 1 rfl) ?_
  refine yk_i [] (va_runS (As := [.int px]) (rest := []) ⟨hx, hb, hml, hown, hts⟩ (c_X8_isSlot l D cy px H.size) (va_cwS 1 hts gX8_lay_X8_isSlot rfl rfl rfl hs_X8_isSlot (yk_room hRf hRl rfl rfl)) (yk_ps hG hA hS hK hP hD [] (by decide +kernel) rfl) rfl rfl hl.1 rfl (lv_room (Nat.le_of_ble_eq_true rfl)) dX8_lay_1 ⟨Nat.zero_le _, Nat.zero_le _⟩) hP hD hS hA rfl rfl (fun H locs hP9 hD9 hS9 => ?_)
  replace hP : va_P D vwCl [(ta, .inr (8, [.ref m_now, .ref m_undone, .ref m_slots, .ref m_slotKind, .ref m_hasSlot, .ref m_sheetBits, .ref m_sheetSize, .ref m_sheets, .int (nI u), .int fi, .ref m_fresh, .long aa, .long bb, .long dd, .int (nI ro), .ref m_rootWhich, .int db, .ref m_signs, .ref m_atNought, .int (nI mn), .ref m_change, .ref m_table, .ref m_carried])), (m_now, .inl (cy 0, 29, .inl nw)), (m_undone, .inl (cy 0, 725, .inl un)), (m_sheetBits, .inl (cy 0, 4, .inl sb)), (m_sheetSize, .inl (cy 0, 4, .inl ss)), (m_sheets, .inl (cy 0, 64, .inl sh)), (m_fresh, .inl (cy 0, 12, .inl fr))] H := hP9
  replace hD : va_D A [(ta, .inr (8, [.ref m_now, .ref m_undone, .ref m_slots, .ref m_slotKind, .ref m_hasSlot, .ref m_sheetBits, .ref m_sheetSize, .ref m_sheets, .int (nI u), .int fi, .ref m_fresh, .long aa, .long bb, .long dd, .int (nI ro), .ref m_rootWhich, .int db, .ref m_signs, .ref m_atNought, .int (nI mn), .ref m_change, .ref m_table, .ref m_carried])), (m_now, .inl (cy 0, 29, .inl nw)), (m_undone, .inl (cy 0, 725, .inl un)), (m_sheetBits, .inl (cy 0, 4, .inl sb)), (m_sheetSize, .inl (cy 0, 4, .inl ss)), (m_sheets, .inl (cy 0, 64, .inl sh)), (m_fresh, .inl (cy 0, 12, .inl fr))] := hD9
  replace hS := hS9
  clear hP9 hD9 hS9
  refine lv_if_ne (tgt := 14) hx hb dX8_lay_4 (by decide) (fun hc1 => ?_) (fun hc1 => ?_)
  · replace hF := hF.trans (if_neg hc1)
    have hq2 : px = nI px.toNatClampNeg := (ix_sl (by assumption)).1
    have hq2b : px.toNatClampNeg < 4 := (ix_sl (by assumption)).2
    rw [hq2] at hl
    refine lv_aload_n hx hb dX8_lay_14 rfl (lv_at hl 0 rfl) ?_
    refine va_get (D := D) (ci := 8) (v := .ref m_sheetBits) (C := RX8) (T := TX8) (N := 23) hx hb hts uX8_lay_X8 hown hK hP 0 rfl rfl 5 (by decide) (hts _ kX8_lay_0) (fun _ h9 => h9) rfl dX8_lay_15 ?_
    refine lv_iload_n hx hb dX8_lay_18 rfl (lv_at hl 1 rfl) ?_
    refine yk_ild hx hb hK hP 3 0 rfl rfl px.toNatClampNeg (by omega) (by decide) dX8_lay_19 ?_
    refine lv_if_ne (tgt := 30) hx hb dX8_lay_20 (by decide) (fun hc3 => ?_) (fun hc3 => ?_)
    · replace hF := hF.trans (if_neg hc3)
      refine lv_aload_n hx hb dX8_lay_30 rfl (lv_at hl 0 rfl) ?_
      refine va_get (D := D) (ci := 8) (v := .ref m_sheetSize) (C := RX8) (T := TX8) (N := 23) hx hb hts uX8_lay_X8 hown hK hP 0 rfl rfl 6 (by decide) (hts _ kX8_lay_1) (fun _ h9 => h9) rfl dX8_lay_31 ?_
      refine lv_iload_n hx hb dX8_lay_34 rfl (lv_at hl 1 rfl) ?_
      refine yk_ild hx hb hK hP 4 0 rfl rfl px.toNatClampNeg (by omega) (by decide) dX8_lay_35 ?_
      refine lv_bipush (v := 12) hx hb dX8_lay_36 (by decide) ?_
      have J6 : ∀ (v5 : Int32) (H : Heap) (locs : List Loc) (ls : Array Slot), v5 = (if 12 ≤ (ss px.toNatClampNeg) then 12 else (ss px.toNatClampNeg)) → va_P D vwCl [(ta, .inr (8, [.ref m_now, .ref m_undone, .ref m_slots, .ref m_slotKind, .ref m_hasSlot, .ref m_sheetBits, .ref m_sheetSize, .ref m_sheets, .int (nI u), .int fi, .ref m_fresh, .long aa, .long bb, .long dd, .int (nI ro), .ref m_rootWhich, .int db, .ref m_signs, .ref m_atNought, .int (nI mn), .ref m_change, .ref m_table, .ref m_carried])), (m_now, .inl (cy 0, 29, .inl nw)), (m_undone, .inl (cy 0, 725, .inl un)), (m_sheetBits, .inl (cy 0, 4, .inl sb)), (m_sheetSize, .inl (cy 0, 4, .inl ss)), (m_sheets, .inl (cy 0, 64, .inl sh)), (m_fresh, .inl (cy 0, 12, .inl fr))] H → va_D A [(ta, .inr (8, [.ref m_now, .ref m_undone, .ref m_slots, .ref m_slotKind, .ref m_hasSlot, .ref m_sheetBits, .ref m_sheetSize, .ref m_sheets, .int (nI u), .int fi, .ref m_fresh, .long aa, .long bb, .long dd, .int (nI ro), .ref m_rootWhich, .int db, .ref m_signs, .ref m_atNought, .int (nI mn), .ref m_change, .ref m_table, .ref m_carried])), (m_now, .inl (cy 0, 29, .inl nw)), (m_undone, .inl (cy 0, 725, .inl un)), (m_sheetBits, .inl (cy 0, 4, .inl sb)), (m_sheetSize, .inl (cy 0, 4, .inl ss)), (m_sheets, .inl (cy 0, 64, .inl sh)), (m_fresh, .inl (cy 0, 12, .inl fr))] → va_S A s.heap H locs → lv_has ls 4 [(0, .ref ta), (1, .int (nI px.toNatClampNeg))] → W p l e R s m args below meth c H locs 0 0 Q (F0 m 52 ls [.int v5]) := by
        clear hP hD hS hl
        intro v5 H locs ls ev5
        rw [ev5]
        clear ev5
        intro hP hD hS hl
        refine lv_istore_n (lv' := [(2, .int (if 12 ≤ (ss px.toNatClampNeg) then 12 else (ss px.toNatClampNeg))), (0, .ref ta), (1, .int (nI px.toNatClampNeg))]) hx hb dX8_lay_52 rfl hl (by decide) rfl (fun ls hl9 => ?_)
        replace hl := hl9
        clear hl9
        refine lv_iconst (v := 0) hx hb dX8_lay_53 (by decide) ?_
        refine lv_istore_n (lv' := [(3, .int 0), (2, .int (if 12 ≤ (ss px.toNatClampNeg) then 12 else (ss px.toNatClampNeg))), (0, .ref ta), (1, .int (nI px.toNatClampNeg))]) hx hb dX8_lay_54 rfl hl (by decide) rfl (fun ls hl9 => ?_)
        replace hl := hl9
        clear hl9
        have J15 : ∀ (H : Heap) (locs : List Loc) (ls : Array Slot), va_P D vwCl [(ta, .inr (8, [.ref m_now, .ref m_undone, .ref m_slots, .ref m_slotKind, .ref m_hasSlot, .ref m_sheetBits, .ref m_sheetSize, .ref m_sheets, .int (nI u), .int fi, .ref m_fresh, .long aa, .long bb, .long dd, .int (nI ro), .ref m_rootWhich, .int db, .ref m_signs, .ref m_atNought, .int (nI mn), .ref m_change, .ref m_table, .ref m_carried])), (m_now, .inl (cy 0, 29, .inl nw)), (m_undone, .inl (cy 0, 725, .inl un)), (m_sheetBits, .inl (cy 0, 4, .inl sb)), (m_sheetSize, .inl (cy 0, 4, .inl ss)), (m_sheets, .inl (cy 0, 64, .inl sh)), (m_fresh, .inl (cy 0, 12, .inl (l_X8_lay_55 nw un sb ss sh u fi fr px (12 + 1) 0 fr)))] H → va_D A [(ta, .inr (8, [.ref m_now, .ref m_undone, .ref m_slots, .ref m_slotKind, .ref m_hasSlot, .ref m_sheetBits, .ref m_sheetSize, .ref m_sheets, .int (nI u), .int fi, .ref m_fresh, .long aa, .long bb, .long dd, .int (nI ro), .ref m_rootWhich, .int db, .ref m_signs, .ref m_atNought, .int (nI mn), .ref m_change, .ref m_table, .ref m_carried])), (m_now, .inl (cy 0, 29, .inl nw)), (m_undone, .inl (cy 0, 725, .inl un)), (m_sheetBits, .inl (cy 0, 4, .inl sb)), (m_sheetSize, .inl (cy 0, 4, .inl ss)), (m_sheets, .inl (cy 0, 64, .inl sh)), (m_fresh, .inl (cy 0, 12, .inl (l_X8_lay_55 nw un sb ss sh u fi fr px (12 + 1) 0 fr)))] → va_S A s.heap H locs → lv_has ls 4 [(0, .ref ta), (1, .int (nI px.toNatClampNeg)), (2, .int (if 12 ≤ (ss px.toNatClampNeg) then 12 else (ss px.toNatClampNeg)))] → W p l e R s m args below meth c H locs 0 0 Q (F0 m 93 ls []) := by
          clear hP hD hS hl
          intro H locs ls hP hD hS hl
          refine lv_aload_n hx hb dX8_lay_93 rfl (lv_at hl 0 rfl) ?_
          refine yk_i [0, 6] (va_runV (As := []) (rest := []) ⟨hx, hb, hml, hown, hts⟩ (c_X8_isSmall l D cy ta m_fresh m_now m_undone m_slots m_slotKind m_hasSlot m_sheetBits m_sheetSize m_sheets m_rootWhich m_signs m_atNought m_change m_table m_carried u fi (l_X8_lay_55 nw un sb ss sh u fi fr px (12 + 1) 0 fr) aa bb dd ro db mn H.size) (cwV 0 hts gX8_lay_X8_isSmall rfl rfl rfl hv_X8_isSmall (yk_room hRf hRl rfl rfl)) (yk_pv (q := (RX8, TX8, 23)) hG hA hS hK hP hD [0, 6] (by decide +kernel) rfl rfl rfl) rfl rfl hl.1 rfl (lv_room (Nat.le_of_ble_eq_true rfl)) dX8_lay_94 ⟨Nat.zero_le _, Nat.zero_le _⟩) hP hD hS hA rfl (Eq.trans (b := [ta, m_fresh]) rfl rfl) (fun H locs hP9 hD9 hS9 => ?_)
          replace hP : va_P D vwCl [(ta, .inr (8, [.ref m_now, .ref m_undone, .ref m_slots, .ref m_slotKind, .ref m_hasSlot, .ref m_sheetBits, .ref m_sheetSize, .ref m_sheets, .int (nI u), .int fi, .ref m_fresh, .long aa, .long bb, .long dd, .int (nI ro), .ref m_rootWhich, .int db, .ref m_signs, .ref m_atNought, .int (nI mn), .ref m_change, .ref m_table, .ref m_carried])), (m_now, .inl (cy 0, 29, .inl nw)), (m_undone, .inl (cy 0, 725, .inl un)), (m_sheetBits, .inl (cy 0, 4, .inl sb)), (m_sheetSize, .inl (cy 0, 4, .inl ss)), (m_sheets, .inl (cy 0, 64, .inl sh)), (m_fresh, .inl (cy 0, 12, .inl (l_X8_lay_55 nw un sb ss sh u fi fr px (12 + 1) 0 fr)))] H := hP9
          replace hD : va_D A [(ta, .inr (8, [.ref m_now, .ref m_undone, .ref m_slots, .ref m_slotKind, .ref m_hasSlot, .ref m_sheetBits, .ref m_sheetSize, .ref m_sheets, .int (nI u), .int fi, .ref m_fresh, .long aa, .long bb, .long dd, .int (nI ro), .ref m_rootWhich, .int db, .ref m_signs, .ref m_atNought, .int (nI mn), .ref m_change, .ref m_table, .ref m_carried])), (m_now, .inl (cy 0, 29, .inl nw)), (m_undone, .inl (cy 0, 725, .inl un)), (m_sheetBits, .inl (cy 0, 4, .inl sb)), (m_sheetSize, .inl (cy 0, 4, .inl ss)), (m_sheets, .inl (cy 0, 64, .inl sh)), (m_fresh, .inl (cy 0, 12, .inl (l_X8_lay_55 nw un sb ss sh u fi fr px (12 + 1) 0 fr)))] := hD9
          replace hS := hS9
          clear hP9 hD9 hS9
          refine lv_if_ne (tgt := 107) hx hb dX8_lay_97 (by decide) (fun hc16 => ?_) (fun hc16 => ?_)
          · replace hF := hF.trans (if_neg hc16)
            refine lv_aload_n hx hb dX8_lay_107 rfl (lv_at hl 0 rfl) ?_
            refine yk_v [0, 1, 2] (va_runV (As := []) (rest := []) ⟨hx, hb, hml, hown, hts⟩ (c_X8_remember l D cy ta m_now m_undone m_slots m_slotKind m_hasSlot m_sheetBits m_sheetSize m_sheets m_fresh m_rootWhich m_signs m_atNought m_change m_table m_carried nw un u fi aa bb dd ro db mn hu H.size) (cwV 0 hts gX8_lay_X8_remember rfl rfl rfl hv_X8_remember (yk_room hRf hRl rfl rfl)) (yk_pv (q := (RX8, TX8, 23)) hG hA hS hK hP hD [0, 1, 2] (by decide +kernel) rfl rfl rfl) rfl rfl hl.1 rfl (lv_room (Nat.le_of_ble_eq_true rfl)) dX8_lay_108 ⟨Nat.zero_le _, Nat.zero_le _⟩) hP hD hS hA rfl (Eq.trans (b := [ta, m_now, m_undone]) rfl rfl) (fun H locs hP9 hD9 hS9 => ?_)
            replace hP : va_P D vwCl [(ta, .inr (8, [.ref m_now, .ref m_undone, .ref m_slots, .ref m_slotKind, .ref m_hasSlot, .ref m_sheetBits, .ref m_sheetSize, .ref m_sheets, .int (nI ((f_X8_remember nw un u).1)), .int fi, .ref m_fresh, .long aa, .long bb, .long dd, .int (nI ro), .ref m_rootWhich, .int db, .ref m_signs, .ref m_atNought, .int (nI mn), .ref m_change, .ref m_table, .ref m_carried])), (m_now, .inl (cy 0, 29, .inl nw)), (m_undone, .inl (cy 0, 725, .inl ((f_X8_remember nw un u).2))), (m_sheetBits, .inl (cy 0, 4, .inl sb)), (m_sheetSize, .inl (cy 0, 4, .inl ss)), (m_sheets, .inl (cy 0, 64, .inl sh)), (m_fresh, .inl (cy 0, 12, .inl (l_X8_lay_55 nw un sb ss sh u fi fr px (12 + 1) 0 fr)))] H := hP9
            replace hD : va_D A [(ta, .inr (8, [.ref m_now, .ref m_undone, .ref m_slots, .ref m_slotKind, .ref m_hasSlot, .ref m_sheetBits, .ref m_sheetSize, .ref m_sheets, .int (nI ((f_X8_remember nw un u).1)), .int fi, .ref m_fresh, .long aa, .long bb, .long dd, .int (nI ro), .ref m_rootWhich, .int db, .ref m_signs, .ref m_atNought, .int (nI mn), .ref m_change, .ref m_table, .ref m_carried])), (m_now, .inl (cy 0, 29, .inl nw)), (m_undone, .inl (cy 0, 725, .inl ((f_X8_remember nw un u).2))), (m_sheetBits, .inl (cy 0, 4, .inl sb)), (m_sheetSize, .inl (cy 0, 4, .inl ss)), (m_sheets, .inl (cy 0, 64, .inl sh)), (m_fresh, .inl (cy 0, 12, .inl (l_X8_lay_55 nw un sb ss sh u fi fr px (12 + 1) 0 fr)))] := hD9
            replace hS := hS9
            clear hP9 hD9 hS9
            refine lv_aload_n hx hb dX8_lay_111 rfl (lv_at hl 0 rfl) ?_
            refine yk_v [0, 1, 6] (va_runV (As := []) (rest := []) ⟨hx, hb, hml, hown, hts⟩ (c_X8_take l D cy ta m_now m_fresh m_undone m_slots m_slotKind m_hasSlot m_sheetBits m_sheetSize m_sheets m_rootWhich m_signs m_atNought m_change m_table m_carried nw ((f_X8_remember nw un u).1) fi (l_X8_lay_55 nw un sb ss sh u fi fr px (12 + 1) 0 fr) aa bb dd ro db mn H.size) (cwV 0 hts gX8_lay_X8_take rfl rfl rfl hv_X8_take (yk_room hRf hRl rfl rfl)) (yk_pv (q := (RX8, TX8, 23)) hG hA hS hK hP hD [0, 1, 6] (by decide +kernel) rfl rfl rfl) rfl rfl hl.1 rfl (lv_room (Nat.le_of_ble_eq_true rfl)) dX8_lay_112 ⟨Nat.zero_le _, Nat.zero_le _⟩) hP hD hS hA rfl (Eq.trans (b := [ta, m_now, m_fresh]) rfl rfl) (fun H locs hP9 hD9 hS9 => ?_)
            replace hP : va_P D vwCl [(ta, .inr (8, [.ref m_now, .ref m_undone, .ref m_slots, .ref m_slotKind, .ref m_hasSlot, .ref m_sheetBits, .ref m_sheetSize, .ref m_sheets, .int (nI ((f_X8_remember nw un u).1)), .int fi, .ref m_fresh, .long aa, .long bb, .long dd, .int (nI ro), .ref m_rootWhich, .int db, .ref m_signs, .ref m_atNought, .int (nI mn), .ref m_change, .ref m_table, .ref m_carried])), (m_now, .inl (cy 0, 29, .inl (f_X8_take nw (l_X8_lay_55 nw un sb ss sh u fi fr px (12 + 1) 0 fr)))), (m_undone, .inl (cy 0, 725, .inl ((f_X8_remember nw un u).2))), (m_sheetBits, .inl (cy 0, 4, .inl sb)), (m_sheetSize, .inl (cy 0, 4, .inl ss)), (m_sheets, .inl (cy 0, 64, .inl sh)), (m_fresh, .inl (cy 0, 12, .inl (l_X8_lay_55 nw un sb ss sh u fi fr px (12 + 1) 0 fr)))] H := hP9
            replace hD : va_D A [(ta, .inr (8, [.ref m_now, .ref m_undone, .ref m_slots, .ref m_slotKind, .ref m_hasSlot, .ref m_sheetBits, .ref m_sheetSize, .ref m_sheets, .int (nI ((f_X8_remember nw un u).1)), .int fi, .ref m_fresh, .long aa, .long bb, .long dd, .int (nI ro), .ref m_rootWhich, .int db, .ref m_signs, .ref m_atNought, .int (nI mn), .ref m_change, .ref m_table, .ref m_carried])), (m_now, .inl (cy 0, 29, .inl (f_X8_take nw (l_X8_lay_55 nw un sb ss sh u fi fr px (12 + 1) 0 fr)))), (m_undone, .inl (cy 0, 725, .inl ((f_X8_remember nw un u).2))), (m_sheetBits, .inl (cy 0, 4, .inl sb)), (m_sheetSize, .inl (cy 0, 4, .inl ss)), (m_sheets, .inl (cy 0, 64, .inl sh)), (m_fresh, .inl (cy 0, 12, .inl (l_X8_lay_55 nw un sb ss sh u fi fr px (12 + 1) 0 fr)))] := hD9
            replace hS := hS9
            clear hP9 hD9 hS9
            refine lv_iload_n hx hb dX8_lay_115 rfl (lv_at hl 2 rfl) ?_
            have hF : f_X8_lay nw un sb ss sh u fi fr px = ((if 12 ≤ (ss px.toNatClampNeg) then 12 else (ss px.toNatClampNeg)), ((f_X8_remember nw un u).1), fi, (f_X8_take nw (l_X8_lay_55 nw un sb ss sh u fi fr px (12 + 1) 0 fr)), ((f_X8_remember nw un u).2), (l_X8_lay_55 nw un sb ss sh u fi fr px (12 + 1) 0 fr)) := hF
            have hf0 := yk_fst hF
            have hg0 := yk_snd hF
            have hf1 := yk_fst hg0
            have hg1 := yk_snd hg0
            have hf2 := yk_fst hg1
            have hg2 := yk_snd hg1
            have hf3 := yk_fst hg2
            have hg3 := yk_snd hg2
            have hf4 := yk_fst hg3
            have hg4 := yk_snd hg3
            rw [hf0, hf1, hf2, hf3, hf4, hg4] at hQ
            exact hQ _ _ _ _ dX8_lay_116 hP hS
          · replace hF := hF.trans (if_pos hc16)
            refine lv_aload_n hx hb dX8_lay_100 rfl (lv_at hl 0 rfl) ?_
            refine lv_ldc (v := (-1000001)) hx hb hown (hts _ kX8_lay_4) dX8_lay_101 ?_
            refine yk_i [0] (va_runV (As := [.int (-1000001)]) (rest := []) ⟨hx, hb, hml, hown, hts⟩ (c_X8_found l D cy ta m_now m_undone m_slots m_slotKind m_hasSlot m_sheetBits m_sheetSize m_sheets m_fresh m_rootWhich m_signs m_atNought m_change m_table m_carried u fi aa bb dd ro db mn (-1000001) H.size) (cwV 1 hts gX8_lay_X8_found rfl rfl rfl hv_X8_found (yk_room hRf hRl rfl rfl)) (yk_pv (q := (RX8, TX8, 23)) hG hA hS hK hP hD [0] (by decide +kernel) rfl rfl rfl) rfl rfl hl.1 rfl (lv_room (Nat.le_of_ble_eq_true rfl)) dX8_lay_103 ⟨Nat.zero_le _, Nat.zero_le _⟩) hP hD hS hA rfl (Eq.trans (b := [ta]) rfl rfl) (fun H locs hP9 hD9 hS9 => ?_)
            replace hP : va_P D vwCl [(ta, .inr (8, [.ref m_now, .ref m_undone, .ref m_slots, .ref m_slotKind, .ref m_hasSlot, .ref m_sheetBits, .ref m_sheetSize, .ref m_sheets, .int (nI u), .int ((f_X8_found fi (-1000001)).2), .ref m_fresh, .long aa, .long bb, .long dd, .int (nI ro), .ref m_rootWhich, .int db, .ref m_signs, .ref m_atNought, .int (nI mn), .ref m_change, .ref m_table, .ref m_carried])), (m_now, .inl (cy 0, 29, .inl nw)), (m_undone, .inl (cy 0, 725, .inl un)), (m_sheetBits, .inl (cy 0, 4, .inl sb)), (m_sheetSize, .inl (cy 0, 4, .inl ss)), (m_sheets, .inl (cy 0, 64, .inl sh)), (m_fresh, .inl (cy 0, 12, .inl (l_X8_lay_55 nw un sb ss sh u fi fr px (12 + 1) 0 fr)))] H := hP9
            replace hD : va_D A [(ta, .inr (8, [.ref m_now, .ref m_undone, .ref m_slots, .ref m_slotKind, .ref m_hasSlot, .ref m_sheetBits, .ref m_sheetSize, .ref m_sheets, .int (nI u), .int ((f_X8_found fi (-1000001)).2), .ref m_fresh, .long aa, .long bb, .long dd, .int (nI ro), .ref m_rootWhich, .int db, .ref m_signs, .ref m_atNought, .int (nI mn), .ref m_change, .ref m_table, .ref m_carried])), (m_now, .inl (cy 0, 29, .inl nw)), (m_undone, .inl (cy 0, 725, .inl un)), (m_sheetBits, .inl (cy 0, 4, .inl sb)), (m_sheetSize, .inl (cy 0, 4, .inl ss)), (m_sheets, .inl (cy 0, 64, .inl sh)), (m_fresh, .inl (cy 0, 12, .inl (l_X8_lay_55 nw un sb ss sh u fi fr px (12 + 1) 0 fr)))] := hD9
            replace hS := hS9
            clear hP9 hD9 hS9
            have hF : f_X8_lay nw un sb ss sh u fi fr px = (((f_X8_found fi (-1000001)).1), u, ((f_X8_found fi (-1000001)).2), nw, un, (l_X8_lay_55 nw un sb ss sh u fi fr px (12 + 1) 0 fr)) := hF
            have hf0 := yk_fst hF
            have hg0 := yk_snd hF
            have hf1 := yk_fst hg0
            have hg1 := yk_snd hg0
            have hf2 := yk_fst hg1
            have hg2 := yk_snd hg1
            have hf3 := yk_fst hg2
            have hg3 := yk_snd hg2
            have hf4 := yk_fst hg3
            have hg4 := yk_snd hg3
            rw [hf0, hf1, hf2, hf3, hf4, hg4] at hQ
            exact hQ _ _ _ _ dX8_lay_106 hP hS
        have L55 : ∀ (M9 n55 ki : Nat) (zfresh_55 : Nat → Int32) (H : Heap) (locs : List Loc) (ls : Array Slot), n55 < M9 → ki + n55 = 12 → (l_X8_lay_55 nw un sb ss sh u fi fr px (12 + 1) 0 fr) = (l_X8_lay_55 nw un sb ss sh u fi fr px (n55 + 1) ki zfresh_55) → va_P D vwCl [(ta, .inr (8, [.ref m_now, .ref m_undone, .ref m_slots, .ref m_slotKind, .ref m_hasSlot, .ref m_sheetBits, .ref m_sheetSize, .ref m_sheets, .int (nI u), .int fi, .ref m_fresh, .long aa, .long bb, .long dd, .int (nI ro), .ref m_rootWhich, .int db, .ref m_signs, .ref m_atNought, .int (nI mn), .ref m_change, .ref m_table, .ref m_carried])), (m_now, .inl (cy 0, 29, .inl nw)), (m_undone, .inl (cy 0, 725, .inl un)), (m_sheetBits, .inl (cy 0, 4, .inl sb)), (m_sheetSize, .inl (cy 0, 4, .inl ss)), (m_sheets, .inl (cy 0, 64, .inl sh)), (m_fresh, .inl (cy 0, 12, .inl zfresh_55))] H → va_D A [(ta, .inr (8, [.ref m_now, .ref m_undone, .ref m_slots, .ref m_slotKind, .ref m_hasSlot, .ref m_sheetBits, .ref m_sheetSize, .ref m_sheets, .int (nI u), .int fi, .ref m_fresh, .long aa, .long bb, .long dd, .int (nI ro), .ref m_rootWhich, .int db, .ref m_signs, .ref m_atNought, .int (nI mn), .ref m_change, .ref m_table, .ref m_carried])), (m_now, .inl (cy 0, 29, .inl nw)), (m_undone, .inl (cy 0, 725, .inl un)), (m_sheetBits, .inl (cy 0, 4, .inl sb)), (m_sheetSize, .inl (cy 0, 4, .inl ss)), (m_sheets, .inl (cy 0, 64, .inl sh)), (m_fresh, .inl (cy 0, 12, .inl zfresh_55))] → va_S A s.heap H locs → lv_has ls 4 [(0, .ref ta), (1, .int (nI px.toNatClampNeg)), (2, .int (if 12 ≤ (ss px.toNatClampNeg) then 12 else (ss px.toNatClampNeg))), (3, .int (nI ki))] → W p l e R s m args below meth c H locs 0 0 Q (F0 m 55 ls []) := by
          clear hP hD hS hl
          intro M9
          induction M9 with
          | zero => intro n55 ki _ _ _ _ hn; exact absurd hn (Nat.not_lt_zero _)
          | succ M9 ih55 =>
            intro n55 ki zfresh_55 H locs ls hn55 hk55 hV55 hP hD hS hl
            refine lv_iload_n hx hb dX8_lay_55 rfl (lv_at hl 3 rfl) ?_
            refine lv_bipush (v := 12) hx hb dX8_lay_56 (by decide) ?_
            refine lv_icmp_ge (tgt := 93) hx hb dX8_lay_58 (by decide) (fun hc11 => ?_) (fun hc11 => ?_)
            · replace hV55 := hV55.trans (if_pos hc11)
              have hV55 : (l_X8_lay_55 nw un sb ss sh u fi fr px (12 + 1) 0 fr) = zfresh_55 := hV55
              have J15 := J15
              rw [hV55] at J15
              exact J15 _ _ _ hP hD hS (lv_sub hl [0, 1, 2] rfl)
            · replace hV55 := hV55.trans (if_neg hc11)
              have hlt55 : ki < 12 := yk_lt hk55 (by omega) hc11
              refine lv_aload_n hx hb dX8_lay_61 rfl (lv_at hl 0 rfl) ?_
              refine va_get (D := D) (ci := 8) (v := .ref m_fresh) (C := RX8) (T := TX8) (N := 23) hx hb hts uX8_lay_X8 hown hK hP 0 rfl rfl 10 (by decide) (hts _ kX8_lay_2) (fun _ h9 => h9) rfl dX8_lay_62 ?_
              refine lv_iload_n hx hb dX8_lay_65 rfl (lv_at hl 3 rfl) ?_
              refine lv_iload_n hx hb dX8_lay_66 rfl (lv_at hl 3 rfl) ?_
              refine lv_iload_n hx hb dX8_lay_67 rfl (lv_at hl 2 rfl) ?_
              have J14 : ∀ (v13 : Int32) (H : Heap) (locs : List Loc) (ls : Array Slot), v13 = (if (if 12 ≤ (ss px.toNatClampNeg) then 12 else (ss px.toNatClampNeg)) ≤ (nI ki) then 0 else (sh ((16 * px.toNatClampNeg) + ki))) → va_P D vwCl [(ta, .inr (8, [.ref m_now, .ref m_undone, .ref m_slots, .ref m_slotKind, .ref m_hasSlot, .ref m_sheetBits, .ref m_sheetSize, .ref m_sheets, .int (nI u), .int fi, .ref m_fresh, .long aa, .long bb, .long dd, .int (nI ro), .ref m_rootWhich, .int db, .ref m_signs, .ref m_atNought, .int (nI mn), .ref m_change, .ref m_table, .ref m_carried])), (m_now, .inl (cy 0, 29, .inl nw)), (m_undone, .inl (cy 0, 725, .inl un)), (m_sheetBits, .inl (cy 0, 4, .inl sb)), (m_sheetSize, .inl (cy 0, 4, .inl ss)), (m_sheets, .inl (cy 0, 64, .inl sh)), (m_fresh, .inl (cy 0, 12, .inl zfresh_55))] H → va_D A [(ta, .inr (8, [.ref m_now, .ref m_undone, .ref m_slots, .ref m_slotKind, .ref m_hasSlot, .ref m_sheetBits, .ref m_sheetSize, .ref m_sheets, .int (nI u), .int fi, .ref m_fresh, .long aa, .long bb, .long dd, .int (nI ro), .ref m_rootWhich, .int db, .ref m_signs, .ref m_atNought, .int (nI mn), .ref m_change, .ref m_table, .ref m_carried])), (m_now, .inl (cy 0, 29, .inl nw)), (m_undone, .inl (cy 0, 725, .inl un)), (m_sheetBits, .inl (cy 0, 4, .inl sb)), (m_sheetSize, .inl (cy 0, 4, .inl ss)), (m_sheets, .inl (cy 0, 64, .inl sh)), (m_fresh, .inl (cy 0, 12, .inl zfresh_55))] → va_S A s.heap H locs → lv_has ls 4 [(0, .ref ta), (1, .int (nI px.toNatClampNeg)), (2, .int (if 12 ≤ (ss px.toNatClampNeg) then 12 else (ss px.toNatClampNeg))), (3, .int (nI ki))] → W p l e R s m args below meth c H locs 0 0 Q (F0 m 86 ls [.int v13, .int (nI ki), .ref m_fresh]) := by
                clear hP hD hS hl
                intro v13 H locs ls ev13
                rw [ev13]
                clear ev13
                intro hP hD hS hl
                refine yk_ist hx hb hK hP hD hS 6 0 rfl rfl ki (by omega) (by decide) dX8_lay_86 (fun H locs hP9 hD9 hS9 => ?_)
                replace hP : va_P D vwCl [(ta, .inr (8, [.ref m_now, .ref m_undone, .ref m_slots, .ref m_slotKind, .ref m_hasSlot, .ref m_sheetBits, .ref m_sheetSize, .ref m_sheets, .int (nI u), .int fi, .ref m_fresh, .long aa, .long bb, .long dd, .int (nI ro), .ref m_rootWhich, .int db, .ref m_signs, .ref m_atNought, .int (nI mn), .ref m_change, .ref m_table, .ref m_carried])), (m_now, .inl (cy 0, 29, .inl nw)), (m_undone, .inl (cy 0, 725, .inl un)), (m_sheetBits, .inl (cy 0, 4, .inl sb)), (m_sheetSize, .inl (cy 0, 4, .inl ss)), (m_sheets, .inl (cy 0, 64, .inl sh)), (m_fresh, .inl (cy 0, 12, .inl (upd zfresh_55 ki (if (if 12 ≤ (ss px.toNatClampNeg) then 12 else (ss px.toNatClampNeg)) ≤ (nI ki) then 0 else (sh ((16 * px.toNatClampNeg) + ki))))))] H := hP9
                replace hD : va_D A [(ta, .inr (8, [.ref m_now, .ref m_undone, .ref m_slots, .ref m_slotKind, .ref m_hasSlot, .ref m_sheetBits, .ref m_sheetSize, .ref m_sheets, .int (nI u), .int fi, .ref m_fresh, .long aa, .long bb, .long dd, .int (nI ro), .ref m_rootWhich, .int db, .ref m_signs, .ref m_atNought, .int (nI mn), .ref m_change, .ref m_table, .ref m_carried])), (m_now, .inl (cy 0, 29, .inl nw)), (m_undone, .inl (cy 0, 725, .inl un)), (m_sheetBits, .inl (cy 0, 4, .inl sb)), (m_sheetSize, .inl (cy 0, 4, .inl ss)), (m_sheets, .inl (cy 0, 64, .inl sh)), (m_fresh, .inl (cy 0, 12, .inl (upd zfresh_55 ki (if (if 12 ≤ (ss px.toNatClampNeg) then 12 else (ss px.toNatClampNeg)) ≤ (nI ki) then 0 else (sh ((16 * px.toNatClampNeg) + ki))))))] := hD9
                replace hS := hS9
                clear hP9 hD9 hS9
                refine lv_iinc (v := nI (ki + 1)) (lv' := [(3, .int (nI (ki + 1))), (0, .ref ta), (1, .int (nI px.toNatClampNeg)), (2, .int (if 12 ≤ (ss px.toNatClampNeg) then 12 else (ss px.toNatClampNeg)))]) hx hb dX8_lay_87 hl (k := 3) rfl (yk_inc ki) (by decide) rfl (fun ls hl9 => ?_)
                replace hl := hl9
                clear hl9
                refine lv_goto (tgt := 55) hx hb dX8_lay_90 (by decide) ?_
                obtain ⟨n9, rfl⟩ : ∃ n9, n55 = n9 + 1 := ⟨n55 - 1, by omega⟩
                exact ih55 n9 (ki + 1) (upd zfresh_55 ki (if (if 12 ≤ (ss px.toNatClampNeg) then 12 else (ss px.toNatClampNeg)) ≤ (nI ki) then 0 else (sh ((16 * px.toNatClampNeg) + ki)))) _ _ _ (by omega) (by omega)  hV55 hP hD hS (lv_sub hl [1, 2, 3, 0] rfl)
              refine lv_icmp_ge (tgt := 85) hx hb dX8_lay_68 (by decide) (fun hc12 => ?_) (fun hc12 => ?_)
              · refine lv_iconst (v := 0) hx hb dX8_lay_85 (by decide) ?_
                exact J14 _ _ _ _ ((if_pos hc12).symm) hP hD hS (lv_sub hl [0, 1, 2, 3] rfl)
              · refine lv_aload_n hx hb dX8_lay_71 rfl (lv_at hl 0 rfl) ?_
                refine va_get (D := D) (ci := 8) (v := .ref m_sheets) (C := RX8) (T := TX8) (N := 23) hx hb hts uX8_lay_X8 hown hK hP 0 rfl rfl 7 (by decide) (hts _ kX8_lay_3) (fun _ h9 => h9) rfl dX8_lay_72 ?_
                refine lv_bipush (v := 16) hx hb dX8_lay_75 (by decide) ?_
                refine lv_iload_n hx hb dX8_lay_77 rfl (lv_at hl 1 rfl) ?_
                refine lv_imul hx hb dX8_lay_78 ?_
                refine yk_ti (y := nI (16 * px.toNatClampNeg)) (pk_mul 16 px.toNatClampNeg) ?_
                refine lv_iload_n hx hb dX8_lay_79 rfl (lv_at hl 3 rfl) ?_
                refine lv_iadd hx hb dX8_lay_80 ?_
                refine yk_ti (y := nI ((16 * px.toNatClampNeg) + ki)) (nI_add (16 * px.toNatClampNeg) ki) ?_
                refine yk_ild hx hb hK hP 5 0 rfl rfl ((16 * px.toNatClampNeg) + ki) (by omega) (by decide) dX8_lay_81 ?_
                refine lv_goto (tgt := 86) hx hb dX8_lay_82 (by decide) ?_
                exact J14 _ _ _ _ ((if_neg hc12).symm) hP hD hS (lv_sub hl [0, 1, 2, 3] rfl)
        exact L55 (12 + 1) 12 0 fr _ _ _ (Nat.lt_succ_self _) (by omega)  rfl hP hD hS (lv_sub hl [2, 3, 1, 0] rfl)
      refine lv_icmp_ge (tgt := 50) hx hb dX8_lay_38 (by decide) (fun hc4 => ?_) (fun hc4 => ?_)
      · refine lv_bipush (v := 12) hx hb dX8_lay_50 (by decide) ?_
        exact J6 _ _ _ _ ((if_pos hc4).symm) hP hD hS (lv_sub hl [0, 1] rfl)
      · refine lv_aload_n hx hb dX8_lay_41 rfl (lv_at hl 0 rfl) ?_
        refine va_get (D := D) (ci := 8) (v := .ref m_sheetSize) (C := RX8) (T := TX8) (N := 23) hx hb hts uX8_lay_X8 hown hK hP 0 rfl rfl 6 (by decide) (hts _ kX8_lay_1) (fun _ h9 => h9) rfl dX8_lay_42 ?_
        refine lv_iload_n hx hb dX8_lay_45 rfl (lv_at hl 1 rfl) ?_
        refine yk_ild hx hb hK hP 4 0 rfl rfl px.toNatClampNeg (by omega) (by decide) dX8_lay_46 ?_
        refine lv_goto (tgt := 52) hx hb dX8_lay_47 (by decide) ?_
        exact J6 _ _ _ _ ((if_neg hc4).symm) hP hD hS (lv_sub hl [0, 1] rfl)
    · replace hF := hF.trans (if_pos hc3)
      refine lv_aload_n hx hb dX8_lay_23 rfl (lv_at hl 0 rfl) ?_
      refine lv_ldc (v := (-1000002)) hx hb hown (hts _ kX8_lay_5) dX8_lay_24 ?_
      refine yk_i [0] (va_runV (As := [.int (-1000002)]) (rest := []) ⟨hx, hb, hml, hown, hts⟩ (c_X8_found l D cy ta m_now m_undone m_slots m_slotKind m_hasSlot m_sheetBits m_sheetSize m_sheets m_fresh m_rootWhich m_signs m_atNought m_change m_table m_carried u fi aa bb dd ro db mn (-1000002) H.size) (cwV 1 hts gX8_lay_X8_found rfl rfl rfl hv_X8_found (yk_room hRf hRl rfl rfl)) (yk_pv (q := (RX8, TX8, 23)) hG hA hS hK hP hD [0] (by decide +kernel) rfl rfl rfl) rfl rfl hl.1 rfl (lv_room (Nat.le_of_ble_eq_true rfl)) dX8_lay_26 ⟨Nat.zero_le _, Nat.zero_le _⟩) hP hD hS hA rfl (Eq.trans (b := [ta]) rfl rfl) (fun H locs hP9 hD9 hS9 => ?_)
      replace hP : va_P D vwCl [(ta, .inr (8, [.ref m_now, .ref m_undone, .ref m_slots, .ref m_slotKind, .ref m_hasSlot, .ref m_sheetBits, .ref m_sheetSize, .ref m_sheets, .int (nI u), .int ((f_X8_found fi (-1000002)).2), .ref m_fresh, .long aa, .long bb, .long dd, .int (nI ro), .ref m_rootWhich, .int db, .ref m_signs, .ref m_atNought, .int (nI mn), .ref m_change, .ref m_table, .ref m_carried])), (m_now, .inl (cy 0, 29, .inl nw)), (m_undone, .inl (cy 0, 725, .inl un)), (m_sheetBits, .inl (cy 0, 4, .inl sb)), (m_sheetSize, .inl (cy 0, 4, .inl ss)), (m_sheets, .inl (cy 0, 64, .inl sh)), (m_fresh, .inl (cy 0, 12, .inl fr))] H := hP9
      replace hD : va_D A [(ta, .inr (8, [.ref m_now, .ref m_undone, .ref m_slots, .ref m_slotKind, .ref m_hasSlot, .ref m_sheetBits, .ref m_sheetSize, .ref m_sheets, .int (nI u), .int ((f_X8_found fi (-1000002)).2), .ref m_fresh, .long aa, .long bb, .long dd, .int (nI ro), .ref m_rootWhich, .int db, .ref m_signs, .ref m_atNought, .int (nI mn), .ref m_change, .ref m_table, .ref m_carried])), (m_now, .inl (cy 0, 29, .inl nw)), (m_undone, .inl (cy 0, 725, .inl un)), (m_sheetBits, .inl (cy 0, 4, .inl sb)), (m_sheetSize, .inl (cy 0, 4, .inl ss)), (m_sheets, .inl (cy 0, 64, .inl sh)), (m_fresh, .inl (cy 0, 12, .inl fr))] := hD9
      replace hS := hS9
      clear hP9 hD9 hS9
      have hF : f_X8_lay nw un sb ss sh u fi fr px = (((f_X8_found fi (-1000002)).1), u, ((f_X8_found fi (-1000002)).2), nw, un, fr) := hF
      have hf0 := yk_fst hF
      have hg0 := yk_snd hF
      have hf1 := yk_fst hg0
      have hg1 := yk_snd hg0
      have hf2 := yk_fst hg1
      have hg2 := yk_snd hg1
      have hf3 := yk_fst hg2
      have hg3 := yk_snd hg2
      have hf4 := yk_fst hg3
      have hg4 := yk_snd hg3
      rw [hf0, hf1, hf2, hf3, hf4, hg4] at hQ
      exact hQ _ _ _ _ dX8_lay_29 hP hS
  · replace hF := hF.trans (if_pos hc1)
    refine lv_aload_n hx hb dX8_lay_7 rfl (lv_at hl 0 rfl) ?_
    refine lv_ldc (v := (-1000001)) hx hb hown (hts _ kX8_lay_4) dX8_lay_8 ?_
    refine yk_i [0] (va_runV (As := [.int (-1000001)]) (rest := []) ⟨hx, hb, hml, hown, hts⟩ (c_X8_found l D cy ta m_now m_undone m_slots m_slotKind m_hasSlot m_sheetBits m_sheetSize m_sheets m_fresh m_rootWhich m_signs m_atNought m_change m_table m_carried u fi aa bb dd ro db mn (-1000001) H.size) (cwV 1 hts gX8_lay_X8_found rfl rfl rfl hv_X8_found (yk_room hRf hRl rfl rfl)) (yk_pv (q := (RX8, TX8, 23)) hG hA hS hK hP hD [0] (by decide +kernel) rfl rfl rfl) rfl rfl hl.1 rfl (lv_room (Nat.le_of_ble_eq_true rfl)) dX8_lay_10 ⟨Nat.zero_le _, Nat.zero_le _⟩) hP hD hS hA rfl (Eq.trans (b := [ta]) rfl rfl) (fun H locs hP9 hD9 hS9 => ?_)
    replace hP : va_P D vwCl [(ta, .inr (8, [.ref m_now, .ref m_undone, .ref m_slots, .ref m_slotKind, .ref m_hasSlot, .ref m_sheetBits, .ref m_sheetSize, .ref m_sheets, .int (nI u), .int ((f_X8_found fi (-1000001)).2), .ref m_fresh, .long aa, .long bb, .long dd, .int (nI ro), .ref m_rootWhich, .int db, .ref m_signs, .ref m_atNought, .int (nI mn), .ref m_change, .ref m_table, .ref m_carried])), (m_now, .inl (cy 0, 29, .inl nw)), (m_undone, .inl (cy 0, 725, .inl un)), (m_sheetBits, .inl (cy 0, 4, .inl sb)), (m_sheetSize, .inl (cy 0, 4, .inl ss)), (m_sheets, .inl (cy 0, 64, .inl sh)), (m_fresh, .inl (cy 0, 12, .inl fr))] H := hP9
    replace hD : va_D A [(ta, .inr (8, [.ref m_now, .ref m_undone, .ref m_slots, .ref m_slotKind, .ref m_hasSlot, .ref m_sheetBits, .ref m_sheetSize, .ref m_sheets, .int (nI u), .int ((f_X8_found fi (-1000001)).2), .ref m_fresh, .long aa, .long bb, .long dd, .int (nI ro), .ref m_rootWhich, .int db, .ref m_signs, .ref m_atNought, .int (nI mn), .ref m_change, .ref m_table, .ref m_carried])), (m_now, .inl (cy 0, 29, .inl nw)), (m_undone, .inl (cy 0, 725, .inl un)), (m_sheetBits, .inl (cy 0, 4, .inl sb)), (m_sheetSize, .inl (cy 0, 4, .inl ss)), (m_sheets, .inl (cy 0, 64, .inl sh)), (m_fresh, .inl (cy 0, 12, .inl fr))] := hD9
    replace hS := hS9
    clear hP9 hD9 hS9
    have hF : f_X8_lay nw un sb ss sh u fi fr px = (((f_X8_found fi (-1000001)).1), u, ((f_X8_found fi (-1000001)).2), nw, un, fr) := hF
    have hf0 := yk_fst hF
    have hg0 := yk_snd hF
    have hf1 := yk_fst hg0
    have hg1 := yk_snd hg0
    have hf2 := yk_fst hg1
    have hg2 := yk_snd hg1
    have hf3 := yk_fst hg2
    have hg3 := yk_snd hg2
    have hf4 := yk_fst hg3
    have hg4 := yk_snd hg3
    rw [hf0, hf1, hf2, hf3, hf4, hg4] at hQ
    exact hQ _ _ _ _ dX8_lay_13 hP hS

theorem kX8_undo_0 : Cond.fieldLink RX8 65 "FlowPlaneModel" "undos" "I" ∈ wsX8_undo := by decide +kernel
theorem kX8_undo_1 : Cond.fieldLink RX8 7 "FlowPlaneModel" "now" "[I" ∈ wsX8_undo := by decide +kernel
theorem kX8_undo_2 : Cond.fieldLink RX8 13 "FlowPlaneModel" "undone" "[I" ∈ wsX8_undo := by decide +kernel
theorem kX8_undo_3 : Cond.constant RX8 100 (-1000006) ∈ wsX8_undo := by decide +kernel
theorem uX8_undo_X8 : ∀ w ∈ u_ws RX8 TX8 23, w ∈ wsX8_undo := by decide +kernel
def l_X8_undo_26 (nw : Nat → Int32) (un : Nat → Int32) (u : Nat) (fi : Int32) : Nat → Nat → (Nat → Int32) → (Nat → Int32)
  | 0, ki, znow_26 => znow_26
  | fu_X8_undo_26 + 1, ki, znow_26 => (if 29 ≤ (nI ki) then znow_26 else (l_X8_undo_26 nw un u fi fu_X8_undo_26 (ki + 1) (upd znow_26 ki (un ((29 * (u - 1)) + ki)))))
def f_X8_undo (nw : Nat → Int32) (un : Nat → Int32) (u : Nat) (fi : Int32) : Int32 × Nat × Int32 × (Nat → Int32) := (if (nI u) = 0 then (((f_X8_found fi (-1000006)).1), u, ((f_X8_found fi (-1000006)).2), nw) else ((nI (u - 1)), (u - 1), fi, (l_X8_undo_26 nw un u fi (29 + 1) 0 nw)))
set_option maxHeartbeats 400000000 in
set_option maxRecDepth 100000 in
theorem c_X8_undo (l : Launch) (D : va_G) (cy : Nat → ClassId) (ta : Nat) (m_now : Nat) (m_undone : Nat) (m_slots : Nat) (m_slotKind : Nat) (m_hasSlot : Nat) (m_sheetBits : Nat) (m_sheetSize : Nat) (m_sheets : Nat) (m_fresh : Nat) (m_rootWhich : Nat) (m_signs : Nat) (m_atNought : Nat) (m_change : Nat) (m_table : Nat) (m_carried : Nat) (nw : Nat → Int32) (un : Nat → Int32) (u : Nat) (fi : Int32) (aa : Int64) (bb : Int64) (dd : Int64) (ro : Nat) (db : Int32) (mn : Nat) (hu : u ≤ 25) : yk_Ci l D vwCl (yk_ty cy) yX8_undo wsX8_undo 1 21 [.ref ta] [(ta, .inr (8, [.ref m_now, .ref m_undone, .ref m_slots, .ref m_slotKind, .ref m_hasSlot, .ref m_sheetBits, .ref m_sheetSize, .ref m_sheets, .int (nI u), .int fi, .ref m_fresh, .long aa, .long bb, .long dd, .int (nI ro), .ref m_rootWhich, .int db, .ref m_signs, .ref m_atNought, .int (nI mn), .ref m_change, .ref m_table, .ref m_carried])), (m_now, .inl (cy 0, 29, .inl nw)), (m_undone, .inl (cy 0, 725, .inl un))] ((f_X8_undo nw un u fi).1) [(ta, .inr (8, [.ref m_now, .ref m_undone, .ref m_slots, .ref m_slotKind, .ref m_hasSlot, .ref m_sheetBits, .ref m_sheetSize, .ref m_sheets, .int (nI ((f_X8_undo nw un u fi).2.1)), .int ((f_X8_undo nw un u fi).2.2.1), .ref m_fresh, .long aa, .long bb, .long dd, .int (nI ro), .ref m_rootWhich, .int db, .ref m_signs, .ref m_atNought, .int (nI mn), .ref m_change, .ref m_table, .ref m_carried])), (m_now, .inl (cy 0, 29, .inl ((f_X8_undo nw un u fi).2.2.2))), (m_undone, .inl (cy 0, 725, .inl un))] := by
  refine yk_eI (cc := cX8_undo) (maxL := 2) (by decide) rfl (Nat.le_of_ble_eq_true rfl) rfl ?_
  intro p e R s m args below meth c A Q ls H locs hx hb hml hown hts hRf hRl hA hK hG hP hD hS hl hQ
  have hP : va_P D vwCl [(ta, .inr (8, [.ref m_now, .ref m_undone, .ref m_slots, .ref m_slotKind, .ref m_hasSlot, .ref m_sheetBits, .ref m_sheetSize, .ref m_sheets, .int (nI u), .int fi, .ref m_fresh, .long aa, .long bb, .long dd, .int (nI ro), .ref m_rootWhich, .int db, .ref m_signs, .ref m_atNought, .int (nI mn), .ref m_change, .ref m_table, .ref m_carried])), (m_now, .inl (cy 0, 29, .inl nw)), (m_undone, .inl (cy 0, 725, .inl un))] H := hP
  have hl : lv_has ls 2 [(0, .ref ta)] := hl
  have hown : s.vm.findClass RX8 = some m.cls := hown
  have hF : (f_X8_undo nw un u fi) = (f_X8_undo nw un u fi) := rfl
  refine lv_aload_n hx hb dX8_undo_0 rfl (lv_at hl 0 rfl) ?_
  refine va_get (D := D) (ci := 8) (v := .int (nI u)) (C := RX8) (T := TX8) (N := 23) hx hb hts uX8_undo_X8 hown hK hP 0 rfl rfl 8 (by decide) (hts _ kX8_undo_0) (fun _ h9 => h9) rfl dX8_undo_1 ?_
  refine lv_if_ne (tgt := 14) hx hb dX8_undo_4 (by decide) (fun hc1 => ?_) (fun hc1 => ?_)
  · replace hF := hF.trans (if_neg hc1)
    refine lv_aload_n hx hb dX8_undo_14 rfl (lv_at hl 0 rfl) ?_
    refine lv_dup hx hb dX8_undo_15 rfl ?_
    refine va_get (D := D) (ci := 8) (v := .int (nI u)) (C := RX8) (T := TX8) (N := 23) hx hb hts uX8_undo_X8 hown hK hP 0 rfl rfl 8 (by decide) (hts _ kX8_undo_0) (fun _ h9 => h9) rfl dX8_undo_16 ?_
    refine lv_iconst (v := 1) hx hb dX8_undo_19 (by decide) ?_
    refine lv_isub hx hb dX8_undo_20 ?_
    refine yk_ti (y := nI (u - 1)) (pk_sub (b := 1) (yk_pos0 (by assumption))) ?_
    refine va_put (D := D) (ci := 8) (v := .int (nI (u - 1))) (ty := .int) (C := RX8) (T := TX8) (N := 23) hx hb hts uX8_undo_X8 tyX8 tyX8_ok nmX8 hown hK hP hD hS 0 rfl rfl 8 (by decide) (hts _ kX8_undo_0) (fun _ h9 => h9) rfl (by decide +kernel) (yk_ni _) (yk_fi _) (Nat.le_of_ble_eq_true rfl) dX8_undo_21 (fun H locs hP9 hD9 hS9 => ?_)
    replace hP : va_P D vwCl [(ta, .inr (8, [.ref m_now, .ref m_undone, .ref m_slots, .ref m_slotKind, .ref m_hasSlot, .ref m_sheetBits, .ref m_sheetSize, .ref m_sheets, .int (nI (u - 1)), .int fi, .ref m_fresh, .long aa, .long bb, .long dd, .int (nI ro), .ref m_rootWhich, .int db, .ref m_signs, .ref m_atNought, .int (nI mn), .ref m_change, .ref m_table, .ref m_carried])), (m_now, .inl (cy 0, 29, .inl nw)), (m_undone, .inl (cy 0, 725, .inl un))] H := hP9
    replace hD : va_D A [(ta, .inr (8, [.ref m_now, .ref m_undone, .ref m_slots, .ref m_slotKind, .ref m_hasSlot, .ref m_sheetBits, .ref m_sheetSize, .ref m_sheets, .int (nI (u - 1)), .int fi, .ref m_fresh, .long aa, .long bb, .long dd, .int (nI ro), .ref m_rootWhich, .int db, .ref m_signs, .ref m_atNought, .int (nI mn), .ref m_change, .ref m_table, .ref m_carried])), (m_now, .inl (cy 0, 29, .inl nw)), (m_undone, .inl (cy 0, 725, .inl un))] := hD9
    replace hS := hS9
    clear hP9 hD9 hS9
    have hu1 : 1 ≤ u := yk_pos0 (by assumption)
    refine lv_iconst (v := 0) hx hb dX8_undo_24 (by decide) ?_
    refine lv_istore_n (lv' := [(1, .int 0), (0, .ref ta)]) hx hb dX8_undo_25 rfl hl (by decide) rfl (fun ls hl9 => ?_)
    replace hl := hl9
    clear hl9
    have J4 : ∀ (H : Heap) (locs : List Loc) (ls : Array Slot), va_P D vwCl [(ta, .inr (8, [.ref m_now, .ref m_undone, .ref m_slots, .ref m_slotKind, .ref m_hasSlot, .ref m_sheetBits, .ref m_sheetSize, .ref m_sheets, .int (nI (u - 1)), .int fi, .ref m_fresh, .long aa, .long bb, .long dd, .int (nI ro), .ref m_rootWhich, .int db, .ref m_signs, .ref m_atNought, .int (nI mn), .ref m_change, .ref m_table, .ref m_carried])), (m_now, .inl (cy 0, 29, .inl (l_X8_undo_26 nw un u fi (29 + 1) 0 nw))), (m_undone, .inl (cy 0, 725, .inl un))] H → va_D A [(ta, .inr (8, [.ref m_now, .ref m_undone, .ref m_slots, .ref m_slotKind, .ref m_hasSlot, .ref m_sheetBits, .ref m_sheetSize, .ref m_sheets, .int (nI (u - 1)), .int fi, .ref m_fresh, .long aa, .long bb, .long dd, .int (nI ro), .ref m_rootWhich, .int db, .ref m_signs, .ref m_atNought, .int (nI mn), .ref m_change, .ref m_table, .ref m_carried])), (m_now, .inl (cy 0, 29, .inl (l_X8_undo_26 nw un u fi (29 + 1) 0 nw))), (m_undone, .inl (cy 0, 725, .inl un))] → va_S A s.heap H locs → lv_has ls 2 [(0, .ref ta)] → W p l e R s m args below meth c H locs 0 0 Q (F0 m 58 ls []) := by
      clear hP hD hS hl
      intro H locs ls hP hD hS hl
      refine lv_aload_n hx hb dX8_undo_58 rfl (lv_at hl 0 rfl) ?_
      refine va_get (D := D) (ci := 8) (v := .int (nI (u - 1))) (C := RX8) (T := TX8) (N := 23) hx hb hts uX8_undo_X8 hown hK hP 0 rfl rfl 8 (by decide) (hts _ kX8_undo_0) (fun _ h9 => h9) rfl dX8_undo_59 ?_
      have hF : f_X8_undo nw un u fi = ((nI (u - 1)), (u - 1), fi, (l_X8_undo_26 nw un u fi (29 + 1) 0 nw)) := hF
      have hf0 := yk_fst hF
      have hg0 := yk_snd hF
      have hf1 := yk_fst hg0
      have hg1 := yk_snd hg0
      have hf2 := yk_fst hg1
      have hg2 := yk_snd hg1
      rw [hf0, hf1, hf2, hg2] at hQ
      exact hQ _ _ _ _ dX8_undo_62 hP hS
    have L26 : ∀ (M9 n26 ki : Nat) (znow_26 : Nat → Int32) (H : Heap) (locs : List Loc) (ls : Array Slot), n26 < M9 → ki + n26 = 29 → (l_X8_undo_26 nw un u fi (29 + 1) 0 nw) = (l_X8_undo_26 nw un u fi (n26 + 1) ki znow_26) → va_P D vwCl [(ta, .inr (8, [.ref m_now, .ref m_undone, .ref m_slots, .ref m_slotKind, .ref m_hasSlot, .ref m_sheetBits, .ref m_sheetSize, .ref m_sheets, .int (nI (u - 1)), .int fi, .ref m_fresh, .long aa, .long bb, .long dd, .int (nI ro), .ref m_rootWhich, .int db, .ref m_signs, .ref m_atNought, .int (nI mn), .ref m_change, .ref m_table, .ref m_carried])), (m_now, .inl (cy 0, 29, .inl znow_26)), (m_undone, .inl (cy 0, 725, .inl un))] H → va_D A [(ta, .inr (8, [.ref m_now, .ref m_undone, .ref m_slots, .ref m_slotKind, .ref m_hasSlot, .ref m_sheetBits, .ref m_sheetSize, .ref m_sheets, .int (nI (u - 1)), .int fi, .ref m_fresh, .long aa, .long bb, .long dd, .int (nI ro), .ref m_rootWhich, .int db, .ref m_signs, .ref m_atNought, .int (nI mn), .ref m_change, .ref m_table, .ref m_carried])), (m_now, .inl (cy 0, 29, .inl znow_26)), (m_undone, .inl (cy 0, 725, .inl un))] → va_S A s.heap H locs → lv_has ls 2 [(0, .ref ta), (1, .int (nI ki))] → W p l e R s m args below meth c H locs 0 0 Q (F0 m 26 ls []) := by
      clear hP hD hS hl
      intro M9
      induction M9 with
      | zero => intro n26 ki _ _ _ _ hn; exact absurd hn (Nat.not_lt_zero _)
      | succ M9 ih26 =>
        intro n26 ki znow_26 H locs ls hn26 hk26 hV26 hP hD hS hl
        refine lv_iload_n hx hb dX8_undo_26 rfl (lv_at hl 1 rfl) ?_
        refine lv_bipush (v := 29) hx hb dX8_undo_27 (by decide) ?_
        refine lv_icmp_ge (tgt := 58) hx hb dX8_undo_29 (by decide) (fun hc3 => ?_) (fun hc3 => ?_)
        · replace hV26 := hV26.trans (if_pos hc3)
          have hV26 : (l_X8_undo_26 nw un u fi (29 + 1) 0 nw) = znow_26 := hV26
          have J4 := J4
          rw [hV26] at J4
          exact J4 _ _ _ hP hD hS (lv_sub hl [0] rfl)
        · replace hV26 := hV26.trans (if_neg hc3)
          have hlt26 : ki < 29 := yk_lt hk26 (by omega) hc3
          refine lv_aload_n hx hb dX8_undo_32 rfl (lv_at hl 0 rfl) ?_
          refine va_get (D := D) (ci := 8) (v := .ref m_now) (C := RX8) (T := TX8) (N := 23) hx hb hts uX8_undo_X8 hown hK hP 0 rfl rfl 0 (by decide) (hts _ kX8_undo_1) (fun _ h9 => h9) rfl dX8_undo_33 ?_
          refine lv_iload_n hx hb dX8_undo_36 rfl (lv_at hl 1 rfl) ?_
          refine lv_aload_n hx hb dX8_undo_37 rfl (lv_at hl 0 rfl) ?_
          refine va_get (D := D) (ci := 8) (v := .ref m_undone) (C := RX8) (T := TX8) (N := 23) hx hb hts uX8_undo_X8 hown hK hP 0 rfl rfl 1 (by decide) (hts _ kX8_undo_2) (fun _ h9 => h9) rfl dX8_undo_38 ?_
          refine lv_bipush (v := 29) hx hb dX8_undo_41 (by decide) ?_
          refine lv_aload_n hx hb dX8_undo_43 rfl (lv_at hl 0 rfl) ?_
          refine va_get (D := D) (ci := 8) (v := .int (nI (u - 1))) (C := RX8) (T := TX8) (N := 23) hx hb hts uX8_undo_X8 hown hK hP 0 rfl rfl 8 (by decide) (hts _ kX8_undo_0) (fun _ h9 => h9) rfl dX8_undo_44 ?_
          refine lv_imul hx hb dX8_undo_47 ?_
          refine yk_ti (y := nI (29 * (u - 1))) (pk_mul 29 (u - 1)) ?_
          refine lv_iload_n hx hb dX8_undo_48 rfl (lv_at hl 1 rfl) ?_
          refine lv_iadd hx hb dX8_undo_49 ?_
          refine yk_ti (y := nI ((29 * (u - 1)) + ki)) (nI_add (29 * (u - 1)) ki) ?_
          refine yk_ild hx hb hK hP 2 0 rfl rfl ((29 * (u - 1)) + ki) (by omega) (by decide) dX8_undo_50 ?_
          refine yk_ist hx hb hK hP hD hS 1 0 rfl rfl ki (by omega) (by decide) dX8_undo_51 (fun H locs hP9 hD9 hS9 => ?_)
          replace hP : va_P D vwCl [(ta, .inr (8, [.ref m_now, .ref m_undone, .ref m_slots, .ref m_slotKind, .ref m_hasSlot, .ref m_sheetBits, .ref m_sheetSize, .ref m_sheets, .int (nI (u - 1)), .int fi, .ref m_fresh, .long aa, .long bb, .long dd, .int (nI ro), .ref m_rootWhich, .int db, .ref m_signs, .ref m_atNought, .int (nI mn), .ref m_change, .ref m_table, .ref m_carried])), (m_now, .inl (cy 0, 29, .inl (upd znow_26 ki (un ((29 * (u - 1)) + ki))))), (m_undone, .inl (cy 0, 725, .inl un))] H := hP9
          replace hD : va_D A [(ta, .inr (8, [.ref m_now, .ref m_undone, .ref m_slots, .ref m_slotKind, .ref m_hasSlot, .ref m_sheetBits, .ref m_sheetSize, .ref m_sheets, .int (nI (u - 1)), .int fi, .ref m_fresh, .long aa, .long bb, .long dd, .int (nI ro), .ref m_rootWhich, .int db, .ref m_signs, .ref m_atNought, .int (nI mn), .ref m_change, .ref m_table, .ref m_carried])), (m_now, .inl (cy 0, 29, .inl (upd znow_26 ki (un ((29 * (u - 1)) + ki))))), (m_undone, .inl (cy 0, 725, .inl un))] := hD9
          replace hS := hS9
          clear hP9 hD9 hS9
          refine lv_iinc (v := nI (ki + 1)) (lv' := [(1, .int (nI (ki + 1))), (0, .ref ta)]) hx hb dX8_undo_52 hl (k := 1) rfl (yk_inc ki) (by decide) rfl (fun ls hl9 => ?_)
          replace hl := hl9
          clear hl9
          refine lv_goto (tgt := 26) hx hb dX8_undo_55 (by decide) ?_
          obtain ⟨n9, rfl⟩ : ∃ n9, n26 = n9 + 1 := ⟨n26 - 1, by omega⟩
          exact ih26 n9 (ki + 1) (upd znow_26 ki (un ((29 * (u - 1)) + ki))) _ _ _ (by omega) (by omega)  hV26 hP hD hS (lv_sub hl [1, 0] rfl)
    exact L26 (29 + 1) 29 0 nw _ _ _ (Nat.lt_succ_self _) (by omega)  rfl hP hD hS (lv_sub hl [1, 0] rfl)
  · replace hF := hF.trans (if_pos hc1)
    refine lv_aload_n hx hb dX8_undo_7 rfl (lv_at hl 0 rfl) ?_
    refine lv_ldc (v := (-1000006)) hx hb hown (hts _ kX8_undo_3) dX8_undo_8 ?_
    refine yk_i [0] (va_runV (As := [.int (-1000006)]) (rest := []) ⟨hx, hb, hml, hown, hts⟩ (c_X8_found l D cy ta m_now m_undone m_slots m_slotKind m_hasSlot m_sheetBits m_sheetSize m_sheets m_fresh m_rootWhich m_signs m_atNought m_change m_table m_carried u fi aa bb dd ro db mn (-1000006) H.size) (cwV 1 hts gX8_undo_X8_found rfl rfl rfl hv_X8_found (yk_room hRf hRl rfl rfl)) (yk_pv (q := (RX8, TX8, 23)) hG hA hS hK hP hD [0] (by decide +kernel) rfl rfl rfl) rfl rfl hl.1 rfl (lv_room (Nat.le_of_ble_eq_true rfl)) dX8_undo_10 ⟨Nat.zero_le _, Nat.zero_le _⟩) hP hD hS hA rfl (Eq.trans (b := [ta]) rfl rfl) (fun H locs hP9 hD9 hS9 => ?_)
    replace hP : va_P D vwCl [(ta, .inr (8, [.ref m_now, .ref m_undone, .ref m_slots, .ref m_slotKind, .ref m_hasSlot, .ref m_sheetBits, .ref m_sheetSize, .ref m_sheets, .int (nI u), .int ((f_X8_found fi (-1000006)).2), .ref m_fresh, .long aa, .long bb, .long dd, .int (nI ro), .ref m_rootWhich, .int db, .ref m_signs, .ref m_atNought, .int (nI mn), .ref m_change, .ref m_table, .ref m_carried])), (m_now, .inl (cy 0, 29, .inl nw)), (m_undone, .inl (cy 0, 725, .inl un))] H := hP9
    replace hD : va_D A [(ta, .inr (8, [.ref m_now, .ref m_undone, .ref m_slots, .ref m_slotKind, .ref m_hasSlot, .ref m_sheetBits, .ref m_sheetSize, .ref m_sheets, .int (nI u), .int ((f_X8_found fi (-1000006)).2), .ref m_fresh, .long aa, .long bb, .long dd, .int (nI ro), .ref m_rootWhich, .int db, .ref m_signs, .ref m_atNought, .int (nI mn), .ref m_change, .ref m_table, .ref m_carried])), (m_now, .inl (cy 0, 29, .inl nw)), (m_undone, .inl (cy 0, 725, .inl un))] := hD9
    replace hS := hS9
    clear hP9 hD9 hS9
    have hF : f_X8_undo nw un u fi = (((f_X8_found fi (-1000006)).1), u, ((f_X8_found fi (-1000006)).2), nw) := hF
    have hf0 := yk_fst hF
    have hg0 := yk_snd hF
    have hf1 := yk_fst hg0
    have hg1 := yk_snd hg0
    have hf2 := yk_fst hg1
    have hg2 := yk_snd hg1
    rw [hf0, hf1, hf2, hg2] at hQ
    exact hQ _ _ _ _ dX8_undo_13 hP hS
