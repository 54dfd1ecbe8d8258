
theorem kX8_told_0 : Cond.fieldLink RX8 7 "FlowPlaneModel" "now" "[I" ∈ wsX8_told := by decide +kernel
theorem kX8_told_1 : Cond.fieldLink RX8 22 "FlowPlaneModel" "hasSlot" "[Z" ∈ wsX8_told := by decide +kernel
theorem kX8_told_2 : Cond.fieldLink RX8 57 "FlowPlaneModel" "findings" "I" ∈ wsX8_told := by decide +kernel
theorem kX8_told_3 : Cond.constant RX8 68 (-1000001) ∈ wsX8_told := by decide +kernel
theorem uX8_told_X8 : ∀ w ∈ u_ws RX8 TX8 23, w ∈ wsX8_told := by decide +kernel
def l_X8_told_39 (nw : Nat → Int32) (hs : Nat → Int32) (fi : Int32) (px : Int32) : Nat → Nat → Int32 → Int32
  | 0, ki, z2_39 => z2_39
  | fu_X8_told_39 + 1, ki, z2_39 => (if 12 ≤ (nI ki) then z2_39 else (l_X8_told_39 nw hs fi px fu_X8_told_39 (ki + 1) (z2_39 + (if (nw ki) = 0 then 0 else 1))))
def l_X8_told_72 (nw : Nat → Int32) (hs : Nat → Int32) (fi : Int32) (px : Int32) : Nat → Nat → Int32 → Int32
  | 0, kj, z2_72 => z2_72
  | fu_X8_told_72 + 1, kj, z2_72 => (if 4 ≤ (nI kj) then z2_72 else (l_X8_told_72 nw hs fi px fu_X8_told_72 (kj + 1) (z2_72 + (if (hs kj) = 0 then 0 else 1))))
def f_X8_told (nw : Nat → Int32) (hs : Nat → Int32) (fi : Int32) (px : Int32) : Int32 × Int32 := (if px = 0 then ((f_X8_corners nw), fi) else (if px = 1 then ((l_X8_told_39 nw hs fi px (12 + 1) 0 0), fi) else (if px = 2 then ((l_X8_told_72 nw hs fi px (4 + 1) 0 0), fi) else (if px = 3 then (fi, fi) else (((f_X8_found fi (-1000001)).1), ((f_X8_found fi (-1000001)).2))))))
set_option maxHeartbeats 400000000 in
set_option maxRecDepth 100000 in
theorem c_X8_told (l : Launch) (D : va_G) (cy : Nat → ClassId) (ta : Nat) (m_now : Nat) (m_hasSlot : Nat) (m_undone : Nat) (m_slots : Nat) (m_slotKind : Nat) (m_sheetBits : Nat) (m_sheetSize : Nat) (m_sheets : Nat) (m_fresh : Nat) (m_rootWhich : Nat) (m_signs : Nat) (m_atNought : Nat) (m_change : Nat) (m_table : Nat) (m_carried : Nat) (nw : Nat → Int32) (hs : Nat → Int32) (u : Nat) (fi : Int32) (aa : Int64) (bb : Int64) (dd : Int64) (ro : Nat) (db : Int32) (mn : Nat) (px : Int32) : yk_Ci l D vwCl (yk_ty cy) yX8_told wsX8_told 1 21 [.ref ta, .int px] [(ta, .inr (8, [.ref m_now, .ref m_undone, .ref m_slots, .ref m_slotKind, .ref m_hasSlot, .ref m_sheetBits, .ref m_sheetSize, .ref m_sheets, .int (nI u), .int fi, .ref m_fresh, .long aa, .long bb, .long dd, .int (nI ro), .ref m_rootWhich, .int db, .ref m_signs, .ref m_atNought, .int (nI mn), .ref m_change, .ref m_table, .ref m_carried])), (m_now, .inl (cy 0, 29, .inl nw)), (m_hasSlot, .inl (cy 2, 4, .inl hs))] ((f_X8_told nw hs fi px).1) [(ta, .inr (8, [.ref m_now, .ref m_undone, .ref m_slots, .ref m_slotKind, .ref m_hasSlot, .ref m_sheetBits, .ref m_sheetSize, .ref m_sheets, .int (nI u), .int ((f_X8_told nw hs fi px).2), .ref m_fresh, .long aa, .long bb, .long dd, .int (nI ro), .ref m_rootWhich, .int db, .ref m_signs, .ref m_atNought, .int (nI mn), .ref m_change, .ref m_table, .ref m_carried])), (m_now, .inl (cy 0, 29, .inl nw)), (m_hasSlot, .inl (cy 2, 4, .inl hs))] := by
  refine yk_eI (cc := cX8_told) (maxL := 4) (by decide) rfl (Nat.le_of_ble_eq_true rfl) rfl ?_
  intro p e R s m args below meth c A Q ls H locs hx hb hml hown hts hRf hRl hA hK hG hP hD hS hl hQ
  have hP : va_P D vwCl [(ta, .inr (8, [.ref m_now, .ref m_undone, .ref m_slots, .ref m_slotKind, .ref m_hasSlot, .ref m_sheetBits, .ref m_sheetSize, .ref m_sheets, .int (nI u), .int fi, .ref m_fresh, .long aa, .long bb, .long dd, .int (nI ro), .ref m_rootWhich, .int db, .ref m_signs, .ref m_atNought, .int (nI mn), .ref m_change, .ref m_table, .ref m_carried])), (m_now, .inl (cy 0, 29, .inl nw)), (m_hasSlot, .inl (cy 2, 4, .inl hs))] H := hP
  have hl : lv_has ls 4 [(0, .ref ta), (1, .int px)] := hl
  have hown : s.vm.findClass RX8 = some m.cls := hown
  have hF : (f_X8_told nw hs fi px) = (f_X8_told nw hs fi px) := rfl
  refine lv_iconst (v := 0) hx hb dX8_told_0 (by decide) ?_
  refine lv_istore_n (lv' := [(2, .int 0), (0, .ref ta), (1, .int px)]) hx hb dX8_told_1 rfl hl (by decide) rfl (fun ls hl9 => ?_)
  replace hl := hl9
  clear hl9
  refine lv_iload_n hx hb dX8_told_2 rfl (lv_at hl 2 rfl) ?_
  by_cases hc11 : px = 0
  · replace hF := hF.trans (if_pos hc11)
    refine lv_tableIn (tgt := 32) hx hb dX8_told_3 (by rw [hc11]; decide) (by rw [hc11]; decide) (by rw [hc11]; rfl) (by decide) ?_
    refine lv_aload_n hx hb dX8_told_32 rfl (lv_at hl 1 rfl) ?_
    refine yk_i [0, 1] (va_runV (As := []) (rest := []) ⟨hx, hb, hml, hown, hts⟩ (c_X8_corners l D cy ta m_now m_undone m_slots m_slotKind m_hasSlot m_sheetBits m_sheetSize m_sheets m_fresh m_rootWhich m_signs m_atNought m_change m_table m_carried nw u fi aa bb dd ro db mn H.size) (cwV 0 hts gX8_told_X8_corners rfl rfl rfl hv_X8_corners (yk_room hRf hRl rfl rfl)) (yk_pv (q := (RX8, TX8, 23)) hG hA hS hK hP hD [0, 1] (by decide +kernel) rfl rfl rfl) rfl rfl hl.1 rfl (lv_room (Nat.le_of_ble_eq_true rfl)) dX8_told_33 ⟨Nat.zero_le _, Nat.zero_le _⟩) hP hD hS hA rfl (Eq.trans (b := [ta, m_now]) rfl rfl) (fun H locs hP9 hD9 hS9 => ?_)
    replace hP : va_P D vwCl [(ta, .inr (8, [.ref m_now, .ref m_undone, .ref m_slots, .ref m_slotKind, .ref m_hasSlot, .ref m_sheetBits, .ref m_sheetSize, .ref m_sheets, .int (nI u), .int fi, .ref m_fresh, .long aa, .long bb, .long dd, .int (nI ro), .ref m_rootWhich, .int db, .ref m_signs, .ref m_atNought, .int (nI mn), .ref m_change, .ref m_table, .ref m_carried])), (m_now, .inl (cy 0, 29, .inl nw)), (m_hasSlot, .inl (cy 2, 4, .inl hs))] H := hP9
    replace hD : va_D A [(ta, .inr (8, [.ref m_now, .ref m_undone, .ref m_slots, .ref m_slotKind, .ref m_hasSlot, .ref m_sheetBits, .ref m_sheetSize, .ref m_sheets, .int (nI u), .int fi, .ref m_fresh, .long aa, .long bb, .long dd, .int (nI ro), .ref m_rootWhich, .int db, .ref m_signs, .ref m_atNought, .int (nI mn), .ref m_change, .ref m_table, .ref m_carried])), (m_now, .inl (cy 0, 29, .inl nw)), (m_hasSlot, .inl (cy 2, 4, .inl hs))] := hD9
    replace hS := hS9
    clear hP9 hD9 hS9
    have hF : f_X8_told nw hs fi px = ((f_X8_corners nw), fi) := hF
    have hf0 := yk_fst hF
    have hg0 := yk_snd hF
    rw [hf0, hg0] at hQ
    exact hQ _ _ _ _ dX8_told_36 hP hS
  replace hF := hF.trans (if_neg hc11)
  by_cases hc12 : px = 1
  · replace hF := hF.trans (if_pos hc12)
    refine lv_tableIn (tgt := 37) hx hb dX8_told_3 (by rw [hc12]; decide) (by rw [hc12]; decide) (by rw [hc12]; rfl) (by decide) ?_
    refine lv_iconst (v := 0) hx hb dX8_told_37 (by decide) ?_
    refine lv_istore_n (lv' := [(3, .int 0), (2, .int 0), (0, .ref ta), (1, .int px)]) hx hb dX8_told_38 rfl hl (by decide) rfl (fun ls hl9 => ?_)
    replace hl := hl9
    clear hl9
    have J5 : ∀ (H : Heap) (locs : List Loc) (ls : Array Slot), va_P D vwCl [(ta, .inr (8, [.ref m_now, .ref m_undone, .ref m_slots, .ref m_slotKind, .ref m_hasSlot, .ref m_sheetBits, .ref m_sheetSize, .ref m_sheets, .int (nI u), .int fi, .ref m_fresh, .long aa, .long bb, .long dd, .int (nI ro), .ref m_rootWhich, .int db, .ref m_signs, .ref m_atNought, .int (nI mn), .ref m_change, .ref m_table, .ref m_carried])), (m_now, .inl (cy 0, 29, .inl nw)), (m_hasSlot, .inl (cy 2, 4, .inl hs))] H → va_D A [(ta, .inr (8, [.ref m_now, .ref m_undone, .ref m_slots, .ref m_slotKind, .ref m_hasSlot, .ref m_sheetBits, .ref m_sheetSize, .ref m_sheets, .int (nI u), .int fi, .ref m_fresh, .long aa, .long bb, .long dd, .int (nI ro), .ref m_rootWhich, .int db, .ref m_signs, .ref m_atNought, .int (nI mn), .ref m_change, .ref m_table, .ref m_carried])), (m_now, .inl (cy 0, 29, .inl nw)), (m_hasSlot, .inl (cy 2, 4, .inl hs))] → va_S A s.heap H locs → lv_has ls 4 [(0, .ref ta), (1, .int px), (2, .int (l_X8_told_39 nw hs fi px (12 + 1) 0 0))] → W p l e R s m args below meth c H locs 0 0 Q (F0 m 68 ls []) := by
      clear hP hD hS hl
      intro H locs ls hP hD hS hl
      refine lv_iload_n hx hb dX8_told_68 rfl (lv_at hl 2 rfl) ?_
      have hF : f_X8_told nw hs fi px = ((l_X8_told_39 nw hs fi px (12 + 1) 0 0), fi) := hF
      have hf0 := yk_fst hF
      have hg0 := yk_snd hF
      rw [hf0, hg0] at hQ
      exact hQ _ _ _ _ dX8_told_69 hP hS
    have L39 : ∀ (M9 n39 ki : Nat) (z2_39 : Int32) (H : Heap) (locs : List Loc) (ls : Array Slot), n39 < M9 → ki + n39 = 12 → (l_X8_told_39 nw hs fi px (12 + 1) 0 0) = (l_X8_told_39 nw hs fi px (n39 + 1) ki z2_39) → va_P D vwCl [(ta, .inr (8, [.ref m_now, .ref m_undone, .ref m_slots, .ref m_slotKind, .ref m_hasSlot, .ref m_sheetBits, .ref m_sheetSize, .ref m_sheets, .int (nI u), .int fi, .ref m_fresh, .long aa, .long bb, .long dd, .int (nI ro), .ref m_rootWhich, .int db, .ref m_signs, .ref m_atNought, .int (nI mn), .ref m_change, .ref m_table, .ref m_carried])), (m_now, .inl (cy 0, 29, .inl nw)), (m_hasSlot, .inl (cy 2, 4, .inl hs))] H → va_D A [(ta, .inr (8, [.ref m_now, .ref m_undone, .ref m_slots, .ref m_slotKind, .ref m_hasSlot, .ref m_sheetBits, .ref m_sheetSize, .ref m_sheets, .int (nI u), .int fi, .ref m_fresh, .long aa, .long bb, .long dd, .int (nI ro), .ref m_rootWhich, .int db, .ref m_signs, .ref m_atNought, .int (nI mn), .ref m_change, .ref m_table, .ref m_carried])), (m_now, .inl (cy 0, 29, .inl nw)), (m_hasSlot, .inl (cy 2, 4, .inl hs))] → va_S A s.heap H locs → lv_has ls 4 [(0, .ref ta), (1, .int px), (2, .int z2_39), (3, .int (nI ki))] → W p l e R s m args below meth c H locs 0 0 Q (F0 m 39 ls []) := by
      clear hP hD hS hl
      intro M9
      induction M9 with
      | zero => intro n39 ki _ _ _ _ hn; exact absurd hn (Nat.not_lt_zero _)
      | succ M9 ih39 =>
        intro n39 ki z2_39 H locs ls hn39 hk39 hV39 hP hD hS hl
        refine lv_iload_n hx hb dX8_told_39 rfl (lv_at hl 3 rfl) ?_
        refine lv_bipush (v := 12) hx hb dX8_told_40 (by decide) ?_
        refine lv_icmp_ge (tgt := 68) hx hb dX8_told_42 (by decide) (fun hc1 => ?_) (fun hc1 => ?_)
        · replace hV39 := hV39.trans (if_pos hc1)
          have hV39 : (l_X8_told_39 nw hs fi px (12 + 1) 0 0) = z2_39 := hV39
          have J5 := J5
          rw [hV39] at J5
          exact J5 _ _ _ hP hD hS (lv_sub hl [0, 1, 2] rfl)
        · replace hV39 := hV39.trans (if_neg hc1)
          have hlt39 : ki < 12 := yk_lt hk39 (by omega) hc1
          refine lv_iload_n hx hb dX8_told_45 rfl (lv_at hl 2 rfl) ?_
          refine lv_aload_n hx hb dX8_told_46 rfl (lv_at hl 0 rfl) ?_
          refine va_get (D := D) (ci := 8) (v := .ref m_now) (C := RX8) (T := TX8) (N := 23) hx hb hts uX8_told_X8 hown hK hP 0 rfl rfl 0 (by decide) (hts _ kX8_told_0) (fun _ h9 => h9) rfl dX8_told_47 ?_
          refine lv_iload_n hx hb dX8_told_50 rfl (lv_at hl 3 rfl) ?_
          refine yk_ild hx hb hK hP 1 0 rfl rfl ki (by omega) (by decide) dX8_told_51 ?_
          have J4 : ∀ (v3 : Int32) (H : Heap) (locs : List Loc) (ls : Array Slot), v3 = (if (nw ki) = 0 then 0 else 1) → va_P D vwCl [(ta, .inr (8, [.ref m_now, .ref m_undone, .ref m_slots, .ref m_slotKind, .ref m_hasSlot, .ref m_sheetBits, .ref m_sheetSize, .ref m_sheets, .int (nI u), .int fi, .ref m_fresh, .long aa, .long bb, .long dd, .int (nI ro), .ref m_rootWhich, .int db, .ref m_signs, .ref m_atNought, .int (nI mn), .ref m_change, .ref m_table, .ref m_carried])), (m_now, .inl (cy 0, 29, .inl nw)), (m_hasSlot, .inl (cy 2, 4, .inl hs))] H → va_D A [(ta, .inr (8, [.ref m_now, .ref m_undone, .ref m_slots, .ref m_slotKind, .ref m_hasSlot, .ref m_sheetBits, .ref m_sheetSize, .ref m_sheets, .int (nI u), .int fi, .ref m_fresh, .long aa, .long bb, .long dd, .int (nI ro), .ref m_rootWhich, .int db, .ref m_signs, .ref m_atNought, .int (nI mn), .ref m_change, .ref m_table, .ref m_carried])), (m_now, .inl (cy 0, 29, .inl nw)), (m_hasSlot, .inl (cy 2, 4, .inl hs))] → va_S A s.heap H locs → lv_has ls 4 [(0, .ref ta), (1, .int px), (2, .int z2_39), (3, .int (nI ki))] → W p l e R s m args below meth c H locs 0 0 Q (F0 m 60 ls [.int v3, .int z2_39]) := by
            clear hP hD hS hl
            intro v3 H locs ls ev3
            rw [ev3]
            clear ev3
            intro hP hD hS hl
            refine lv_iadd hx hb dX8_told_60 ?_
            refine lv_istore_n (lv' := [(2, .int (z2_39 + (if (nw ki) = 0 then 0 else 1))), (0, .ref ta), (1, .int px), (3, .int (nI ki))]) hx hb dX8_told_61 rfl hl (by decide) rfl (fun ls hl9 => ?_)
            replace hl := hl9
            clear hl9
            refine lv_iinc (v := nI (ki + 1)) (lv' := [(3, .int (nI (ki + 1))), (2, .int (z2_39 + (if (nw ki) = 0 then 0 else 1))), (0, .ref ta), (1, .int px)]) hx hb dX8_told_62 hl (k := 3) rfl (yk_inc ki) (by decide) rfl (fun ls hl9 => ?_)
            replace hl := hl9
            clear hl9
            refine lv_goto (tgt := 39) hx hb dX8_told_65 (by decide) ?_
            obtain ⟨n9, rfl⟩ : ∃ n9, n39 = n9 + 1 := ⟨n39 - 1, by omega⟩
            exact ih39 n9 (ki + 1) (z2_39 + (if (nw ki) = 0 then 0 else 1)) _ _ _ (by omega) (by omega)  hV39 hP hD hS (lv_sub hl [2, 3, 1, 0] rfl)
          refine lv_if_eq (tgt := 59) hx hb dX8_told_52 (by decide) (fun hc2 => ?_) (fun hc2 => ?_)
          · refine lv_iconst (v := 0) hx hb dX8_told_59 (by decide) ?_
            exact J4 _ _ _ _ ((if_pos hc2).symm) hP hD hS (lv_sub hl [0, 1, 2, 3] rfl)
          · refine lv_iconst (v := 1) hx hb dX8_told_55 (by decide) ?_
            refine lv_goto (tgt := 60) hx hb dX8_told_56 (by decide) ?_
            exact J4 _ _ _ _ ((if_neg hc2).symm) hP hD hS (lv_sub hl [0, 1, 2, 3] rfl)
    exact L39 (12 + 1) 12 0 0 _ _ _ (Nat.lt_succ_self _) (by omega)  rfl hP hD hS (lv_sub hl [2, 3, 1, 0] rfl)
  replace hF := hF.trans (if_neg hc12)
  by_cases hc13 : px = 2
  · replace hF := hF.trans (if_pos hc13)
    refine lv_tableIn (tgt := 70) hx hb dX8_told_3 (by rw [hc13]; decide) (by rw [hc13]; decide) (by rw [hc13]; rfl) (by decide) ?_
    refine lv_iconst (v := 0) hx hb dX8_told_70 (by decide) ?_
    refine lv_istore_n (lv' := [(3, .int 0), (2, .int 0), (0, .ref ta), (1, .int px)]) hx hb dX8_told_71 rfl hl (by decide) rfl (fun ls hl9 => ?_)
    replace hl := hl9
    clear hl9
    have J10 : ∀ (H : Heap) (locs : List Loc) (ls : Array Slot), va_P D vwCl [(ta, .inr (8, [.ref m_now, .ref m_undone, .ref m_slots, .ref m_slotKind, .ref m_hasSlot, .ref m_sheetBits, .ref m_sheetSize, .ref m_sheets, .int (nI u), .int fi, .ref m_fresh, .long aa, .long bb, .long dd, .int (nI ro), .ref m_rootWhich, .int db, .ref m_signs, .ref m_atNought, .int (nI mn), .ref m_change, .ref m_table, .ref m_carried])), (m_now, .inl (cy 0, 29, .inl nw)), (m_hasSlot, .inl (cy 2, 4, .inl hs))] H → va_D A [(ta, .inr (8, [.ref m_now, .ref m_undone, .ref m_slots, .ref m_slotKind, .ref m_hasSlot, .ref m_sheetBits, .ref m_sheetSize, .ref m_sheets, .int (nI u), .int fi, .ref m_fresh, .long aa, .long bb, .long dd, .int (nI ro), .ref m_rootWhich, .int db, .ref m_signs, .ref m_atNought, .int (nI mn), .ref m_change, .ref m_table, .ref m_carried])), (m_now, .inl (cy 0, 29, .inl nw)), (m_hasSlot, .inl (cy 2, 4, .inl hs))] → va_S A s.heap H locs → lv_has ls 4 [(0, .ref ta), (1, .int px), (2, .int (l_X8_told_72 nw hs fi px (4 + 1) 0 0))] → W p l e R s m args below meth c H locs 0 0 Q (F0 m 100 ls []) := by
      clear hP hD hS hl
      intro H locs ls hP hD hS hl
      refine lv_iload_n hx hb dX8_told_100 rfl (lv_at hl 2 rfl) ?_
      have hF : f_X8_told nw hs fi px = ((l_X8_told_72 nw hs fi px (4 + 1) 0 0), fi) := hF
      have hf0 := yk_fst hF
      have hg0 := yk_snd hF
      rw [hf0, hg0] at hQ
      exact hQ _ _ _ _ dX8_told_101 hP hS
    have L72 : ∀ (M9 n72 kj : Nat) (z2_72 : Int32) (H : Heap) (locs : List Loc) (ls : Array Slot), n72 < M9 → kj + n72 = 4 → (l_X8_told_72 nw hs fi px (4 + 1) 0 0) = (l_X8_told_72 nw hs fi px (n72 + 1) kj z2_72) → va_P D vwCl [(ta, .inr (8, [.ref m_now, .ref m_undone, .ref m_slots, .ref m_slotKind, .ref m_hasSlot, .ref m_sheetBits, .ref m_sheetSize, .ref m_sheets, .int (nI u), .int fi, .ref m_fresh, .long aa, .long bb, .long dd, .int (nI ro), .ref m_rootWhich, .int db, .ref m_signs, .ref m_atNought, .int (nI mn), .ref m_change, .ref m_table, .ref m_carried])), (m_now, .inl (cy 0, 29, .inl nw)), (m_hasSlot, .inl (cy 2, 4, .inl hs))] H → va_D A [(ta, .inr (8, [.ref m_now, .ref m_undone, .ref m_slots, .ref m_slotKind, .ref m_hasSlot, .ref m_sheetBits, .ref m_sheetSize, .ref m_sheets, .int (nI u), .int fi, .ref m_fresh, .long aa, .long bb, .long dd, .int (nI ro), .ref m_rootWhich, .int db, .ref m_signs, .ref m_atNought, .int (nI mn), .ref m_change, .ref m_table, .ref m_carried])), (m_now, .inl (cy 0, 29, .inl nw)), (m_hasSlot, .inl (cy 2, 4, .inl hs))] → va_S A s.heap H locs → lv_has ls 4 [(0, .ref ta), (1, .int px), (2, .int z2_72), (3, .int (nI kj))] → W p l e R s m args below meth c H locs 0 0 Q (F0 m 72 ls []) := by
      clear hP hD hS hl
      intro M9
      induction M9 with
      | zero => intro n72 kj _ _ _ _ hn; exact absurd hn (Nat.not_lt_zero _)
      | succ M9 ih72 =>
        intro n72 kj z2_72 H locs ls hn72 hk72 hV72 hP hD hS hl
        refine lv_iload_n hx hb dX8_told_72 rfl (lv_at hl 3 rfl) ?_
        refine lv_iconst (v := 4) hx hb dX8_told_73 (by decide) ?_
        refine lv_icmp_ge (tgt := 100) hx hb dX8_told_74 (by decide) (fun hc6 => ?_) (fun hc6 => ?_)
        · replace hV72 := hV72.trans (if_pos hc6)
          have hV72 : (l_X8_told_72 nw hs fi px (4 + 1) 0 0) = z2_72 := hV72
          have J10 := J10
          rw [hV72] at J10
          exact J10 _ _ _ hP hD hS (lv_sub hl [0, 1, 2] rfl)
        · replace hV72 := hV72.trans (if_neg hc6)
          have hlt72 : kj < 4 := yk_lt hk72 (by omega) hc6
          refine lv_iload_n hx hb dX8_told_77 rfl (lv_at hl 2 rfl) ?_
          refine lv_aload_n hx hb dX8_told_78 rfl (lv_at hl 0 rfl) ?_
          refine va_get (D := D) (ci := 8) (v := .ref m_hasSlot) (C := RX8) (T := TX8) (N := 23) hx hb hts uX8_told_X8 hown hK hP 0 rfl rfl 4 (by decide) (hts _ kX8_told_1) (fun _ h9 => h9) rfl dX8_told_79 ?_
          refine lv_iload_n hx hb dX8_told_82 rfl (lv_at hl 3 rfl) ?_
          refine yk_zld hx hb hK hP 2 2 rfl rfl kj (by omega) (by decide) dX8_told_83 ?_
          have J9 : ∀ (v8 : Int32) (H : Heap) (locs : List Loc) (ls : Array Slot), v8 = (if (hs kj) = 0 then 0 else 1) → va_P D vwCl [(ta, .inr (8, [.ref m_now, .ref m_undone, .ref m_slots, .ref m_slotKind, .ref m_hasSlot, .ref m_sheetBits, .ref m_sheetSize, .ref m_sheets, .int (nI u), .int fi, .ref m_fresh, .long aa, .long bb, .long dd, .int (nI ro), .ref m_rootWhich, .int db, .ref m_signs, .ref m_atNought, .int (nI mn), .ref m_change, .ref m_table, .ref m_carried])), (m_now, .inl (cy 0, 29, .inl nw)), (m_hasSlot, .inl (cy 2, 4, .inl hs))] H → va_D A [(ta, .inr (8, [.ref m_now, .ref m_undone, .ref m_slots, .ref m_slotKind, .ref m_hasSlot, .ref m_sheetBits, .ref m_sheetSize, .ref m_sheets, .int (nI u), .int fi, .ref m_fresh, .long aa, .long bb, .long dd, .int (nI ro), .ref m_rootWhich, .int db, .ref m_signs, .ref m_atNought, .int (nI mn), .ref m_change, .ref m_table, .ref m_carried])), (m_now, .inl (cy 0, 29, .inl nw)), (m_hasSlot, .inl (cy 2, 4, .inl hs))] → va_S A s.heap H locs → lv_has ls 4 [(0, .ref ta), (1, .int px), (2, .int z2_72), (3, .int (nI kj))] → W p l e R s m args below meth c H locs 0 0 Q (F0 m 92 ls [.int v8, .int z2_72]) := by
            clear hP hD hS hl
            intro v8 H locs ls ev8
            rw [ev8]
            clear ev8
            intro hP hD hS hl
            refine lv_iadd hx hb dX8_told_92 ?_
            refine lv_istore_n (lv' := [(2, .int (z2_72 + (if (hs kj) = 0 then 0 else 1))), (0, .ref ta), (1, .int px), (3, .int (nI kj))]) hx hb dX8_told_93 rfl hl (by decide) rfl (fun ls hl9 => ?_)
            replace hl := hl9
            clear hl9
            refine lv_iinc (v := nI (kj + 1)) (lv' := [(3, .int (nI (kj + 1))), (2, .int (z2_72 + (if (hs kj) = 0 then 0 else 1))), (0, .ref ta), (1, .int px)]) hx hb dX8_told_94 hl (k := 3) rfl (yk_inc kj) (by decide) rfl (fun ls hl9 => ?_)
            replace hl := hl9
            clear hl9
            refine lv_goto (tgt := 72) hx hb dX8_told_97 (by decide) ?_
            obtain ⟨n9, rfl⟩ : ∃ n9, n72 = n9 + 1 := ⟨n72 - 1, by omega⟩
            exact ih72 n9 (kj + 1) (z2_72 + (if (hs kj) = 0 then 0 else 1)) _ _ _ (by omega) (by omega)  hV72 hP hD hS (lv_sub hl [2, 3, 1, 0] rfl)
          refine lv_if_eq (tgt := 91) hx hb dX8_told_84 (by decide) (fun hc7 => ?_) (fun hc7 => ?_)
          · refine lv_iconst (v := 0) hx hb dX8_told_91 (by decide) ?_
            exact J9 _ _ _ _ ((if_pos hc7).symm) hP hD hS (lv_sub hl [0, 1, 2, 3] rfl)
          · refine lv_iconst (v := 1) hx hb dX8_told_87 (by decide) ?_
            refine lv_goto (tgt := 92) hx hb dX8_told_88 (by decide) ?_
            exact J9 _ _ _ _ ((if_neg hc7).symm) hP hD hS (lv_sub hl [0, 1, 2, 3] rfl)
    exact L72 (4 + 1) 4 0 0 _ _ _ (Nat.lt_succ_self _) (by omega)  rfl hP hD hS (lv_sub hl [2, 3, 1, 0] rfl)
  replace hF := hF.trans (if_neg hc13)
  by_cases hc14 : px = 3
  · replace hF := hF.trans (if_pos hc14)
    refine lv_tableIn (tgt := 102) hx hb dX8_told_3 (by rw [hc14]; decide) (by rw [hc14]; decide) (by rw [hc14]; rfl) (by decide) ?_
    refine lv_aload_n hx hb dX8_told_102 rfl (lv_at hl 1 rfl) ?_
    refine va_get (D := D) (ci := 8) (v := .int fi) (C := RX8) (T := TX8) (N := 23) hx hb hts uX8_told_X8 hown hK hP 0 rfl rfl 9 (by decide) (hts _ kX8_told_2) (fun _ h9 => h9) rfl dX8_told_103 ?_
    have hF : f_X8_told nw hs fi px = (fi, fi) := hF
    have hf0 := yk_fst hF
    have hg0 := yk_snd hF
    rw [hf0, hg0] at hQ
    exact hQ _ _ _ _ dX8_told_106 hP hS
  replace hF := hF.trans (if_neg hc14)
  refine lv_tableOut (tgt := 107) hx hb dX8_told_3 (yk_swo hc11 hc12 hc13 hc14) (by decide) ?_
  refine lv_aload_n hx hb dX8_told_107 rfl (lv_at hl 1 rfl) ?_
  refine lv_ldc (v := (-1000001)) hx hb hown (hts _ kX8_told_3) dX8_told_108 ?_
  refine yk_i [0] (va_runV (As := [.int (-1000001)]) (rest := []) ⟨hx, hb, hml, hown, hts⟩ (c_X8_found l D cy ta m_now m_undone m_slots m_slotKind m_hasSlot m_sheetBits m_sheetSize m_sheets m_fresh m_rootWhich m_signs m_atNought m_change m_table m_carried u fi aa bb dd ro db mn (-1000001) H.size) (cwV 1 hts gX8_told_X8_found rfl rfl rfl hv_X8_found (yk_room hRf hRl rfl rfl)) (yk_pv (q := (RX8, TX8, 23)) hG hA hS hK hP hD [0] (by decide +kernel) rfl rfl rfl) rfl rfl hl.1 rfl (lv_room (Nat.le_of_ble_eq_true rfl)) dX8_told_110 ⟨Nat.zero_le _, Nat.zero_le _⟩) hP hD hS hA rfl (Eq.trans (b := [ta]) rfl rfl) (fun H locs hP9 hD9 hS9 => ?_)
  replace hP : va_P D vwCl [(ta, .inr (8, [.ref m_now, .ref m_undone, .ref m_slots, .ref m_slotKind, .ref m_hasSlot, .ref m_sheetBits, .ref m_sheetSize, .ref m_sheets, .int (nI u), .int ((f_X8_found fi (-1000001)).2), .ref m_fresh, .long aa, .long bb, .long dd, .int (nI ro), .ref m_rootWhich, .int db, .ref m_signs, .ref m_atNought, .int (nI mn), .ref m_change, .ref m_table, .ref m_carried])), (m_now, .inl (cy 0, 29, .inl nw)), (m_hasSlot, .inl (cy 2, 4, .inl hs))] H := hP9
  replace hD : va_D A [(ta, .inr (8, [.ref m_now, .ref m_undone, .ref m_slots, .ref m_slotKind, .ref m_hasSlot, .ref m_sheetBits, .ref m_sheetSize, .ref m_sheets, .int (nI u), .int ((f_X8_found fi (-1000001)).2), .ref m_fresh, .long aa, .long bb, .long dd, .int (nI ro), .ref m_rootWhich, .int db, .ref m_signs, .ref m_atNought, .int (nI mn), .ref m_change, .ref m_table, .ref m_carried])), (m_now, .inl (cy 0, 29, .inl nw)), (m_hasSlot, .inl (cy 2, 4, .inl hs))] := hD9
  replace hS := hS9
  clear hP9 hD9 hS9
  have hF : f_X8_told nw hs fi px = (((f_X8_found fi (-1000001)).1), ((f_X8_found fi (-1000001)).2)) := hF
  have hf0 := yk_fst hF
  have hg0 := yk_snd hF
  rw [hf0, hg0] at hQ
  exact hQ _ _ _ _ dX8_told_113 hP hS
