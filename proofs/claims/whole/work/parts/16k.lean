theorem hv_X8_signOfSum : yX8_signOfSum.cls = RX8 ∧ yX8_signOfSum.cls ≠ "java/lang/invoke/MethodHandle" ∧ yX8_signOfSum.cls ≠ "java/lang/invoke/VarHandle" ∧ (parseMethodDescriptor yX8_signOfSum.desc).map (fun d => d.parameters.length) = some 3 := by decide +kernel
theorem hs_X8_signOfSum : yX8_signOfSum.cls ≠ "java/lang/invoke/MethodHandle" ∧ yX8_signOfSum.cls ≠ "java/lang/invoke/VarHandle" ∧ (parseMethodDescriptor yX8_signOfSum.desc).map (fun d => d.parameters.length) = some 3 := by decide +kernel
theorem kX8_held_0 : Cond.constant RX8 138 (-1000004) ∈ wsX8_held := by decide +kernel
def l_X8_held_23 (nw : Nat → Int32) (fi : Int32) (aa : Int64) (bb : Int64) (dd : Int64) (ro : Nat) (rt : Nat → Int32) (db : Int32) (bq : Int32) (n : Nat) : Nat → Nat → (Nat → Int32) → Int64 → Int64 → Int64 → Nat → Int32 → Int32 × Int32 × Int64 × Int64 × Int64 × Nat × Int32 × (Nat → Int32)
  | 0, ki, zrootWhich_23, zT_11_23, zT_12_23, zT_13_23, qT_14_23, zT_16_23 => (0, fi, aa, bb, dd, ro, db, rt)
  | fu_X8_held_23 + 1, ki, zrootWhich_23, zT_11_23, zT_12_23, zT_13_23, qT_14_23, zT_16_23 => (if (nI n) ≤ (nI ki) then (1, fi, zT_11_23, zT_12_23, zT_13_23, qT_14_23, zT_16_23, zrootWhich_23) else (if ((f_X8_acrossOf nw qT_14_23 zrootWhich_23 zT_16_23 ki n).1) = (if bq = 0 then 1 else (-1)) then (l_X8_held_23 nw fi aa bb dd ro rt db bq n fu_X8_held_23 (ki + 1) ((f_X8_acrossOf nw qT_14_23 zrootWhich_23 zT_16_23 ki n).2.2.2.2.2.2) ((f_X8_acrossOf nw qT_14_23 zrootWhich_23 zT_16_23 ki n).2.1) ((f_X8_acrossOf nw qT_14_23 zrootWhich_23 zT_16_23 ki n).2.2.1) ((f_X8_acrossOf nw qT_14_23 zrootWhich_23 zT_16_23 ki n).2.2.2.1) ((f_X8_acrossOf nw qT_14_23 zrootWhich_23 zT_16_23 ki n).2.2.2.2.1) ((f_X8_acrossOf nw qT_14_23 zrootWhich_23 zT_16_23 ki n).2.2.2.2.2.1)) else (0, fi, ((f_X8_acrossOf nw qT_14_23 zrootWhich_23 zT_16_23 ki n).2.1), ((f_X8_acrossOf nw qT_14_23 zrootWhich_23 zT_16_23 ki n).2.2.1), ((f_X8_acrossOf nw qT_14_23 zrootWhich_23 zT_16_23 ki n).2.2.2.1), ((f_X8_acrossOf nw qT_14_23 zrootWhich_23 zT_16_23 ki n).2.2.2.2.1), ((f_X8_acrossOf nw qT_14_23 zrootWhich_23 zT_16_23 ki n).2.2.2.2.2.1), ((f_X8_acrossOf nw qT_14_23 zrootWhich_23 zT_16_23 ki n).2.2.2.2.2.2))))
def f_X8_held (nw : Nat → Int32) (fi : Int32) (aa : Int64) (bb : Int64) (dd : Int64) (ro : Nat) (rt : Nat → Int32) (db : Int32) (bq : Int32) (n : Nat) : Int32 × Int32 × Int64 × Int64 × Int64 × Nat × Int32 × (Nat → Int32) := (if (f_X8_isSimple nw n) = 0 then (((f_X8_found fi (-1000004)).1), ((f_X8_found fi (-1000004)).2), aa, bb, dd, ro, db, rt) else (if 0 < (f_X8_areaOf nw n) then (l_X8_held_23 nw fi aa bb dd ro rt db bq n (n + 1) 0 rt aa bb dd ro db) else (((f_X8_found fi (-1000004)).1), ((f_X8_found fi (-1000004)).2), aa, bb, dd, ro, db, rt)))
set_option maxHeartbeats 400000000 in
set_option maxRecDepth 100000 in
theorem c_X8_held (l : Launch) (D : va_G) (cy : Nat → ClassId) (ta : Nat) (m_now : Nat) (m_rootWhich : Nat) (m_undone : Nat) (m_slots : Nat) (m_slotKind : Nat) (m_hasSlot : Nat) (m_sheetBits : Nat) (m_sheetSize : Nat) (m_sheets : Nat) (m_fresh : Nat) (m_signs : Nat) (m_atNought : Nat) (m_change : Nat) (m_table : Nat) (m_carried : Nat) (nw : Nat → Int32) (u : Nat) (fi : Int32) (aa : Int64) (bb : Int64) (dd : Int64) (ro : Nat) (rt : Nat → Int32) (db : Int32) (mn : Nat) (bq : Int32) (n : Nat) (hn12 : nw 12 = nI n) (hn : n ≤ 8) : yk_Ci l D vwCl (yk_ty cy) yX8_held wsX8_held 6 143 [.ref ta, .int bq] [(ta, .inr (8, [.ref m_now, .ref m_undone, .ref m_slots, .ref m_slotKind, .ref m_hasSlot, .ref m_sheetBits, .ref m_sheetSize, .ref m_sheets, .int (nI u), .int fi, .ref m_fresh, .long aa, .long bb, .long dd, .int (nI ro), .ref m_rootWhich, .int db, .ref m_signs, .ref m_atNought, .int (nI mn), .ref m_change, .ref m_table, .ref m_carried])), (m_now, .inl (cy 0, 29, .inl nw)), (m_rootWhich, .inl (cy 0, 2, .inl rt))] ((f_X8_held nw fi aa bb dd ro rt db bq n).1) [(ta, .inr (8, [.ref m_now, .ref m_undone, .ref m_slots, .ref m_slotKind, .ref m_hasSlot, .ref m_sheetBits, .ref m_sheetSize, .ref m_sheets, .int (nI u), .int ((f_X8_held nw fi aa bb dd ro rt db bq n).2.1), .ref m_fresh, .long ((f_X8_held nw fi aa bb dd ro rt db bq n).2.2.1), .long ((f_X8_held nw fi aa bb dd ro rt db bq n).2.2.2.1), .long ((f_X8_held nw fi aa bb dd ro rt db bq n).2.2.2.2.1), .int (nI ((f_X8_held nw fi aa bb dd ro rt db bq n).2.2.2.2.2.1)), .ref m_rootWhich, .int ((f_X8_held nw fi aa bb dd ro rt db bq n).2.2.2.2.2.2.1), .ref m_signs, .ref m_atNought, .int (nI mn), .ref m_change, .ref m_table, .ref m_carried])), (m_now, .inl (cy 0, 29, .inl nw)), (m_rootWhich, .inl (cy 0, 2, .inl ((f_X8_held nw fi aa bb dd ro rt db bq n).2.2.2.2.2.2.2)))] := by
  refine yk_eI (cc := cX8_held) (maxL := 3) (by decide) rfl (Nat.le_of_ble_eq_true rfl) rfl ?_
  intro p e R s m args below meth c A Q ls H locs hx hb hml hown hts hRf hRl hA hK hG hP hD hS hl hQ
  have hP : va_P D vwCl [(ta, .inr (8, [.ref m_now, .ref m_undone, .ref m_slots, .ref m_slotKind, .ref m_hasSlot, .ref m_sheetBits, .ref m_sheetSize, .ref m_sheets, .int (nI u), .int fi, .ref m_fresh, .long aa, .long bb, .long dd, .int (nI ro), .ref m_rootWhich, .int db, .ref m_signs, .ref m_atNought, .int (nI mn), .ref m_change, .ref m_table, .ref m_carried])), (m_now, .inl (cy 0, 29, .inl nw)), (m_rootWhich, .inl (cy 0, 2, .inl rt))] H := hP
  have hl : lv_has ls 3 [(0, .ref ta), (1, .int bq)] := hl
  have hown : s.vm.findClass RX8 = some m.cls := hown
  have hF : (f_X8_held nw fi aa bb dd ro rt db bq n) = (f_X8_held nw fi aa bb dd ro rt db bq n) := rfl
  refine lv_aload_n hx hb dX8_held_0 rfl (lv_at hl 0 rfl) ?_
  refine yk_i [0, 1] (va_runV (As := []) (rest := []) ⟨hx, hb, hml, hown, hts⟩ (c_X8_isSimple l D cy ta m_now m_undone m_slots m_slotKind m_hasSlot m_sheetBits m_sheetSize m_sheets m_fresh m_rootWhich m_signs m_atNought m_change m_table m_carried nw u fi aa bb dd ro db mn n hn12 hn H.size) (cwV 0 hts gX8_held_X8_isSimple rfl rfl rfl hv_X8_isSimple (yk_room hRf hRl rfl rfl)) (yk_pv (q := (RX8, TX8, 23)) hG hA hS hK hP hD [0, 1] (by decide +kernel) rfl rfl rfl) rfl rfl hl.1 rfl (lv_room (Nat.le_of_ble_eq_true rfl)) dX8_held_1 ⟨Nat.zero_le _, Nat.zero_le _⟩) hP hD hS hA rfl (Eq.trans (b := [ta, m_now]) rfl rfl) (fun H locs hP9 hD9 hS9 => ?_)
  replace hP : va_P D vwCl [(ta, .inr (8, [.ref m_now, .ref m_undone, .ref m_slots, .ref m_slotKind, .ref m_hasSlot, .ref m_sheetBits, .ref m_sheetSize, .ref m_sheets, .int (nI u), .int fi, .ref m_fresh, .long aa, .long bb, .long dd, .int (nI ro), .ref m_rootWhich, .int db, .ref m_signs, .ref m_atNought, .int (nI mn), .ref m_change, .ref m_table, .ref m_carried])), (m_now, .inl (cy 0, 29, .inl nw)), (m_rootWhich, .inl (cy 0, 2, .inl rt))] H := hP9
  replace hD : va_D A [(ta, .inr (8, [.ref m_now, .ref m_undone, .ref m_slots, .ref m_slotKind, .ref m_hasSlot, .ref m_sheetBits, .ref m_sheetSize, .ref m_sheets, .int (nI u), .int fi, .ref m_fresh, .long aa, .long bb, .long dd, .int (nI ro), .ref m_rootWhich, .int db, .ref m_signs, .ref m_atNought, .int (nI mn), .ref m_change, .ref m_table, .ref m_carried])), (m_now, .inl (cy 0, 29, .inl nw)), (m_rootWhich, .inl (cy 0, 2, .inl rt))] := hD9
  replace hS := hS9
  clear hP9 hD9 hS9
  refine lv_if_eq (tgt := 14) hx hb dX8_held_4 (by decide) (fun hc1 => ?_) (fun hc1 => ?_)
  · replace hF := hF.trans (if_pos hc1)
    refine lv_aload_n hx hb dX8_held_14 rfl (lv_at hl 0 rfl) ?_
    refine lv_ldc (v := (-1000004)) hx hb hown (hts _ kX8_held_0) dX8_held_15 ?_
    refine yk_i [0] (va_runV (As := [.int (-1000004)]) (rest := []) ⟨hx, hb, hml, hown, hts⟩ (c_X8_found l D cy ta m_now m_undone m_slots m_slotKind m_hasSlot m_sheetBits m_sheetSize m_sheets m_fresh m_rootWhich m_signs m_atNought m_change m_table m_carried u fi aa bb dd ro db mn (-1000004) H.size) (cwV 1 hts gX8_held_X8_found rfl rfl rfl hv_X8_found (yk_room hRf hRl rfl rfl)) (yk_pv (q := (RX8, TX8, 23)) hG hA hS hK hP hD [0] (by decide +kernel) rfl rfl rfl) rfl rfl hl.1 rfl (lv_room (Nat.le_of_ble_eq_true rfl)) dX8_held_17 ⟨Nat.zero_le _, Nat.zero_le _⟩) hP hD hS hA rfl (Eq.trans (b := [ta]) rfl rfl) (fun H locs hP9 hD9 hS9 => ?_)
    replace hP : va_P D vwCl [(ta, .inr (8, [.ref m_now, .ref m_undone, .ref m_slots, .ref m_slotKind, .ref m_hasSlot, .ref m_sheetBits, .ref m_sheetSize, .ref m_sheets, .int (nI u), .int ((f_X8_found fi (-1000004)).2), .ref m_fresh, .long aa, .long bb, .long dd, .int (nI ro), .ref m_rootWhich, .int db, .ref m_signs, .ref m_atNought, .int (nI mn), .ref m_change, .ref m_table, .ref m_carried])), (m_now, .inl (cy 0, 29, .inl nw)), (m_rootWhich, .inl (cy 0, 2, .inl rt))] H := hP9
    replace hD : va_D A [(ta, .inr (8, [.ref m_now, .ref m_undone, .ref m_slots, .ref m_slotKind, .ref m_hasSlot, .ref m_sheetBits, .ref m_sheetSize, .ref m_sheets, .int (nI u), .int ((f_X8_found fi (-1000004)).2), .ref m_fresh, .long aa, .long bb, .long dd, .int (nI ro), .ref m_rootWhich, .int db, .ref m_signs, .ref m_atNought, .int (nI mn), .ref m_change, .ref m_table, .ref m_carried])), (m_now, .inl (cy 0, 29, .inl nw)), (m_rootWhich, .inl (cy 0, 2, .inl rt))] := hD9
    replace hS := hS9
    clear hP9 hD9 hS9
    have hF : f_X8_held nw fi aa bb dd ro rt db bq n = (((f_X8_found fi (-1000004)).1), ((f_X8_found fi (-1000004)).2), aa, bb, dd, ro, db, rt) := hF
    have hf0 := yk_fst hF
    have hg0 := yk_snd hF
    have hf1 := yk_fst hg0
    have hg1 := yk_snd hg0
    have hf2 := yk_fst hg1
    have hg2 := yk_snd hg1
    have hf3 := yk_fst hg2
    have hg3 := yk_snd hg2
    have hf4 := yk_fst hg3
    have hg4 := yk_snd hg3
    have hf5 := yk_fst hg4
    have hg5 := yk_snd hg4
    have hf6 := yk_fst hg5
    have hg6 := yk_snd hg5
    rw [hf0, hf1, hf2, hf3, hf4, hf5, hf6, hg6] at hQ
    exact hQ _ _ _ _ dX8_held_20 hP hS
  · replace hF := hF.trans (if_neg hc1)
    refine lv_aload_n hx hb dX8_held_7 rfl (lv_at hl 0 rfl) ?_
    refine yk_i [0, 1] (va_runV (As := []) (rest := []) ⟨hx, hb, hml, hown, hts⟩ (c_X8_areaOf l D cy ta m_now m_undone m_slots m_slotKind m_hasSlot m_sheetBits m_sheetSize m_sheets m_fresh m_rootWhich m_signs m_atNought m_change m_table m_carried nw u fi aa bb dd ro db mn n hn12 hn H.size) (cwV 0 hts gX8_held_X8_areaOf rfl rfl rfl hv_X8_areaOf (yk_room hRf hRl rfl rfl)) (yk_pv (q := (RX8, TX8, 23)) hG hA hS hK hP hD [0, 1] (by decide +kernel) rfl rfl rfl) rfl rfl hl.1 rfl (lv_room (Nat.le_of_ble_eq_true rfl)) dX8_held_8 ⟨Nat.zero_le _, Nat.zero_le _⟩) hP hD hS hA rfl (Eq.trans (b := [ta, m_now]) rfl rfl) (fun H locs hP9 hD9 hS9 => ?_)
    replace hP : va_P D vwCl [(ta, .inr (8, [.ref m_now, .ref m_undone, .ref m_slots, .ref m_slotKind, .ref m_hasSlot, .ref m_sheetBits, .ref m_sheetSize, .ref m_sheets, .int (nI u), .int fi, .ref m_fresh, .long aa, .long bb, .long dd, .int (nI ro), .ref m_rootWhich, .int db, .ref m_signs, .ref m_atNought, .int (nI mn), .ref m_change, .ref m_table, .ref m_carried])), (m_now, .inl (cy 0, 29, .inl nw)), (m_rootWhich, .inl (cy 0, 2, .inl rt))] H := hP9
    replace hD : va_D A [(ta, .inr (8, [.ref m_now, .ref m_undone, .ref m_slots, .ref m_slotKind, .ref m_hasSlot, .ref m_sheetBits, .ref m_sheetSize, .ref m_sheets, .int (nI u), .int fi, .ref m_fresh, .long aa, .long bb, .long dd, .int (nI ro), .ref m_rootWhich, .int db, .ref m_signs, .ref m_atNought, .int (nI mn), .ref m_change, .ref m_table, .ref m_carried])), (m_now, .inl (cy 0, 29, .inl nw)), (m_rootWhich, .inl (cy 0, 2, .inl rt))] := hD9
    replace hS := hS9
    clear hP9 hD9 hS9
    refine lv_if_gt (tgt := 21) hx hb dX8_held_11 (by decide) (fun hc2 => ?_) (fun hc2 => ?_)
    · replace hF := hF.trans (if_pos hc2)
      refine lv_iconst (v := 0) hx hb dX8_held_21 (by decide) ?_
      refine lv_istore_n (lv' := [(2, .int 0), (0, .ref ta), (1, .int bq)]) hx hb dX8_held_22 rfl hl (by decide) rfl (fun ls hl9 => ?_)
      replace hl := hl9
      clear hl9
      have L23 : ∀ (M9 n23 ki : Nat) (zrootWhich_23 : Nat → Int32) (zT_11_23 : Int64) (zT_12_23 : Int64) (zT_13_23 : Int64) (qT_14_23 : Nat) (zT_16_23 : Int32) (H : Heap) (locs : List Loc) (ls : Array Slot), n23 < M9 → ki + n23 = n → f_X8_held nw fi aa bb dd ro rt db bq n = (l_X8_held_23 nw fi aa bb dd ro rt db bq n (n23 + 1) ki zrootWhich_23 zT_11_23 zT_12_23 zT_13_23 qT_14_23 zT_16_23) → va_P D vwCl [(ta, .inr (8, [.ref m_now, .ref m_undone, .ref m_slots, .ref m_slotKind, .ref m_hasSlot, .ref m_sheetBits, .ref m_sheetSize, .ref m_sheets, .int (nI u), .int fi, .ref m_fresh, .long zT_11_23, .long zT_12_23, .long zT_13_23, .int (nI qT_14_23), .ref m_rootWhich, .int zT_16_23, .ref m_signs, .ref m_atNought, .int (nI mn), .ref m_change, .ref m_table, .ref m_carried])), (m_now, .inl (cy 0, 29, .inl nw)), (m_rootWhich, .inl (cy 0, 2, .inl zrootWhich_23))] H → va_D A [(ta, .inr (8, [.ref m_now, .ref m_undone, .ref m_slots, .ref m_slotKind, .ref m_hasSlot, .ref m_sheetBits, .ref m_sheetSize, .ref m_sheets, .int (nI u), .int fi, .ref m_fresh, .long zT_11_23, .long zT_12_23, .long zT_13_23, .int (nI qT_14_23), .ref m_rootWhich, .int zT_16_23, .ref m_signs, .ref m_atNought, .int (nI mn), .ref m_change, .ref m_table, .ref m_carried])), (m_now, .inl (cy 0, 29, .inl nw)), (m_rootWhich, .inl (cy 0, 2, .inl zrootWhich_23))] → va_S A s.heap H locs → lv_has ls 3 [(0, .ref ta), (1, .int bq), (2, .int (nI ki))] → W p l e R s m args below meth c H locs 0 0 Q (F0 m 23 ls []) := by
        clear hP hD hS hl hF
        intro M9
        induction M9 with
        | zero => intro n23 ki _ _ _ _ _ _ _ _ _ hn; exact absurd hn (Nat.not_lt_zero _)
        | succ M9 ih23 =>
          intro n23 ki zrootWhich_23 zT_11_23 zT_12_23 zT_13_23 qT_14_23 zT_16_23 H locs ls hn23 hk23 hF hP hD hS hl
          refine lv_iload_n hx hb dX8_held_23 rfl (lv_at hl 2 rfl) ?_
          refine lv_aload_n hx hb dX8_held_24 rfl (lv_at hl 0 rfl) ?_
          refine yk_i [0, 1] (va_runV (As := []) (rest := [.int (nI ki)]) ⟨hx, hb, hml, hown, hts⟩ (c_X8_corners l D cy ta m_now m_undone m_slots m_slotKind m_hasSlot m_sheetBits m_sheetSize m_sheets m_fresh m_rootWhich m_signs m_atNought m_change m_table m_carried nw u fi zT_11_23 zT_12_23 zT_13_23 qT_14_23 zT_16_23 mn H.size) (cwV 0 hts gX8_held_X8_corners rfl rfl rfl hv_X8_corners (yk_room hRf hRl rfl rfl)) (yk_pv (q := (RX8, TX8, 23)) hG hA hS hK hP hD [0, 1] (by decide +kernel) rfl rfl rfl) rfl rfl hl.1 rfl (lv_room (Nat.le_of_ble_eq_true rfl)) dX8_held_25 ⟨Nat.zero_le _, Nat.zero_le _⟩) hP hD hS hA rfl (Eq.trans (b := [ta, m_now]) rfl rfl) (fun H locs hP9 hD9 hS9 => ?_)
          replace hP : va_P D vwCl [(ta, .inr (8, [.ref m_now, .ref m_undone, .ref m_slots, .ref m_slotKind, .ref m_hasSlot, .ref m_sheetBits, .ref m_sheetSize, .ref m_sheets, .int (nI u), .int fi, .ref m_fresh, .long zT_11_23, .long zT_12_23, .long zT_13_23, .int (nI qT_14_23), .ref m_rootWhich, .int zT_16_23, .ref m_signs, .ref m_atNought, .int (nI mn), .ref m_change, .ref m_table, .ref m_carried])), (m_now, .inl (cy 0, 29, .inl nw)), (m_rootWhich, .inl (cy 0, 2, .inl zrootWhich_23))] H := hP9
          replace hD : va_D A [(ta, .inr (8, [.ref m_now, .ref m_undone, .ref m_slots, .ref m_slotKind, .ref m_hasSlot, .ref m_sheetBits, .ref m_sheetSize, .ref m_sheets, .int (nI u), .int fi, .ref m_fresh, .long zT_11_23, .long zT_12_23, .long zT_13_23, .int (nI qT_14_23), .ref m_rootWhich, .int zT_16_23, .ref m_signs, .ref m_atNought, .int (nI mn), .ref m_change, .ref m_table, .ref m_carried])), (m_now, .inl (cy 0, 29, .inl nw)), (m_rootWhich, .inl (cy 0, 2, .inl zrootWhich_23))] := hD9
          replace hS := hS9
          clear hP9 hD9 hS9
          refine yk_ti (y := nI n) (hn12) ?_
          refine lv_icmp_ge (tgt := 56) hx hb dX8_held_28 (by decide) (fun hc8 => ?_) (fun hc8 => ?_)
          · replace hF := hF.trans (if_pos hc8)
            refine lv_iconst (v := 1) hx hb dX8_held_56 (by decide) ?_
            have hF : f_X8_held nw fi aa bb dd ro rt db bq n = (1, fi, zT_11_23, zT_12_23, zT_13_23, qT_14_23, zT_16_23, zrootWhich_23) := hF
            have hf0 := yk_fst hF
            have hg0 := yk_snd hF
            have hf1 := yk_fst hg0
            have hg1 := yk_snd hg0
            have hf2 := yk_fst hg1
            have hg2 := yk_snd hg1
            have hf3 := yk_fst hg2
            have hg3 := yk_snd hg2
            have hf4 := yk_fst hg3
            have hg4 := yk_snd hg3
            have hf5 := yk_fst hg4
            have hg5 := yk_snd hg4
            have hf6 := yk_fst hg5
            have hg6 := yk_snd hg5
            rw [hf0, hf1, hf2, hf3, hf4, hf5, hf6, hg6] at hQ
            exact hQ _ _ _ _ dX8_held_57 hP hS
          · replace hF := hF.trans (if_neg hc8)
            have hlt23 : ki < n := yk_lt hk23 (by omega) hc8
            refine lv_aload_n hx hb dX8_held_31 rfl (lv_at hl 0 rfl) ?_
            refine lv_iload_n hx hb dX8_held_32 rfl (lv_at hl 2 rfl) ?_
            refine yk_i [0, 1, 2] (va_runV (As := [.int (nI ki)]) (rest := []) ⟨hx, hb, hml, hown, hts⟩ (c_X8_acrossOf l D cy ta m_now m_rootWhich m_undone m_slots m_slotKind m_hasSlot m_sheetBits m_sheetSize m_sheets m_fresh m_signs m_atNought m_change m_table m_carried nw u fi zT_11_23 zT_12_23 zT_13_23 qT_14_23 zrootWhich_23 zT_16_23 mn ki n hn12 hn (by omega) (by omega) H.size) (cwV 1 hts gX8_held_X8_acrossOf rfl rfl rfl hv_X8_acrossOf (yk_room hRf hRl rfl rfl)) (yk_pv (q := (RX8, TX8, 23)) hG hA hS hK hP hD [0, 1, 2] (by decide +kernel) rfl rfl rfl) rfl rfl hl.1 rfl (lv_room (Nat.le_of_ble_eq_true rfl)) dX8_held_33 ⟨Nat.zero_le _, Nat.zero_le _⟩) hP hD hS hA rfl (Eq.trans (b := [ta, m_now, m_rootWhich]) rfl rfl) (fun H locs hP9 hD9 hS9 => ?_)
            replace hP : va_P D vwCl [(ta, .inr (8, [.ref m_now, .ref m_undone, .ref m_slots, .ref m_slotKind, .ref m_hasSlot, .ref m_sheetBits, .ref m_sheetSize, .ref m_sheets, .int (nI u), .int fi, .ref m_fresh, .long ((f_X8_acrossOf nw qT_14_23 zrootWhich_23 zT_16_23 ki n).2.1), .long ((f_X8_acrossOf nw qT_14_23 zrootWhich_23 zT_16_23 ki n).2.2.1), .long ((f_X8_acrossOf nw qT_14_23 zrootWhich_23 zT_16_23 ki n).2.2.2.1), .int (nI ((f_X8_acrossOf nw qT_14_23 zrootWhich_23 zT_16_23 ki n).2.2.2.2.1)), .ref m_rootWhich, .int ((f_X8_acrossOf nw qT_14_23 zrootWhich_23 zT_16_23 ki n).2.2.2.2.2.1), .ref m_signs, .ref m_atNought, .int (nI mn), .ref m_change, .ref m_table, .ref m_carried])), (m_now, .inl (cy 0, 29, .inl nw)), (m_rootWhich, .inl (cy 0, 2, .inl ((f_X8_acrossOf nw qT_14_23 zrootWhich_23 zT_16_23 ki n).2.2.2.2.2.2)))] H := hP9
            replace hD : va_D A [(ta, .inr (8, [.ref m_now, .ref m_undone, .ref m_slots, .ref m_slotKind, .ref m_hasSlot, .ref m_sheetBits, .ref m_sheetSize, .ref m_sheets, .int (nI u), .int fi, .ref m_fresh, .long ((f_X8_acrossOf nw qT_14_23 zrootWhich_23 zT_16_23 ki n).2.1), .long ((f_X8_acrossOf nw qT_14_23 zrootWhich_23 zT_16_23 ki n).2.2.1), .long ((f_X8_acrossOf nw qT_14_23 zrootWhich_23 zT_16_23 ki n).2.2.2.1), .int (nI ((f_X8_acrossOf nw qT_14_23 zrootWhich_23 zT_16_23 ki n).2.2.2.2.1)), .ref m_rootWhich, .int ((f_X8_acrossOf nw qT_14_23 zrootWhich_23 zT_16_23 ki n).2.2.2.2.2.1), .ref m_signs, .ref m_atNought, .int (nI mn), .ref m_change, .ref m_table, .ref m_carried])), (m_now, .inl (cy 0, 29, .inl nw)), (m_rootWhich, .inl (cy 0, 2, .inl ((f_X8_acrossOf nw qT_14_23 zrootWhich_23 zT_16_23 ki n).2.2.2.2.2.2)))] := hD9
            replace hS := hS9
            clear hP9 hD9 hS9
            refine lv_iload_n hx hb dX8_held_36 rfl (lv_at hl 1 rfl) ?_
            have J11 : ∀ (v10 : Int32) (H : Heap) (locs : List Loc) (ls : Array Slot), v10 = (if bq = 0 then 1 else (-1)) → va_P D vwCl [(ta, .inr (8, [.ref m_now, .ref m_undone, .ref m_slots, .ref m_slotKind, .ref m_hasSlot, .ref m_sheetBits, .ref m_sheetSize, .ref m_sheets, .int (nI u), .int fi, .ref m_fresh, .long ((f_X8_acrossOf nw qT_14_23 zrootWhich_23 zT_16_23 ki n).2.1), .long ((f_X8_acrossOf nw qT_14_23 zrootWhich_23 zT_16_23 ki n).2.2.1), .long ((f_X8_acrossOf nw qT_14_23 zrootWhich_23 zT_16_23 ki n).2.2.2.1), .int (nI ((f_X8_acrossOf nw qT_14_23 zrootWhich_23 zT_16_23 ki n).2.2.2.2.1)), .ref m_rootWhich, .int ((f_X8_acrossOf nw qT_14_23 zrootWhich_23 zT_16_23 ki n).2.2.2.2.2.1), .ref m_signs, .ref m_atNought, .int (nI mn), .ref m_change, .ref m_table, .ref m_carried])), (m_now, .inl (cy 0, 29, .inl nw)), (m_rootWhich, .inl (cy 0, 2, .inl ((f_X8_acrossOf nw qT_14_23 zrootWhich_23 zT_16_23 ki n).2.2.2.2.2.2)))] H → va_D A [(ta, .inr (8, [.ref m_now, .ref m_undone, .ref m_slots, .ref m_slotKind, .ref m_hasSlot, .ref m_sheetBits, .ref m_sheetSize, .ref m_sheets, .int (nI u), .int fi, .ref m_fresh, .long ((f_X8_acrossOf nw qT_14_23 zrootWhich_23 zT_16_23 ki n).2.1), .long ((f_X8_acrossOf nw qT_14_23 zrootWhich_23 zT_16_23 ki n).2.2.1), .long ((f_X8_acrossOf nw qT_14_23 zrootWhich_23 zT_16_23 ki n).2.2.2.1), .int (nI ((f_X8_acrossOf nw qT_14_23 zrootWhich_23 zT_16_23 ki n).2.2.2.2.1)), .ref m_rootWhich, .int ((f_X8_acrossOf nw qT_14_23 zrootWhich_23 zT_16_23 ki n).2.2.2.2.2.1), .ref m_signs, .ref m_atNought, .int (nI mn), .ref m_change, .ref m_table, .ref m_carried])), (m_now, .inl (cy 0, 29, .inl nw)), (m_rootWhich, .inl (cy 0, 2, .inl ((f_X8_acrossOf nw qT_14_23 zrootWhich_23 zT_16_23 ki n).2.2.2.2.2.2)))] → va_S A s.heap H locs → lv_has ls 3 [(0, .ref ta), (1, .int bq), (2, .int (nI ki))] → W p l e R s m args below meth c H locs 0 0 Q (F0 m 45 ls [.int v10, .int ((f_X8_acrossOf nw qT_14_23 zrootWhich_23 zT_16_23 ki n).1)]) := by
              clear hP hD hS hl
              intro v10 H locs ls ev10
              rw [ev10]
              clear ev10
              intro hP hD hS hl
              refine lv_icmp_eq (tgt := 50) hx hb dX8_held_45 (by decide) (fun hc12 => ?_) (fun hc12 => ?_)
              · replace hF := hF.trans (if_pos hc12)
                refine lv_iinc (v := nI (ki + 1)) (lv' := [(2, .int (nI (ki + 1))), (0, .ref ta), (1, .int bq)]) hx hb dX8_held_50 hl (k := 2) rfl (yk_inc ki) (by decide) rfl (fun ls hl9 => ?_)
                replace hl := hl9
                clear hl9
                refine lv_goto (tgt := 23) hx hb dX8_held_53 (by decide) ?_
                obtain ⟨n9, rfl⟩ : ∃ n9, n23 = n9 + 1 := ⟨n23 - 1, by omega⟩
                exact ih23 n9 (ki + 1) ((f_X8_acrossOf nw qT_14_23 zrootWhich_23 zT_16_23 ki n).2.2.2.2.2.2) ((f_X8_acrossOf nw qT_14_23 zrootWhich_23 zT_16_23 ki n).2.1) ((f_X8_acrossOf nw qT_14_23 zrootWhich_23 zT_16_23 ki n).2.2.1) ((f_X8_acrossOf nw qT_14_23 zrootWhich_23 zT_16_23 ki n).2.2.2.1) ((f_X8_acrossOf nw qT_14_23 zrootWhich_23 zT_16_23 ki n).2.2.2.2.1) ((f_X8_acrossOf nw qT_14_23 zrootWhich_23 zT_16_23 ki n).2.2.2.2.2.1) _ _ _ (by omega) (by omega)  hF hP hD hS (lv_sub hl [1, 2, 0] rfl)
              · replace hF := hF.trans (if_neg hc12)
                refine lv_iconst (v := 0) hx hb dX8_held_48 (by decide) ?_
                have hF : f_X8_held nw fi aa bb dd ro rt db bq n = (0, fi, ((f_X8_acrossOf nw qT_14_23 zrootWhich_23 zT_16_23 ki n).2.1), ((f_X8_acrossOf nw qT_14_23 zrootWhich_23 zT_16_23 ki n).2.2.1), ((f_X8_acrossOf nw qT_14_23 zrootWhich_23 zT_16_23 ki n).2.2.2.1), ((f_X8_acrossOf nw qT_14_23 zrootWhich_23 zT_16_23 ki n).2.2.2.2.1), ((f_X8_acrossOf nw qT_14_23 zrootWhich_23 zT_16_23 ki n).2.2.2.2.2.1), ((f_X8_acrossOf nw qT_14_23 zrootWhich_23 zT_16_23 ki n).2.2.2.2.2.2)) := hF
                have hf0 := yk_fst hF
                have hg0 := yk_snd hF
                have hf1 := yk_fst hg0
                have hg1 := yk_snd hg0
                have hf2 := yk_fst hg1
                have hg2 := yk_snd hg1
                have hf3 := yk_fst hg2
                have hg3 := yk_snd hg2
                have hf4 := yk_fst hg3
                have hg4 := yk_snd hg3
                have hf5 := yk_fst hg4
                have hg5 := yk_snd hg4
                have hf6 := yk_fst hg5
                have hg6 := yk_snd hg5
                rw [hf0, hf1, hf2, hf3, hf4, hf5, hf6, hg6] at hQ
                exact hQ _ _ _ _ dX8_held_49 hP hS
            refine lv_if_eq (tgt := 44) hx hb dX8_held_37 (by decide) (fun hc9 => ?_) (fun hc9 => ?_)
            · refine lv_iconst (v := 1) hx hb dX8_held_44 (by decide) ?_
              exact J11 _ _ _ _ ((if_pos hc9).symm) hP hD hS (lv_sub hl [0, 1, 2] rfl)
            · refine lv_iconst (v := (-1)) hx hb dX8_held_40 (by decide) ?_
              refine lv_goto (tgt := 45) hx hb dX8_held_41 (by decide) ?_
              exact J11 _ _ _ _ ((if_neg hc9).symm) hP hD hS (lv_sub hl [0, 1, 2] rfl)
      exact L23 (n + 1) n 0 rt aa bb dd ro db _ _ _ (Nat.lt_succ_self _) (by omega)  hF hP hD hS (lv_sub hl [1, 2, 0] rfl)
    · replace hF := hF.trans (if_neg hc2)
      refine lv_aload_n hx hb dX8_held_14 rfl (lv_at hl 0 rfl) ?_
      refine lv_ldc (v := (-1000004)) hx hb hown (hts _ kX8_held_0) dX8_held_15 ?_
      refine yk_i [0] (va_runV (As := [.int (-1000004)]) (rest := []) ⟨hx, hb, hml, hown, hts⟩ (c_X8_found l D cy ta m_now m_undone m_slots m_slotKind m_hasSlot m_sheetBits m_sheetSize m_sheets m_fresh m_rootWhich m_signs m_atNought m_change m_table m_carried u fi aa bb dd ro db mn (-1000004) H.size) (cwV 1 hts gX8_held_X8_found rfl rfl rfl hv_X8_found (yk_room hRf hRl rfl rfl)) (yk_pv (q := (RX8, TX8, 23)) hG hA hS hK hP hD [0] (by decide +kernel) rfl rfl rfl) rfl rfl hl.1 rfl (lv_room (Nat.le_of_ble_eq_true rfl)) dX8_held_17 ⟨Nat.zero_le _, Nat.zero_le _⟩) hP hD hS hA rfl (Eq.trans (b := [ta]) rfl rfl) (fun H locs hP9 hD9 hS9 => ?_)
      replace hP : va_P D vwCl [(ta, .inr (8, [.ref m_now, .ref m_undone, .ref m_slots, .ref m_slotKind, .ref m_hasSlot, .ref m_sheetBits, .ref m_sheetSize, .ref m_sheets, .int (nI u), .int ((f_X8_found fi (-1000004)).2), .ref m_fresh, .long aa, .long bb, .long dd, .int (nI ro), .ref m_rootWhich, .int db, .ref m_signs, .ref m_atNought, .int (nI mn), .ref m_change, .ref m_table, .ref m_carried])), (m_now, .inl (cy 0, 29, .inl nw)), (m_rootWhich, .inl (cy 0, 2, .inl rt))] H := hP9
      replace hD : va_D A [(ta, .inr (8, [.ref m_now, .ref m_undone, .ref m_slots, .ref m_slotKind, .ref m_hasSlot, .ref m_sheetBits, .ref m_sheetSize, .ref m_sheets, .int (nI u), .int ((f_X8_found fi (-1000004)).2), .ref m_fresh, .long aa, .long bb, .long dd, .int (nI ro), .ref m_rootWhich, .int db, .ref m_signs, .ref m_atNought, .int (nI mn), .ref m_change, .ref m_table, .ref m_carried])), (m_now, .inl (cy 0, 29, .inl nw)), (m_rootWhich, .inl (cy 0, 2, .inl rt))] := hD9
      replace hS := hS9
      clear hP9 hD9 hS9
      have hF : f_X8_held nw fi aa bb dd ro rt db bq n = (((f_X8_found fi (-1000004)).1), ((f_X8_found fi (-1000004)).2), aa, bb, dd, ro, db, rt) := hF
      have hf0 := yk_fst hF
      have hg0 := yk_snd hF
      have hf1 := yk_fst hg0
      have hg1 := yk_snd hg0
      have hf2 := yk_fst hg1
      have hg2 := yk_snd hg1
      have hf3 := yk_fst hg2
      have hg3 := yk_snd hg2
      have hf4 := yk_fst hg3
      have hg4 := yk_snd hg3
      have hf5 := yk_fst hg4
      have hg5 := yk_snd hg4
      have hf6 := yk_fst hg5
      have hg6 := yk_snd hg5
      rw [hf0, hf1, hf2, hf3, hf4, hf5, hf6, hg6] at hQ
      exact hQ _ _ _ _ dX8_held_20 hP hS

theorem kX8_note_0 : Cond.fieldLink RX8 41 "FlowPlaneModel" "signs" "[I" ∈ wsX8_note := by decide +kernel
theorem kX8_note_1 : Cond.fieldLink RX8 184 "FlowPlaneModel" "many" "I" ∈ wsX8_note := by decide +kernel
theorem kX8_note_2 : Cond.fieldLink RX8 44 "FlowPlaneModel" "atNought" "[I" ∈ wsX8_note := by decide +kernel
theorem uX8_note_X8 : ∀ w ∈ u_ws RX8 TX8 23, w ∈ wsX8_note := by decide +kernel
def f_X8_note (sg : Nat → Int32) (an : Nat → Int32) (mn : Nat) (px : Int32) (py : Int32) : Nat × (Nat → Int32) × (Nat → Int32) := ((mn + 1), (upd sg mn px), (upd an mn py))
set_option maxHeartbeats 400000000 in
set_option maxRecDepth 100000 in
theorem c_X8_note (l : Launch) (D : va_G) (cy : Nat → ClassId) (ta : Nat) (m_signs : Nat) (m_atNought : Nat) (m_now : Nat) (m_undone : Nat) (m_slots : Nat) (m_slotKind : Nat) (m_hasSlot : Nat) (m_sheetBits : Nat) (m_sheetSize : Nat) (m_sheets : Nat) (m_fresh : Nat) (m_rootWhich : Nat) (m_change : Nat) (m_table : Nat) (m_carried : Nat) (u : Nat) (fi : Int32) (aa : Int64) (bb : Int64) (dd : Int64) (ro : Nat) (db : Int32) (sg : Nat → Int32) (an : Nat → Int32) (mn : Nat) (px : Int32) (py : Int32) (hm : mn < 64) : yk_Cv l D vwCl (yk_ty cy) yX8_note wsX8_note 0 0 [.ref ta, .int px, .int py] [(ta, .inr (8, [.ref m_now, .ref m_undone, .ref m_slots, .ref m_slotKind, .ref m_hasSlot, .ref m_sheetBits, .ref m_sheetSize, .ref m_sheets, .int (nI u), .int fi, .ref m_fresh, .long aa, .long bb, .long dd, .int (nI ro), .ref m_rootWhich, .int db, .ref m_signs, .ref m_atNought, .int (nI mn), .ref m_change, .ref m_table, .ref m_carried])), (m_signs, .inl (cy 0, 64, .inl sg)), (m_atNought, .inl (cy 0, 64, .inl an))] [(ta, .inr (8, [.ref m_now, .ref m_undone, .ref m_slots, .ref m_slotKind, .ref m_hasSlot, .ref m_sheetBits, .ref m_sheetSize, .ref m_sheets, .int (nI u), .int fi, .ref m_fresh, .long aa, .long bb, .long dd, .int (nI ro), .ref m_rootWhich, .int db, .ref m_signs, .ref m_atNought, .int (nI ((f_X8_note sg an mn px py).1)), .ref m_change, .ref m_table, .ref m_carried])), (m_signs, .inl (cy 0, 64, .inl ((f_X8_note sg an mn px py).2.1))), (m_atNought, .inl (cy 0, 64, .inl ((f_X8_note sg an mn px py).2.2)))] := by
  refine yk_eV (cc := cX8_note) (maxL := 3) (by decide) rfl (Nat.le_of_ble_eq_true rfl) ?_
  intro p e R s m args below meth c A Q ls H locs hx hb hml hown hts hRf hRl hA hK hG hP hD hS hl hQ
  have hP : va_P D vwCl [(ta, .inr (8, [.ref m_now, .ref m_undone, .ref m_slots, .ref m_slotKind, .ref m_hasSlot, .ref m_sheetBits, .ref m_sheetSize, .ref m_sheets, .int (nI u), .int fi, .ref m_fresh, .long aa, .long bb, .long dd, .int (nI ro), .ref m_rootWhich, .int db, .ref m_signs, .ref m_atNought, .int (nI mn), .ref m_change, .ref m_table, .ref m_carried])), (m_signs, .inl (cy 0, 64, .inl sg)), (m_atNought, .inl (cy 0, 64, .inl an))] H := hP
  have hl : lv_has ls 3 [(0, .ref ta), (1, .int px), (2, .int py)] := hl
  have hown : s.vm.findClass RX8 = some m.cls := hown
  have hF : (f_X8_note sg an mn px py) = (f_X8_note sg an mn px py) := rfl
  refine lv_aload_n hx hb dX8_note_0 rfl (lv_at hl 0 rfl) ?_
  refine va_get (D := D) (ci := 8) (v := .ref m_signs) (C := RX8) (T := TX8) (N := 23) hx hb hts uX8_note_X8 hown hK hP 0 rfl rfl 17 (by decide) (hts _ kX8_note_0) (fun _ h9 => h9) rfl dX8_note_1 ?_
  refine lv_aload_n hx hb dX8_note_4 rfl (lv_at hl 0 rfl) ?_
  refine va_get (D := D) (ci := 8) (v := .int (nI mn)) (C := RX8) (T := TX8) (N := 23) hx hb hts uX8_note_X8 hown hK hP 0 rfl rfl 19 (by decide) (hts _ kX8_note_1) (fun _ h9 => h9) rfl dX8_note_5 ?_
  refine lv_iload_n hx hb dX8_note_8 rfl (lv_at hl 1 rfl) ?_
  refine yk_ist hx hb hK hP hD hS 1 0 rfl rfl mn (by omega) (by decide) dX8_note_9 (fun H locs hP9 hD9 hS9 => ?_)
  replace hP : va_P D vwCl [(ta, .inr (8, [.ref m_now, .ref m_undone, .ref m_slots, .ref m_slotKind, .ref m_hasSlot, .ref m_sheetBits, .ref m_sheetSize, .ref m_sheets, .int (nI u), .int fi, .ref m_fresh, .long aa, .long bb, .long dd, .int (nI ro), .ref m_rootWhich, .int db, .ref m_signs, .ref m_atNought, .int (nI mn), .ref m_change, .ref m_table, .ref m_carried])), (m_signs, .inl (cy 0, 64, .inl (upd sg mn px))), (m_atNought, .inl (cy 0, 64, .inl an))] H := hP9
  replace hD : va_D A [(ta, .inr (8, [.ref m_now, .ref m_undone, .ref m_slots, .ref m_slotKind, .ref m_hasSlot, .ref m_sheetBits, .ref m_sheetSize, .ref m_sheets, .int (nI u), .int fi, .ref m_fresh, .long aa, .long bb, .long dd, .int (nI ro), .ref m_rootWhich, .int db, .ref m_signs, .ref m_atNought, .int (nI mn), .ref m_change, .ref m_table, .ref m_carried])), (m_signs, .inl (cy 0, 64, .inl (upd sg mn px))), (m_atNought, .inl (cy 0, 64, .inl an))] := hD9
  replace hS := hS9
  clear hP9 hD9 hS9
  refine lv_aload_n hx hb dX8_note_10 rfl (lv_at hl 0 rfl) ?_
  refine va_get (D := D) (ci := 8) (v := .ref m_atNought) (C := RX8) (T := TX8) (N := 23) hx hb hts uX8_note_X8 hown hK hP 0 rfl rfl 18 (by decide) (hts _ kX8_note_2) (fun _ h9 => h9) rfl dX8_note_11 ?_
  refine lv_aload_n hx hb dX8_note_14 rfl (lv_at hl 0 rfl) ?_
  refine va_get (D := D) (ci := 8) (v := .int (nI mn)) (C := RX8) (T := TX8) (N := 23) hx hb hts uX8_note_X8 hown hK hP 0 rfl rfl 19 (by decide) (hts _ kX8_note_1) (fun _ h9 => h9) rfl dX8_note_15 ?_
  refine lv_iload_n hx hb dX8_note_18 rfl (lv_at hl 2 rfl) ?_
  refine yk_ist hx hb hK hP hD hS 2 0 rfl rfl mn (by omega) (by decide) dX8_note_19 (fun H locs hP9 hD9 hS9 => ?_)
  replace hP : va_P D vwCl [(ta, .inr (8, [.ref m_now, .ref m_undone, .ref m_slots, .ref m_slotKind, .ref m_hasSlot, .ref m_sheetBits, .ref m_sheetSize, .ref m_sheets, .int (nI u), .int fi, .ref m_fresh, .long aa, .long bb, .long dd, .int (nI ro), .ref m_rootWhich, .int db, .ref m_signs, .ref m_atNought, .int (nI mn), .ref m_change, .ref m_table, .ref m_carried])), (m_signs, .inl (cy 0, 64, .inl (upd sg mn px))), (m_atNought, .inl (cy 0, 64, .inl (upd an mn py)))] H := hP9
  replace hD : va_D A [(ta, .inr (8, [.ref m_now, .ref m_undone, .ref m_slots, .ref m_slotKind, .ref m_hasSlot, .ref m_sheetBits, .ref m_sheetSize, .ref m_sheets, .int (nI u), .int fi, .ref m_fresh, .long aa, .long bb, .long dd, .int (nI ro), .ref m_rootWhich, .int db, .ref m_signs, .ref m_atNought, .int (nI mn), .ref m_change, .ref m_table, .ref m_carried])), (m_signs, .inl (cy 0, 64, .inl (upd sg mn px))), (m_atNought, .inl (cy 0, 64, .inl (upd an mn py)))] := hD9
  replace hS := hS9
  clear hP9 hD9 hS9
  refine lv_aload_n hx hb dX8_note_20 rfl (lv_at hl 0 rfl) ?_
  refine lv_dup hx hb dX8_note_21 rfl ?_
  refine va_get (D := D) (ci := 8) (v := .int (nI mn)) (C := RX8) (T := TX8) (N := 23) hx hb hts uX8_note_X8 hown hK hP 0 rfl rfl 19 (by decide) (hts _ kX8_note_1) (fun _ h9 => h9) rfl dX8_note_22 ?_
  refine lv_iconst (v := 1) hx hb dX8_note_25 (by decide) ?_
  refine lv_iadd hx hb dX8_note_26 ?_
  refine yk_ti (y := nI (mn + 1)) (nI_add mn 1) ?_
  refine va_put (D := D) (ci := 8) (v := .int (nI (mn + 1))) (ty := .int) (C := RX8) (T := TX8) (N := 23) hx hb hts uX8_note_X8 tyX8 tyX8_ok nmX8 hown hK hP hD hS 0 rfl rfl 19 (by decide) (hts _ kX8_note_1) (fun _ h9 => h9) rfl (by decide +kernel) (yk_ni _) (yk_fi _) (Nat.le_of_ble_eq_true rfl) dX8_note_27 (fun H locs hP9 hD9 hS9 => ?_)
  replace hP : va_P D vwCl [(ta, .inr (8, [.ref m_now, .ref m_undone, .ref m_slots, .ref m_slotKind, .ref m_hasSlot, .ref m_sheetBits, .ref m_sheetSize, .ref m_sheets, .int (nI u), .int fi, .ref m_fresh, .long aa, .long bb, .long dd, .int (nI ro), .ref m_rootWhich, .int db, .ref m_signs, .ref m_atNought, .int (nI (mn + 1)), .ref m_change, .ref m_table, .ref m_carried])), (m_signs, .inl (cy 0, 64, .inl (upd sg mn px))), (m_atNought, .inl (cy 0, 64, .inl (upd an mn py)))] H := hP9
  replace hD : va_D A [(ta, .inr (8, [.ref m_now, .ref m_undone, .ref m_slots, .ref m_slotKind, .ref m_hasSlot, .ref m_sheetBits, .ref m_sheetSize, .ref m_sheets, .int (nI u), .int fi, .ref m_fresh, .long aa, .long bb, .long dd, .int (nI ro), .ref m_rootWhich, .int db, .ref m_signs, .ref m_atNought, .int (nI (mn + 1)), .ref m_change, .ref m_table, .ref m_carried])), (m_signs, .inl (cy 0, 64, .inl (upd sg mn px))), (m_atNought, .inl (cy 0, 64, .inl (upd an mn py)))] := hD9
  replace hS := hS9
  clear hP9 hD9 hS9
  have hF : f_X8_note sg an mn px py = ((mn + 1), (upd sg mn px), (upd an mn py)) := hF
  have hf0 := yk_fst hF
  have hg0 := yk_snd hF
  have hf1 := yk_fst hg0
  have hg1 := yk_snd hg0
  rw [hf0, hf1, hg1] at hQ
  exact hQ _ _ _ _ dX8_note_30 hP hS

theorem yk_qne {x y : Int64} (h : ¬ ((if (lg_cmp y 0) = 0 then 0 else (f_X8_sign x)) : Int32) = 0) : ¬ (if 0 ≤ (lg_cmp x 0) then x else (-x)) = 0 := by
  have hx : x ≠ 0 := by
    intro e
    subst e
    refine h ?_
    split <;> rfl
  split
  · exact hx
  · intro e
    exact hx (by rw [← Int64.neg_neg (a := x), e]; rfl)
theorem yk_ileP {α : Type} {P : Prop} [Decidable P] {a b : Nat × α} {k : Nat} (ha : a.1 ≤ k) (hb : b.1 ≤ k) : (if P then a else b).1 ≤ k := by
  split <;> assumption
theorem yk_ileN {P : Prop} [Decidable P] {a b k : Nat} (ha : a ≤ k) (hb : b ≤ k) : (if P then a else b) ≤ k := by
  split <;> assumption
theorem r_X8_only (r : Nat) (rt : Nat → Int32) (x : Int32) (h : r ≤ 1) : (f_X8_only r rt x).1 ≤ 2 := Nat.succ_le_succ h
theorem r_X8_findRoots (aa bb dd : Int64) (rt : Nat → Int32) : (f_X8_findRoots aa bb dd rt).1 ≤ 2 := by
  unfold f_X8_findRoots
  repeat' first | with_reducible apply yk_ileP | with_reducible apply yk_ileN | exact Nat.zero_le _ | exact (by decide : (1 : Nat) ≤ 2) | apply r_X8_only | exact Nat.le_refl 1

theorem kX8_signOfSum_0 : Cond.constantLong RX8 170 2 ∈ wsX8_signOfSum := by decide +kernel
def f_X8_signOfSum (x : Int64) (y : Int64) (z : Int64) : Int32 := (if (f_X8_sign x) = 0 then (if (f_X8_sign x) = 0 then (if (lg_cmp z 0) = 0 then 0 else (f_X8_sign y)) else (f_X8_sign x)) else (if ((if (lg_cmp z 0) = 0 then 0 else (f_X8_sign y)) : Int32) = 0 then (if (f_X8_sign x) = 0 then (if (lg_cmp z 0) = 0 then 0 else (f_X8_sign y)) else (f_X8_sign x)) else (if (f_X8_sign x) = (if (lg_cmp z 0) = 0 then 0 else (f_X8_sign y)) then (if (f_X8_sign x) = 0 then (if (lg_cmp z 0) = 0 then 0 else (f_X8_sign y)) else (f_X8_sign x)) else (if ((if ((lg_cmp (((if 0 ≤ (lg_cmp x 0) then x else (-x)) / (if 0 ≤ (lg_cmp y 0) then y else (-y))) * ((if 0 ≤ (lg_cmp x 0) then x else (-x)) / (if 0 ≤ (lg_cmp y 0) then y else (-y)))) z) : Int32) ≤ 0 then (if 0 < ((lg_cmp ((((if 0 ≤ (lg_cmp x 0) then x else (-x)) / (if 0 ≤ (lg_cmp y 0) then y else (-y))) + 1) * (((if 0 ≤ (lg_cmp x 0) then x else (-x)) / (if 0 ≤ (lg_cmp y 0) then y else (-y))) + 1)) z) : Int32) then (f_X8_sign (((((if 0 ≤ (lg_cmp x 0) then x else (-x)) - (if 0 ≤ (lg_cmp x 0) then x else (-x)) / (if 0 ≤ (lg_cmp y 0) then y else (-y)) * (if 0 ≤ (lg_cmp y 0) then y else (-y))) * ((if 0 ≤ (lg_cmp x 0) then x else (-x)) - (if 0 ≤ (lg_cmp x 0) then x else (-x)) / (if 0 ≤ (lg_cmp y 0) then y else (-y)) * (if 0 ≤ (lg_cmp y 0) then y else (-y)))) + (((2 * ((if 0 ≤ (lg_cmp x 0) then x else (-x)) / (if 0 ≤ (lg_cmp y 0) then y else (-y)))) * (if 0 ≤ (lg_cmp y 0) then y else (-y))) * ((if 0 ≤ (lg_cmp x 0) then x else (-x)) - (if 0 ≤ (lg_cmp x 0) then x else (-x)) / (if 0 ≤ (lg_cmp y 0) then y else (-y)) * (if 0 ≤ (lg_cmp y 0) then y else (-y))))) - (((z - (((if 0 ≤ (lg_cmp x 0) then x else (-x)) / (if 0 ≤ (lg_cmp y 0) then y else (-y))) * ((if 0 ≤ (lg_cmp x 0) then x else (-x)) / (if 0 ≤ (lg_cmp y 0) then y else (-y))))) * (if 0 ≤ (lg_cmp y 0) then y else (-y))) * (if 0 ≤ (lg_cmp y 0) then y else (-y))))) else (-1)) else 1) : Int32) ≤ 0 then (if 0 ≤ ((if ((lg_cmp (((if 0 ≤ (lg_cmp x 0) then x else (-x)) / (if 0 ≤ (lg_cmp y 0) then y else (-y))) * ((if 0 ≤ (lg_cmp x 0) then x else (-x)) / (if 0 ≤ (lg_cmp y 0) then y else (-y)))) z) : Int32) ≤ 0 then (if 0 < ((lg_cmp ((((if 0 ≤ (lg_cmp x 0) then x else (-x)) / (if 0 ≤ (lg_cmp y 0) then y else (-y))) + 1) * (((if 0 ≤ (lg_cmp x 0) then x else (-x)) / (if 0 ≤ (lg_cmp y 0) then y else (-y))) + 1)) z) : Int32) then (f_X8_sign (((((if 0 ≤ (lg_cmp x 0) then x else (-x)) - (if 0 ≤ (lg_cmp x 0) then x else (-x)) / (if 0 ≤ (lg_cmp y 0) then y else (-y)) * (if 0 ≤ (lg_cmp y 0) then y else (-y))) * ((if 0 ≤ (lg_cmp x 0) then x else (-x)) - (if 0 ≤ (lg_cmp x 0) then x else (-x)) / (if 0 ≤ (lg_cmp y 0) then y else (-y)) * (if 0 ≤ (lg_cmp y 0) then y else (-y)))) + (((2 * ((if 0 ≤ (lg_cmp x 0) then x else (-x)) / (if 0 ≤ (lg_cmp y 0) then y else (-y)))) * (if 0 ≤ (lg_cmp y 0) then y else (-y))) * ((if 0 ≤ (lg_cmp x 0) then x else (-x)) - (if 0 ≤ (lg_cmp x 0) then x else (-x)) / (if 0 ≤ (lg_cmp y 0) then y else (-y)) * (if 0 ≤ (lg_cmp y 0) then y else (-y))))) - (((z - (((if 0 ≤ (lg_cmp x 0) then x else (-x)) / (if 0 ≤ (lg_cmp y 0) then y else (-y))) * ((if 0 ≤ (lg_cmp x 0) then x else (-x)) / (if 0 ≤ (lg_cmp y 0) then y else (-y))))) * (if 0 ≤ (lg_cmp y 0) then y else (-y))) * (if 0 ≤ (lg_cmp y 0) then y else (-y))))) else (-1)) else 1) : Int32) then 0 else (if (lg_cmp z 0) = 0 then 0 else (f_X8_sign y))) else (f_X8_sign x)))))
set_option maxHeartbeats 400000000 in
set_option maxRecDepth 100000 in
theorem c_X8_signOfSum (l : Launch) (D : va_G) (cy : Nat → ClassId) (x : Int64) (y : Int64) (z : Int64) : yk_Ci l D vwCl (yk_ty cy) yX8_signOfSum wsX8_signOfSum 1 21 [.long x, .long y, .long z] [] (f_X8_signOfSum x y z) [] := by
  refine yk_eI (cc := cX8_signOfSum) (maxL := 17) (by decide) rfl (Nat.le_of_ble_eq_true rfl) rfl ?_
  intro p e R s m args below meth c A Q ls H locs hx hb hml hown hts hRf hRl hA hK hG hP hD hS hl hQ
  have hP : va_P D vwCl [] H := hP
  have hl : lv_has ls 17 [(0, .long x), (2, .long y), (4, .long z)] := hl
  have hown : s.vm.findClass RX8 = some m.cls := hown
  have hF : (f_X8_signOfSum x y z) = (f_X8_signOfSum x y z) := rfl
  refine lv_lload_n hx hb dX8_signOfSum_0 rfl (lv_at hl 0 rfl) ?_
  refine yk_i [] (va_runS (As := [.long x]) (rest := []) ⟨hx, hb, hml, hown, hts⟩ (c_X8_sign l D cy x H.size) (va_cwS 1 hts gX8_signOfSum_X8_sign rfl rfl rfl hs_X8_sign (yk_room hRf hRl rfl rfl)) (yk_ps hG hA hS hK hP hD [] (by decide +kernel) rfl) rfl rfl hl.1 rfl (lv_room (Nat.le_of_ble_eq_true rfl)) dX8_signOfSum_1 ⟨Nat.zero_le _, Nat.zero_le _⟩) hP hD hS hA rfl rfl (fun H locs hP9 hD9 hS9 => ?_)
  replace hP : va_P D vwCl [] H := hP9
  replace hD : va_D A [] := hD9
  replace hS := hS9
  clear hP9 hD9 hS9
  refine lv_istore (lv' := [(6, .int (f_X8_sign x)), (0, .long x), (2, .long y), (4, .long z)]) hx hb dX8_signOfSum_4 hl (by decide) rfl (fun ls hl9 => ?_)
  replace hl := hl9
  clear hl9
  refine lv_lload hx hb dX8_signOfSum_6 (lv_at hl 3 rfl) ?_
  refine lv_lconst (v := 0) hx hb dX8_signOfSum_8 (by decide) ?_
  refine W.lcmp hx hb dX8_signOfSum_9 ?_
  have J3 : ∀ (v2 : Int32) (H : Heap) (locs : List Loc) (ls : Array Slot), v2 = (if (lg_cmp z 0) = 0 then 0 else (f_X8_sign y)) → va_P D vwCl [] H → va_D A [] → va_S A s.heap H locs → lv_has ls 17 [(0, .long x), (2, .long y), (4, .long z), (6, .int (f_X8_sign x))] → W p l e R s m args below meth c H locs 0 0 Q (F0 m 21 ls [.int v2]) := by
    clear hP hD hS hl
    intro v2 H locs ls ev2
    rw [ev2]
    clear ev2
    intro hP hD hS hl
    refine lv_istore (lv' := [(7, .int (if (lg_cmp z 0) = 0 then 0 else (f_X8_sign y))), (0, .long x), (2, .long y), (4, .long z), (6, .int (f_X8_sign x))]) hx hb dX8_signOfSum_21 hl (by decide) rfl (fun ls hl9 => ?_)
    replace hl := hl9
    clear hl9
    refine lv_iload hx hb dX8_signOfSum_23 (lv_at hl 4 rfl) ?_
    refine lv_if_eq (tgt := 40) hx hb dX8_signOfSum_25 (by decide) (fun hc4 => ?_) (fun hc4 => ?_)
    · replace hF := hF.trans (if_pos hc4)
      refine lv_iload hx hb dX8_signOfSum_40 (lv_at hl 4 rfl) ?_
      have J7 : ∀ (v6 : Int32) (H : Heap) (locs : List Loc) (ls : Array Slot), v6 = (if (f_X8_sign x) = 0 then (if (lg_cmp z 0) = 0 then 0 else (f_X8_sign y)) else (f_X8_sign x)) → va_P D vwCl [] H → va_D A [] → va_S A s.heap H locs → lv_has ls 17 [(0, .long x), (2, .long y), (4, .long z), (6, .int (f_X8_sign x)), (7, .int (if (lg_cmp z 0) = 0 then 0 else (f_X8_sign y)))] → W p l e R s m args below meth c H locs 0 0 Q (F0 m 52 ls [.int v6]) := by
        clear hP hD hS hl
        intro v6 H locs ls ev6
        rw [ev6]
        clear ev6
        intro hP hD hS hl
        have hF : f_X8_signOfSum x y z = (if (f_X8_sign x) = 0 then (if (lg_cmp z 0) = 0 then 0 else (f_X8_sign y)) else (f_X8_sign x)) := hF
        rw [hF] at hQ
        exact hQ _ _ _ _ dX8_signOfSum_52 hP hS
      refine lv_if_ne (tgt := 50) hx hb dX8_signOfSum_42 (by decide) (fun hc5 => ?_) (fun hc5 => ?_)
      · refine lv_iload hx hb dX8_signOfSum_50 (lv_at hl 4 rfl) ?_
        exact J7 _ _ _ _ ((if_neg hc5).symm) hP hD hS (lv_sub hl [1, 2, 3, 4, 0] rfl)
      · refine lv_iload hx hb dX8_signOfSum_45 (lv_at hl 0 rfl) ?_
        refine lv_goto (tgt := 52) hx hb dX8_signOfSum_47 (by decide) ?_
        exact J7 _ _ _ _ ((if_pos hc5).symm) hP hD hS (lv_sub hl [1, 2, 3, 4, 0] rfl)
    · replace hF := hF.trans (if_neg hc4)
      refine lv_iload hx hb dX8_signOfSum_28 (lv_at hl 0 rfl) ?_
      refine lv_if_eq (tgt := 40) hx hb dX8_signOfSum_30 (by decide) (fun hc8 => ?_) (fun hc8 => ?_)
      · replace hF := hF.trans (if_pos hc8)
        refine lv_iload hx hb dX8_signOfSum_40 (lv_at hl 4 rfl) ?_
        have J11 : ∀ (v10 : Int32) (H : Heap) (locs : List Loc) (ls : Array Slot), v10 = (if (f_X8_sign x) = 0 then (if (lg_cmp z 0) = 0 then 0 else (f_X8_sign y)) else (f_X8_sign x)) → va_P D vwCl [] H → va_D A [] → va_S A s.heap H locs → lv_has ls 17 [(0, .long x), (2, .long y), (4, .long z), (6, .int (f_X8_sign x)), (7, .int (if (lg_cmp z 0) = 0 then 0 else (f_X8_sign y)))] → W p l e R s m args below meth c H locs 0 0 Q (F0 m 52 ls [.int v10]) := by
          clear hP hD hS hl
          intro v10 H locs ls ev10
          rw [ev10]
          clear ev10
          intro hP hD hS hl
          have hF : f_X8_signOfSum x y z = (if (f_X8_sign x) = 0 then (if (lg_cmp z 0) = 0 then 0 else (f_X8_sign y)) else (f_X8_sign x)) := hF
          rw [hF] at hQ
          exact hQ _ _ _ _ dX8_signOfSum_52 hP hS
        refine lv_if_ne (tgt := 50) hx hb dX8_signOfSum_42 (by decide) (fun hc9 => ?_) (fun hc9 => ?_)
        · refine lv_iload hx hb dX8_signOfSum_50 (lv_at hl 4 rfl) ?_
          exact J11 _ _ _ _ ((if_neg hc9).symm) hP hD hS (lv_sub hl [1, 2, 3, 4, 0] rfl)
        · refine lv_iload hx hb dX8_signOfSum_45 (lv_at hl 0 rfl) ?_
          refine lv_goto (tgt := 52) hx hb dX8_signOfSum_47 (by decide) ?_
          exact J11 _ _ _ _ ((if_pos hc9).symm) hP hD hS (lv_sub hl [1, 2, 3, 4, 0] rfl)
      · replace hF := hF.trans (if_neg hc8)
        refine lv_iload hx hb dX8_signOfSum_33 (lv_at hl 4 rfl) ?_
        refine lv_iload hx hb dX8_signOfSum_35 (lv_at hl 0 rfl) ?_
        refine lv_icmp_ne (tgt := 53) hx hb dX8_signOfSum_37 (by decide) (fun hc12 => ?_) (fun hc12 => ?_)
        · replace hF := hF.trans (if_neg hc12)
          refine lv_lload_n hx hb dX8_signOfSum_53 rfl (lv_at hl 1 rfl) ?_
          refine lv_lconst (v := 0) hx hb dX8_signOfSum_54 (by decide) ?_
          refine W.lcmp hx hb dX8_signOfSum_55 ?_
          have J15 : ∀ (v14 : Int64) (H : Heap) (locs : List Loc) (ls : Array Slot), v14 = (if 0 ≤ (lg_cmp x 0) then x else (-x)) → va_P D vwCl [] H → va_D A [] → va_S A s.heap H locs → lv_has ls 17 [(0, .long x), (2, .long y), (4, .long z), (6, .int (f_X8_sign x)), (7, .int (if (lg_cmp z 0) = 0 then 0 else (f_X8_sign y)))] → W p l e R s m args below meth c H locs 0 0 Q (F0 m 65 ls [.long v14]) := by
            clear hP hD hS hl
            intro v14 H locs ls ev14
            rw [ev14]
            clear ev14
            intro hP hD hS hl
            refine lv_lstore (lv' := [(8, .long (if 0 ≤ (lg_cmp x 0) then x else (-x))), (0, .long x), (2, .long y), (4, .long z), (6, .int (f_X8_sign x)), (7, .int (if (lg_cmp z 0) = 0 then 0 else (f_X8_sign y)))]) hx hb dX8_signOfSum_65 hl (by decide) rfl (fun ls hl9 => ?_)
            replace hl := hl9
            clear hl9
            refine lv_lload_n hx hb dX8_signOfSum_67 rfl (lv_at hl 2 rfl) ?_
            refine lv_lconst (v := 0) hx hb dX8_signOfSum_68 (by decide) ?_
            refine W.lcmp hx hb dX8_signOfSum_69 ?_
            have J18 : ∀ (v17 : Int64) (H : Heap) (locs : List Loc) (ls : Array Slot), v17 = (if 0 ≤ (lg_cmp y 0) then y else (-y)) → va_P D vwCl [] H → va_D A [] → va_S A s.heap H locs → lv_has ls 17 [(0, .long x), (2, .long y), (4, .long z), (6, .int (f_X8_sign x)), (7, .int (if (lg_cmp z 0) = 0 then 0 else (f_X8_sign y))), (8, .long (if 0 ≤ (lg_cmp x 0) then x else (-x)))] → W p l e R s m args below meth c H locs 0 0 Q (F0 m 79 ls [.long v17]) := by
              clear hP hD hS hl
              intro v17 H locs ls ev17
              rw [ev17]
              clear ev17
              intro hP hD hS hl
              refine lv_lstore (lv' := [(10, .long (if 0 ≤ (lg_cmp y 0) then y else (-y))), (0, .long x), (2, .long y), (4, .long z), (6, .int (f_X8_sign x)), (7, .int (if (lg_cmp z 0) = 0 then 0 else (f_X8_sign y))), (8, .long (if 0 ≤ (lg_cmp x 0) then x else (-x)))]) hx hb dX8_signOfSum_79 hl (by decide) rfl (fun ls hl9 => ?_)
              replace hl := hl9
              clear hl9
              refine lv_lload hx hb dX8_signOfSum_81 (lv_at hl 6 rfl) ?_
              refine lv_lload hx hb dX8_signOfSum_83 (lv_at hl 0 rfl) ?_
              refine lv_ldiv hx hb dX8_signOfSum_85 (yk_qne (by assumption)) ?_
              refine lv_lstore (lv' := [(12, .long ((if 0 ≤ (lg_cmp x 0) then x else (-x)) / (if 0 ≤ (lg_cmp y 0) then y else (-y)))), (10, .long (if 0 ≤ (lg_cmp y 0) then y else (-y))), (0, .long x), (2, .long y), (4, .long z), (6, .int (f_X8_sign x)), (7, .int (if (lg_cmp z 0) = 0 then 0 else (f_X8_sign y))), (8, .long (if 0 ≤ (lg_cmp x 0) then x else (-x)))]) hx hb dX8_signOfSum_86 hl (by decide) rfl (fun ls hl9 => ?_)
              replace hl := hl9
              clear hl9
              refine lv_lload hx hb dX8_signOfSum_88 (lv_at hl 7 rfl) ?_
              refine lv_lload hx hb dX8_signOfSum_90 (lv_at hl 1 rfl) ?_
              refine lv_lrem hx hb dX8_signOfSum_92 (yk_qne (by assumption)) ?_
              refine lv_lstore (lv' := [(14, .long ((if 0 ≤ (lg_cmp x 0) then x else (-x)) - (if 0 ≤ (lg_cmp x 0) then x else (-x)) / (if 0 ≤ (lg_cmp y 0) then y else (-y)) * (if 0 ≤ (lg_cmp y 0) then y else (-y)))), (12, .long ((if 0 ≤ (lg_cmp x 0) then x else (-x)) / (if 0 ≤ (lg_cmp y 0) then y else (-y)))), (10, .long (if 0 ≤ (lg_cmp y 0) then y else (-y))), (0, .long x), (2, .long y), (4, .long z), (6, .int (f_X8_sign x)), (7, .int (if (lg_cmp z 0) = 0 then 0 else (f_X8_sign y))), (8, .long (if 0 ≤ (lg_cmp x 0) then x else (-x)))]) hx hb dX8_signOfSum_93 hl (by decide) rfl (fun ls hl9 => ?_)
              replace hl := hl9
              clear hl9
              refine lv_lload hx hb dX8_signOfSum_95 (lv_at hl 1 rfl) ?_
              refine lv_lload hx hb dX8_signOfSum_97 (lv_at hl 1 rfl) ?_
              refine lv_lmul hx hb dX8_signOfSum_99 ?_
              refine lv_lload hx hb dX8_signOfSum_100 (lv_at hl 5 rfl) ?_
              refine W.lcmp hx hb dX8_signOfSum_102 ?_
              have J22 : ∀ (v21 : Int32) (H : Heap) (locs : List Loc) (ls : Array Slot), v21 = (if ((lg_cmp (((if 0 ≤ (lg_cmp x 0) then x else (-x)) / (if 0 ≤ (lg_cmp y 0) then y else (-y))) * ((if 0 ≤ (lg_cmp x 0) then x else (-x)) / (if 0 ≤ (lg_cmp y 0) then y else (-y)))) z) : Int32) ≤ 0 then (if 0 < ((lg_cmp ((((if 0 ≤ (lg_cmp x 0) then x else (-x)) / (if 0 ≤ (lg_cmp y 0) then y else (-y))) + 1) * (((if 0 ≤ (lg_cmp x 0) then x else (-x)) / (if 0 ≤ (lg_cmp y 0) then y else (-y))) + 1)) z) : Int32) then (f_X8_sign (((((if 0 ≤ (lg_cmp x 0) then x else (-x)) - (if 0 ≤ (lg_cmp x 0) then x else (-x)) / (if 0 ≤ (lg_cmp y 0) then y else (-y)) * (if 0 ≤ (lg_cmp y 0) then y else (-y))) * ((if 0 ≤ (lg_cmp x 0) then x else (-x)) - (if 0 ≤ (lg_cmp x 0) then x else (-x)) / (if 0 ≤ (lg_cmp y 0) then y else (-y)) * (if 0 ≤ (lg_cmp y 0) then y else (-y)))) + (((2 * ((if 0 ≤ (lg_cmp x 0) then x else (-x)) / (if 0 ≤ (lg_cmp y 0) then y else (-y)))) * (if 0 ≤ (lg_cmp y 0) then y else (-y))) * ((if 0 ≤ (lg_cmp x 0) then x else (-x)) - (if 0 ≤ (lg_cmp x 0) then x else (-x)) / (if 0 ≤ (lg_cmp y 0) then y else (-y)) * (if 0 ≤ (lg_cmp y 0) then y else (-y))))) - (((z - (((if 0 ≤ (lg_cmp x 0) then x else (-x)) / (if 0 ≤ (lg_cmp y 0) then y else (-y))) * ((if 0 ≤ (lg_cmp x 0) then x else (-x)) / (if 0 ≤ (lg_cmp y 0) then y else (-y))))) * (if 0 ≤ (lg_cmp y 0) then y else (-y))) * (if 0 ≤ (lg_cmp y 0) then y else (-y))))) else (-1)) else 1) → va_P D vwCl [] H → va_D A [] → va_S A s.heap H locs → lv_has ls 17 [(0, .long x), (2, .long y), (4, .long z), (6, .int (f_X8_sign x)), (7, .int (if (lg_cmp z 0) = 0 then 0 else (f_X8_sign y))), (8, .long (if 0 ≤ (lg_cmp x 0) then x else (-x))), (10, .long (if 0 ≤ (lg_cmp y 0) then y else (-y))), (12, .long ((if 0 ≤ (lg_cmp x 0) then x else (-x)) / (if 0 ≤ (lg_cmp y 0) then y else (-y)))), (14, .long ((if 0 ≤ (lg_cmp x 0) then x else (-x)) - (if 0 ≤ (lg_cmp x 0) then x else (-x)) / (if 0 ≤ (lg_cmp y 0) then y else (-y)) * (if 0 ≤ (lg_cmp y 0) then y else (-y)))), (16, .int v21)] → W p l e R s m args below meth c H locs 0 0 Q (F0 m 171 ls []) := by
                clear hP hD hS hl
                intro v21 H locs ls ev21
                rw [ev21]
                clear ev21
                intro hP hD hS hl
                refine lv_iload hx hb dX8_signOfSum_171 (lv_at hl 9 rfl) ?_
                have J26 : ∀ (v25 : Int32) (H : Heap) (locs : List Loc) (ls : Array Slot), v25 = (if ((if ((lg_cmp (((if 0 ≤ (lg_cmp x 0) then x else (-x)) / (if 0 ≤ (lg_cmp y 0) then y else (-y))) * ((if 0 ≤ (lg_cmp x 0) then x else (-x)) / (if 0 ≤ (lg_cmp y 0) then y else (-y)))) z) : Int32) ≤ 0 then (if 0 < ((lg_cmp ((((if 0 ≤ (lg_cmp x 0) then x else (-x)) / (if 0 ≤ (lg_cmp y 0) then y else (-y))) + 1) * (((if 0 ≤ (lg_cmp x 0) then x else (-x)) / (if 0 ≤ (lg_cmp y 0) then y else (-y))) + 1)) z) : Int32) then (f_X8_sign (((((if 0 ≤ (lg_cmp x 0) then x else (-x)) - (if 0 ≤ (lg_cmp x 0) then x else (-x)) / (if 0 ≤ (lg_cmp y 0) then y else (-y)) * (if 0 ≤ (lg_cmp y 0) then y else (-y))) * ((if 0 ≤ (lg_cmp x 0) then x else (-x)) - (if 0 ≤ (lg_cmp x 0) then x else (-x)) / (if 0 ≤ (lg_cmp y 0) then y else (-y)) * (if 0 ≤ (lg_cmp y 0) then y else (-y)))) + (((2 * ((if 0 ≤ (lg_cmp x 0) then x else (-x)) / (if 0 ≤ (lg_cmp y 0) then y else (-y)))) * (if 0 ≤ (lg_cmp y 0) then y else (-y))) * ((if 0 ≤ (lg_cmp x 0) then x else (-x)) - (if 0 ≤ (lg_cmp x 0) then x else (-x)) / (if 0 ≤ (lg_cmp y 0) then y else (-y)) * (if 0 ≤ (lg_cmp y 0) then y else (-y))))) - (((z - (((if 0 ≤ (lg_cmp x 0) then x else (-x)) / (if 0 ≤ (lg_cmp y 0) then y else (-y))) * ((if 0 ≤ (lg_cmp x 0) then x else (-x)) / (if 0 ≤ (lg_cmp y 0) then y else (-y))))) * (if 0 ≤ (lg_cmp y 0) then y else (-y))) * (if 0 ≤ (lg_cmp y 0) then y else (-y))))) else (-1)) else 1) : Int32) ≤ 0 then (if 0 ≤ ((if ((lg_cmp (((if 0 ≤ (lg_cmp x 0) then x else (-x)) / (if 0 ≤ (lg_cmp y 0) then y else (-y))) * ((if 0 ≤ (lg_cmp x 0) then x else (-x)) / (if 0 ≤ (lg_cmp y 0) then y else (-y)))) z) : Int32) ≤ 0 then (if 0 < ((lg_cmp ((((if 0 ≤ (lg_cmp x 0) then x else (-x)) / (if 0 ≤ (lg_cmp y 0) then y else (-y))) + 1) * (((if 0 ≤ (lg_cmp x 0) then x else (-x)) / (if 0 ≤ (lg_cmp y 0) then y else (-y))) + 1)) z) : Int32) then (f_X8_sign (((((if 0 ≤ (lg_cmp x 0) then x else (-x)) - (if 0 ≤ (lg_cmp x 0) then x else (-x)) / (if 0 ≤ (lg_cmp y 0) then y else (-y)) * (if 0 ≤ (lg_cmp y 0) then y else (-y))) * ((if 0 ≤ (lg_cmp x 0) then x else (-x)) - (if 0 ≤ (lg_cmp x 0) then x else (-x)) / (if 0 ≤ (lg_cmp y 0) then y else (-y)) * (if 0 ≤ (lg_cmp y 0) then y else (-y)))) + (((2 * ((if 0 ≤ (lg_cmp x 0) then x else (-x)) / (if 0 ≤ (lg_cmp y 0) then y else (-y)))) * (if 0 ≤ (lg_cmp y 0) then y else (-y))) * ((if 0 ≤ (lg_cmp x 0) then x else (-x)) - (if 0 ≤ (lg_cmp x 0) then x else (-x)) / (if 0 ≤ (lg_cmp y 0) then y else (-y)) * (if 0 ≤ (lg_cmp y 0) then y else (-y))))) - (((z - (((if 0 ≤ (lg_cmp x 0) then x else (-x)) / (if 0 ≤ (lg_cmp y 0) then y else (-y))) * ((if 0 ≤ (lg_cmp x 0) then x else (-x)) / (if 0 ≤ (lg_cmp y 0) then y else (-y))))) * (if 0 ≤ (lg_cmp y 0) then y else (-y))) * (if 0 ≤ (lg_cmp y 0) then y else (-y))))) else (-1)) else 1) : Int32) then 0 else (if (lg_cmp z 0) = 0 then 0 else (f_X8_sign y))) else (f_X8_sign x)) → va_P D vwCl [] H → va_D A [] → va_S A s.heap H locs → lv_has ls 17 [(0, .long x), (2, .long y), (4, .long z), (6, .int (f_X8_sign x)), (7, .int (if (lg_cmp z 0) = 0 then 0 else (f_X8_sign y))), (8, .long (if 0 ≤ (lg_cmp x 0) then x else (-x))), (10, .long (if 0 ≤ (lg_cmp y 0) then y else (-y))), (12, .long ((if 0 ≤ (lg_cmp x 0) then x else (-x)) / (if 0 ≤ (lg_cmp y 0) then y else (-y)))), (14, .long ((if 0 ≤ (lg_cmp x 0) then x else (-x)) - (if 0 ≤ (lg_cmp x 0) then x else (-x)) / (if 0 ≤ (lg_cmp y 0) then y else (-y)) * (if 0 ≤ (lg_cmp y 0) then y else (-y)))), (16, .int (if ((lg_cmp (((if 0 ≤ (lg_cmp x 0) then x else (-x)) / (if 0 ≤ (lg_cmp y 0) then y else (-y))) * ((if 0 ≤ (lg_cmp x 0) then x else (-x)) / (if 0 ≤ (lg_cmp y 0) then y else (-y)))) z) : Int32) ≤ 0 then (if 0 < ((lg_cmp ((((if 0 ≤ (lg_cmp x 0) then x else (-x)) / (if 0 ≤ (lg_cmp y 0) then y else (-y))) + 1) * (((if 0 ≤ (lg_cmp x 0) then x else (-x)) / (if 0 ≤ (lg_cmp y 0) then y else (-y))) + 1)) z) : Int32) then (f_X8_sign (((((if 0 ≤ (lg_cmp x 0) then x else (-x)) - (if 0 ≤ (lg_cmp x 0) then x else (-x)) / (if 0 ≤ (lg_cmp y 0) then y else (-y)) * (if 0 ≤ (lg_cmp y 0) then y else (-y))) * ((if 0 ≤ (lg_cmp x 0) then x else (-x)) - (if 0 ≤ (lg_cmp x 0) then x else (-x)) / (if 0 ≤ (lg_cmp y 0) then y else (-y)) * (if 0 ≤ (lg_cmp y 0) then y else (-y)))) + (((2 * ((if 0 ≤ (lg_cmp x 0) then x else (-x)) / (if 0 ≤ (lg_cmp y 0) then y else (-y)))) * (if 0 ≤ (lg_cmp y 0) then y else (-y))) * ((if 0 ≤ (lg_cmp x 0) then x else (-x)) - (if 0 ≤ (lg_cmp x 0) then x else (-x)) / (if 0 ≤ (lg_cmp y 0) then y else (-y)) * (if 0 ≤ (lg_cmp y 0) then y else (-y))))) - (((z - (((if 0 ≤ (lg_cmp x 0) then x else (-x)) / (if 0 ≤ (lg_cmp y 0) then y else (-y))) * ((if 0 ≤ (lg_cmp x 0) then x else (-x)) / (if 0 ≤ (lg_cmp y 0) then y else (-y))))) * (if 0 ≤ (lg_cmp y 0) then y else (-y))) * (if 0 ≤ (lg_cmp y 0) then y else (-y))))) else (-1)) else 1))] → W p l e R s m args below meth c H locs 0 0 Q (F0 m 192 ls [.int v25]) := by
                  clear hP hD hS hl
                  intro v25 H locs ls ev25
                  rw [ev25]
                  clear ev25
                  intro hP hD hS hl
                  have hF : f_X8_signOfSum x y z = (if ((if ((lg_cmp (((if 0 ≤ (lg_cmp x 0) then x else (-x)) / (if 0 ≤ (lg_cmp y 0) then y else (-y))) * ((if 0 ≤ (lg_cmp x 0) then x else (-x)) / (if 0 ≤ (lg_cmp y 0) then y else (-y)))) z) : Int32) ≤ 0 then (if 0 < ((lg_cmp ((((if 0 ≤ (lg_cmp x 0) then x else (-x)) / (if 0 ≤ (lg_cmp y 0) then y else (-y))) + 1) * (((if 0 ≤ (lg_cmp x 0) then x else (-x)) / (if 0 ≤ (lg_cmp y 0) then y else (-y))) + 1)) z) : Int32) then (f_X8_sign (((((if 0 ≤ (lg_cmp x 0) then x else (-x)) - (if 0 ≤ (lg_cmp x 0) then x else (-x)) / (if 0 ≤ (lg_cmp y 0) then y else (-y)) * (if 0 ≤ (lg_cmp y 0) then y else (-y))) * ((if 0 ≤ (lg_cmp x 0) then x else (-x)) - (if 0 ≤ (lg_cmp x 0) then x else (-x)) / (if 0 ≤ (lg_cmp y 0) then y else (-y)) * (if 0 ≤ (lg_cmp y 0) then y else (-y)))) + (((2 * ((if 0 ≤ (lg_cmp x 0) then x else (-x)) / (if 0 ≤ (lg_cmp y 0) then y else (-y)))) * (if 0 ≤ (lg_cmp y 0) then y else (-y))) * ((if 0 ≤ (lg_cmp x 0) then x else (-x)) - (if 0 ≤ (lg_cmp x 0) then x else (-x)) / (if 0 ≤ (lg_cmp y 0) then y else (-y)) * (if 0 ≤ (lg_cmp y 0) then y else (-y))))) - (((z - (((if 0 ≤ (lg_cmp x 0) then x else (-x)) / (if 0 ≤ (lg_cmp y 0) then y else (-y))) * ((if 0 ≤ (lg_cmp x 0) then x else (-x)) / (if 0 ≤ (lg_cmp y 0) then y else (-y))))) * (if 0 ≤ (lg_cmp y 0) then y else (-y))) * (if 0 ≤ (lg_cmp y 0) then y else (-y))))) else (-1)) else 1) : Int32) ≤ 0 then (if 0 ≤ ((if ((lg_cmp (((if 0 ≤ (lg_cmp x 0) then x else (-x)) / (if 0 ≤ (lg_cmp y 0) then y else (-y))) * ((if 0 ≤ (lg_cmp x 0) then x else (-x)) / (if 0 ≤ (lg_cmp y 0) then y else (-y)))) z) : Int32) ≤ 0 then (if 0 < ((lg_cmp ((((if 0 ≤ (lg_cmp x 0) then x else (-x)) / (if 0 ≤ (lg_cmp y 0) then y else (-y))) + 1) * (((if 0 ≤ (lg_cmp x 0) then x else (-x)) / (if 0 ≤ (lg_cmp y 0) then y else (-y))) + 1)) z) : Int32) then (f_X8_sign (((((if 0 ≤ (lg_cmp x 0) then x else (-x)) - (if 0 ≤ (lg_cmp x 0) then x else (-x)) / (if 0 ≤ (lg_cmp y 0) then y else (-y)) * (if 0 ≤ (lg_cmp y 0) then y else (-y))) * ((if 0 ≤ (lg_cmp x 0) then x else (-x)) - (if 0 ≤ (lg_cmp x 0) then x else (-x)) / (if 0 ≤ (lg_cmp y 0) then y else (-y)) * (if 0 ≤ (lg_cmp y 0) then y else (-y)))) + (((2 * ((if 0 ≤ (lg_cmp x 0) then x else (-x)) / (if 0 ≤ (lg_cmp y 0) then y else (-y)))) * (if 0 ≤ (lg_cmp y 0) then y else (-y))) * ((if 0 ≤ (lg_cmp x 0) then x else (-x)) - (if 0 ≤ (lg_cmp x 0) then x else (-x)) / (if 0 ≤ (lg_cmp y 0) then y else (-y)) * (if 0 ≤ (lg_cmp y 0) then y else (-y))))) - (((z - (((if 0 ≤ (lg_cmp x 0) then x else (-x)) / (if 0 ≤ (lg_cmp y 0) then y else (-y))) * ((if 0 ≤ (lg_cmp x 0) then x else (-x)) / (if 0 ≤ (lg_cmp y 0) then y else (-y))))) * (if 0 ≤ (lg_cmp y 0) then y else (-y))) * (if 0 ≤ (lg_cmp y 0) then y else (-y))))) else (-1)) else 1) : Int32) then 0 else (if (lg_cmp z 0) = 0 then 0 else (f_X8_sign y))) else (f_X8_sign x)) := hF
                  rw [hF] at hQ
                  exact hQ _ _ _ _ dX8_signOfSum_192 hP hS
                refine lv_if_le (tgt := 181) hx hb dX8_signOfSum_173 (by decide) (fun hc23 => ?_) (fun hc23 => ?_)
                · refine lv_iload hx hb dX8_signOfSum_181 (lv_at hl 9 rfl) ?_
                  refine lv_if_ge (tgt := 191) hx hb dX8_signOfSum_183 (by decide) (fun hc24 => ?_) (fun hc24 => ?_)
                  · refine lv_iconst (v := 0) hx hb dX8_signOfSum_191 (by decide) ?_
                    exact J26 _ _ _ _ (((if_pos hc23).trans (if_pos hc24)).symm) hP hD hS (lv_sub hl [0, 1, 2, 3, 4, 5, 6, 7, 8, 9] rfl)
                  · refine lv_iload hx hb dX8_signOfSum_186 (lv_at hl 4 rfl) ?_
                    refine lv_goto (tgt := 192) hx hb dX8_signOfSum_188 (by decide) ?_
                    exact J26 _ _ _ _ (((if_pos hc23).trans (if_neg hc24)).symm) hP hD hS (lv_sub hl [0, 1, 2, 3, 4, 5, 6, 7, 8, 9] rfl)
                · refine lv_iload hx hb dX8_signOfSum_176 (lv_at hl 3 rfl) ?_
                  refine lv_goto (tgt := 192) hx hb dX8_signOfSum_178 (by decide) ?_
                  exact J26 _ _ _ _ ((if_neg hc23).symm) hP hD hS (lv_sub hl [0, 1, 2, 3, 4, 5, 6, 7, 8, 9] rfl)
              refine lv_if_le (tgt := 112) hx hb dX8_signOfSum_103 (by decide) (fun hc19 => ?_) (fun hc19 => ?_)
              · refine lv_lload hx hb dX8_signOfSum_112 (lv_at hl 1 rfl) ?_
                refine lv_lconst (v := 1) hx hb dX8_signOfSum_114 (by decide) ?_
                refine lv_ladd hx hb dX8_signOfSum_115 ?_
                refine lv_lload hx hb dX8_signOfSum_116 (lv_at hl 1 rfl) ?_
                refine lv_lconst (v := 1) hx hb dX8_signOfSum_118 (by decide) ?_
                refine lv_ladd hx hb dX8_signOfSum_119 ?_
                refine lv_lmul hx hb dX8_signOfSum_120 ?_
                refine lv_lload hx hb dX8_signOfSum_121 (lv_at hl 5 rfl) ?_
                refine W.lcmp hx hb dX8_signOfSum_123 ?_
                refine lv_if_gt (tgt := 133) hx hb dX8_signOfSum_124 (by decide) (fun hc20 => ?_) (fun hc20 => ?_)
                · refine lv_lload hx hb dX8_signOfSum_133 (lv_at hl 0 rfl) ?_
                  refine lv_lload hx hb dX8_signOfSum_135 (lv_at hl 0 rfl) ?_
                  refine lv_lmul hx hb dX8_signOfSum_137 ?_
                  refine lv_ldc2 (v := 2) hx hb hown (hts _ kX8_signOfSum_0) dX8_signOfSum_138 ?_
                  refine lv_lload hx hb dX8_signOfSum_141 (lv_at hl 1 rfl) ?_
                  refine lv_lmul hx hb dX8_signOfSum_143 ?_
                  refine lv_lload hx hb dX8_signOfSum_144 (lv_at hl 2 rfl) ?_
                  refine lv_lmul hx hb dX8_signOfSum_146 ?_
                  refine lv_lload hx hb dX8_signOfSum_147 (lv_at hl 0 rfl) ?_
                  refine lv_lmul hx hb dX8_signOfSum_149 ?_
                  refine lv_ladd hx hb dX8_signOfSum_150 ?_
                  refine lv_lload hx hb dX8_signOfSum_151 (lv_at hl 5 rfl) ?_
                  refine lv_lload hx hb dX8_signOfSum_153 (lv_at hl 1 rfl) ?_
                  refine lv_lload hx hb dX8_signOfSum_155 (lv_at hl 1 rfl) ?_
                  refine lv_lmul hx hb dX8_signOfSum_157 ?_
                  refine lv_lsub hx hb dX8_signOfSum_158 ?_
                  refine lv_lload hx hb dX8_signOfSum_159 (lv_at hl 2 rfl) ?_
                  refine lv_lmul hx hb dX8_signOfSum_161 ?_
                  refine lv_lload hx hb dX8_signOfSum_162 (lv_at hl 2 rfl) ?_
                  refine lv_lmul hx hb dX8_signOfSum_164 ?_
                  refine lv_lsub hx hb dX8_signOfSum_165 ?_
                  refine yk_i [] (va_runS (As := [.long (((((if 0 ≤ (lg_cmp x 0) then x else (-x)) - (if 0 ≤ (lg_cmp x 0) then x else (-x)) / (if 0 ≤ (lg_cmp y 0) then y else (-y)) * (if 0 ≤ (lg_cmp y 0) then y else (-y))) * ((if 0 ≤ (lg_cmp x 0) then x else (-x)) - (if 0 ≤ (lg_cmp x 0) then x else (-x)) / (if 0 ≤ (lg_cmp y 0) then y else (-y)) * (if 0 ≤ (lg_cmp y 0) then y else (-y)))) + (((2 * ((if 0 ≤ (lg_cmp x 0) then x else (-x)) / (if 0 ≤ (lg_cmp y 0) then y else (-y)))) * (if 0 ≤ (lg_cmp y 0) then y else (-y))) * ((if 0 ≤ (lg_cmp x 0) then x else (-x)) - (if 0 ≤ (lg_cmp x 0) then x else (-x)) / (if 0 ≤ (lg_cmp y 0) then y else (-y)) * (if 0 ≤ (lg_cmp y 0) then y else (-y))))) - (((z - (((if 0 ≤ (lg_cmp x 0) then x else (-x)) / (if 0 ≤ (lg_cmp y 0) then y else (-y))) * ((if 0 ≤ (lg_cmp x 0) then x else (-x)) / (if 0 ≤ (lg_cmp y 0) then y else (-y))))) * (if 0 ≤ (lg_cmp y 0) then y else (-y))) * (if 0 ≤ (lg_cmp y 0) then y else (-y))))]) (rest := []) ⟨hx, hb, hml, hown, hts⟩ (c_X8_sign l D cy (((((if 0 ≤ (lg_cmp x 0) then x else (-x)) - (if 0 ≤ (lg_cmp x 0) then x else (-x)) / (if 0 ≤ (lg_cmp y 0) then y else (-y)) * (if 0 ≤ (lg_cmp y 0) then y else (-y))) * ((if 0 ≤ (lg_cmp x 0) then x else (-x)) - (if 0 ≤ (lg_cmp x 0) then x else (-x)) / (if 0 ≤ (lg_cmp y 0) then y else (-y)) * (if 0 ≤ (lg_cmp y 0) then y else (-y)))) + (((2 * ((if 0 ≤ (lg_cmp x 0) then x else (-x)) / (if 0 ≤ (lg_cmp y 0) then y else (-y)))) * (if 0 ≤ (lg_cmp y 0) then y else (-y))) * ((if 0 ≤ (lg_cmp x 0) then x else (-x)) - (if 0 ≤ (lg_cmp x 0) then x else (-x)) / (if 0 ≤ (lg_cmp y 0) then y else (-y)) * (if 0 ≤ (lg_cmp y 0) then y else (-y))))) - (((z - (((if 0 ≤ (lg_cmp x 0) then x else (-x)) / (if 0 ≤ (lg_cmp y 0) then y else (-y))) * ((if 0 ≤ (lg_cmp x 0) then x else (-x)) / (if 0 ≤ (lg_cmp y 0) then y else (-y))))) * (if 0 ≤ (lg_cmp y 0) then y else (-y))) * (if 0 ≤ (lg_cmp y 0) then y else (-y)))) H.size) (va_cwS 1 hts gX8_signOfSum_X8_sign rfl rfl rfl hs_X8_sign (yk_room hRf hRl rfl rfl)) (yk_ps hG hA hS hK hP hD [] (by decide +kernel) rfl) rfl rfl hl.1 rfl (lv_room (Nat.le_of_ble_eq_true rfl)) dX8_signOfSum_166 ⟨Nat.zero_le _, Nat.zero_le _⟩) hP hD hS hA rfl rfl (fun H locs hP9 hD9 hS9 => ?_)
                  replace hP : va_P D vwCl [] H := hP9
                  replace hD : va_D A [] := hD9
                  replace hS := hS9
                  clear hP9 hD9 hS9
                  refine lv_istore (lv' := [(16, .int (f_X8_sign (((((if 0 ≤ (lg_cmp x 0) then x else (-x)) - (if 0 ≤ (lg_cmp x 0) then x else (-x)) / (if 0 ≤ (lg_cmp y 0) then y else (-y)) * (if 0 ≤ (lg_cmp y 0) then y else (-y))) * ((if 0 ≤ (lg_cmp x 0) then x else (-x)) - (if 0 ≤ (lg_cmp x 0) then x else (-x)) / (if 0 ≤ (lg_cmp y 0) then y else (-y)) * (if 0 ≤ (lg_cmp y 0) then y else (-y)))) + (((2 * ((if 0 ≤ (lg_cmp x 0) then x else (-x)) / (if 0 ≤ (lg_cmp y 0) then y else (-y)))) * (if 0 ≤ (lg_cmp y 0) then y else (-y))) * ((if 0 ≤ (lg_cmp x 0) then x else (-x)) - (if 0 ≤ (lg_cmp x 0) then x else (-x)) / (if 0 ≤ (lg_cmp y 0) then y else (-y)) * (if 0 ≤ (lg_cmp y 0) then y else (-y))))) - (((z - (((if 0 ≤ (lg_cmp x 0) then x else (-x)) / (if 0 ≤ (lg_cmp y 0) then y else (-y))) * ((if 0 ≤ (lg_cmp x 0) then x else (-x)) / (if 0 ≤ (lg_cmp y 0) then y else (-y))))) * (if 0 ≤ (lg_cmp y 0) then y else (-y))) * (if 0 ≤ (lg_cmp y 0) then y else (-y)))))), (14, .long ((if 0 ≤ (lg_cmp x 0) then x else (-x)) - (if 0 ≤ (lg_cmp x 0) then x else (-x)) / (if 0 ≤ (lg_cmp y 0) then y else (-y)) * (if 0 ≤ (lg_cmp y 0) then y else (-y)))), (12, .long ((if 0 ≤ (lg_cmp x 0) then x else (-x)) / (if 0 ≤ (lg_cmp y 0) then y else (-y)))), (10, .long (if 0 ≤ (lg_cmp y 0) then y else (-y))), (0, .long x), (2, .long y), (4, .long z), (6, .int (f_X8_sign x)), (7, .int (if (lg_cmp z 0) = 0 then 0 else (f_X8_sign y))), (8, .long (if 0 ≤ (lg_cmp x 0) then x else (-x)))]) hx hb dX8_signOfSum_169 hl (by decide) rfl (fun ls hl9 => ?_)
                  replace hl := hl9
                  clear hl9
                  exact J22 _ _ _ _ (((if_pos hc19).trans (if_pos hc20)).symm) hP hD hS (lv_sub hl [4, 5, 6, 7, 8, 9, 3, 2, 1, 0] rfl)
                · refine lv_iconst (v := (-1)) hx hb dX8_signOfSum_127 (by decide) ?_
                  refine lv_istore (lv' := [(16, .int (-1)), (14, .long ((if 0 ≤ (lg_cmp x 0) then x else (-x)) - (if 0 ≤ (lg_cmp x 0) then x else (-x)) / (if 0 ≤ (lg_cmp y 0) then y else (-y)) * (if 0 ≤ (lg_cmp y 0) then y else (-y)))), (12, .long ((if 0 ≤ (lg_cmp x 0) then x else (-x)) / (if 0 ≤ (lg_cmp y 0) then y else (-y)))), (10, .long (if 0 ≤ (lg_cmp y 0) then y else (-y))), (0, .long x), (2, .long y), (4, .long z), (6, .int (f_X8_sign x)), (7, .int (if (lg_cmp z 0) = 0 then 0 else (f_X8_sign y))), (8, .long (if 0 ≤ (lg_cmp x 0) then x else (-x)))]) hx hb dX8_signOfSum_128 hl (by decide) rfl (fun ls hl9 => ?_)
                  replace hl := hl9
                  clear hl9
                  refine lv_goto (tgt := 171) hx hb dX8_signOfSum_130 (by decide) ?_
                  exact J22 _ _ _ _ (((if_pos hc19).trans (if_neg hc20)).symm) hP hD hS (lv_sub hl [4, 5, 6, 7, 8, 9, 3, 2, 1, 0] rfl)
              · refine lv_iconst (v := 1) hx hb dX8_signOfSum_106 (by decide) ?_
                refine lv_istore (lv' := [(16, .int 1), (14, .long ((if 0 ≤ (lg_cmp x 0) then x else (-x)) - (if 0 ≤ (lg_cmp x 0) then x else (-x)) / (if 0 ≤ (lg_cmp y 0) then y else (-y)) * (if 0 ≤ (lg_cmp y 0) then y else (-y)))), (12, .long ((if 0 ≤ (lg_cmp x 0) then x else (-x)) / (if 0 ≤ (lg_cmp y 0) then y else (-y)))), (10, .long (if 0 ≤ (lg_cmp y 0) then y else (-y))), (0, .long x), (2, .long y), (4, .long z), (6, .int (f_X8_sign x)), (7, .int (if (lg_cmp z 0) = 0 then 0 else (f_X8_sign y))), (8, .long (if 0 ≤ (lg_cmp x 0) then x else (-x)))]) hx hb dX8_signOfSum_107 hl (by decide) rfl (fun ls hl9 => ?_)
                replace hl := hl9
                clear hl9
                refine lv_goto (tgt := 171) hx hb dX8_signOfSum_109 (by decide) ?_
                exact J22 _ _ _ _ ((if_neg hc19).symm) hP hD hS (lv_sub hl [4, 5, 6, 7, 8, 9, 3, 2, 1, 0] rfl)
            refine lv_if_ge (tgt := 78) hx hb dX8_signOfSum_70 (by decide) (fun hc16 => ?_) (fun hc16 => ?_)
            · refine lv_lload_n hx hb dX8_signOfSum_78 rfl (lv_at hl 2 rfl) ?_
              exact J18 _ _ _ _ ((if_pos hc16).symm) hP hD hS (lv_sub hl [1, 2, 3, 4, 5, 0] rfl)
            · refine lv_lload_n hx hb dX8_signOfSum_73 rfl (lv_at hl 2 rfl) ?_
              refine lv_lneg hx hb dX8_signOfSum_74 ?_
              refine lv_goto (tgt := 79) hx hb dX8_signOfSum_75 (by decide) ?_
              exact J18 _ _ _ _ ((if_neg hc16).symm) hP hD hS (lv_sub hl [1, 2, 3, 4, 5, 0] rfl)
          refine lv_if_ge (tgt := 64) hx hb dX8_signOfSum_56 (by decide) (fun hc13 => ?_) (fun hc13 => ?_)
          · refine lv_lload_n hx hb dX8_signOfSum_64 rfl (lv_at hl 1 rfl) ?_
            exact J15 _ _ _ _ ((if_pos hc13).symm) hP hD hS (lv_sub hl [1, 2, 3, 4, 0] rfl)
          · refine lv_lload_n hx hb dX8_signOfSum_59 rfl (lv_at hl 1 rfl) ?_
            refine lv_lneg hx hb dX8_signOfSum_60 ?_
            refine lv_goto (tgt := 65) hx hb dX8_signOfSum_61 (by decide) ?_
            exact J15 _ _ _ _ ((if_neg hc13).symm) hP hD hS (lv_sub hl [1, 2, 3, 4, 0] rfl)
        · replace hF := hF.trans (if_pos hc12)
          refine lv_iload hx hb dX8_signOfSum_40 (lv_at hl 4 rfl) ?_
          have J29 : ∀ (v28 : Int32) (H : Heap) (locs : List Loc) (ls : Array Slot), v28 = (if (f_X8_sign x) = 0 then (if (lg_cmp z 0) = 0 then 0 else (f_X8_sign y)) else (f_X8_sign x)) → va_P D vwCl [] H → va_D A [] → va_S A s.heap H locs → lv_has ls 17 [(0, .long x), (2, .long y), (4, .long z), (6, .int (f_X8_sign x)), (7, .int (if (lg_cmp z 0) = 0 then 0 else (f_X8_sign y)))] → W p l e R s m args below meth c H locs 0 0 Q (F0 m 52 ls [.int v28]) := by
            clear hP hD hS hl
            intro v28 H locs ls ev28
            rw [ev28]
            clear ev28
            intro hP hD hS hl
            have hF : f_X8_signOfSum x y z = (if (f_X8_sign x) = 0 then (if (lg_cmp z 0) = 0 then 0 else (f_X8_sign y)) else (f_X8_sign x)) := hF
            rw [hF] at hQ
            exact hQ _ _ _ _ dX8_signOfSum_52 hP hS
          refine lv_if_ne (tgt := 50) hx hb dX8_signOfSum_42 (by decide) (fun hc27 => ?_) (fun hc27 => ?_)
          · refine lv_iload hx hb dX8_signOfSum_50 (lv_at hl 4 rfl) ?_
            exact J29 _ _ _ _ ((if_neg hc27).symm) hP hD hS (lv_sub hl [1, 2, 3, 4, 0] rfl)
          · refine lv_iload hx hb dX8_signOfSum_45 (lv_at hl 0 rfl) ?_
            refine lv_goto (tgt := 52) hx hb dX8_signOfSum_47 (by decide) ?_
            exact J29 _ _ _ _ ((if_pos hc27).symm) hP hD hS (lv_sub hl [1, 2, 3, 4, 0] rfl)
  refine lv_if_ne (tgt := 17) hx hb dX8_signOfSum_10 (by decide) (fun hc1 => ?_) (fun hc1 => ?_)
  · refine lv_lload_n hx hb dX8_signOfSum_17 rfl (lv_at hl 2 rfl) ?_
    refine yk_i [] (va_runS (As := [.long y]) (rest := []) ⟨hx, hb, hml, hown, hts⟩ (c_X8_sign l D cy y H.size) (va_cwS 1 hts gX8_signOfSum_X8_sign rfl rfl rfl hs_X8_sign (yk_room hRf hRl rfl rfl)) (yk_ps hG hA hS hK hP hD [] (by decide +kernel) rfl) rfl rfl hl.1 rfl (lv_room (Nat.le_of_ble_eq_true rfl)) dX8_signOfSum_18 ⟨Nat.zero_le _, Nat.zero_le _⟩) hP hD hS hA rfl rfl (fun H locs hP9 hD9 hS9 => ?_)
    replace hP : va_P D vwCl [] H := hP9
    replace hD : va_D A [] := hD9
    replace hS := hS9
    clear hP9 hD9 hS9
    exact J3 _ _ _ _ ((if_neg hc1).symm) hP hD hS (lv_sub hl [1, 2, 3, 0] rfl)
  · refine lv_iconst (v := 0) hx hb dX8_signOfSum_13 (by decide) ?_
    refine lv_goto (tgt := 21) hx hb dX8_signOfSum_14 (by decide) ?_
    exact J3 _ _ _ _ ((if_pos hc1).symm) hP hD hS (lv_sub hl [1, 2, 3, 0] rfl)

theorem n_X8_note (sg an : Nat → Int32) (mn : Nat) (px py : Int32) : (f_X8_note sg an mn px py).1 = mn + 1 := rfl
theorem kX8_signAt_0 : Cond.fieldLink RX8 139 "FlowPlaneModel" "a" "J" ∈ wsX8_signAt := by decide +kernel
theorem kX8_signAt_1 : Cond.fieldLink RX8 143 "FlowPlaneModel" "b" "J" ∈ wsX8_signAt := by decide +kernel
theorem kX8_signAt_2 : Cond.fieldLink RX8 146 "FlowPlaneModel" "c" "J" ∈ wsX8_signAt := by decide +kernel
theorem kX8_signAt_3 : Cond.constantLong RX8 168 4 ∈ wsX8_signAt := by decide +kernel
theorem kX8_signAt_4 : Cond.constantLong RX8 170 2 ∈ wsX8_signAt := by decide +kernel
theorem uX8_signAt_X8 : ∀ w ∈ u_ws RX8 TX8 23, w ∈ wsX8_signAt := by decide +kernel
def f_X8_signAt (aa : Int64) (bb : Int64) (dd : Int64) (px : Int32) (ya : Int64) (yb : Int64) (yc : Int64) : Int32 := (if (lg_cmp aa 0) = 0 then (f_X8_sign ((((ya * dd) * dd) - ((yb * bb) * dd)) + ((yc * bb) * bb))) else (f_X8_signOfSum (((2 * aa) * ((aa * yc) - (ya * dd))) - (((aa * yb) - (ya * bb)) * bb)) (if px = 2 then 0 else (if ((if ((if px = 1 then 1 else 0) : Int32) = (if (lg_cmp aa 0) ≤ 0 then 0 else 1) then 1 else 0) : Int32) = 0 then (-((aa * yb) - (ya * bb))) else ((aa * yb) - (ya * bb)))) ((bb * bb) - ((4 * aa) * dd))))
set_option maxHeartbeats 400000000 in
set_option maxRecDepth 100000 in
theorem c_X8_signAt (l : Launch) (D : va_G) (cy : Nat → ClassId) (ta : Nat) (m_now : Nat) (m_undone : Nat) (m_slots : Nat) (m_slotKind : Nat) (m_hasSlot : Nat) (m_sheetBits : Nat) (m_sheetSize : Nat) (m_sheets : Nat) (m_fresh : Nat) (m_rootWhich : Nat) (m_signs : Nat) (m_atNought : Nat) (m_change : Nat) (m_table : Nat) (m_carried : Nat) (u : Nat) (fi : Int32) (aa : Int64) (bb : Int64) (dd : Int64) (ro : Nat) (db : Int32) (mn : Nat) (px : Int32) (ya : Int64) (yb : Int64) (yc : Int64) : yk_Ci l D vwCl (yk_ty cy) yX8_signAt wsX8_signAt 2 57 [.ref ta, .int px, .long ya, .long yb, .long yc] [(ta, .inr (8, [.ref m_now, .ref m_undone, .ref m_slots, .ref m_slotKind, .ref m_hasSlot, .ref m_sheetBits, .ref m_sheetSize, .ref m_sheets, .int (nI u), .int fi, .ref m_fresh, .long aa, .long bb, .long dd, .int (nI ro), .ref m_rootWhich, .int db, .ref m_signs, .ref m_atNought, .int (nI mn), .ref m_change, .ref m_table, .ref m_carried]))] (f_X8_signAt aa bb dd px ya yb yc) [(ta, .inr (8, [.ref m_now, .ref m_undone, .ref m_slots, .ref m_slotKind, .ref m_hasSlot, .ref m_sheetBits, .ref m_sheetSize, .ref m_sheets, .int (nI u), .int fi, .ref m_fresh, .long aa, .long bb, .long dd, .int (nI ro), .ref m_rootWhich, .int db, .ref m_signs, .ref m_atNought, .int (nI mn), .ref m_change, .ref m_table, .ref m_carried]))] := by
  refine yk_eI (cc := cX8_signAt) (maxL := 15) (by decide) rfl (Nat.le_of_ble_eq_true rfl) rfl ?_
  intro p e R s m args below meth c A Q ls H locs hx hb hml hown hts hRf hRl hA hK hG hP hD hS hl hQ
  have hP : va_P D vwCl [(ta, .inr (8, [.ref m_now, .ref m_undone, .ref m_slots, .ref m_slotKind, .ref m_hasSlot, .ref m_sheetBits, .ref m_sheetSize, .ref m_sheets, .int (nI u), .int fi, .ref m_fresh, .long aa, .long bb, .long dd, .int (nI ro), .ref m_rootWhich, .int db, .ref m_signs, .ref m_atNought, .int (nI mn), .ref m_change, .ref m_table, .ref m_carried]))] H := hP
  have hl : lv_has ls 15 [(0, .ref ta), (1, .int px), (2, .long ya), (4, .long yb), (6, .long yc)] := hl
  have hown : s.vm.findClass RX8 = some m.cls := hown
  have hF : (f_X8_signAt aa bb dd px ya yb yc) = (f_X8_signAt aa bb dd px ya yb yc) := rfl
  refine lv_aload_n hx hb dX8_signAt_0 rfl (lv_at hl 0 rfl) ?_
  refine va_get (D := D) (ci := 8) (v := .long aa) (C := RX8) (T := TX8) (N := 23) hx hb hts uX8_signAt_X8 hown hK hP 0 rfl rfl 11 (by decide) (hts _ kX8_signAt_0) (fun _ h9 => h9) rfl dX8_signAt_1 ?_
  refine lv_lconst (v := 0) hx hb dX8_signAt_4 (by decide) ?_
  refine W.lcmp hx hb dX8_signAt_5 ?_
  refine lv_if_ne (tgt := 50) hx hb dX8_signAt_6 (by decide) (fun hc1 => ?_) (fun hc1 => ?_)
  · replace hF := hF.trans (if_neg hc1)
    refine lv_aload_n hx hb dX8_signAt_50 rfl (lv_at hl 0 rfl) ?_
    refine va_get (D := D) (ci := 8) (v := .long aa) (C := RX8) (T := TX8) (N := 23) hx hb hts uX8_signAt_X8 hown hK hP 0 rfl rfl 11 (by decide) (hts _ kX8_signAt_0) (fun _ h9 => h9) rfl dX8_signAt_51 ?_
    refine lv_lload hx hb dX8_signAt_54 (lv_at hl 3 rfl) ?_
    refine lv_lmul hx hb dX8_signAt_56 ?_
    refine lv_lload_n hx hb dX8_signAt_57 rfl (lv_at hl 2 rfl) ?_
    refine lv_aload_n hx hb dX8_signAt_58 rfl (lv_at hl 0 rfl) ?_
    refine va_get (D := D) (ci := 8) (v := .long bb) (C := RX8) (T := TX8) (N := 23) hx hb hts uX8_signAt_X8 hown hK hP 0 rfl rfl 12 (by decide) (hts _ kX8_signAt_1) (fun _ h9 => h9) rfl dX8_signAt_59 ?_
    refine lv_lmul hx hb dX8_signAt_62 ?_
    refine lv_lsub hx hb dX8_signAt_63 ?_
    refine lv_lstore (lv' := [(8, .long ((aa * yb) - (ya * bb))), (0, .ref ta), (1, .int px), (2, .long ya), (4, .long yb), (6, .long yc)]) hx hb dX8_signAt_64 hl (by decide) rfl (fun ls hl9 => ?_)
    replace hl := hl9
    clear hl9
    refine lv_aload_n hx hb dX8_signAt_66 rfl (lv_at hl 1 rfl) ?_
    refine va_get (D := D) (ci := 8) (v := .long aa) (C := RX8) (T := TX8) (N := 23) hx hb hts uX8_signAt_X8 hown hK hP 0 rfl rfl 11 (by decide) (hts _ kX8_signAt_0) (fun _ h9 => h9) rfl dX8_signAt_67 ?_
    refine lv_lload hx hb dX8_signAt_70 (lv_at hl 5 rfl) ?_
    refine lv_lmul hx hb dX8_signAt_72 ?_
    refine lv_lload_n hx hb dX8_signAt_73 rfl (lv_at hl 3 rfl) ?_
    refine lv_aload_n hx hb dX8_signAt_74 rfl (lv_at hl 1 rfl) ?_
    refine va_get (D := D) (ci := 8) (v := .long dd) (C := RX8) (T := TX8) (N := 23) hx hb hts uX8_signAt_X8 hown hK hP 0 rfl rfl 13 (by decide) (hts _ kX8_signAt_2) (fun _ h9 => h9) rfl dX8_signAt_75 ?_
    refine lv_lmul hx hb dX8_signAt_78 ?_
    refine lv_lsub hx hb dX8_signAt_79 ?_
    refine lv_lstore (lv' := [(10, .long ((aa * yc) - (ya * dd))), (8, .long ((aa * yb) - (ya * bb))), (0, .ref ta), (1, .int px), (2, .long ya), (4, .long yb), (6, .long yc)]) hx hb dX8_signAt_80 hl (by decide) rfl (fun ls hl9 => ?_)
    replace hl := hl9
    clear hl9
    refine lv_aload_n hx hb dX8_signAt_82 rfl (lv_at hl 2 rfl) ?_
    refine va_get (D := D) (ci := 8) (v := .long bb) (C := RX8) (T := TX8) (N := 23) hx hb hts uX8_signAt_X8 hown hK hP 0 rfl rfl 12 (by decide) (hts _ kX8_signAt_1) (fun _ h9 => h9) rfl dX8_signAt_83 ?_
    refine lv_aload_n hx hb dX8_signAt_86 rfl (lv_at hl 2 rfl) ?_
    refine va_get (D := D) (ci := 8) (v := .long bb) (C := RX8) (T := TX8) (N := 23) hx hb hts uX8_signAt_X8 hown hK hP 0 rfl rfl 12 (by decide) (hts _ kX8_signAt_1) (fun _ h9 => h9) rfl dX8_signAt_87 ?_
    refine lv_lmul hx hb dX8_signAt_90 ?_
    refine lv_ldc2 (v := 4) hx hb hown (hts _ kX8_signAt_3) dX8_signAt_91 ?_
    refine lv_aload_n hx hb dX8_signAt_94 rfl (lv_at hl 2 rfl) ?_
    refine va_get (D := D) (ci := 8) (v := .long aa) (C := RX8) (T := TX8) (N := 23) hx hb hts uX8_signAt_X8 hown hK hP 0 rfl rfl 11 (by decide) (hts _ kX8_signAt_0) (fun _ h9 => h9) rfl dX8_signAt_95 ?_
    refine lv_lmul hx hb dX8_signAt_98 ?_
    refine lv_aload_n hx hb dX8_signAt_99 rfl (lv_at hl 2 rfl) ?_
    refine va_get (D := D) (ci := 8) (v := .long dd) (C := RX8) (T := TX8) (N := 23) hx hb hts uX8_signAt_X8 hown hK hP 0 rfl rfl 13 (by decide) (hts _ kX8_signAt_2) (fun _ h9 => h9) rfl dX8_signAt_100 ?_
    refine lv_lmul hx hb dX8_signAt_103 ?_
    refine lv_lsub hx hb dX8_signAt_104 ?_
    refine lv_lstore (lv' := [(12, .long ((bb * bb) - ((4 * aa) * dd))), (10, .long ((aa * yc) - (ya * dd))), (8, .long ((aa * yb) - (ya * bb))), (0, .ref ta), (1, .int px), (2, .long ya), (4, .long yb), (6, .long yc)]) hx hb dX8_signAt_105 hl (by decide) rfl (fun ls hl9 => ?_)
    replace hl := hl9
    clear hl9
    refine lv_iload_n hx hb dX8_signAt_107 rfl (lv_at hl 4 rfl) ?_
    refine lv_iconst (v := 1) hx hb dX8_signAt_108 (by decide) ?_
    have J4 : ∀ (v3 : Int32) (H : Heap) (locs : List Loc) (ls : Array Slot), v3 = (if px = 1 then 1 else 0) → va_P D vwCl [(ta, .inr (8, [.ref m_now, .ref m_undone, .ref m_slots, .ref m_slotKind, .ref m_hasSlot, .ref m_sheetBits, .ref m_sheetSize, .ref m_sheets, .int (nI u), .int fi, .ref m_fresh, .long aa, .long bb, .long dd, .int (nI ro), .ref m_rootWhich, .int db, .ref m_signs, .ref m_atNought, .int (nI mn), .ref m_change, .ref m_table, .ref m_carried]))] H → va_D A [(ta, .inr (8, [.ref m_now, .ref m_undone, .ref m_slots, .ref m_slotKind, .ref m_hasSlot, .ref m_sheetBits, .ref m_sheetSize, .ref m_sheets, .int (nI u), .int fi, .ref m_fresh, .long aa, .long bb, .long dd, .int (nI ro), .ref m_rootWhich, .int db, .ref m_signs, .ref m_atNought, .int (nI mn), .ref m_change, .ref m_table, .ref m_carried]))] → va_S A s.heap H locs → lv_has ls 15 [(0, .ref ta), (1, .int px), (2, .long ya), (4, .long yb), (6, .long yc), (8, .long ((aa * yb) - (ya * bb))), (10, .long ((aa * yc) - (ya * dd))), (12, .long ((bb * bb) - ((4 * aa) * dd)))] → W p l e R s m args below meth c H locs 0 0 Q (F0 m 117 ls [.int v3]) := by
      clear hP hD hS hl
      intro v3 H locs ls ev3
      rw [ev3]
      clear ev3
      intro hP hD hS hl
      refine lv_aload_n hx hb dX8_signAt_117 rfl (lv_at hl 0 rfl) ?_
      refine va_get (D := D) (ci := 8) (v := .long aa) (C := RX8) (T := TX8) (N := 23) hx hb hts uX8_signAt_X8 hown hK hP 0 rfl rfl 11 (by decide) (hts _ kX8_signAt_0) (fun _ h9 => h9) rfl dX8_signAt_118 ?_
      refine lv_lconst (v := 0) hx hb dX8_signAt_121 (by decide) ?_
      refine W.lcmp hx hb dX8_signAt_122 ?_
      have J7 : ∀ (v6 : Int32) (H : Heap) (locs : List Loc) (ls : Array Slot), v6 = (if (lg_cmp aa 0) ≤ 0 then 0 else 1) → va_P D vwCl [(ta, .inr (8, [.ref m_now, .ref m_undone, .ref m_slots, .ref m_slotKind, .ref m_hasSlot, .ref m_sheetBits, .ref m_sheetSize, .ref m_sheets, .int (nI u), .int fi, .ref m_fresh, .long aa, .long bb, .long dd, .int (nI ro), .ref m_rootWhich, .int db, .ref m_signs, .ref m_atNought, .int (nI mn), .ref m_change, .ref m_table, .ref m_carried]))] H → va_D A [(ta, .inr (8, [.ref m_now, .ref m_undone, .ref m_slots, .ref m_slotKind, .ref m_hasSlot, .ref m_sheetBits, .ref m_sheetSize, .ref m_sheets, .int (nI u), .int fi, .ref m_fresh, .long aa, .long bb, .long dd, .int (nI ro), .ref m_rootWhich, .int db, .ref m_signs, .ref m_atNought, .int (nI mn), .ref m_change, .ref m_table, .ref m_carried]))] → va_S A s.heap H locs → lv_has ls 15 [(0, .ref ta), (1, .int px), (2, .long ya), (4, .long yb), (6, .long yc), (8, .long ((aa * yb) - (ya * bb))), (10, .long ((aa * yc) - (ya * dd))), (12, .long ((bb * bb) - ((4 * aa) * dd)))] → W p l e R s m args below meth c H locs 0 0 Q (F0 m 131 ls [.int v6, .int (if px = 1 then 1 else 0)]) := by
        clear hP hD hS hl
        intro v6 H locs ls ev6
        rw [ev6]
        clear ev6
        intro hP hD hS hl
        have J10 : ∀ (v9 : Int32) (H : Heap) (locs : List Loc) (ls : Array Slot), v9 = (if ((if px = 1 then 1 else 0) : Int32) = (if (lg_cmp aa 0) ≤ 0 then 0 else 1) then 1 else 0) → va_P D vwCl [(ta, .inr (8, [.ref m_now, .ref m_undone, .ref m_slots, .ref m_slotKind, .ref m_hasSlot, .ref m_sheetBits, .ref m_sheetSize, .ref m_sheets, .int (nI u), .int fi, .ref m_fresh, .long aa, .long bb, .long dd, .int (nI ro), .ref m_rootWhich, .int db, .ref m_signs, .ref m_atNought, .int (nI mn), .ref m_change, .ref m_table, .ref m_carried]))] H → va_D A [(ta, .inr (8, [.ref m_now, .ref m_undone, .ref m_slots, .ref m_slotKind, .ref m_hasSlot, .ref m_sheetBits, .ref m_sheetSize, .ref m_sheets, .int (nI u), .int fi, .ref m_fresh, .long aa, .long bb, .long dd, .int (nI ro), .ref m_rootWhich, .int db, .ref m_signs, .ref m_atNought, .int (nI mn), .ref m_change, .ref m_table, .ref m_carried]))] → va_S A s.heap H locs → lv_has ls 15 [(0, .ref ta), (1, .int px), (2, .long ya), (4, .long yb), (6, .long yc), (8, .long ((aa * yb) - (ya * bb))), (10, .long ((aa * yc) - (ya * dd))), (12, .long ((bb * bb) - ((4 * aa) * dd)))] → W p l e R s m args below meth c H locs 0 0 Q (F0 m 139 ls [.int v9]) := by
          clear hP hD hS hl
          intro v9 H locs ls ev9
          rw [ev9]
          clear ev9
          intro hP hD hS hl
          refine lv_istore (lv' := [(14, .int (if ((if px = 1 then 1 else 0) : Int32) = (if (lg_cmp aa 0) ≤ 0 then 0 else 1) then 1 else 0)), (0, .ref ta), (1, .int px), (2, .long ya), (4, .long yb), (6, .long yc), (8, .long ((aa * yb) - (ya * bb))), (10, .long ((aa * yc) - (ya * dd))), (12, .long ((bb * bb) - ((4 * aa) * dd)))]) hx hb dX8_signAt_139 hl (by decide) rfl (fun ls hl9 => ?_)
          replace hl := hl9
          clear hl9
          refine lv_ldc2 (v := 2) hx hb hown (hts _ kX8_signAt_4) dX8_signAt_141 ?_
          refine lv_aload_n hx hb dX8_signAt_144 rfl (lv_at hl 1 rfl) ?_
          refine va_get (D := D) (ci := 8) (v := .long aa) (C := RX8) (T := TX8) (N := 23) hx hb hts uX8_signAt_X8 hown hK hP 0 rfl rfl 11 (by decide) (hts _ kX8_signAt_0) (fun _ h9 => h9) rfl dX8_signAt_145 ?_
          refine lv_lmul hx hb dX8_signAt_148 ?_
          refine lv_lload hx hb dX8_signAt_149 (lv_at hl 7 rfl) ?_
          refine lv_lmul hx hb dX8_signAt_151 ?_
          refine lv_lload hx hb dX8_signAt_152 (lv_at hl 6 rfl) ?_
          refine lv_aload_n hx hb dX8_signAt_154 rfl (lv_at hl 1 rfl) ?_
          refine va_get (D := D) (ci := 8) (v := .long bb) (C := RX8) (T := TX8) (N := 23) hx hb hts uX8_signAt_X8 hown hK hP 0 rfl rfl 12 (by decide) (hts _ kX8_signAt_1) (fun _ h9 => h9) rfl dX8_signAt_155 ?_
          refine lv_lmul hx hb dX8_signAt_158 ?_
          refine lv_lsub hx hb dX8_signAt_159 ?_
          refine lv_iload_n hx hb dX8_signAt_160 rfl (lv_at hl 2 rfl) ?_
          refine lv_iconst (v := 2) hx hb dX8_signAt_161 (by decide) ?_
          have J14 : ∀ (v13 : Int64) (H : Heap) (locs : List Loc) (ls : Array Slot), v13 = (if px = 2 then 0 else (if ((if ((if px = 1 then 1 else 0) : Int32) = (if (lg_cmp aa 0) ≤ 0 then 0 else 1) then 1 else 0) : Int32) = 0 then (-((aa * yb) - (ya * bb))) else ((aa * yb) - (ya * bb)))) → va_P D vwCl [(ta, .inr (8, [.ref m_now, .ref m_undone, .ref m_slots, .ref m_slotKind, .ref m_hasSlot, .ref m_sheetBits, .ref m_sheetSize, .ref m_sheets, .int (nI u), .int fi, .ref m_fresh, .long aa, .long bb, .long dd, .int (nI ro), .ref m_rootWhich, .int db, .ref m_signs, .ref m_atNought, .int (nI mn), .ref m_change, .ref m_table, .ref m_carried]))] H → va_D A [(ta, .inr (8, [.ref m_now, .ref m_undone, .ref m_slots, .ref m_slotKind, .ref m_hasSlot, .ref m_sheetBits, .ref m_sheetSize, .ref m_sheets, .int (nI u), .int fi, .ref m_fresh, .long aa, .long bb, .long dd, .int (nI ro), .ref m_rootWhich, .int db, .ref m_signs, .ref m_atNought, .int (nI mn), .ref m_change, .ref m_table, .ref m_carried]))] → va_S A s.heap H locs → lv_has ls 15 [(0, .ref ta), (1, .int px), (2, .long ya), (4, .long yb), (6, .long yc), (8, .long ((aa * yb) - (ya * bb))), (10, .long ((aa * yc) - (ya * dd))), (12, .long ((bb * bb) - ((4 * aa) * dd))), (14, .int (if ((if px = 1 then 1 else 0) : Int32) = (if (lg_cmp aa 0) ≤ 0 then 0 else 1) then 1 else 0))] → W p l e R s m args below meth c H locs 0 0 Q (F0 m 182 ls [.long v13, .long (((2 * aa) * ((aa * yc) - (ya * dd))) - (((aa * yb) - (ya * bb)) * bb))]) := by
            clear hP hD hS hl
            intro v13 H locs ls ev13
            rw [ev13]
            clear ev13
            intro hP hD hS hl
            refine lv_lload hx hb dX8_signAt_182 (lv_at hl 7 rfl) ?_
            refine yk_i [] (va_runS (As := [.long (((2 * aa) * ((aa * yc) - (ya * dd))) - (((aa * yb) - (ya * bb)) * bb)), .long (if px = 2 then 0 else (if ((if ((if px = 1 then 1 else 0) : Int32) = (if (lg_cmp aa 0) ≤ 0 then 0 else 1) then 1 else 0) : Int32) = 0 then (-((aa * yb) - (ya * bb))) else ((aa * yb) - (ya * bb)))), .long ((bb * bb) - ((4 * aa) * dd))]) (rest := []) ⟨hx, hb, hml, hown, hts⟩ (c_X8_signOfSum l D cy (((2 * aa) * ((aa * yc) - (ya * dd))) - (((aa * yb) - (ya * bb)) * bb)) (if px = 2 then 0 else (if ((if ((if px = 1 then 1 else 0) : Int32) = (if (lg_cmp aa 0) ≤ 0 then 0 else 1) then 1 else 0) : Int32) = 0 then (-((aa * yb) - (ya * bb))) else ((aa * yb) - (ya * bb)))) ((bb * bb) - ((4 * aa) * dd)) H.size) (va_cwS 3 hts gX8_signAt_X8_signOfSum rfl rfl rfl hs_X8_signOfSum (yk_room hRf hRl rfl rfl)) (yk_ps hG hA hS hK hP hD [] (by decide +kernel) rfl) rfl rfl hl.1 rfl (lv_room (Nat.le_of_ble_eq_true rfl)) dX8_signAt_184 ⟨Nat.zero_le _, Nat.zero_le _⟩) hP hD hS hA rfl rfl (fun H locs hP9 hD9 hS9 => ?_)
            replace hP : va_P D vwCl [(ta, .inr (8, [.ref m_now, .ref m_undone, .ref m_slots, .ref m_slotKind, .ref m_hasSlot, .ref m_sheetBits, .ref m_sheetSize, .ref m_sheets, .int (nI u), .int fi, .ref m_fresh, .long aa, .long bb, .long dd, .int (nI ro), .ref m_rootWhich, .int db, .ref m_signs, .ref m_atNought, .int (nI mn), .ref m_change, .ref m_table, .ref m_carried]))] H := hP9
            replace hD : va_D A [(ta, .inr (8, [.ref m_now, .ref m_undone, .ref m_slots, .ref m_slotKind, .ref m_hasSlot, .ref m_sheetBits, .ref m_sheetSize, .ref m_sheets, .int (nI u), .int fi, .ref m_fresh, .long aa, .long bb, .long dd, .int (nI ro), .ref m_rootWhich, .int db, .ref m_signs, .ref m_atNought, .int (nI mn), .ref m_change, .ref m_table, .ref m_carried]))] := hD9
            replace hS := hS9
            clear hP9 hD9 hS9
            have hF : f_X8_signAt aa bb dd px ya yb yc = (f_X8_signOfSum (((2 * aa) * ((aa * yc) - (ya * dd))) - (((aa * yb) - (ya * bb)) * bb)) (if px = 2 then 0 else (if ((if ((if px = 1 then 1 else 0) : Int32) = (if (lg_cmp aa 0) ≤ 0 then 0 else 1) then 1 else 0) : Int32) = 0 then (-((aa * yb) - (ya * bb))) else ((aa * yb) - (ya * bb)))) ((bb * bb) - ((4 * aa) * dd))) := hF
            rw [hF] at hQ
            exact hQ _ _ _ _ dX8_signAt_187 hP hS
          refine lv_icmp_ne (tgt := 169) hx hb dX8_signAt_162 (by decide) (fun hc11 => ?_) (fun hc11 => ?_)
          · refine lv_iload hx hb dX8_signAt_169 (lv_at hl 0 rfl) ?_
            refine lv_if_eq (tgt := 179) hx hb dX8_signAt_171 (by decide) (fun hc12 => ?_) (fun hc12 => ?_)
            · refine lv_lload hx hb dX8_signAt_179 (lv_at hl 6 rfl) ?_
              refine lv_lneg hx hb dX8_signAt_181 ?_
              exact J14 _ _ _ _ (((if_neg hc11).trans (if_pos hc12)).symm) hP hD hS (lv_sub hl [1, 2, 3, 4, 5, 6, 7, 8, 0] rfl)
            · refine lv_lload hx hb dX8_signAt_174 (lv_at hl 6 rfl) ?_
              refine lv_goto (tgt := 182) hx hb dX8_signAt_176 (by decide) ?_
              exact J14 _ _ _ _ (((if_neg hc11).trans (if_neg hc12)).symm) hP hD hS (lv_sub hl [1, 2, 3, 4, 5, 6, 7, 8, 0] rfl)
          · refine lv_lconst (v := 0) hx hb dX8_signAt_165 (by decide) ?_
            refine lv_goto (tgt := 182) hx hb dX8_signAt_166 (by decide) ?_
            exact J14 _ _ _ _ ((if_pos hc11).symm) hP hD hS (lv_sub hl [1, 2, 3, 4, 5, 6, 7, 8, 0] rfl)
        refine lv_icmp_ne (tgt := 138) hx hb dX8_signAt_131 (by decide) (fun hc8 => ?_) (fun hc8 => ?_)
        · refine lv_iconst (v := 0) hx hb dX8_signAt_138 (by decide) ?_
          exact J10 _ _ _ _ ((if_neg hc8).symm) hP hD hS (lv_sub hl [0, 1, 2, 3, 4, 5, 6, 7] rfl)
        · refine lv_iconst (v := 1) hx hb dX8_signAt_134 (by decide) ?_
          refine lv_goto (tgt := 139) hx hb dX8_signAt_135 (by decide) ?_
          exact J10 _ _ _ _ ((if_pos hc8).symm) hP hD hS (lv_sub hl [0, 1, 2, 3, 4, 5, 6, 7] rfl)
      refine lv_if_le (tgt := 130) hx hb dX8_signAt_123 (by decide) (fun hc5 => ?_) (fun hc5 => ?_)
      · refine lv_iconst (v := 0) hx hb dX8_signAt_130 (by decide) ?_
        exact J7 _ _ _ _ ((if_pos hc5).symm) hP hD hS (lv_sub hl [0, 1, 2, 3, 4, 5, 6, 7] rfl)
      · refine lv_iconst (v := 1) hx hb dX8_signAt_126 (by decide) ?_
        refine lv_goto (tgt := 131) hx hb dX8_signAt_127 (by decide) ?_
        exact J7 _ _ _ _ ((if_neg hc5).symm) hP hD hS (lv_sub hl [0, 1, 2, 3, 4, 5, 6, 7] rfl)
    refine lv_icmp_ne (tgt := 116) hx hb dX8_signAt_109 (by decide) (fun hc2 => ?_) (fun hc2 => ?_)
    · refine lv_iconst (v := 0) hx hb dX8_signAt_116 (by decide) ?_
      exact J4 _ _ _ _ ((if_neg hc2).symm) hP hD hS (lv_sub hl [3, 4, 5, 6, 7, 2, 1, 0] rfl)
    · refine lv_iconst (v := 1) hx hb dX8_signAt_112 (by decide) ?_
      refine lv_goto (tgt := 117) hx hb dX8_signAt_113 (by decide) ?_
      exact J4 _ _ _ _ ((if_pos hc2).symm) hP hD hS (lv_sub hl [3, 4, 5, 6, 7, 2, 1, 0] rfl)
  · replace hF := hF.trans (if_pos hc1)
    refine lv_lload_n hx hb dX8_signAt_9 rfl (lv_at hl 2 rfl) ?_
    refine lv_aload_n hx hb dX8_signAt_10 rfl (lv_at hl 0 rfl) ?_
    refine va_get (D := D) (ci := 8) (v := .long dd) (C := RX8) (T := TX8) (N := 23) hx hb hts uX8_signAt_X8 hown hK hP 0 rfl rfl 13 (by decide) (hts _ kX8_signAt_2) (fun _ h9 => h9) rfl dX8_signAt_11 ?_
    refine lv_lmul hx hb dX8_signAt_14 ?_
    refine lv_aload_n hx hb dX8_signAt_15 rfl (lv_at hl 0 rfl) ?_
    refine va_get (D := D) (ci := 8) (v := .long dd) (C := RX8) (T := TX8) (N := 23) hx hb hts uX8_signAt_X8 hown hK hP 0 rfl rfl 13 (by decide) (hts _ kX8_signAt_2) (fun _ h9 => h9) rfl dX8_signAt_16 ?_
    refine lv_lmul hx hb dX8_signAt_19 ?_
    refine lv_lload hx hb dX8_signAt_20 (lv_at hl 3 rfl) ?_
    refine lv_aload_n hx hb dX8_signAt_22 rfl (lv_at hl 0 rfl) ?_
    refine va_get (D := D) (ci := 8) (v := .long bb) (C := RX8) (T := TX8) (N := 23) hx hb hts uX8_signAt_X8 hown hK hP 0 rfl rfl 12 (by decide) (hts _ kX8_signAt_1) (fun _ h9 => h9) rfl dX8_signAt_23 ?_
    refine lv_lmul hx hb dX8_signAt_26 ?_
    refine lv_aload_n hx hb dX8_signAt_27 rfl (lv_at hl 0 rfl) ?_
    refine va_get (D := D) (ci := 8) (v := .long dd) (C := RX8) (T := TX8) (N := 23) hx hb hts uX8_signAt_X8 hown hK hP 0 rfl rfl 13 (by decide) (hts _ kX8_signAt_2) (fun _ h9 => h9) rfl dX8_signAt_28 ?_
    refine lv_lmul hx hb dX8_signAt_31 ?_
    refine lv_lsub hx hb dX8_signAt_32 ?_
    refine lv_lload hx hb dX8_signAt_33 (lv_at hl 4 rfl) ?_
    refine lv_aload_n hx hb dX8_signAt_35 rfl (lv_at hl 0 rfl) ?_
    refine va_get (D := D) (ci := 8) (v := .long bb) (C := RX8) (T := TX8) (N := 23) hx hb hts uX8_signAt_X8 hown hK hP 0 rfl rfl 12 (by decide) (hts _ kX8_signAt_1) (fun _ h9 => h9) rfl dX8_signAt_36 ?_
    refine lv_lmul hx hb dX8_signAt_39 ?_
    refine lv_aload_n hx hb dX8_signAt_40 rfl (lv_at hl 0 rfl) ?_
    refine va_get (D := D) (ci := 8) (v := .long bb) (C := RX8) (T := TX8) (N := 23) hx hb hts uX8_signAt_X8 hown hK hP 0 rfl rfl 12 (by decide) (hts _ kX8_signAt_1) (fun _ h9 => h9) rfl dX8_signAt_41 ?_
    refine lv_lmul hx hb dX8_signAt_44 ?_
    refine lv_ladd hx hb dX8_signAt_45 ?_
    refine yk_i [] (va_runS (As := [.long ((((ya * dd) * dd) - ((yb * bb) * dd)) + ((yc * bb) * bb))]) (rest := []) ⟨hx, hb, hml, hown, hts⟩ (c_X8_sign l D cy ((((ya * dd) * dd) - ((yb * bb) * dd)) + ((yc * bb) * bb)) H.size) (va_cwS 1 hts gX8_signAt_X8_sign rfl rfl rfl hs_X8_sign (yk_room hRf hRl rfl rfl)) (yk_ps hG hA hS hK hP hD [] (by decide +kernel) rfl) rfl rfl hl.1 rfl (lv_room (Nat.le_of_ble_eq_true rfl)) dX8_signAt_46 ⟨Nat.zero_le _, Nat.zero_le _⟩) hP hD hS hA rfl rfl (fun H locs hP9 hD9 hS9 => ?_)
    replace hP : va_P D vwCl [(ta, .inr (8, [.ref m_now, .ref m_undone, .ref m_slots, .ref m_slotKind, .ref m_hasSlot, .ref m_sheetBits, .ref m_sheetSize, .ref m_sheets, .int (nI u), .int fi, .ref m_fresh, .long aa, .long bb, .long dd, .int (nI ro), .ref m_rootWhich, .int db, .ref m_signs, .ref m_atNought, .int (nI mn), .ref m_change, .ref m_table, .ref m_carried]))] H := hP9
    replace hD : va_D A [(ta, .inr (8, [.ref m_now, .ref m_undone, .ref m_slots, .ref m_slotKind, .ref m_hasSlot, .ref m_sheetBits, .ref m_sheetSize, .ref m_sheets, .int (nI u), .int fi, .ref m_fresh, .long aa, .long bb, .long dd, .int (nI ro), .ref m_rootWhich, .int db, .ref m_signs, .ref m_atNought, .int (nI mn), .ref m_change, .ref m_table, .ref m_carried]))] := hD9
    replace hS := hS9
    clear hP9 hD9 hS9
    have hF : f_X8_signAt aa bb dd px ya yb yc = (f_X8_sign ((((ya * dd) * dd) - ((yb * bb) * dd)) + ((yc * bb) * bb))) := hF
    rw [hF] at hQ
    exact hQ _ _ _ _ dX8_signAt_49 hP hS

theorem kX8_hasNought_0 : Cond.fieldLink RX8 153 "FlowPlaneModel" "roots" "I" ∈ wsX8_hasNought := by decide +kernel
theorem kX8_hasNought_1 : Cond.fieldLink RX8 146 "FlowPlaneModel" "c" "J" ∈ wsX8_hasNought := by decide +kernel
theorem kX8_hasNought_2 : Cond.fieldLink RX8 139 "FlowPlaneModel" "a" "J" ∈ wsX8_hasNought := by decide +kernel
theorem kX8_hasNought_3 : Cond.fieldLink RX8 143 "FlowPlaneModel" "b" "J" ∈ wsX8_hasNought := by decide +kernel
theorem uX8_hasNought_X8 : ∀ w ∈ u_ws RX8 TX8 23, w ∈ wsX8_hasNought := by decide +kernel
def f_X8_hasNought (aa : Int64) (bb : Int64) (dd : Int64) (rt : Nat → Int32) : Int32 × Nat × Int32 × (Nat → Int32) := ((if 0 < (nI ((f_X8_findRoots aa bb dd rt).1)) then 1 else (if (lg_cmp dd 0) = 0 then 1 else (if (lg_cmp ((aa + bb) + dd) 0) = 0 then 1 else 0))), ((f_X8_findRoots aa bb dd rt).1), ((f_X8_findRoots aa bb dd rt).2.1), ((f_X8_findRoots aa bb dd rt).2.2))
theorem b_X8_hasNought (aa : Int64) (bb : Int64) (dd : Int64) (rt : Nat → Int32) : (f_X8_hasNought aa bb dd rt).1 = 0 ∨ (f_X8_hasNought aa bb dd rt).1 = 1 := by
  unfold f_X8_hasNought; (repeat' split) <;> first | exact Or.inl (by with_reducible rfl) | exact Or.inr (by with_reducible rfl)
set_option maxHeartbeats 400000000 in
set_option maxRecDepth 100000 in
theorem c_X8_hasNought (l : Launch) (D : va_G) (cy : Nat → ClassId) (ta : Nat) (m_rootWhich : Nat) (m_now : Nat) (m_undone : Nat) (m_slots : Nat) (m_slotKind : Nat) (m_hasSlot : Nat) (m_sheetBits : Nat) (m_sheetSize : Nat) (m_sheets : Nat) (m_fresh : Nat) (m_signs : Nat) (m_atNought : Nat) (m_change : Nat) (m_table : Nat) (m_carried : Nat) (u : Nat) (fi : Int32) (aa : Int64) (bb : Int64) (dd : Int64) (ro : Nat) (rt : Nat → Int32) (db : Int32) (mn : Nat) : yk_Ci l D vwCl (yk_ty cy) yX8_hasNought wsX8_hasNought 2 49 [.ref ta] [(ta, .inr (8, [.ref m_now, .ref m_undone, .ref m_slots, .ref m_slotKind, .ref m_hasSlot, .ref m_sheetBits, .ref m_sheetSize, .ref m_sheets, .int (nI u), .int fi, .ref m_fresh, .long aa, .long bb, .long dd, .int (nI ro), .ref m_rootWhich, .int db, .ref m_signs, .ref m_atNought, .int (nI mn), .ref m_change, .ref m_table, .ref m_carried])), (m_rootWhich, .inl (cy 0, 2, .inl rt))] ((f_X8_hasNought aa bb dd rt).1) [(ta, .inr (8, [.ref m_now, .ref m_undone, .ref m_slots, .ref m_slotKind, .ref m_hasSlot, .ref m_sheetBits, .ref m_sheetSize, .ref m_sheets, .int (nI u), .int fi, .ref m_fresh, .long aa, .long bb, .long dd, .int (nI ((f_X8_hasNought aa bb dd rt).2.1)), .ref m_rootWhich, .int ((f_X8_hasNought aa bb dd rt).2.2.1), .ref m_signs, .ref m_atNought, .int (nI mn), .ref m_change, .ref m_table, .ref m_carried])), (m_rootWhich, .inl (cy 0, 2, .inl ((f_X8_hasNought aa bb dd rt).2.2.2)))] := by
  refine yk_eI (cc := cX8_hasNought) (maxL := 1) (by decide) rfl (Nat.le_of_ble_eq_true rfl) (yk_nb (b_X8_hasNought aa bb dd rt)) ?_
  intro p e R s m args below meth c A Q ls H locs hx hb hml hown hts hRf hRl hA hK hG hP hD hS hl hQ
  have hP : va_P D vwCl [(ta, .inr (8, [.ref m_now, .ref m_undone, .ref m_slots, .ref m_slotKind, .ref m_hasSlot, .ref m_sheetBits, .ref m_sheetSize, .ref m_sheets, .int (nI u), .int fi, .ref m_fresh, .long aa, .long bb, .long dd, .int (nI ro), .ref m_rootWhich, .int db, .ref m_signs, .ref m_atNought, .int (nI mn), .ref m_change, .ref m_table, .ref m_carried])), (m_rootWhich, .inl (cy 0, 2, .inl rt))] H := hP
  have hl : lv_has ls 1 [(0, .ref ta)] := hl
  have hown : s.vm.findClass RX8 = some m.cls := hown
  have hF : (f_X8_hasNought aa bb dd rt) = (f_X8_hasNought aa bb dd rt) := rfl
  refine lv_aload_n hx hb dX8_hasNought_0 rfl (lv_at hl 0 rfl) ?_
  refine yk_v [0, 1] (va_runV (As := []) (rest := []) ⟨hx, hb, hml, hown, hts⟩ (c_X8_findRoots l D cy ta m_rootWhich m_now m_undone m_slots m_slotKind m_hasSlot m_sheetBits m_sheetSize m_sheets m_fresh m_signs m_atNought m_change m_table m_carried u fi aa bb dd ro rt db mn H.size) (cwV 0 hts gX8_hasNought_X8_findRoots rfl rfl rfl hv_X8_findRoots (yk_room hRf hRl rfl rfl)) (yk_pv (q := (RX8, TX8, 23)) hG hA hS hK hP hD [0, 1] (by decide +kernel) rfl rfl rfl) rfl rfl hl.1 rfl (lv_room (Nat.le_of_ble_eq_true rfl)) dX8_hasNought_1 ⟨Nat.zero_le _, Nat.zero_le _⟩) hP hD hS hA rfl (Eq.trans (b := [ta, m_rootWhich]) rfl rfl) (fun H locs hP9 hD9 hS9 => ?_)
  replace hP : va_P D vwCl [(ta, .inr (8, [.ref m_now, .ref m_undone, .ref m_slots, .ref m_slotKind, .ref m_hasSlot, .ref m_sheetBits, .ref m_sheetSize, .ref m_sheets, .int (nI u), .int fi, .ref m_fresh, .long aa, .long bb, .long dd, .int (nI ((f_X8_findRoots aa bb dd rt).1)), .ref m_rootWhich, .int ((f_X8_findRoots aa bb dd rt).2.1), .ref m_signs, .ref m_atNought, .int (nI mn), .ref m_change, .ref m_table, .ref m_carried])), (m_rootWhich, .inl (cy 0, 2, .inl ((f_X8_findRoots aa bb dd rt).2.2)))] H := hP9
  replace hD : va_D A [(ta, .inr (8, [.ref m_now, .ref m_undone, .ref m_slots, .ref m_slotKind, .ref m_hasSlot, .ref m_sheetBits, .ref m_sheetSize, .ref m_sheets, .int (nI u), .int fi, .ref m_fresh, .long aa, .long bb, .long dd, .int (nI ((f_X8_findRoots aa bb dd rt).1)), .ref m_rootWhich, .int ((f_X8_findRoots aa bb dd rt).2.1), .ref m_signs, .ref m_atNought, .int (nI mn), .ref m_change, .ref m_table, .ref m_carried])), (m_rootWhich, .inl (cy 0, 2, .inl ((f_X8_findRoots aa bb dd rt).2.2)))] := hD9
  replace hS := hS9
  clear hP9 hD9 hS9
  refine lv_aload_n hx hb dX8_hasNought_4 rfl (lv_at hl 0 rfl) ?_
  refine va_get (D := D) (ci := 8) (v := .int (nI ((f_X8_findRoots aa bb dd rt).1))) (C := RX8) (T := TX8) (N := 23) hx hb hts uX8_hasNought_X8 hown hK hP 0 rfl rfl 14 (by decide) (hts _ kX8_hasNought_0) (fun _ h9 => h9) rfl dX8_hasNought_5 ?_
  have J5 : ∀ (v4 : Int32) (H : Heap) (locs : List Loc) (ls : Array Slot), v4 = (if 0 < (nI ((f_X8_findRoots aa bb dd rt).1)) then 1 else (if (lg_cmp dd 0) = 0 then 1 else (if (lg_cmp ((aa + bb) + dd) 0) = 0 then 1 else 0))) → va_P D vwCl [(ta, .inr (8, [.ref m_now, .ref m_undone, .ref m_slots, .ref m_slotKind, .ref m_hasSlot, .ref m_sheetBits, .ref m_sheetSize, .ref m_sheets, .int (nI u), .int fi, .ref m_fresh, .long aa, .long bb, .long dd, .int (nI ((f_X8_findRoots aa bb dd rt).1)), .ref m_rootWhich, .int ((f_X8_findRoots aa bb dd rt).2.1), .ref m_signs, .ref m_atNought, .int (nI mn), .ref m_change, .ref m_table, .ref m_carried])), (m_rootWhich, .inl (cy 0, 2, .inl ((f_X8_findRoots aa bb dd rt).2.2)))] H → va_D A [(ta, .inr (8, [.ref m_now, .ref m_undone, .ref m_slots, .ref m_slotKind, .ref m_hasSlot, .ref m_sheetBits, .ref m_sheetSize, .ref m_sheets, .int (nI u), .int fi, .ref m_fresh, .long aa, .long bb, .long dd, .int (nI ((f_X8_findRoots aa bb dd rt).1)), .ref m_rootWhich, .int ((f_X8_findRoots aa bb dd rt).2.1), .ref m_signs, .ref m_atNought, .int (nI mn), .ref m_change, .ref m_table, .ref m_carried])), (m_rootWhich, .inl (cy 0, 2, .inl ((f_X8_findRoots aa bb dd rt).2.2)))] → va_S A s.heap H locs → lv_has ls 1 [(0, .ref ta)] → W p l e R s m args below meth c H locs 0 0 Q (F0 m 44 ls [.int v4]) := by
    clear hP hD hS hl
    intro v4 H locs ls ev4
    rw [ev4]
    clear ev4
    intro hP hD hS hl
    have hF : f_X8_hasNought aa bb dd rt = ((if 0 < (nI ((f_X8_findRoots aa bb dd rt).1)) then 1 else (if (lg_cmp dd 0) = 0 then 1 else (if (lg_cmp ((aa + bb) + dd) 0) = 0 then 1 else 0))), ((f_X8_findRoots aa bb dd rt).1), ((f_X8_findRoots aa bb dd rt).2.1), ((f_X8_findRoots aa bb dd rt).2.2)) := hF
    have hf0 := yk_fst hF
    have hg0 := yk_snd hF
    have hf1 := yk_fst hg0
    have hg1 := yk_snd hg0
    have hf2 := yk_fst hg1
    have hg2 := yk_snd hg1
    rw [hf0, hf1, hf2, hg2] at hQ
    exact hQ _ _ _ _ dX8_hasNought_44 hP hS
  refine lv_if_gt (tgt := 39) hx hb dX8_hasNought_8 (by decide) (fun hc1 => ?_) (fun hc1 => ?_)
  · refine lv_iconst (v := 1) hx hb dX8_hasNought_39 (by decide) ?_
    refine lv_goto (tgt := 44) hx hb dX8_hasNought_40 (by decide) ?_
    exact J5 _ _ _ _ ((if_pos hc1).symm) hP hD hS (lv_sub hl [0] rfl)
  · refine lv_aload_n hx hb dX8_hasNought_11 rfl (lv_at hl 0 rfl) ?_
    refine va_get (D := D) (ci := 8) (v := .long dd) (C := RX8) (T := TX8) (N := 23) hx hb hts uX8_hasNought_X8 hown hK hP 0 rfl rfl 13 (by decide) (hts _ kX8_hasNought_1) (fun _ h9 => h9) rfl dX8_hasNought_12 ?_
    refine lv_lconst (v := 0) hx hb dX8_hasNought_15 (by decide) ?_
    refine W.lcmp hx hb dX8_hasNought_16 ?_
    refine lv_if_eq (tgt := 39) hx hb dX8_hasNought_17 (by decide) (fun hc2 => ?_) (fun hc2 => ?_)
    · refine lv_iconst (v := 1) hx hb dX8_hasNought_39 (by decide) ?_
      refine lv_goto (tgt := 44) hx hb dX8_hasNought_40 (by decide) ?_
      exact J5 _ _ _ _ (((if_neg hc1).trans (if_pos hc2)).symm) hP hD hS (lv_sub hl [0] rfl)
    · refine lv_aload_n hx hb dX8_hasNought_20 rfl (lv_at hl 0 rfl) ?_
      refine va_get (D := D) (ci := 8) (v := .long aa) (C := RX8) (T := TX8) (N := 23) hx hb hts uX8_hasNought_X8 hown hK hP 0 rfl rfl 11 (by decide) (hts _ kX8_hasNought_2) (fun _ h9 => h9) rfl dX8_hasNought_21 ?_
      refine lv_aload_n hx hb dX8_hasNought_24 rfl (lv_at hl 0 rfl) ?_
      refine va_get (D := D) (ci := 8) (v := .long bb) (C := RX8) (T := TX8) (N := 23) hx hb hts uX8_hasNought_X8 hown hK hP 0 rfl rfl 12 (by decide) (hts _ kX8_hasNought_3) (fun _ h9 => h9) rfl dX8_hasNought_25 ?_
      refine lv_ladd hx hb dX8_hasNought_28 ?_
      refine lv_aload_n hx hb dX8_hasNought_29 rfl (lv_at hl 0 rfl) ?_
      refine va_get (D := D) (ci := 8) (v := .long dd) (C := RX8) (T := TX8) (N := 23) hx hb hts uX8_hasNought_X8 hown hK hP 0 rfl rfl 13 (by decide) (hts _ kX8_hasNought_1) (fun _ h9 => h9) rfl dX8_hasNought_30 ?_
      refine lv_ladd hx hb dX8_hasNought_33 ?_
      refine lv_lconst (v := 0) hx hb dX8_hasNought_34 (by decide) ?_
      refine W.lcmp hx hb dX8_hasNought_35 ?_
      refine lv_if_ne (tgt := 43) hx hb dX8_hasNought_36 (by decide) (fun hc3 => ?_) (fun hc3 => ?_)
      · refine lv_iconst (v := 0) hx hb dX8_hasNought_43 (by decide) ?_
        exact J5 _ _ _ _ (((if_neg hc1).trans ((if_neg hc2).trans (if_neg hc3))).symm) hP hD hS (lv_sub hl [0] rfl)
      · refine lv_iconst (v := 1) hx hb dX8_hasNought_39 (by decide) ?_
        refine lv_goto (tgt := 44) hx hb dX8_hasNought_40 (by decide) ?_
        exact J5 _ _ _ _ (((if_neg hc1).trans ((if_neg hc2).trans (if_pos hc3))).symm) hP hD hS (lv_sub hl [0] rfl)
