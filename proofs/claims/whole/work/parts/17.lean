
theorem kX8_kept_0 : Cond.fieldLink RX8 51 "FlowPlaneModel" "table" "[J" ∈ wsX8_kept := by decide +kernel
theorem kX8_kept_1 : Cond.fieldLink RX8 47 "FlowPlaneModel" "change" "[J" ∈ wsX8_kept := by decide +kernel
theorem uX8_kept_X8 : ∀ w ∈ u_ws RX8 TX8 23, w ∈ wsX8_kept := by decide +kernel
def l_X8_kept_62 (nw : Nat → Int32) (ch : Nat → Int64) (tb : Nat → Int64) (ka : Nat) (zchange_2 : Nat → Int64) (ztable_2 : Nat → Int64) : Nat → Nat → (Nat → Int64) → (Nat → Int64)
  | 0, kb, ztable_62 => ztable_62
  | fu_X8_kept_62 + 1, kb, ztable_62 => (if 10 ≤ (nI kb) then ztable_62 else (l_X8_kept_62 nw ch tb ka zchange_2 ztable_2 fu_X8_kept_62 (kb + 1) (vp_updL ztable_62 ((10 * ka) + kb) ((f_X8_changes nw zchange_2 (if (nI ka) = 0 then 1 else 0) (if (nI ka) = 1 then 1 else 0) (if (nI ka) = 2 then 1 else 0) (if (nI ka) = 3 then 1 else 0) (if (nI ka) = 4 then 1 else 0)) kb))))
def l_X8_kept_2 (nw : Nat → Int32) (ch : Nat → Int64) (tb : Nat → Int64) : Nat → Nat → (Nat → Int64) → (Nat → Int64) → (Nat → Int64) × (Nat → Int64)
  | 0, ka, zchange_2, ztable_2 => (zchange_2, ztable_2)
  | fu_X8_kept_2 + 1, ka, zchange_2, ztable_2 => (if 5 ≤ (nI ka) then (zchange_2, ztable_2) else (l_X8_kept_2 nw ch tb fu_X8_kept_2 (ka + 1) (f_X8_changes nw zchange_2 (if (nI ka) = 0 then 1 else 0) (if (nI ka) = 1 then 1 else 0) (if (nI ka) = 2 then 1 else 0) (if (nI ka) = 3 then 1 else 0) (if (nI ka) = 4 then 1 else 0)) (l_X8_kept_62 nw ch tb ka zchange_2 ztable_2 (10 + 1) 0 ztable_2)))
def l_X8_kept_119 (nw : Nat → Int32) (ch : Nat → Int64) (tb : Nat → Int64) (kc1 : Nat) (ztable_104 : Nat → Int64) (rk : Nat) (z2_104 : Int64) : Nat → Nat → Nat
  | 0, kd => kd
  | fu_X8_kept_119 + 1, kd => (if 5 ≤ (nI kd) then kd else (if (lg_cmp (ztable_104 ((10 * kd) + kc1)) 0) = 0 then (l_X8_kept_119 nw ch tb kc1 ztable_104 rk z2_104 fu_X8_kept_119 (kd + 1)) else kd))
def l_X8_kept_161 (nw : Nat → Int32) (ch : Nat → Int64) (tb : Nat → Int64) (kc1 : Nat) (ztable_104 : Nat → Int64) (rk : Nat) (z2_104 : Int64) : Nat → Nat → (Nat → Int64) → (Nat → Int64)
  | 0, ke, ztable_161 => ztable_161
  | fu_X8_kept_161 + 1, ke, ztable_161 => (if 10 ≤ (nI ke) then ztable_161 else (l_X8_kept_161 nw ch tb kc1 ztable_104 rk z2_104 fu_X8_kept_161 (ke + 1) (vp_updL (vp_updL ztable_161 ((10 * (l_X8_kept_119 nw ch tb kc1 ztable_104 rk z2_104 (5 - rk + 1) rk)) + ke) (ztable_161 ((10 * rk) + ke))) ((10 * rk) + ke) (ztable_161 ((10 * (l_X8_kept_119 nw ch tb kc1 ztable_104 rk z2_104 (5 - rk + 1) rk)) + ke)))))
def l_X8_kept_271 (nw : Nat → Int32) (ch : Nat → Int64) (tb : Nat → Int64) (kc1 : Nat) (ztable_104 : Nat → Int64) (rk : Nat) (z2_104 : Int64) (kf : Nat) (ztable_247 : Nat → Int64) : Nat → Nat → (Nat → Int64) → (Nat → Int64)
  | 0, kg, ztable_271 => ztable_271
  | fu_X8_kept_271 + 1, kg, ztable_271 => (if 10 ≤ (nI kg) then ztable_271 else (l_X8_kept_271 nw ch tb kc1 ztable_104 rk z2_104 kf ztable_247 fu_X8_kept_271 (kg + 1) (vp_updL ztable_271 ((10 * kf) + kg) ((((ztable_271 ((10 * kf) + kg)) * ((l_X8_kept_161 nw ch tb kc1 ztable_104 rk z2_104 (10 + 1) 0 ztable_104) ((10 * rk) + kc1))) - ((ztable_271 ((10 * rk) + kg)) * (ztable_247 ((10 * kf) + kc1)))) / z2_104))))
def l_X8_kept_247 (nw : Nat → Int32) (ch : Nat → Int64) (tb : Nat → Int64) (kc1 : Nat) (ztable_104 : Nat → Int64) (rk : Nat) (z2_104 : Int64) : Nat → Nat → (Nat → Int64) → (Nat → Int64)
  | 0, kf, ztable_247 => ztable_247
  | fu_X8_kept_247 + 1, kf, ztable_247 => (if 5 ≤ (nI kf) then ztable_247 else (l_X8_kept_247 nw ch tb kc1 ztable_104 rk z2_104 fu_X8_kept_247 (kf + 1) (l_X8_kept_271 nw ch tb kc1 ztable_104 rk z2_104 kf ztable_247 (10 + 1) 0 ztable_247)))
def l_X8_kept_104 (nw : Nat → Int32) (ch : Nat → Int64) (tb : Nat → Int64) : Nat → Nat → (Nat → Int64) → Nat → Int64 → (Nat → Int64) × Nat × Int64
  | 0, kc1, ztable_104, rk, z2_104 => (ztable_104, rk, z2_104)
  | fu_X8_kept_104 + 1, kc1, ztable_104, rk, z2_104 => (if 10 ≤ (nI kc1) then (ztable_104, rk, z2_104) else (if 5 ≤ (nI rk) then (ztable_104, rk, z2_104) else (l_X8_kept_104 nw ch tb fu_X8_kept_104 (kc1 + 1) (if (nI (l_X8_kept_119 nw ch tb kc1 ztable_104 rk z2_104 (5 - rk + 1) rk)) = 5 then ztable_104 else (l_X8_kept_247 nw ch tb kc1 ztable_104 rk z2_104 (5 - (rk + 1) + 1) (rk + 1) (l_X8_kept_161 nw ch tb kc1 ztable_104 rk z2_104 (10 + 1) 0 ztable_104))) (if (nI (l_X8_kept_119 nw ch tb kc1 ztable_104 rk z2_104 (5 - rk + 1) rk)) = 5 then rk else (rk + 1)) (if (nI (l_X8_kept_119 nw ch tb kc1 ztable_104 rk z2_104 (5 - rk + 1) rk)) = 5 then z2_104 else ((l_X8_kept_161 nw ch tb kc1 ztable_104 rk z2_104 (10 + 1) 0 ztable_104) ((10 * rk) + kc1))))))
def f_X8_kept (nw : Nat → Int32) (ch : Nat → Int64) (tb : Nat → Int64) : Int32 × (Nat → Int64) × (Nat → Int64) := ((5 - (nI ((l_X8_kept_104 nw ch tb (10 + 1) 0 ((l_X8_kept_2 nw ch tb (5 + 1) 0 ch tb).2) 0 1).2.1))), ((l_X8_kept_2 nw ch tb (5 + 1) 0 ch tb).1), ((l_X8_kept_104 nw ch tb (10 + 1) 0 ((l_X8_kept_2 nw ch tb (5 + 1) 0 ch tb).2) 0 1).1))
theorem kp_sw (nw : Nat → Int32) (ch tb : Nat → Int64) (kc1 : Nat) (t : Nat → Int64) (rk : Nat) (z2 : Int64) (B m : Nat) (hB : l_X8_kept_119 nw ch tb kc1 t rk z2 (5 - rk + 1) rk = B) (hm : m < 10) : ∀ (fu ke : Nat) (z : Nat → Int64), ke + fu = 11 → ke ≤ 10 → (l_X8_kept_161 nw ch tb kc1 t rk z2 fu ke z) (10 * rk + m) = if m < ke then z (10 * rk + m) else z (10 * B + m)
  | 0, ke, z, h1, h2 => by omega
  | fu + 1, ke, z, h1, h2 => by
    unfold l_X8_kept_161
    rw [hB]
    by_cases hc : (10 : Int32) ≤ nI ke
    · rw [if_pos hc]
      have : ke = 10 := by
        rcases Nat.lt_or_ge ke 10 with q | q
        · exact absurd hc (nI_ge (b := 10) q (by decide))
        · omega
      subst this
      rw [if_pos hm]
    · rw [if_neg hc]
      have hk : ke < 10 := by
        rcases Nat.lt_or_ge ke 10 with q | q
        · exact q
        · exact absurd (nI_le (a := 10) q (by omega)) hc
      rw [kp_sw nw ch tb kc1 t rk z2 B m hB hm fu (ke + 1) _ (by omega) (by omega)]
      rcases Nat.lt_trichotomy m ke with q | q | q
      · rw [if_pos (by omega), if_pos q, pk_uLn (by omega), pk_uLn (by omega)]
      · subst q
        rw [if_pos (by omega), if_neg (by omega), pk_uLs]
      · rw [if_neg (by omega), if_neg (by omega), pk_uLn (by omega), pk_uLn (by omega)]
theorem kp_step {nw : Nat → Int32} {ch tb : Nat → Int64} {kc1 : Nat} {t : Nat → Int64} {rk : Nat} {z2 : Int64} (hm : kc1 < 10) (hb0 : ¬ z2 = 0) (hby : l_X8_kept_119 nw ch tb kc1 t rk z2 (5 - rk + 1) rk ≤ 5) (hbe : l_X8_kept_119 nw ch tb kc1 t rk z2 (5 - rk + 1) rk = 5 ∨ ¬ t (10 * (l_X8_kept_119 nw ch tb kc1 t rk z2 (5 - rk + 1) rk) + kc1) = 0) : ¬ (if (nI (l_X8_kept_119 nw ch tb kc1 t rk z2 (5 - rk + 1) rk)) = 5 then z2 else ((l_X8_kept_161 nw ch tb kc1 t rk z2 (10 + 1) 0 t) ((10 * rk) + kc1))) = 0 := by
  split
  · exact hb0
  · rename_i h
    rw [kp_sw nw ch tb kc1 t rk z2 _ kc1 rfl hm (10 + 1) 0 t (by omega) (by omega), if_neg (by omega)]
    rcases hbe with q | q
    · rw [q] at h; exact absurd rfl h
    · exact q
set_option maxHeartbeats 400000000 in
set_option maxRecDepth 100000 in
theorem c_X8_kept (l : Launch) (D : va_G) (cy : Nat → ClassId) (ta : Nat) (m_now : Nat) (m_change : Nat) (m_table : Nat) (m_undone : Nat) (m_slots : Nat) (m_slotKind : Nat) (m_hasSlot : Nat) (m_sheetBits : Nat) (m_sheetSize : Nat) (m_sheets : Nat) (m_fresh : Nat) (m_rootWhich : Nat) (m_signs : Nat) (m_atNought : Nat) (m_carried : Nat) (nw : Nat → Int32) (u : Nat) (fi : Int32) (aa : Int64) (bb : Int64) (dd : Int64) (ro : Nat) (db : Int32) (mn : Nat) (ch : Nat → Int64) (tb : Nat → Int64) : yk_Ci l D vwCl (yk_ty cy) yX8_kept wsX8_kept 2 50 [.ref ta] [(ta, .inr (8, [.ref m_now, .ref m_undone, .ref m_slots, .ref m_slotKind, .ref m_hasSlot, .ref m_sheetBits, .ref m_sheetSize, .ref m_sheets, .int (nI u), .int fi, .ref m_fresh, .long aa, .long bb, .long dd, .int (nI ro), .ref m_rootWhich, .int db, .ref m_signs, .ref m_atNought, .int (nI mn), .ref m_change, .ref m_table, .ref m_carried])), (m_now, .inl (cy 0, 29, .inl nw)), (m_change, .inl (cy 1, 10, .inr (.inl ch))), (m_table, .inl (cy 1, 50, .inr (.inl tb)))] ((f_X8_kept nw ch tb).1) [(ta, .inr (8, [.ref m_now, .ref m_undone, .ref m_slots, .ref m_slotKind, .ref m_hasSlot, .ref m_sheetBits, .ref m_sheetSize, .ref m_sheets, .int (nI u), .int fi, .ref m_fresh, .long aa, .long bb, .long dd, .int (nI ro), .ref m_rootWhich, .int db, .ref m_signs, .ref m_atNought, .int (nI mn), .ref m_change, .ref m_table, .ref m_carried])), (m_now, .inl (cy 0, 29, .inl nw)), (m_change, .inl (cy 1, 10, .inr (.inl ((f_X8_kept nw ch tb).2.1)))), (m_table, .inl (cy 1, 50, .inr (.inl ((f_X8_kept nw ch tb).2.2))))] := by
  refine yk_eI (cc := cX8_kept) (maxL := 12) (by decide) rfl (Nat.le_of_ble_eq_true rfl) rfl ?_
  intro p e R s m args below meth c A Q ls H locs hx hb hml hown hts hRf hRl hA hK hG hP hD hS hl hQ
  have hP : va_P D vwCl [(ta, .inr (8, [.ref m_now, .ref m_undone, .ref m_slots, .ref m_slotKind, .ref m_hasSlot, .ref m_sheetBits, .ref m_sheetSize, .ref m_sheets, .int (nI u), .int fi, .ref m_fresh, .long aa, .long bb, .long dd, .int (nI ro), .ref m_rootWhich, .int db, .ref m_signs, .ref m_atNought, .int (nI mn), .ref m_change, .ref m_table, .ref m_carried])), (m_now, .inl (cy 0, 29, .inl nw)), (m_change, .inl (cy 1, 10, .inr (.inl ch))), (m_table, .inl (cy 1, 50, .inr (.inl tb)))] H := hP
  have hl : lv_has ls 12 [(0, .ref ta)] := hl
  have hown : s.vm.findClass RX8 = some m.cls := hown
  have hF : (f_X8_kept nw ch tb) = (f_X8_kept nw ch tb) := rfl
  refine lv_iconst (v := 0) hx hb dX8_kept_0 (by decide) ?_
  refine lv_istore_n (lv' := [(1, .int 0), (0, .ref ta)]) hx hb dX8_kept_1 rfl hl (by decide) rfl (fun ls hl9 => ?_)
  replace hl := hl9
  clear hl9
  have J39 : ∀ (H : Heap) (locs : List Loc) (ls : Array Slot), va_P D vwCl [(ta, .inr (8, [.ref m_now, .ref m_undone, .ref m_slots, .ref m_slotKind, .ref m_hasSlot, .ref m_sheetBits, .ref m_sheetSize, .ref m_sheets, .int (nI u), .int fi, .ref m_fresh, .long aa, .long bb, .long dd, .int (nI ro), .ref m_rootWhich, .int db, .ref m_signs, .ref m_atNought, .int (nI mn), .ref m_change, .ref m_table, .ref m_carried])), (m_now, .inl (cy 0, 29, .inl nw)), (m_change, .inl (cy 1, 10, .inr (.inl ((l_X8_kept_2 nw ch tb (5 + 1) 0 ch tb).1)))), (m_table, .inl (cy 1, 50, .inr (.inl ((l_X8_kept_2 nw ch tb (5 + 1) 0 ch tb).2))))] H → va_D A [(ta, .inr (8, [.ref m_now, .ref m_undone, .ref m_slots, .ref m_slotKind, .ref m_hasSlot, .ref m_sheetBits, .ref m_sheetSize, .ref m_sheets, .int (nI u), .int fi, .ref m_fresh, .long aa, .long bb, .long dd, .int (nI ro), .ref m_rootWhich, .int db, .ref m_signs, .ref m_atNought, .int (nI mn), .ref m_change, .ref m_table, .ref m_carried])), (m_now, .inl (cy 0, 29, .inl nw)), (m_change, .inl (cy 1, 10, .inr (.inl ((l_X8_kept_2 nw ch tb (5 + 1) 0 ch tb).1)))), (m_table, .inl (cy 1, 50, .inr (.inl ((l_X8_kept_2 nw ch tb (5 + 1) 0 ch tb).2))))] → va_S A s.heap H locs → lv_has ls 12 [(0, .ref ta)] → W p l e R s m args below meth c H locs 0 0 Q (F0 m 97 ls []) := by
    clear hP hD hS hl
    intro H locs ls hP hD hS hl
    refine lv_iconst (v := 0) hx hb dX8_kept_97 (by decide) ?_
    refine lv_istore_n (lv' := [(1, .int 0), (0, .ref ta)]) hx hb dX8_kept_98 rfl hl (by decide) rfl (fun ls hl9 => ?_)
    replace hl := hl9
    clear hl9
    refine lv_lconst (v := 1) hx hb dX8_kept_99 (by decide) ?_
    refine lv_lstore_n (lv' := [(2, .long 1), (1, .int 0), (0, .ref ta)]) hx hb dX8_kept_100 rfl hl (by decide) rfl (fun ls hl9 => ?_)
    replace hl := hl9
    clear hl9
    refine lv_iconst (v := 0) hx hb dX8_kept_101 (by decide) ?_
    refine lv_istore (lv' := [(4, .int 0), (2, .long 1), (1, .int 0), (0, .ref ta)]) hx hb dX8_kept_102 hl (by decide) rfl (fun ls hl9 => ?_)
    replace hl := hl9
    clear hl9
    have J84 : ∀ (H : Heap) (locs : List Loc) (ls : Array Slot), va_P D vwCl [(ta, .inr (8, [.ref m_now, .ref m_undone, .ref m_slots, .ref m_slotKind, .ref m_hasSlot, .ref m_sheetBits, .ref m_sheetSize, .ref m_sheets, .int (nI u), .int fi, .ref m_fresh, .long aa, .long bb, .long dd, .int (nI ro), .ref m_rootWhich, .int db, .ref m_signs, .ref m_atNought, .int (nI mn), .ref m_change, .ref m_table, .ref m_carried])), (m_now, .inl (cy 0, 29, .inl nw)), (m_change, .inl (cy 1, 10, .inr (.inl ((l_X8_kept_2 nw ch tb (5 + 1) 0 ch tb).1)))), (m_table, .inl (cy 1, 50, .inr (.inl ((l_X8_kept_104 nw ch tb (10 + 1) 0 ((l_X8_kept_2 nw ch tb (5 + 1) 0 ch tb).2) 0 1).1))))] H → va_D A [(ta, .inr (8, [.ref m_now, .ref m_undone, .ref m_slots, .ref m_slotKind, .ref m_hasSlot, .ref m_sheetBits, .ref m_sheetSize, .ref m_sheets, .int (nI u), .int fi, .ref m_fresh, .long aa, .long bb, .long dd, .int (nI ro), .ref m_rootWhich, .int db, .ref m_signs, .ref m_atNought, .int (nI mn), .ref m_change, .ref m_table, .ref m_carried])), (m_now, .inl (cy 0, 29, .inl nw)), (m_change, .inl (cy 1, 10, .inr (.inl ((l_X8_kept_2 nw ch tb (5 + 1) 0 ch tb).1)))), (m_table, .inl (cy 1, 50, .inr (.inl ((l_X8_kept_104 nw ch tb (10 + 1) 0 ((l_X8_kept_2 nw ch tb (5 + 1) 0 ch tb).2) 0 1).1))))] → va_S A s.heap H locs → lv_has ls 12 [(0, .ref ta), (1, .int (nI ((l_X8_kept_104 nw ch tb (10 + 1) 0 ((l_X8_kept_2 nw ch tb (5 + 1) 0 ch tb).2) 0 1).2.1))), (2, .long ((l_X8_kept_104 nw ch tb (10 + 1) 0 ((l_X8_kept_2 nw ch tb (5 + 1) 0 ch tb).2) 0 1).2.2))] → W p l e R s m args below meth c H locs 0 0 Q (F0 m 349 ls []) := by
      clear hP hD hS hl
      intro H locs ls hP hD hS hl
      refine lv_iconst (v := 5) hx hb dX8_kept_349 (by decide) ?_
      refine lv_iload_n hx hb dX8_kept_350 rfl (lv_at hl 1 rfl) ?_
      refine lv_isub hx hb dX8_kept_351 ?_
      have hF : f_X8_kept nw ch tb = ((5 - (nI ((l_X8_kept_104 nw ch tb (10 + 1) 0 ((l_X8_kept_2 nw ch tb (5 + 1) 0 ch tb).2) 0 1).2.1))), ((l_X8_kept_2 nw ch tb (5 + 1) 0 ch tb).1), ((l_X8_kept_104 nw ch tb (10 + 1) 0 ((l_X8_kept_2 nw ch tb (5 + 1) 0 ch tb).2) 0 1).1)) := hF
      have hf0 := yk_fst hF
      have hg0 := yk_snd hF
      have hf1 := yk_fst hg0
      have hg1 := yk_snd hg0
      rw [hf0, hf1, hg1] at hQ
      exact hQ _ _ _ _ dX8_kept_352 hP hS
    have L104 : ∀ (M9 n104 kc1 : Nat) (ztable_104 : Nat → Int64) (rk : Nat) (z2_104 : Int64) (H : Heap) (locs : List Loc) (ls : Array Slot), n104 < M9 → kc1 + n104 = 10 → (rk ≤ 5) → (¬ z2_104 = 0) → (l_X8_kept_104 nw ch tb (10 + 1) 0 ((l_X8_kept_2 nw ch tb (5 + 1) 0 ch tb).2) 0 1) = (l_X8_kept_104 nw ch tb (n104 + 1) kc1 ztable_104 rk z2_104) → va_P D vwCl [(ta, .inr (8, [.ref m_now, .ref m_undone, .ref m_slots, .ref m_slotKind, .ref m_hasSlot, .ref m_sheetBits, .ref m_sheetSize, .ref m_sheets, .int (nI u), .int fi, .ref m_fresh, .long aa, .long bb, .long dd, .int (nI ro), .ref m_rootWhich, .int db, .ref m_signs, .ref m_atNought, .int (nI mn), .ref m_change, .ref m_table, .ref m_carried])), (m_now, .inl (cy 0, 29, .inl nw)), (m_change, .inl (cy 1, 10, .inr (.inl ((l_X8_kept_2 nw ch tb (5 + 1) 0 ch tb).1)))), (m_table, .inl (cy 1, 50, .inr (.inl ztable_104)))] H → va_D A [(ta, .inr (8, [.ref m_now, .ref m_undone, .ref m_slots, .ref m_slotKind, .ref m_hasSlot, .ref m_sheetBits, .ref m_sheetSize, .ref m_sheets, .int (nI u), .int fi, .ref m_fresh, .long aa, .long bb, .long dd, .int (nI ro), .ref m_rootWhich, .int db, .ref m_signs, .ref m_atNought, .int (nI mn), .ref m_change, .ref m_table, .ref m_carried])), (m_now, .inl (cy 0, 29, .inl nw)), (m_change, .inl (cy 1, 10, .inr (.inl ((l_X8_kept_2 nw ch tb (5 + 1) 0 ch tb).1)))), (m_table, .inl (cy 1, 50, .inr (.inl ztable_104)))] → va_S A s.heap H locs → lv_has ls 12 [(0, .ref ta), (1, .int (nI rk)), (2, .long z2_104), (4, .int (nI kc1))] → W p l e R s m args below meth c H locs 0 0 Q (F0 m 104 ls []) := by
      clear hP hD hS hl
      intro M9
      induction M9 with
      | zero => intro n104 kc1 _ _ _ _ _ _ hn; exact absurd hn (Nat.not_lt_zero _)
      | succ M9 ih104 =>
        intro n104 kc1 ztable_104 rk z2_104 H locs ls hn104 hk104 hrk hb0 hV104 hP hD hS hl
        refine lv_iload hx hb dX8_kept_104 (lv_at hl 3 rfl) ?_
        refine lv_bipush (v := 10) hx hb dX8_kept_106 (by decide) ?_
        refine lv_icmp_ge (tgt := 349) hx hb dX8_kept_108 (by decide) (fun hc62 => ?_) (fun hc62 => ?_)
        · replace hV104 := hV104.trans (if_pos hc62)
          have hV104 : (l_X8_kept_104 nw ch tb (10 + 1) 0 ((l_X8_kept_2 nw ch tb (5 + 1) 0 ch tb).2) 0 1) = (ztable_104, rk, z2_104) := hV104
          have J84 := J84
          rw [hV104] at J84
          exact J84 _ _ _ hP hD hS (lv_sub hl [0, 1, 2] rfl)
        · replace hV104 := hV104.trans (if_neg hc62)
          have hlt104 : kc1 < 10 := yk_lt hk104 (by omega) hc62
          refine lv_iload_n hx hb dX8_kept_111 rfl (lv_at hl 1 rfl) ?_
          refine lv_iconst (v := 5) hx hb dX8_kept_112 (by decide) ?_
          refine lv_icmp_ge (tgt := 349) hx hb dX8_kept_113 (by decide) (fun hc63 => ?_) (fun hc63 => ?_)
          · replace hV104 := hV104.trans (if_pos hc63)
            have hV104 : (l_X8_kept_104 nw ch tb (10 + 1) 0 ((l_X8_kept_2 nw ch tb (5 + 1) 0 ch tb).2) 0 1) = (ztable_104, rk, z2_104) := hV104
            have J84 := J84
            rw [hV104] at J84
            exact J84 _ _ _ hP hD hS (lv_sub hl [0, 1, 2] rfl)
          · replace hV104 := hV104.trans (if_neg hc63)
            have hrk5 : rk < 5 := yk_lt5 hrk (by assumption)
            refine lv_iload_n hx hb dX8_kept_116 rfl (lv_at hl 1 rfl) ?_
            refine lv_istore (lv' := [(5, .int (nI rk)), (0, .ref ta), (1, .int (nI rk)), (2, .long z2_104), (4, .int (nI kc1))]) hx hb dX8_kept_117 hl (by decide) rfl (fun ls hl9 => ?_)
            replace hl := hl9
            clear hl9
            have J66 : ∀ (H : Heap) (locs : List Loc) (ls : Array Slot), ((l_X8_kept_119 nw ch tb kc1 ztable_104 rk z2_104 (5 - rk + 1) rk) ≤ 5) → ((l_X8_kept_119 nw ch tb kc1 ztable_104 rk z2_104 (5 - rk + 1) rk) = 5 ∨ ¬ ztable_104 (10 * (l_X8_kept_119 nw ch tb kc1 ztable_104 rk z2_104 (5 - rk + 1) rk) + kc1) = 0) → va_P D vwCl [(ta, .inr (8, [.ref m_now, .ref m_undone, .ref m_slots, .ref m_slotKind, .ref m_hasSlot, .ref m_sheetBits, .ref m_sheetSize, .ref m_sheets, .int (nI u), .int fi, .ref m_fresh, .long aa, .long bb, .long dd, .int (nI ro), .ref m_rootWhich, .int db, .ref m_signs, .ref m_atNought, .int (nI mn), .ref m_change, .ref m_table, .ref m_carried])), (m_now, .inl (cy 0, 29, .inl nw)), (m_change, .inl (cy 1, 10, .inr (.inl ((l_X8_kept_2 nw ch tb (5 + 1) 0 ch tb).1)))), (m_table, .inl (cy 1, 50, .inr (.inl ztable_104)))] H → va_D A [(ta, .inr (8, [.ref m_now, .ref m_undone, .ref m_slots, .ref m_slotKind, .ref m_hasSlot, .ref m_sheetBits, .ref m_sheetSize, .ref m_sheets, .int (nI u), .int fi, .ref m_fresh, .long aa, .long bb, .long dd, .int (nI ro), .ref m_rootWhich, .int db, .ref m_signs, .ref m_atNought, .int (nI mn), .ref m_change, .ref m_table, .ref m_carried])), (m_now, .inl (cy 0, 29, .inl nw)), (m_change, .inl (cy 1, 10, .inr (.inl ((l_X8_kept_2 nw ch tb (5 + 1) 0 ch tb).1)))), (m_table, .inl (cy 1, 50, .inr (.inl ztable_104)))] → va_S A s.heap H locs → lv_has ls 12 [(0, .ref ta), (1, .int (nI rk)), (2, .long z2_104), (4, .int (nI kc1)), (5, .int (nI (l_X8_kept_119 nw ch tb kc1 ztable_104 rk z2_104 (5 - rk + 1) rk)))] → W p l e R s m args below meth c H locs 0 0 Q (F0 m 149 ls []) := by
              clear hP hD hS hl
              intro H locs ls hby hbe hP hD hS hl
              refine lv_iload hx hb dX8_kept_149 (lv_at hl 4 rfl) ?_
              refine lv_iconst (v := 5) hx hb dX8_kept_151 (by decide) ?_
              have J83 : ∀ (v80 : Nat) (v81 : Int64) (v82 : Nat → Int64) (H : Heap) (locs : List Loc) (ls : Array Slot), v80 = (if (nI (l_X8_kept_119 nw ch tb kc1 ztable_104 rk z2_104 (5 - rk + 1) rk)) = 5 then rk else (rk + 1)) → v81 = (if (nI (l_X8_kept_119 nw ch tb kc1 ztable_104 rk z2_104 (5 - rk + 1) rk)) = 5 then z2_104 else ((l_X8_kept_161 nw ch tb kc1 ztable_104 rk z2_104 (10 + 1) 0 ztable_104) ((10 * rk) + kc1))) → v82 = (if (nI (l_X8_kept_119 nw ch tb kc1 ztable_104 rk z2_104 (5 - rk + 1) rk)) = 5 then ztable_104 else (l_X8_kept_247 nw ch tb kc1 ztable_104 rk z2_104 (5 - (rk + 1) + 1) (rk + 1) (l_X8_kept_161 nw ch tb kc1 ztable_104 rk z2_104 (10 + 1) 0 ztable_104))) → va_P D vwCl [(ta, .inr (8, [.ref m_now, .ref m_undone, .ref m_slots, .ref m_slotKind, .ref m_hasSlot, .ref m_sheetBits, .ref m_sheetSize, .ref m_sheets, .int (nI u), .int fi, .ref m_fresh, .long aa, .long bb, .long dd, .int (nI ro), .ref m_rootWhich, .int db, .ref m_signs, .ref m_atNought, .int (nI mn), .ref m_change, .ref m_table, .ref m_carried])), (m_now, .inl (cy 0, 29, .inl nw)), (m_change, .inl (cy 1, 10, .inr (.inl ((l_X8_kept_2 nw ch tb (5 + 1) 0 ch tb).1)))), (m_table, .inl (cy 1, 50, .inr (.inl v82)))] H → va_D A [(ta, .inr (8, [.ref m_now, .ref m_undone, .ref m_slots, .ref m_slotKind, .ref m_hasSlot, .ref m_sheetBits, .ref m_sheetSize, .ref m_sheets, .int (nI u), .int fi, .ref m_fresh, .long aa, .long bb, .long dd, .int (nI ro), .ref m_rootWhich, .int db, .ref m_signs, .ref m_atNought, .int (nI mn), .ref m_change, .ref m_table, .ref m_carried])), (m_now, .inl (cy 0, 29, .inl nw)), (m_change, .inl (cy 1, 10, .inr (.inl ((l_X8_kept_2 nw ch tb (5 + 1) 0 ch tb).1)))), (m_table, .inl (cy 1, 50, .inr (.inl v82)))] → va_S A s.heap H locs → lv_has ls 12 [(0, .ref ta), (1, .int (nI v80)), (2, .long v81), (4, .int (nI kc1)), (5, .int (nI (l_X8_kept_119 nw ch tb kc1 ztable_104 rk z2_104 (5 - rk + 1) rk)))] → W p l e R s m args below meth c H locs 0 0 Q (F0 m 343 ls []) := by
                clear hP hD hS hl
                intro v80 v81 v82 H locs ls ev80 ev81 ev82
                rw [ev80, ev81, ev82]
                clear ev80
                clear ev81
                clear ev82
                intro hP hD hS hl
                refine lv_iinc (v := nI (kc1 + 1)) (lv' := [(4, .int (nI (kc1 + 1))), (0, .ref ta), (1, .int (nI (if (nI (l_X8_kept_119 nw ch tb kc1 ztable_104 rk z2_104 (5 - rk + 1) rk)) = 5 then rk else (rk + 1)))), (2, .long (if (nI (l_X8_kept_119 nw ch tb kc1 ztable_104 rk z2_104 (5 - rk + 1) rk)) = 5 then z2_104 else ((l_X8_kept_161 nw ch tb kc1 ztable_104 rk z2_104 (10 + 1) 0 ztable_104) ((10 * rk) + kc1)))), (5, .int (nI (l_X8_kept_119 nw ch tb kc1 ztable_104 rk z2_104 (5 - rk + 1) rk)))]) hx hb dX8_kept_343 hl (k := 3) rfl (yk_inc kc1) (by decide) rfl (fun ls hl9 => ?_)
                replace hl := hl9
                clear hl9
                refine lv_goto (tgt := 104) hx hb dX8_kept_346 (by decide) ?_
                obtain ⟨n9, rfl⟩ : ∃ n9, n104 = n9 + 1 := ⟨n104 - 1, by omega⟩
                exact ih104 n9 (kc1 + 1) (if (nI (l_X8_kept_119 nw ch tb kc1 ztable_104 rk z2_104 (5 - rk + 1) rk)) = 5 then ztable_104 else (l_X8_kept_247 nw ch tb kc1 ztable_104 rk z2_104 (5 - (rk + 1) + 1) (rk + 1) (l_X8_kept_161 nw ch tb kc1 ztable_104 rk z2_104 (10 + 1) 0 ztable_104))) (if (nI (l_X8_kept_119 nw ch tb kc1 ztable_104 rk z2_104 (5 - rk + 1) rk)) = 5 then rk else (rk + 1)) (if (nI (l_X8_kept_119 nw ch tb kc1 ztable_104 rk z2_104 (5 - rk + 1) rk)) = 5 then z2_104 else ((l_X8_kept_161 nw ch tb kc1 ztable_104 rk z2_104 (10 + 1) 0 ztable_104) ((10 * rk) + kc1))) _ _ _ (by omega) (by omega) (by split <;> omega) (kp_step hlt104 hb0 hby hbe) hV104 hP hD hS (lv_sub hl [1, 2, 3, 0] rfl)
              refine lv_icmp_ne (tgt := 158) hx hb dX8_kept_152 (by decide) (fun hc67 => ?_) (fun hc67 => ?_)
              · have hby5 : (l_X8_kept_119 nw ch tb kc1 ztable_104 rk z2_104 (5 - rk + 1) rk) < 5 := yk_ne5 hby (by assumption)
                refine lv_iconst (v := 0) hx hb dX8_kept_158 (by decide) ?_
                refine lv_istore (lv' := [(6, .int 0), (0, .ref ta), (1, .int (nI rk)), (2, .long z2_104), (4, .int (nI kc1)), (5, .int (nI (l_X8_kept_119 nw ch tb kc1 ztable_104 rk z2_104 (5 - rk + 1) rk)))]) hx hb dX8_kept_159 hl (by decide) rfl (fun ls hl9 => ?_)
                replace hl := hl9
                clear hl9
                have J70 : ∀ (H : Heap) (locs : List Loc) (ls : Array Slot), va_P D vwCl [(ta, .inr (8, [.ref m_now, .ref m_undone, .ref m_slots, .ref m_slotKind, .ref m_hasSlot, .ref m_sheetBits, .ref m_sheetSize, .ref m_sheets, .int (nI u), .int fi, .ref m_fresh, .long aa, .long bb, .long dd, .int (nI ro), .ref m_rootWhich, .int db, .ref m_signs, .ref m_atNought, .int (nI mn), .ref m_change, .ref m_table, .ref m_carried])), (m_now, .inl (cy 0, 29, .inl nw)), (m_change, .inl (cy 1, 10, .inr (.inl ((l_X8_kept_2 nw ch tb (5 + 1) 0 ch tb).1)))), (m_table, .inl (cy 1, 50, .inr (.inl (l_X8_kept_161 nw ch tb kc1 ztable_104 rk z2_104 (10 + 1) 0 ztable_104))))] H → va_D A [(ta, .inr (8, [.ref m_now, .ref m_undone, .ref m_slots, .ref m_slotKind, .ref m_hasSlot, .ref m_sheetBits, .ref m_sheetSize, .ref m_sheets, .int (nI u), .int fi, .ref m_fresh, .long aa, .long bb, .long dd, .int (nI ro), .ref m_rootWhich, .int db, .ref m_signs, .ref m_atNought, .int (nI mn), .ref m_change, .ref m_table, .ref m_carried])), (m_now, .inl (cy 0, 29, .inl nw)), (m_change, .inl (cy 1, 10, .inr (.inl ((l_X8_kept_2 nw ch tb (5 + 1) 0 ch tb).1)))), (m_table, .inl (cy 1, 50, .inr (.inl (l_X8_kept_161 nw ch tb kc1 ztable_104 rk z2_104 (10 + 1) 0 ztable_104))))] → va_S A s.heap H locs → lv_has ls 12 [(0, .ref ta), (1, .int (nI rk)), (2, .long z2_104), (4, .int (nI kc1)), (5, .int (nI (l_X8_kept_119 nw ch tb kc1 ztable_104 rk z2_104 (5 - rk + 1) rk)))] → W p l e R s m args below meth c H locs 0 0 Q (F0 m 228 ls []) := by
                  clear hP hD hS hl
                  intro H locs ls hP hD hS hl
                  refine lv_aload_n hx hb dX8_kept_228 rfl (lv_at hl 0 rfl) ?_
                  refine va_get (D := D) (ci := 8) (v := .ref m_table) (C := RX8) (T := TX8) (N := 23) hx hb hts uX8_kept_X8 hown hK hP 0 rfl rfl 21 (by decide) (hts _ kX8_kept_0) (fun _ h9 => h9) rfl dX8_kept_229 ?_
                  refine lv_bipush (v := 10) hx hb dX8_kept_232 (by decide) ?_
                  refine lv_iload_n hx hb dX8_kept_234 rfl (lv_at hl 1 rfl) ?_
                  refine lv_imul hx hb dX8_kept_235 ?_
                  refine yk_ti (y := nI (10 * rk)) (pk_mul 10 rk) ?_
                  refine lv_iload hx hb dX8_kept_236 (lv_at hl 3 rfl) ?_
                  refine lv_iadd hx hb dX8_kept_238 ?_
                  refine yk_ti (y := nI ((10 * rk) + kc1)) (nI_add (10 * rk) kc1) ?_
                  refine yk_lld hx hb hK hP 3 1 rfl rfl ((10 * rk) + kc1) (by omega) (by decide) dX8_kept_239 ?_
                  refine lv_lstore (lv' := [(6, .long ((l_X8_kept_161 nw ch tb kc1 ztable_104 rk z2_104 (10 + 1) 0 ztable_104) ((10 * rk) + kc1))), (0, .ref ta), (1, .int (nI rk)), (2, .long z2_104), (4, .int (nI kc1)), (5, .int (nI (l_X8_kept_119 nw ch tb kc1 ztable_104 rk z2_104 (5 - rk + 1) rk)))]) hx hb dX8_kept_240 hl (by decide) rfl (fun ls hl9 => ?_)
                  replace hl := hl9
                  clear hl9
                  refine lv_iload_n hx hb dX8_kept_242 rfl (lv_at hl 2 rfl) ?_
                  refine lv_iconst (v := 1) hx hb dX8_kept_243 (by decide) ?_
                  refine lv_iadd hx hb dX8_kept_244 ?_
                  refine yk_ti (y := nI (rk + 1)) (nI_add rk 1) ?_
                  refine lv_istore (lv' := [(8, .int (nI (rk + 1))), (6, .long ((l_X8_kept_161 nw ch tb kc1 ztable_104 rk z2_104 (10 + 1) 0 ztable_104) ((10 * rk) + kc1))), (0, .ref ta), (1, .int (nI rk)), (2, .long z2_104), (4, .int (nI kc1)), (5, .int (nI (l_X8_kept_119 nw ch tb kc1 ztable_104 rk z2_104 (5 - rk + 1) rk)))]) hx hb dX8_kept_245 hl (by decide) rfl (fun ls hl9 => ?_)
                  replace hl := hl9
                  clear hl9
                  have J79 : ∀ (H : Heap) (locs : List Loc) (ls : Array Slot), va_P D vwCl [(ta, .inr (8, [.ref m_now, .ref m_undone, .ref m_slots, .ref m_slotKind, .ref m_hasSlot, .ref m_sheetBits, .ref m_sheetSize, .ref m_sheets, .int (nI u), .int fi, .ref m_fresh, .long aa, .long bb, .long dd, .int (nI ro), .ref m_rootWhich, .int db, .ref m_signs, .ref m_atNought, .int (nI mn), .ref m_change, .ref m_table, .ref m_carried])), (m_now, .inl (cy 0, 29, .inl nw)), (m_change, .inl (cy 1, 10, .inr (.inl ((l_X8_kept_2 nw ch tb (5 + 1) 0 ch tb).1)))), (m_table, .inl (cy 1, 50, .inr (.inl (l_X8_kept_247 nw ch tb kc1 ztable_104 rk z2_104 (5 - (rk + 1) + 1) (rk + 1) (l_X8_kept_161 nw ch tb kc1 ztable_104 rk z2_104 (10 + 1) 0 ztable_104)))))] H → va_D A [(ta, .inr (8, [.ref m_now, .ref m_undone, .ref m_slots, .ref m_slotKind, .ref m_hasSlot, .ref m_sheetBits, .ref m_sheetSize, .ref m_sheets, .int (nI u), .int fi, .ref m_fresh, .long aa, .long bb, .long dd, .int (nI ro), .ref m_rootWhich, .int db, .ref m_signs, .ref m_atNought, .int (nI mn), .ref m_change, .ref m_table, .ref m_carried])), (m_now, .inl (cy 0, 29, .inl nw)), (m_change, .inl (cy 1, 10, .inr (.inl ((l_X8_kept_2 nw ch tb (5 + 1) 0 ch tb).1)))), (m_table, .inl (cy 1, 50, .inr (.inl (l_X8_kept_247 nw ch tb kc1 ztable_104 rk z2_104 (5 - (rk + 1) + 1) (rk + 1) (l_X8_kept_161 nw ch tb kc1 ztable_104 rk z2_104 (10 + 1) 0 ztable_104)))))] → va_S A s.heap H locs → lv_has ls 12 [(0, .ref ta), (1, .int (nI rk)), (2, .long z2_104), (4, .int (nI kc1)), (5, .int (nI (l_X8_kept_119 nw ch tb kc1 ztable_104 rk z2_104 (5 - rk + 1) rk))), (6, .long ((l_X8_kept_161 nw ch tb kc1 ztable_104 rk z2_104 (10 + 1) 0 ztable_104) ((10 * rk) + kc1)))] → W p l e R s m args below meth c H locs 0 0 Q (F0 m 337 ls []) := by
                    clear hP hD hS hl
                    intro H locs ls hP hD hS hl
                    refine lv_lload hx hb dX8_kept_337 (lv_at hl 5 rfl) ?_
                    refine lv_lstore_n (lv' := [(2, .long ((l_X8_kept_161 nw ch tb kc1 ztable_104 rk z2_104 (10 + 1) 0 ztable_104) ((10 * rk) + kc1))), (0, .ref ta), (1, .int (nI rk)), (4, .int (nI kc1)), (5, .int (nI (l_X8_kept_119 nw ch tb kc1 ztable_104 rk z2_104 (5 - rk + 1) rk))), (6, .long ((l_X8_kept_161 nw ch tb kc1 ztable_104 rk z2_104 (10 + 1) 0 ztable_104) ((10 * rk) + kc1)))]) hx hb dX8_kept_339 rfl hl (by decide) rfl (fun ls hl9 => ?_)
                    replace hl := hl9
                    clear hl9
                    refine lv_iinc (v := nI (rk + 1)) (lv' := [(1, .int (nI (rk + 1))), (2, .long ((l_X8_kept_161 nw ch tb kc1 ztable_104 rk z2_104 (10 + 1) 0 ztable_104) ((10 * rk) + kc1))), (0, .ref ta), (4, .int (nI kc1)), (5, .int (nI (l_X8_kept_119 nw ch tb kc1 ztable_104 rk z2_104 (5 - rk + 1) rk))), (6, .long ((l_X8_kept_161 nw ch tb kc1 ztable_104 rk z2_104 (10 + 1) 0 ztable_104) ((10 * rk) + kc1)))]) hx hb dX8_kept_340 hl (k := 2) rfl (yk_inc rk) (by decide) rfl (fun ls hl9 => ?_)
                    replace hl := hl9
                    clear hl9
                    exact J83 _ _ _ _ _ _ ((if_neg hc67).symm) ((if_neg hc67).symm) ((if_neg hc67).symm) hP hD hS (lv_sub hl [2, 0, 1, 3, 4] rfl)
                  have L247 : ∀ (M9 n247 kf : Nat) (ztable_247 : Nat → Int64) (H : Heap) (locs : List Loc) (ls : Array Slot), n247 < M9 → kf + n247 = 5 → (l_X8_kept_247 nw ch tb kc1 ztable_104 rk z2_104 (5 - (rk + 1) + 1) (rk + 1) (l_X8_kept_161 nw ch tb kc1 ztable_104 rk z2_104 (10 + 1) 0 ztable_104)) = (l_X8_kept_247 nw ch tb kc1 ztable_104 rk z2_104 (n247 + 1) kf ztable_247) → va_P D vwCl [(ta, .inr (8, [.ref m_now, .ref m_undone, .ref m_slots, .ref m_slotKind, .ref m_hasSlot, .ref m_sheetBits, .ref m_sheetSize, .ref m_sheets, .int (nI u), .int fi, .ref m_fresh, .long aa, .long bb, .long dd, .int (nI ro), .ref m_rootWhich, .int db, .ref m_signs, .ref m_atNought, .int (nI mn), .ref m_change, .ref m_table, .ref m_carried])), (m_now, .inl (cy 0, 29, .inl nw)), (m_change, .inl (cy 1, 10, .inr (.inl ((l_X8_kept_2 nw ch tb (5 + 1) 0 ch tb).1)))), (m_table, .inl (cy 1, 50, .inr (.inl ztable_247)))] H → va_D A [(ta, .inr (8, [.ref m_now, .ref m_undone, .ref m_slots, .ref m_slotKind, .ref m_hasSlot, .ref m_sheetBits, .ref m_sheetSize, .ref m_sheets, .int (nI u), .int fi, .ref m_fresh, .long aa, .long bb, .long dd, .int (nI ro), .ref m_rootWhich, .int db, .ref m_signs, .ref m_atNought, .int (nI mn), .ref m_change, .ref m_table, .ref m_carried])), (m_now, .inl (cy 0, 29, .inl nw)), (m_change, .inl (cy 1, 10, .inr (.inl ((l_X8_kept_2 nw ch tb (5 + 1) 0 ch tb).1)))), (m_table, .inl (cy 1, 50, .inr (.inl ztable_247)))] → va_S A s.heap H locs → lv_has ls 12 [(0, .ref ta), (1, .int (nI rk)), (2, .long z2_104), (4, .int (nI kc1)), (5, .int (nI (l_X8_kept_119 nw ch tb kc1 ztable_104 rk z2_104 (5 - rk + 1) rk))), (6, .long ((l_X8_kept_161 nw ch tb kc1 ztable_104 rk z2_104 (10 + 1) 0 ztable_104) ((10 * rk) + kc1))), (8, .int (nI kf))] → W p l e R s m args below meth c H locs 0 0 Q (F0 m 247 ls []) := by
                    clear hP hD hS hl
                    intro M9
                    induction M9 with
                    | zero => intro n247 kf _ _ _ _ hn; exact absurd hn (Nat.not_lt_zero _)
                    | succ M9 ih247 =>
                      intro n247 kf ztable_247 H locs ls hn247 hk247 hV247 hP hD hS hl
                      refine lv_iload hx hb dX8_kept_247 (lv_at hl 6 rfl) ?_
                      refine lv_iconst (v := 5) hx hb dX8_kept_249 (by decide) ?_
                      refine lv_icmp_ge (tgt := 337) hx hb dX8_kept_250 (by decide) (fun hc75 => ?_) (fun hc75 => ?_)
                      · replace hV247 := hV247.trans (if_pos hc75)
                        have hV247 : (l_X8_kept_247 nw ch tb kc1 ztable_104 rk z2_104 (5 - (rk + 1) + 1) (rk + 1) (l_X8_kept_161 nw ch tb kc1 ztable_104 rk z2_104 (10 + 1) 0 ztable_104)) = ztable_247 := hV247
                        have J79 := J79
                        rw [hV247] at J79
                        exact J79 _ _ _ hP hD hS (lv_sub hl [0, 1, 2, 3, 4, 5] rfl)
                      · replace hV247 := hV247.trans (if_neg hc75)
                        have hlt247 : kf < 5 := yk_lt hk247 (by omega) hc75
                        refine lv_aload_n hx hb dX8_kept_253 rfl (lv_at hl 0 rfl) ?_
                        refine va_get (D := D) (ci := 8) (v := .ref m_table) (C := RX8) (T := TX8) (N := 23) hx hb hts uX8_kept_X8 hown hK hP 0 rfl rfl 21 (by decide) (hts _ kX8_kept_0) (fun _ h9 => h9) rfl dX8_kept_254 ?_
                        refine lv_bipush (v := 10) hx hb dX8_kept_257 (by decide) ?_
                        refine lv_iload hx hb dX8_kept_259 (lv_at hl 6 rfl) ?_
                        refine lv_imul hx hb dX8_kept_261 ?_
                        refine yk_ti (y := nI (10 * kf)) (pk_mul 10 kf) ?_
                        refine lv_iload hx hb dX8_kept_262 (lv_at hl 3 rfl) ?_
                        refine lv_iadd hx hb dX8_kept_264 ?_
                        refine yk_ti (y := nI ((10 * kf) + kc1)) (nI_add (10 * kf) kc1) ?_
                        refine yk_lld hx hb hK hP 3 1 rfl rfl ((10 * kf) + kc1) (by omega) (by decide) dX8_kept_265 ?_
                        refine lv_lstore (lv' := [(9, .long (ztable_247 ((10 * kf) + kc1))), (0, .ref ta), (1, .int (nI rk)), (2, .long z2_104), (4, .int (nI kc1)), (5, .int (nI (l_X8_kept_119 nw ch tb kc1 ztable_104 rk z2_104 (5 - rk + 1) rk))), (6, .long ((l_X8_kept_161 nw ch tb kc1 ztable_104 rk z2_104 (10 + 1) 0 ztable_104) ((10 * rk) + kc1))), (8, .int (nI kf))]) hx hb dX8_kept_266 hl (by decide) rfl (fun ls hl9 => ?_)
                        replace hl := hl9
                        clear hl9
                        refine lv_iconst (v := 0) hx hb dX8_kept_268 (by decide) ?_
                        refine lv_istore (lv' := [(11, .int 0), (9, .long (ztable_247 ((10 * kf) + kc1))), (0, .ref ta), (1, .int (nI rk)), (2, .long z2_104), (4, .int (nI kc1)), (5, .int (nI (l_X8_kept_119 nw ch tb kc1 ztable_104 rk z2_104 (5 - rk + 1) rk))), (6, .long ((l_X8_kept_161 nw ch tb kc1 ztable_104 rk z2_104 (10 + 1) 0 ztable_104) ((10 * rk) + kc1))), (8, .int (nI kf))]) hx hb dX8_kept_269 hl (by decide) rfl (fun ls hl9 => ?_)
                        replace hl := hl9
                        clear hl9
                        have J78 : ∀ (H : Heap) (locs : List Loc) (ls : Array Slot), va_P D vwCl [(ta, .inr (8, [.ref m_now, .ref m_undone, .ref m_slots, .ref m_slotKind, .ref m_hasSlot, .ref m_sheetBits, .ref m_sheetSize, .ref m_sheets, .int (nI u), .int fi, .ref m_fresh, .long aa, .long bb, .long dd, .int (nI ro), .ref m_rootWhich, .int db, .ref m_signs, .ref m_atNought, .int (nI mn), .ref m_change, .ref m_table, .ref m_carried])), (m_now, .inl (cy 0, 29, .inl nw)), (m_change, .inl (cy 1, 10, .inr (.inl ((l_X8_kept_2 nw ch tb (5 + 1) 0 ch tb).1)))), (m_table, .inl (cy 1, 50, .inr (.inl (l_X8_kept_271 nw ch tb kc1 ztable_104 rk z2_104 kf ztable_247 (10 + 1) 0 ztable_247))))] H → va_D A [(ta, .inr (8, [.ref m_now, .ref m_undone, .ref m_slots, .ref m_slotKind, .ref m_hasSlot, .ref m_sheetBits, .ref m_sheetSize, .ref m_sheets, .int (nI u), .int fi, .ref m_fresh, .long aa, .long bb, .long dd, .int (nI ro), .ref m_rootWhich, .int db, .ref m_signs, .ref m_atNought, .int (nI mn), .ref m_change, .ref m_table, .ref m_carried])), (m_now, .inl (cy 0, 29, .inl nw)), (m_change, .inl (cy 1, 10, .inr (.inl ((l_X8_kept_2 nw ch tb (5 + 1) 0 ch tb).1)))), (m_table, .inl (cy 1, 50, .inr (.inl (l_X8_kept_271 nw ch tb kc1 ztable_104 rk z2_104 kf ztable_247 (10 + 1) 0 ztable_247))))] → va_S A s.heap H locs → lv_has ls 12 [(0, .ref ta), (1, .int (nI rk)), (2, .long z2_104), (4, .int (nI kc1)), (5, .int (nI (l_X8_kept_119 nw ch tb kc1 ztable_104 rk z2_104 (5 - rk + 1) rk))), (6, .long ((l_X8_kept_161 nw ch tb kc1 ztable_104 rk z2_104 (10 + 1) 0 ztable_104) ((10 * rk) + kc1))), (8, .int (nI kf)), (9, .long (ztable_247 ((10 * kf) + kc1)))] → W p l e R s m args below meth c H locs 0 0 Q (F0 m 331 ls []) := by
                          clear hP hD hS hl
                          intro H locs ls hP hD hS hl
                          refine lv_iinc (v := nI (kf + 1)) (lv' := [(8, .int (nI (kf + 1))), (0, .ref ta), (1, .int (nI rk)), (2, .long z2_104), (4, .int (nI kc1)), (5, .int (nI (l_X8_kept_119 nw ch tb kc1 ztable_104 rk z2_104 (5 - rk + 1) rk))), (6, .long ((l_X8_kept_161 nw ch tb kc1 ztable_104 rk z2_104 (10 + 1) 0 ztable_104) ((10 * rk) + kc1))), (9, .long (ztable_247 ((10 * kf) + kc1)))]) hx hb dX8_kept_331 hl (k := 6) rfl (yk_inc kf) (by decide) rfl (fun ls hl9 => ?_)
                          replace hl := hl9
                          clear hl9
                          refine lv_goto (tgt := 247) hx hb dX8_kept_334 (by decide) ?_
                          obtain ⟨n9, rfl⟩ : ∃ n9, n247 = n9 + 1 := ⟨n247 - 1, by omega⟩
                          exact ih247 n9 (kf + 1) (l_X8_kept_271 nw ch tb kc1 ztable_104 rk z2_104 kf ztable_247 (10 + 1) 0 ztable_247) _ _ _ (by omega) (by omega)  hV247 hP hD hS (lv_sub hl [1, 2, 3, 4, 5, 6, 0] rfl)
                        have L271 : ∀ (M9 n271 kg : Nat) (ztable_271 : Nat → Int64) (H : Heap) (locs : List Loc) (ls : Array Slot), n271 < M9 → kg + n271 = 10 → (l_X8_kept_271 nw ch tb kc1 ztable_104 rk z2_104 kf ztable_247 (10 + 1) 0 ztable_247) = (l_X8_kept_271 nw ch tb kc1 ztable_104 rk z2_104 kf ztable_247 (n271 + 1) kg ztable_271) → va_P D vwCl [(ta, .inr (8, [.ref m_now, .ref m_undone, .ref m_slots, .ref m_slotKind, .ref m_hasSlot, .ref m_sheetBits, .ref m_sheetSize, .ref m_sheets, .int (nI u), .int fi, .ref m_fresh, .long aa, .long bb, .long dd, .int (nI ro), .ref m_rootWhich, .int db, .ref m_signs, .ref m_atNought, .int (nI mn), .ref m_change, .ref m_table, .ref m_carried])), (m_now, .inl (cy 0, 29, .inl nw)), (m_change, .inl (cy 1, 10, .inr (.inl ((l_X8_kept_2 nw ch tb (5 + 1) 0 ch tb).1)))), (m_table, .inl (cy 1, 50, .inr (.inl ztable_271)))] H → va_D A [(ta, .inr (8, [.ref m_now, .ref m_undone, .ref m_slots, .ref m_slotKind, .ref m_hasSlot, .ref m_sheetBits, .ref m_sheetSize, .ref m_sheets, .int (nI u), .int fi, .ref m_fresh, .long aa, .long bb, .long dd, .int (nI ro), .ref m_rootWhich, .int db, .ref m_signs, .ref m_atNought, .int (nI mn), .ref m_change, .ref m_table, .ref m_carried])), (m_now, .inl (cy 0, 29, .inl nw)), (m_change, .inl (cy 1, 10, .inr (.inl ((l_X8_kept_2 nw ch tb (5 + 1) 0 ch tb).1)))), (m_table, .inl (cy 1, 50, .inr (.inl ztable_271)))] → va_S A s.heap H locs → lv_has ls 12 [(0, .ref ta), (1, .int (nI rk)), (2, .long z2_104), (4, .int (nI kc1)), (5, .int (nI (l_X8_kept_119 nw ch tb kc1 ztable_104 rk z2_104 (5 - rk + 1) rk))), (6, .long ((l_X8_kept_161 nw ch tb kc1 ztable_104 rk z2_104 (10 + 1) 0 ztable_104) ((10 * rk) + kc1))), (8, .int (nI kf)), (9, .long (ztable_247 ((10 * kf) + kc1))), (11, .int (nI kg))] → W p l e R s m args below meth c H locs 0 0 Q (F0 m 271 ls []) := by
                          clear hP hD hS hl
                          intro M9
                          induction M9 with
                          | zero => intro n271 kg _ _ _ _ hn; exact absurd hn (Nat.not_lt_zero _)
                          | succ M9 ih271 =>
                            intro n271 kg ztable_271 H locs ls hn271 hk271 hV271 hP hD hS hl
                            refine lv_iload hx hb dX8_kept_271 (lv_at hl 8 rfl) ?_
                            refine lv_bipush (v := 10) hx hb dX8_kept_273 (by decide) ?_
                            refine lv_icmp_ge (tgt := 331) hx hb dX8_kept_275 (by decide) (fun hc77 => ?_) (fun hc77 => ?_)
                            · replace hV271 := hV271.trans (if_pos hc77)
                              have hV271 : (l_X8_kept_271 nw ch tb kc1 ztable_104 rk z2_104 kf ztable_247 (10 + 1) 0 ztable_247) = ztable_271 := hV271
                              have J78 := J78
                              rw [hV271] at J78
                              exact J78 _ _ _ hP hD hS (lv_sub hl [0, 1, 2, 3, 4, 5, 6, 7] rfl)
                            · replace hV271 := hV271.trans (if_neg hc77)
                              have hlt271 : kg < 10 := yk_lt hk271 (by omega) hc77
                              refine lv_aload_n hx hb dX8_kept_278 rfl (lv_at hl 0 rfl) ?_
                              refine va_get (D := D) (ci := 8) (v := .ref m_table) (C := RX8) (T := TX8) (N := 23) hx hb hts uX8_kept_X8 hown hK hP 0 rfl rfl 21 (by decide) (hts _ kX8_kept_0) (fun _ h9 => h9) rfl dX8_kept_279 ?_
                              refine lv_bipush (v := 10) hx hb dX8_kept_282 (by decide) ?_
                              refine lv_iload hx hb dX8_kept_284 (lv_at hl 6 rfl) ?_
                              refine lv_imul hx hb dX8_kept_286 ?_
                              refine yk_ti (y := nI (10 * kf)) (pk_mul 10 kf) ?_
                              refine lv_iload hx hb dX8_kept_287 (lv_at hl 8 rfl) ?_
                              refine lv_iadd hx hb dX8_kept_289 ?_
                              refine yk_ti (y := nI ((10 * kf) + kg)) (nI_add (10 * kf) kg) ?_
                              refine lv_aload_n hx hb dX8_kept_290 rfl (lv_at hl 0 rfl) ?_
                              refine va_get (D := D) (ci := 8) (v := .ref m_table) (C := RX8) (T := TX8) (N := 23) hx hb hts uX8_kept_X8 hown hK hP 0 rfl rfl 21 (by decide) (hts _ kX8_kept_0) (fun _ h9 => h9) rfl dX8_kept_291 ?_
                              refine lv_bipush (v := 10) hx hb dX8_kept_294 (by decide) ?_
                              refine lv_iload hx hb dX8_kept_296 (lv_at hl 6 rfl) ?_
                              refine lv_imul hx hb dX8_kept_298 ?_
                              refine yk_ti (y := nI (10 * kf)) (pk_mul 10 kf) ?_
                              refine lv_iload hx hb dX8_kept_299 (lv_at hl 8 rfl) ?_
                              refine lv_iadd hx hb dX8_kept_301 ?_
                              refine yk_ti (y := nI ((10 * kf) + kg)) (nI_add (10 * kf) kg) ?_
                              refine yk_lld hx hb hK hP 3 1 rfl rfl ((10 * kf) + kg) (by omega) (by decide) dX8_kept_302 ?_
                              refine lv_lload hx hb dX8_kept_303 (lv_at hl 5 rfl) ?_
                              refine lv_lmul hx hb dX8_kept_305 ?_
                              refine lv_aload_n hx hb dX8_kept_306 rfl (lv_at hl 0 rfl) ?_
                              refine va_get (D := D) (ci := 8) (v := .ref m_table) (C := RX8) (T := TX8) (N := 23) hx hb hts uX8_kept_X8 hown hK hP 0 rfl rfl 21 (by decide) (hts _ kX8_kept_0) (fun _ h9 => h9) rfl dX8_kept_307 ?_
                              refine lv_bipush (v := 10) hx hb dX8_kept_310 (by decide) ?_
                              refine lv_iload_n hx hb dX8_kept_312 rfl (lv_at hl 1 rfl) ?_
                              refine lv_imul hx hb dX8_kept_313 ?_
                              refine yk_ti (y := nI (10 * rk)) (pk_mul 10 rk) ?_
                              refine lv_iload hx hb dX8_kept_314 (lv_at hl 8 rfl) ?_
                              refine lv_iadd hx hb dX8_kept_316 ?_
                              refine yk_ti (y := nI ((10 * rk) + kg)) (nI_add (10 * rk) kg) ?_
                              refine yk_lld hx hb hK hP 3 1 rfl rfl ((10 * rk) + kg) (by omega) (by decide) dX8_kept_317 ?_
                              refine lv_lload hx hb dX8_kept_318 (lv_at hl 7 rfl) ?_
                              refine lv_lmul hx hb dX8_kept_320 ?_
                              refine lv_lsub hx hb dX8_kept_321 ?_
                              refine lv_lload_n hx hb dX8_kept_322 rfl (lv_at hl 2 rfl) ?_
                              refine lv_ldiv hx hb dX8_kept_323 (hb0) ?_
                              refine yk_lst hx hb hK hP hD hS 3 1 rfl rfl ((10 * kf) + kg) (by omega) (by decide) dX8_kept_324 (fun H locs hP9 hD9 hS9 => ?_)
                              replace hP : va_P D vwCl [(ta, .inr (8, [.ref m_now, .ref m_undone, .ref m_slots, .ref m_slotKind, .ref m_hasSlot, .ref m_sheetBits, .ref m_sheetSize, .ref m_sheets, .int (nI u), .int fi, .ref m_fresh, .long aa, .long bb, .long dd, .int (nI ro), .ref m_rootWhich, .int db, .ref m_signs, .ref m_atNought, .int (nI mn), .ref m_change, .ref m_table, .ref m_carried])), (m_now, .inl (cy 0, 29, .inl nw)), (m_change, .inl (cy 1, 10, .inr (.inl ((l_X8_kept_2 nw ch tb (5 + 1) 0 ch tb).1)))), (m_table, .inl (cy 1, 50, .inr (.inl (vp_updL ztable_271 ((10 * kf) + kg) ((((ztable_271 ((10 * kf) + kg)) * ((l_X8_kept_161 nw ch tb kc1 ztable_104 rk z2_104 (10 + 1) 0 ztable_104) ((10 * rk) + kc1))) - ((ztable_271 ((10 * rk) + kg)) * (ztable_247 ((10 * kf) + kc1)))) / z2_104)))))] H := hP9
                              replace hD : va_D A [(ta, .inr (8, [.ref m_now, .ref m_undone, .ref m_slots, .ref m_slotKind, .ref m_hasSlot, .ref m_sheetBits, .ref m_sheetSize, .ref m_sheets, .int (nI u), .int fi, .ref m_fresh, .long aa, .long bb, .long dd, .int (nI ro), .ref m_rootWhich, .int db, .ref m_signs, .ref m_atNought, .int (nI mn), .ref m_change, .ref m_table, .ref m_carried])), (m_now, .inl (cy 0, 29, .inl nw)), (m_change, .inl (cy 1, 10, .inr (.inl ((l_X8_kept_2 nw ch tb (5 + 1) 0 ch tb).1)))), (m_table, .inl (cy 1, 50, .inr (.inl (vp_updL ztable_271 ((10 * kf) + kg) ((((ztable_271 ((10 * kf) + kg)) * ((l_X8_kept_161 nw ch tb kc1 ztable_104 rk z2_104 (10 + 1) 0 ztable_104) ((10 * rk) + kc1))) - ((ztable_271 ((10 * rk) + kg)) * (ztable_247 ((10 * kf) + kc1)))) / z2_104)))))] := hD9
                              replace hS := hS9
                              clear hP9 hD9 hS9
                              refine lv_iinc (v := nI (kg + 1)) (lv' := [(11, .int (nI (kg + 1))), (0, .ref ta), (1, .int (nI rk)), (2, .long z2_104), (4, .int (nI kc1)), (5, .int (nI (l_X8_kept_119 nw ch tb kc1 ztable_104 rk z2_104 (5 - rk + 1) rk))), (6, .long ((l_X8_kept_161 nw ch tb kc1 ztable_104 rk z2_104 (10 + 1) 0 ztable_104) ((10 * rk) + kc1))), (8, .int (nI kf)), (9, .long (ztable_247 ((10 * kf) + kc1)))]) hx hb dX8_kept_325 hl (k := 8) rfl (yk_inc kg) (by decide) rfl (fun ls hl9 => ?_)
                              replace hl := hl9
                              clear hl9
                              refine lv_goto (tgt := 271) hx hb dX8_kept_328 (by decide) ?_
                              obtain ⟨n9, rfl⟩ : ∃ n9, n271 = n9 + 1 := ⟨n271 - 1, by omega⟩
                              exact ih271 n9 (kg + 1) (vp_updL ztable_271 ((10 * kf) + kg) ((((ztable_271 ((10 * kf) + kg)) * ((l_X8_kept_161 nw ch tb kc1 ztable_104 rk z2_104 (10 + 1) 0 ztable_104) ((10 * rk) + kc1))) - ((ztable_271 ((10 * rk) + kg)) * (ztable_247 ((10 * kf) + kc1)))) / z2_104)) _ _ _ (by omega) (by omega)  hV271 hP hD hS (lv_sub hl [1, 2, 3, 4, 5, 6, 7, 8, 0] rfl)
                        exact L271 (10 + 1) 10 0 ztable_247 _ _ _ (Nat.lt_succ_self _) (by omega)  rfl hP hD hS (lv_sub hl [2, 3, 4, 5, 6, 7, 8, 1, 0] rfl)
                  exact L247 ((5 - (rk + 1)) + 1) (5 - (rk + 1)) (rk + 1) (l_X8_kept_161 nw ch tb kc1 ztable_104 rk z2_104 (10 + 1) 0 ztable_104) _ _ _ (Nat.lt_succ_self _) (by omega)  rfl hP hD hS (lv_sub hl [2, 3, 4, 5, 6, 1, 0] rfl)
                have L161 : ∀ (M9 n161 ke : Nat) (ztable_161 : Nat → Int64) (H : Heap) (locs : List Loc) (ls : Array Slot), n161 < M9 → ke + n161 = 10 → (l_X8_kept_161 nw ch tb kc1 ztable_104 rk z2_104 (10 + 1) 0 ztable_104) = (l_X8_kept_161 nw ch tb kc1 ztable_104 rk z2_104 (n161 + 1) ke ztable_161) → va_P D vwCl [(ta, .inr (8, [.ref m_now, .ref m_undone, .ref m_slots, .ref m_slotKind, .ref m_hasSlot, .ref m_sheetBits, .ref m_sheetSize, .ref m_sheets, .int (nI u), .int fi, .ref m_fresh, .long aa, .long bb, .long dd, .int (nI ro), .ref m_rootWhich, .int db, .ref m_signs, .ref m_atNought, .int (nI mn), .ref m_change, .ref m_table, .ref m_carried])), (m_now, .inl (cy 0, 29, .inl nw)), (m_change, .inl (cy 1, 10, .inr (.inl ((l_X8_kept_2 nw ch tb (5 + 1) 0 ch tb).1)))), (m_table, .inl (cy 1, 50, .inr (.inl ztable_161)))] H → va_D A [(ta, .inr (8, [.ref m_now, .ref m_undone, .ref m_slots, .ref m_slotKind, .ref m_hasSlot, .ref m_sheetBits, .ref m_sheetSize, .ref m_sheets, .int (nI u), .int fi, .ref m_fresh, .long aa, .long bb, .long dd, .int (nI ro), .ref m_rootWhich, .int db, .ref m_signs, .ref m_atNought, .int (nI mn), .ref m_change, .ref m_table, .ref m_carried])), (m_now, .inl (cy 0, 29, .inl nw)), (m_change, .inl (cy 1, 10, .inr (.inl ((l_X8_kept_2 nw ch tb (5 + 1) 0 ch tb).1)))), (m_table, .inl (cy 1, 50, .inr (.inl ztable_161)))] → va_S A s.heap H locs → lv_has ls 12 [(0, .ref ta), (1, .int (nI rk)), (2, .long z2_104), (4, .int (nI kc1)), (5, .int (nI (l_X8_kept_119 nw ch tb kc1 ztable_104 rk z2_104 (5 - rk + 1) rk))), (6, .int (nI ke))] → W p l e R s m args below meth c H locs 0 0 Q (F0 m 161 ls []) := by
                  clear hP hD hS hl
                  intro M9
                  induction M9 with
                  | zero => intro n161 ke _ _ _ _ hn; exact absurd hn (Nat.not_lt_zero _)
                  | succ M9 ih161 =>
                    intro n161 ke ztable_161 H locs ls hn161 hk161 hV161 hP hD hS hl
                    refine lv_iload hx hb dX8_kept_161 (lv_at hl 5 rfl) ?_
                    refine lv_bipush (v := 10) hx hb dX8_kept_163 (by decide) ?_
                    refine lv_icmp_ge (tgt := 228) hx hb dX8_kept_165 (by decide) (fun hc69 => ?_) (fun hc69 => ?_)
                    · replace hV161 := hV161.trans (if_pos hc69)
                      have hV161 : (l_X8_kept_161 nw ch tb kc1 ztable_104 rk z2_104 (10 + 1) 0 ztable_104) = ztable_161 := hV161
                      have J70 := J70
                      rw [hV161] at J70
                      exact J70 _ _ _ hP hD hS (lv_sub hl [0, 1, 2, 3, 4] rfl)
                    · replace hV161 := hV161.trans (if_neg hc69)
                      have hlt161 : ke < 10 := yk_lt hk161 (by omega) hc69
                      refine lv_aload_n hx hb dX8_kept_168 rfl (lv_at hl 0 rfl) ?_
                      refine va_get (D := D) (ci := 8) (v := .ref m_table) (C := RX8) (T := TX8) (N := 23) hx hb hts uX8_kept_X8 hown hK hP 0 rfl rfl 21 (by decide) (hts _ kX8_kept_0) (fun _ h9 => h9) rfl dX8_kept_169 ?_
                      refine lv_bipush (v := 10) hx hb dX8_kept_172 (by decide) ?_
                      refine lv_iload hx hb dX8_kept_174 (lv_at hl 4 rfl) ?_
                      refine lv_imul hx hb dX8_kept_176 ?_
                      refine yk_ti (y := nI (10 * (l_X8_kept_119 nw ch tb kc1 ztable_104 rk z2_104 (5 - rk + 1) rk))) (pk_mul 10 (l_X8_kept_119 nw ch tb kc1 ztable_104 rk z2_104 (5 - rk + 1) rk)) ?_
                      refine lv_iload hx hb dX8_kept_177 (lv_at hl 5 rfl) ?_
                      refine lv_iadd hx hb dX8_kept_179 ?_
                      refine yk_ti (y := nI ((10 * (l_X8_kept_119 nw ch tb kc1 ztable_104 rk z2_104 (5 - rk + 1) rk)) + ke)) (nI_add (10 * (l_X8_kept_119 nw ch tb kc1 ztable_104 rk z2_104 (5 - rk + 1) rk)) ke) ?_
                      refine yk_lld hx hb hK hP 3 1 rfl rfl ((10 * (l_X8_kept_119 nw ch tb kc1 ztable_104 rk z2_104 (5 - rk + 1) rk)) + ke) (by omega) (by decide) dX8_kept_180 ?_
                      refine lv_lstore (lv' := [(7, .long (ztable_161 ((10 * (l_X8_kept_119 nw ch tb kc1 ztable_104 rk z2_104 (5 - rk + 1) rk)) + ke))), (0, .ref ta), (1, .int (nI rk)), (2, .long z2_104), (4, .int (nI kc1)), (5, .int (nI (l_X8_kept_119 nw ch tb kc1 ztable_104 rk z2_104 (5 - rk + 1) rk))), (6, .int (nI ke))]) hx hb dX8_kept_181 hl (by decide) rfl (fun ls hl9 => ?_)
                      replace hl := hl9
                      clear hl9
                      refine lv_aload_n hx hb dX8_kept_183 rfl (lv_at hl 1 rfl) ?_
                      refine va_get (D := D) (ci := 8) (v := .ref m_table) (C := RX8) (T := TX8) (N := 23) hx hb hts uX8_kept_X8 hown hK hP 0 rfl rfl 21 (by decide) (hts _ kX8_kept_0) (fun _ h9 => h9) rfl dX8_kept_184 ?_
                      refine lv_bipush (v := 10) hx hb dX8_kept_187 (by decide) ?_
                      refine lv_iload hx hb dX8_kept_189 (lv_at hl 5 rfl) ?_
                      refine lv_imul hx hb dX8_kept_191 ?_
                      refine yk_ti (y := nI (10 * (l_X8_kept_119 nw ch tb kc1 ztable_104 rk z2_104 (5 - rk + 1) rk))) (pk_mul 10 (l_X8_kept_119 nw ch tb kc1 ztable_104 rk z2_104 (5 - rk + 1) rk)) ?_
                      refine lv_iload hx hb dX8_kept_192 (lv_at hl 6 rfl) ?_
                      refine lv_iadd hx hb dX8_kept_194 ?_
                      refine yk_ti (y := nI ((10 * (l_X8_kept_119 nw ch tb kc1 ztable_104 rk z2_104 (5 - rk + 1) rk)) + ke)) (nI_add (10 * (l_X8_kept_119 nw ch tb kc1 ztable_104 rk z2_104 (5 - rk + 1) rk)) ke) ?_
                      refine lv_aload_n hx hb dX8_kept_195 rfl (lv_at hl 1 rfl) ?_
                      refine va_get (D := D) (ci := 8) (v := .ref m_table) (C := RX8) (T := TX8) (N := 23) hx hb hts uX8_kept_X8 hown hK hP 0 rfl rfl 21 (by decide) (hts _ kX8_kept_0) (fun _ h9 => h9) rfl dX8_kept_196 ?_
                      refine lv_bipush (v := 10) hx hb dX8_kept_199 (by decide) ?_
                      refine lv_iload_n hx hb dX8_kept_201 rfl (lv_at hl 2 rfl) ?_
                      refine lv_imul hx hb dX8_kept_202 ?_
                      refine yk_ti (y := nI (10 * rk)) (pk_mul 10 rk) ?_
                      refine lv_iload hx hb dX8_kept_203 (lv_at hl 6 rfl) ?_
                      refine lv_iadd hx hb dX8_kept_205 ?_
                      refine yk_ti (y := nI ((10 * rk) + ke)) (nI_add (10 * rk) ke) ?_
                      refine yk_lld hx hb hK hP 3 1 rfl rfl ((10 * rk) + ke) (by omega) (by decide) dX8_kept_206 ?_
                      refine yk_lst hx hb hK hP hD hS 3 1 rfl rfl ((10 * (l_X8_kept_119 nw ch tb kc1 ztable_104 rk z2_104 (5 - rk + 1) rk)) + ke) (by omega) (by decide) dX8_kept_207 (fun H locs hP9 hD9 hS9 => ?_)
                      replace hP : va_P D vwCl [(ta, .inr (8, [.ref m_now, .ref m_undone, .ref m_slots, .ref m_slotKind, .ref m_hasSlot, .ref m_sheetBits, .ref m_sheetSize, .ref m_sheets, .int (nI u), .int fi, .ref m_fresh, .long aa, .long bb, .long dd, .int (nI ro), .ref m_rootWhich, .int db, .ref m_signs, .ref m_atNought, .int (nI mn), .ref m_change, .ref m_table, .ref m_carried])), (m_now, .inl (cy 0, 29, .inl nw)), (m_change, .inl (cy 1, 10, .inr (.inl ((l_X8_kept_2 nw ch tb (5 + 1) 0 ch tb).1)))), (m_table, .inl (cy 1, 50, .inr (.inl (vp_updL ztable_161 ((10 * (l_X8_kept_119 nw ch tb kc1 ztable_104 rk z2_104 (5 - rk + 1) rk)) + ke) (ztable_161 ((10 * rk) + ke))))))] H := hP9
                      replace hD : va_D A [(ta, .inr (8, [.ref m_now, .ref m_undone, .ref m_slots, .ref m_slotKind, .ref m_hasSlot, .ref m_sheetBits, .ref m_sheetSize, .ref m_sheets, .int (nI u), .int fi, .ref m_fresh, .long aa, .long bb, .long dd, .int (nI ro), .ref m_rootWhich, .int db, .ref m_signs, .ref m_atNought, .int (nI mn), .ref m_change, .ref m_table, .ref m_carried])), (m_now, .inl (cy 0, 29, .inl nw)), (m_change, .inl (cy 1, 10, .inr (.inl ((l_X8_kept_2 nw ch tb (5 + 1) 0 ch tb).1)))), (m_table, .inl (cy 1, 50, .inr (.inl (vp_updL ztable_161 ((10 * (l_X8_kept_119 nw ch tb kc1 ztable_104 rk z2_104 (5 - rk + 1) rk)) + ke) (ztable_161 ((10 * rk) + ke))))))] := hD9
                      replace hS := hS9
                      clear hP9 hD9 hS9
                      refine lv_aload_n hx hb dX8_kept_208 rfl (lv_at hl 1 rfl) ?_
                      refine va_get (D := D) (ci := 8) (v := .ref m_table) (C := RX8) (T := TX8) (N := 23) hx hb hts uX8_kept_X8 hown hK hP 0 rfl rfl 21 (by decide) (hts _ kX8_kept_0) (fun _ h9 => h9) rfl dX8_kept_209 ?_
                      refine lv_bipush (v := 10) hx hb dX8_kept_212 (by decide) ?_
                      refine lv_iload_n hx hb dX8_kept_214 rfl (lv_at hl 2 rfl) ?_
                      refine lv_imul hx hb dX8_kept_215 ?_
                      refine yk_ti (y := nI (10 * rk)) (pk_mul 10 rk) ?_
                      refine lv_iload hx hb dX8_kept_216 (lv_at hl 6 rfl) ?_
                      refine lv_iadd hx hb dX8_kept_218 ?_
                      refine yk_ti (y := nI ((10 * rk) + ke)) (nI_add (10 * rk) ke) ?_
                      refine lv_lload hx hb dX8_kept_219 (lv_at hl 0 rfl) ?_
                      refine yk_lst hx hb hK hP hD hS 3 1 rfl rfl ((10 * rk) + ke) (by omega) (by decide) dX8_kept_221 (fun H locs hP9 hD9 hS9 => ?_)
                      replace hP : va_P D vwCl [(ta, .inr (8, [.ref m_now, .ref m_undone, .ref m_slots, .ref m_slotKind, .ref m_hasSlot, .ref m_sheetBits, .ref m_sheetSize, .ref m_sheets, .int (nI u), .int fi, .ref m_fresh, .long aa, .long bb, .long dd, .int (nI ro), .ref m_rootWhich, .int db, .ref m_signs, .ref m_atNought, .int (nI mn), .ref m_change, .ref m_table, .ref m_carried])), (m_now, .inl (cy 0, 29, .inl nw)), (m_change, .inl (cy 1, 10, .inr (.inl ((l_X8_kept_2 nw ch tb (5 + 1) 0 ch tb).1)))), (m_table, .inl (cy 1, 50, .inr (.inl (vp_updL (vp_updL ztable_161 ((10 * (l_X8_kept_119 nw ch tb kc1 ztable_104 rk z2_104 (5 - rk + 1) rk)) + ke) (ztable_161 ((10 * rk) + ke))) ((10 * rk) + ke) (ztable_161 ((10 * (l_X8_kept_119 nw ch tb kc1 ztable_104 rk z2_104 (5 - rk + 1) rk)) + ke))))))] H := hP9
                      replace hD : va_D A [(ta, .inr (8, [.ref m_now, .ref m_undone, .ref m_slots, .ref m_slotKind, .ref m_hasSlot, .ref m_sheetBits, .ref m_sheetSize, .ref m_sheets, .int (nI u), .int fi, .ref m_fresh, .long aa, .long bb, .long dd, .int (nI ro), .ref m_rootWhich, .int db, .ref m_signs, .ref m_atNought, .int (nI mn), .ref m_change, .ref m_table, .ref m_carried])), (m_now, .inl (cy 0, 29, .inl nw)), (m_change, .inl (cy 1, 10, .inr (.inl ((l_X8_kept_2 nw ch tb (5 + 1) 0 ch tb).1)))), (m_table, .inl (cy 1, 50, .inr (.inl (vp_updL (vp_updL ztable_161 ((10 * (l_X8_kept_119 nw ch tb kc1 ztable_104 rk z2_104 (5 - rk + 1) rk)) + ke) (ztable_161 ((10 * rk) + ke))) ((10 * rk) + ke) (ztable_161 ((10 * (l_X8_kept_119 nw ch tb kc1 ztable_104 rk z2_104 (5 - rk + 1) rk)) + ke))))))] := hD9
                      replace hS := hS9
                      clear hP9 hD9 hS9
                      refine lv_iinc (v := nI (ke + 1)) (lv' := [(6, .int (nI (ke + 1))), (7, .long (ztable_161 ((10 * (l_X8_kept_119 nw ch tb kc1 ztable_104 rk z2_104 (5 - rk + 1) rk)) + ke))), (0, .ref ta), (1, .int (nI rk)), (2, .long z2_104), (4, .int (nI kc1)), (5, .int (nI (l_X8_kept_119 nw ch tb kc1 ztable_104 rk z2_104 (5 - rk + 1) rk)))]) hx hb dX8_kept_222 hl (k := 6) rfl (yk_inc ke) (by decide) rfl (fun ls hl9 => ?_)
                      replace hl := hl9
                      clear hl9
                      refine lv_goto (tgt := 161) hx hb dX8_kept_225 (by decide) ?_
                      obtain ⟨n9, rfl⟩ : ∃ n9, n161 = n9 + 1 := ⟨n161 - 1, by omega⟩
                      exact ih161 n9 (ke + 1) (vp_updL (vp_updL ztable_161 ((10 * (l_X8_kept_119 nw ch tb kc1 ztable_104 rk z2_104 (5 - rk + 1) rk)) + ke) (ztable_161 ((10 * rk) + ke))) ((10 * rk) + ke) (ztable_161 ((10 * (l_X8_kept_119 nw ch tb kc1 ztable_104 rk z2_104 (5 - rk + 1) rk)) + ke))) _ _ _ (by omega) (by omega)  hV161 hP hD hS (lv_sub hl [2, 3, 4, 5, 6, 0] rfl)
                exact L161 (10 + 1) 10 0 ztable_104 _ _ _ (Nat.lt_succ_self _) (by omega)  rfl hP hD hS (lv_sub hl [1, 2, 3, 4, 5, 0] rfl)
              · refine lv_goto (tgt := 343) hx hb dX8_kept_155 (by decide) ?_
                exact J83 _ _ _ _ _ _ ((if_pos hc67).symm) ((if_pos hc67).symm) ((if_pos hc67).symm) hP hD hS (lv_sub hl [0, 1, 2, 3, 4] rfl)
            have L119 : ∀ (M9 n119 kd : Nat) (H : Heap) (locs : List Loc) (ls : Array Slot), n119 < M9 → kd + n119 = 5 → (l_X8_kept_119 nw ch tb kc1 ztable_104 rk z2_104 (5 - rk + 1) rk) = (l_X8_kept_119 nw ch tb kc1 ztable_104 rk z2_104 (n119 + 1) kd) → va_P D vwCl [(ta, .inr (8, [.ref m_now, .ref m_undone, .ref m_slots, .ref m_slotKind, .ref m_hasSlot, .ref m_sheetBits, .ref m_sheetSize, .ref m_sheets, .int (nI u), .int fi, .ref m_fresh, .long aa, .long bb, .long dd, .int (nI ro), .ref m_rootWhich, .int db, .ref m_signs, .ref m_atNought, .int (nI mn), .ref m_change, .ref m_table, .ref m_carried])), (m_now, .inl (cy 0, 29, .inl nw)), (m_change, .inl (cy 1, 10, .inr (.inl ((l_X8_kept_2 nw ch tb (5 + 1) 0 ch tb).1)))), (m_table, .inl (cy 1, 50, .inr (.inl ztable_104)))] H → va_D A [(ta, .inr (8, [.ref m_now, .ref m_undone, .ref m_slots, .ref m_slotKind, .ref m_hasSlot, .ref m_sheetBits, .ref m_sheetSize, .ref m_sheets, .int (nI u), .int fi, .ref m_fresh, .long aa, .long bb, .long dd, .int (nI ro), .ref m_rootWhich, .int db, .ref m_signs, .ref m_atNought, .int (nI mn), .ref m_change, .ref m_table, .ref m_carried])), (m_now, .inl (cy 0, 29, .inl nw)), (m_change, .inl (cy 1, 10, .inr (.inl ((l_X8_kept_2 nw ch tb (5 + 1) 0 ch tb).1)))), (m_table, .inl (cy 1, 50, .inr (.inl ztable_104)))] → va_S A s.heap H locs → lv_has ls 12 [(0, .ref ta), (1, .int (nI rk)), (2, .long z2_104), (4, .int (nI kc1)), (5, .int (nI kd))] → W p l e R s m args below meth c H locs 0 0 Q (F0 m 119 ls []) := by
              clear hP hD hS hl
              intro M9
              induction M9 with
              | zero => intro n119 kd _ _ _ hn; exact absurd hn (Nat.not_lt_zero _)
              | succ M9 ih119 =>
                intro n119 kd H locs ls hn119 hk119 hV119 hP hD hS hl
                refine lv_iload hx hb dX8_kept_119 (lv_at hl 4 rfl) ?_
                refine lv_iconst (v := 5) hx hb dX8_kept_121 (by decide) ?_
                refine lv_icmp_ge (tgt := 149) hx hb dX8_kept_122 (by decide) (fun hc64 => ?_) (fun hc64 => ?_)
                · replace hV119 := hV119.trans (if_pos hc64)
                  have hV119 : (l_X8_kept_119 nw ch tb kc1 ztable_104 rk z2_104 (5 - rk + 1) rk) = kd := hV119
                  have J66 := J66
                  rw [hV119] at J66
                  exact J66 _ _ _ (show kd ≤ 5 from by omega) (show kd = 5 ∨ ¬ ztable_104 (10 * kd + kc1) = 0 from by first | exact Or.inl (yk_eq5 hk119 (by assumption)) | exact Or.inr (yk_lne (by assumption))) hP hD hS (lv_sub hl [0, 1, 2, 3, 4] rfl)
                · replace hV119 := hV119.trans (if_neg hc64)
                  have hlt119 : kd < 5 := yk_lt hk119 (by omega) hc64
                  refine lv_aload_n hx hb dX8_kept_125 rfl (lv_at hl 0 rfl) ?_
                  refine va_get (D := D) (ci := 8) (v := .ref m_table) (C := RX8) (T := TX8) (N := 23) hx hb hts uX8_kept_X8 hown hK hP 0 rfl rfl 21 (by decide) (hts _ kX8_kept_0) (fun _ h9 => h9) rfl dX8_kept_126 ?_
                  refine lv_bipush (v := 10) hx hb dX8_kept_129 (by decide) ?_
                  refine lv_iload hx hb dX8_kept_131 (lv_at hl 4 rfl) ?_
                  refine lv_imul hx hb dX8_kept_133 ?_
                  refine yk_ti (y := nI (10 * kd)) (pk_mul 10 kd) ?_
                  refine lv_iload hx hb dX8_kept_134 (lv_at hl 3 rfl) ?_
                  refine lv_iadd hx hb dX8_kept_136 ?_
                  refine yk_ti (y := nI ((10 * kd) + kc1)) (nI_add (10 * kd) kc1) ?_
                  refine yk_lld hx hb hK hP 3 1 rfl rfl ((10 * kd) + kc1) (by omega) (by decide) dX8_kept_137 ?_
                  refine lv_lconst (v := 0) hx hb dX8_kept_138 (by decide) ?_
                  refine W.lcmp hx hb dX8_kept_139 ?_
                  refine lv_if_ne (tgt := 149) hx hb dX8_kept_140 (by decide) (fun hc65 => ?_) (fun hc65 => ?_)
                  · replace hV119 := hV119.trans (if_neg hc65)
                    have hV119 : (l_X8_kept_119 nw ch tb kc1 ztable_104 rk z2_104 (5 - rk + 1) rk) = kd := hV119
                    have J66 := J66
                    rw [hV119] at J66
                    exact J66 _ _ _ (show kd ≤ 5 from by omega) (show kd = 5 ∨ ¬ ztable_104 (10 * kd + kc1) = 0 from by first | exact Or.inl (yk_eq5 hk119 (by assumption)) | exact Or.inr (yk_lne (by assumption))) hP hD hS (lv_sub hl [0, 1, 2, 3, 4] rfl)
                  · replace hV119 := hV119.trans (if_pos hc65)
                    refine lv_iinc (v := nI (kd + 1)) (lv' := [(5, .int (nI (kd + 1))), (0, .ref ta), (1, .int (nI rk)), (2, .long z2_104), (4, .int (nI kc1))]) hx hb dX8_kept_143 hl (k := 4) rfl (yk_inc kd) (by decide) rfl (fun ls hl9 => ?_)
                    replace hl := hl9
                    clear hl9
                    refine lv_goto (tgt := 119) hx hb dX8_kept_146 (by decide) ?_
                    obtain ⟨n9, rfl⟩ : ∃ n9, n119 = n9 + 1 := ⟨n119 - 1, by omega⟩
                    exact ih119 n9 (kd + 1) _ _ _ (by omega) (by omega)  hV119 hP hD hS (lv_sub hl [1, 2, 3, 4, 0] rfl)
            exact L119 ((5 - rk) + 1) (5 - rk) rk  _ _ _ (Nat.lt_succ_self _) (by omega)  rfl hP hD hS (lv_sub hl [1, 2, 3, 4, 0] rfl)
    exact L104 (10 + 1) 10 0 ((l_X8_kept_2 nw ch tb (5 + 1) 0 ch tb).2) 0 1 _ _ _ (Nat.lt_succ_self _) (by omega) (by decide) (by decide) rfl hP hD hS (lv_sub hl [3, 2, 1, 0] rfl)
  have L2 : ∀ (M9 n2 ka : Nat) (zchange_2 : Nat → Int64) (ztable_2 : Nat → Int64) (H : Heap) (locs : List Loc) (ls : Array Slot), n2 < M9 → ka + n2 = 5 → (l_X8_kept_2 nw ch tb (5 + 1) 0 ch tb) = (l_X8_kept_2 nw ch tb (n2 + 1) ka zchange_2 ztable_2) → va_P D vwCl [(ta, .inr (8, [.ref m_now, .ref m_undone, .ref m_slots, .ref m_slotKind, .ref m_hasSlot, .ref m_sheetBits, .ref m_sheetSize, .ref m_sheets, .int (nI u), .int fi, .ref m_fresh, .long aa, .long bb, .long dd, .int (nI ro), .ref m_rootWhich, .int db, .ref m_signs, .ref m_atNought, .int (nI mn), .ref m_change, .ref m_table, .ref m_carried])), (m_now, .inl (cy 0, 29, .inl nw)), (m_change, .inl (cy 1, 10, .inr (.inl zchange_2))), (m_table, .inl (cy 1, 50, .inr (.inl ztable_2)))] H → va_D A [(ta, .inr (8, [.ref m_now, .ref m_undone, .ref m_slots, .ref m_slotKind, .ref m_hasSlot, .ref m_sheetBits, .ref m_sheetSize, .ref m_sheets, .int (nI u), .int fi, .ref m_fresh, .long aa, .long bb, .long dd, .int (nI ro), .ref m_rootWhich, .int db, .ref m_signs, .ref m_atNought, .int (nI mn), .ref m_change, .ref m_table, .ref m_carried])), (m_now, .inl (cy 0, 29, .inl nw)), (m_change, .inl (cy 1, 10, .inr (.inl zchange_2))), (m_table, .inl (cy 1, 50, .inr (.inl ztable_2)))] → va_S A s.heap H locs → lv_has ls 12 [(0, .ref ta), (1, .int (nI ka))] → W p l e R s m args below meth c H locs 0 0 Q (F0 m 2 ls []) := by
    clear hP hD hS hl
    intro M9
    induction M9 with
    | zero => intro n2 ka _ _ _ _ _ hn; exact absurd hn (Nat.not_lt_zero _)
    | succ M9 ih2 =>
      intro n2 ka zchange_2 ztable_2 H locs ls hn2 hk2 hV2 hP hD hS hl
      refine lv_iload_n hx hb dX8_kept_2 rfl (lv_at hl 1 rfl) ?_
      refine lv_iconst (v := 5) hx hb dX8_kept_3 (by decide) ?_
      refine lv_icmp_ge (tgt := 97) hx hb dX8_kept_4 (by decide) (fun hc20 => ?_) (fun hc20 => ?_)
      · replace hV2 := hV2.trans (if_pos hc20)
        have hV2 : (l_X8_kept_2 nw ch tb (5 + 1) 0 ch tb) = (zchange_2, ztable_2) := hV2
        have J39 := J39
        rw [hV2] at J39
        exact J39 _ _ _ hP hD hS (lv_sub hl [0] rfl)
      · replace hV2 := hV2.trans (if_neg hc20)
        have hlt2 : ka < 5 := yk_lt hk2 (by omega) hc20
        refine lv_aload_n hx hb dX8_kept_7 rfl (lv_at hl 0 rfl) ?_
        refine lv_iload_n hx hb dX8_kept_8 rfl (lv_at hl 1 rfl) ?_
        have J23 : ∀ (v22 : Int32) (H : Heap) (locs : List Loc) (ls : Array Slot), v22 = (if (nI ka) = 0 then 1 else 0) → va_P D vwCl [(ta, .inr (8, [.ref m_now, .ref m_undone, .ref m_slots, .ref m_slotKind, .ref m_hasSlot, .ref m_sheetBits, .ref m_sheetSize, .ref m_sheets, .int (nI u), .int fi, .ref m_fresh, .long aa, .long bb, .long dd, .int (nI ro), .ref m_rootWhich, .int db, .ref m_signs, .ref m_atNought, .int (nI mn), .ref m_change, .ref m_table, .ref m_carried])), (m_now, .inl (cy 0, 29, .inl nw)), (m_change, .inl (cy 1, 10, .inr (.inl zchange_2))), (m_table, .inl (cy 1, 50, .inr (.inl ztable_2)))] H → va_D A [(ta, .inr (8, [.ref m_now, .ref m_undone, .ref m_slots, .ref m_slotKind, .ref m_hasSlot, .ref m_sheetBits, .ref m_sheetSize, .ref m_sheets, .int (nI u), .int fi, .ref m_fresh, .long aa, .long bb, .long dd, .int (nI ro), .ref m_rootWhich, .int db, .ref m_signs, .ref m_atNought, .int (nI mn), .ref m_change, .ref m_table, .ref m_carried])), (m_now, .inl (cy 0, 29, .inl nw)), (m_change, .inl (cy 1, 10, .inr (.inl zchange_2))), (m_table, .inl (cy 1, 50, .inr (.inl ztable_2)))] → va_S A s.heap H locs → lv_has ls 12 [(0, .ref ta), (1, .int (nI ka))] → W p l e R s m args below meth c H locs 0 0 Q (F0 m 17 ls [.int v22, .ref ta]) := by
          clear hP hD hS hl
          intro v22 H locs ls ev22
          rw [ev22]
          clear ev22
          intro hP hD hS hl
          refine lv_iload_n hx hb dX8_kept_17 rfl (lv_at hl 1 rfl) ?_
          refine lv_iconst (v := 1) hx hb dX8_kept_18 (by decide) ?_
          have J26 : ∀ (v25 : Int32) (H : Heap) (locs : List Loc) (ls : Array Slot), v25 = (if (nI ka) = 1 then 1 else 0) → va_P D vwCl [(ta, .inr (8, [.ref m_now, .ref m_undone, .ref m_slots, .ref m_slotKind, .ref m_hasSlot, .ref m_sheetBits, .ref m_sheetSize, .ref m_sheets, .int (nI u), .int fi, .ref m_fresh, .long aa, .long bb, .long dd, .int (nI ro), .ref m_rootWhich, .int db, .ref m_signs, .ref m_atNought, .int (nI mn), .ref m_change, .ref m_table, .ref m_carried])), (m_now, .inl (cy 0, 29, .inl nw)), (m_change, .inl (cy 1, 10, .inr (.inl zchange_2))), (m_table, .inl (cy 1, 50, .inr (.inl ztable_2)))] H → va_D A [(ta, .inr (8, [.ref m_now, .ref m_undone, .ref m_slots, .ref m_slotKind, .ref m_hasSlot, .ref m_sheetBits, .ref m_sheetSize, .ref m_sheets, .int (nI u), .int fi, .ref m_fresh, .long aa, .long bb, .long dd, .int (nI ro), .ref m_rootWhich, .int db, .ref m_signs, .ref m_atNought, .int (nI mn), .ref m_change, .ref m_table, .ref m_carried])), (m_now, .inl (cy 0, 29, .inl nw)), (m_change, .inl (cy 1, 10, .inr (.inl zchange_2))), (m_table, .inl (cy 1, 50, .inr (.inl ztable_2)))] → va_S A s.heap H locs → lv_has ls 12 [(0, .ref ta), (1, .int (nI ka))] → W p l e R s m args below meth c H locs 0 0 Q (F0 m 27 ls [.int v25, .int (if (nI ka) = 0 then 1 else 0), .ref ta]) := by
            clear hP hD hS hl
            intro v25 H locs ls ev25
            rw [ev25]
            clear ev25
            intro hP hD hS hl
            refine lv_iload_n hx hb dX8_kept_27 rfl (lv_at hl 1 rfl) ?_
            refine lv_iconst (v := 2) hx hb dX8_kept_28 (by decide) ?_
            have J29 : ∀ (v28 : Int32) (H : Heap) (locs : List Loc) (ls : Array Slot), v28 = (if (nI ka) = 2 then 1 else 0) → va_P D vwCl [(ta, .inr (8, [.ref m_now, .ref m_undone, .ref m_slots, .ref m_slotKind, .ref m_hasSlot, .ref m_sheetBits, .ref m_sheetSize, .ref m_sheets, .int (nI u), .int fi, .ref m_fresh, .long aa, .long bb, .long dd, .int (nI ro), .ref m_rootWhich, .int db, .ref m_signs, .ref m_atNought, .int (nI mn), .ref m_change, .ref m_table, .ref m_carried])), (m_now, .inl (cy 0, 29, .inl nw)), (m_change, .inl (cy 1, 10, .inr (.inl zchange_2))), (m_table, .inl (cy 1, 50, .inr (.inl ztable_2)))] H → va_D A [(ta, .inr (8, [.ref m_now, .ref m_undone, .ref m_slots, .ref m_slotKind, .ref m_hasSlot, .ref m_sheetBits, .ref m_sheetSize, .ref m_sheets, .int (nI u), .int fi, .ref m_fresh, .long aa, .long bb, .long dd, .int (nI ro), .ref m_rootWhich, .int db, .ref m_signs, .ref m_atNought, .int (nI mn), .ref m_change, .ref m_table, .ref m_carried])), (m_now, .inl (cy 0, 29, .inl nw)), (m_change, .inl (cy 1, 10, .inr (.inl zchange_2))), (m_table, .inl (cy 1, 50, .inr (.inl ztable_2)))] → va_S A s.heap H locs → lv_has ls 12 [(0, .ref ta), (1, .int (nI ka))] → W p l e R s m args below meth c H locs 0 0 Q (F0 m 37 ls [.int v28, .int (if (nI ka) = 1 then 1 else 0), .int (if (nI ka) = 0 then 1 else 0), .ref ta]) := by
              clear hP hD hS hl
              intro v28 H locs ls ev28
              rw [ev28]
              clear ev28
              intro hP hD hS hl
              refine lv_iload_n hx hb dX8_kept_37 rfl (lv_at hl 1 rfl) ?_
              refine lv_iconst (v := 3) hx hb dX8_kept_38 (by decide) ?_
              have J32 : ∀ (v31 : Int32) (H : Heap) (locs : List Loc) (ls : Array Slot), v31 = (if (nI ka) = 3 then 1 else 0) → va_P D vwCl [(ta, .inr (8, [.ref m_now, .ref m_undone, .ref m_slots, .ref m_slotKind, .ref m_hasSlot, .ref m_sheetBits, .ref m_sheetSize, .ref m_sheets, .int (nI u), .int fi, .ref m_fresh, .long aa, .long bb, .long dd, .int (nI ro), .ref m_rootWhich, .int db, .ref m_signs, .ref m_atNought, .int (nI mn), .ref m_change, .ref m_table, .ref m_carried])), (m_now, .inl (cy 0, 29, .inl nw)), (m_change, .inl (cy 1, 10, .inr (.inl zchange_2))), (m_table, .inl (cy 1, 50, .inr (.inl ztable_2)))] H → va_D A [(ta, .inr (8, [.ref m_now, .ref m_undone, .ref m_slots, .ref m_slotKind, .ref m_hasSlot, .ref m_sheetBits, .ref m_sheetSize, .ref m_sheets, .int (nI u), .int fi, .ref m_fresh, .long aa, .long bb, .long dd, .int (nI ro), .ref m_rootWhich, .int db, .ref m_signs, .ref m_atNought, .int (nI mn), .ref m_change, .ref m_table, .ref m_carried])), (m_now, .inl (cy 0, 29, .inl nw)), (m_change, .inl (cy 1, 10, .inr (.inl zchange_2))), (m_table, .inl (cy 1, 50, .inr (.inl ztable_2)))] → va_S A s.heap H locs → lv_has ls 12 [(0, .ref ta), (1, .int (nI ka))] → W p l e R s m args below meth c H locs 0 0 Q (F0 m 47 ls [.int v31, .int (if (nI ka) = 2 then 1 else 0), .int (if (nI ka) = 1 then 1 else 0), .int (if (nI ka) = 0 then 1 else 0), .ref ta]) := by
                clear hP hD hS hl
                intro v31 H locs ls ev31
                rw [ev31]
                clear ev31
                intro hP hD hS hl
                refine lv_iload_n hx hb dX8_kept_47 rfl (lv_at hl 1 rfl) ?_
                refine lv_iconst (v := 4) hx hb dX8_kept_48 (by decide) ?_
                have J35 : ∀ (v34 : Int32) (H : Heap) (locs : List Loc) (ls : Array Slot), v34 = (if (nI ka) = 4 then 1 else 0) → va_P D vwCl [(ta, .inr (8, [.ref m_now, .ref m_undone, .ref m_slots, .ref m_slotKind, .ref m_hasSlot, .ref m_sheetBits, .ref m_sheetSize, .ref m_sheets, .int (nI u), .int fi, .ref m_fresh, .long aa, .long bb, .long dd, .int (nI ro), .ref m_rootWhich, .int db, .ref m_signs, .ref m_atNought, .int (nI mn), .ref m_change, .ref m_table, .ref m_carried])), (m_now, .inl (cy 0, 29, .inl nw)), (m_change, .inl (cy 1, 10, .inr (.inl zchange_2))), (m_table, .inl (cy 1, 50, .inr (.inl ztable_2)))] H → va_D A [(ta, .inr (8, [.ref m_now, .ref m_undone, .ref m_slots, .ref m_slotKind, .ref m_hasSlot, .ref m_sheetBits, .ref m_sheetSize, .ref m_sheets, .int (nI u), .int fi, .ref m_fresh, .long aa, .long bb, .long dd, .int (nI ro), .ref m_rootWhich, .int db, .ref m_signs, .ref m_atNought, .int (nI mn), .ref m_change, .ref m_table, .ref m_carried])), (m_now, .inl (cy 0, 29, .inl nw)), (m_change, .inl (cy 1, 10, .inr (.inl zchange_2))), (m_table, .inl (cy 1, 50, .inr (.inl ztable_2)))] → va_S A s.heap H locs → lv_has ls 12 [(0, .ref ta), (1, .int (nI ka))] → W p l e R s m args below meth c H locs 0 0 Q (F0 m 57 ls [.int v34, .int (if (nI ka) = 3 then 1 else 0), .int (if (nI ka) = 2 then 1 else 0), .int (if (nI ka) = 1 then 1 else 0), .int (if (nI ka) = 0 then 1 else 0), .ref ta]) := by
                  clear hP hD hS hl
                  intro v34 H locs ls ev34
                  rw [ev34]
                  clear ev34
                  intro hP hD hS hl
                  refine yk_v [0, 1, 2] (va_runV (As := [.int (if (nI ka) = 0 then 1 else 0), .int (if (nI ka) = 1 then 1 else 0), .int (if (nI ka) = 2 then 1 else 0), .int (if (nI ka) = 3 then 1 else 0), .int (if (nI ka) = 4 then 1 else 0)]) (rest := []) ⟨hx, hb, hml, hown, hts⟩ (c_X8_changes l D cy ta m_now m_change m_undone m_slots m_slotKind m_hasSlot m_sheetBits m_sheetSize m_sheets m_fresh m_rootWhich m_signs m_atNought m_table m_carried nw u fi aa bb dd ro db mn zchange_2 (if (nI ka) = 0 then 1 else 0) (if (nI ka) = 1 then 1 else 0) (if (nI ka) = 2 then 1 else 0) (if (nI ka) = 3 then 1 else 0) (if (nI ka) = 4 then 1 else 0) H.size) (cwV 5 hts gX8_kept_X8_changes rfl rfl rfl hv_X8_changes (yk_room hRf hRl rfl rfl)) (yk_pv (q := (RX8, TX8, 23)) hG hA hS hK hP hD [0, 1, 2] (by decide +kernel) rfl rfl rfl) rfl rfl hl.1 rfl (lv_room (Nat.le_of_ble_eq_true rfl)) dX8_kept_57 ⟨Nat.zero_le _, Nat.zero_le _⟩) hP hD hS hA rfl (Eq.trans (b := [ta, m_now, m_change]) rfl rfl) (fun H locs hP9 hD9 hS9 => ?_)
                  replace hP : va_P D vwCl [(ta, .inr (8, [.ref m_now, .ref m_undone, .ref m_slots, .ref m_slotKind, .ref m_hasSlot, .ref m_sheetBits, .ref m_sheetSize, .ref m_sheets, .int (nI u), .int fi, .ref m_fresh, .long aa, .long bb, .long dd, .int (nI ro), .ref m_rootWhich, .int db, .ref m_signs, .ref m_atNought, .int (nI mn), .ref m_change, .ref m_table, .ref m_carried])), (m_now, .inl (cy 0, 29, .inl nw)), (m_change, .inl (cy 1, 10, .inr (.inl (f_X8_changes nw zchange_2 (if (nI ka) = 0 then 1 else 0) (if (nI ka) = 1 then 1 else 0) (if (nI ka) = 2 then 1 else 0) (if (nI ka) = 3 then 1 else 0) (if (nI ka) = 4 then 1 else 0))))), (m_table, .inl (cy 1, 50, .inr (.inl ztable_2)))] H := hP9
                  replace hD : va_D A [(ta, .inr (8, [.ref m_now, .ref m_undone, .ref m_slots, .ref m_slotKind, .ref m_hasSlot, .ref m_sheetBits, .ref m_sheetSize, .ref m_sheets, .int (nI u), .int fi, .ref m_fresh, .long aa, .long bb, .long dd, .int (nI ro), .ref m_rootWhich, .int db, .ref m_signs, .ref m_atNought, .int (nI mn), .ref m_change, .ref m_table, .ref m_carried])), (m_now, .inl (cy 0, 29, .inl nw)), (m_change, .inl (cy 1, 10, .inr (.inl (f_X8_changes nw zchange_2 (if (nI ka) = 0 then 1 else 0) (if (nI ka) = 1 then 1 else 0) (if (nI ka) = 2 then 1 else 0) (if (nI ka) = 3 then 1 else 0) (if (nI ka) = 4 then 1 else 0))))), (m_table, .inl (cy 1, 50, .inr (.inl ztable_2)))] := hD9
                  replace hS := hS9
                  clear hP9 hD9 hS9
                  refine lv_iconst (v := 0) hx hb dX8_kept_60 (by decide) ?_
                  refine lv_istore_n (lv' := [(2, .int 0), (0, .ref ta), (1, .int (nI ka))]) hx hb dX8_kept_61 rfl hl (by decide) rfl (fun ls hl9 => ?_)
                  replace hl := hl9
                  clear hl9
                  have J38 : ∀ (H : Heap) (locs : List Loc) (ls : Array Slot), va_P D vwCl [(ta, .inr (8, [.ref m_now, .ref m_undone, .ref m_slots, .ref m_slotKind, .ref m_hasSlot, .ref m_sheetBits, .ref m_sheetSize, .ref m_sheets, .int (nI u), .int fi, .ref m_fresh, .long aa, .long bb, .long dd, .int (nI ro), .ref m_rootWhich, .int db, .ref m_signs, .ref m_atNought, .int (nI mn), .ref m_change, .ref m_table, .ref m_carried])), (m_now, .inl (cy 0, 29, .inl nw)), (m_change, .inl (cy 1, 10, .inr (.inl (f_X8_changes nw zchange_2 (if (nI ka) = 0 then 1 else 0) (if (nI ka) = 1 then 1 else 0) (if (nI ka) = 2 then 1 else 0) (if (nI ka) = 3 then 1 else 0) (if (nI ka) = 4 then 1 else 0))))), (m_table, .inl (cy 1, 50, .inr (.inl (l_X8_kept_62 nw ch tb ka zchange_2 ztable_2 (10 + 1) 0 ztable_2))))] H → va_D A [(ta, .inr (8, [.ref m_now, .ref m_undone, .ref m_slots, .ref m_slotKind, .ref m_hasSlot, .ref m_sheetBits, .ref m_sheetSize, .ref m_sheets, .int (nI u), .int fi, .ref m_fresh, .long aa, .long bb, .long dd, .int (nI ro), .ref m_rootWhich, .int db, .ref m_signs, .ref m_atNought, .int (nI mn), .ref m_change, .ref m_table, .ref m_carried])), (m_now, .inl (cy 0, 29, .inl nw)), (m_change, .inl (cy 1, 10, .inr (.inl (f_X8_changes nw zchange_2 (if (nI ka) = 0 then 1 else 0) (if (nI ka) = 1 then 1 else 0) (if (nI ka) = 2 then 1 else 0) (if (nI ka) = 3 then 1 else 0) (if (nI ka) = 4 then 1 else 0))))), (m_table, .inl (cy 1, 50, .inr (.inl (l_X8_kept_62 nw ch tb ka zchange_2 ztable_2 (10 + 1) 0 ztable_2))))] → va_S A s.heap H locs → lv_has ls 12 [(0, .ref ta), (1, .int (nI ka))] → W p l e R s m args below meth c H locs 0 0 Q (F0 m 91 ls []) := by
                    clear hP hD hS hl
                    intro H locs ls hP hD hS hl
                    refine lv_iinc (v := nI (ka + 1)) (lv' := [(1, .int (nI (ka + 1))), (0, .ref ta)]) hx hb dX8_kept_91 hl (k := 1) rfl (yk_inc ka) (by decide) rfl (fun ls hl9 => ?_)
                    replace hl := hl9
                    clear hl9
                    refine lv_goto (tgt := 2) hx hb dX8_kept_94 (by decide) ?_
                    obtain ⟨n9, rfl⟩ : ∃ n9, n2 = n9 + 1 := ⟨n2 - 1, by omega⟩
                    exact ih2 n9 (ka + 1) (f_X8_changes nw zchange_2 (if (nI ka) = 0 then 1 else 0) (if (nI ka) = 1 then 1 else 0) (if (nI ka) = 2 then 1 else 0) (if (nI ka) = 3 then 1 else 0) (if (nI ka) = 4 then 1 else 0)) (l_X8_kept_62 nw ch tb ka zchange_2 ztable_2 (10 + 1) 0 ztable_2) _ _ _ (by omega) (by omega)  hV2 hP hD hS (lv_sub hl [1, 0] rfl)
                  have L62 : ∀ (M9 n62 kb : Nat) (ztable_62 : Nat → Int64) (H : Heap) (locs : List Loc) (ls : Array Slot), n62 < M9 → kb + n62 = 10 → (l_X8_kept_62 nw ch tb ka zchange_2 ztable_2 (10 + 1) 0 ztable_2) = (l_X8_kept_62 nw ch tb ka zchange_2 ztable_2 (n62 + 1) kb ztable_62) → va_P D vwCl [(ta, .inr (8, [.ref m_now, .ref m_undone, .ref m_slots, .ref m_slotKind, .ref m_hasSlot, .ref m_sheetBits, .ref m_sheetSize, .ref m_sheets, .int (nI u), .int fi, .ref m_fresh, .long aa, .long bb, .long dd, .int (nI ro), .ref m_rootWhich, .int db, .ref m_signs, .ref m_atNought, .int (nI mn), .ref m_change, .ref m_table, .ref m_carried])), (m_now, .inl (cy 0, 29, .inl nw)), (m_change, .inl (cy 1, 10, .inr (.inl (f_X8_changes nw zchange_2 (if (nI ka) = 0 then 1 else 0) (if (nI ka) = 1 then 1 else 0) (if (nI ka) = 2 then 1 else 0) (if (nI ka) = 3 then 1 else 0) (if (nI ka) = 4 then 1 else 0))))), (m_table, .inl (cy 1, 50, .inr (.inl ztable_62)))] H → va_D A [(ta, .inr (8, [.ref m_now, .ref m_undone, .ref m_slots, .ref m_slotKind, .ref m_hasSlot, .ref m_sheetBits, .ref m_sheetSize, .ref m_sheets, .int (nI u), .int fi, .ref m_fresh, .long aa, .long bb, .long dd, .int (nI ro), .ref m_rootWhich, .int db, .ref m_signs, .ref m_atNought, .int (nI mn), .ref m_change, .ref m_table, .ref m_carried])), (m_now, .inl (cy 0, 29, .inl nw)), (m_change, .inl (cy 1, 10, .inr (.inl (f_X8_changes nw zchange_2 (if (nI ka) = 0 then 1 else 0) (if (nI ka) = 1 then 1 else 0) (if (nI ka) = 2 then 1 else 0) (if (nI ka) = 3 then 1 else 0) (if (nI ka) = 4 then 1 else 0))))), (m_table, .inl (cy 1, 50, .inr (.inl ztable_62)))] → va_S A s.heap H locs → lv_has ls 12 [(0, .ref ta), (1, .int (nI ka)), (2, .int (nI kb))] → W p l e R s m args below meth c H locs 0 0 Q (F0 m 62 ls []) := by
                    clear hP hD hS hl
                    intro M9
                    induction M9 with
                    | zero => intro n62 kb _ _ _ _ hn; exact absurd hn (Nat.not_lt_zero _)
                    | succ M9 ih62 =>
                      intro n62 kb ztable_62 H locs ls hn62 hk62 hV62 hP hD hS hl
                      refine lv_iload_n hx hb dX8_kept_62 rfl (lv_at hl 2 rfl) ?_
                      refine lv_bipush (v := 10) hx hb dX8_kept_63 (by decide) ?_
                      refine lv_icmp_ge (tgt := 91) hx hb dX8_kept_65 (by decide) (fun hc37 => ?_) (fun hc37 => ?_)
                      · replace hV62 := hV62.trans (if_pos hc37)
                        have hV62 : (l_X8_kept_62 nw ch tb ka zchange_2 ztable_2 (10 + 1) 0 ztable_2) = ztable_62 := hV62
                        have J38 := J38
                        rw [hV62] at J38
                        exact J38 _ _ _ hP hD hS (lv_sub hl [0, 1] rfl)
                      · replace hV62 := hV62.trans (if_neg hc37)
                        have hlt62 : kb < 10 := yk_lt hk62 (by omega) hc37
                        refine lv_aload_n hx hb dX8_kept_68 rfl (lv_at hl 0 rfl) ?_
                        refine va_get (D := D) (ci := 8) (v := .ref m_table) (C := RX8) (T := TX8) (N := 23) hx hb hts uX8_kept_X8 hown hK hP 0 rfl rfl 21 (by decide) (hts _ kX8_kept_0) (fun _ h9 => h9) rfl dX8_kept_69 ?_
                        refine lv_bipush (v := 10) hx hb dX8_kept_72 (by decide) ?_
                        refine lv_iload_n hx hb dX8_kept_74 rfl (lv_at hl 1 rfl) ?_
                        refine lv_imul hx hb dX8_kept_75 ?_
                        refine yk_ti (y := nI (10 * ka)) (pk_mul 10 ka) ?_
                        refine lv_iload_n hx hb dX8_kept_76 rfl (lv_at hl 2 rfl) ?_
                        refine lv_iadd hx hb dX8_kept_77 ?_
                        refine yk_ti (y := nI ((10 * ka) + kb)) (nI_add (10 * ka) kb) ?_
                        refine lv_aload_n hx hb dX8_kept_78 rfl (lv_at hl 0 rfl) ?_
                        refine va_get (D := D) (ci := 8) (v := .ref m_change) (C := RX8) (T := TX8) (N := 23) hx hb hts uX8_kept_X8 hown hK hP 0 rfl rfl 20 (by decide) (hts _ kX8_kept_1) (fun _ h9 => h9) rfl dX8_kept_79 ?_
                        refine lv_iload_n hx hb dX8_kept_82 rfl (lv_at hl 2 rfl) ?_
                        refine yk_lld hx hb hK hP 2 1 rfl rfl kb (by omega) (by decide) dX8_kept_83 ?_
                        refine yk_lst hx hb hK hP hD hS 3 1 rfl rfl ((10 * ka) + kb) (by omega) (by decide) dX8_kept_84 (fun H locs hP9 hD9 hS9 => ?_)
                        replace hP : va_P D vwCl [(ta, .inr (8, [.ref m_now, .ref m_undone, .ref m_slots, .ref m_slotKind, .ref m_hasSlot, .ref m_sheetBits, .ref m_sheetSize, .ref m_sheets, .int (nI u), .int fi, .ref m_fresh, .long aa, .long bb, .long dd, .int (nI ro), .ref m_rootWhich, .int db, .ref m_signs, .ref m_atNought, .int (nI mn), .ref m_change, .ref m_table, .ref m_carried])), (m_now, .inl (cy 0, 29, .inl nw)), (m_change, .inl (cy 1, 10, .inr (.inl (f_X8_changes nw zchange_2 (if (nI ka) = 0 then 1 else 0) (if (nI ka) = 1 then 1 else 0) (if (nI ka) = 2 then 1 else 0) (if (nI ka) = 3 then 1 else 0) (if (nI ka) = 4 then 1 else 0))))), (m_table, .inl (cy 1, 50, .inr (.inl (vp_updL ztable_62 ((10 * ka) + kb) ((f_X8_changes nw zchange_2 (if (nI ka) = 0 then 1 else 0) (if (nI ka) = 1 then 1 else 0) (if (nI ka) = 2 then 1 else 0) (if (nI ka) = 3 then 1 else 0) (if (nI ka) = 4 then 1 else 0)) kb)))))] H := hP9
                        replace hD : va_D A [(ta, .inr (8, [.ref m_now, .ref m_undone, .ref m_slots, .ref m_slotKind, .ref m_hasSlot, .ref m_sheetBits, .ref m_sheetSize, .ref m_sheets, .int (nI u), .int fi, .ref m_fresh, .long aa, .long bb, .long dd, .int (nI ro), .ref m_rootWhich, .int db, .ref m_signs, .ref m_atNought, .int (nI mn), .ref m_change, .ref m_table, .ref m_carried])), (m_now, .inl (cy 0, 29, .inl nw)), (m_change, .inl (cy 1, 10, .inr (.inl (f_X8_changes nw zchange_2 (if (nI ka) = 0 then 1 else 0) (if (nI ka) = 1 then 1 else 0) (if (nI ka) = 2 then 1 else 0) (if (nI ka) = 3 then 1 else 0) (if (nI ka) = 4 then 1 else 0))))), (m_table, .inl (cy 1, 50, .inr (.inl (vp_updL ztable_62 ((10 * ka) + kb) ((f_X8_changes nw zchange_2 (if (nI ka) = 0 then 1 else 0) (if (nI ka) = 1 then 1 else 0) (if (nI ka) = 2 then 1 else 0) (if (nI ka) = 3 then 1 else 0) (if (nI ka) = 4 then 1 else 0)) kb)))))] := hD9
                        replace hS := hS9
                        clear hP9 hD9 hS9
                        refine lv_iinc (v := nI (kb + 1)) (lv' := [(2, .int (nI (kb + 1))), (0, .ref ta), (1, .int (nI ka))]) hx hb dX8_kept_85 hl (k := 2) rfl (yk_inc kb) (by decide) rfl (fun ls hl9 => ?_)
                        replace hl := hl9
                        clear hl9
                        refine lv_goto (tgt := 62) hx hb dX8_kept_88 (by decide) ?_
                        obtain ⟨n9, rfl⟩ : ∃ n9, n62 = n9 + 1 := ⟨n62 - 1, by omega⟩
                        exact ih62 n9 (kb + 1) (vp_updL ztable_62 ((10 * ka) + kb) ((f_X8_changes nw zchange_2 (if (nI ka) = 0 then 1 else 0) (if (nI ka) = 1 then 1 else 0) (if (nI ka) = 2 then 1 else 0) (if (nI ka) = 3 then 1 else 0) (if (nI ka) = 4 then 1 else 0)) kb)) _ _ _ (by omega) (by omega)  hV62 hP hD hS (lv_sub hl [1, 2, 0] rfl)
                  exact L62 (10 + 1) 10 0 ztable_2 _ _ _ (Nat.lt_succ_self _) (by omega)  rfl hP hD hS (lv_sub hl [1, 2, 0] rfl)
                refine lv_icmp_ne (tgt := 56) hx hb dX8_kept_49 (by decide) (fun hc33 => ?_) (fun hc33 => ?_)
                · refine lv_iconst (v := 0) hx hb dX8_kept_56 (by decide) ?_
                  exact J35 _ _ _ _ ((if_neg hc33).symm) hP hD hS (lv_sub hl [0, 1] rfl)
                · refine lv_iconst (v := 1) hx hb dX8_kept_52 (by decide) ?_
                  refine lv_goto (tgt := 57) hx hb dX8_kept_53 (by decide) ?_
                  exact J35 _ _ _ _ ((if_pos hc33).symm) hP hD hS (lv_sub hl [0, 1] rfl)
              refine lv_icmp_ne (tgt := 46) hx hb dX8_kept_39 (by decide) (fun hc30 => ?_) (fun hc30 => ?_)
              · refine lv_iconst (v := 0) hx hb dX8_kept_46 (by decide) ?_
                exact J32 _ _ _ _ ((if_neg hc30).symm) hP hD hS (lv_sub hl [0, 1] rfl)
              · refine lv_iconst (v := 1) hx hb dX8_kept_42 (by decide) ?_
                refine lv_goto (tgt := 47) hx hb dX8_kept_43 (by decide) ?_
                exact J32 _ _ _ _ ((if_pos hc30).symm) hP hD hS (lv_sub hl [0, 1] rfl)
            refine lv_icmp_ne (tgt := 36) hx hb dX8_kept_29 (by decide) (fun hc27 => ?_) (fun hc27 => ?_)
            · refine lv_iconst (v := 0) hx hb dX8_kept_36 (by decide) ?_
              exact J29 _ _ _ _ ((if_neg hc27).symm) hP hD hS (lv_sub hl [0, 1] rfl)
            · refine lv_iconst (v := 1) hx hb dX8_kept_32 (by decide) ?_
              refine lv_goto (tgt := 37) hx hb dX8_kept_33 (by decide) ?_
              exact J29 _ _ _ _ ((if_pos hc27).symm) hP hD hS (lv_sub hl [0, 1] rfl)
          refine lv_icmp_ne (tgt := 26) hx hb dX8_kept_19 (by decide) (fun hc24 => ?_) (fun hc24 => ?_)
          · refine lv_iconst (v := 0) hx hb dX8_kept_26 (by decide) ?_
            exact J26 _ _ _ _ ((if_neg hc24).symm) hP hD hS (lv_sub hl [0, 1] rfl)
          · refine lv_iconst (v := 1) hx hb dX8_kept_22 (by decide) ?_
            refine lv_goto (tgt := 27) hx hb dX8_kept_23 (by decide) ?_
            exact J26 _ _ _ _ ((if_pos hc24).symm) hP hD hS (lv_sub hl [0, 1] rfl)
        refine lv_if_ne (tgt := 16) hx hb dX8_kept_9 (by decide) (fun hc21 => ?_) (fun hc21 => ?_)
        · refine lv_iconst (v := 0) hx hb dX8_kept_16 (by decide) ?_
          exact J23 _ _ _ _ ((if_neg hc21).symm) hP hD hS (lv_sub hl [0, 1] rfl)
        · refine lv_iconst (v := 1) hx hb dX8_kept_12 (by decide) ?_
          refine lv_goto (tgt := 17) hx hb dX8_kept_13 (by decide) ?_
          exact J23 _ _ _ _ ((if_pos hc21).symm) hP hD hS (lv_sub hl [0, 1] rfl)
  exact L2 (5 + 1) 5 0 ch tb _ _ _ (Nat.lt_succ_self _) (by omega)  rfl hP hD hS (lv_sub hl [1, 0] rfl)
