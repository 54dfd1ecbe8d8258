
theorem kX7_clearChange_0 : Cond.fieldLink RX7 61 "FlowPlane" "change" "[I" ∈ wsX7_clearChange := by decide +kernel
theorem uX7_clearChange_X7 : ∀ w ∈ u_ws RX7 TX7 13, w ∈ wsX7_clearChange := by decide +kernel
def l_X7_clearChange_2 (ch : Nat → Int32) : Nat → Nat → (Nat → Int32) → (Nat → Int32)
  | 0, ki, zC_2 => zC_2
  | fu_X7_clearChange_2 + 1, ki, zC_2 => (if 10 ≤ (nI ki) then zC_2 else (l_X7_clearChange_2 ch fu_X7_clearChange_2 (ki + 1) (upd zC_2 ki 0)))
def f_X7_clearChange (ch : Nat → Int32) : (Nat → Int32) := (l_X7_clearChange_2 ch (10 + 1) 0 ch)
set_option maxHeartbeats 400000000 in
set_option maxRecDepth 100000 in
theorem c_X7_clearChange (l : Launch) (D : va_G) (cy : Nat → ClassId) (ta : Nat) (ca : Nat) (a_flow : Nat) (a_draft : Nat) (a_fence : Nat) (a_past : Nat) (a_slots : Nat) (a_slotKinds : Nat) (a_sheets : Nat) (a_speedX : Nat) (a_speedY : Nat) (a_leftward : Nat) (a_table : Nat) (ch : Nat → Int32) (fi : Int32) : yk_Cv l D vwCl (yk_ty cy) yX7_clearChange wsX7_clearChange 0 0 [.ref ta] [(ta, .inr (7, [.ref a_flow, .ref a_draft, .ref a_fence, .ref a_past, .ref a_slots, .ref a_slotKinds, .ref a_sheets, .ref a_speedX, .ref a_speedY, .ref a_leftward, .ref ca, .ref a_table, .int fi])), (ca, .inl (cy 0, 10, .inl ch))] [(ta, .inr (7, [.ref a_flow, .ref a_draft, .ref a_fence, .ref a_past, .ref a_slots, .ref a_slotKinds, .ref a_sheets, .ref a_speedX, .ref a_speedY, .ref a_leftward, .ref ca, .ref a_table, .int fi])), (ca, .inl (cy 0, 10, .inl (f_X7_clearChange ch)))] := by
  refine yk_eV (cc := cX7_clearChange) (maxL := 2) (by decide) rfl (Nat.le_of_ble_eq_true rfl) ?_
  intro p e R s m args below meth c A Q ls H locs hx hb hml hown hts hRf hRl hA hK hG hP hD hS hl hQ
  have hP : va_P D vwCl [(ta, .inr (7, [.ref a_flow, .ref a_draft, .ref a_fence, .ref a_past, .ref a_slots, .ref a_slotKinds, .ref a_sheets, .ref a_speedX, .ref a_speedY, .ref a_leftward, .ref ca, .ref a_table, .int fi])), (ca, .inl (cy 0, 10, .inl ch))] H := hP
  have hl : lv_has ls 2 [(0, .ref ta)] := hl
  have hown : s.vm.findClass RX7 = some m.cls := hown
  have hF : (f_X7_clearChange ch) = (f_X7_clearChange ch) := rfl
  refine lv_iconst (v := 0) hx hb dX7_clearChange_0 (by decide) ?_
  refine lv_istore_n (lv' := [(1, .int 0), (0, .ref ta)]) hx hb dX7_clearChange_1 rfl hl (by decide) rfl (fun ls hl9 => ?_)
  replace hl := hl9
  clear hl9
  have J3 : ∀ (H : Heap) (locs : List Loc) (ls : Array Slot), va_P D vwCl [(ta, .inr (7, [.ref a_flow, .ref a_draft, .ref a_fence, .ref a_past, .ref a_slots, .ref a_slotKinds, .ref a_sheets, .ref a_speedX, .ref a_speedY, .ref a_leftward, .ref ca, .ref a_table, .int fi])), (ca, .inl (cy 0, 10, .inl (l_X7_clearChange_2 ch (10 + 1) 0 ch)))] H → va_D A [(ta, .inr (7, [.ref a_flow, .ref a_draft, .ref a_fence, .ref a_past, .ref a_slots, .ref a_slotKinds, .ref a_sheets, .ref a_speedX, .ref a_speedY, .ref a_leftward, .ref ca, .ref a_table, .int fi])), (ca, .inl (cy 0, 10, .inl (l_X7_clearChange_2 ch (10 + 1) 0 ch)))] → va_S A s.heap H locs → lv_has ls 2 [(0, .ref ta)] → W p l e R s m args below meth c H locs 0 0 Q (F0 m 21 ls []) := by
    clear hP hD hS hl
    intro H locs ls hP hD hS hl
    have hF : f_X7_clearChange ch = (l_X7_clearChange_2 ch (10 + 1) 0 ch) := hF
    rw [hF] at hQ
    exact hQ _ _ _ _ dX7_clearChange_21 hP hS
  have L2 : ∀ (M9 n2 ki : Nat) (zC_2 : Nat → Int32) (H : Heap) (locs : List Loc) (ls : Array Slot), n2 < M9 → ki + n2 = 10 → (l_X7_clearChange_2 ch (10 + 1) 0 ch) = (l_X7_clearChange_2 ch (n2 + 1) ki zC_2) → va_P D vwCl [(ta, .inr (7, [.ref a_flow, .ref a_draft, .ref a_fence, .ref a_past, .ref a_slots, .ref a_slotKinds, .ref a_sheets, .ref a_speedX, .ref a_speedY, .ref a_leftward, .ref ca, .ref a_table, .int fi])), (ca, .inl (cy 0, 10, .inl zC_2))] H → va_D A [(ta, .inr (7, [.ref a_flow, .ref a_draft, .ref a_fence, .ref a_past, .ref a_slots, .ref a_slotKinds, .ref a_sheets, .ref a_speedX, .ref a_speedY, .ref a_leftward, .ref ca, .ref a_table, .int fi])), (ca, .inl (cy 0, 10, .inl zC_2))] → va_S A s.heap H locs → lv_has ls 2 [(0, .ref ta), (1, .int (nI ki))] → W p l e R s m args below meth c H locs 0 0 Q (F0 m 2 ls []) := by
    clear hP hD hS hl
    intro M9
    induction M9 with
    | zero => intro n2 ki _ _ _ _ hn; exact absurd hn (Nat.not_lt_zero _)
    | succ M9 ih2 =>
      intro n2 ki zC_2 H locs ls hn2 hk2 hV2 hP hD hS hl
      refine lv_iload_n hx hb dX7_clearChange_2 rfl (lv_at hl 1 rfl) ?_
      refine lv_bipush (v := 10) hx hb dX7_clearChange_3 (by decide) ?_
      refine lv_icmp_ge (tgt := 21) hx hb dX7_clearChange_5 (by decide) (fun hc2 => ?_) (fun hc2 => ?_)
      · replace hV2 := hV2.trans (if_pos hc2)
        have hV2 : (l_X7_clearChange_2 ch (10 + 1) 0 ch) = zC_2 := hV2
        have J3 := J3
        rw [hV2] at J3
        exact J3 _ _ _ hP hD hS (lv_sub hl [0] rfl)
      · replace hV2 := hV2.trans (if_neg hc2)
        have hlt2 : ki < 10 := yk_lt hk2 (by omega) hc2
        refine lv_aload_n hx hb dX7_clearChange_8 rfl (lv_at hl 0 rfl) ?_
        refine va_get (D := D) (ci := 7) (v := .ref ca) (C := RX7) (T := TX7) (N := 13) hx hb hts uX7_clearChange_X7 hown hK hP 0 rfl rfl 10 (by decide) (hts _ kX7_clearChange_0) (fun _ h9 => h9) rfl dX7_clearChange_9 ?_
        refine lv_iload_n hx hb dX7_clearChange_12 rfl (lv_at hl 1 rfl) ?_
        refine lv_iconst (v := 0) hx hb dX7_clearChange_13 (by decide) ?_
        refine yk_ist hx hb hK hP hD hS 1 0 rfl rfl ki (by omega) (by decide) dX7_clearChange_14 (fun H locs hP9 hD9 hS9 => ?_)
        replace hP : va_P D vwCl [(ta, .inr (7, [.ref a_flow, .ref a_draft, .ref a_fence, .ref a_past, .ref a_slots, .ref a_slotKinds, .ref a_sheets, .ref a_speedX, .ref a_speedY, .ref a_leftward, .ref ca, .ref a_table, .int fi])), (ca, .inl (cy 0, 10, .inl (upd zC_2 ki 0)))] H := hP9
        replace hD : va_D A [(ta, .inr (7, [.ref a_flow, .ref a_draft, .ref a_fence, .ref a_past, .ref a_slots, .ref a_slotKinds, .ref a_sheets, .ref a_speedX, .ref a_speedY, .ref a_leftward, .ref ca, .ref a_table, .int fi])), (ca, .inl (cy 0, 10, .inl (upd zC_2 ki 0)))] := hD9
        replace hS := hS9
        clear hP9 hD9 hS9
        refine lv_iinc (v := nI (ki + 1)) (lv' := [(1, .int (nI (ki + 1))), (0, .ref ta)]) hx hb dX7_clearChange_15 hl (k := 1) rfl (yk_inc ki) (by decide) rfl (fun ls hl9 => ?_)
        replace hl := hl9
        clear hl9
        refine lv_goto (tgt := 2) hx hb dX7_clearChange_18 (by decide) ?_
        obtain ⟨n9, rfl⟩ : ∃ n9, n2 = n9 + 1 := ⟨n2 - 1, by omega⟩
        exact ih2 n9 (ki + 1) (upd zC_2 ki 0) _ _ _ (by omega) (by omega)  hV2 hP hD hS (lv_sub hl [1, 0] rfl)
  exact L2 (10 + 1) 10 0 ch _ _ _ (Nat.lt_succ_self _) (by omega)  rfl hP hD hS (lv_sub hl [1, 0] rfl)

theorem kX7_addChange_0 : Cond.fieldLink RX7 96 "FlowPlane$Polynomial" "numbers" "[I" ∈ wsX7_addChange := by decide +kernel
theorem kX7_addChange_1 : Cond.fieldLink RX7 61 "FlowPlane" "change" "[I" ∈ wsX7_addChange := by decide +kernel
theorem kX7_addChange_2 : Cond.fieldLink RX7 326 "FlowPlane" "TIMES_X" "[I" ∈ wsX7_addChange := by decide +kernel
theorem kX7_addChange_3 : Cond.fieldLink RX7 329 "FlowPlane" "TIMES_Y" "[I" ∈ wsX7_addChange := by decide +kernel
theorem uX7_addChange_X3 : ∀ w ∈ u_ws RX3 TX3 1, w ∈ wsX7_addChange := by decide +kernel
theorem uX7_addChange_X7 : ∀ w ∈ u_ws RX7 TX7 13, w ∈ wsX7_addChange := by decide +kernel
def l_X7_addChange_3 (ch : Nat → Int32) (gu : Nat → Int32) (px : Int32) (py : Int32) (pz : Int32) : Nat → Nat → (Nat → Int32) → (Nat → Int32)
  | 0, ki, zC_3 => zC_3
  | fu_X7_addChange_3 + 1, ki, zC_3 => (if 6 ≤ (nI ki) then zC_3 else (l_X7_addChange_3 ch gu px py pz fu_X7_addChange_3 (ki + 1) (upd (upd (upd zC_3 ki ((zC_3 ki) + (px * (gu ki)))) (yk_TX ki) (((upd zC_3 ki ((zC_3 ki) + (px * (gu ki)))) (yk_TX ki)) + (py * (gu ki)))) (yk_TY ki) (((upd (upd zC_3 ki ((zC_3 ki) + (px * (gu ki)))) (yk_TX ki) (((upd zC_3 ki ((zC_3 ki) + (px * (gu ki)))) (yk_TX ki)) + (py * (gu ki)))) (yk_TY ki)) + (pz * (gu ki))))))
def f_X7_addChange (ch : Nat → Int32) (gu : Nat → Int32) (px : Int32) (py : Int32) (pz : Int32) : (Nat → Int32) := (l_X7_addChange_3 ch gu px py pz (6 + 1) 0 ch)
set_option maxHeartbeats 400000000 in
set_option maxRecDepth 100000 in
theorem c_X7_addChange (l : Launch) (D : va_G) (cy : Nat → ClassId) (ta : Nat) (ca : Nat) (oa : Nat) (oan : Nat) (a_flow : Nat) (a_draft : Nat) (a_fence : Nat) (a_past : Nat) (a_slots : Nat) (a_slotKinds : Nat) (a_sheets : Nat) (a_speedX : Nat) (a_speedY : Nat) (a_leftward : Nat) (a_table : Nat) (ch : Nat → Int32) (fi : Int32) (gu : Nat → Int32) (px : Int32) (py : Int32) (pz : Int32) : yk_Cv l D vwCl (yk_ty cy) yX7_addChange wsX7_addChange 0 0 [.ref ta, .ref oa, .int px, .int py, .int pz] [(ta, .inr (7, [.ref a_flow, .ref a_draft, .ref a_fence, .ref a_past, .ref a_slots, .ref a_slotKinds, .ref a_sheets, .ref a_speedX, .ref a_speedY, .ref a_leftward, .ref ca, .ref a_table, .int fi])), (ca, .inl (cy 0, 10, .inl ch)), (oa, .inr (3, [.ref oan])), (oan, .inl (cy 0, 6, .inl gu))] [(ta, .inr (7, [.ref a_flow, .ref a_draft, .ref a_fence, .ref a_past, .ref a_slots, .ref a_slotKinds, .ref a_sheets, .ref a_speedX, .ref a_speedY, .ref a_leftward, .ref ca, .ref a_table, .int fi])), (ca, .inl (cy 0, 10, .inl (f_X7_addChange ch gu px py pz))), (oa, .inr (3, [.ref oan])), (oan, .inl (cy 0, 6, .inl gu))] := by
  refine yk_eV (cc := cX7_addChange) (maxL := 7) (by decide) rfl (Nat.le_of_ble_eq_true rfl) ?_
  intro p e R s m args below meth c A Q ls H locs hx hb hml hown hts hRf hRl hA hK hG hP hD hS hl hQ
  have hP : va_P D vwCl [(ta, .inr (7, [.ref a_flow, .ref a_draft, .ref a_fence, .ref a_past, .ref a_slots, .ref a_slotKinds, .ref a_sheets, .ref a_speedX, .ref a_speedY, .ref a_leftward, .ref ca, .ref a_table, .int fi])), (ca, .inl (cy 0, 10, .inl ch)), (oa, .inr (3, [.ref oan])), (oan, .inl (cy 0, 6, .inl gu))] H := hP
  have hl : lv_has ls 7 [(0, .ref ta), (1, .ref oa), (2, .int px), (3, .int py), (4, .int pz)] := hl
  have hown : s.vm.findClass RX7 = some m.cls := hown
  obtain ⟨⟨tq1, hZ1, hT1⟩, ⟨tq2, hZ2, hT2⟩, ⟨tq3, hZ3, hT3⟩, hNw⟩ := id hG
  have hF : (f_X7_addChange ch gu px py pz) = (f_X7_addChange ch gu px py pz) := rfl
  refine lv_iconst (v := 0) hx hb dX7_addChange_0 (by decide) ?_
  refine lv_istore (lv' := [(5, .int 0), (0, .ref ta), (1, .ref oa), (2, .int px), (3, .int py), (4, .int pz)]) hx hb dX7_addChange_1 hl (by decide) rfl (fun ls hl9 => ?_)
  replace hl := hl9
  clear hl9
  have J3 : ∀ (H : Heap) (locs : List Loc) (ls : Array Slot), va_P D vwCl [(ta, .inr (7, [.ref a_flow, .ref a_draft, .ref a_fence, .ref a_past, .ref a_slots, .ref a_slotKinds, .ref a_sheets, .ref a_speedX, .ref a_speedY, .ref a_leftward, .ref ca, .ref a_table, .int fi])), (ca, .inl (cy 0, 10, .inl (l_X7_addChange_3 ch gu px py pz (6 + 1) 0 ch))), (oa, .inr (3, [.ref oan])), (oan, .inl (cy 0, 6, .inl gu))] H → va_D A [(ta, .inr (7, [.ref a_flow, .ref a_draft, .ref a_fence, .ref a_past, .ref a_slots, .ref a_slotKinds, .ref a_sheets, .ref a_speedX, .ref a_speedY, .ref a_leftward, .ref ca, .ref a_table, .int fi])), (ca, .inl (cy 0, 10, .inl (l_X7_addChange_3 ch gu px py pz (6 + 1) 0 ch))), (oa, .inr (3, [.ref oan])), (oan, .inl (cy 0, 6, .inl gu))] → va_S A s.heap H locs → lv_has ls 7 [(0, .ref ta), (1, .ref oa), (2, .int px), (3, .int py), (4, .int pz)] → W p l e R s m args below meth c H locs 0 0 Q (F0 m 76 ls []) := by
    clear hP hD hS hl
    intro H locs ls hP hD hS hl
    have hF : f_X7_addChange ch gu px py pz = (l_X7_addChange_3 ch gu px py pz (6 + 1) 0 ch) := hF
    rw [hF] at hQ
    exact hQ _ _ _ _ dX7_addChange_76 hP hS
  have L3 : ∀ (M9 n3 ki : Nat) (zC_3 : Nat → Int32) (H : Heap) (locs : List Loc) (ls : Array Slot), n3 < M9 → ki + n3 = 6 → (l_X7_addChange_3 ch gu px py pz (6 + 1) 0 ch) = (l_X7_addChange_3 ch gu px py pz (n3 + 1) ki zC_3) → va_P D vwCl [(ta, .inr (7, [.ref a_flow, .ref a_draft, .ref a_fence, .ref a_past, .ref a_slots, .ref a_slotKinds, .ref a_sheets, .ref a_speedX, .ref a_speedY, .ref a_leftward, .ref ca, .ref a_table, .int fi])), (ca, .inl (cy 0, 10, .inl zC_3)), (oa, .inr (3, [.ref oan])), (oan, .inl (cy 0, 6, .inl gu))] H → va_D A [(ta, .inr (7, [.ref a_flow, .ref a_draft, .ref a_fence, .ref a_past, .ref a_slots, .ref a_slotKinds, .ref a_sheets, .ref a_speedX, .ref a_speedY, .ref a_leftward, .ref ca, .ref a_table, .int fi])), (ca, .inl (cy 0, 10, .inl zC_3)), (oa, .inr (3, [.ref oan])), (oan, .inl (cy 0, 6, .inl gu))] → va_S A s.heap H locs → lv_has ls 7 [(0, .ref ta), (1, .ref oa), (2, .int px), (3, .int py), (4, .int pz), (5, .int (nI ki))] → W p l e R s m args below meth c H locs 0 0 Q (F0 m 3 ls []) := by
    clear hP hD hS hl
    intro M9
    induction M9 with
    | zero => intro n3 ki _ _ _ _ hn; exact absurd hn (Nat.not_lt_zero _)
    | succ M9 ih3 =>
      intro n3 ki zC_3 H locs ls hn3 hk3 hV3 hP hD hS hl
      refine lv_iload hx hb dX7_addChange_3 (lv_at hl 5 rfl) ?_
      refine lv_bipush (v := 6) hx hb dX7_addChange_5 (by decide) ?_
      refine lv_icmp_ge (tgt := 76) hx hb dX7_addChange_7 (by decide) (fun hc2 => ?_) (fun hc2 => ?_)
      · replace hV3 := hV3.trans (if_pos hc2)
        have hV3 : (l_X7_addChange_3 ch gu px py pz (6 + 1) 0 ch) = zC_3 := hV3
        have J3 := J3
        rw [hV3] at J3
        exact J3 _ _ _ hP hD hS (lv_sub hl [0, 1, 2, 3, 4] rfl)
      · replace hV3 := hV3.trans (if_neg hc2)
        have hlt3 : ki < 6 := yk_lt hk3 (by omega) hc2
        refine lv_aload_n hx hb dX7_addChange_10 rfl (lv_at hl 1 rfl) ?_
        refine va_get (D := D) (ci := 3) (v := .ref oan) (C := RX3) (T := TX3) (N := 1) hx hb hts uX7_addChange_X3 hown hK hP 2 rfl rfl 0 (by decide) (hts _ kX7_addChange_0) (fun _ h9 => h9) rfl dX7_addChange_11 ?_
        refine lv_iload hx hb dX7_addChange_14 (lv_at hl 5 rfl) ?_
        refine yk_ild hx hb hK hP 3 0 rfl rfl ki (by omega) (by decide) dX7_addChange_16 ?_
        refine lv_istore (lv' := [(6, .int (gu ki)), (0, .ref ta), (1, .ref oa), (2, .int px), (3, .int py), (4, .int pz), (5, .int (nI ki))]) hx hb dX7_addChange_17 hl (by decide) rfl (fun ls hl9 => ?_)
        replace hl := hl9
        clear hl9
        refine lv_aload_n hx hb dX7_addChange_19 rfl (lv_at hl 1 rfl) ?_
        refine va_get (D := D) (ci := 7) (v := .ref ca) (C := RX7) (T := TX7) (N := 13) hx hb hts uX7_addChange_X7 hown hK hP 0 rfl rfl 10 (by decide) (hts _ kX7_addChange_1) (fun _ h9 => h9) rfl dX7_addChange_20 ?_
        refine lv_iload hx hb dX7_addChange_23 (lv_at hl 6 rfl) ?_
        refine lv_dup2_11 hx hb dX7_addChange_25 rfl rfl ?_
        refine yk_ild hx hb hK hP 1 0 rfl rfl ki (by omega) (by decide) dX7_addChange_26 ?_
        refine lv_iload_n hx hb dX7_addChange_27 rfl (lv_at hl 3 rfl) ?_
        refine lv_iload hx hb dX7_addChange_28 (lv_at hl 0 rfl) ?_
        refine lv_imul hx hb dX7_addChange_30 ?_
        refine lv_iadd hx hb dX7_addChange_31 ?_
        refine yk_ist hx hb hK hP hD hS 1 0 rfl rfl ki (by omega) (by decide) dX7_addChange_32 (fun H locs hP9 hD9 hS9 => ?_)
        replace hP : va_P D vwCl [(ta, .inr (7, [.ref a_flow, .ref a_draft, .ref a_fence, .ref a_past, .ref a_slots, .ref a_slotKinds, .ref a_sheets, .ref a_speedX, .ref a_speedY, .ref a_leftward, .ref ca, .ref a_table, .int fi])), (ca, .inl (cy 0, 10, .inl (upd zC_3 ki ((zC_3 ki) + (px * (gu ki)))))), (oa, .inr (3, [.ref oan])), (oan, .inl (cy 0, 6, .inl gu))] H := hP9
        replace hD : va_D A [(ta, .inr (7, [.ref a_flow, .ref a_draft, .ref a_fence, .ref a_past, .ref a_slots, .ref a_slotKinds, .ref a_sheets, .ref a_speedX, .ref a_speedY, .ref a_leftward, .ref ca, .ref a_table, .int fi])), (ca, .inl (cy 0, 10, .inl (upd zC_3 ki ((zC_3 ki) + (px * (gu ki)))))), (oa, .inr (3, [.ref oan])), (oan, .inl (cy 0, 6, .inl gu))] := hD9
        replace hS := hS9
        clear hP9 hD9 hS9
        refine lv_aload_n hx hb dX7_addChange_33 rfl (lv_at hl 1 rfl) ?_
        refine va_get (D := D) (ci := 7) (v := .ref ca) (C := RX7) (T := TX7) (N := 13) hx hb hts uX7_addChange_X7 hown hK hP 0 rfl rfl 10 (by decide) (hts _ kX7_addChange_1) (fun _ h9 => h9) rfl dX7_addChange_34 ?_
        refine va_gets hx hb hZ1 hS hown (hts _ kX7_addChange_2) (fun _ h9 => h9) dX7_addChange_37 ?_
        refine lv_iload hx hb dX7_addChange_40 (lv_at hl 6 rfl) ?_
        refine yk_tld hx hb hT1 hS ki (by omega) (by decide) (yk_tx (by omega)) dX7_addChange_42 ?_
        refine lv_dup2_11 hx hb dX7_addChange_43 rfl rfl ?_
        refine yk_ild hx hb hK hP 1 0 rfl rfl (yk_TX ki) (yk_txb hlt3) (by decide) dX7_addChange_44 ?_
        refine lv_iload_n hx hb dX7_addChange_45 rfl (lv_at hl 4 rfl) ?_
        refine lv_iload hx hb dX7_addChange_46 (lv_at hl 0 rfl) ?_
        refine lv_imul hx hb dX7_addChange_48 ?_
        refine lv_iadd hx hb dX7_addChange_49 ?_
        refine yk_ist hx hb hK hP hD hS 1 0 rfl rfl (yk_TX ki) (yk_txb hlt3) (by decide) dX7_addChange_50 (fun H locs hP9 hD9 hS9 => ?_)
        replace hP : va_P D vwCl [(ta, .inr (7, [.ref a_flow, .ref a_draft, .ref a_fence, .ref a_past, .ref a_slots, .ref a_slotKinds, .ref a_sheets, .ref a_speedX, .ref a_speedY, .ref a_leftward, .ref ca, .ref a_table, .int fi])), (ca, .inl (cy 0, 10, .inl (upd (upd zC_3 ki ((zC_3 ki) + (px * (gu ki)))) (yk_TX ki) (((upd zC_3 ki ((zC_3 ki) + (px * (gu ki)))) (yk_TX ki)) + (py * (gu ki)))))), (oa, .inr (3, [.ref oan])), (oan, .inl (cy 0, 6, .inl gu))] H := hP9
        replace hD : va_D A [(ta, .inr (7, [.ref a_flow, .ref a_draft, .ref a_fence, .ref a_past, .ref a_slots, .ref a_slotKinds, .ref a_sheets, .ref a_speedX, .ref a_speedY, .ref a_leftward, .ref ca, .ref a_table, .int fi])), (ca, .inl (cy 0, 10, .inl (upd (upd zC_3 ki ((zC_3 ki) + (px * (gu ki)))) (yk_TX ki) (((upd zC_3 ki ((zC_3 ki) + (px * (gu ki)))) (yk_TX ki)) + (py * (gu ki)))))), (oa, .inr (3, [.ref oan])), (oan, .inl (cy 0, 6, .inl gu))] := hD9
        replace hS := hS9
        clear hP9 hD9 hS9
        refine lv_aload_n hx hb dX7_addChange_51 rfl (lv_at hl 1 rfl) ?_
        refine va_get (D := D) (ci := 7) (v := .ref ca) (C := RX7) (T := TX7) (N := 13) hx hb hts uX7_addChange_X7 hown hK hP 0 rfl rfl 10 (by decide) (hts _ kX7_addChange_1) (fun _ h9 => h9) rfl dX7_addChange_52 ?_
        refine va_gets hx hb hZ2 hS hown (hts _ kX7_addChange_3) (fun _ h9 => h9) dX7_addChange_55 ?_
        refine lv_iload hx hb dX7_addChange_58 (lv_at hl 6 rfl) ?_
        refine yk_tld hx hb hT2 hS ki (by omega) (by decide) (yk_ty' (by omega)) dX7_addChange_60 ?_
        refine lv_dup2_11 hx hb dX7_addChange_61 rfl rfl ?_
        refine yk_ild hx hb hK hP 1 0 rfl rfl (yk_TY ki) (yk_tyb hlt3) (by decide) dX7_addChange_62 ?_
        refine lv_iload hx hb dX7_addChange_63 (lv_at hl 5 rfl) ?_
        refine lv_iload hx hb dX7_addChange_65 (lv_at hl 0 rfl) ?_
        refine lv_imul hx hb dX7_addChange_67 ?_
        refine lv_iadd hx hb dX7_addChange_68 ?_
        refine yk_ist hx hb hK hP hD hS 1 0 rfl rfl (yk_TY ki) (yk_tyb hlt3) (by decide) dX7_addChange_69 (fun H locs hP9 hD9 hS9 => ?_)
        replace hP : va_P D vwCl [(ta, .inr (7, [.ref a_flow, .ref a_draft, .ref a_fence, .ref a_past, .ref a_slots, .ref a_slotKinds, .ref a_sheets, .ref a_speedX, .ref a_speedY, .ref a_leftward, .ref ca, .ref a_table, .int fi])), (ca, .inl (cy 0, 10, .inl (upd (upd (upd zC_3 ki ((zC_3 ki) + (px * (gu ki)))) (yk_TX ki) (((upd zC_3 ki ((zC_3 ki) + (px * (gu ki)))) (yk_TX ki)) + (py * (gu ki)))) (yk_TY ki) (((upd (upd zC_3 ki ((zC_3 ki) + (px * (gu ki)))) (yk_TX ki) (((upd zC_3 ki ((zC_3 ki) + (px * (gu ki)))) (yk_TX ki)) + (py * (gu ki)))) (yk_TY ki)) + (pz * (gu ki)))))), (oa, .inr (3, [.ref oan])), (oan, .inl (cy 0, 6, .inl gu))] H := hP9
        replace hD : va_D A [(ta, .inr (7, [.ref a_flow, .ref a_draft, .ref a_fence, .ref a_past, .ref a_slots, .ref a_slotKinds, .ref a_sheets, .ref a_speedX, .ref a_speedY, .ref a_leftward, .ref ca, .ref a_table, .int fi])), (ca, .inl (cy 0, 10, .inl (upd (upd (upd zC_3 ki ((zC_3 ki) + (px * (gu ki)))) (yk_TX ki) (((upd zC_3 ki ((zC_3 ki) + (px * (gu ki)))) (yk_TX ki)) + (py * (gu ki)))) (yk_TY ki) (((upd (upd zC_3 ki ((zC_3 ki) + (px * (gu ki)))) (yk_TX ki) (((upd zC_3 ki ((zC_3 ki) + (px * (gu ki)))) (yk_TX ki)) + (py * (gu ki)))) (yk_TY ki)) + (pz * (gu ki)))))), (oa, .inr (3, [.ref oan])), (oan, .inl (cy 0, 6, .inl gu))] := hD9
        replace hS := hS9
        clear hP9 hD9 hS9
        refine lv_iinc (v := nI (ki + 1)) (lv' := [(5, .int (nI (ki + 1))), (6, .int (gu ki)), (0, .ref ta), (1, .ref oa), (2, .int px), (3, .int py), (4, .int pz)]) hx hb dX7_addChange_70 hl (k := 6) rfl (yk_inc ki) (by decide) rfl (fun ls hl9 => ?_)
        replace hl := hl9
        clear hl9
        refine lv_goto (tgt := 3) hx hb dX7_addChange_73 (by decide) ?_
        obtain ⟨n9, rfl⟩ : ∃ n9, n3 = n9 + 1 := ⟨n3 - 1, by omega⟩
        exact ih3 n9 (ki + 1) (upd (upd (upd zC_3 ki ((zC_3 ki) + (px * (gu ki)))) (yk_TX ki) (((upd zC_3 ki ((zC_3 ki) + (px * (gu ki)))) (yk_TX ki)) + (py * (gu ki)))) (yk_TY ki) (((upd (upd zC_3 ki ((zC_3 ki) + (px * (gu ki)))) (yk_TX ki) (((upd zC_3 ki ((zC_3 ki) + (px * (gu ki)))) (yk_TX ki)) + (py * (gu ki)))) (yk_TY ki)) + (pz * (gu ki)))) _ _ _ (by omega) (by omega)  hV3 hP hD hS (lv_sub hl [2, 3, 4, 5, 6, 0] rfl)
  exact L3 (6 + 1) 6 0 ch _ _ _ (Nat.lt_succ_self _) (by omega)  rfl hP hD hS (lv_sub hl [1, 2, 3, 4, 5, 0] rfl)
