theorem hv_X1_lastKind : yX1_lastKind.cls = RX1 ∧ yX1_lastKind.cls ≠ "java/lang/invoke/MethodHandle" ∧ yX1_lastKind.cls ≠ "java/lang/invoke/VarHandle" ∧ (parseMethodDescriptor yX1_lastKind.desc).map (fun d => d.parameters.length) = some 0 := by decide +kernel
theorem hs_X1_lastKind : yX1_lastKind.cls ≠ "java/lang/invoke/MethodHandle" ∧ yX1_lastKind.cls ≠ "java/lang/invoke/VarHandle" ∧ (parseMethodDescriptor yX1_lastKind.desc).map (fun d => d.parameters.length) = some 0 := by decide +kernel
theorem kX7_far_0 : Cond.constant RX7 83 (-1000001) ∈ wsX7_far := by decide +kernel
theorem kX7_far_1 : Cond.fieldLink RX7 10 "FlowPlane" "flow" "LFlowPlane$Flow;" ∈ wsX7_far := by decide +kernel
theorem kX7_far_2 : Cond.fieldLink RX7 125 "FlowPlane$Flow" "q" "LFlowPlane$Polynomial;" ∈ wsX7_far := by decide +kernel
theorem kX7_far_3 : Cond.fieldLink RX7 117 "FlowPlane$Flow" "p" "LFlowPlane$Polynomial;" ∈ wsX7_far := by decide +kernel
theorem uX7_far_X7 : ∀ w ∈ u_ws RX7 TX7 13, w ∈ wsX7_far := by decide +kernel
theorem uX7_far_X1 : ∀ w ∈ u_ws RX1 TX1 2, w ∈ wsX7_far := by decide +kernel
def f_X7_far (fu : Nat → Int32) (fv : Nat → Int32) (fi : Int32) (px : Int32) (py : Int32) : Int32 × Int32 := (if (f_X7_isPlace px py) = 0 then (((f_X7_finding fi (-1000001)).1), ((f_X7_finding fi (-1000001)).2)) else (if px = 0 then (if py = 0 then (((f_X7_finding fi (-1000001)).1), ((f_X7_finding fi (-1000001)).2)) else ((if ((px * (f_X3_squaresAt fv px py)) - (py * (f_X3_squaresAt fu px py))) = 0 then 1 else 0), fi)) else ((if ((px * (f_X3_squaresAt fv px py)) - (py * (f_X3_squaresAt fu px py))) = 0 then 1 else 0), fi)))
set_option maxHeartbeats 400000000 in
set_option maxRecDepth 100000 in
theorem c_X7_far (l : Launch) (D : va_G) (cy : Nat → ClassId) (ta : Nat) (fa : Nat) (fap : Nat) (fapn : Nat) (faq : Nat) (faqn : Nat) (a_draft : Nat) (a_fence : Nat) (a_past : Nat) (a_slots : Nat) (a_slotKinds : Nat) (a_sheets : Nat) (a_speedX : Nat) (a_speedY : Nat) (a_leftward : Nat) (a_change : Nat) (a_table : Nat) (fu : Nat → Int32) (fv : Nat → Int32) (fi : Int32) (px : Int32) (py : Int32) : yk_Ci l D vwCl (yk_ty cy) yX7_far wsX7_far 2 42 [.ref ta, .int px, .int py] [(ta, .inr (7, [.ref fa, .ref a_draft, .ref a_fence, .ref a_past, .ref a_slots, .ref a_slotKinds, .ref a_sheets, .ref a_speedX, .ref a_speedY, .ref a_leftward, .ref a_change, .ref a_table, .int fi])), (fa, .inr (1, [.ref fap, .ref faq])), (fap, .inr (3, [.ref fapn])), (fapn, .inl (cy 0, 6, .inl fu)), (faq, .inr (3, [.ref faqn])), (faqn, .inl (cy 0, 6, .inl fv))] ((f_X7_far fu fv fi px py).1) [(ta, .inr (7, [.ref fa, .ref a_draft, .ref a_fence, .ref a_past, .ref a_slots, .ref a_slotKinds, .ref a_sheets, .ref a_speedX, .ref a_speedY, .ref a_leftward, .ref a_change, .ref a_table, .int ((f_X7_far fu fv fi px py).2)])), (fa, .inr (1, [.ref fap, .ref faq])), (fap, .inr (3, [.ref fapn])), (fapn, .inl (cy 0, 6, .inl fu)), (faq, .inr (3, [.ref faqn])), (faqn, .inl (cy 0, 6, .inl fv))] := by
  refine yk_eI (cc := cX7_far) (maxL := 4) (by decide) rfl (Nat.le_of_ble_eq_true rfl) rfl ?_
  intro p e R s m args below meth c A Q ls H locs hx hb hml hown hts hRf hRl hA hK hG hP hD hS hl hQ
  have hP : va_P D vwCl [(ta, .inr (7, [.ref fa, .ref a_draft, .ref a_fence, .ref a_past, .ref a_slots, .ref a_slotKinds, .ref a_sheets, .ref a_speedX, .ref a_speedY, .ref a_leftward, .ref a_change, .ref a_table, .int fi])), (fa, .inr (1, [.ref fap, .ref faq])), (fap, .inr (3, [.ref fapn])), (fapn, .inl (cy 0, 6, .inl fu)), (faq, .inr (3, [.ref faqn])), (faqn, .inl (cy 0, 6, .inl fv))] H := hP
  have hl : lv_has ls 4 [(0, .ref ta), (1, .int px), (2, .int py)] := hl
  have hown : s.vm.findClass RX7 = some m.cls := hown
  have hF : (f_X7_far fu fv fi px py) = (f_X7_far fu fv fi px py) := rfl
  refine lv_iload_n hx hb dX7_far_0 rfl (lv_at hl 1 rfl) ?_
  refine lv_iload_n hx hb dX7_far_1 rfl (lv_at hl 2 rfl) ?_
  refine yk_i [] (va_runS (As := [.int px, .int py]) (rest := []) ⟨hx, hb, hml, hown, hts⟩ (c_X7_isPlace l D cy px py H.size) (va_cwS 2 hts gX7_far_X7_isPlace rfl rfl rfl hs_X7_isPlace (yk_room hRf hRl rfl rfl)) (yk_ps hG hA hS hK hP hD [] (by decide +kernel) rfl) rfl rfl hl.1 rfl (lv_room (Nat.le_of_ble_eq_true rfl)) dX7_far_2 ⟨Nat.zero_le _, Nat.zero_le _⟩) hP hD hS hA rfl rfl (fun H locs hP9 hD9 hS9 => ?_)
  replace hP : va_P D vwCl [(ta, .inr (7, [.ref fa, .ref a_draft, .ref a_fence, .ref a_past, .ref a_slots, .ref a_slotKinds, .ref a_sheets, .ref a_speedX, .ref a_speedY, .ref a_leftward, .ref a_change, .ref a_table, .int fi])), (fa, .inr (1, [.ref fap, .ref faq])), (fap, .inr (3, [.ref fapn])), (fapn, .inl (cy 0, 6, .inl fu)), (faq, .inr (3, [.ref faqn])), (faqn, .inl (cy 0, 6, .inl fv))] H := hP9
  replace hD : va_D A [(ta, .inr (7, [.ref fa, .ref a_draft, .ref a_fence, .ref a_past, .ref a_slots, .ref a_slotKinds, .ref a_sheets, .ref a_speedX, .ref a_speedY, .ref a_leftward, .ref a_change, .ref a_table, .int fi])), (fa, .inr (1, [.ref fap, .ref faq])), (fap, .inr (3, [.ref fapn])), (fapn, .inl (cy 0, 6, .inl fu)), (faq, .inr (3, [.ref faqn])), (faqn, .inl (cy 0, 6, .inl fv))] := hD9
  replace hS := hS9
  clear hP9 hD9 hS9
  refine lv_if_eq (tgt := 16) hx hb dX7_far_5 (by decide) (fun hc1 => ?_) (fun hc1 => ?_)
  · replace hF := hF.trans (if_pos hc1)
    refine lv_aload_n hx hb dX7_far_16 rfl (lv_at hl 0 rfl) ?_
    refine lv_ldc (v := (-1000001)) hx hb hown (hts _ kX7_far_0) dX7_far_17 ?_
    refine yk_i [0] (va_runV (As := [.int (-1000001)]) (rest := []) ⟨hx, hb, hml, hown, hts⟩ (c_X7_finding l D cy ta fa a_draft a_fence a_past a_slots a_slotKinds a_sheets a_speedX a_speedY a_leftward a_change a_table fi (-1000001) H.size) (cwV 1 hts gX7_far_X7_finding rfl rfl rfl hv_X7_finding (yk_room hRf hRl rfl rfl)) (yk_pv (q := (RX7, TX7, 13)) hG hA hS hK hP hD [0] (by decide +kernel) rfl rfl rfl) rfl rfl hl.1 rfl (lv_room (Nat.le_of_ble_eq_true rfl)) dX7_far_19 ⟨Nat.zero_le _, Nat.zero_le _⟩) hP hD hS hA rfl (Eq.trans (b := [ta]) rfl rfl) (fun H locs hP9 hD9 hS9 => ?_)
    replace hP : va_P D vwCl [(ta, .inr (7, [.ref fa, .ref a_draft, .ref a_fence, .ref a_past, .ref a_slots, .ref a_slotKinds, .ref a_sheets, .ref a_speedX, .ref a_speedY, .ref a_leftward, .ref a_change, .ref a_table, .int ((f_X7_finding fi (-1000001)).2)])), (fa, .inr (1, [.ref fap, .ref faq])), (fap, .inr (3, [.ref fapn])), (fapn, .inl (cy 0, 6, .inl fu)), (faq, .inr (3, [.ref faqn])), (faqn, .inl (cy 0, 6, .inl fv))] H := hP9
    replace hD : va_D A [(ta, .inr (7, [.ref fa, .ref a_draft, .ref a_fence, .ref a_past, .ref a_slots, .ref a_slotKinds, .ref a_sheets, .ref a_speedX, .ref a_speedY, .ref a_leftward, .ref a_change, .ref a_table, .int ((f_X7_finding fi (-1000001)).2)])), (fa, .inr (1, [.ref fap, .ref faq])), (fap, .inr (3, [.ref fapn])), (fapn, .inl (cy 0, 6, .inl fu)), (faq, .inr (3, [.ref faqn])), (faqn, .inl (cy 0, 6, .inl fv))] := hD9
    replace hS := hS9
    clear hP9 hD9 hS9
    have hF : f_X7_far fu fv fi px py = (((f_X7_finding fi (-1000001)).1), ((f_X7_finding fi (-1000001)).2)) := hF
    have hf0 := yk_fst hF
    have hg0 := yk_snd hF
    rw [hf0, hg0] at hQ
    exact hQ _ _ _ _ dX7_far_22 hP hS
  · replace hF := hF.trans (if_neg hc1)
    refine lv_iload_n hx hb dX7_far_8 rfl (lv_at hl 1 rfl) ?_
    refine lv_if_ne (tgt := 23) hx hb dX7_far_9 (by decide) (fun hc2 => ?_) (fun hc2 => ?_)
    · replace hF := hF.trans (if_neg hc2)
      refine lv_iload_n hx hb dX7_far_23 rfl (lv_at hl 1 rfl) ?_
      refine lv_aload_n hx hb dX7_far_24 rfl (lv_at hl 0 rfl) ?_
      refine va_get (D := D) (ci := 7) (v := .ref fa) (C := RX7) (T := TX7) (N := 13) hx hb hts uX7_far_X7 hown hK hP 0 rfl rfl 0 (by decide) (hts _ kX7_far_1) (fun _ h9 => h9) rfl dX7_far_25 ?_
      refine va_get (D := D) (ci := 1) (v := .ref faq) (C := RX1) (T := TX1) (N := 2) hx hb hts uX7_far_X1 hown hK hP 1 rfl rfl 1 (by decide) (hts _ kX7_far_2) (fun _ h9 => h9) rfl dX7_far_28 ?_
      refine lv_iload_n hx hb dX7_far_31 rfl (lv_at hl 1 rfl) ?_
      refine lv_iload_n hx hb dX7_far_32 rfl (lv_at hl 2 rfl) ?_
      refine yk_i [4, 5] (va_runV (As := [.int px, .int py]) (rest := [.int px]) ⟨hx, hb, hml, hown, hts⟩ (c_X3_squaresAt l D cy faq faqn fv px py H.size) (cwV 2 hts gX7_far_X3_squaresAt rfl rfl rfl hv_X3_squaresAt (yk_room hRf hRl rfl rfl)) (yk_pv (q := (RX3, TX3, 1)) hG hA hS hK hP hD [4, 5] (by decide +kernel) rfl rfl rfl) rfl rfl hl.1 rfl (lv_room (Nat.le_of_ble_eq_true rfl)) dX7_far_33 ⟨Nat.zero_le _, Nat.zero_le _⟩) hP hD hS hA rfl (Eq.trans (b := [faq, faqn]) rfl rfl) (fun H locs hP9 hD9 hS9 => ?_)
      replace hP : va_P D vwCl [(ta, .inr (7, [.ref fa, .ref a_draft, .ref a_fence, .ref a_past, .ref a_slots, .ref a_slotKinds, .ref a_sheets, .ref a_speedX, .ref a_speedY, .ref a_leftward, .ref a_change, .ref a_table, .int fi])), (fa, .inr (1, [.ref fap, .ref faq])), (fap, .inr (3, [.ref fapn])), (fapn, .inl (cy 0, 6, .inl fu)), (faq, .inr (3, [.ref faqn])), (faqn, .inl (cy 0, 6, .inl fv))] H := hP9
      replace hD : va_D A [(ta, .inr (7, [.ref fa, .ref a_draft, .ref a_fence, .ref a_past, .ref a_slots, .ref a_slotKinds, .ref a_sheets, .ref a_speedX, .ref a_speedY, .ref a_leftward, .ref a_change, .ref a_table, .int fi])), (fa, .inr (1, [.ref fap, .ref faq])), (fap, .inr (3, [.ref fapn])), (fapn, .inl (cy 0, 6, .inl fu)), (faq, .inr (3, [.ref faqn])), (faqn, .inl (cy 0, 6, .inl fv))] := hD9
      replace hS := hS9
      clear hP9 hD9 hS9
      refine lv_imul hx hb dX7_far_36 ?_
      refine lv_iload_n hx hb dX7_far_37 rfl (lv_at hl 2 rfl) ?_
      refine lv_aload_n hx hb dX7_far_38 rfl (lv_at hl 0 rfl) ?_
      refine va_get (D := D) (ci := 7) (v := .ref fa) (C := RX7) (T := TX7) (N := 13) hx hb hts uX7_far_X7 hown hK hP 0 rfl rfl 0 (by decide) (hts _ kX7_far_1) (fun _ h9 => h9) rfl dX7_far_39 ?_
      refine va_get (D := D) (ci := 1) (v := .ref fap) (C := RX1) (T := TX1) (N := 2) hx hb hts uX7_far_X1 hown hK hP 1 rfl rfl 0 (by decide) (hts _ kX7_far_3) (fun _ h9 => h9) rfl dX7_far_42 ?_
      refine lv_iload_n hx hb dX7_far_45 rfl (lv_at hl 1 rfl) ?_
      refine lv_iload_n hx hb dX7_far_46 rfl (lv_at hl 2 rfl) ?_
      refine yk_i [2, 3] (va_runV (As := [.int px, .int py]) (rest := [.int py, .int (px * (f_X3_squaresAt fv px py))]) ⟨hx, hb, hml, hown, hts⟩ (c_X3_squaresAt l D cy fap fapn fu px py H.size) (cwV 2 hts gX7_far_X3_squaresAt rfl rfl rfl hv_X3_squaresAt (yk_room hRf hRl rfl rfl)) (yk_pv (q := (RX3, TX3, 1)) hG hA hS hK hP hD [2, 3] (by decide +kernel) rfl rfl rfl) rfl rfl hl.1 rfl (lv_room (Nat.le_of_ble_eq_true rfl)) dX7_far_47 ⟨Nat.zero_le _, Nat.zero_le _⟩) hP hD hS hA rfl (Eq.trans (b := [fap, fapn]) rfl rfl) (fun H locs hP9 hD9 hS9 => ?_)
      replace hP : va_P D vwCl [(ta, .inr (7, [.ref fa, .ref a_draft, .ref a_fence, .ref a_past, .ref a_slots, .ref a_slotKinds, .ref a_sheets, .ref a_speedX, .ref a_speedY, .ref a_leftward, .ref a_change, .ref a_table, .int fi])), (fa, .inr (1, [.ref fap, .ref faq])), (fap, .inr (3, [.ref fapn])), (fapn, .inl (cy 0, 6, .inl fu)), (faq, .inr (3, [.ref faqn])), (faqn, .inl (cy 0, 6, .inl fv))] H := hP9
      replace hD : va_D A [(ta, .inr (7, [.ref fa, .ref a_draft, .ref a_fence, .ref a_past, .ref a_slots, .ref a_slotKinds, .ref a_sheets, .ref a_speedX, .ref a_speedY, .ref a_leftward, .ref a_change, .ref a_table, .int fi])), (fa, .inr (1, [.ref fap, .ref faq])), (fap, .inr (3, [.ref fapn])), (fapn, .inl (cy 0, 6, .inl fu)), (faq, .inr (3, [.ref faqn])), (faqn, .inl (cy 0, 6, .inl fv))] := hD9
      replace hS := hS9
      clear hP9 hD9 hS9
      refine lv_imul hx hb dX7_far_50 ?_
      refine lv_isub hx hb dX7_far_51 ?_
      refine lv_istore_n (lv' := [(3, .int ((px * (f_X3_squaresAt fv px py)) - (py * (f_X3_squaresAt fu px py)))), (0, .ref ta), (1, .int px), (2, .int py)]) hx hb dX7_far_52 rfl hl (by decide) rfl (fun ls hl9 => ?_)
      replace hl := hl9
      clear hl9
      refine lv_iload_n hx hb dX7_far_53 rfl (lv_at hl 0 rfl) ?_
      have J5 : ∀ (v4 : Int32) (H : Heap) (locs : List Loc) (ls : Array Slot), v4 = (if ((px * (f_X3_squaresAt fv px py)) - (py * (f_X3_squaresAt fu px py))) = 0 then 1 else 0) → va_P D vwCl [(ta, .inr (7, [.ref fa, .ref a_draft, .ref a_fence, .ref a_past, .ref a_slots, .ref a_slotKinds, .ref a_sheets, .ref a_speedX, .ref a_speedY, .ref a_leftward, .ref a_change, .ref a_table, .int fi])), (fa, .inr (1, [.ref fap, .ref faq])), (fap, .inr (3, [.ref fapn])), (fapn, .inl (cy 0, 6, .inl fu)), (faq, .inr (3, [.ref faqn])), (faqn, .inl (cy 0, 6, .inl fv))] H → va_D A [(ta, .inr (7, [.ref fa, .ref a_draft, .ref a_fence, .ref a_past, .ref a_slots, .ref a_slotKinds, .ref a_sheets, .ref a_speedX, .ref a_speedY, .ref a_leftward, .ref a_change, .ref a_table, .int fi])), (fa, .inr (1, [.ref fap, .ref faq])), (fap, .inr (3, [.ref fapn])), (fapn, .inl (cy 0, 6, .inl fu)), (faq, .inr (3, [.ref faqn])), (faqn, .inl (cy 0, 6, .inl fv))] → va_S A s.heap H locs → lv_has ls 4 [(0, .ref ta), (1, .int px), (2, .int py), (3, .int ((px * (f_X3_squaresAt fv px py)) - (py * (f_X3_squaresAt fu px py))))] → W p l e R s m args below meth c H locs 0 0 Q (F0 m 62 ls [.int v4]) := by
        clear hP hD hS hl
        intro v4 H locs ls ev4
        rw [ev4]
        clear ev4
        intro hP hD hS hl
        have hF : f_X7_far fu fv fi px py = ((if ((px * (f_X3_squaresAt fv px py)) - (py * (f_X3_squaresAt fu px py))) = 0 then 1 else 0), fi) := hF
        have hf0 := yk_fst hF
        have hg0 := yk_snd hF
        rw [hf0, hg0] at hQ
        exact hQ _ _ _ _ dX7_far_62 hP hS
      refine lv_if_ne (tgt := 61) hx hb dX7_far_54 (by decide) (fun hc3 => ?_) (fun hc3 => ?_)
      · refine lv_iconst (v := 0) hx hb dX7_far_61 (by decide) ?_
        exact J5 _ _ _ _ ((if_neg hc3).symm) hP hD hS (lv_sub hl [1, 2, 3, 0] rfl)
      · refine lv_iconst (v := 1) hx hb dX7_far_57 (by decide) ?_
        refine lv_goto (tgt := 62) hx hb dX7_far_58 (by decide) ?_
        exact J5 _ _ _ _ ((if_pos hc3).symm) hP hD hS (lv_sub hl [1, 2, 3, 0] rfl)
    · replace hF := hF.trans (if_pos hc2)
      refine lv_iload_n hx hb dX7_far_12 rfl (lv_at hl 2 rfl) ?_
      refine lv_if_ne (tgt := 23) hx hb dX7_far_13 (by decide) (fun hc6 => ?_) (fun hc6 => ?_)
      · replace hF := hF.trans (if_neg hc6)
        refine lv_iload_n hx hb dX7_far_23 rfl (lv_at hl 1 rfl) ?_
        refine lv_aload_n hx hb dX7_far_24 rfl (lv_at hl 0 rfl) ?_
        refine va_get (D := D) (ci := 7) (v := .ref fa) (C := RX7) (T := TX7) (N := 13) hx hb hts uX7_far_X7 hown hK hP 0 rfl rfl 0 (by decide) (hts _ kX7_far_1) (fun _ h9 => h9) rfl dX7_far_25 ?_
        refine va_get (D := D) (ci := 1) (v := .ref faq) (C := RX1) (T := TX1) (N := 2) hx hb hts uX7_far_X1 hown hK hP 1 rfl rfl 1 (by decide) (hts _ kX7_far_2) (fun _ h9 => h9) rfl dX7_far_28 ?_
        refine lv_iload_n hx hb dX7_far_31 rfl (lv_at hl 1 rfl) ?_
        refine lv_iload_n hx hb dX7_far_32 rfl (lv_at hl 2 rfl) ?_
        refine yk_i [4, 5] (va_runV (As := [.int px, .int py]) (rest := [.int px]) ⟨hx, hb, hml, hown, hts⟩ (c_X3_squaresAt l D cy faq faqn fv px py H.size) (cwV 2 hts gX7_far_X3_squaresAt rfl rfl rfl hv_X3_squaresAt (yk_room hRf hRl rfl rfl)) (yk_pv (q := (RX3, TX3, 1)) hG hA hS hK hP hD [4, 5] (by decide +kernel) rfl rfl rfl) rfl rfl hl.1 rfl (lv_room (Nat.le_of_ble_eq_true rfl)) dX7_far_33 ⟨Nat.zero_le _, Nat.zero_le _⟩) hP hD hS hA rfl (Eq.trans (b := [faq, faqn]) rfl rfl) (fun H locs hP9 hD9 hS9 => ?_)
        replace hP : va_P D vwCl [(ta, .inr (7, [.ref fa, .ref a_draft, .ref a_fence, .ref a_past, .ref a_slots, .ref a_slotKinds, .ref a_sheets, .ref a_speedX, .ref a_speedY, .ref a_leftward, .ref a_change, .ref a_table, .int fi])), (fa, .inr (1, [.ref fap, .ref faq])), (fap, .inr (3, [.ref fapn])), (fapn, .inl (cy 0, 6, .inl fu)), (faq, .inr (3, [.ref faqn])), (faqn, .inl (cy 0, 6, .inl fv))] H := hP9
        replace hD : va_D A [(ta, .inr (7, [.ref fa, .ref a_draft, .ref a_fence, .ref a_past, .ref a_slots, .ref a_slotKinds, .ref a_sheets, .ref a_speedX, .ref a_speedY, .ref a_leftward, .ref a_change, .ref a_table, .int fi])), (fa, .inr (1, [.ref fap, .ref faq])), (fap, .inr (3, [.ref fapn])), (fapn, .inl (cy 0, 6, .inl fu)), (faq, .inr (3, [.ref faqn])), (faqn, .inl (cy 0, 6, .inl fv))] := hD9
        replace hS := hS9
        clear hP9 hD9 hS9
        refine lv_imul hx hb dX7_far_36 ?_
        refine lv_iload_n hx hb dX7_far_37 rfl (lv_at hl 2 rfl) ?_
        refine lv_aload_n hx hb dX7_far_38 rfl (lv_at hl 0 rfl) ?_
        refine va_get (D := D) (ci := 7) (v := .ref fa) (C := RX7) (T := TX7) (N := 13) hx hb hts uX7_far_X7 hown hK hP 0 rfl rfl 0 (by decide) (hts _ kX7_far_1) (fun _ h9 => h9) rfl dX7_far_39 ?_
        refine va_get (D := D) (ci := 1) (v := .ref fap) (C := RX1) (T := TX1) (N := 2) hx hb hts uX7_far_X1 hown hK hP 1 rfl rfl 0 (by decide) (hts _ kX7_far_3) (fun _ h9 => h9) rfl dX7_far_42 ?_
        refine lv_iload_n hx hb dX7_far_45 rfl (lv_at hl 1 rfl) ?_
        refine lv_iload_n hx hb dX7_far_46 rfl (lv_at hl 2 rfl) ?_
        refine yk_i [2, 3] (va_runV (As := [.int px, .int py]) (rest := [.int py, .int (px * (f_X3_squaresAt fv px py))]) ⟨hx, hb, hml, hown, hts⟩ (c_X3_squaresAt l D cy fap fapn fu px py H.size) (cwV 2 hts gX7_far_X3_squaresAt rfl rfl rfl hv_X3_squaresAt (yk_room hRf hRl rfl rfl)) (yk_pv (q := (RX3, TX3, 1)) hG hA hS hK hP hD [2, 3] (by decide +kernel) rfl rfl rfl) rfl rfl hl.1 rfl (lv_room (Nat.le_of_ble_eq_true rfl)) dX7_far_47 ⟨Nat.zero_le _, Nat.zero_le _⟩) hP hD hS hA rfl (Eq.trans (b := [fap, fapn]) rfl rfl) (fun H locs hP9 hD9 hS9 => ?_)
        replace hP : va_P D vwCl [(ta, .inr (7, [.ref fa, .ref a_draft, .ref a_fence, .ref a_past, .ref a_slots, .ref a_slotKinds, .ref a_sheets, .ref a_speedX, .ref a_speedY, .ref a_leftward, .ref a_change, .ref a_table, .int fi])), (fa, .inr (1, [.ref fap, .ref faq])), (fap, .inr (3, [.ref fapn])), (fapn, .inl (cy 0, 6, .inl fu)), (faq, .inr (3, [.ref faqn])), (faqn, .inl (cy 0, 6, .inl fv))] H := hP9
        replace hD : va_D A [(ta, .inr (7, [.ref fa, .ref a_draft, .ref a_fence, .ref a_past, .ref a_slots, .ref a_slotKinds, .ref a_sheets, .ref a_speedX, .ref a_speedY, .ref a_leftward, .ref a_change, .ref a_table, .int fi])), (fa, .inr (1, [.ref fap, .ref faq])), (fap, .inr (3, [.ref fapn])), (fapn, .inl (cy 0, 6, .inl fu)), (faq, .inr (3, [.ref faqn])), (faqn, .inl (cy 0, 6, .inl fv))] := hD9
        replace hS := hS9
        clear hP9 hD9 hS9
        refine lv_imul hx hb dX7_far_50 ?_
        refine lv_isub hx hb dX7_far_51 ?_
        refine lv_istore_n (lv' := [(3, .int ((px * (f_X3_squaresAt fv px py)) - (py * (f_X3_squaresAt fu px py)))), (0, .ref ta), (1, .int px), (2, .int py)]) hx hb dX7_far_52 rfl hl (by decide) rfl (fun ls hl9 => ?_)
        replace hl := hl9
        clear hl9
        refine lv_iload_n hx hb dX7_far_53 rfl (lv_at hl 0 rfl) ?_
        have J9 : ∀ (v8 : Int32) (H : Heap) (locs : List Loc) (ls : Array Slot), v8 = (if ((px * (f_X3_squaresAt fv px py)) - (py * (f_X3_squaresAt fu px py))) = 0 then 1 else 0) → va_P D vwCl [(ta, .inr (7, [.ref fa, .ref a_draft, .ref a_fence, .ref a_past, .ref a_slots, .ref a_slotKinds, .ref a_sheets, .ref a_speedX, .ref a_speedY, .ref a_leftward, .ref a_change, .ref a_table, .int fi])), (fa, .inr (1, [.ref fap, .ref faq])), (fap, .inr (3, [.ref fapn])), (fapn, .inl (cy 0, 6, .inl fu)), (faq, .inr (3, [.ref faqn])), (faqn, .inl (cy 0, 6, .inl fv))] H → va_D A [(ta, .inr (7, [.ref fa, .ref a_draft, .ref a_fence, .ref a_past, .ref a_slots, .ref a_slotKinds, .ref a_sheets, .ref a_speedX, .ref a_speedY, .ref a_leftward, .ref a_change, .ref a_table, .int fi])), (fa, .inr (1, [.ref fap, .ref faq])), (fap, .inr (3, [.ref fapn])), (fapn, .inl (cy 0, 6, .inl fu)), (faq, .inr (3, [.ref faqn])), (faqn, .inl (cy 0, 6, .inl fv))] → va_S A s.heap H locs → lv_has ls 4 [(0, .ref ta), (1, .int px), (2, .int py), (3, .int ((px * (f_X3_squaresAt fv px py)) - (py * (f_X3_squaresAt fu px py))))] → W p l e R s m args below meth c H locs 0 0 Q (F0 m 62 ls [.int v8]) := by
          clear hP hD hS hl
          intro v8 H locs ls ev8
          rw [ev8]
          clear ev8
          intro hP hD hS hl
          have hF : f_X7_far fu fv fi px py = ((if ((px * (f_X3_squaresAt fv px py)) - (py * (f_X3_squaresAt fu px py))) = 0 then 1 else 0), fi) := hF
          have hf0 := yk_fst hF
          have hg0 := yk_snd hF
          rw [hf0, hg0] at hQ
          exact hQ _ _ _ _ dX7_far_62 hP hS
        refine lv_if_ne (tgt := 61) hx hb dX7_far_54 (by decide) (fun hc7 => ?_) (fun hc7 => ?_)
        · refine lv_iconst (v := 0) hx hb dX7_far_61 (by decide) ?_
          exact J9 _ _ _ _ ((if_neg hc7).symm) hP hD hS (lv_sub hl [1, 2, 3, 0] rfl)
        · refine lv_iconst (v := 1) hx hb dX7_far_57 (by decide) ?_
          refine lv_goto (tgt := 62) hx hb dX7_far_58 (by decide) ?_
          exact J9 _ _ _ _ ((if_pos hc7).symm) hP hD hS (lv_sub hl [1, 2, 3, 0] rfl)
      · replace hF := hF.trans (if_pos hc6)
        refine lv_aload_n hx hb dX7_far_16 rfl (lv_at hl 0 rfl) ?_
        refine lv_ldc (v := (-1000001)) hx hb hown (hts _ kX7_far_0) dX7_far_17 ?_
        refine yk_i [0] (va_runV (As := [.int (-1000001)]) (rest := []) ⟨hx, hb, hml, hown, hts⟩ (c_X7_finding l D cy ta fa a_draft a_fence a_past a_slots a_slotKinds a_sheets a_speedX a_speedY a_leftward a_change a_table fi (-1000001) H.size) (cwV 1 hts gX7_far_X7_finding rfl rfl rfl hv_X7_finding (yk_room hRf hRl rfl rfl)) (yk_pv (q := (RX7, TX7, 13)) hG hA hS hK hP hD [0] (by decide +kernel) rfl rfl rfl) rfl rfl hl.1 rfl (lv_room (Nat.le_of_ble_eq_true rfl)) dX7_far_19 ⟨Nat.zero_le _, Nat.zero_le _⟩) hP hD hS hA rfl (Eq.trans (b := [ta]) rfl rfl) (fun H locs hP9 hD9 hS9 => ?_)
        replace hP : va_P D vwCl [(ta, .inr (7, [.ref fa, .ref a_draft, .ref a_fence, .ref a_past, .ref a_slots, .ref a_slotKinds, .ref a_sheets, .ref a_speedX, .ref a_speedY, .ref a_leftward, .ref a_change, .ref a_table, .int ((f_X7_finding fi (-1000001)).2)])), (fa, .inr (1, [.ref fap, .ref faq])), (fap, .inr (3, [.ref fapn])), (fapn, .inl (cy 0, 6, .inl fu)), (faq, .inr (3, [.ref faqn])), (faqn, .inl (cy 0, 6, .inl fv))] H := hP9
        replace hD : va_D A [(ta, .inr (7, [.ref fa, .ref a_draft, .ref a_fence, .ref a_past, .ref a_slots, .ref a_slotKinds, .ref a_sheets, .ref a_speedX, .ref a_speedY, .ref a_leftward, .ref a_change, .ref a_table, .int ((f_X7_finding fi (-1000001)).2)])), (fa, .inr (1, [.ref fap, .ref faq])), (fap, .inr (3, [.ref fapn])), (fapn, .inl (cy 0, 6, .inl fu)), (faq, .inr (3, [.ref faqn])), (faqn, .inl (cy 0, 6, .inl fv))] := hD9
        replace hS := hS9
        clear hP9 hD9 hS9
        have hF : f_X7_far fu fv fi px py = (((f_X7_finding fi (-1000001)).1), ((f_X7_finding fi (-1000001)).2)) := hF
        have hf0 := yk_fst hF
        have hg0 := yk_snd hF
        rw [hf0, hg0] at hQ
        exact hQ _ _ _ _ dX7_far_22 hP hS

theorem kX7_countFilledSlots_0 : Cond.fieldLink RX7 37 "FlowPlane" "slotKinds" "[I" ∈ wsX7_countFilledSlots := by decide +kernel
theorem uX7_countFilledSlots_X7 : ∀ w ∈ u_ws RX7 TX7 13, w ∈ wsX7_countFilledSlots := by decide +kernel
def l_X7_countFilledSlots_4 (sk : Nat → Int32) : Nat → Nat → Int32 → Int32
  | 0, ki, z1_4 => z1_4
  | fu_X7_countFilledSlots_4 + 1, ki, z1_4 => (if 4 ≤ (nI ki) then z1_4 else (l_X7_countFilledSlots_4 sk fu_X7_countFilledSlots_4 (ki + 1) (if (sk ki) = (-1) then z1_4 else (z1_4 + 1))))
def f_X7_countFilledSlots (sk : Nat → Int32) : Int32 := (l_X7_countFilledSlots_4 sk (4 + 1) 0 0)
set_option maxHeartbeats 400000000 in
set_option maxRecDepth 100000 in
theorem c_X7_countFilledSlots (l : Launch) (D : va_G) (cy : Nat → ClassId) (ta : Nat) (ka : Nat) (a_flow : Nat) (a_draft : Nat) (a_fence : Nat) (a_past : Nat) (a_slots : Nat) (a_sheets : Nat) (a_speedX : Nat) (a_speedY : Nat) (a_leftward : Nat) (a_change : Nat) (a_table : Nat) (sk : Nat → Int32) (fi : Int32) : yk_Ci l D vwCl (yk_ty cy) yX7_countFilledSlots wsX7_countFilledSlots 0 0 [.ref ta] [(ta, .inr (7, [.ref a_flow, .ref a_draft, .ref a_fence, .ref a_past, .ref a_slots, .ref ka, .ref a_sheets, .ref a_speedX, .ref a_speedY, .ref a_leftward, .ref a_change, .ref a_table, .int fi])), (ka, .inl (cy 0, 4, .inl sk))] (f_X7_countFilledSlots sk) [(ta, .inr (7, [.ref a_flow, .ref a_draft, .ref a_fence, .ref a_past, .ref a_slots, .ref ka, .ref a_sheets, .ref a_speedX, .ref a_speedY, .ref a_leftward, .ref a_change, .ref a_table, .int fi])), (ka, .inl (cy 0, 4, .inl sk))] := by
  refine yk_eI (cc := cX7_countFilledSlots) (maxL := 3) (by decide) rfl (Nat.le_of_ble_eq_true rfl) rfl ?_
  intro p e R s m args below meth c A Q ls H locs hx hb hml hown hts hRf hRl hA hK hG hP hD hS hl hQ
  have hP : va_P D vwCl [(ta, .inr (7, [.ref a_flow, .ref a_draft, .ref a_fence, .ref a_past, .ref a_slots, .ref ka, .ref a_sheets, .ref a_speedX, .ref a_speedY, .ref a_leftward, .ref a_change, .ref a_table, .int fi])), (ka, .inl (cy 0, 4, .inl sk))] H := hP
  have hl : lv_has ls 3 [(0, .ref ta)] := hl
  have hown : s.vm.findClass RX7 = some m.cls := hown
  have hF : (f_X7_countFilledSlots sk) = (f_X7_countFilledSlots sk) := rfl
  refine lv_iconst (v := 0) hx hb dX7_countFilledSlots_0 (by decide) ?_
  refine lv_istore_n (lv' := [(1, .int 0), (0, .ref ta)]) hx hb dX7_countFilledSlots_1 rfl hl (by decide) rfl (fun ls hl9 => ?_)
  replace hl := hl9
  clear hl9
  refine lv_iconst (v := 0) hx hb dX7_countFilledSlots_2 (by decide) ?_
  refine lv_istore_n (lv' := [(2, .int 0), (1, .int 0), (0, .ref ta)]) hx hb dX7_countFilledSlots_3 rfl hl (by decide) rfl (fun ls hl9 => ?_)
  replace hl := hl9
  clear hl9
  have J5 : ∀ (H : Heap) (locs : List Loc) (ls : Array Slot), va_P D vwCl [(ta, .inr (7, [.ref a_flow, .ref a_draft, .ref a_fence, .ref a_past, .ref a_slots, .ref ka, .ref a_sheets, .ref a_speedX, .ref a_speedY, .ref a_leftward, .ref a_change, .ref a_table, .int fi])), (ka, .inl (cy 0, 4, .inl sk))] H → va_D A [(ta, .inr (7, [.ref a_flow, .ref a_draft, .ref a_fence, .ref a_past, .ref a_slots, .ref ka, .ref a_sheets, .ref a_speedX, .ref a_speedY, .ref a_leftward, .ref a_change, .ref a_table, .int fi])), (ka, .inl (cy 0, 4, .inl sk))] → va_S A s.heap H locs → lv_has ls 3 [(0, .ref ta), (1, .int (l_X7_countFilledSlots_4 sk (4 + 1) 0 0))] → W p l e R s m args below meth c H locs 0 0 Q (F0 m 28 ls []) := by
    clear hP hD hS hl
    intro H locs ls hP hD hS hl
    refine lv_iload_n hx hb dX7_countFilledSlots_28 rfl (lv_at hl 1 rfl) ?_
    have hF : f_X7_countFilledSlots sk = (l_X7_countFilledSlots_4 sk (4 + 1) 0 0) := hF
    rw [hF] at hQ
    exact hQ _ _ _ _ dX7_countFilledSlots_29 hP hS
  have L4 : ∀ (M9 n4 ki : Nat) (z1_4 : Int32) (H : Heap) (locs : List Loc) (ls : Array Slot), n4 < M9 → ki + n4 = 4 → (l_X7_countFilledSlots_4 sk (4 + 1) 0 0) = (l_X7_countFilledSlots_4 sk (n4 + 1) ki z1_4) → va_P D vwCl [(ta, .inr (7, [.ref a_flow, .ref a_draft, .ref a_fence, .ref a_past, .ref a_slots, .ref ka, .ref a_sheets, .ref a_speedX, .ref a_speedY, .ref a_leftward, .ref a_change, .ref a_table, .int fi])), (ka, .inl (cy 0, 4, .inl sk))] H → va_D A [(ta, .inr (7, [.ref a_flow, .ref a_draft, .ref a_fence, .ref a_past, .ref a_slots, .ref ka, .ref a_sheets, .ref a_speedX, .ref a_speedY, .ref a_leftward, .ref a_change, .ref a_table, .int fi])), (ka, .inl (cy 0, 4, .inl sk))] → va_S A s.heap H locs → lv_has ls 3 [(0, .ref ta), (1, .int z1_4), (2, .int (nI ki))] → W p l e R s m args below meth c H locs 0 0 Q (F0 m 4 ls []) := by
    clear hP hD hS hl
    intro M9
    induction M9 with
    | zero => intro n4 ki _ _ _ _ hn; exact absurd hn (Nat.not_lt_zero _)
    | succ M9 ih4 =>
      intro n4 ki z1_4 H locs ls hn4 hk4 hV4 hP hD hS hl
      refine lv_iload_n hx hb dX7_countFilledSlots_4 rfl (lv_at hl 2 rfl) ?_
      refine lv_iconst (v := 4) hx hb dX7_countFilledSlots_5 (by decide) ?_
      refine lv_icmp_ge (tgt := 28) hx hb dX7_countFilledSlots_6 (by decide) (fun hc1 => ?_) (fun hc1 => ?_)
      · replace hV4 := hV4.trans (if_pos hc1)
        have hV4 : (l_X7_countFilledSlots_4 sk (4 + 1) 0 0) = z1_4 := hV4
        have J5 := J5
        rw [hV4] at J5
        exact J5 _ _ _ hP hD hS (lv_sub hl [0, 1] rfl)
      · replace hV4 := hV4.trans (if_neg hc1)
        have hlt4 : ki < 4 := yk_lt hk4 (by omega) hc1
        refine lv_aload_n hx hb dX7_countFilledSlots_9 rfl (lv_at hl 0 rfl) ?_
        refine va_get (D := D) (ci := 7) (v := .ref ka) (C := RX7) (T := TX7) (N := 13) hx hb hts uX7_countFilledSlots_X7 hown hK hP 0 rfl rfl 5 (by decide) (hts _ kX7_countFilledSlots_0) (fun _ h9 => h9) rfl dX7_countFilledSlots_10 ?_
        refine lv_iload_n hx hb dX7_countFilledSlots_13 rfl (lv_at hl 2 rfl) ?_
        refine yk_ild hx hb hK hP 1 0 rfl rfl ki (by omega) (by decide) dX7_countFilledSlots_14 ?_
        refine lv_iconst (v := (-1)) hx hb dX7_countFilledSlots_15 (by decide) ?_
        have J4 : ∀ (v3 : Int32) (H : Heap) (locs : List Loc) (ls : Array Slot), v3 = (if (sk ki) = (-1) then z1_4 else (z1_4 + 1)) → va_P D vwCl [(ta, .inr (7, [.ref a_flow, .ref a_draft, .ref a_fence, .ref a_past, .ref a_slots, .ref ka, .ref a_sheets, .ref a_speedX, .ref a_speedY, .ref a_leftward, .ref a_change, .ref a_table, .int fi])), (ka, .inl (cy 0, 4, .inl sk))] H → va_D A [(ta, .inr (7, [.ref a_flow, .ref a_draft, .ref a_fence, .ref a_past, .ref a_slots, .ref ka, .ref a_sheets, .ref a_speedX, .ref a_speedY, .ref a_leftward, .ref a_change, .ref a_table, .int fi])), (ka, .inl (cy 0, 4, .inl sk))] → va_S A s.heap H locs → lv_has ls 3 [(0, .ref ta), (1, .int v3), (2, .int (nI ki))] → W p l e R s m args below meth c H locs 0 0 Q (F0 m 22 ls []) := by
          clear hP hD hS hl
          intro v3 H locs ls ev3
          rw [ev3]
          clear ev3
          intro hP hD hS hl
          refine lv_iinc (v := nI (ki + 1)) (lv' := [(2, .int (nI (ki + 1))), (0, .ref ta), (1, .int (if (sk ki) = (-1) then z1_4 else (z1_4 + 1)))]) hx hb dX7_countFilledSlots_22 hl (k := 2) rfl (yk_inc ki) (by decide) rfl (fun ls hl9 => ?_)
          replace hl := hl9
          clear hl9
          refine lv_goto (tgt := 4) hx hb dX7_countFilledSlots_25 (by decide) ?_
          obtain ⟨n9, rfl⟩ : ∃ n9, n4 = n9 + 1 := ⟨n4 - 1, by omega⟩
          exact ih4 n9 (ki + 1) (if (sk ki) = (-1) then z1_4 else (z1_4 + 1)) _ _ _ (by omega) (by omega)  hV4 hP hD hS (lv_sub hl [1, 2, 0] rfl)
        refine lv_icmp_eq (tgt := 22) hx hb dX7_countFilledSlots_16 (by decide) (fun hc2 => ?_) (fun hc2 => ?_)
        · exact J4 _ _ _ _ ((if_pos hc2).symm) hP hD hS (lv_sub hl [0, 1, 2] rfl)
        · refine lv_iinc (v := (z1_4 + 1)) (lv' := [(1, .int (z1_4 + 1)), (0, .ref ta), (2, .int (nI ki))]) hx hb dX7_countFilledSlots_19 hl (k := 1) rfl (yk_incg _) (by decide) rfl (fun ls hl9 => ?_)
          replace hl := hl9
          clear hl9
          exact J4 _ _ _ _ ((if_neg hc2).symm) hP hD hS (lv_sub hl [1, 0, 2] rfl)
  exact L4 (4 + 1) 4 0 0 _ _ _ (Nat.lt_succ_self _) (by omega)  rfl hP hD hS (lv_sub hl [2, 1, 0] rfl)

theorem kX7_isUnder_0 : Cond.fieldLink RX7 332 "FlowPlane" "ABOVE" "[I" ∈ wsX7_isUnder := by decide +kernel
def l_X7_isUnder_4 (px : Int32) (py : Int32) : Nat → Nat → Int32 → Int32
  | 0, ki, z2_4 => 0
  | fu_X7_isUnder_4 + 1, ki, z2_4 => (if 4 ≤ (nI ki) then 0 else (if z2_4 < 0 then 0 else (if 4 ≤ z2_4 then 0 else (if z2_4 = py then 1 else (l_X7_isUnder_4 px py fu_X7_isUnder_4 (ki + 1) (yk_AB z2_4.toNatClampNeg))))))
def f_X7_isUnder (px : Int32) (py : Int32) : Int32 := (l_X7_isUnder_4 px py (4 + 1) 0 px)
theorem bl_X7_isUnder_4 (px : Int32) (py : Int32) : ∀ (fz : Nat) (q0 : Nat) (q1 : Int32), (l_X7_isUnder_4 px py fz q0 q1) = 0 ∨ (l_X7_isUnder_4 px py fz q0 q1) = 1
  | 0, _, _ => Or.inl rfl
  | fz + 1, _, _ => by
    unfold l_X7_isUnder_4
    (repeat' split) <;> first | exact Or.inl (by with_reducible rfl) | exact Or.inr (by with_reducible rfl) | exact bl_X7_isUnder_4 _ _ fz _ _
theorem b_X7_isUnder (px : Int32) (py : Int32) : (f_X7_isUnder px py) = 0 ∨ (f_X7_isUnder px py) = 1 := by
  unfold f_X7_isUnder; (repeat' split) <;> first | exact Or.inl (by with_reducible rfl) | exact Or.inr (by with_reducible rfl) | with_reducible exact bl_X7_isUnder_4 _ _ _ _ _
set_option maxHeartbeats 400000000 in
set_option maxRecDepth 100000 in
theorem c_X7_isUnder (l : Launch) (D : va_G) (cy : Nat → ClassId) (px : Int32) (py : Int32) : yk_Ci l D vwCl (yk_ty cy) yX7_isUnder wsX7_isUnder 0 0 [.int px, .int py] [] (f_X7_isUnder px py) [] := by
  refine yk_eI (cc := cX7_isUnder) (maxL := 4) (by decide) rfl (Nat.le_of_ble_eq_true rfl) (yk_nb (b_X7_isUnder px py)) ?_
  intro p e R s m args below meth c A Q ls H locs hx hb hml hown hts hRf hRl hA hK hG hP hD hS hl hQ
  have hP : va_P D vwCl [] H := hP
  have hl : lv_has ls 4 [(0, .int px), (1, .int py)] := hl
  have hown : s.vm.findClass RX7 = some m.cls := hown
  obtain ⟨⟨tq1, hZ1, hT1⟩, ⟨tq2, hZ2, hT2⟩, ⟨tq3, hZ3, hT3⟩, hNw⟩ := id hG
  have hF : (f_X7_isUnder px py) = (f_X7_isUnder px py) := rfl
  refine lv_iload_n hx hb dX7_isUnder_0 rfl (lv_at hl 0 rfl) ?_
  refine lv_istore_n (lv' := [(2, .int px), (0, .int px), (1, .int py)]) hx hb dX7_isUnder_1 rfl hl (by decide) rfl (fun ls hl9 => ?_)
  replace hl := hl9
  clear hl9
  refine lv_iconst (v := 0) hx hb dX7_isUnder_2 (by decide) ?_
  refine lv_istore_n (lv' := [(3, .int 0), (2, .int px), (0, .int px), (1, .int py)]) hx hb dX7_isUnder_3 rfl hl (by decide) rfl (fun ls hl9 => ?_)
  replace hl := hl9
  clear hl9
  have L4 : ∀ (M9 n4 ki : Nat) (z2_4 : Int32) (H : Heap) (locs : List Loc) (ls : Array Slot), n4 < M9 → ki + n4 = 4 → f_X7_isUnder px py = (l_X7_isUnder_4 px py (n4 + 1) ki z2_4) → va_P D vwCl [] H → va_D A [] → va_S A s.heap H locs → lv_has ls 4 [(0, .int px), (1, .int py), (2, .int z2_4), (3, .int (nI ki))] → W p l e R s m args below meth c H locs 0 0 Q (F0 m 4 ls []) := by
    clear hP hD hS hl hF
    intro M9
    induction M9 with
    | zero => intro n4 ki _ _ _ _ hn; exact absurd hn (Nat.not_lt_zero _)
    | succ M9 ih4 =>
      intro n4 ki z2_4 H locs ls hn4 hk4 hF hP hD hS hl
      refine lv_iload_n hx hb dX7_isUnder_4 rfl (lv_at hl 3 rfl) ?_
      refine va_gets hx hb hZ3 hS hown (hts _ kX7_isUnder_0) (fun _ h9 => h9) dX7_isUnder_5 ?_
      refine va_tlen (v := 4) hx hb hT3 hS rfl dX7_isUnder_8 ?_
      refine lv_icmp_ge (tgt := 43) hx hb dX7_isUnder_9 (by decide) (fun hc1 => ?_) (fun hc1 => ?_)
      · replace hF := hF.trans (if_pos hc1)
        refine lv_iconst (v := 0) hx hb dX7_isUnder_43 (by decide) ?_
        have hF : f_X7_isUnder px py = 0 := hF
        rw [hF] at hQ
        exact hQ _ _ _ _ dX7_isUnder_44 hP hS
      · replace hF := hF.trans (if_neg hc1)
        have hlt4 : ki < 4 := yk_lt hk4 (by omega) hc1
        refine lv_iload_n hx hb dX7_isUnder_12 rfl (lv_at hl 2 rfl) ?_
        refine lv_if_lt (tgt := 43) hx hb dX7_isUnder_13 (by decide) (fun hc2 => ?_) (fun hc2 => ?_)
        · replace hF := hF.trans (if_pos hc2)
          refine lv_iconst (v := 0) hx hb dX7_isUnder_43 (by decide) ?_
          have hF : f_X7_isUnder px py = 0 := hF
          rw [hF] at hQ
          exact hQ _ _ _ _ dX7_isUnder_44 hP hS
        · replace hF := hF.trans (if_neg hc2)
          refine lv_iload_n hx hb dX7_isUnder_16 rfl (lv_at hl 2 rfl) ?_
          refine va_gets hx hb hZ3 hS hown (hts _ kX7_isUnder_0) (fun _ h9 => h9) dX7_isUnder_17 ?_
          refine va_tlen (v := 4) hx hb hT3 hS rfl dX7_isUnder_20 ?_
          refine lv_icmp_ge (tgt := 43) hx hb dX7_isUnder_21 (by decide) (fun hc3 => ?_) (fun hc3 => ?_)
          · replace hF := hF.trans (if_pos hc3)
            refine lv_iconst (v := 0) hx hb dX7_isUnder_43 (by decide) ?_
            have hF : f_X7_isUnder px py = 0 := hF
            rw [hF] at hQ
            exact hQ _ _ _ _ dX7_isUnder_44 hP hS
          · replace hF := hF.trans (if_neg hc3)
            refine lv_iload_n hx hb dX7_isUnder_24 rfl (lv_at hl 2 rfl) ?_
            refine lv_iload_n hx hb dX7_isUnder_25 rfl (lv_at hl 1 rfl) ?_
            refine lv_icmp_ne (tgt := 31) hx hb dX7_isUnder_26 (by decide) (fun hc4 => ?_) (fun hc4 => ?_)
            · replace hF := hF.trans (if_neg hc4)
              have hq5 : z2_4 = nI z2_4.toNatClampNeg := (yk_ix (N := 4) (by decide) (by assumption) (by assumption)).1
              have hq5b : z2_4.toNatClampNeg < 4 := (yk_ix (N := 4) (by decide) (by assumption) (by assumption)).2
              rw [hq5] at hl
              refine va_gets hx hb hZ3 hS hown (hts _ kX7_isUnder_0) (fun _ h9 => h9) dX7_isUnder_31 ?_
              refine lv_iload_n hx hb dX7_isUnder_34 rfl (lv_at hl 2 rfl) ?_
              refine yk_tld hx hb hT3 hS z2_4.toNatClampNeg (by omega) (by decide) (yk_ab _) dX7_isUnder_35 ?_
              refine lv_istore_n (lv' := [(2, .int (yk_AB z2_4.toNatClampNeg)), (0, .int px), (1, .int py), (3, .int (nI ki))]) hx hb dX7_isUnder_36 rfl hl (by decide) rfl (fun ls hl9 => ?_)
              replace hl := hl9
              clear hl9
              refine lv_iinc (v := nI (ki + 1)) (lv' := [(3, .int (nI (ki + 1))), (2, .int (yk_AB z2_4.toNatClampNeg)), (0, .int px), (1, .int py)]) hx hb dX7_isUnder_37 hl (k := 3) rfl (yk_inc ki) (by decide) rfl (fun ls hl9 => ?_)
              replace hl := hl9
              clear hl9
              refine lv_goto (tgt := 4) hx hb dX7_isUnder_40 (by decide) ?_
              obtain ⟨n9, rfl⟩ : ∃ n9, n4 = n9 + 1 := ⟨n4 - 1, by omega⟩
              exact ih4 n9 (ki + 1) (yk_AB z2_4.toNatClampNeg) _ _ _ (by omega) (by omega)  hF hP hD hS (lv_sub hl [2, 3, 1, 0] rfl)
            · replace hF := hF.trans (if_pos hc4)
              refine lv_iconst (v := 1) hx hb dX7_isUnder_29 (by decide) ?_
              have hF : f_X7_isUnder px py = 1 := hF
              rw [hF] at hQ
              exact hQ _ _ _ _ dX7_isUnder_30 hP hS
  exact L4 (4 + 1) 4 0 px _ _ _ (Nat.lt_succ_self _) (by omega)  hF hP hD hS (lv_sub hl [2, 3, 1, 0] rfl)

theorem kX7_keep_0 : Cond.fieldLink RX7 33 "FlowPlane" "slots" "[LFlowPlane$Flow;" ∈ wsX7_keep := by decide +kernel
theorem kX7_keep_1 : Cond.fieldLink RX7 10 "FlowPlane" "flow" "LFlowPlane$Flow;" ∈ wsX7_keep := by decide +kernel
theorem kX7_keep_2 : Cond.fieldLink RX7 37 "FlowPlane" "slotKinds" "[I" ∈ wsX7_keep := by decide +kernel
theorem kX7_keep_3 : Cond.constant RX7 83 (-1000001) ∈ wsX7_keep := by decide +kernel
theorem uX7_keep_X7 : ∀ w ∈ u_ws RX7 TX7 13, w ∈ wsX7_keep := by decide +kernel
def f_X7_keep (fu : Nat → Int32) (fv : Nat → Int32) (s0u : Nat → Int32) (s0v : Nat → Int32) (s1u : Nat → Int32) (s1v : Nat → Int32) (s2u : Nat → Int32) (s2v : Nat → Int32) (s3u : Nat → Int32) (s3v : Nat → Int32) (sk : Nat → Int32) (fi : Int32) (px : Int32) : Int32 × Int32 × (Nat → Int32) × (Nat → Int32) × (Nat → Int32) × (Nat → Int32) × (Nat → Int32) × (Nat → Int32) × (Nat → Int32) × (Nat → Int32) × (Nat → Int32) := (if (f_X7_isSlot px) = 0 then (((f_X7_finding fi (-1000001)).1), ((f_X7_finding fi (-1000001)).2), s0u, s0v, s1u, s1v, s2u, s2v, s3u, s3v, sk) else (if px.toNatClampNeg = 0 then (((upd sk px.toNatClampNeg (f_X1_lastKind fu fv)) px.toNatClampNeg), fi, ((f_X1_become s0u s0v fu fv).1), ((f_X1_become s0u s0v fu fv).2), s1u, s1v, s2u, s2v, s3u, s3v, (upd sk px.toNatClampNeg (f_X1_lastKind fu fv))) else (if px.toNatClampNeg = 1 then (((upd sk px.toNatClampNeg (f_X1_lastKind fu fv)) px.toNatClampNeg), fi, s0u, s0v, ((f_X1_become s1u s1v fu fv).1), ((f_X1_become s1u s1v fu fv).2), s2u, s2v, s3u, s3v, (upd sk px.toNatClampNeg (f_X1_lastKind fu fv))) else (if px.toNatClampNeg = 2 then (((upd sk px.toNatClampNeg (f_X1_lastKind fu fv)) px.toNatClampNeg), fi, s0u, s0v, s1u, s1v, ((f_X1_become s2u s2v fu fv).1), ((f_X1_become s2u s2v fu fv).2), s3u, s3v, (upd sk px.toNatClampNeg (f_X1_lastKind fu fv))) else (((upd sk px.toNatClampNeg (f_X1_lastKind fu fv)) px.toNatClampNeg), fi, s0u, s0v, s1u, s1v, s2u, s2v, ((f_X1_become s3u s3v fu fv).1), ((f_X1_become s3u s3v fu fv).2), (upd sk px.toNatClampNeg (f_X1_lastKind fu fv)))))))
set_option maxHeartbeats 400000000 in
set_option maxRecDepth 100000 in
theorem c_X7_keep (l : Launch) (D : va_G) (cy : Nat → ClassId) (ta : Nat) (fa : Nat) (fap : Nat) (fapn : Nat) (faq : Nat) (faqn : Nat) (sa : Nat) (sa0 : Nat) (sa0p : Nat) (sa0pn : Nat) (sa0q : Nat) (sa0qn : Nat) (sa1 : Nat) (sa1p : Nat) (sa1pn : Nat) (sa1q : Nat) (sa1qn : Nat) (sa2 : Nat) (sa2p : Nat) (sa2pn : Nat) (sa2q : Nat) (sa2qn : Nat) (sa3 : Nat) (sa3p : Nat) (sa3pn : Nat) (sa3q : Nat) (sa3qn : Nat) (ka : Nat) (a_draft : Nat) (a_fence : Nat) (a_past : Nat) (a_sheets : Nat) (a_speedX : Nat) (a_speedY : Nat) (a_leftward : Nat) (a_change : Nat) (a_table : Nat) (fu : Nat → Int32) (fv : Nat → Int32) (s0u : Nat → Int32) (s0v : Nat → Int32) (s1u : Nat → Int32) (s1v : Nat → Int32) (s2u : Nat → Int32) (s2v : Nat → Int32) (s3u : Nat → Int32) (s3v : Nat → Int32) (sk : Nat → Int32) (fi : Int32) (px : Int32) : yk_Ci l D vwCl (yk_ty cy) yX7_keep wsX7_keep 4 84 [.ref ta, .int px] [(ta, .inr (7, [.ref fa, .ref a_draft, .ref a_fence, .ref a_past, .ref sa, .ref ka, .ref a_sheets, .ref a_speedX, .ref a_speedY, .ref a_leftward, .ref a_change, .ref a_table, .int fi])), (fa, .inr (1, [.ref fap, .ref faq])), (fap, .inr (3, [.ref fapn])), (fapn, .inl (cy 0, 6, .inl fu)), (faq, .inr (3, [.ref faqn])), (faqn, .inl (cy 0, 6, .inl fv)), (sa, .inl (cy 3, 4, .inr (.inr (.inr (.inr (yk_refs [sa0, sa1, sa2, sa3])))))), (sa0, .inr (1, [.ref sa0p, .ref sa0q])), (sa0p, .inr (3, [.ref sa0pn])), (sa0pn, .inl (cy 0, 6, .inl s0u)), (sa0q, .inr (3, [.ref sa0qn])), (sa0qn, .inl (cy 0, 6, .inl s0v)), (sa1, .inr (1, [.ref sa1p, .ref sa1q])), (sa1p, .inr (3, [.ref sa1pn])), (sa1pn, .inl (cy 0, 6, .inl s1u)), (sa1q, .inr (3, [.ref sa1qn])), (sa1qn, .inl (cy 0, 6, .inl s1v)), (sa2, .inr (1, [.ref sa2p, .ref sa2q])), (sa2p, .inr (3, [.ref sa2pn])), (sa2pn, .inl (cy 0, 6, .inl s2u)), (sa2q, .inr (3, [.ref sa2qn])), (sa2qn, .inl (cy 0, 6, .inl s2v)), (sa3, .inr (1, [.ref sa3p, .ref sa3q])), (sa3p, .inr (3, [.ref sa3pn])), (sa3pn, .inl (cy 0, 6, .inl s3u)), (sa3q, .inr (3, [.ref sa3qn])), (sa3qn, .inl (cy 0, 6, .inl s3v)), (ka, .inl (cy 0, 4, .inl sk))] ((f_X7_keep fu fv s0u s0v s1u s1v s2u s2v s3u s3v sk fi px).1) [(ta, .inr (7, [.ref fa, .ref a_draft, .ref a_fence, .ref a_past, .ref sa, .ref ka, .ref a_sheets, .ref a_speedX, .ref a_speedY, .ref a_leftward, .ref a_change, .ref a_table, .int ((f_X7_keep fu fv s0u s0v s1u s1v s2u s2v s3u s3v sk fi px).2.1)])), (fa, .inr (1, [.ref fap, .ref faq])), (fap, .inr (3, [.ref fapn])), (fapn, .inl (cy 0, 6, .inl fu)), (faq, .inr (3, [.ref faqn])), (faqn, .inl (cy 0, 6, .inl fv)), (sa, .inl (cy 3, 4, .inr (.inr (.inr (.inr (yk_refs [sa0, sa1, sa2, sa3])))))), (sa0, .inr (1, [.ref sa0p, .ref sa0q])), (sa0p, .inr (3, [.ref sa0pn])), (sa0pn, .inl (cy 0, 6, .inl ((f_X7_keep fu fv s0u s0v s1u s1v s2u s2v s3u s3v sk fi px).2.2.1))), (sa0q, .inr (3, [.ref sa0qn])), (sa0qn, .inl (cy 0, 6, .inl ((f_X7_keep fu fv s0u s0v s1u s1v s2u s2v s3u s3v sk fi px).2.2.2.1))), (sa1, .inr (1, [.ref sa1p, .ref sa1q])), (sa1p, .inr (3, [.ref sa1pn])), (sa1pn, .inl (cy 0, 6, .inl ((f_X7_keep fu fv s0u s0v s1u s1v s2u s2v s3u s3v sk fi px).2.2.2.2.1))), (sa1q, .inr (3, [.ref sa1qn])), (sa1qn, .inl (cy 0, 6, .inl ((f_X7_keep fu fv s0u s0v s1u s1v s2u s2v s3u s3v sk fi px).2.2.2.2.2.1))), (sa2, .inr (1, [.ref sa2p, .ref sa2q])), (sa2p, .inr (3, [.ref sa2pn])), (sa2pn, .inl (cy 0, 6, .inl ((f_X7_keep fu fv s0u s0v s1u s1v s2u s2v s3u s3v sk fi px).2.2.2.2.2.2.1))), (sa2q, .inr (3, [.ref sa2qn])), (sa2qn, .inl (cy 0, 6, .inl ((f_X7_keep fu fv s0u s0v s1u s1v s2u s2v s3u s3v sk fi px).2.2.2.2.2.2.2.1))), (sa3, .inr (1, [.ref sa3p, .ref sa3q])), (sa3p, .inr (3, [.ref sa3pn])), (sa3pn, .inl (cy 0, 6, .inl ((f_X7_keep fu fv s0u s0v s1u s1v s2u s2v s3u s3v sk fi px).2.2.2.2.2.2.2.2.1))), (sa3q, .inr (3, [.ref sa3qn])), (sa3qn, .inl (cy 0, 6, .inl ((f_X7_keep fu fv s0u s0v s1u s1v s2u s2v s3u s3v sk fi px).2.2.2.2.2.2.2.2.2.1))), (ka, .inl (cy 0, 4, .inl ((f_X7_keep fu fv s0u s0v s1u s1v s2u s2v s3u s3v sk fi px).2.2.2.2.2.2.2.2.2.2)))] := by
  refine yk_eI (cc := cX7_keep) (maxL := 2) (by decide) rfl (Nat.le_of_ble_eq_true rfl) rfl ?_
  intro p e R s m args below meth c A Q ls H locs hx hb hml hown hts hRf hRl hA hK hG hP hD hS hl hQ
  have hP : va_P D vwCl [(ta, .inr (7, [.ref fa, .ref a_draft, .ref a_fence, .ref a_past, .ref sa, .ref ka, .ref a_sheets, .ref a_speedX, .ref a_speedY, .ref a_leftward, .ref a_change, .ref a_table, .int fi])), (fa, .inr (1, [.ref fap, .ref faq])), (fap, .inr (3, [.ref fapn])), (fapn, .inl (cy 0, 6, .inl fu)), (faq, .inr (3, [.ref faqn])), (faqn, .inl (cy 0, 6, .inl fv)), (sa, .inl (cy 3, 4, .inr (.inr (.inr (.inr (yk_refs [sa0, sa1, sa2, sa3])))))), (sa0, .inr (1, [.ref sa0p, .ref sa0q])), (sa0p, .inr (3, [.ref sa0pn])), (sa0pn, .inl (cy 0, 6, .inl s0u)), (sa0q, .inr (3, [.ref sa0qn])), (sa0qn, .inl (cy 0, 6, .inl s0v)), (sa1, .inr (1, [.ref sa1p, .ref sa1q])), (sa1p, .inr (3, [.ref sa1pn])), (sa1pn, .inl (cy 0, 6, .inl s1u)), (sa1q, .inr (3, [.ref sa1qn])), (sa1qn, .inl (cy 0, 6, .inl s1v)), (sa2, .inr (1, [.ref sa2p, .ref sa2q])), (sa2p, .inr (3, [.ref sa2pn])), (sa2pn, .inl (cy 0, 6, .inl s2u)), (sa2q, .inr (3, [.ref sa2qn])), (sa2qn, .inl (cy 0, 6, .inl s2v)), (sa3, .inr (1, [.ref sa3p, .ref sa3q])), (sa3p, .inr (3, [.ref sa3pn])), (sa3pn, .inl (cy 0, 6, .inl s3u)), (sa3q, .inr (3, [.ref sa3qn])), (sa3qn, .inl (cy 0, 6, .inl s3v)), (ka, .inl (cy 0, 4, .inl sk))] H := hP
  have hl : lv_has ls 2 [(0, .ref ta), (1, .int px)] := hl
  have hown : s.vm.findClass RX7 = some m.cls := hown
  have hF : (f_X7_keep fu fv s0u s0v s1u s1v s2u s2v s3u s3v sk fi px) = (f_X7_keep fu fv s0u s0v s1u s1v s2u s2v s3u s3v sk fi px) := rfl
  refine lv_iload_n hx hb dX7_keep_0 rfl (lv_at hl 1 rfl) ?_
  refine yk_i [] (va_runS (As := [.int px]) (rest := []) ⟨hx, hb, hml, hown, hts⟩ (c_X7_isSlot l D cy px H.size) (va_cwS 1 hts gX7_keep_X7_isSlot rfl rfl rfl hs_X7_isSlot (yk_room hRf hRl rfl rfl)) (yk_ps hG hA hS hK hP hD [] (by decide +kernel) rfl) rfl rfl hl.1 rfl (lv_room (Nat.le_of_ble_eq_true rfl)) dX7_keep_1 ⟨Nat.zero_le _, Nat.zero_le _⟩) hP hD hS hA rfl rfl (fun H locs hP9 hD9 hS9 => ?_)
  replace hP : va_P D vwCl [(ta, .inr (7, [.ref fa, .ref a_draft, .ref a_fence, .ref a_past, .ref sa, .ref ka, .ref a_sheets, .ref a_speedX, .ref a_speedY, .ref a_leftward, .ref a_change, .ref a_table, .int fi])), (fa, .inr (1, [.ref fap, .ref faq])), (fap, .inr (3, [.ref fapn])), (fapn, .inl (cy 0, 6, .inl fu)), (faq, .inr (3, [.ref faqn])), (faqn, .inl (cy 0, 6, .inl fv)), (sa, .inl (cy 3, 4, .inr (.inr (.inr (.inr (yk_refs [sa0, sa1, sa2, sa3])))))), (sa0, .inr (1, [.ref sa0p, .ref sa0q])), (sa0p, .inr (3, [.ref sa0pn])), (sa0pn, .inl (cy 0, 6, .inl s0u)), (sa0q, .inr (3, [.ref sa0qn])), (sa0qn, .inl (cy 0, 6, .inl s0v)), (sa1, .inr (1, [.ref sa1p, .ref sa1q])), (sa1p, .inr (3, [.ref sa1pn])), (sa1pn, .inl (cy 0, 6, .inl s1u)), (sa1q, .inr (3, [.ref sa1qn])), (sa1qn, .inl (cy 0, 6, .inl s1v)), (sa2, .inr (1, [.ref sa2p, .ref sa2q])), (sa2p, .inr (3, [.ref sa2pn])), (sa2pn, .inl (cy 0, 6, .inl s2u)), (sa2q, .inr (3, [.ref sa2qn])), (sa2qn, .inl (cy 0, 6, .inl s2v)), (sa3, .inr (1, [.ref sa3p, .ref sa3q])), (sa3p, .inr (3, [.ref sa3pn])), (sa3pn, .inl (cy 0, 6, .inl s3u)), (sa3q, .inr (3, [.ref sa3qn])), (sa3qn, .inl (cy 0, 6, .inl s3v)), (ka, .inl (cy 0, 4, .inl sk))] H := hP9
  replace hD : va_D A [(ta, .inr (7, [.ref fa, .ref a_draft, .ref a_fence, .ref a_past, .ref sa, .ref ka, .ref a_sheets, .ref a_speedX, .ref a_speedY, .ref a_leftward, .ref a_change, .ref a_table, .int fi])), (fa, .inr (1, [.ref fap, .ref faq])), (fap, .inr (3, [.ref fapn])), (fapn, .inl (cy 0, 6, .inl fu)), (faq, .inr (3, [.ref faqn])), (faqn, .inl (cy 0, 6, .inl fv)), (sa, .inl (cy 3, 4, .inr (.inr (.inr (.inr (yk_refs [sa0, sa1, sa2, sa3])))))), (sa0, .inr (1, [.ref sa0p, .ref sa0q])), (sa0p, .inr (3, [.ref sa0pn])), (sa0pn, .inl (cy 0, 6, .inl s0u)), (sa0q, .inr (3, [.ref sa0qn])), (sa0qn, .inl (cy 0, 6, .inl s0v)), (sa1, .inr (1, [.ref sa1p, .ref sa1q])), (sa1p, .inr (3, [.ref sa1pn])), (sa1pn, .inl (cy 0, 6, .inl s1u)), (sa1q, .inr (3, [.ref sa1qn])), (sa1qn, .inl (cy 0, 6, .inl s1v)), (sa2, .inr (1, [.ref sa2p, .ref sa2q])), (sa2p, .inr (3, [.ref sa2pn])), (sa2pn, .inl (cy 0, 6, .inl s2u)), (sa2q, .inr (3, [.ref sa2qn])), (sa2qn, .inl (cy 0, 6, .inl s2v)), (sa3, .inr (1, [.ref sa3p, .ref sa3q])), (sa3p, .inr (3, [.ref sa3pn])), (sa3pn, .inl (cy 0, 6, .inl s3u)), (sa3q, .inr (3, [.ref sa3qn])), (sa3qn, .inl (cy 0, 6, .inl s3v)), (ka, .inl (cy 0, 4, .inl sk))] := hD9
  replace hS := hS9
  clear hP9 hD9 hS9
  refine lv_if_ne (tgt := 14) hx hb dX7_keep_4 (by decide) (fun hc1 => ?_) (fun hc1 => ?_)
  · replace hF := hF.trans (if_neg hc1)
    have hq2 : px = nI px.toNatClampNeg := (ix_slot (by assumption)).1
    have hq2b : px.toNatClampNeg < 4 := (ix_slot (by assumption)).2
    rw [hq2] at hl
    refine lv_aload_n hx hb dX7_keep_14 rfl (lv_at hl 0 rfl) ?_
    refine va_get (D := D) (ci := 7) (v := .ref sa) (C := RX7) (T := TX7) (N := 13) hx hb hts uX7_keep_X7 hown hK hP 0 rfl rfl 4 (by decide) (hts _ kX7_keep_0) (fun _ h9 => h9) rfl dX7_keep_15 ?_
    refine lv_iload_n hx hb dX7_keep_18 rfl (lv_at hl 1 rfl) ?_
    by_cases hc3 : px.toNatClampNeg = 0
    · replace hF := hF.trans (if_pos hc3)
      refine yk_ti (y := nI 0) (congrArg nI hc3) ?_
      refine yk_aldq hx hb hK hP 6 3 rfl rfl 0 (by decide) (by decide) rfl dX7_keep_19 ?_
      refine lv_aload_n hx hb dX7_keep_20 rfl (lv_at hl 0 rfl) ?_
      refine va_get (D := D) (ci := 7) (v := .ref fa) (C := RX7) (T := TX7) (N := 13) hx hb hts uX7_keep_X7 hown hK hP 0 rfl rfl 0 (by decide) (hts _ kX7_keep_1) (fun _ h9 => h9) rfl dX7_keep_21 ?_
      refine yk_v [7, 8, 9, 10, 11, 1, 2, 3, 4, 5] (va_runV (As := [.ref fa]) (rest := []) ⟨hx, hb, hml, hown, hts⟩ (c_X1_become l D cy sa0 sa0p sa0pn sa0q sa0qn fa fap fapn faq faqn s0u s0v fu fv H.size) (cwV 1 hts gX7_keep_X1_become rfl rfl rfl hv_X1_become (yk_room hRf hRl rfl rfl)) (yk_pv (q := (RX1, TX1, 2)) hG hA hS hK hP hD [7, 8, 9, 10, 11, 1, 2, 3, 4, 5] (by decide +kernel) rfl rfl rfl) rfl rfl hl.1 rfl (lv_room (Nat.le_of_ble_eq_true rfl)) dX7_keep_24 ⟨Nat.zero_le _, Nat.zero_le _⟩) hP hD hS hA rfl (Eq.trans (b := [sa0, sa0p, sa0pn, sa0q, sa0qn, fa, fap, fapn, faq, faqn]) rfl rfl) (fun H locs hP9 hD9 hS9 => ?_)
      replace hP : va_P D vwCl [(ta, .inr (7, [.ref fa, .ref a_draft, .ref a_fence, .ref a_past, .ref sa, .ref ka, .ref a_sheets, .ref a_speedX, .ref a_speedY, .ref a_leftward, .ref a_change, .ref a_table, .int fi])), (fa, .inr (1, [.ref fap, .ref faq])), (fap, .inr (3, [.ref fapn])), (fapn, .inl (cy 0, 6, .inl fu)), (faq, .inr (3, [.ref faqn])), (faqn, .inl (cy 0, 6, .inl fv)), (sa, .inl (cy 3, 4, .inr (.inr (.inr (.inr (yk_refs [sa0, sa1, sa2, sa3])))))), (sa0, .inr (1, [.ref sa0p, .ref sa0q])), (sa0p, .inr (3, [.ref sa0pn])), (sa0pn, .inl (cy 0, 6, .inl ((f_X1_become s0u s0v fu fv).1))), (sa0q, .inr (3, [.ref sa0qn])), (sa0qn, .inl (cy 0, 6, .inl ((f_X1_become s0u s0v fu fv).2))), (sa1, .inr (1, [.ref sa1p, .ref sa1q])), (sa1p, .inr (3, [.ref sa1pn])), (sa1pn, .inl (cy 0, 6, .inl s1u)), (sa1q, .inr (3, [.ref sa1qn])), (sa1qn, .inl (cy 0, 6, .inl s1v)), (sa2, .inr (1, [.ref sa2p, .ref sa2q])), (sa2p, .inr (3, [.ref sa2pn])), (sa2pn, .inl (cy 0, 6, .inl s2u)), (sa2q, .inr (3, [.ref sa2qn])), (sa2qn, .inl (cy 0, 6, .inl s2v)), (sa3, .inr (1, [.ref sa3p, .ref sa3q])), (sa3p, .inr (3, [.ref sa3pn])), (sa3pn, .inl (cy 0, 6, .inl s3u)), (sa3q, .inr (3, [.ref sa3qn])), (sa3qn, .inl (cy 0, 6, .inl s3v)), (ka, .inl (cy 0, 4, .inl sk))] H := hP9
      replace hD : va_D A [(ta, .inr (7, [.ref fa, .ref a_draft, .ref a_fence, .ref a_past, .ref sa, .ref ka, .ref a_sheets, .ref a_speedX, .ref a_speedY, .ref a_leftward, .ref a_change, .ref a_table, .int fi])), (fa, .inr (1, [.ref fap, .ref faq])), (fap, .inr (3, [.ref fapn])), (fapn, .inl (cy 0, 6, .inl fu)), (faq, .inr (3, [.ref faqn])), (faqn, .inl (cy 0, 6, .inl fv)), (sa, .inl (cy 3, 4, .inr (.inr (.inr (.inr (yk_refs [sa0, sa1, sa2, sa3])))))), (sa0, .inr (1, [.ref sa0p, .ref sa0q])), (sa0p, .inr (3, [.ref sa0pn])), (sa0pn, .inl (cy 0, 6, .inl ((f_X1_become s0u s0v fu fv).1))), (sa0q, .inr (3, [.ref sa0qn])), (sa0qn, .inl (cy 0, 6, .inl ((f_X1_become s0u s0v fu fv).2))), (sa1, .inr (1, [.ref sa1p, .ref sa1q])), (sa1p, .inr (3, [.ref sa1pn])), (sa1pn, .inl (cy 0, 6, .inl s1u)), (sa1q, .inr (3, [.ref sa1qn])), (sa1qn, .inl (cy 0, 6, .inl s1v)), (sa2, .inr (1, [.ref sa2p, .ref sa2q])), (sa2p, .inr (3, [.ref sa2pn])), (sa2pn, .inl (cy 0, 6, .inl s2u)), (sa2q, .inr (3, [.ref sa2qn])), (sa2qn, .inl (cy 0, 6, .inl s2v)), (sa3, .inr (1, [.ref sa3p, .ref sa3q])), (sa3p, .inr (3, [.ref sa3pn])), (sa3pn, .inl (cy 0, 6, .inl s3u)), (sa3q, .inr (3, [.ref sa3qn])), (sa3qn, .inl (cy 0, 6, .inl s3v)), (ka, .inl (cy 0, 4, .inl sk))] := hD9
      replace hS := hS9
      clear hP9 hD9 hS9
      refine lv_aload_n hx hb dX7_keep_27 rfl (lv_at hl 0 rfl) ?_
      refine va_get (D := D) (ci := 7) (v := .ref ka) (C := RX7) (T := TX7) (N := 13) hx hb hts uX7_keep_X7 hown hK hP 0 rfl rfl 5 (by decide) (hts _ kX7_keep_2) (fun _ h9 => h9) rfl dX7_keep_28 ?_
      refine lv_iload_n hx hb dX7_keep_31 rfl (lv_at hl 1 rfl) ?_
      refine lv_aload_n hx hb dX7_keep_32 rfl (lv_at hl 0 rfl) ?_
      refine va_get (D := D) (ci := 7) (v := .ref fa) (C := RX7) (T := TX7) (N := 13) hx hb hts uX7_keep_X7 hown hK hP 0 rfl rfl 0 (by decide) (hts _ kX7_keep_1) (fun _ h9 => h9) rfl dX7_keep_33 ?_
      refine yk_i [1, 2, 3, 4, 5] (va_runV (As := []) (rest := [.int (nI px.toNatClampNeg), .ref ka]) ⟨hx, hb, hml, hown, hts⟩ (c_X1_lastKind l D cy fa fap fapn faq faqn fu fv H.size) (cwV 0 hts gX7_keep_X1_lastKind rfl rfl rfl hv_X1_lastKind (yk_room hRf hRl rfl rfl)) (yk_pv (q := (RX1, TX1, 2)) hG hA hS hK hP hD [1, 2, 3, 4, 5] (by decide +kernel) rfl rfl rfl) rfl rfl hl.1 rfl (lv_room (Nat.le_of_ble_eq_true rfl)) dX7_keep_36 ⟨Nat.zero_le _, Nat.zero_le _⟩) hP hD hS hA rfl (Eq.trans (b := [fa, fap, fapn, faq, faqn]) rfl rfl) (fun H locs hP9 hD9 hS9 => ?_)
      replace hP : va_P D vwCl [(ta, .inr (7, [.ref fa, .ref a_draft, .ref a_fence, .ref a_past, .ref sa, .ref ka, .ref a_sheets, .ref a_speedX, .ref a_speedY, .ref a_leftward, .ref a_change, .ref a_table, .int fi])), (fa, .inr (1, [.ref fap, .ref faq])), (fap, .inr (3, [.ref fapn])), (fapn, .inl (cy 0, 6, .inl fu)), (faq, .inr (3, [.ref faqn])), (faqn, .inl (cy 0, 6, .inl fv)), (sa, .inl (cy 3, 4, .inr (.inr (.inr (.inr (yk_refs [sa0, sa1, sa2, sa3])))))), (sa0, .inr (1, [.ref sa0p, .ref sa0q])), (sa0p, .inr (3, [.ref sa0pn])), (sa0pn, .inl (cy 0, 6, .inl ((f_X1_become s0u s0v fu fv).1))), (sa0q, .inr (3, [.ref sa0qn])), (sa0qn, .inl (cy 0, 6, .inl ((f_X1_become s0u s0v fu fv).2))), (sa1, .inr (1, [.ref sa1p, .ref sa1q])), (sa1p, .inr (3, [.ref sa1pn])), (sa1pn, .inl (cy 0, 6, .inl s1u)), (sa1q, .inr (3, [.ref sa1qn])), (sa1qn, .inl (cy 0, 6, .inl s1v)), (sa2, .inr (1, [.ref sa2p, .ref sa2q])), (sa2p, .inr (3, [.ref sa2pn])), (sa2pn, .inl (cy 0, 6, .inl s2u)), (sa2q, .inr (3, [.ref sa2qn])), (sa2qn, .inl (cy 0, 6, .inl s2v)), (sa3, .inr (1, [.ref sa3p, .ref sa3q])), (sa3p, .inr (3, [.ref sa3pn])), (sa3pn, .inl (cy 0, 6, .inl s3u)), (sa3q, .inr (3, [.ref sa3qn])), (sa3qn, .inl (cy 0, 6, .inl s3v)), (ka, .inl (cy 0, 4, .inl sk))] H := hP9
      replace hD : va_D A [(ta, .inr (7, [.ref fa, .ref a_draft, .ref a_fence, .ref a_past, .ref sa, .ref ka, .ref a_sheets, .ref a_speedX, .ref a_speedY, .ref a_leftward, .ref a_change, .ref a_table, .int fi])), (fa, .inr (1, [.ref fap, .ref faq])), (fap, .inr (3, [.ref fapn])), (fapn, .inl (cy 0, 6, .inl fu)), (faq, .inr (3, [.ref faqn])), (faqn, .inl (cy 0, 6, .inl fv)), (sa, .inl (cy 3, 4, .inr (.inr (.inr (.inr (yk_refs [sa0, sa1, sa2, sa3])))))), (sa0, .inr (1, [.ref sa0p, .ref sa0q])), (sa0p, .inr (3, [.ref sa0pn])), (sa0pn, .inl (cy 0, 6, .inl ((f_X1_become s0u s0v fu fv).1))), (sa0q, .inr (3, [.ref sa0qn])), (sa0qn, .inl (cy 0, 6, .inl ((f_X1_become s0u s0v fu fv).2))), (sa1, .inr (1, [.ref sa1p, .ref sa1q])), (sa1p, .inr (3, [.ref sa1pn])), (sa1pn, .inl (cy 0, 6, .inl s1u)), (sa1q, .inr (3, [.ref sa1qn])), (sa1qn, .inl (cy 0, 6, .inl s1v)), (sa2, .inr (1, [.ref sa2p, .ref sa2q])), (sa2p, .inr (3, [.ref sa2pn])), (sa2pn, .inl (cy 0, 6, .inl s2u)), (sa2q, .inr (3, [.ref sa2qn])), (sa2qn, .inl (cy 0, 6, .inl s2v)), (sa3, .inr (1, [.ref sa3p, .ref sa3q])), (sa3p, .inr (3, [.ref sa3pn])), (sa3pn, .inl (cy 0, 6, .inl s3u)), (sa3q, .inr (3, [.ref sa3qn])), (sa3qn, .inl (cy 0, 6, .inl s3v)), (ka, .inl (cy 0, 4, .inl sk))] := hD9
      replace hS := hS9
      clear hP9 hD9 hS9
      refine yk_ist hx hb hK hP hD hS 27 0 rfl rfl px.toNatClampNeg (by omega) (by decide) dX7_keep_39 (fun H locs hP9 hD9 hS9 => ?_)
      replace hP : va_P D vwCl [(ta, .inr (7, [.ref fa, .ref a_draft, .ref a_fence, .ref a_past, .ref sa, .ref ka, .ref a_sheets, .ref a_speedX, .ref a_speedY, .ref a_leftward, .ref a_change, .ref a_table, .int fi])), (fa, .inr (1, [.ref fap, .ref faq])), (fap, .inr (3, [.ref fapn])), (fapn, .inl (cy 0, 6, .inl fu)), (faq, .inr (3, [.ref faqn])), (faqn, .inl (cy 0, 6, .inl fv)), (sa, .inl (cy 3, 4, .inr (.inr (.inr (.inr (yk_refs [sa0, sa1, sa2, sa3])))))), (sa0, .inr (1, [.ref sa0p, .ref sa0q])), (sa0p, .inr (3, [.ref sa0pn])), (sa0pn, .inl (cy 0, 6, .inl ((f_X1_become s0u s0v fu fv).1))), (sa0q, .inr (3, [.ref sa0qn])), (sa0qn, .inl (cy 0, 6, .inl ((f_X1_become s0u s0v fu fv).2))), (sa1, .inr (1, [.ref sa1p, .ref sa1q])), (sa1p, .inr (3, [.ref sa1pn])), (sa1pn, .inl (cy 0, 6, .inl s1u)), (sa1q, .inr (3, [.ref sa1qn])), (sa1qn, .inl (cy 0, 6, .inl s1v)), (sa2, .inr (1, [.ref sa2p, .ref sa2q])), (sa2p, .inr (3, [.ref sa2pn])), (sa2pn, .inl (cy 0, 6, .inl s2u)), (sa2q, .inr (3, [.ref sa2qn])), (sa2qn, .inl (cy 0, 6, .inl s2v)), (sa3, .inr (1, [.ref sa3p, .ref sa3q])), (sa3p, .inr (3, [.ref sa3pn])), (sa3pn, .inl (cy 0, 6, .inl s3u)), (sa3q, .inr (3, [.ref sa3qn])), (sa3qn, .inl (cy 0, 6, .inl s3v)), (ka, .inl (cy 0, 4, .inl (upd sk px.toNatClampNeg (f_X1_lastKind fu fv))))] H := hP9
      replace hD : va_D A [(ta, .inr (7, [.ref fa, .ref a_draft, .ref a_fence, .ref a_past, .ref sa, .ref ka, .ref a_sheets, .ref a_speedX, .ref a_speedY, .ref a_leftward, .ref a_change, .ref a_table, .int fi])), (fa, .inr (1, [.ref fap, .ref faq])), (fap, .inr (3, [.ref fapn])), (fapn, .inl (cy 0, 6, .inl fu)), (faq, .inr (3, [.ref faqn])), (faqn, .inl (cy 0, 6, .inl fv)), (sa, .inl (cy 3, 4, .inr (.inr (.inr (.inr (yk_refs [sa0, sa1, sa2, sa3])))))), (sa0, .inr (1, [.ref sa0p, .ref sa0q])), (sa0p, .inr (3, [.ref sa0pn])), (sa0pn, .inl (cy 0, 6, .inl ((f_X1_become s0u s0v fu fv).1))), (sa0q, .inr (3, [.ref sa0qn])), (sa0qn, .inl (cy 0, 6, .inl ((f_X1_become s0u s0v fu fv).2))), (sa1, .inr (1, [.ref sa1p, .ref sa1q])), (sa1p, .inr (3, [.ref sa1pn])), (sa1pn, .inl (cy 0, 6, .inl s1u)), (sa1q, .inr (3, [.ref sa1qn])), (sa1qn, .inl (cy 0, 6, .inl s1v)), (sa2, .inr (1, [.ref sa2p, .ref sa2q])), (sa2p, .inr (3, [.ref sa2pn])), (sa2pn, .inl (cy 0, 6, .inl s2u)), (sa2q, .inr (3, [.ref sa2qn])), (sa2qn, .inl (cy 0, 6, .inl s2v)), (sa3, .inr (1, [.ref sa3p, .ref sa3q])), (sa3p, .inr (3, [.ref sa3pn])), (sa3pn, .inl (cy 0, 6, .inl s3u)), (sa3q, .inr (3, [.ref sa3qn])), (sa3qn, .inl (cy 0, 6, .inl s3v)), (ka, .inl (cy 0, 4, .inl (upd sk px.toNatClampNeg (f_X1_lastKind fu fv))))] := hD9
      replace hS := hS9
      clear hP9 hD9 hS9
      refine lv_aload_n hx hb dX7_keep_40 rfl (lv_at hl 0 rfl) ?_
      refine va_get (D := D) (ci := 7) (v := .ref ka) (C := RX7) (T := TX7) (N := 13) hx hb hts uX7_keep_X7 hown hK hP 0 rfl rfl 5 (by decide) (hts _ kX7_keep_2) (fun _ h9 => h9) rfl dX7_keep_41 ?_
      refine lv_iload_n hx hb dX7_keep_44 rfl (lv_at hl 1 rfl) ?_
      refine yk_ild hx hb hK hP 27 0 rfl rfl px.toNatClampNeg (by omega) (by decide) dX7_keep_45 ?_
      have hF : f_X7_keep fu fv s0u s0v s1u s1v s2u s2v s3u s3v sk fi px = (((upd sk px.toNatClampNeg (f_X1_lastKind fu fv)) px.toNatClampNeg), fi, ((f_X1_become s0u s0v fu fv).1), ((f_X1_become s0u s0v fu fv).2), s1u, s1v, s2u, s2v, s3u, s3v, (upd sk px.toNatClampNeg (f_X1_lastKind fu fv))) := hF
      have hf0 := yk_fst hF
      have hg0 := yk_snd hF
      have hf1 := yk_fst hg0
      have hg1 := yk_snd hg0
      have hf2 := yk_fst hg1
      have hg2 := yk_snd hg1
      have hf3 := yk_fst hg2
      have hg3 := yk_snd hg2
      have hf4 := yk_fst hg3
      have hg4 := yk_snd hg3
      have hf5 := yk_fst hg4
      have hg5 := yk_snd hg4
      have hf6 := yk_fst hg5
      have hg6 := yk_snd hg5
      have hf7 := yk_fst hg6
      have hg7 := yk_snd hg6
      have hf8 := yk_fst hg7
      have hg8 := yk_snd hg7
      have hf9 := yk_fst hg8
      have hg9 := yk_snd hg8
      rw [hf0, hf1, hf2, hf3, hf4, hf5, hf6, hf7, hf8, hf9, hg9] at hQ
      exact hQ _ _ _ _ dX7_keep_46 hP hS
    · replace hF := hF.trans (if_neg hc3)
      by_cases hc4 : px.toNatClampNeg = 1
      · replace hF := hF.trans (if_pos hc4)
        refine yk_ti (y := nI 1) (congrArg nI hc4) ?_
        refine yk_aldq hx hb hK hP 6 3 rfl rfl 1 (by decide) (by decide) rfl dX7_keep_19 ?_
        refine lv_aload_n hx hb dX7_keep_20 rfl (lv_at hl 0 rfl) ?_
        refine va_get (D := D) (ci := 7) (v := .ref fa) (C := RX7) (T := TX7) (N := 13) hx hb hts uX7_keep_X7 hown hK hP 0 rfl rfl 0 (by decide) (hts _ kX7_keep_1) (fun _ h9 => h9) rfl dX7_keep_21 ?_
        refine yk_v [12, 13, 14, 15, 16, 1, 2, 3, 4, 5] (va_runV (As := [.ref fa]) (rest := []) ⟨hx, hb, hml, hown, hts⟩ (c_X1_become l D cy sa1 sa1p sa1pn sa1q sa1qn fa fap fapn faq faqn s1u s1v fu fv H.size) (cwV 1 hts gX7_keep_X1_become rfl rfl rfl hv_X1_become (yk_room hRf hRl rfl rfl)) (yk_pv (q := (RX1, TX1, 2)) hG hA hS hK hP hD [12, 13, 14, 15, 16, 1, 2, 3, 4, 5] (by decide +kernel) rfl rfl rfl) rfl rfl hl.1 rfl (lv_room (Nat.le_of_ble_eq_true rfl)) dX7_keep_24 ⟨Nat.zero_le _, Nat.zero_le _⟩) hP hD hS hA rfl (Eq.trans (b := [sa1, sa1p, sa1pn, sa1q, sa1qn, fa, fap, fapn, faq, faqn]) rfl rfl) (fun H locs hP9 hD9 hS9 => ?_)
        replace hP : va_P D vwCl [(ta, .inr (7, [.ref fa, .ref a_draft, .ref a_fence, .ref a_past, .ref sa, .ref ka, .ref a_sheets, .ref a_speedX, .ref a_speedY, .ref a_leftward, .ref a_change, .ref a_table, .int fi])), (fa, .inr (1, [.ref fap, .ref faq])), (fap, .inr (3, [.ref fapn])), (fapn, .inl (cy 0, 6, .inl fu)), (faq, .inr (3, [.ref faqn])), (faqn, .inl (cy 0, 6, .inl fv)), (sa, .inl (cy 3, 4, .inr (.inr (.inr (.inr (yk_refs [sa0, sa1, sa2, sa3])))))), (sa0, .inr (1, [.ref sa0p, .ref sa0q])), (sa0p, .inr (3, [.ref sa0pn])), (sa0pn, .inl (cy 0, 6, .inl s0u)), (sa0q, .inr (3, [.ref sa0qn])), (sa0qn, .inl (cy 0, 6, .inl s0v)), (sa1, .inr (1, [.ref sa1p, .ref sa1q])), (sa1p, .inr (3, [.ref sa1pn])), (sa1pn, .inl (cy 0, 6, .inl ((f_X1_become s1u s1v fu fv).1))), (sa1q, .inr (3, [.ref sa1qn])), (sa1qn, .inl (cy 0, 6, .inl ((f_X1_become s1u s1v fu fv).2))), (sa2, .inr (1, [.ref sa2p, .ref sa2q])), (sa2p, .inr (3, [.ref sa2pn])), (sa2pn, .inl (cy 0, 6, .inl s2u)), (sa2q, .inr (3, [.ref sa2qn])), (sa2qn, .inl (cy 0, 6, .inl s2v)), (sa3, .inr (1, [.ref sa3p, .ref sa3q])), (sa3p, .inr (3, [.ref sa3pn])), (sa3pn, .inl (cy 0, 6, .inl s3u)), (sa3q, .inr (3, [.ref sa3qn])), (sa3qn, .inl (cy 0, 6, .inl s3v)), (ka, .inl (cy 0, 4, .inl sk))] H := hP9
        replace hD : va_D A [(ta, .inr (7, [.ref fa, .ref a_draft, .ref a_fence, .ref a_past, .ref sa, .ref ka, .ref a_sheets, .ref a_speedX, .ref a_speedY, .ref a_leftward, .ref a_change, .ref a_table, .int fi])), (fa, .inr (1, [.ref fap, .ref faq])), (fap, .inr (3, [.ref fapn])), (fapn, .inl (cy 0, 6, .inl fu)), (faq, .inr (3, [.ref faqn])), (faqn, .inl (cy 0, 6, .inl fv)), (sa, .inl (cy 3, 4, .inr (.inr (.inr (.inr (yk_refs [sa0, sa1, sa2, sa3])))))), (sa0, .inr (1, [.ref sa0p, .ref sa0q])), (sa0p, .inr (3, [.ref sa0pn])), (sa0pn, .inl (cy 0, 6, .inl s0u)), (sa0q, .inr (3, [.ref sa0qn])), (sa0qn, .inl (cy 0, 6, .inl s0v)), (sa1, .inr (1, [.ref sa1p, .ref sa1q])), (sa1p, .inr (3, [.ref sa1pn])), (sa1pn, .inl (cy 0, 6, .inl ((f_X1_become s1u s1v fu fv).1))), (sa1q, .inr (3, [.ref sa1qn])), (sa1qn, .inl (cy 0, 6, .inl ((f_X1_become s1u s1v fu fv).2))), (sa2, .inr (1, [.ref sa2p, .ref sa2q])), (sa2p, .inr (3, [.ref sa2pn])), (sa2pn, .inl (cy 0, 6, .inl s2u)), (sa2q, .inr (3, [.ref sa2qn])), (sa2qn, .inl (cy 0, 6, .inl s2v)), (sa3, .inr (1, [.ref sa3p, .ref sa3q])), (sa3p, .inr (3, [.ref sa3pn])), (sa3pn, .inl (cy 0, 6, .inl s3u)), (sa3q, .inr (3, [.ref sa3qn])), (sa3qn, .inl (cy 0, 6, .inl s3v)), (ka, .inl (cy 0, 4, .inl sk))] := hD9
        replace hS := hS9
        clear hP9 hD9 hS9
        refine lv_aload_n hx hb dX7_keep_27 rfl (lv_at hl 0 rfl) ?_
        refine va_get (D := D) (ci := 7) (v := .ref ka) (C := RX7) (T := TX7) (N := 13) hx hb hts uX7_keep_X7 hown hK hP 0 rfl rfl 5 (by decide) (hts _ kX7_keep_2) (fun _ h9 => h9) rfl dX7_keep_28 ?_
        refine lv_iload_n hx hb dX7_keep_31 rfl (lv_at hl 1 rfl) ?_
        refine lv_aload_n hx hb dX7_keep_32 rfl (lv_at hl 0 rfl) ?_
        refine va_get (D := D) (ci := 7) (v := .ref fa) (C := RX7) (T := TX7) (N := 13) hx hb hts uX7_keep_X7 hown hK hP 0 rfl rfl 0 (by decide) (hts _ kX7_keep_1) (fun _ h9 => h9) rfl dX7_keep_33 ?_
        refine yk_i [1, 2, 3, 4, 5] (va_runV (As := []) (rest := [.int (nI px.toNatClampNeg), .ref ka]) ⟨hx, hb, hml, hown, hts⟩ (c_X1_lastKind l D cy fa fap fapn faq faqn fu fv H.size) (cwV 0 hts gX7_keep_X1_lastKind rfl rfl rfl hv_X1_lastKind (yk_room hRf hRl rfl rfl)) (yk_pv (q := (RX1, TX1, 2)) hG hA hS hK hP hD [1, 2, 3, 4, 5] (by decide +kernel) rfl rfl rfl) rfl rfl hl.1 rfl (lv_room (Nat.le_of_ble_eq_true rfl)) dX7_keep_36 ⟨Nat.zero_le _, Nat.zero_le _⟩) hP hD hS hA rfl (Eq.trans (b := [fa, fap, fapn, faq, faqn]) rfl rfl) (fun H locs hP9 hD9 hS9 => ?_)
        replace hP : va_P D vwCl [(ta, .inr (7, [.ref fa, .ref a_draft, .ref a_fence, .ref a_past, .ref sa, .ref ka, .ref a_sheets, .ref a_speedX, .ref a_speedY, .ref a_leftward, .ref a_change, .ref a_table, .int fi])), (fa, .inr (1, [.ref fap, .ref faq])), (fap, .inr (3, [.ref fapn])), (fapn, .inl (cy 0, 6, .inl fu)), (faq, .inr (3, [.ref faqn])), (faqn, .inl (cy 0, 6, .inl fv)), (sa, .inl (cy 3, 4, .inr (.inr (.inr (.inr (yk_refs [sa0, sa1, sa2, sa3])))))), (sa0, .inr (1, [.ref sa0p, .ref sa0q])), (sa0p, .inr (3, [.ref sa0pn])), (sa0pn, .inl (cy 0, 6, .inl s0u)), (sa0q, .inr (3, [.ref sa0qn])), (sa0qn, .inl (cy 0, 6, .inl s0v)), (sa1, .inr (1, [.ref sa1p, .ref sa1q])), (sa1p, .inr (3, [.ref sa1pn])), (sa1pn, .inl (cy 0, 6, .inl ((f_X1_become s1u s1v fu fv).1))), (sa1q, .inr (3, [.ref sa1qn])), (sa1qn, .inl (cy 0, 6, .inl ((f_X1_become s1u s1v fu fv).2))), (sa2, .inr (1, [.ref sa2p, .ref sa2q])), (sa2p, .inr (3, [.ref sa2pn])), (sa2pn, .inl (cy 0, 6, .inl s2u)), (sa2q, .inr (3, [.ref sa2qn])), (sa2qn, .inl (cy 0, 6, .inl s2v)), (sa3, .inr (1, [.ref sa3p, .ref sa3q])), (sa3p, .inr (3, [.ref sa3pn])), (sa3pn, .inl (cy 0, 6, .inl s3u)), (sa3q, .inr (3, [.ref sa3qn])), (sa3qn, .inl (cy 0, 6, .inl s3v)), (ka, .inl (cy 0, 4, .inl sk))] H := hP9
        replace hD : va_D A [(ta, .inr (7, [.ref fa, .ref a_draft, .ref a_fence, .ref a_past, .ref sa, .ref ka, .ref a_sheets, .ref a_speedX, .ref a_speedY, .ref a_leftward, .ref a_change, .ref a_table, .int fi])), (fa, .inr (1, [.ref fap, .ref faq])), (fap, .inr (3, [.ref fapn])), (fapn, .inl (cy 0, 6, .inl fu)), (faq, .inr (3, [.ref faqn])), (faqn, .inl (cy 0, 6, .inl fv)), (sa, .inl (cy 3, 4, .inr (.inr (.inr (.inr (yk_refs [sa0, sa1, sa2, sa3])))))), (sa0, .inr (1, [.ref sa0p, .ref sa0q])), (sa0p, .inr (3, [.ref sa0pn])), (sa0pn, .inl (cy 0, 6, .inl s0u)), (sa0q, .inr (3, [.ref sa0qn])), (sa0qn, .inl (cy 0, 6, .inl s0v)), (sa1, .inr (1, [.ref sa1p, .ref sa1q])), (sa1p, .inr (3, [.ref sa1pn])), (sa1pn, .inl (cy 0, 6, .inl ((f_X1_become s1u s1v fu fv).1))), (sa1q, .inr (3, [.ref sa1qn])), (sa1qn, .inl (cy 0, 6, .inl ((f_X1_become s1u s1v fu fv).2))), (sa2, .inr (1, [.ref sa2p, .ref sa2q])), (sa2p, .inr (3, [.ref sa2pn])), (sa2pn, .inl (cy 0, 6, .inl s2u)), (sa2q, .inr (3, [.ref sa2qn])), (sa2qn, .inl (cy 0, 6, .inl s2v)), (sa3, .inr (1, [.ref sa3p, .ref sa3q])), (sa3p, .inr (3, [.ref sa3pn])), (sa3pn, .inl (cy 0, 6, .inl s3u)), (sa3q, .inr (3, [.ref sa3qn])), (sa3qn, .inl (cy 0, 6, .inl s3v)), (ka, .inl (cy 0, 4, .inl sk))] := hD9
        replace hS := hS9
        clear hP9 hD9 hS9
        refine yk_ist hx hb hK hP hD hS 27 0 rfl rfl px.toNatClampNeg (by omega) (by decide) dX7_keep_39 (fun H locs hP9 hD9 hS9 => ?_)
        replace hP : va_P D vwCl [(ta, .inr (7, [.ref fa, .ref a_draft, .ref a_fence, .ref a_past, .ref sa, .ref ka, .ref a_sheets, .ref a_speedX, .ref a_speedY, .ref a_leftward, .ref a_change, .ref a_table, .int fi])), (fa, .inr (1, [.ref fap, .ref faq])), (fap, .inr (3, [.ref fapn])), (fapn, .inl (cy 0, 6, .inl fu)), (faq, .inr (3, [.ref faqn])), (faqn, .inl (cy 0, 6, .inl fv)), (sa, .inl (cy 3, 4, .inr (.inr (.inr (.inr (yk_refs [sa0, sa1, sa2, sa3])))))), (sa0, .inr (1, [.ref sa0p, .ref sa0q])), (sa0p, .inr (3, [.ref sa0pn])), (sa0pn, .inl (cy 0, 6, .inl s0u)), (sa0q, .inr (3, [.ref sa0qn])), (sa0qn, .inl (cy 0, 6, .inl s0v)), (sa1, .inr (1, [.ref sa1p, .ref sa1q])), (sa1p, .inr (3, [.ref sa1pn])), (sa1pn, .inl (cy 0, 6, .inl ((f_X1_become s1u s1v fu fv).1))), (sa1q, .inr (3, [.ref sa1qn])), (sa1qn, .inl (cy 0, 6, .inl ((f_X1_become s1u s1v fu fv).2))), (sa2, .inr (1, [.ref sa2p, .ref sa2q])), (sa2p, .inr (3, [.ref sa2pn])), (sa2pn, .inl (cy 0, 6, .inl s2u)), (sa2q, .inr (3, [.ref sa2qn])), (sa2qn, .inl (cy 0, 6, .inl s2v)), (sa3, .inr (1, [.ref sa3p, .ref sa3q])), (sa3p, .inr (3, [.ref sa3pn])), (sa3pn, .inl (cy 0, 6, .inl s3u)), (sa3q, .inr (3, [.ref sa3qn])), (sa3qn, .inl (cy 0, 6, .inl s3v)), (ka, .inl (cy 0, 4, .inl (upd sk px.toNatClampNeg (f_X1_lastKind fu fv))))] H := hP9
        replace hD : va_D A [(ta, .inr (7, [.ref fa, .ref a_draft, .ref a_fence, .ref a_past, .ref sa, .ref ka, .ref a_sheets, .ref a_speedX, .ref a_speedY, .ref a_leftward, .ref a_change, .ref a_table, .int fi])), (fa, .inr (1, [.ref fap, .ref faq])), (fap, .inr (3, [.ref fapn])), (fapn, .inl (cy 0, 6, .inl fu)), (faq, .inr (3, [.ref faqn])), (faqn, .inl (cy 0, 6, .inl fv)), (sa, .inl (cy 3, 4, .inr (.inr (.inr (.inr (yk_refs [sa0, sa1, sa2, sa3])))))), (sa0, .inr (1, [.ref sa0p, .ref sa0q])), (sa0p, .inr (3, [.ref sa0pn])), (sa0pn, .inl (cy 0, 6, .inl s0u)), (sa0q, .inr (3, [.ref sa0qn])), (sa0qn, .inl (cy 0, 6, .inl s0v)), (sa1, .inr (1, [.ref sa1p, .ref sa1q])), (sa1p, .inr (3, [.ref sa1pn])), (sa1pn, .inl (cy 0, 6, .inl ((f_X1_become s1u s1v fu fv).1))), (sa1q, .inr (3, [.ref sa1qn])), (sa1qn, .inl (cy 0, 6, .inl ((f_X1_become s1u s1v fu fv).2))), (sa2, .inr (1, [.ref sa2p, .ref sa2q])), (sa2p, .inr (3, [.ref sa2pn])), (sa2pn, .inl (cy 0, 6, .inl s2u)), (sa2q, .inr (3, [.ref sa2qn])), (sa2qn, .inl (cy 0, 6, .inl s2v)), (sa3, .inr (1, [.ref sa3p, .ref sa3q])), (sa3p, .inr (3, [.ref sa3pn])), (sa3pn, .inl (cy 0, 6, .inl s3u)), (sa3q, .inr (3, [.ref sa3qn])), (sa3qn, .inl (cy 0, 6, .inl s3v)), (ka, .inl (cy 0, 4, .inl (upd sk px.toNatClampNeg (f_X1_lastKind fu fv))))] := hD9
        replace hS := hS9
        clear hP9 hD9 hS9
        refine lv_aload_n hx hb dX7_keep_40 rfl (lv_at hl 0 rfl) ?_
        refine va_get (D := D) (ci := 7) (v := .ref ka) (C := RX7) (T := TX7) (N := 13) hx hb hts uX7_keep_X7 hown hK hP 0 rfl rfl 5 (by decide) (hts _ kX7_keep_2) (fun _ h9 => h9) rfl dX7_keep_41 ?_
        refine lv_iload_n hx hb dX7_keep_44 rfl (lv_at hl 1 rfl) ?_
        refine yk_ild hx hb hK hP 27 0 rfl rfl px.toNatClampNeg (by omega) (by decide) dX7_keep_45 ?_
        have hF : f_X7_keep fu fv s0u s0v s1u s1v s2u s2v s3u s3v sk fi px = (((upd sk px.toNatClampNeg (f_X1_lastKind fu fv)) px.toNatClampNeg), fi, s0u, s0v, ((f_X1_become s1u s1v fu fv).1), ((f_X1_become s1u s1v fu fv).2), s2u, s2v, s3u, s3v, (upd sk px.toNatClampNeg (f_X1_lastKind fu fv))) := hF
        have hf0 := yk_fst hF
        have hg0 := yk_snd hF
        have hf1 := yk_fst hg0
        have hg1 := yk_snd hg0
        have hf2 := yk_fst hg1
        have hg2 := yk_snd hg1
        have hf3 := yk_fst hg2
        have hg3 := yk_snd hg2
        have hf4 := yk_fst hg3
        have hg4 := yk_snd hg3
        have hf5 := yk_fst hg4
        have hg5 := yk_snd hg4
        have hf6 := yk_fst hg5
        have hg6 := yk_snd hg5
        have hf7 := yk_fst hg6
        have hg7 := yk_snd hg6
        have hf8 := yk_fst hg7
        have hg8 := yk_snd hg7
        have hf9 := yk_fst hg8
        have hg9 := yk_snd hg8
        rw [hf0, hf1, hf2, hf3, hf4, hf5, hf6, hf7, hf8, hf9, hg9] at hQ
        exact hQ _ _ _ _ dX7_keep_46 hP hS
      · replace hF := hF.trans (if_neg hc4)
        by_cases hc5 : px.toNatClampNeg = 2
        · replace hF := hF.trans (if_pos hc5)
          refine yk_ti (y := nI 2) (congrArg nI hc5) ?_
          refine yk_aldq hx hb hK hP 6 3 rfl rfl 2 (by decide) (by decide) rfl dX7_keep_19 ?_
          refine lv_aload_n hx hb dX7_keep_20 rfl (lv_at hl 0 rfl) ?_
          refine va_get (D := D) (ci := 7) (v := .ref fa) (C := RX7) (T := TX7) (N := 13) hx hb hts uX7_keep_X7 hown hK hP 0 rfl rfl 0 (by decide) (hts _ kX7_keep_1) (fun _ h9 => h9) rfl dX7_keep_21 ?_
          refine yk_v [17, 18, 19, 20, 21, 1, 2, 3, 4, 5] (va_runV (As := [.ref fa]) (rest := []) ⟨hx, hb, hml, hown, hts⟩ (c_X1_become l D cy sa2 sa2p sa2pn sa2q sa2qn fa fap fapn faq faqn s2u s2v fu fv H.size) (cwV 1 hts gX7_keep_X1_become rfl rfl rfl hv_X1_become (yk_room hRf hRl rfl rfl)) (yk_pv (q := (RX1, TX1, 2)) hG hA hS hK hP hD [17, 18, 19, 20, 21, 1, 2, 3, 4, 5] (by decide +kernel) rfl rfl rfl) rfl rfl hl.1 rfl (lv_room (Nat.le_of_ble_eq_true rfl)) dX7_keep_24 ⟨Nat.zero_le _, Nat.zero_le _⟩) hP hD hS hA rfl (Eq.trans (b := [sa2, sa2p, sa2pn, sa2q, sa2qn, fa, fap, fapn, faq, faqn]) rfl rfl) (fun H locs hP9 hD9 hS9 => ?_)
          replace hP : va_P D vwCl [(ta, .inr (7, [.ref fa, .ref a_draft, .ref a_fence, .ref a_past, .ref sa, .ref ka, .ref a_sheets, .ref a_speedX, .ref a_speedY, .ref a_leftward, .ref a_change, .ref a_table, .int fi])), (fa, .inr (1, [.ref fap, .ref faq])), (fap, .inr (3, [.ref fapn])), (fapn, .inl (cy 0, 6, .inl fu)), (faq, .inr (3, [.ref faqn])), (faqn, .inl (cy 0, 6, .inl fv)), (sa, .inl (cy 3, 4, .inr (.inr (.inr (.inr (yk_refs [sa0, sa1, sa2, sa3])))))), (sa0, .inr (1, [.ref sa0p, .ref sa0q])), (sa0p, .inr (3, [.ref sa0pn])), (sa0pn, .inl (cy 0, 6, .inl s0u)), (sa0q, .inr (3, [.ref sa0qn])), (sa0qn, .inl (cy 0, 6, .inl s0v)), (sa1, .inr (1, [.ref sa1p, .ref sa1q])), (sa1p, .inr (3, [.ref sa1pn])), (sa1pn, .inl (cy 0, 6, .inl s1u)), (sa1q, .inr (3, [.ref sa1qn])), (sa1qn, .inl (cy 0, 6, .inl s1v)), (sa2, .inr (1, [.ref sa2p, .ref sa2q])), (sa2p, .inr (3, [.ref sa2pn])), (sa2pn, .inl (cy 0, 6, .inl ((f_X1_become s2u s2v fu fv).1))), (sa2q, .inr (3, [.ref sa2qn])), (sa2qn, .inl (cy 0, 6, .inl ((f_X1_become s2u s2v fu fv).2))), (sa3, .inr (1, [.ref sa3p, .ref sa3q])), (sa3p, .inr (3, [.ref sa3pn])), (sa3pn, .inl (cy 0, 6, .inl s3u)), (sa3q, .inr (3, [.ref sa3qn])), (sa3qn, .inl (cy 0, 6, .inl s3v)), (ka, .inl (cy 0, 4, .inl sk))] H := hP9
          replace hD : va_D A [(ta, .inr (7, [.ref fa, .ref a_draft, .ref a_fence, .ref a_past, .ref sa, .ref ka, .ref a_sheets, .ref a_speedX, .ref a_speedY, .ref a_leftward, .ref a_change, .ref a_table, .int fi])), (fa, .inr (1, [.ref fap, .ref faq])), (fap, .inr (3, [.ref fapn])), (fapn, .inl (cy 0, 6, .inl fu)), (faq, .inr (3, [.ref faqn])), (faqn, .inl (cy 0, 6, .inl fv)), (sa, .inl (cy 3, 4, .inr (.inr (.inr (.inr (yk_refs [sa0, sa1, sa2, sa3])))))), (sa0, .inr (1, [.ref sa0p, .ref sa0q])), (sa0p, .inr (3, [.ref sa0pn])), (sa0pn, .inl (cy 0, 6, .inl s0u)), (sa0q, .inr (3, [.ref sa0qn])), (sa0qn, .inl (cy 0, 6, .inl s0v)), (sa1, .inr (1, [.ref sa1p, .ref sa1q])), (sa1p, .inr (3, [.ref sa1pn])), (sa1pn, .inl (cy 0, 6, .inl s1u)), (sa1q, .inr (3, [.ref sa1qn])), (sa1qn, .inl (cy 0, 6, .inl s1v)), (sa2, .inr (1, [.ref sa2p, .ref sa2q])), (sa2p, .inr (3, [.ref sa2pn])), (sa2pn, .inl (cy 0, 6, .inl ((f_X1_become s2u s2v fu fv).1))), (sa2q, .inr (3, [.ref sa2qn])), (sa2qn, .inl (cy 0, 6, .inl ((f_X1_become s2u s2v fu fv).2))), (sa3, .inr (1, [.ref sa3p, .ref sa3q])), (sa3p, .inr (3, [.ref sa3pn])), (sa3pn, .inl (cy 0, 6, .inl s3u)), (sa3q, .inr (3, [.ref sa3qn])), (sa3qn, .inl (cy 0, 6, .inl s3v)), (ka, .inl (cy 0, 4, .inl sk))] := hD9
          replace hS := hS9
          clear hP9 hD9 hS9
          refine lv_aload_n hx hb dX7_keep_27 rfl (lv_at hl 0 rfl) ?_
          refine va_get (D := D) (ci := 7) (v := .ref ka) (C := RX7) (T := TX7) (N := 13) hx hb hts uX7_keep_X7 hown hK hP 0 rfl rfl 5 (by decide) (hts _ kX7_keep_2) (fun _ h9 => h9) rfl dX7_keep_28 ?_
          refine lv_iload_n hx hb dX7_keep_31 rfl (lv_at hl 1 rfl) ?_
          refine lv_aload_n hx hb dX7_keep_32 rfl (lv_at hl 0 rfl) ?_
          refine va_get (D := D) (ci := 7) (v := .ref fa) (C := RX7) (T := TX7) (N := 13) hx hb hts uX7_keep_X7 hown hK hP 0 rfl rfl 0 (by decide) (hts _ kX7_keep_1) (fun _ h9 => h9) rfl dX7_keep_33 ?_
          refine yk_i [1, 2, 3, 4, 5] (va_runV (As := []) (rest := [.int (nI px.toNatClampNeg), .ref ka]) ⟨hx, hb, hml, hown, hts⟩ (c_X1_lastKind l D cy fa fap fapn faq faqn fu fv H.size) (cwV 0 hts gX7_keep_X1_lastKind rfl rfl rfl hv_X1_lastKind (yk_room hRf hRl rfl rfl)) (yk_pv (q := (RX1, TX1, 2)) hG hA hS hK hP hD [1, 2, 3, 4, 5] (by decide +kernel) rfl rfl rfl) rfl rfl hl.1 rfl (lv_room (Nat.le_of_ble_eq_true rfl)) dX7_keep_36 ⟨Nat.zero_le _, Nat.zero_le _⟩) hP hD hS hA rfl (Eq.trans (b := [fa, fap, fapn, faq, faqn]) rfl rfl) (fun H locs hP9 hD9 hS9 => ?_)
          replace hP : va_P D vwCl [(ta, .inr (7, [.ref fa, .ref a_draft, .ref a_fence, .ref a_past, .ref sa, .ref ka, .ref a_sheets, .ref a_speedX, .ref a_speedY, .ref a_leftward, .ref a_change, .ref a_table, .int fi])), (fa, .inr (1, [.ref fap, .ref faq])), (fap, .inr (3, [.ref fapn])), (fapn, .inl (cy 0, 6, .inl fu)), (faq, .inr (3, [.ref faqn])), (faqn, .inl (cy 0, 6, .inl fv)), (sa, .inl (cy 3, 4, .inr (.inr (.inr (.inr (yk_refs [sa0, sa1, sa2, sa3])))))), (sa0, .inr (1, [.ref sa0p, .ref sa0q])), (sa0p, .inr (3, [.ref sa0pn])), (sa0pn, .inl (cy 0, 6, .inl s0u)), (sa0q, .inr (3, [.ref sa0qn])), (sa0qn, .inl (cy 0, 6, .inl s0v)), (sa1, .inr (1, [.ref sa1p, .ref sa1q])), (sa1p, .inr (3, [.ref sa1pn])), (sa1pn, .inl (cy 0, 6, .inl s1u)), (sa1q, .inr (3, [.ref sa1qn])), (sa1qn, .inl (cy 0, 6, .inl s1v)), (sa2, .inr (1, [.ref sa2p, .ref sa2q])), (sa2p, .inr (3, [.ref sa2pn])), (sa2pn, .inl (cy 0, 6, .inl ((f_X1_become s2u s2v fu fv).1))), (sa2q, .inr (3, [.ref sa2qn])), (sa2qn, .inl (cy 0, 6, .inl ((f_X1_become s2u s2v fu fv).2))), (sa3, .inr (1, [.ref sa3p, .ref sa3q])), (sa3p, .inr (3, [.ref sa3pn])), (sa3pn, .inl (cy 0, 6, .inl s3u)), (sa3q, .inr (3, [.ref sa3qn])), (sa3qn, .inl (cy 0, 6, .inl s3v)), (ka, .inl (cy 0, 4, .inl sk))] H := hP9
          replace hD : va_D A [(ta, .inr (7, [.ref fa, .ref a_draft, .ref a_fence, .ref a_past, .ref sa, .ref ka, .ref a_sheets, .ref a_speedX, .ref a_speedY, .ref a_leftward, .ref a_change, .ref a_table, .int fi])), (fa, .inr (1, [.ref fap, .ref faq])), (fap, .inr (3, [.ref fapn])), (fapn, .inl (cy 0, 6, .inl fu)), (faq, .inr (3, [.ref faqn])), (faqn, .inl (cy 0, 6, .inl fv)), (sa, .inl (cy 3, 4, .inr (.inr (.inr (.inr (yk_refs [sa0, sa1, sa2, sa3])))))), (sa0, .inr (1, [.ref sa0p, .ref sa0q])), (sa0p, .inr (3, [.ref sa0pn])), (sa0pn, .inl (cy 0, 6, .inl s0u)), (sa0q, .inr (3, [.ref sa0qn])), (sa0qn, .inl (cy 0, 6, .inl s0v)), (sa1, .inr (1, [.ref sa1p, .ref sa1q])), (sa1p, .inr (3, [.ref sa1pn])), (sa1pn, .inl (cy 0, 6, .inl s1u)), (sa1q, .inr (3, [.ref sa1qn])), (sa1qn, .inl (cy 0, 6, .inl s1v)), (sa2, .inr (1, [.ref sa2p, .ref sa2q])), (sa2p, .inr (3, [.ref sa2pn])), (sa2pn, .inl (cy 0, 6, .inl ((f_X1_become s2u s2v fu fv).1))), (sa2q, .inr (3, [.ref sa2qn])), (sa2qn, .inl (cy 0, 6, .inl ((f_X1_become s2u s2v fu fv).2))), (sa3, .inr (1, [.ref sa3p, .ref sa3q])), (sa3p, .inr (3, [.ref sa3pn])), (sa3pn, .inl (cy 0, 6, .inl s3u)), (sa3q, .inr (3, [.ref sa3qn])), (sa3qn, .inl (cy 0, 6, .inl s3v)), (ka, .inl (cy 0, 4, .inl sk))] := hD9
          replace hS := hS9
          clear hP9 hD9 hS9
          refine yk_ist hx hb hK hP hD hS 27 0 rfl rfl px.toNatClampNeg (by omega) (by decide) dX7_keep_39 (fun H locs hP9 hD9 hS9 => ?_)
          replace hP : va_P D vwCl [(ta, .inr (7, [.ref fa, .ref a_draft, .ref a_fence, .ref a_past, .ref sa, .ref ka, .ref a_sheets, .ref a_speedX, .ref a_speedY, .ref a_leftward, .ref a_change, .ref a_table, .int fi])), (fa, .inr (1, [.ref fap, .ref faq])), (fap, .inr (3, [.ref fapn])), (fapn, .inl (cy 0, 6, .inl fu)), (faq, .inr (3, [.ref faqn])), (faqn, .inl (cy 0, 6, .inl fv)), (sa, .inl (cy 3, 4, .inr (.inr (.inr (.inr (yk_refs [sa0, sa1, sa2, sa3])))))), (sa0, .inr (1, [.ref sa0p, .ref sa0q])), (sa0p, .inr (3, [.ref sa0pn])), (sa0pn, .inl (cy 0, 6, .inl s0u)), (sa0q, .inr (3, [.ref sa0qn])), (sa0qn, .inl (cy 0, 6, .inl s0v)), (sa1, .inr (1, [.ref sa1p, .ref sa1q])), (sa1p, .inr (3, [.ref sa1pn])), (sa1pn, .inl (cy 0, 6, .inl s1u)), (sa1q, .inr (3, [.ref sa1qn])), (sa1qn, .inl (cy 0, 6, .inl s1v)), (sa2, .inr (1, [.ref sa2p, .ref sa2q])), (sa2p, .inr (3, [.ref sa2pn])), (sa2pn, .inl (cy 0, 6, .inl ((f_X1_become s2u s2v fu fv).1))), (sa2q, .inr (3, [.ref sa2qn])), (sa2qn, .inl (cy 0, 6, .inl ((f_X1_become s2u s2v fu fv).2))), (sa3, .inr (1, [.ref sa3p, .ref sa3q])), (sa3p, .inr (3, [.ref sa3pn])), (sa3pn, .inl (cy 0, 6, .inl s3u)), (sa3q, .inr (3, [.ref sa3qn])), (sa3qn, .inl (cy 0, 6, .inl s3v)), (ka, .inl (cy 0, 4, .inl (upd sk px.toNatClampNeg (f_X1_lastKind fu fv))))] H := hP9
          replace hD : va_D A [(ta, .inr (7, [.ref fa, .ref a_draft, .ref a_fence, .ref a_past, .ref sa, .ref ka, .ref a_sheets, .ref a_speedX, .ref a_speedY, .ref a_leftward, .ref a_change, .ref a_table, .int fi])), (fa, .inr (1, [.ref fap, .ref faq])), (fap, .inr (3, [.ref fapn])), (fapn, .inl (cy 0, 6, .inl fu)), (faq, .inr (3, [.ref faqn])), (faqn, .inl (cy 0, 6, .inl fv)), (sa, .inl (cy 3, 4, .inr (.inr (.inr (.inr (yk_refs [sa0, sa1, sa2, sa3])))))), (sa0, .inr (1, [.ref sa0p, .ref sa0q])), (sa0p, .inr (3, [.ref sa0pn])), (sa0pn, .inl (cy 0, 6, .inl s0u)), (sa0q, .inr (3, [.ref sa0qn])), (sa0qn, .inl (cy 0, 6, .inl s0v)), (sa1, .inr (1, [.ref sa1p, .ref sa1q])), (sa1p, .inr (3, [.ref sa1pn])), (sa1pn, .inl (cy 0, 6, .inl s1u)), (sa1q, .inr (3, [.ref sa1qn])), (sa1qn, .inl (cy 0, 6, .inl s1v)), (sa2, .inr (1, [.ref sa2p, .ref sa2q])), (sa2p, .inr (3, [.ref sa2pn])), (sa2pn, .inl (cy 0, 6, .inl ((f_X1_become s2u s2v fu fv).1))), (sa2q, .inr (3, [.ref sa2qn])), (sa2qn, .inl (cy 0, 6, .inl ((f_X1_become s2u s2v fu fv).2))), (sa3, .inr (1, [.ref sa3p, .ref sa3q])), (sa3p, .inr (3, [.ref sa3pn])), (sa3pn, .inl (cy 0, 6, .inl s3u)), (sa3q, .inr (3, [.ref sa3qn])), (sa3qn, .inl (cy 0, 6, .inl s3v)), (ka, .inl (cy 0, 4, .inl (upd sk px.toNatClampNeg (f_X1_lastKind fu fv))))] := hD9
          replace hS := hS9
          clear hP9 hD9 hS9
          refine lv_aload_n hx hb dX7_keep_40 rfl (lv_at hl 0 rfl) ?_
          refine va_get (D := D) (ci := 7) (v := .ref ka) (C := RX7) (T := TX7) (N := 13) hx hb hts uX7_keep_X7 hown hK hP 0 rfl rfl 5 (by decide) (hts _ kX7_keep_2) (fun _ h9 => h9) rfl dX7_keep_41 ?_
          refine lv_iload_n hx hb dX7_keep_44 rfl (lv_at hl 1 rfl) ?_
          refine yk_ild hx hb hK hP 27 0 rfl rfl px.toNatClampNeg (by omega) (by decide) dX7_keep_45 ?_
          have hF : f_X7_keep fu fv s0u s0v s1u s1v s2u s2v s3u s3v sk fi px = (((upd sk px.toNatClampNeg (f_X1_lastKind fu fv)) px.toNatClampNeg), fi, s0u, s0v, s1u, s1v, ((f_X1_become s2u s2v fu fv).1), ((f_X1_become s2u s2v fu fv).2), s3u, s3v, (upd sk px.toNatClampNeg (f_X1_lastKind fu fv))) := hF
          have hf0 := yk_fst hF
          have hg0 := yk_snd hF
          have hf1 := yk_fst hg0
          have hg1 := yk_snd hg0
          have hf2 := yk_fst hg1
          have hg2 := yk_snd hg1
          have hf3 := yk_fst hg2
          have hg3 := yk_snd hg2
          have hf4 := yk_fst hg3
          have hg4 := yk_snd hg3
          have hf5 := yk_fst hg4
          have hg5 := yk_snd hg4
          have hf6 := yk_fst hg5
          have hg6 := yk_snd hg5
          have hf7 := yk_fst hg6
          have hg7 := yk_snd hg6
          have hf8 := yk_fst hg7
          have hg8 := yk_snd hg7
          have hf9 := yk_fst hg8
          have hg9 := yk_snd hg8
          rw [hf0, hf1, hf2, hf3, hf4, hf5, hf6, hf7, hf8, hf9, hg9] at hQ
          exact hQ _ _ _ _ dX7_keep_46 hP hS
        · replace hF := hF.trans (if_neg hc5)
          have hz19 : px.toNatClampNeg = 3 := by omega
          refine yk_ti (y := nI 3) (congrArg nI hz19) ?_
          refine yk_aldq hx hb hK hP 6 3 rfl rfl 3 (by decide) (by decide) rfl dX7_keep_19 ?_
          refine lv_aload_n hx hb dX7_keep_20 rfl (lv_at hl 0 rfl) ?_
          refine va_get (D := D) (ci := 7) (v := .ref fa) (C := RX7) (T := TX7) (N := 13) hx hb hts uX7_keep_X7 hown hK hP 0 rfl rfl 0 (by decide) (hts _ kX7_keep_1) (fun _ h9 => h9) rfl dX7_keep_21 ?_
          refine yk_v [22, 23, 24, 25, 26, 1, 2, 3, 4, 5] (va_runV (As := [.ref fa]) (rest := []) ⟨hx, hb, hml, hown, hts⟩ (c_X1_become l D cy sa3 sa3p sa3pn sa3q sa3qn fa fap fapn faq faqn s3u s3v fu fv H.size) (cwV 1 hts gX7_keep_X1_become rfl rfl rfl hv_X1_become (yk_room hRf hRl rfl rfl)) (yk_pv (q := (RX1, TX1, 2)) hG hA hS hK hP hD [22, 23, 24, 25, 26, 1, 2, 3, 4, 5] (by decide +kernel) rfl rfl rfl) rfl rfl hl.1 rfl (lv_room (Nat.le_of_ble_eq_true rfl)) dX7_keep_24 ⟨Nat.zero_le _, Nat.zero_le _⟩) hP hD hS hA rfl (Eq.trans (b := [sa3, sa3p, sa3pn, sa3q, sa3qn, fa, fap, fapn, faq, faqn]) rfl rfl) (fun H locs hP9 hD9 hS9 => ?_)
          replace hP : va_P D vwCl [(ta, .inr (7, [.ref fa, .ref a_draft, .ref a_fence, .ref a_past, .ref sa, .ref ka, .ref a_sheets, .ref a_speedX, .ref a_speedY, .ref a_leftward, .ref a_change, .ref a_table, .int fi])), (fa, .inr (1, [.ref fap, .ref faq])), (fap, .inr (3, [.ref fapn])), (fapn, .inl (cy 0, 6, .inl fu)), (faq, .inr (3, [.ref faqn])), (faqn, .inl (cy 0, 6, .inl fv)), (sa, .inl (cy 3, 4, .inr (.inr (.inr (.inr (yk_refs [sa0, sa1, sa2, sa3])))))), (sa0, .inr (1, [.ref sa0p, .ref sa0q])), (sa0p, .inr (3, [.ref sa0pn])), (sa0pn, .inl (cy 0, 6, .inl s0u)), (sa0q, .inr (3, [.ref sa0qn])), (sa0qn, .inl (cy 0, 6, .inl s0v)), (sa1, .inr (1, [.ref sa1p, .ref sa1q])), (sa1p, .inr (3, [.ref sa1pn])), (sa1pn, .inl (cy 0, 6, .inl s1u)), (sa1q, .inr (3, [.ref sa1qn])), (sa1qn, .inl (cy 0, 6, .inl s1v)), (sa2, .inr (1, [.ref sa2p, .ref sa2q])), (sa2p, .inr (3, [.ref sa2pn])), (sa2pn, .inl (cy 0, 6, .inl s2u)), (sa2q, .inr (3, [.ref sa2qn])), (sa2qn, .inl (cy 0, 6, .inl s2v)), (sa3, .inr (1, [.ref sa3p, .ref sa3q])), (sa3p, .inr (3, [.ref sa3pn])), (sa3pn, .inl (cy 0, 6, .inl ((f_X1_become s3u s3v fu fv).1))), (sa3q, .inr (3, [.ref sa3qn])), (sa3qn, .inl (cy 0, 6, .inl ((f_X1_become s3u s3v fu fv).2))), (ka, .inl (cy 0, 4, .inl sk))] H := hP9
          replace hD : va_D A [(ta, .inr (7, [.ref fa, .ref a_draft, .ref a_fence, .ref a_past, .ref sa, .ref ka, .ref a_sheets, .ref a_speedX, .ref a_speedY, .ref a_leftward, .ref a_change, .ref a_table, .int fi])), (fa, .inr (1, [.ref fap, .ref faq])), (fap, .inr (3, [.ref fapn])), (fapn, .inl (cy 0, 6, .inl fu)), (faq, .inr (3, [.ref faqn])), (faqn, .inl (cy 0, 6, .inl fv)), (sa, .inl (cy 3, 4, .inr (.inr (.inr (.inr (yk_refs [sa0, sa1, sa2, sa3])))))), (sa0, .inr (1, [.ref sa0p, .ref sa0q])), (sa0p, .inr (3, [.ref sa0pn])), (sa0pn, .inl (cy 0, 6, .inl s0u)), (sa0q, .inr (3, [.ref sa0qn])), (sa0qn, .inl (cy 0, 6, .inl s0v)), (sa1, .inr (1, [.ref sa1p, .ref sa1q])), (sa1p, .inr (3, [.ref sa1pn])), (sa1pn, .inl (cy 0, 6, .inl s1u)), (sa1q, .inr (3, [.ref sa1qn])), (sa1qn, .inl (cy 0, 6, .inl s1v)), (sa2, .inr (1, [.ref sa2p, .ref sa2q])), (sa2p, .inr (3, [.ref sa2pn])), (sa2pn, .inl (cy 0, 6, .inl s2u)), (sa2q, .inr (3, [.ref sa2qn])), (sa2qn, .inl (cy 0, 6, .inl s2v)), (sa3, .inr (1, [.ref sa3p, .ref sa3q])), (sa3p, .inr (3, [.ref sa3pn])), (sa3pn, .inl (cy 0, 6, .inl ((f_X1_become s3u s3v fu fv).1))), (sa3q, .inr (3, [.ref sa3qn])), (sa3qn, .inl (cy 0, 6, .inl ((f_X1_become s3u s3v fu fv).2))), (ka, .inl (cy 0, 4, .inl sk))] := hD9
          replace hS := hS9
          clear hP9 hD9 hS9
          refine lv_aload_n hx hb dX7_keep_27 rfl (lv_at hl 0 rfl) ?_
          refine va_get (D := D) (ci := 7) (v := .ref ka) (C := RX7) (T := TX7) (N := 13) hx hb hts uX7_keep_X7 hown hK hP 0 rfl rfl 5 (by decide) (hts _ kX7_keep_2) (fun _ h9 => h9) rfl dX7_keep_28 ?_
          refine lv_iload_n hx hb dX7_keep_31 rfl (lv_at hl 1 rfl) ?_
          refine lv_aload_n hx hb dX7_keep_32 rfl (lv_at hl 0 rfl) ?_
          refine va_get (D := D) (ci := 7) (v := .ref fa) (C := RX7) (T := TX7) (N := 13) hx hb hts uX7_keep_X7 hown hK hP 0 rfl rfl 0 (by decide) (hts _ kX7_keep_1) (fun _ h9 => h9) rfl dX7_keep_33 ?_
          refine yk_i [1, 2, 3, 4, 5] (va_runV (As := []) (rest := [.int (nI px.toNatClampNeg), .ref ka]) ⟨hx, hb, hml, hown, hts⟩ (c_X1_lastKind l D cy fa fap fapn faq faqn fu fv H.size) (cwV 0 hts gX7_keep_X1_lastKind rfl rfl rfl hv_X1_lastKind (yk_room hRf hRl rfl rfl)) (yk_pv (q := (RX1, TX1, 2)) hG hA hS hK hP hD [1, 2, 3, 4, 5] (by decide +kernel) rfl rfl rfl) rfl rfl hl.1 rfl (lv_room (Nat.le_of_ble_eq_true rfl)) dX7_keep_36 ⟨Nat.zero_le _, Nat.zero_le _⟩) hP hD hS hA rfl (Eq.trans (b := [fa, fap, fapn, faq, faqn]) rfl rfl) (fun H locs hP9 hD9 hS9 => ?_)
          replace hP : va_P D vwCl [(ta, .inr (7, [.ref fa, .ref a_draft, .ref a_fence, .ref a_past, .ref sa, .ref ka, .ref a_sheets, .ref a_speedX, .ref a_speedY, .ref a_leftward, .ref a_change, .ref a_table, .int fi])), (fa, .inr (1, [.ref fap, .ref faq])), (fap, .inr (3, [.ref fapn])), (fapn, .inl (cy 0, 6, .inl fu)), (faq, .inr (3, [.ref faqn])), (faqn, .inl (cy 0, 6, .inl fv)), (sa, .inl (cy 3, 4, .inr (.inr (.inr (.inr (yk_refs [sa0, sa1, sa2, sa3])))))), (sa0, .inr (1, [.ref sa0p, .ref sa0q])), (sa0p, .inr (3, [.ref sa0pn])), (sa0pn, .inl (cy 0, 6, .inl s0u)), (sa0q, .inr (3, [.ref sa0qn])), (sa0qn, .inl (cy 0, 6, .inl s0v)), (sa1, .inr (1, [.ref sa1p, .ref sa1q])), (sa1p, .inr (3, [.ref sa1pn])), (sa1pn, .inl (cy 0, 6, .inl s1u)), (sa1q, .inr (3, [.ref sa1qn])), (sa1qn, .inl (cy 0, 6, .inl s1v)), (sa2, .inr (1, [.ref sa2p, .ref sa2q])), (sa2p, .inr (3, [.ref sa2pn])), (sa2pn, .inl (cy 0, 6, .inl s2u)), (sa2q, .inr (3, [.ref sa2qn])), (sa2qn, .inl (cy 0, 6, .inl s2v)), (sa3, .inr (1, [.ref sa3p, .ref sa3q])), (sa3p, .inr (3, [.ref sa3pn])), (sa3pn, .inl (cy 0, 6, .inl ((f_X1_become s3u s3v fu fv).1))), (sa3q, .inr (3, [.ref sa3qn])), (sa3qn, .inl (cy 0, 6, .inl ((f_X1_become s3u s3v fu fv).2))), (ka, .inl (cy 0, 4, .inl sk))] H := hP9
          replace hD : va_D A [(ta, .inr (7, [.ref fa, .ref a_draft, .ref a_fence, .ref a_past, .ref sa, .ref ka, .ref a_sheets, .ref a_speedX, .ref a_speedY, .ref a_leftward, .ref a_change, .ref a_table, .int fi])), (fa, .inr (1, [.ref fap, .ref faq])), (fap, .inr (3, [.ref fapn])), (fapn, .inl (cy 0, 6, .inl fu)), (faq, .inr (3, [.ref faqn])), (faqn, .inl (cy 0, 6, .inl fv)), (sa, .inl (cy 3, 4, .inr (.inr (.inr (.inr (yk_refs [sa0, sa1, sa2, sa3])))))), (sa0, .inr (1, [.ref sa0p, .ref sa0q])), (sa0p, .inr (3, [.ref sa0pn])), (sa0pn, .inl (cy 0, 6, .inl s0u)), (sa0q, .inr (3, [.ref sa0qn])), (sa0qn, .inl (cy 0, 6, .inl s0v)), (sa1, .inr (1, [.ref sa1p, .ref sa1q])), (sa1p, .inr (3, [.ref sa1pn])), (sa1pn, .inl (cy 0, 6, .inl s1u)), (sa1q, .inr (3, [.ref sa1qn])), (sa1qn, .inl (cy 0, 6, .inl s1v)), (sa2, .inr (1, [.ref sa2p, .ref sa2q])), (sa2p, .inr (3, [.ref sa2pn])), (sa2pn, .inl (cy 0, 6, .inl s2u)), (sa2q, .inr (3, [.ref sa2qn])), (sa2qn, .inl (cy 0, 6, .inl s2v)), (sa3, .inr (1, [.ref sa3p, .ref sa3q])), (sa3p, .inr (3, [.ref sa3pn])), (sa3pn, .inl (cy 0, 6, .inl ((f_X1_become s3u s3v fu fv).1))), (sa3q, .inr (3, [.ref sa3qn])), (sa3qn, .inl (cy 0, 6, .inl ((f_X1_become s3u s3v fu fv).2))), (ka, .inl (cy 0, 4, .inl sk))] := hD9
          replace hS := hS9
          clear hP9 hD9 hS9
          refine yk_ist hx hb hK hP hD hS 27 0 rfl rfl px.toNatClampNeg (by omega) (by decide) dX7_keep_39 (fun H locs hP9 hD9 hS9 => ?_)
          replace hP : va_P D vwCl [(ta, .inr (7, [.ref fa, .ref a_draft, .ref a_fence, .ref a_past, .ref sa, .ref ka, .ref a_sheets, .ref a_speedX, .ref a_speedY, .ref a_leftward, .ref a_change, .ref a_table, .int fi])), (fa, .inr (1, [.ref fap, .ref faq])), (fap, .inr (3, [.ref fapn])), (fapn, .inl (cy 0, 6, .inl fu)), (faq, .inr (3, [.ref faqn])), (faqn, .inl (cy 0, 6, .inl fv)), (sa, .inl (cy 3, 4, .inr (.inr (.inr (.inr (yk_refs [sa0, sa1, sa2, sa3])))))), (sa0, .inr (1, [.ref sa0p, .ref sa0q])), (sa0p, .inr (3, [.ref sa0pn])), (sa0pn, .inl (cy 0, 6, .inl s0u)), (sa0q, .inr (3, [.ref sa0qn])), (sa0qn, .inl (cy 0, 6, .inl s0v)), (sa1, .inr (1, [.ref sa1p, .ref sa1q])), (sa1p, .inr (3, [.ref sa1pn])), (sa1pn, .inl (cy 0, 6, .inl s1u)), (sa1q, .inr (3, [.ref sa1qn])), (sa1qn, .inl (cy 0, 6, .inl s1v)), (sa2, .inr (1, [.ref sa2p, .ref sa2q])), (sa2p, .inr (3, [.ref sa2pn])), (sa2pn, .inl (cy 0, 6, .inl s2u)), (sa2q, .inr (3, [.ref sa2qn])), (sa2qn, .inl (cy 0, 6, .inl s2v)), (sa3, .inr (1, [.ref sa3p, .ref sa3q])), (sa3p, .inr (3, [.ref sa3pn])), (sa3pn, .inl (cy 0, 6, .inl ((f_X1_become s3u s3v fu fv).1))), (sa3q, .inr (3, [.ref sa3qn])), (sa3qn, .inl (cy 0, 6, .inl ((f_X1_become s3u s3v fu fv).2))), (ka, .inl (cy 0, 4, .inl (upd sk px.toNatClampNeg (f_X1_lastKind fu fv))))] H := hP9
          replace hD : va_D A [(ta, .inr (7, [.ref fa, .ref a_draft, .ref a_fence, .ref a_past, .ref sa, .ref ka, .ref a_sheets, .ref a_speedX, .ref a_speedY, .ref a_leftward, .ref a_change, .ref a_table, .int fi])), (fa, .inr (1, [.ref fap, .ref faq])), (fap, .inr (3, [.ref fapn])), (fapn, .inl (cy 0, 6, .inl fu)), (faq, .inr (3, [.ref faqn])), (faqn, .inl (cy 0, 6, .inl fv)), (sa, .inl (cy 3, 4, .inr (.inr (.inr (.inr (yk_refs [sa0, sa1, sa2, sa3])))))), (sa0, .inr (1, [.ref sa0p, .ref sa0q])), (sa0p, .inr (3, [.ref sa0pn])), (sa0pn, .inl (cy 0, 6, .inl s0u)), (sa0q, .inr (3, [.ref sa0qn])), (sa0qn, .inl (cy 0, 6, .inl s0v)), (sa1, .inr (1, [.ref sa1p, .ref sa1q])), (sa1p, .inr (3, [.ref sa1pn])), (sa1pn, .inl (cy 0, 6, .inl s1u)), (sa1q, .inr (3, [.ref sa1qn])), (sa1qn, .inl (cy 0, 6, .inl s1v)), (sa2, .inr (1, [.ref sa2p, .ref sa2q])), (sa2p, .inr (3, [.ref sa2pn])), (sa2pn, .inl (cy 0, 6, .inl s2u)), (sa2q, .inr (3, [.ref sa2qn])), (sa2qn, .inl (cy 0, 6, .inl s2v)), (sa3, .inr (1, [.ref sa3p, .ref sa3q])), (sa3p, .inr (3, [.ref sa3pn])), (sa3pn, .inl (cy 0, 6, .inl ((f_X1_become s3u s3v fu fv).1))), (sa3q, .inr (3, [.ref sa3qn])), (sa3qn, .inl (cy 0, 6, .inl ((f_X1_become s3u s3v fu fv).2))), (ka, .inl (cy 0, 4, .inl (upd sk px.toNatClampNeg (f_X1_lastKind fu fv))))] := hD9
          replace hS := hS9
          clear hP9 hD9 hS9
          refine lv_aload_n hx hb dX7_keep_40 rfl (lv_at hl 0 rfl) ?_
          refine va_get (D := D) (ci := 7) (v := .ref ka) (C := RX7) (T := TX7) (N := 13) hx hb hts uX7_keep_X7 hown hK hP 0 rfl rfl 5 (by decide) (hts _ kX7_keep_2) (fun _ h9 => h9) rfl dX7_keep_41 ?_
          refine lv_iload_n hx hb dX7_keep_44 rfl (lv_at hl 1 rfl) ?_
          refine yk_ild hx hb hK hP 27 0 rfl rfl px.toNatClampNeg (by omega) (by decide) dX7_keep_45 ?_
          have hF : f_X7_keep fu fv s0u s0v s1u s1v s2u s2v s3u s3v sk fi px = (((upd sk px.toNatClampNeg (f_X1_lastKind fu fv)) px.toNatClampNeg), fi, s0u, s0v, s1u, s1v, s2u, s2v, ((f_X1_become s3u s3v fu fv).1), ((f_X1_become s3u s3v fu fv).2), (upd sk px.toNatClampNeg (f_X1_lastKind fu fv))) := hF
          have hf0 := yk_fst hF
          have hg0 := yk_snd hF
          have hf1 := yk_fst hg0
          have hg1 := yk_snd hg0
          have hf2 := yk_fst hg1
          have hg2 := yk_snd hg1
          have hf3 := yk_fst hg2
          have hg3 := yk_snd hg2
          have hf4 := yk_fst hg3
          have hg4 := yk_snd hg3
          have hf5 := yk_fst hg4
          have hg5 := yk_snd hg4
          have hf6 := yk_fst hg5
          have hg6 := yk_snd hg5
          have hf7 := yk_fst hg6
          have hg7 := yk_snd hg6
          have hf8 := yk_fst hg7
          have hg8 := yk_snd hg7
          have hf9 := yk_fst hg8
          have hg9 := yk_snd hg8
          rw [hf0, hf1, hf2, hf3, hf4, hf5, hf6, hf7, hf8, hf9, hg9] at hQ
          exact hQ _ _ _ _ dX7_keep_46 hP hS
  · replace hF := hF.trans (if_pos hc1)
    refine lv_aload_n hx hb dX7_keep_7 rfl (lv_at hl 0 rfl) ?_
    refine lv_ldc (v := (-1000001)) hx hb hown (hts _ kX7_keep_3) dX7_keep_8 ?_
    refine yk_i [0] (va_runV (As := [.int (-1000001)]) (rest := []) ⟨hx, hb, hml, hown, hts⟩ (c_X7_finding l D cy ta fa a_draft a_fence a_past sa ka a_sheets a_speedX a_speedY a_leftward a_change a_table fi (-1000001) H.size) (cwV 1 hts gX7_keep_X7_finding rfl rfl rfl hv_X7_finding (yk_room hRf hRl rfl rfl)) (yk_pv (q := (RX7, TX7, 13)) hG hA hS hK hP hD [0] (by decide +kernel) rfl rfl rfl) rfl rfl hl.1 rfl (lv_room (Nat.le_of_ble_eq_true rfl)) dX7_keep_10 ⟨Nat.zero_le _, Nat.zero_le _⟩) hP hD hS hA rfl (Eq.trans (b := [ta]) rfl rfl) (fun H locs hP9 hD9 hS9 => ?_)
    replace hP : va_P D vwCl [(ta, .inr (7, [.ref fa, .ref a_draft, .ref a_fence, .ref a_past, .ref sa, .ref ka, .ref a_sheets, .ref a_speedX, .ref a_speedY, .ref a_leftward, .ref a_change, .ref a_table, .int ((f_X7_finding fi (-1000001)).2)])), (fa, .inr (1, [.ref fap, .ref faq])), (fap, .inr (3, [.ref fapn])), (fapn, .inl (cy 0, 6, .inl fu)), (faq, .inr (3, [.ref faqn])), (faqn, .inl (cy 0, 6, .inl fv)), (sa, .inl (cy 3, 4, .inr (.inr (.inr (.inr (yk_refs [sa0, sa1, sa2, sa3])))))), (sa0, .inr (1, [.ref sa0p, .ref sa0q])), (sa0p, .inr (3, [.ref sa0pn])), (sa0pn, .inl (cy 0, 6, .inl s0u)), (sa0q, .inr (3, [.ref sa0qn])), (sa0qn, .inl (cy 0, 6, .inl s0v)), (sa1, .inr (1, [.ref sa1p, .ref sa1q])), (sa1p, .inr (3, [.ref sa1pn])), (sa1pn, .inl (cy 0, 6, .inl s1u)), (sa1q, .inr (3, [.ref sa1qn])), (sa1qn, .inl (cy 0, 6, .inl s1v)), (sa2, .inr (1, [.ref sa2p, .ref sa2q])), (sa2p, .inr (3, [.ref sa2pn])), (sa2pn, .inl (cy 0, 6, .inl s2u)), (sa2q, .inr (3, [.ref sa2qn])), (sa2qn, .inl (cy 0, 6, .inl s2v)), (sa3, .inr (1, [.ref sa3p, .ref sa3q])), (sa3p, .inr (3, [.ref sa3pn])), (sa3pn, .inl (cy 0, 6, .inl s3u)), (sa3q, .inr (3, [.ref sa3qn])), (sa3qn, .inl (cy 0, 6, .inl s3v)), (ka, .inl (cy 0, 4, .inl sk))] H := hP9
    replace hD : va_D A [(ta, .inr (7, [.ref fa, .ref a_draft, .ref a_fence, .ref a_past, .ref sa, .ref ka, .ref a_sheets, .ref a_speedX, .ref a_speedY, .ref a_leftward, .ref a_change, .ref a_table, .int ((f_X7_finding fi (-1000001)).2)])), (fa, .inr (1, [.ref fap, .ref faq])), (fap, .inr (3, [.ref fapn])), (fapn, .inl (cy 0, 6, .inl fu)), (faq, .inr (3, [.ref faqn])), (faqn, .inl (cy 0, 6, .inl fv)), (sa, .inl (cy 3, 4, .inr (.inr (.inr (.inr (yk_refs [sa0, sa1, sa2, sa3])))))), (sa0, .inr (1, [.ref sa0p, .ref sa0q])), (sa0p, .inr (3, [.ref sa0pn])), (sa0pn, .inl (cy 0, 6, .inl s0u)), (sa0q, .inr (3, [.ref sa0qn])), (sa0qn, .inl (cy 0, 6, .inl s0v)), (sa1, .inr (1, [.ref sa1p, .ref sa1q])), (sa1p, .inr (3, [.ref sa1pn])), (sa1pn, .inl (cy 0, 6, .inl s1u)), (sa1q, .inr (3, [.ref sa1qn])), (sa1qn, .inl (cy 0, 6, .inl s1v)), (sa2, .inr (1, [.ref sa2p, .ref sa2q])), (sa2p, .inr (3, [.ref sa2pn])), (sa2pn, .inl (cy 0, 6, .inl s2u)), (sa2q, .inr (3, [.ref sa2qn])), (sa2qn, .inl (cy 0, 6, .inl s2v)), (sa3, .inr (1, [.ref sa3p, .ref sa3q])), (sa3p, .inr (3, [.ref sa3pn])), (sa3pn, .inl (cy 0, 6, .inl s3u)), (sa3q, .inr (3, [.ref sa3qn])), (sa3qn, .inl (cy 0, 6, .inl s3v)), (ka, .inl (cy 0, 4, .inl sk))] := hD9
    replace hS := hS9
    clear hP9 hD9 hS9
    have hF : f_X7_keep fu fv s0u s0v s1u s1v s2u s2v s3u s3v sk fi px = (((f_X7_finding fi (-1000001)).1), ((f_X7_finding fi (-1000001)).2), s0u, s0v, s1u, s1v, s2u, s2v, s3u, s3v, sk) := hF
    have hf0 := yk_fst hF
    have hg0 := yk_snd hF
    have hf1 := yk_fst hg0
    have hg1 := yk_snd hg0
    have hf2 := yk_fst hg1
    have hg2 := yk_snd hg1
    have hf3 := yk_fst hg2
    have hg3 := yk_snd hg2
    have hf4 := yk_fst hg3
    have hg4 := yk_snd hg3
    have hf5 := yk_fst hg4
    have hg5 := yk_snd hg4
    have hf6 := yk_fst hg5
    have hg6 := yk_snd hg5
    have hf7 := yk_fst hg6
    have hg7 := yk_snd hg6
    have hf8 := yk_fst hg7
    have hg8 := yk_snd hg7
    have hf9 := yk_fst hg8
    have hg9 := yk_snd hg8
    rw [hf0, hf1, hf2, hf3, hf4, hf5, hf6, hf7, hf8, hf9, hg9] at hQ
    exact hQ _ _ _ _ dX7_keep_13 hP hS
