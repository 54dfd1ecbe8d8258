theorem hv_X7_linesOfCubic : yX7_linesOfCubic.cls = RX7 ∧ yX7_linesOfCubic.cls ≠ "java/lang/invoke/MethodHandle" ∧ yX7_linesOfCubic.cls ≠ "java/lang/invoke/VarHandle" ∧ (parseMethodDescriptor yX7_linesOfCubic.desc).map (fun d => d.parameters.length) = some 4 := by decide +kernel
theorem hs_X7_linesOfCubic : yX7_linesOfCubic.cls ≠ "java/lang/invoke/MethodHandle" ∧ yX7_linesOfCubic.cls ≠ "java/lang/invoke/VarHandle" ∧ (parseMethodDescriptor yX7_linesOfCubic.desc).map (fun d => d.parameters.length) = some 4 := by decide +kernel
theorem kX7_edge_0 : Cond.fieldLink RX7 10 "FlowPlane" "flow" "LFlowPlane$Flow;" ∈ wsX7_edge := by decide +kernel
theorem kX7_edge_1 : Cond.fieldLink RX7 117 "FlowPlane$Flow" "p" "LFlowPlane$Polynomial;" ∈ wsX7_edge := by decide +kernel
theorem kX7_edge_2 : Cond.fieldLink RX7 96 "FlowPlane$Polynomial" "numbers" "[I" ∈ wsX7_edge := by decide +kernel
theorem kX7_edge_3 : Cond.fieldLink RX7 125 "FlowPlane$Flow" "q" "LFlowPlane$Polynomial;" ∈ wsX7_edge := by decide +kernel
theorem uX7_edge_X7 : ∀ w ∈ u_ws RX7 TX7 13, w ∈ wsX7_edge := by decide +kernel
theorem uX7_edge_X1 : ∀ w ∈ u_ws RX1 TX1 2, w ∈ wsX7_edge := by decide +kernel
theorem uX7_edge_X3 : ∀ w ∈ u_ws RX3 TX3 1, w ∈ wsX7_edge := by decide +kernel
def f_X7_edge (fu : Nat → Int32) (fv : Nat → Int32) : Int32 := (f_X7_linesOfCubic (fv 3) ((fv 4) - (fu 3)) ((fv 5) - (fu 4)) (-(fu 5)))
set_option maxHeartbeats 400000000 in
set_option maxRecDepth 100000 in
theorem c_X7_edge (l : Launch) (D : va_G) (cy : Nat → ClassId) (ta : Nat) (fa : Nat) (fap : Nat) (fapn : Nat) (faq : Nat) (faqn : Nat) (a_draft : Nat) (a_fence : Nat) (a_past : Nat) (a_slots : Nat) (a_slotKinds : Nat) (a_sheets : Nat) (a_speedX : Nat) (a_speedY : Nat) (a_leftward : Nat) (a_change : Nat) (a_table : Nat) (fu : Nat → Int32) (fv : Nat → Int32) (fi : Int32) : yk_Ci l D vwCl (yk_ty cy) yX7_edge wsX7_edge 1 25 [.ref ta] [(ta, .inr (7, [.ref fa, .ref a_draft, .ref a_fence, .ref a_past, .ref a_slots, .ref a_slotKinds, .ref a_sheets, .ref a_speedX, .ref a_speedY, .ref a_leftward, .ref a_change, .ref a_table, .int fi])), (fa, .inr (1, [.ref fap, .ref faq])), (fap, .inr (3, [.ref fapn])), (fapn, .inl (cy 0, 6, .inl fu)), (faq, .inr (3, [.ref faqn])), (faqn, .inl (cy 0, 6, .inl fv))] (f_X7_edge fu fv) [(ta, .inr (7, [.ref fa, .ref a_draft, .ref a_fence, .ref a_past, .ref a_slots, .ref a_slotKinds, .ref a_sheets, .ref a_speedX, .ref a_speedY, .ref a_leftward, .ref a_change, .ref a_table, .int fi])), (fa, .inr (1, [.ref fap, .ref faq])), (fap, .inr (3, [.ref fapn])), (fapn, .inl (cy 0, 6, .inl fu)), (faq, .inr (3, [.ref faqn])), (faqn, .inl (cy 0, 6, .inl fv))] := by
  refine yk_eI (cc := cX7_edge) (maxL := 3) (by decide) rfl (Nat.le_of_ble_eq_true rfl) rfl ?_
  intro p e R s m args below meth c A Q ls H locs hx hb hml hown hts hRf hRl hA hK hG hP hD hS hl hQ
  have hP : va_P D vwCl [(ta, .inr (7, [.ref fa, .ref a_draft, .ref a_fence, .ref a_past, .ref a_slots, .ref a_slotKinds, .ref a_sheets, .ref a_speedX, .ref a_speedY, .ref a_leftward, .ref a_change, .ref a_table, .int fi])), (fa, .inr (1, [.ref fap, .ref faq])), (fap, .inr (3, [.ref fapn])), (fapn, .inl (cy 0, 6, .inl fu)), (faq, .inr (3, [.ref faqn])), (faqn, .inl (cy 0, 6, .inl fv))] H := hP
  have hl : lv_has ls 3 [(0, .ref ta)] := hl
  have hown : s.vm.findClass RX7 = some m.cls := hown
  have hF : (f_X7_edge fu fv) = (f_X7_edge fu fv) := rfl
  refine lv_aload_n hx hb dX7_edge_0 rfl (lv_at hl 0 rfl) ?_
  refine va_get (D := D) (ci := 7) (v := .ref fa) (C := RX7) (T := TX7) (N := 13) hx hb hts uX7_edge_X7 hown hK hP 0 rfl rfl 0 (by decide) (hts _ kX7_edge_0) (fun _ h9 => h9) rfl dX7_edge_1 ?_
  refine va_get (D := D) (ci := 1) (v := .ref fap) (C := RX1) (T := TX1) (N := 2) hx hb hts uX7_edge_X1 hown hK hP 1 rfl rfl 0 (by decide) (hts _ kX7_edge_1) (fun _ h9 => h9) rfl dX7_edge_4 ?_
  refine va_get (D := D) (ci := 3) (v := .ref fapn) (C := RX3) (T := TX3) (N := 1) hx hb hts uX7_edge_X3 hown hK hP 2 rfl rfl 0 (by decide) (hts _ kX7_edge_2) (fun _ h9 => h9) rfl dX7_edge_7 ?_
  refine lv_astore_n (lv' := [(1, .ref fapn), (0, .ref ta)]) hx hb dX7_edge_10 rfl hl (by decide) rfl (fun ls hl9 => ?_)
  replace hl := hl9
  clear hl9
  refine lv_aload_n hx hb dX7_edge_11 rfl (lv_at hl 1 rfl) ?_
  refine va_get (D := D) (ci := 7) (v := .ref fa) (C := RX7) (T := TX7) (N := 13) hx hb hts uX7_edge_X7 hown hK hP 0 rfl rfl 0 (by decide) (hts _ kX7_edge_0) (fun _ h9 => h9) rfl dX7_edge_12 ?_
  refine va_get (D := D) (ci := 1) (v := .ref faq) (C := RX1) (T := TX1) (N := 2) hx hb hts uX7_edge_X1 hown hK hP 1 rfl rfl 1 (by decide) (hts _ kX7_edge_3) (fun _ h9 => h9) rfl dX7_edge_15 ?_
  refine va_get (D := D) (ci := 3) (v := .ref faqn) (C := RX3) (T := TX3) (N := 1) hx hb hts uX7_edge_X3 hown hK hP 4 rfl rfl 0 (by decide) (hts _ kX7_edge_2) (fun _ h9 => h9) rfl dX7_edge_18 ?_
  refine lv_astore_n (lv' := [(2, .ref faqn), (1, .ref fapn), (0, .ref ta)]) hx hb dX7_edge_21 rfl hl (by decide) rfl (fun ls hl9 => ?_)
  replace hl := hl9
  clear hl9
  refine lv_aload_n hx hb dX7_edge_22 rfl (lv_at hl 0 rfl) ?_
  refine lv_iconst (v := 3) hx hb dX7_edge_23 (by decide) ?_
  refine yk_ild hx hb hK hP 5 0 rfl rfl 3 (by omega) (by decide) dX7_edge_24 ?_
  refine lv_aload_n hx hb dX7_edge_25 rfl (lv_at hl 0 rfl) ?_
  refine lv_iconst (v := 4) hx hb dX7_edge_26 (by decide) ?_
  refine yk_ild hx hb hK hP 5 0 rfl rfl 4 (by omega) (by decide) dX7_edge_27 ?_
  refine lv_aload_n hx hb dX7_edge_28 rfl (lv_at hl 1 rfl) ?_
  refine lv_iconst (v := 3) hx hb dX7_edge_29 (by decide) ?_
  refine yk_ild hx hb hK hP 3 0 rfl rfl 3 (by omega) (by decide) dX7_edge_30 ?_
  refine lv_isub hx hb dX7_edge_31 ?_
  refine lv_aload_n hx hb dX7_edge_32 rfl (lv_at hl 0 rfl) ?_
  refine lv_iconst (v := 5) hx hb dX7_edge_33 (by decide) ?_
  refine yk_ild hx hb hK hP 5 0 rfl rfl 5 (by omega) (by decide) dX7_edge_34 ?_
  refine lv_aload_n hx hb dX7_edge_35 rfl (lv_at hl 1 rfl) ?_
  refine lv_iconst (v := 4) hx hb dX7_edge_36 (by decide) ?_
  refine yk_ild hx hb hK hP 3 0 rfl rfl 4 (by omega) (by decide) dX7_edge_37 ?_
  refine lv_isub hx hb dX7_edge_38 ?_
  refine lv_aload_n hx hb dX7_edge_39 rfl (lv_at hl 1 rfl) ?_
  refine lv_iconst (v := 5) hx hb dX7_edge_40 (by decide) ?_
  refine yk_ild hx hb hK hP 3 0 rfl rfl 5 (by omega) (by decide) dX7_edge_41 ?_
  refine lv_ineg hx hb dX7_edge_42 ?_
  refine yk_i [] (va_runS (As := [.int (fv 3), .int ((fv 4) - (fu 3)), .int ((fv 5) - (fu 4)), .int (-(fu 5))]) (rest := []) ⟨hx, hb, hml, hown, hts⟩ (c_X7_linesOfCubic l D cy (fv 3) ((fv 4) - (fu 3)) ((fv 5) - (fu 4)) (-(fu 5)) H.size) (va_cwS 4 hts gX7_edge_X7_linesOfCubic rfl rfl rfl hs_X7_linesOfCubic (yk_room hRf hRl rfl rfl)) (yk_ps hG hA hS hK hP hD [] (by decide +kernel) rfl) rfl rfl hl.1 rfl (lv_room (Nat.le_of_ble_eq_true rfl)) dX7_edge_43 ⟨Nat.zero_le _, Nat.zero_le _⟩) hP hD hS hA rfl rfl (fun H locs hP9 hD9 hS9 => ?_)
  replace hP : va_P D vwCl [(ta, .inr (7, [.ref fa, .ref a_draft, .ref a_fence, .ref a_past, .ref a_slots, .ref a_slotKinds, .ref a_sheets, .ref a_speedX, .ref a_speedY, .ref a_leftward, .ref a_change, .ref a_table, .int fi])), (fa, .inr (1, [.ref fap, .ref faq])), (fap, .inr (3, [.ref fapn])), (fapn, .inl (cy 0, 6, .inl fu)), (faq, .inr (3, [.ref faqn])), (faqn, .inl (cy 0, 6, .inl fv))] H := hP9
  replace hD : va_D A [(ta, .inr (7, [.ref fa, .ref a_draft, .ref a_fence, .ref a_past, .ref a_slots, .ref a_slotKinds, .ref a_sheets, .ref a_speedX, .ref a_speedY, .ref a_leftward, .ref a_change, .ref a_table, .int fi])), (fa, .inr (1, [.ref fap, .ref faq])), (fap, .inr (3, [.ref fapn])), (fapn, .inl (cy 0, 6, .inl fu)), (faq, .inr (3, [.ref faqn])), (faqn, .inl (cy 0, 6, .inl fv))] := hD9
  replace hS := hS9
  clear hP9 hD9 hS9
  have hF : f_X7_edge fu fv = (f_X7_linesOfCubic (fv 3) ((fv 4) - (fu 3)) ((fv 5) - (fu 4)) (-(fu 5))) := hF
  rw [hF] at hQ
  exact hQ _ _ _ _ dX7_edge_46 hP hS

theorem kX7_far_0 : Cond.constant RX7 83 (-1000001) ∈ wsX7_far := by decide +kernel
theorem kX7_far_1 : Cond.fieldLink RX7 10 "FlowPlane" "flow" "LFlowPlane$Flow;" ∈ wsX7_far := by decide +kernel
theorem kX7_far_2 : Cond.fieldLink RX7 125 "FlowPlane$Flow" "q" "LFlowPlane$Polynomial;" ∈ wsX7_far := by decide +kernel
theorem kX7_far_3 : Cond.fieldLink RX7 117 "FlowPlane$Flow" "p" "LFlowPlane$Polynomial;" ∈ wsX7_far := by decide +kernel
theorem uX7_far_X7 : ∀ w ∈ u_ws RX7 TX7 13, w ∈ wsX7_far := by decide +kernel
theorem uX7_far_X1 : ∀ w ∈ u_ws RX1 TX1 2, w ∈ wsX7_far := by decide +kernel
def f_X7_far (fu : Nat → Int32) (fv : Nat → Int32) (fi : Int32) (px : Int32) (py : Int32) : Int32 × Int32 := (if (f_X7_isPlace px py) = 0 then (((f_X7_finding fi (-1000001)).1), ((f_X7_finding fi (-1000001)).2)) else (if px = 0 then (if py = 0 then (((f_X7_finding fi (-1000001)).1), ((f_X7_finding fi (-1000001)).2)) else ((if ((px * (f_X3_squaresAt fv px py)) - (py * (f_X3_squaresAt fu px py))) = 0 then 1 else 0), fi)) else ((if ((px * (f_X3_squaresAt fv px py)) - (py * (f_X3_squaresAt fu px py))) = 0 then 1 else 0), fi)))
set_option maxHeartbeats 400000000 in
set_option maxRecDepth 100000 in
theorem c_X7_far (l : Launch) (D : va_G) (cy : Nat → ClassId) (ta : Nat) (fa : Nat) (fap : Nat) (fapn : Nat) (faq : Nat) (faqn : Nat) (a_draft : Nat) (a_fence : Nat) (a_past : Nat) (a_slots : Nat) (a_slotKinds : Nat) (a_sheets : Nat) (a_speedX : Nat) (a_speedY : Nat) (a_leftward : Nat) (a_change : Nat) (a_table : Nat) (fu : Nat → Int32) (fv : Nat → Int32) (fi : Int32) (px : Int32) (py : Int32) : yk_Ci l D vwCl (yk_ty cy) yX7_far wsX7_far 2 42 [.ref ta, .int px, .int py] [(ta, .inr (7, [.ref fa, .ref a_draft, .ref a_fence, .ref a_past, .ref a_slots, .ref a_slotKinds, .ref a_sheets, .ref a_speedX, .ref a_speedY, .ref a_leftward, .ref a_change, .ref a_table, .int fi])), (fa, .inr (1, [.ref fap, .ref faq])), (fap, .inr (3, [.ref fapn])), (fapn, .inl (cy 0, 6, .inl fu)), (faq, .inr (3, [.ref faqn])), (faqn, .inl (cy 0, 6, .inl fv))] ((f_X7_far fu fv fi px py).1) [(ta, .inr (7, [.ref fa, .ref a_draft, .ref a_fence, .ref a_past, .ref a_slots, .ref a_slotKinds, .ref a_sheets, .ref a_speedX, .ref a_speedY, .ref a_leftward, .ref a_change, .ref a_table, .int ((f_X7_far fu fv fi px py).2)])), (fa, .inr (1, [.ref fap, .ref faq])), (fap, .inr (3, [.ref fapn])), (fapn, .inl (cy 0, 6, .inl fu)), (faq, .inr (3, [.ref faqn])), (faqn, .inl (cy 0, 6, .inl fv))] := by
  refine yk_eI (cc := cX7_far) (maxL := 4) (by decide) rfl (Nat.le_of_ble_eq_true rfl) rfl ?_
  intro p e R s m args below meth c A Q ls H locs hx hb hml hown hts hRf hRl hA hK hG hP hD hS hl hQ
  have hP : va_P D vwCl [(ta, .inr (7, [.ref fa, .ref a_draft, .ref a_fence, .ref a_past, .ref a_slots, .ref a_slotKinds, .ref a_sheets, .ref a_speedX, .ref a_speedY, .ref a_leftward, .ref a_change, .ref a_table, .int fi])), (fa, .inr (1, [.ref fap, .ref faq])), (fap, .inr (3, [.ref fapn])), (fapn, .inl (cy 0, 6, .inl fu)), (faq, .inr (3, [.ref faqn])), (faqn, .inl (cy 0, 6, .inl fv))] H := hP
  have hl : lv_has ls 4 [(0, .ref ta), (1, .int px), (2, .int py)] := hl
  have hown : s.vm.findClass RX7 = some m.cls := hown
  have hF : (f_X7_far fu fv fi px py) = (f_X7_far fu fv fi px py) := rfl
  refine lv_iload_n hx hb dX7_far_0 rfl (lv_at hl 1 rfl) ?_
  refine lv_iload_n hx hb dX7_far_1 rfl (lv_at hl 2 rfl) ?_
  refine yk_i [] (va_runS (As := [.int px, .int py]) (rest := []) ⟨hx, hb, hml, hown, hts⟩ (c_X7_isPlace l D cy px py H.size) (va_cwS 2 hts gX7_far_X7_isPlace rfl rfl rfl hs_X7_isPlace (yk_room hRf hRl rfl rfl)) (yk_ps hG hA hS hK hP hD [] (by decide +kernel) rfl) rfl rfl hl.1 rfl (lv_room (Nat.le_of_ble_eq_true rfl)) dX7_far_2 ⟨Nat.zero_le _, Nat.zero_le _⟩) hP hD hS hA rfl rfl (fun H locs hP9 hD9 hS9 => ?_)
  replace hP : va_P D vwCl [(ta, .inr (7, [.ref fa, .ref a_draft, .ref a_fence, .ref a_past, .ref a_slots, .ref a_slotKinds, .ref a_sheets, .ref a_speedX, .ref a_speedY, .ref a_leftward, .ref a_change, .ref a_table, .int fi])), (fa, .inr (1, [.ref fap, .ref faq])), (fap, .inr (3, [.ref fapn])), (fapn, .inl (cy 0, 6, .inl fu)), (faq, .inr (3, [.ref faqn])), (faqn, .inl (cy 0, 6, .inl fv))] H := hP9
  replace hD : va_D A [(ta, .inr (7, [.ref fa, .ref a_draft, .ref a_fence, .ref a_past, .ref a_slots, .ref a_slotKinds, .ref a_sheets, .ref a_speedX, .ref a_speedY, .ref a_leftward, .ref a_change, .ref a_table, .int fi])), (fa, .inr (1, [.ref fap, .ref faq])), (fap, .inr (3, [.ref fapn])), (fapn, .inl (cy 0, 6, .inl fu)), (faq, .inr (3, [.ref faqn])), (faqn, .inl (cy 0, 6, .inl fv))] := hD9
  replace hS := hS9
  clear hP9 hD9 hS9
  refine lv_if_eq (tgt := 16) hx hb dX7_far_5 (by decide) (fun hc1 => ?_) (fun hc1 => ?_)
  · replace hF := hF.trans (if_pos hc1)
    refine lv_aload_n hx hb dX7_far_16 rfl (lv_at hl 0 rfl) ?_
    refine lv_ldc (v := (-1000001)) hx hb hown (hts _ kX7_far_0) dX7_far_17 ?_
    refine yk_i [0] (va_runV (As := [.int (-1000001)]) (rest := []) ⟨hx, hb, hml, hown, hts⟩ (c_X7_finding l D cy ta fa a_draft a_fence a_past a_slots a_slotKinds a_sheets a_speedX a_speedY a_leftward a_change a_table fi (-1000001) H.size) (cwV 1 hts gX7_far_X7_finding rfl rfl rfl hv_X7_finding (yk_room hRf hRl rfl rfl)) (yk_pv (q := (RX7, TX7, 13)) hG hA hS hK hP hD [0] (by decide +kernel) rfl rfl rfl) rfl rfl hl.1 rfl (lv_room (Nat.le_of_ble_eq_true rfl)) dX7_far_19 ⟨Nat.zero_le _, Nat.zero_le _⟩) hP hD hS hA rfl (Eq.trans (b := [ta]) rfl rfl) (fun H locs hP9 hD9 hS9 => ?_)
    replace hP : va_P D vwCl [(ta, .inr (7, [.ref fa, .ref a_draft, .ref a_fence, .ref a_past, .ref a_slots, .ref a_slotKinds, .ref a_sheets, .ref a_speedX, .ref a_speedY, .ref a_leftward, .ref a_change, .ref a_table, .int ((f_X7_finding fi (-1000001)).2)])), (fa, .inr (1, [.ref fap, .ref faq])), (fap, .inr (3, [.ref fapn])), (fapn, .inl (cy 0, 6, .inl fu)), (faq, .inr (3, [.ref faqn])), (faqn, .inl (cy 0, 6, .inl fv))] H := hP9
    replace hD : va_D A [(ta, .inr (7, [.ref fa, .ref a_draft, .ref a_fence, .ref a_past, .ref a_slots, .ref a_slotKinds, .ref a_sheets, .ref a_speedX, .ref a_speedY, .ref a_leftward, .ref a_change, .ref a_table, .int ((f_X7_finding fi (-1000001)).2)])), (fa, .inr (1, [.ref fap, .ref faq])), (fap, .inr (3, [.ref fapn])), (fapn, .inl (cy 0, 6, .inl fu)), (faq, .inr (3, [.ref faqn])), (faqn, .inl (cy 0, 6, .inl fv))] := hD9
    replace hS := hS9
    clear hP9 hD9 hS9
    have hF : f_X7_far fu fv fi px py = (((f_X7_finding fi (-1000001)).1), ((f_X7_finding fi (-1000001)).2)) := hF
    have hf0 := yk_fst hF
    have hg0 := yk_snd hF
    rw [hf0, hg0] at hQ
    exact hQ _ _ _ _ dX7_far_22 hP hS
  · replace hF := hF.trans (if_neg hc1)
    refine lv_iload_n hx hb dX7_far_8 rfl (lv_at hl 1 rfl) ?_
    refine lv_if_ne (tgt := 23) hx hb dX7_far_9 (by decide) (fun hc2 => ?_) (fun hc2 => ?_)
    · replace hF := hF.trans (if_neg hc2)
      refine lv_iload_n hx hb dX7_far_23 rfl (lv_at hl 1 rfl) ?_
      refine lv_aload_n hx hb dX7_far_24 rfl (lv_at hl 0 rfl) ?_
      refine va_get (D := D) (ci := 7) (v := .ref fa) (C := RX7) (T := TX7) (N := 13) hx hb hts uX7_far_X7 hown hK hP 0 rfl rfl 0 (by decide) (hts _ kX7_far_1) (fun _ h9 => h9) rfl dX7_far_25 ?_
      refine va_get (D := D) (ci := 1) (v := .ref faq) (C := RX1) (T := TX1) (N := 2) hx hb hts uX7_far_X1 hown hK hP 1 rfl rfl 1 (by decide) (hts _ kX7_far_2) (fun _ h9 => h9) rfl dX7_far_28 ?_
      refine lv_iload_n hx hb dX7_far_31 rfl (lv_at hl 1 rfl) ?_
      refine lv_iload_n hx hb dX7_far_32 rfl (lv_at hl 2 rfl) ?_
      refine yk_i [4, 5] (va_runV (As := [.int px, .int py]) (rest := [.int px]) ⟨hx, hb, hml, hown, hts⟩ (c_X3_squaresAt l D cy faq faqn fv px py H.size) (cwV 2 hts gX7_far_X3_squaresAt rfl rfl rfl hv_X3_squaresAt (yk_room hRf hRl rfl rfl)) (yk_pv (q := (RX3, TX3, 1)) hG hA hS hK hP hD [4, 5] (by decide +kernel) rfl rfl rfl) rfl rfl hl.1 rfl (lv_room (Nat.le_of_ble_eq_true rfl)) dX7_far_33 ⟨Nat.zero_le _, Nat.zero_le _⟩) hP hD hS hA rfl (Eq.trans (b := [faq, faqn]) rfl rfl) (fun H locs hP9 hD9 hS9 => ?_)
      replace hP : va_P D vwCl [(ta, .inr (7, [.ref fa, .ref a_draft, .ref a_fence, .ref a_past, .ref a_slots, .ref a_slotKinds, .ref a_sheets, .ref a_speedX, .ref a_speedY, .ref a_leftward, .ref a_change, .ref a_table, .int fi])), (fa, .inr (1, [.ref fap, .ref faq])), (fap, .inr (3, [.ref fapn])), (fapn, .inl (cy 0, 6, .inl fu)), (faq, .inr (3, [.ref faqn])), (faqn, .inl (cy 0, 6, .inl fv))] H := hP9
      replace hD : va_D A [(ta, .inr (7, [.ref fa, .ref a_draft, .ref a_fence, .ref a_past, .ref a_slots, .ref a_slotKinds, .ref a_sheets, .ref a_speedX, .ref a_speedY, .ref a_leftward, .ref a_change, .ref a_table, .int fi])), (fa, .inr (1, [.ref fap, .ref faq])), (fap, .inr (3, [.ref fapn])), (fapn, .inl (cy 0, 6, .inl fu)), (faq, .inr (3, [.ref faqn])), (faqn, .inl (cy 0, 6, .inl fv))] := hD9
      replace hS := hS9
      clear hP9 hD9 hS9
      refine lv_imul hx hb dX7_far_36 ?_
      refine lv_iload_n hx hb dX7_far_37 rfl (lv_at hl 2 rfl) ?_
      refine lv_aload_n hx hb dX7_far_38 rfl (lv_at hl 0 rfl) ?_
      refine va_get (D := D) (ci := 7) (v := .ref fa) (C := RX7) (T := TX7) (N := 13) hx hb hts uX7_far_X7 hown hK hP 0 rfl rfl 0 (by decide) (hts _ kX7_far_1) (fun _ h9 => h9) rfl dX7_far_39 ?_
      refine va_get (D := D) (ci := 1) (v := .ref fap) (C := RX1) (T := TX1) (N := 2) hx hb hts uX7_far_X1 hown hK hP 1 rfl rfl 0 (by decide) (hts _ kX7_far_3) (fun _ h9 => h9) rfl dX7_far_42 ?_
      refine lv_iload_n hx hb dX7_far_45 rfl (lv_at hl 1 rfl) ?_
      refine lv_iload_n hx hb dX7_far_46 rfl (lv_at hl 2 rfl) ?_
      refine yk_i [2, 3] (va_runV (As := [.int px, .int py]) (rest := [.int py, .int (px * (f_X3_squaresAt fv px py))]) ⟨hx, hb, hml, hown, hts⟩ (c_X3_squaresAt l D cy fap fapn fu px py H.size) (cwV 2 hts gX7_far_X3_squaresAt rfl rfl rfl hv_X3_squaresAt (yk_room hRf hRl rfl rfl)) (yk_pv (q := (RX3, TX3, 1)) hG hA hS hK hP hD [2, 3] (by decide +kernel) rfl rfl rfl) rfl rfl hl.1 rfl (lv_room (Nat.le_of_ble_eq_true rfl)) dX7_far_47 ⟨Nat.zero_le _, Nat.zero_le _⟩) hP hD hS hA rfl (Eq.trans (b := [fap, fapn]) rfl rfl) (fun H locs hP9 hD9 hS9 => ?_)
      replace hP : va_P D vwCl [(ta, .inr (7, [.ref fa, .ref a_draft, .ref a_fence, .ref a_past, .ref a_slots, .ref a_slotKinds, .ref a_sheets, .ref a_speedX, .ref a_speedY, .ref a_leftward, .ref a_change, .ref a_table, .int fi])), (fa, .inr (1, [.ref fap, .ref faq])), (fap, .inr (3, [.ref fapn])), (fapn, .inl (cy 0, 6, .inl fu)), (faq, .inr (3, [.ref faqn])), (faqn, .inl (cy 0, 6, .inl fv))] H := hP9
      replace hD : va_D A [(ta, .inr (7, [.ref fa, .ref a_draft, .ref a_fence, .ref a_past, .ref a_slots, .ref a_slotKinds, .ref a_sheets, .ref a_speedX, .ref a_speedY, .ref a_leftward, .ref a_change, .ref a_table, .int fi])), (fa, .inr (1, [.ref fap, .ref faq])), (fap, .inr (3, [.ref fapn])), (fapn, .inl (cy 0, 6, .inl fu)), (faq, .inr (3, [.ref faqn])), (faqn, .inl (cy 0, 6, .inl fv))] := hD9
      replace hS := hS9
      clear hP9 hD9 hS9
      refine lv_imul hx hb dX7_far_50 ?_
      refine lv_isub hx hb dX7_far_51 ?_
      refine lv_istore_n (lv' := [(3, .int ((px * (f_X3_squaresAt fv px py)) - (py * (f_X3_squaresAt fu px py)))), (0, .ref ta), (1, .int px), (2, .int py)]) hx hb dX7_far_52 rfl hl (by decide) rfl (fun ls hl9 => ?_)
      replace hl := hl9
      clear hl9
      refine lv_iload_n hx hb dX7_far_53 rfl (lv_at hl 0 rfl) ?_
      have J5 : ∀ (v4 : Int32) (H : Heap) (locs : List Loc) (ls : Array Slot), v4 = (if ((px * (f_X3_squaresAt fv px py)) - (py * (f_X3_squaresAt fu px py))) = 0 then 1 else 0) → va_P D vwCl [(ta, .inr (7, [.ref fa, .ref a_draft, .ref a_fence, .ref a_past, .ref a_slots, .ref a_slotKinds, .ref a_sheets, .ref a_speedX, .ref a_speedY, .ref a_leftward, .ref a_change, .ref a_table, .int fi])), (fa, .inr (1, [.ref fap, .ref faq])), (fap, .inr (3, [.ref fapn])), (fapn, .inl (cy 0, 6, .inl fu)), (faq, .inr (3, [.ref faqn])), (faqn, .inl (cy 0, 6, .inl fv))] H → va_D A [(ta, .inr (7, [.ref fa, .ref a_draft, .ref a_fence, .ref a_past, .ref a_slots, .ref a_slotKinds, .ref a_sheets, .ref a_speedX, .ref a_speedY, .ref a_leftward, .ref a_change, .ref a_table, .int fi])), (fa, .inr (1, [.ref fap, .ref faq])), (fap, .inr (3, [.ref fapn])), (fapn, .inl (cy 0, 6, .inl fu)), (faq, .inr (3, [.ref faqn])), (faqn, .inl (cy 0, 6, .inl fv))] → va_S A s.heap H locs → lv_has ls 4 [(0, .ref ta), (1, .int px), (2, .int py), (3, .int ((px * (f_X3_squaresAt fv px py)) - (py * (f_X3_squaresAt fu px py))))] → W p l e R s m args below meth c H locs 0 0 Q (F0 m 62 ls [.int v4]) := by
        clear hP hD hS hl
        intro v4 H locs ls ev4
        rw [ev4]
        clear ev4
        intro hP hD hS hl
        have hF : f_X7_far fu fv fi px py = ((if ((px * (f_X3_squaresAt fv px py)) - (py * (f_X3_squaresAt fu px py))) = 0 then 1 else 0), fi) := hF
        have hf0 := yk_fst hF
        have hg0 := yk_snd hF
        rw [hf0, hg0] at hQ
        exact hQ _ _ _ _ dX7_far_62 hP hS
      refine lv_if_ne (tgt := 61) hx hb dX7_far_54 (by decide) (fun hc3 => ?_) (fun hc3 => ?_)
      · refine lv_iconst (v := 0) hx hb dX7_far_61 (by decide) ?_
        exact J5 _ _ _ _ ((if_neg hc3).symm) hP hD hS (lv_sub hl [1, 2, 3, 0] rfl)
      · refine lv_iconst (v := 1) hx hb dX7_far_57 (by decide) ?_
        refine lv_goto (tgt := 62) hx hb dX7_far_58 (by decide) ?_
        exact J5 _ _ _ _ ((if_pos hc3).symm) hP hD hS (lv_sub hl [1, 2, 3, 0] rfl)
    · replace hF := hF.trans (if_pos hc2)
      refine lv_iload_n hx hb dX7_far_12 rfl (lv_at hl 2 rfl) ?_
      refine lv_if_ne (tgt := 23) hx hb dX7_far_13 (by decide) (fun hc6 => ?_) (fun hc6 => ?_)
      · replace hF := hF.trans (if_neg hc6)
        refine lv_iload_n hx hb dX7_far_23 rfl (lv_at hl 1 rfl) ?_
        refine lv_aload_n hx hb dX7_far_24 rfl (lv_at hl 0 rfl) ?_
        refine va_get (D := D) (ci := 7) (v := .ref fa) (C := RX7) (T := TX7) (N := 13) hx hb hts uX7_far_X7 hown hK hP 0 rfl rfl 0 (by decide) (hts _ kX7_far_1) (fun _ h9 => h9) rfl dX7_far_25 ?_
        refine va_get (D := D) (ci := 1) (v := .ref faq) (C := RX1) (T := TX1) (N := 2) hx hb hts uX7_far_X1 hown hK hP 1 rfl rfl 1 (by decide) (hts _ kX7_far_2) (fun _ h9 => h9) rfl dX7_far_28 ?_
        refine lv_iload_n hx hb dX7_far_31 rfl (lv_at hl 1 rfl) ?_
        refine lv_iload_n hx hb dX7_far_32 rfl (lv_at hl 2 rfl) ?_
        refine yk_i [4, 5] (va_runV (As := [.int px, .int py]) (rest := [.int px]) ⟨hx, hb, hml, hown, hts⟩ (c_X3_squaresAt l D cy faq faqn fv px py H.size) (cwV 2 hts gX7_far_X3_squaresAt rfl rfl rfl hv_X3_squaresAt (yk_room hRf hRl rfl rfl)) (yk_pv (q := (RX3, TX3, 1)) hG hA hS hK hP hD [4, 5] (by decide +kernel) rfl rfl rfl) rfl rfl hl.1 rfl (lv_room (Nat.le_of_ble_eq_true rfl)) dX7_far_33 ⟨Nat.zero_le _, Nat.zero_le _⟩) hP hD hS hA rfl (Eq.trans (b := [faq, faqn]) rfl rfl) (fun H locs hP9 hD9 hS9 => ?_)
        replace hP : va_P D vwCl [(ta, .inr (7, [.ref fa, .ref a_draft, .ref a_fence, .ref a_past, .ref a_slots, .ref a_slotKinds, .ref a_sheets, .ref a_speedX, .ref a_speedY, .ref a_leftward, .ref a_change, .ref a_table, .int fi])), (fa, .inr (1, [.ref fap, .ref faq])), (fap, .inr (3, [.ref fapn])), (fapn, .inl (cy 0, 6, .inl fu)), (faq, .inr (3, [.ref faqn])), (faqn, .inl (cy 0, 6, .inl fv))] H := hP9
        replace hD : va_D A [(ta, .inr (7, [.ref fa, .ref a_draft, .ref a_fence, .ref a_past, .ref a_slots, .ref a_slotKinds, .ref a_sheets, .ref a_speedX, .ref a_speedY, .ref a_leftward, .ref a_change, .ref a_table, .int fi])), (fa, .inr (1, [.ref fap, .ref faq])), (fap, .inr (3, [.ref fapn])), (fapn, .inl (cy 0, 6, .inl fu)), (faq, .inr (3, [.ref faqn])), (faqn, .inl (cy 0, 6, .inl fv))] := hD9
        replace hS := hS9
        clear hP9 hD9 hS9
        refine lv_imul hx hb dX7_far_36 ?_
        refine lv_iload_n hx hb dX7_far_37 rfl (lv_at hl 2 rfl) ?_
        refine lv_aload_n hx hb dX7_far_38 rfl (lv_at hl 0 rfl) ?_
        refine va_get (D := D) (ci := 7) (v := .ref fa) (C := RX7) (T := TX7) (N := 13) hx hb hts uX7_far_X7 hown hK hP 0 rfl rfl 0 (by decide) (hts _ kX7_far_1) (fun _ h9 => h9) rfl dX7_far_39 ?_
        refine va_get (D := D) (ci := 1) (v := .ref fap) (C := RX1) (T := TX1) (N := 2) hx hb hts uX7_far_X1 hown hK hP 1 rfl rfl 0 (by decide) (hts _ kX7_far_3) (fun _ h9 => h9) rfl dX7_far_42 ?_
        refine lv_iload_n hx hb dX7_far_45 rfl (lv_at hl 1 rfl) ?_
        refine lv_iload_n hx hb dX7_far_46 rfl (lv_at hl 2 rfl) ?_
        refine yk_i [2, 3] (va_runV (As := [.int px, .int py]) (rest := [.int py, .int (px * (f_X3_squaresAt fv px py))]) ⟨hx, hb, hml, hown, hts⟩ (c_X3_squaresAt l D cy fap fapn fu px py H.size) (cwV 2 hts gX7_far_X3_squaresAt rfl rfl rfl hv_X3_squaresAt (yk_room hRf hRl rfl rfl)) (yk_pv (q := (RX3, TX3, 1)) hG hA hS hK hP hD [2, 3] (by decide +kernel) rfl rfl rfl) rfl rfl hl.1 rfl (lv_room (Nat.le_of_ble_eq_true rfl)) dX7_far_47 ⟨Nat.zero_le _, Nat.zero_le _⟩) hP hD hS hA rfl (Eq.trans (b := [fap, fapn]) rfl rfl) (fun H locs hP9 hD9 hS9 => ?_)
        replace hP : va_P D vwCl [(ta, .inr (7, [.ref fa, .ref a_draft, .ref a_fence, .ref a_past, .ref a_slots, .ref a_slotKinds, .ref a_sheets, .ref a_speedX, .ref a_speedY, .ref a_leftward, .ref a_change, .ref a_table, .int fi])), (fa, .inr (1, [.ref fap, .ref faq])), (fap, .inr (3, [.ref fapn])), (fapn, .inl (cy 0, 6, .inl fu)), (faq, .inr (3, [.ref faqn])), (faqn, .inl (cy 0, 6, .inl fv))] H := hP9
        replace hD : va_D A [(ta, .inr (7, [.ref fa, .ref a_draft, .ref a_fence, .ref a_past, .ref a_slots, .ref a_slotKinds, .ref a_sheets, .ref a_speedX, .ref a_speedY, .ref a_leftward, .ref a_change, .ref a_table, .int fi])), (fa, .inr (1, [.ref fap, .ref faq])), (fap, .inr (3, [.ref fapn])), (fapn, .inl (cy 0, 6, .inl fu)), (faq, .inr (3, [.ref faqn])), (faqn, .inl (cy 0, 6, .inl fv))] := hD9
        replace hS := hS9
        clear hP9 hD9 hS9
        refine lv_imul hx hb dX7_far_50 ?_
        refine lv_isub hx hb dX7_far_51 ?_
        refine lv_istore_n (lv' := [(3, .int ((px * (f_X3_squaresAt fv px py)) - (py * (f_X3_squaresAt fu px py)))), (0, .ref ta), (1, .int px), (2, .int py)]) hx hb dX7_far_52 rfl hl (by decide) rfl (fun ls hl9 => ?_)
        replace hl := hl9
        clear hl9
        refine lv_iload_n hx hb dX7_far_53 rfl (lv_at hl 0 rfl) ?_
        have J9 : ∀ (v8 : Int32) (H : Heap) (locs : List Loc) (ls : Array Slot), v8 = (if ((px * (f_X3_squaresAt fv px py)) - (py * (f_X3_squaresAt fu px py))) = 0 then 1 else 0) → va_P D vwCl [(ta, .inr (7, [.ref fa, .ref a_draft, .ref a_fence, .ref a_past, .ref a_slots, .ref a_slotKinds, .ref a_sheets, .ref a_speedX, .ref a_speedY, .ref a_leftward, .ref a_change, .ref a_table, .int fi])), (fa, .inr (1, [.ref fap, .ref faq])), (fap, .inr (3, [.ref fapn])), (fapn, .inl (cy 0, 6, .inl fu)), (faq, .inr (3, [.ref faqn])), (faqn, .inl (cy 0, 6, .inl fv))] H → va_D A [(ta, .inr (7, [.ref fa, .ref a_draft, .ref a_fence, .ref a_past, .ref a_slots, .ref a_slotKinds, .ref a_sheets, .ref a_speedX, .ref a_speedY, .ref a_leftward, .ref a_change, .ref a_table, .int fi])), (fa, .inr (1, [.ref fap, .ref faq])), (fap, .inr (3, [.ref fapn])), (fapn, .inl (cy 0, 6, .inl fu)), (faq, .inr (3, [.ref faqn])), (faqn, .inl (cy 0, 6, .inl fv))] → va_S A s.heap H locs → lv_has ls 4 [(0, .ref ta), (1, .int px), (2, .int py), (3, .int ((px * (f_X3_squaresAt fv px py)) - (py * (f_X3_squaresAt fu px py))))] → W p l e R s m args below meth c H locs 0 0 Q (F0 m 62 ls [.int v8]) := by
          clear hP hD hS hl
          intro v8 H locs ls ev8
          rw [ev8]
          clear ev8
          intro hP hD hS hl
          have hF : f_X7_far fu fv fi px py = ((if ((px * (f_X3_squaresAt fv px py)) - (py * (f_X3_squaresAt fu px py))) = 0 then 1 else 0), fi) := hF
          have hf0 := yk_fst hF
          have hg0 := yk_snd hF
          rw [hf0, hg0] at hQ
          exact hQ _ _ _ _ dX7_far_62 hP hS
        refine lv_if_ne (tgt := 61) hx hb dX7_far_54 (by decide) (fun hc7 => ?_) (fun hc7 => ?_)
        · refine lv_iconst (v := 0) hx hb dX7_far_61 (by decide) ?_
          exact J9 _ _ _ _ ((if_neg hc7).symm) hP hD hS (lv_sub hl [1, 2, 3, 0] rfl)
        · refine lv_iconst (v := 1) hx hb dX7_far_57 (by decide) ?_
          refine lv_goto (tgt := 62) hx hb dX7_far_58 (by decide) ?_
          exact J9 _ _ _ _ ((if_pos hc7).symm) hP hD hS (lv_sub hl [1, 2, 3, 0] rfl)
      · replace hF := hF.trans (if_pos hc6)
        refine lv_aload_n hx hb dX7_far_16 rfl (lv_at hl 0 rfl) ?_
        refine lv_ldc (v := (-1000001)) hx hb hown (hts _ kX7_far_0) dX7_far_17 ?_
        refine yk_i [0] (va_runV (As := [.int (-1000001)]) (rest := []) ⟨hx, hb, hml, hown, hts⟩ (c_X7_finding l D cy ta fa a_draft a_fence a_past a_slots a_slotKinds a_sheets a_speedX a_speedY a_leftward a_change a_table fi (-1000001) H.size) (cwV 1 hts gX7_far_X7_finding rfl rfl rfl hv_X7_finding (yk_room hRf hRl rfl rfl)) (yk_pv (q := (RX7, TX7, 13)) hG hA hS hK hP hD [0] (by decide +kernel) rfl rfl rfl) rfl rfl hl.1 rfl (lv_room (Nat.le_of_ble_eq_true rfl)) dX7_far_19 ⟨Nat.zero_le _, Nat.zero_le _⟩) hP hD hS hA rfl (Eq.trans (b := [ta]) rfl rfl) (fun H locs hP9 hD9 hS9 => ?_)
        replace hP : va_P D vwCl [(ta, .inr (7, [.ref fa, .ref a_draft, .ref a_fence, .ref a_past, .ref a_slots, .ref a_slotKinds, .ref a_sheets, .ref a_speedX, .ref a_speedY, .ref a_leftward, .ref a_change, .ref a_table, .int ((f_X7_finding fi (-1000001)).2)])), (fa, .inr (1, [.ref fap, .ref faq])), (fap, .inr (3, [.ref fapn])), (fapn, .inl (cy 0, 6, .inl fu)), (faq, .inr (3, [.ref faqn])), (faqn, .inl (cy 0, 6, .inl fv))] H := hP9
        replace hD : va_D A [(ta, .inr (7, [.ref fa, .ref a_draft, .ref a_fence, .ref a_past, .ref a_slots, .ref a_slotKinds, .ref a_sheets, .ref a_speedX, .ref a_speedY, .ref a_leftward, .ref a_change, .ref a_table, .int ((f_X7_finding fi (-1000001)).2)])), (fa, .inr (1, [.ref fap, .ref faq])), (fap, .inr (3, [.ref fapn])), (fapn, .inl (cy 0, 6, .inl fu)), (faq, .inr (3, [.ref faqn])), (faqn, .inl (cy 0, 6, .inl fv))] := hD9
        replace hS := hS9
        clear hP9 hD9 hS9
        have hF : f_X7_far fu fv fi px py = (((f_X7_finding fi (-1000001)).1), ((f_X7_finding fi (-1000001)).2)) := hF
        have hf0 := yk_fst hF
        have hg0 := yk_snd hF
        rw [hf0, hg0] at hQ
        exact hQ _ _ _ _ dX7_far_22 hP hS
