theorem hv_X7_oneIf : yX7_oneIf.cls = RX7 ∧ yX7_oneIf.cls ≠ "java/lang/invoke/MethodHandle" ∧ yX7_oneIf.cls ≠ "java/lang/invoke/VarHandle" ∧ (parseMethodDescriptor yX7_oneIf.desc).map (fun d => d.parameters.length) = some 1 := by decide +kernel
theorem hs_X7_oneIf : yX7_oneIf.cls ≠ "java/lang/invoke/MethodHandle" ∧ yX7_oneIf.cls ≠ "java/lang/invoke/VarHandle" ∧ (parseMethodDescriptor yX7_oneIf.desc).map (fun d => d.parameters.length) = some 1 := by decide +kernel
theorem hv_X6_fillRow : yX6_fillRow.cls = RX6 ∧ yX6_fillRow.cls ≠ "java/lang/invoke/MethodHandle" ∧ yX6_fillRow.cls ≠ "java/lang/invoke/VarHandle" ∧ (parseMethodDescriptor yX6_fillRow.desc).map (fun d => d.parameters.length) = some 2 := by decide +kernel
theorem hs_X6_fillRow : yX6_fillRow.cls ≠ "java/lang/invoke/MethodHandle" ∧ yX6_fillRow.cls ≠ "java/lang/invoke/VarHandle" ∧ (parseMethodDescriptor yX6_fillRow.desc).map (fun d => d.parameters.length) = some 2 := by decide +kernel
theorem hv_X6_rank : yX6_rank.cls = RX6 ∧ yX6_rank.cls ≠ "java/lang/invoke/MethodHandle" ∧ yX6_rank.cls ≠ "java/lang/invoke/VarHandle" ∧ (parseMethodDescriptor yX6_rank.desc).map (fun d => d.parameters.length) = some 0 := by decide +kernel
theorem hs_X6_rank : yX6_rank.cls ≠ "java/lang/invoke/MethodHandle" ∧ yX6_rank.cls ≠ "java/lang/invoke/VarHandle" ∧ (parseMethodDescriptor yX6_rank.desc).map (fun d => d.parameters.length) = some 0 := by decide +kernel
theorem hv_X7_linesOfCubic : yX7_linesOfCubic.cls = RX7 ∧ yX7_linesOfCubic.cls ≠ "java/lang/invoke/MethodHandle" ∧ yX7_linesOfCubic.cls ≠ "java/lang/invoke/VarHandle" ∧ (parseMethodDescriptor yX7_linesOfCubic.desc).map (fun d => d.parameters.length) = some 4 := by decide +kernel
theorem hs_X7_linesOfCubic : yX7_linesOfCubic.cls ≠ "java/lang/invoke/MethodHandle" ∧ yX7_linesOfCubic.cls ≠ "java/lang/invoke/VarHandle" ∧ (parseMethodDescriptor yX7_linesOfCubic.desc).map (fun d => d.parameters.length) = some 4 := by decide +kernel
theorem kX7_falls_0 : Cond.constant RX7 83 (-1000001) ∈ wsX7_falls := by decide +kernel
theorem kX7_falls_1 : Cond.fieldLink RX7 10 "FlowPlane" "flow" "LFlowPlane$Flow;" ∈ wsX7_falls := by decide +kernel
theorem kX7_falls_2 : Cond.fieldLink RX7 117 "FlowPlane$Flow" "p" "LFlowPlane$Polynomial;" ∈ wsX7_falls := by decide +kernel
theorem kX7_falls_3 : Cond.fieldLink RX7 125 "FlowPlane$Flow" "q" "LFlowPlane$Polynomial;" ∈ wsX7_falls := by decide +kernel
theorem uX7_falls_X7 : ∀ w ∈ u_ws RX7 TX7 13, w ∈ wsX7_falls := by decide +kernel
theorem uX7_falls_X1 : ∀ w ∈ u_ws RX1 TX1 2, w ∈ wsX7_falls := by decide +kernel
def f_X7_falls (fu : Nat → Int32) (fv : Nat → Int32) (fi : Int32) (pa : Int32) (pb : Int32) (pc_ : Int32) (pd : Int32) (pe : Int32) (px : Int32) (py : Int32) : Int32 × Int32 := (if (f_X7_isSum pa pb pc_ pd pe) = 0 then (((f_X7_finding fi (-1000001)).1), ((f_X7_finding fi (-1000001)).2)) else (if (f_X7_isPlace px py) = 0 then (((f_X7_finding fi (-1000001)).1), ((f_X7_finding fi (-1000001)).2)) else (((((pa + ((2 * pc_) * px)) + (pd * py)) * (f_X3_at fu px py)) + (((pb + (pd * px)) + ((2 * pe) * py)) * (f_X3_at fv px py))), fi)))
set_option maxHeartbeats 400000000 in
set_option maxRecDepth 100000 in
theorem c_X7_falls (l : Launch) (D : va_G) (cy : Nat → ClassId) (ta : Nat) (fa : Nat) (fap : Nat) (fapn : Nat) (faq : Nat) (faqn : Nat) (a_draft : Nat) (a_fence : Nat) (a_past : Nat) (a_slots : Nat) (a_slotKinds : Nat) (a_sheets : Nat) (a_speedX : Nat) (a_speedY : Nat) (a_leftward : Nat) (a_change : Nat) (a_table : Nat) (fu : Nat → Int32) (fv : Nat → Int32) (fi : Int32) (pa : Int32) (pb : Int32) (pc_ : Int32) (pd : Int32) (pe : Int32) (px : Int32) (py : Int32) : yk_Ci l D vwCl (yk_ty cy) yX7_falls wsX7_falls 2 45 [.ref ta, .int pa, .int pb, .int pc_, .int pd, .int pe, .int px, .int py] [(ta, .inr (7, [.ref fa, .ref a_draft, .ref a_fence, .ref a_past, .ref a_slots, .ref a_slotKinds, .ref a_sheets, .ref a_speedX, .ref a_speedY, .ref a_leftward, .ref a_change, .ref a_table, .int fi])), (fa, .inr (1, [.ref fap, .ref faq])), (fap, .inr (3, [.ref fapn])), (fapn, .inl (cy 0, 6, .inl fu)), (faq, .inr (3, [.ref faqn])), (faqn, .inl (cy 0, 6, .inl fv))] ((f_X7_falls fu fv fi pa pb pc_ pd pe px py).1) [(ta, .inr (7, [.ref fa, .ref a_draft, .ref a_fence, .ref a_past, .ref a_slots, .ref a_slotKinds, .ref a_sheets, .ref a_speedX, .ref a_speedY, .ref a_leftward, .ref a_change, .ref a_table, .int ((f_X7_falls fu fv fi pa pb pc_ pd pe px py).2)])), (fa, .inr (1, [.ref fap, .ref faq])), (fap, .inr (3, [.ref fapn])), (fapn, .inl (cy 0, 6, .inl fu)), (faq, .inr (3, [.ref faqn])), (faqn, .inl (cy 0, 6, .inl fv))] := by
  refine yk_eI (cc := cX7_falls) (maxL := 10) (by decide) rfl (Nat.le_of_ble_eq_true rfl) rfl ?_
  intro p e R s m args below meth c A Q ls H locs hx hb hml hown hts hRf hRl hA hK hG hP hD hS hl hQ
  have hP : va_P D vwCl [(ta, .inr (7, [.ref fa, .ref a_draft, .ref a_fence, .ref a_past, .ref a_slots, .ref a_slotKinds, .ref a_sheets, .ref a_speedX, .ref a_speedY, .ref a_leftward, .ref a_change, .ref a_table, .int fi])), (fa, .inr (1, [.ref fap, .ref faq])), (fap, .inr (3, [.ref fapn])), (fapn, .inl (cy 0, 6, .inl fu)), (faq, .inr (3, [.ref faqn])), (faqn, .inl (cy 0, 6, .inl fv))] H := hP
  have hl : lv_has ls 10 [(0, .ref ta), (1, .int pa), (2, .int pb), (3, .int pc_), (4, .int pd), (5, .int pe), (6, .int px), (7, .int py)] := hl
  have hown : s.vm.findClass RX7 = some m.cls := hown
  have hF : (f_X7_falls fu fv fi pa pb pc_ pd pe px py) = (f_X7_falls fu fv fi pa pb pc_ pd pe px py) := rfl
  refine lv_iload_n hx hb dX7_falls_0 rfl (lv_at hl 1 rfl) ?_
  refine lv_iload_n hx hb dX7_falls_1 rfl (lv_at hl 2 rfl) ?_
  refine lv_iload_n hx hb dX7_falls_2 rfl (lv_at hl 3 rfl) ?_
  refine lv_iload hx hb dX7_falls_3 (lv_at hl 4 rfl) ?_
  refine lv_iload hx hb dX7_falls_5 (lv_at hl 5 rfl) ?_
  refine yk_i [] (va_runS (As := [.int pa, .int pb, .int pc_, .int pd, .int pe]) (rest := []) ⟨hx, hb, hml, hown, hts⟩ (c_X7_isSum l D cy pa pb pc_ pd pe H.size) (va_cwS 5 hts gX7_falls_X7_isSum rfl rfl rfl hs_X7_isSum (yk_room hRf hRl rfl rfl)) (yk_ps hG hA hS hK hP hD [] (by decide +kernel) rfl) rfl rfl hl.1 rfl (lv_room (Nat.le_of_ble_eq_true rfl)) dX7_falls_7 ⟨Nat.zero_le _, Nat.zero_le _⟩) hP hD hS hA rfl rfl (fun H locs hP9 hD9 hS9 => ?_)
  replace hP : va_P D vwCl [(ta, .inr (7, [.ref fa, .ref a_draft, .ref a_fence, .ref a_past, .ref a_slots, .ref a_slotKinds, .ref a_sheets, .ref a_speedX, .ref a_speedY, .ref a_leftward, .ref a_change, .ref a_table, .int fi])), (fa, .inr (1, [.ref fap, .ref faq])), (fap, .inr (3, [.ref fapn])), (fapn, .inl (cy 0, 6, .inl fu)), (faq, .inr (3, [.ref faqn])), (faqn, .inl (cy 0, 6, .inl fv))] H := hP9
  replace hD : va_D A [(ta, .inr (7, [.ref fa, .ref a_draft, .ref a_fence, .ref a_past, .ref a_slots, .ref a_slotKinds, .ref a_sheets, .ref a_speedX, .ref a_speedY, .ref a_leftward, .ref a_change, .ref a_table, .int fi])), (fa, .inr (1, [.ref fap, .ref faq])), (fap, .inr (3, [.ref fapn])), (fapn, .inl (cy 0, 6, .inl fu)), (faq, .inr (3, [.ref faqn])), (faqn, .inl (cy 0, 6, .inl fv))] := hD9
  replace hS := hS9
  clear hP9 hD9 hS9
  refine lv_if_eq (tgt := 23) hx hb dX7_falls_10 (by decide) (fun hc1 => ?_) (fun hc1 => ?_)
  · replace hF := hF.trans (if_pos hc1)
    refine lv_aload_n hx hb dX7_falls_23 rfl (lv_at hl 0 rfl) ?_
    refine lv_ldc (v := (-1000001)) hx hb hown (hts _ kX7_falls_0) dX7_falls_24 ?_
    refine yk_i [0] (va_runV (As := [.int (-1000001)]) (rest := []) ⟨hx, hb, hml, hown, hts⟩ (c_X7_finding l D cy ta fa a_draft a_fence a_past a_slots a_slotKinds a_sheets a_speedX a_speedY a_leftward a_change a_table fi (-1000001) H.size) (cwV 1 hts gX7_falls_X7_finding rfl rfl rfl hv_X7_finding (yk_room hRf hRl rfl rfl)) (yk_pv (q := (RX7, TX7, 13)) hG hA hS hK hP hD [0] (by decide +kernel) rfl rfl rfl) rfl rfl hl.1 rfl (lv_room (Nat.le_of_ble_eq_true rfl)) dX7_falls_26 ⟨Nat.zero_le _, Nat.zero_le _⟩) hP hD hS hA rfl (Eq.trans (b := [ta]) rfl rfl) (fun H locs hP9 hD9 hS9 => ?_)
    replace hP : va_P D vwCl [(ta, .inr (7, [.ref fa, .ref a_draft, .ref a_fence, .ref a_past, .ref a_slots, .ref a_slotKinds, .ref a_sheets, .ref a_speedX, .ref a_speedY, .ref a_leftward, .ref a_change, .ref a_table, .int ((f_X7_finding fi (-1000001)).2)])), (fa, .inr (1, [.ref fap, .ref faq])), (fap, .inr (3, [.ref fapn])), (fapn, .inl (cy 0, 6, .inl fu)), (faq, .inr (3, [.ref faqn])), (faqn, .inl (cy 0, 6, .inl fv))] H := hP9
    replace hD : va_D A [(ta, .inr (7, [.ref fa, .ref a_draft, .ref a_fence, .ref a_past, .ref a_slots, .ref a_slotKinds, .ref a_sheets, .ref a_speedX, .ref a_speedY, .ref a_leftward, .ref a_change, .ref a_table, .int ((f_X7_finding fi (-1000001)).2)])), (fa, .inr (1, [.ref fap, .ref faq])), (fap, .inr (3, [.ref fapn])), (fapn, .inl (cy 0, 6, .inl fu)), (faq, .inr (3, [.ref faqn])), (faqn, .inl (cy 0, 6, .inl fv))] := hD9
    replace hS := hS9
    clear hP9 hD9 hS9
    have hF : f_X7_falls fu fv fi pa pb pc_ pd pe px py = (((f_X7_finding fi (-1000001)).1), ((f_X7_finding fi (-1000001)).2)) := hF
    have hf0 := yk_fst hF
    have hg0 := yk_snd hF
    rw [hf0, hg0] at hQ
    exact hQ _ _ _ _ dX7_falls_29 hP hS
  · replace hF := hF.trans (if_neg hc1)
    refine lv_iload hx hb dX7_falls_13 (lv_at hl 6 rfl) ?_
    refine lv_iload hx hb dX7_falls_15 (lv_at hl 7 rfl) ?_
    refine yk_i [] (va_runS (As := [.int px, .int py]) (rest := []) ⟨hx, hb, hml, hown, hts⟩ (c_X7_isPlace l D cy px py H.size) (va_cwS 2 hts gX7_falls_X7_isPlace rfl rfl rfl hs_X7_isPlace (yk_room hRf hRl rfl rfl)) (yk_ps hG hA hS hK hP hD [] (by decide +kernel) rfl) rfl rfl hl.1 rfl (lv_room (Nat.le_of_ble_eq_true rfl)) dX7_falls_17 ⟨Nat.zero_le _, Nat.zero_le _⟩) hP hD hS hA rfl rfl (fun H locs hP9 hD9 hS9 => ?_)
    replace hP : va_P D vwCl [(ta, .inr (7, [.ref fa, .ref a_draft, .ref a_fence, .ref a_past, .ref a_slots, .ref a_slotKinds, .ref a_sheets, .ref a_speedX, .ref a_speedY, .ref a_leftward, .ref a_change, .ref a_table, .int fi])), (fa, .inr (1, [.ref fap, .ref faq])), (fap, .inr (3, [.ref fapn])), (fapn, .inl (cy 0, 6, .inl fu)), (faq, .inr (3, [.ref faqn])), (faqn, .inl (cy 0, 6, .inl fv))] H := hP9
    replace hD : va_D A [(ta, .inr (7, [.ref fa, .ref a_draft, .ref a_fence, .ref a_past, .ref a_slots, .ref a_slotKinds, .ref a_sheets, .ref a_speedX, .ref a_speedY, .ref a_leftward, .ref a_change, .ref a_table, .int fi])), (fa, .inr (1, [.ref fap, .ref faq])), (fap, .inr (3, [.ref fapn])), (fapn, .inl (cy 0, 6, .inl fu)), (faq, .inr (3, [.ref faqn])), (faqn, .inl (cy 0, 6, .inl fv))] := hD9
    replace hS := hS9
    clear hP9 hD9 hS9
    refine lv_if_ne (tgt := 30) hx hb dX7_falls_20 (by decide) (fun hc2 => ?_) (fun hc2 => ?_)
    · replace hF := hF.trans (if_neg hc2)
      refine lv_iload_n hx hb dX7_falls_30 rfl (lv_at hl 1 rfl) ?_
      refine lv_iconst (v := 2) hx hb dX7_falls_31 (by decide) ?_
      refine lv_iload_n hx hb dX7_falls_32 rfl (lv_at hl 3 rfl) ?_
      refine lv_imul hx hb dX7_falls_33 ?_
      refine lv_iload hx hb dX7_falls_34 (lv_at hl 6 rfl) ?_
      refine lv_imul hx hb dX7_falls_36 ?_
      refine lv_iadd hx hb dX7_falls_37 ?_
      refine lv_iload hx hb dX7_falls_38 (lv_at hl 4 rfl) ?_
      refine lv_iload hx hb dX7_falls_40 (lv_at hl 7 rfl) ?_
      refine lv_imul hx hb dX7_falls_42 ?_
      refine lv_iadd hx hb dX7_falls_43 ?_
      refine lv_istore (lv' := [(8, .int ((pa + ((2 * pc_) * px)) + (pd * py))), (0, .ref ta), (1, .int pa), (2, .int pb), (3, .int pc_), (4, .int pd), (5, .int pe), (6, .int px), (7, .int py)]) hx hb dX7_falls_44 hl (by decide) rfl (fun ls hl9 => ?_)
      replace hl := hl9
      clear hl9
      refine lv_iload_n hx hb dX7_falls_46 rfl (lv_at hl 3 rfl) ?_
      refine lv_iload hx hb dX7_falls_47 (lv_at hl 5 rfl) ?_
      refine lv_iload hx hb dX7_falls_49 (lv_at hl 7 rfl) ?_
      refine lv_imul hx hb dX7_falls_51 ?_
      refine lv_iadd hx hb dX7_falls_52 ?_
      refine lv_iconst (v := 2) hx hb dX7_falls_53 (by decide) ?_
      refine lv_iload hx hb dX7_falls_54 (lv_at hl 6 rfl) ?_
      refine lv_imul hx hb dX7_falls_56 ?_
      refine lv_iload hx hb dX7_falls_57 (lv_at hl 8 rfl) ?_
      refine lv_imul hx hb dX7_falls_59 ?_
      refine lv_iadd hx hb dX7_falls_60 ?_
      refine lv_istore (lv' := [(9, .int ((pb + (pd * px)) + ((2 * pe) * py))), (8, .int ((pa + ((2 * pc_) * px)) + (pd * py))), (0, .ref ta), (1, .int pa), (2, .int pb), (3, .int pc_), (4, .int pd), (5, .int pe), (6, .int px), (7, .int py)]) hx hb dX7_falls_61 hl (by decide) rfl (fun ls hl9 => ?_)
      replace hl := hl9
      clear hl9
      refine lv_iload hx hb dX7_falls_63 (lv_at hl 1 rfl) ?_
      refine lv_aload_n hx hb dX7_falls_65 rfl (lv_at hl 2 rfl) ?_
      refine va_get (D := D) (ci := 7) (v := .ref fa) (C := RX7) (T := TX7) (N := 13) hx hb hts uX7_falls_X7 hown hK hP 0 rfl rfl 0 (by decide) (hts _ kX7_falls_1) (fun _ h9 => h9) rfl dX7_falls_66 ?_
      refine va_get (D := D) (ci := 1) (v := .ref fap) (C := RX1) (T := TX1) (N := 2) hx hb hts uX7_falls_X1 hown hK hP 1 rfl rfl 0 (by decide) (hts _ kX7_falls_2) (fun _ h9 => h9) rfl dX7_falls_69 ?_
      refine lv_iload hx hb dX7_falls_72 (lv_at hl 8 rfl) ?_
      refine lv_iload hx hb dX7_falls_74 (lv_at hl 9 rfl) ?_
      refine yk_i [2, 3] (va_runV (As := [.int px, .int py]) (rest := [.int ((pa + ((2 * pc_) * px)) + (pd * py))]) ⟨hx, hb, hml, hown, hts⟩ (c_X3_at l D cy fap fapn fu px py H.size) (cwV 2 hts gX7_falls_X3_at rfl rfl rfl hv_X3_at (yk_room hRf hRl rfl rfl)) (yk_pv (q := (RX3, TX3, 1)) hG hA hS hK hP hD [2, 3] (by decide +kernel) rfl rfl rfl) rfl rfl hl.1 rfl (lv_room (Nat.le_of_ble_eq_true rfl)) dX7_falls_76 ⟨Nat.zero_le _, Nat.zero_le _⟩) hP hD hS hA rfl (Eq.trans (b := [fap, fapn]) rfl rfl) (fun H locs hP9 hD9 hS9 => ?_)
      replace hP : va_P D vwCl [(ta, .inr (7, [.ref fa, .ref a_draft, .ref a_fence, .ref a_past, .ref a_slots, .ref a_slotKinds, .ref a_sheets, .ref a_speedX, .ref a_speedY, .ref a_leftward, .ref a_change, .ref a_table, .int fi])), (fa, .inr (1, [.ref fap, .ref faq])), (fap, .inr (3, [.ref fapn])), (fapn, .inl (cy 0, 6, .inl fu)), (faq, .inr (3, [.ref faqn])), (faqn, .inl (cy 0, 6, .inl fv))] H := hP9
      replace hD : va_D A [(ta, .inr (7, [.ref fa, .ref a_draft, .ref a_fence, .ref a_past, .ref a_slots, .ref a_slotKinds, .ref a_sheets, .ref a_speedX, .ref a_speedY, .ref a_leftward, .ref a_change, .ref a_table, .int fi])), (fa, .inr (1, [.ref fap, .ref faq])), (fap, .inr (3, [.ref fapn])), (fapn, .inl (cy 0, 6, .inl fu)), (faq, .inr (3, [.ref faqn])), (faqn, .inl (cy 0, 6, .inl fv))] := hD9
      replace hS := hS9
      clear hP9 hD9 hS9
      refine lv_imul hx hb dX7_falls_79 ?_
      refine lv_iload hx hb dX7_falls_80 (lv_at hl 0 rfl) ?_
      refine lv_aload_n hx hb dX7_falls_82 rfl (lv_at hl 2 rfl) ?_
      refine va_get (D := D) (ci := 7) (v := .ref fa) (C := RX7) (T := TX7) (N := 13) hx hb hts uX7_falls_X7 hown hK hP 0 rfl rfl 0 (by decide) (hts _ kX7_falls_1) (fun _ h9 => h9) rfl dX7_falls_83 ?_
      refine va_get (D := D) (ci := 1) (v := .ref faq) (C := RX1) (T := TX1) (N := 2) hx hb hts uX7_falls_X1 hown hK hP 1 rfl rfl 1 (by decide) (hts _ kX7_falls_3) (fun _ h9 => h9) rfl dX7_falls_86 ?_
      refine lv_iload hx hb dX7_falls_89 (lv_at hl 8 rfl) ?_
      refine lv_iload hx hb dX7_falls_91 (lv_at hl 9 rfl) ?_
      refine yk_i [4, 5] (va_runV (As := [.int px, .int py]) (rest := [.int ((pb + (pd * px)) + ((2 * pe) * py)), .int (((pa + ((2 * pc_) * px)) + (pd * py)) * (f_X3_at fu px py))]) ⟨hx, hb, hml, hown, hts⟩ (c_X3_at l D cy faq faqn fv px py H.size) (cwV 2 hts gX7_falls_X3_at rfl rfl rfl hv_X3_at (yk_room hRf hRl rfl rfl)) (yk_pv (q := (RX3, TX3, 1)) hG hA hS hK hP hD [4, 5] (by decide +kernel) rfl rfl rfl) rfl rfl hl.1 rfl (lv_room (Nat.le_of_ble_eq_true rfl)) dX7_falls_93 ⟨Nat.zero_le _, Nat.zero_le _⟩) hP hD hS hA rfl (Eq.trans (b := [faq, faqn]) rfl rfl) (fun H locs hP9 hD9 hS9 => ?_)
      replace hP : va_P D vwCl [(ta, .inr (7, [.ref fa, .ref a_draft, .ref a_fence, .ref a_past, .ref a_slots, .ref a_slotKinds, .ref a_sheets, .ref a_speedX, .ref a_speedY, .ref a_leftward, .ref a_change, .ref a_table, .int fi])), (fa, .inr (1, [.ref fap, .ref faq])), (fap, .inr (3, [.ref fapn])), (fapn, .inl (cy 0, 6, .inl fu)), (faq, .inr (3, [.ref faqn])), (faqn, .inl (cy 0, 6, .inl fv))] H := hP9
      replace hD : va_D A [(ta, .inr (7, [.ref fa, .ref a_draft, .ref a_fence, .ref a_past, .ref a_slots, .ref a_slotKinds, .ref a_sheets, .ref a_speedX, .ref a_speedY, .ref a_leftward, .ref a_change, .ref a_table, .int fi])), (fa, .inr (1, [.ref fap, .ref faq])), (fap, .inr (3, [.ref fapn])), (fapn, .inl (cy 0, 6, .inl fu)), (faq, .inr (3, [.ref faqn])), (faqn, .inl (cy 0, 6, .inl fv))] := hD9
      replace hS := hS9
      clear hP9 hD9 hS9
      refine lv_imul hx hb dX7_falls_96 ?_
      refine lv_iadd hx hb dX7_falls_97 ?_
      have hF : f_X7_falls fu fv fi pa pb pc_ pd pe px py = (((((pa + ((2 * pc_) * px)) + (pd * py)) * (f_X3_at fu px py)) + (((pb + (pd * px)) + ((2 * pe) * py)) * (f_X3_at fv px py))), fi) := hF
      have hf0 := yk_fst hF
      have hg0 := yk_snd hF
      rw [hf0, hg0] at hQ
      exact hQ _ _ _ _ dX7_falls_98 hP hS
    · replace hF := hF.trans (if_pos hc2)
      refine lv_aload_n hx hb dX7_falls_23 rfl (lv_at hl 0 rfl) ?_
      refine lv_ldc (v := (-1000001)) hx hb hown (hts _ kX7_falls_0) dX7_falls_24 ?_
      refine yk_i [0] (va_runV (As := [.int (-1000001)]) (rest := []) ⟨hx, hb, hml, hown, hts⟩ (c_X7_finding l D cy ta fa a_draft a_fence a_past a_slots a_slotKinds a_sheets a_speedX a_speedY a_leftward a_change a_table fi (-1000001) H.size) (cwV 1 hts gX7_falls_X7_finding rfl rfl rfl hv_X7_finding (yk_room hRf hRl rfl rfl)) (yk_pv (q := (RX7, TX7, 13)) hG hA hS hK hP hD [0] (by decide +kernel) rfl rfl rfl) rfl rfl hl.1 rfl (lv_room (Nat.le_of_ble_eq_true rfl)) dX7_falls_26 ⟨Nat.zero_le _, Nat.zero_le _⟩) hP hD hS hA rfl (Eq.trans (b := [ta]) rfl rfl) (fun H locs hP9 hD9 hS9 => ?_)
      replace hP : va_P D vwCl [(ta, .inr (7, [.ref fa, .ref a_draft, .ref a_fence, .ref a_past, .ref a_slots, .ref a_slotKinds, .ref a_sheets, .ref a_speedX, .ref a_speedY, .ref a_leftward, .ref a_change, .ref a_table, .int ((f_X7_finding fi (-1000001)).2)])), (fa, .inr (1, [.ref fap, .ref faq])), (fap, .inr (3, [.ref fapn])), (fapn, .inl (cy 0, 6, .inl fu)), (faq, .inr (3, [.ref faqn])), (faqn, .inl (cy 0, 6, .inl fv))] H := hP9
      replace hD : va_D A [(ta, .inr (7, [.ref fa, .ref a_draft, .ref a_fence, .ref a_past, .ref a_slots, .ref a_slotKinds, .ref a_sheets, .ref a_speedX, .ref a_speedY, .ref a_leftward, .ref a_change, .ref a_table, .int ((f_X7_finding fi (-1000001)).2)])), (fa, .inr (1, [.ref fap, .ref faq])), (fap, .inr (3, [.ref fapn])), (fapn, .inl (cy 0, 6, .inl fu)), (faq, .inr (3, [.ref faqn])), (faqn, .inl (cy 0, 6, .inl fv))] := hD9
      replace hS := hS9
      clear hP9 hD9 hS9
      have hF : f_X7_falls fu fv fi pa pb pc_ pd pe px py = (((f_X7_finding fi (-1000001)).1), ((f_X7_finding fi (-1000001)).2)) := hF
      have hf0 := yk_fst hF
      have hg0 := yk_snd hF
      rw [hf0, hg0] at hQ
      exact hQ _ _ _ _ dX7_falls_29 hP hS

theorem kX7_kept_0 : Cond.fieldLink RX7 10 "FlowPlane" "flow" "LFlowPlane$Flow;" ∈ wsX7_kept := by decide +kernel
theorem kX7_kept_1 : Cond.fieldLink RX7 117 "FlowPlane$Flow" "p" "LFlowPlane$Polynomial;" ∈ wsX7_kept := by decide +kernel
theorem kX7_kept_2 : Cond.fieldLink RX7 125 "FlowPlane$Flow" "q" "LFlowPlane$Polynomial;" ∈ wsX7_kept := by decide +kernel
theorem kX7_kept_3 : Cond.fieldLink RX7 67 "FlowPlane" "table" "LFlowPlane$Table;" ∈ wsX7_kept := by decide +kernel
theorem kX7_kept_4 : Cond.fieldLink RX7 61 "FlowPlane" "change" "[I" ∈ wsX7_kept := by decide +kernel
theorem uX7_kept_X7 : ∀ w ∈ u_ws RX7 TX7 13, w ∈ wsX7_kept := by decide +kernel
theorem uX7_kept_X1 : ∀ w ∈ u_ws RX1 TX1 2, w ∈ wsX7_kept := by decide +kernel
def l_X7_kept_2 (fu : Nat → Int32) (fv : Nat → Int32) (ch : Nat → Int32) (tb : Nat → Nat → Int64) : Nat → Nat → (Nat → Int32) → (Nat → Nat → Int64) → (Nat → Int32) × (Nat → Nat → Int64)
  | 0, ki, zC_2, zDf_2 => (zC_2, zDf_2)
  | fu_X7_kept_2 + 1, ki, zC_2, zDf_2 => (if 5 ≤ (nI ki) then (zC_2, zDf_2) else (l_X7_kept_2 fu fv ch tb fu_X7_kept_2 (ki + 1) (f_X7_addChange (f_X7_addChange (f_X7_clearChange zC_2) fu (f_X7_oneIf (if (nI ki) = 0 then 1 else 0)) (2 * (f_X7_oneIf (if (nI ki) = 2 then 1 else 0))) (f_X7_oneIf (if (nI ki) = 3 then 1 else 0))) fv (f_X7_oneIf (if (nI ki) = 1 then 1 else 0)) (f_X7_oneIf (if (nI ki) = 3 then 1 else 0)) (2 * (f_X7_oneIf (if (nI ki) = 4 then 1 else 0)))) (f_X6_fillRow zDf_2 ki (f_X7_addChange (f_X7_addChange (f_X7_clearChange zC_2) fu (f_X7_oneIf (if (nI ki) = 0 then 1 else 0)) (2 * (f_X7_oneIf (if (nI ki) = 2 then 1 else 0))) (f_X7_oneIf (if (nI ki) = 3 then 1 else 0))) fv (f_X7_oneIf (if (nI ki) = 1 then 1 else 0)) (f_X7_oneIf (if (nI ki) = 3 then 1 else 0)) (2 * (f_X7_oneIf (if (nI ki) = 4 then 1 else 0)))))))
def f_X7_kept (fu : Nat → Int32) (fv : Nat → Int32) (ch : Nat → Int32) (tb : Nat → Nat → Int64) : Int32 × (Nat → Int32) × (Nat → Nat → Int64) := ((5 - ((f_X6_rank ((l_X7_kept_2 fu fv ch tb (5 + 1) 0 ch tb).2)).1)), ((l_X7_kept_2 fu fv ch tb (5 + 1) 0 ch tb).1), ((f_X6_rank ((l_X7_kept_2 fu fv ch tb (5 + 1) 0 ch tb).2)).2))
set_option maxHeartbeats 400000000 in
set_option maxRecDepth 100000 in
theorem c_X7_kept (l : Launch) (D : va_G) (cy : Nat → ClassId) (ta : Nat) (fa : Nat) (fap : Nat) (fapn : Nat) (faq : Nat) (faqn : Nat) (ca : Nat) (da : Nat) (dar : Nat) (daf : Nat → Nat) (a_draft : Nat) (a_fence : Nat) (a_past : Nat) (a_slots : Nat) (a_slotKinds : Nat) (a_sheets : Nat) (a_speedX : Nat) (a_speedY : Nat) (a_leftward : Nat) (fu : Nat → Int32) (fv : Nat → Int32) (ch : Nat → Int32) (tb : Nat → Nat → Int64) (fi : Int32) : yk_Ci l D vwCl (yk_ty cy) yX7_kept wsX7_kept 3 72 [.ref ta] ([(ta, .inr (7, [.ref fa, .ref a_draft, .ref a_fence, .ref a_past, .ref a_slots, .ref a_slotKinds, .ref a_sheets, .ref a_speedX, .ref a_speedY, .ref a_leftward, .ref ca, .ref da, .int fi])), (fa, .inr (1, [.ref fap, .ref faq])), (fap, .inr (3, [.ref fapn])), (fapn, .inl (cy 0, 6, .inl fu)), (faq, .inr (3, [.ref faqn])), (faqn, .inl (cy 0, 6, .inl fv)), (ca, .inl (cy 0, 10, .inl ch)), (da, .inr (6, [.ref dar])), (dar, .inl (cy 6, 5, .inr (.inr (.inr (.inr (fun i => if i < 5 then some (daf i) else none))))))] ++ yk_fam 5 daf (fun i => .inl (cy 1, 10, .inr (.inl (tb i))))) ((f_X7_kept fu fv ch tb).1) ([(ta, .inr (7, [.ref fa, .ref a_draft, .ref a_fence, .ref a_past, .ref a_slots, .ref a_slotKinds, .ref a_sheets, .ref a_speedX, .ref a_speedY, .ref a_leftward, .ref ca, .ref da, .int fi])), (fa, .inr (1, [.ref fap, .ref faq])), (fap, .inr (3, [.ref fapn])), (fapn, .inl (cy 0, 6, .inl fu)), (faq, .inr (3, [.ref faqn])), (faqn, .inl (cy 0, 6, .inl fv)), (ca, .inl (cy 0, 10, .inl ((f_X7_kept fu fv ch tb).2.1))), (da, .inr (6, [.ref dar])), (dar, .inl (cy 6, 5, .inr (.inr (.inr (.inr (fun i => if i < 5 then some (daf i) else none))))))] ++ yk_fam 5 daf (fun i => .inl (cy 1, 10, .inr (.inl (((f_X7_kept fu fv ch tb).2.2) i))))) := by
  refine yk_eI (cc := cX7_kept) (maxL := 2) (by decide) rfl (Nat.le_of_ble_eq_true rfl) rfl ?_
  intro p e R s m args below meth c A Q ls H locs hx hb hml hown hts hRf hRl hA hK hG hP hD hS hl hQ
  have hP : va_P D vwCl ([(ta, .inr (7, [.ref fa, .ref a_draft, .ref a_fence, .ref a_past, .ref a_slots, .ref a_slotKinds, .ref a_sheets, .ref a_speedX, .ref a_speedY, .ref a_leftward, .ref ca, .ref da, .int fi])), (fa, .inr (1, [.ref fap, .ref faq])), (fap, .inr (3, [.ref fapn])), (fapn, .inl (cy 0, 6, .inl fu)), (faq, .inr (3, [.ref faqn])), (faqn, .inl (cy 0, 6, .inl fv)), (ca, .inl (cy 0, 10, .inl ch)), (da, .inr (6, [.ref dar])), (dar, .inl (cy 6, 5, .inr (.inr (.inr (.inr (fun i => if i < 5 then some (daf i) else none))))))] ++ yk_fam 5 daf (fun i => .inl (cy 1, 10, .inr (.inl (tb i))))) H := hP
  have hl : lv_has ls 2 [(0, .ref ta)] := hl
  have hown : s.vm.findClass RX7 = some m.cls := hown
  have hF : (f_X7_kept fu fv ch tb) = (f_X7_kept fu fv ch tb) := rfl
  refine lv_iconst (v := 0) hx hb dX7_kept_0 (by decide) ?_
  refine lv_istore_n (lv' := [(1, .int 0), (0, .ref ta)]) hx hb dX7_kept_1 rfl hl (by decide) rfl (fun ls hl9 => ?_)
  replace hl := hl9
  clear hl9
  have J39 : ∀ (H : Heap) (locs : List Loc) (ls : Array Slot), va_P D vwCl ([(ta, .inr (7, [.ref fa, .ref a_draft, .ref a_fence, .ref a_past, .ref a_slots, .ref a_slotKinds, .ref a_sheets, .ref a_speedX, .ref a_speedY, .ref a_leftward, .ref ca, .ref da, .int fi])), (fa, .inr (1, [.ref fap, .ref faq])), (fap, .inr (3, [.ref fapn])), (fapn, .inl (cy 0, 6, .inl fu)), (faq, .inr (3, [.ref faqn])), (faqn, .inl (cy 0, 6, .inl fv)), (ca, .inl (cy 0, 10, .inl ((l_X7_kept_2 fu fv ch tb (5 + 1) 0 ch tb).1))), (da, .inr (6, [.ref dar])), (dar, .inl (cy 6, 5, .inr (.inr (.inr (.inr (fun i => if i < 5 then some (daf i) else none))))))] ++ yk_fam 5 daf (fun i => .inl (cy 1, 10, .inr (.inl (((l_X7_kept_2 fu fv ch tb (5 + 1) 0 ch tb).2) i))))) H → va_D A ([(ta, .inr (7, [.ref fa, .ref a_draft, .ref a_fence, .ref a_past, .ref a_slots, .ref a_slotKinds, .ref a_sheets, .ref a_speedX, .ref a_speedY, .ref a_leftward, .ref ca, .ref da, .int fi])), (fa, .inr (1, [.ref fap, .ref faq])), (fap, .inr (3, [.ref fapn])), (fapn, .inl (cy 0, 6, .inl fu)), (faq, .inr (3, [.ref faqn])), (faqn, .inl (cy 0, 6, .inl fv)), (ca, .inl (cy 0, 10, .inl ((l_X7_kept_2 fu fv ch tb (5 + 1) 0 ch tb).1))), (da, .inr (6, [.ref dar])), (dar, .inl (cy 6, 5, .inr (.inr (.inr (.inr (fun i => if i < 5 then some (daf i) else none))))))] ++ yk_fam 5 daf (fun i => .inl (cy 1, 10, .inr (.inl (((l_X7_kept_2 fu fv ch tb (5 + 1) 0 ch tb).2) i))))) → va_S A s.heap H locs → lv_has ls 2 [(0, .ref ta)] → W p l e R s m args below meth c H locs 0 0 Q (F0 m 132 ls []) := by
    clear hP hD hS hl
    intro H locs ls hP hD hS hl
    refine lv_iconst (v := 5) hx hb dX7_kept_132 (by decide) ?_
    refine lv_aload_n hx hb dX7_kept_133 rfl (lv_at hl 0 rfl) ?_
    refine va_get (D := D) (ci := 7) (v := .ref da) (C := RX7) (T := TX7) (N := 13) hx hb hts uX7_kept_X7 hown hK hP 0 rfl rfl 11 (by decide) (hts _ kX7_kept_3) (fun _ h9 => h9) rfl dX7_kept_134 ?_
    refine yk_i [7, 8, 9, 10, 11, 12, 13] (va_runV (As := []) (rest := [.int 5]) ⟨hx, hb, hml, hown, hts⟩ (c_X6_rank l D cy da dar daf ((l_X7_kept_2 fu fv ch tb (5 + 1) 0 ch tb).2) H.size) (cwV 0 hts gX7_kept_X6_rank rfl rfl rfl hv_X6_rank (yk_room hRf hRl rfl rfl)) (yk_pv (q := (RX6, TX6, 1)) hG hA hS hK hP hD [7, 8, 9, 10, 11, 12, 13] (by decide +kernel) rfl rfl rfl) rfl rfl hl.1 rfl (lv_room (Nat.le_of_ble_eq_true rfl)) dX7_kept_137 ⟨Nat.zero_le _, Nat.zero_le _⟩) hP hD hS hA rfl (Eq.trans (b := [da, dar, daf 0, daf 1, daf 2, daf 3, daf 4]) rfl rfl) (fun H locs hP9 hD9 hS9 => ?_)
    replace hP : va_P D vwCl ([(ta, .inr (7, [.ref fa, .ref a_draft, .ref a_fence, .ref a_past, .ref a_slots, .ref a_slotKinds, .ref a_sheets, .ref a_speedX, .ref a_speedY, .ref a_leftward, .ref ca, .ref da, .int fi])), (fa, .inr (1, [.ref fap, .ref faq])), (fap, .inr (3, [.ref fapn])), (fapn, .inl (cy 0, 6, .inl fu)), (faq, .inr (3, [.ref faqn])), (faqn, .inl (cy 0, 6, .inl fv)), (ca, .inl (cy 0, 10, .inl ((l_X7_kept_2 fu fv ch tb (5 + 1) 0 ch tb).1))), (da, .inr (6, [.ref dar])), (dar, .inl (cy 6, 5, .inr (.inr (.inr (.inr (fun i => if i < 5 then some (daf i) else none))))))] ++ yk_fam 5 daf (fun i => .inl (cy 1, 10, .inr (.inl (((f_X6_rank ((l_X7_kept_2 fu fv ch tb (5 + 1) 0 ch tb).2)).2) i))))) H := hP9
    replace hD : va_D A ([(ta, .inr (7, [.ref fa, .ref a_draft, .ref a_fence, .ref a_past, .ref a_slots, .ref a_slotKinds, .ref a_sheets, .ref a_speedX, .ref a_speedY, .ref a_leftward, .ref ca, .ref da, .int fi])), (fa, .inr (1, [.ref fap, .ref faq])), (fap, .inr (3, [.ref fapn])), (fapn, .inl (cy 0, 6, .inl fu)), (faq, .inr (3, [.ref faqn])), (faqn, .inl (cy 0, 6, .inl fv)), (ca, .inl (cy 0, 10, .inl ((l_X7_kept_2 fu fv ch tb (5 + 1) 0 ch tb).1))), (da, .inr (6, [.ref dar])), (dar, .inl (cy 6, 5, .inr (.inr (.inr (.inr (fun i => if i < 5 then some (daf i) else none))))))] ++ yk_fam 5 daf (fun i => .inl (cy 1, 10, .inr (.inl (((f_X6_rank ((l_X7_kept_2 fu fv ch tb (5 + 1) 0 ch tb).2)).2) i))))) := hD9
    replace hS := hS9
    clear hP9 hD9 hS9
    refine lv_isub hx hb dX7_kept_140 ?_
    have hF : f_X7_kept fu fv ch tb = ((5 - ((f_X6_rank ((l_X7_kept_2 fu fv ch tb (5 + 1) 0 ch tb).2)).1)), ((l_X7_kept_2 fu fv ch tb (5 + 1) 0 ch tb).1), ((f_X6_rank ((l_X7_kept_2 fu fv ch tb (5 + 1) 0 ch tb).2)).2)) := hF
    have hf0 := yk_fst hF
    have hg0 := yk_snd hF
    have hf1 := yk_fst hg0
    have hg1 := yk_snd hg0
    rw [hf0, hf1, hg1] at hQ
    exact hQ _ _ _ _ dX7_kept_141 hP hS
  have L2 : ∀ (M9 n2 ki : Nat) (zC_2 : Nat → Int32) (zDf_2 : Nat → Nat → Int64) (H : Heap) (locs : List Loc) (ls : Array Slot), n2 < M9 → ki + n2 = 5 → (l_X7_kept_2 fu fv ch tb (5 + 1) 0 ch tb) = (l_X7_kept_2 fu fv ch tb (n2 + 1) ki zC_2 zDf_2) → va_P D vwCl ([(ta, .inr (7, [.ref fa, .ref a_draft, .ref a_fence, .ref a_past, .ref a_slots, .ref a_slotKinds, .ref a_sheets, .ref a_speedX, .ref a_speedY, .ref a_leftward, .ref ca, .ref da, .int fi])), (fa, .inr (1, [.ref fap, .ref faq])), (fap, .inr (3, [.ref fapn])), (fapn, .inl (cy 0, 6, .inl fu)), (faq, .inr (3, [.ref faqn])), (faqn, .inl (cy 0, 6, .inl fv)), (ca, .inl (cy 0, 10, .inl zC_2)), (da, .inr (6, [.ref dar])), (dar, .inl (cy 6, 5, .inr (.inr (.inr (.inr (fun i => if i < 5 then some (daf i) else none))))))] ++ yk_fam 5 daf (fun i => .inl (cy 1, 10, .inr (.inl (zDf_2 i))))) H → va_D A ([(ta, .inr (7, [.ref fa, .ref a_draft, .ref a_fence, .ref a_past, .ref a_slots, .ref a_slotKinds, .ref a_sheets, .ref a_speedX, .ref a_speedY, .ref a_leftward, .ref ca, .ref da, .int fi])), (fa, .inr (1, [.ref fap, .ref faq])), (fap, .inr (3, [.ref fapn])), (fapn, .inl (cy 0, 6, .inl fu)), (faq, .inr (3, [.ref faqn])), (faqn, .inl (cy 0, 6, .inl fv)), (ca, .inl (cy 0, 10, .inl zC_2)), (da, .inr (6, [.ref dar])), (dar, .inl (cy 6, 5, .inr (.inr (.inr (.inr (fun i => if i < 5 then some (daf i) else none))))))] ++ yk_fam 5 daf (fun i => .inl (cy 1, 10, .inr (.inl (zDf_2 i))))) → va_S A s.heap H locs → lv_has ls 2 [(0, .ref ta), (1, .int (nI ki))] → W p l e R s m args below meth c H locs 0 0 Q (F0 m 2 ls []) := by
    clear hP hD hS hl
    intro M9
    induction M9 with
    | zero => intro n2 ki _ _ _ _ _ hn; exact absurd hn (Nat.not_lt_zero _)
    | succ M9 ih2 =>
      intro n2 ki zC_2 zDf_2 H locs ls hn2 hk2 hV2 hP hD hS hl
      refine lv_iload_n hx hb dX7_kept_2 rfl (lv_at hl 1 rfl) ?_
      refine lv_iconst (v := 5) hx hb dX7_kept_3 (by decide) ?_
      refine lv_icmp_ge (tgt := 132) hx hb dX7_kept_4 (by decide) (fun hc20 => ?_) (fun hc20 => ?_)
      · replace hV2 := hV2.trans (if_pos hc20)
        have hV2 : (l_X7_kept_2 fu fv ch tb (5 + 1) 0 ch tb) = (zC_2, zDf_2) := hV2
        have J39 := J39
        rw [hV2] at J39
        exact J39 _ _ _ hP hD hS (lv_sub hl [0] rfl)
      · replace hV2 := hV2.trans (if_neg hc20)
        have hlt2 : ki < 5 := yk_lt hk2 (by omega) hc20
        refine lv_aload_n hx hb dX7_kept_7 rfl (lv_at hl 0 rfl) ?_
        refine yk_v [0, 6] (va_runV (As := []) (rest := []) ⟨hx, hb, hml, hown, hts⟩ (c_X7_clearChange l D cy ta ca fa a_draft a_fence a_past a_slots a_slotKinds a_sheets a_speedX a_speedY a_leftward da zC_2 fi H.size) (cwV 0 hts gX7_kept_X7_clearChange rfl rfl rfl hv_X7_clearChange (yk_room hRf hRl rfl rfl)) (yk_pv (q := (RX7, TX7, 13)) hG hA hS hK hP hD [0, 6] (by decide +kernel) rfl rfl rfl) rfl rfl hl.1 rfl (lv_room (Nat.le_of_ble_eq_true rfl)) dX7_kept_8 ⟨Nat.zero_le _, Nat.zero_le _⟩) hP hD hS hA rfl (Eq.trans (b := [ta, ca]) rfl rfl) (fun H locs hP9 hD9 hS9 => ?_)
        replace hP : va_P D vwCl ([(ta, .inr (7, [.ref fa, .ref a_draft, .ref a_fence, .ref a_past, .ref a_slots, .ref a_slotKinds, .ref a_sheets, .ref a_speedX, .ref a_speedY, .ref a_leftward, .ref ca, .ref da, .int fi])), (fa, .inr (1, [.ref fap, .ref faq])), (fap, .inr (3, [.ref fapn])), (fapn, .inl (cy 0, 6, .inl fu)), (faq, .inr (3, [.ref faqn])), (faqn, .inl (cy 0, 6, .inl fv)), (ca, .inl (cy 0, 10, .inl (f_X7_clearChange zC_2))), (da, .inr (6, [.ref dar])), (dar, .inl (cy 6, 5, .inr (.inr (.inr (.inr (fun i => if i < 5 then some (daf i) else none))))))] ++ yk_fam 5 daf (fun i => .inl (cy 1, 10, .inr (.inl (zDf_2 i))))) H := hP9
        replace hD : va_D A ([(ta, .inr (7, [.ref fa, .ref a_draft, .ref a_fence, .ref a_past, .ref a_slots, .ref a_slotKinds, .ref a_sheets, .ref a_speedX, .ref a_speedY, .ref a_leftward, .ref ca, .ref da, .int fi])), (fa, .inr (1, [.ref fap, .ref faq])), (fap, .inr (3, [.ref fapn])), (fapn, .inl (cy 0, 6, .inl fu)), (faq, .inr (3, [.ref faqn])), (faqn, .inl (cy 0, 6, .inl fv)), (ca, .inl (cy 0, 10, .inl (f_X7_clearChange zC_2))), (da, .inr (6, [.ref dar])), (dar, .inl (cy 6, 5, .inr (.inr (.inr (.inr (fun i => if i < 5 then some (daf i) else none))))))] ++ yk_fam 5 daf (fun i => .inl (cy 1, 10, .inr (.inl (zDf_2 i))))) := hD9
        replace hS := hS9
        clear hP9 hD9 hS9
        refine lv_aload_n hx hb dX7_kept_11 rfl (lv_at hl 0 rfl) ?_
        refine lv_aload_n hx hb dX7_kept_12 rfl (lv_at hl 0 rfl) ?_
        refine va_get (D := D) (ci := 7) (v := .ref fa) (C := RX7) (T := TX7) (N := 13) hx hb hts uX7_kept_X7 hown hK hP 0 rfl rfl 0 (by decide) (hts _ kX7_kept_0) (fun _ h9 => h9) rfl dX7_kept_13 ?_
        refine va_get (D := D) (ci := 1) (v := .ref fap) (C := RX1) (T := TX1) (N := 2) hx hb hts uX7_kept_X1 hown hK hP 1 rfl rfl 0 (by decide) (hts _ kX7_kept_1) (fun _ h9 => h9) rfl dX7_kept_16 ?_
        refine lv_iload_n hx hb dX7_kept_19 rfl (lv_at hl 1 rfl) ?_
        have J23 : ∀ (v22 : Int32) (H : Heap) (locs : List Loc) (ls : Array Slot), v22 = (if (nI ki) = 0 then 1 else 0) → va_P D vwCl ([(ta, .inr (7, [.ref fa, .ref a_draft, .ref a_fence, .ref a_past, .ref a_slots, .ref a_slotKinds, .ref a_sheets, .ref a_speedX, .ref a_speedY, .ref a_leftward, .ref ca, .ref da, .int fi])), (fa, .inr (1, [.ref fap, .ref faq])), (fap, .inr (3, [.ref fapn])), (fapn, .inl (cy 0, 6, .inl fu)), (faq, .inr (3, [.ref faqn])), (faqn, .inl (cy 0, 6, .inl fv)), (ca, .inl (cy 0, 10, .inl (f_X7_clearChange zC_2))), (da, .inr (6, [.ref dar])), (dar, .inl (cy 6, 5, .inr (.inr (.inr (.inr (fun i => if i < 5 then some (daf i) else none))))))] ++ yk_fam 5 daf (fun i => .inl (cy 1, 10, .inr (.inl (zDf_2 i))))) H → va_D A ([(ta, .inr (7, [.ref fa, .ref a_draft, .ref a_fence, .ref a_past, .ref a_slots, .ref a_slotKinds, .ref a_sheets, .ref a_speedX, .ref a_speedY, .ref a_leftward, .ref ca, .ref da, .int fi])), (fa, .inr (1, [.ref fap, .ref faq])), (fap, .inr (3, [.ref fapn])), (fapn, .inl (cy 0, 6, .inl fu)), (faq, .inr (3, [.ref faqn])), (faqn, .inl (cy 0, 6, .inl fv)), (ca, .inl (cy 0, 10, .inl (f_X7_clearChange zC_2))), (da, .inr (6, [.ref dar])), (dar, .inl (cy 6, 5, .inr (.inr (.inr (.inr (fun i => if i < 5 then some (daf i) else none))))))] ++ yk_fam 5 daf (fun i => .inl (cy 1, 10, .inr (.inl (zDf_2 i))))) → va_S A s.heap H locs → lv_has ls 2 [(0, .ref ta), (1, .int (nI ki))] → W p l e R s m args below meth c H locs 0 0 Q (F0 m 28 ls [.int v22, .ref fap, .ref ta]) := by
          clear hP hD hS hl
          intro v22 H locs ls ev22
          rw [ev22]
          clear ev22
          intro hP hD hS hl
          refine yk_i [] (va_runS (As := [.int (if (nI ki) = 0 then 1 else 0)]) (rest := [.ref fap, .ref ta]) ⟨hx, hb, hml, hown, hts⟩ (c_X7_oneIf l D cy (if (nI ki) = 0 then 1 else 0) H.size) (va_cwS 1 hts gX7_kept_X7_oneIf rfl rfl rfl hs_X7_oneIf (yk_room hRf hRl rfl rfl)) (yk_ps hG hA hS hK hP hD [] (by decide +kernel) rfl) rfl rfl hl.1 rfl (lv_room (Nat.le_of_ble_eq_true rfl)) dX7_kept_28 ⟨Nat.zero_le _, Nat.zero_le _⟩) hP hD hS hA rfl rfl (fun H locs hP9 hD9 hS9 => ?_)
          replace hP : va_P D vwCl ([(ta, .inr (7, [.ref fa, .ref a_draft, .ref a_fence, .ref a_past, .ref a_slots, .ref a_slotKinds, .ref a_sheets, .ref a_speedX, .ref a_speedY, .ref a_leftward, .ref ca, .ref da, .int fi])), (fa, .inr (1, [.ref fap, .ref faq])), (fap, .inr (3, [.ref fapn])), (fapn, .inl (cy 0, 6, .inl fu)), (faq, .inr (3, [.ref faqn])), (faqn, .inl (cy 0, 6, .inl fv)), (ca, .inl (cy 0, 10, .inl (f_X7_clearChange zC_2))), (da, .inr (6, [.ref dar])), (dar, .inl (cy 6, 5, .inr (.inr (.inr (.inr (fun i => if i < 5 then some (daf i) else none))))))] ++ yk_fam 5 daf (fun i => .inl (cy 1, 10, .inr (.inl (zDf_2 i))))) H := hP9
          replace hD : va_D A ([(ta, .inr (7, [.ref fa, .ref a_draft, .ref a_fence, .ref a_past, .ref a_slots, .ref a_slotKinds, .ref a_sheets, .ref a_speedX, .ref a_speedY, .ref a_leftward, .ref ca, .ref da, .int fi])), (fa, .inr (1, [.ref fap, .ref faq])), (fap, .inr (3, [.ref fapn])), (fapn, .inl (cy 0, 6, .inl fu)), (faq, .inr (3, [.ref faqn])), (faqn, .inl (cy 0, 6, .inl fv)), (ca, .inl (cy 0, 10, .inl (f_X7_clearChange zC_2))), (da, .inr (6, [.ref dar])), (dar, .inl (cy 6, 5, .inr (.inr (.inr (.inr (fun i => if i < 5 then some (daf i) else none))))))] ++ yk_fam 5 daf (fun i => .inl (cy 1, 10, .inr (.inl (zDf_2 i))))) := hD9
          replace hS := hS9
          clear hP9 hD9 hS9
          refine lv_iconst (v := 2) hx hb dX7_kept_31 (by decide) ?_
          refine lv_iload_n hx hb dX7_kept_32 rfl (lv_at hl 1 rfl) ?_
          refine lv_iconst (v := 2) hx hb dX7_kept_33 (by decide) ?_
          have J26 : ∀ (v25 : Int32) (H : Heap) (locs : List Loc) (ls : Array Slot), v25 = (if (nI ki) = 2 then 1 else 0) → va_P D vwCl ([(ta, .inr (7, [.ref fa, .ref a_draft, .ref a_fence, .ref a_past, .ref a_slots, .ref a_slotKinds, .ref a_sheets, .ref a_speedX, .ref a_speedY, .ref a_leftward, .ref ca, .ref da, .int fi])), (fa, .inr (1, [.ref fap, .ref faq])), (fap, .inr (3, [.ref fapn])), (fapn, .inl (cy 0, 6, .inl fu)), (faq, .inr (3, [.ref faqn])), (faqn, .inl (cy 0, 6, .inl fv)), (ca, .inl (cy 0, 10, .inl (f_X7_clearChange zC_2))), (da, .inr (6, [.ref dar])), (dar, .inl (cy 6, 5, .inr (.inr (.inr (.inr (fun i => if i < 5 then some (daf i) else none))))))] ++ yk_fam 5 daf (fun i => .inl (cy 1, 10, .inr (.inl (zDf_2 i))))) H → va_D A ([(ta, .inr (7, [.ref fa, .ref a_draft, .ref a_fence, .ref a_past, .ref a_slots, .ref a_slotKinds, .ref a_sheets, .ref a_speedX, .ref a_speedY, .ref a_leftward, .ref ca, .ref da, .int fi])), (fa, .inr (1, [.ref fap, .ref faq])), (fap, .inr (3, [.ref fapn])), (fapn, .inl (cy 0, 6, .inl fu)), (faq, .inr (3, [.ref faqn])), (faqn, .inl (cy 0, 6, .inl fv)), (ca, .inl (cy 0, 10, .inl (f_X7_clearChange zC_2))), (da, .inr (6, [.ref dar])), (dar, .inl (cy 6, 5, .inr (.inr (.inr (.inr (fun i => if i < 5 then some (daf i) else none))))))] ++ yk_fam 5 daf (fun i => .inl (cy 1, 10, .inr (.inl (zDf_2 i))))) → va_S A s.heap H locs → lv_has ls 2 [(0, .ref ta), (1, .int (nI ki))] → W p l e R s m args below meth c H locs 0 0 Q (F0 m 42 ls [.int v25, .int 2, .int (f_X7_oneIf (if (nI ki) = 0 then 1 else 0)), .ref fap, .ref ta]) := by
            clear hP hD hS hl
            intro v25 H locs ls ev25
            rw [ev25]
            clear ev25
            intro hP hD hS hl
            refine yk_i [] (va_runS (As := [.int (if (nI ki) = 2 then 1 else 0)]) (rest := [.int 2, .int (f_X7_oneIf (if (nI ki) = 0 then 1 else 0)), .ref fap, .ref ta]) ⟨hx, hb, hml, hown, hts⟩ (c_X7_oneIf l D cy (if (nI ki) = 2 then 1 else 0) H.size) (va_cwS 1 hts gX7_kept_X7_oneIf rfl rfl rfl hs_X7_oneIf (yk_room hRf hRl rfl rfl)) (yk_ps hG hA hS hK hP hD [] (by decide +kernel) rfl) rfl rfl hl.1 rfl (lv_room (Nat.le_of_ble_eq_true rfl)) dX7_kept_42 ⟨Nat.zero_le _, Nat.zero_le _⟩) hP hD hS hA rfl rfl (fun H locs hP9 hD9 hS9 => ?_)
            replace hP : va_P D vwCl ([(ta, .inr (7, [.ref fa, .ref a_draft, .ref a_fence, .ref a_past, .ref a_slots, .ref a_slotKinds, .ref a_sheets, .ref a_speedX, .ref a_speedY, .ref a_leftward, .ref ca, .ref da, .int fi])), (fa, .inr (1, [.ref fap, .ref faq])), (fap, .inr (3, [.ref fapn])), (fapn, .inl (cy 0, 6, .inl fu)), (faq, .inr (3, [.ref faqn])), (faqn, .inl (cy 0, 6, .inl fv)), (ca, .inl (cy 0, 10, .inl (f_X7_clearChange zC_2))), (da, .inr (6, [.ref dar])), (dar, .inl (cy 6, 5, .inr (.inr (.inr (.inr (fun i => if i < 5 then some (daf i) else none))))))] ++ yk_fam 5 daf (fun i => .inl (cy 1, 10, .inr (.inl (zDf_2 i))))) H := hP9
            replace hD : va_D A ([(ta, .inr (7, [.ref fa, .ref a_draft, .ref a_fence, .ref a_past, .ref a_slots, .ref a_slotKinds, .ref a_sheets, .ref a_speedX, .ref a_speedY, .ref a_leftward, .ref ca, .ref da, .int fi])), (fa, .inr (1, [.ref fap, .ref faq])), (fap, .inr (3, [.ref fapn])), (fapn, .inl (cy 0, 6, .inl fu)), (faq, .inr (3, [.ref faqn])), (faqn, .inl (cy 0, 6, .inl fv)), (ca, .inl (cy 0, 10, .inl (f_X7_clearChange zC_2))), (da, .inr (6, [.ref dar])), (dar, .inl (cy 6, 5, .inr (.inr (.inr (.inr (fun i => if i < 5 then some (daf i) else none))))))] ++ yk_fam 5 daf (fun i => .inl (cy 1, 10, .inr (.inl (zDf_2 i))))) := hD9
            replace hS := hS9
            clear hP9 hD9 hS9
            refine lv_imul hx hb dX7_kept_45 ?_
            refine lv_iload_n hx hb dX7_kept_46 rfl (lv_at hl 1 rfl) ?_
            refine lv_iconst (v := 3) hx hb dX7_kept_47 (by decide) ?_
            have J29 : ∀ (v28 : Int32) (H : Heap) (locs : List Loc) (ls : Array Slot), v28 = (if (nI ki) = 3 then 1 else 0) → va_P D vwCl ([(ta, .inr (7, [.ref fa, .ref a_draft, .ref a_fence, .ref a_past, .ref a_slots, .ref a_slotKinds, .ref a_sheets, .ref a_speedX, .ref a_speedY, .ref a_leftward, .ref ca, .ref da, .int fi])), (fa, .inr (1, [.ref fap, .ref faq])), (fap, .inr (3, [.ref fapn])), (fapn, .inl (cy 0, 6, .inl fu)), (faq, .inr (3, [.ref faqn])), (faqn, .inl (cy 0, 6, .inl fv)), (ca, .inl (cy 0, 10, .inl (f_X7_clearChange zC_2))), (da, .inr (6, [.ref dar])), (dar, .inl (cy 6, 5, .inr (.inr (.inr (.inr (fun i => if i < 5 then some (daf i) else none))))))] ++ yk_fam 5 daf (fun i => .inl (cy 1, 10, .inr (.inl (zDf_2 i))))) H → va_D A ([(ta, .inr (7, [.ref fa, .ref a_draft, .ref a_fence, .ref a_past, .ref a_slots, .ref a_slotKinds, .ref a_sheets, .ref a_speedX, .ref a_speedY, .ref a_leftward, .ref ca, .ref da, .int fi])), (fa, .inr (1, [.ref fap, .ref faq])), (fap, .inr (3, [.ref fapn])), (fapn, .inl (cy 0, 6, .inl fu)), (faq, .inr (3, [.ref faqn])), (faqn, .inl (cy 0, 6, .inl fv)), (ca, .inl (cy 0, 10, .inl (f_X7_clearChange zC_2))), (da, .inr (6, [.ref dar])), (dar, .inl (cy 6, 5, .inr (.inr (.inr (.inr (fun i => if i < 5 then some (daf i) else none))))))] ++ yk_fam 5 daf (fun i => .inl (cy 1, 10, .inr (.inl (zDf_2 i))))) → va_S A s.heap H locs → lv_has ls 2 [(0, .ref ta), (1, .int (nI ki))] → W p l e R s m args below meth c H locs 0 0 Q (F0 m 56 ls [.int v28, .int (2 * (f_X7_oneIf (if (nI ki) = 2 then 1 else 0))), .int (f_X7_oneIf (if (nI ki) = 0 then 1 else 0)), .ref fap, .ref ta]) := by
              clear hP hD hS hl
              intro v28 H locs ls ev28
              rw [ev28]
              clear ev28
              intro hP hD hS hl
              refine yk_i [] (va_runS (As := [.int (if (nI ki) = 3 then 1 else 0)]) (rest := [.int (2 * (f_X7_oneIf (if (nI ki) = 2 then 1 else 0))), .int (f_X7_oneIf (if (nI ki) = 0 then 1 else 0)), .ref fap, .ref ta]) ⟨hx, hb, hml, hown, hts⟩ (c_X7_oneIf l D cy (if (nI ki) = 3 then 1 else 0) H.size) (va_cwS 1 hts gX7_kept_X7_oneIf rfl rfl rfl hs_X7_oneIf (yk_room hRf hRl rfl rfl)) (yk_ps hG hA hS hK hP hD [] (by decide +kernel) rfl) rfl rfl hl.1 rfl (lv_room (Nat.le_of_ble_eq_true rfl)) dX7_kept_56 ⟨Nat.zero_le _, Nat.zero_le _⟩) hP hD hS hA rfl rfl (fun H locs hP9 hD9 hS9 => ?_)
              replace hP : va_P D vwCl ([(ta, .inr (7, [.ref fa, .ref a_draft, .ref a_fence, .ref a_past, .ref a_slots, .ref a_slotKinds, .ref a_sheets, .ref a_speedX, .ref a_speedY, .ref a_leftward, .ref ca, .ref da, .int fi])), (fa, .inr (1, [.ref fap, .ref faq])), (fap, .inr (3, [.ref fapn])), (fapn, .inl (cy 0, 6, .inl fu)), (faq, .inr (3, [.ref faqn])), (faqn, .inl (cy 0, 6, .inl fv)), (ca, .inl (cy 0, 10, .inl (f_X7_clearChange zC_2))), (da, .inr (6, [.ref dar])), (dar, .inl (cy 6, 5, .inr (.inr (.inr (.inr (fun i => if i < 5 then some (daf i) else none))))))] ++ yk_fam 5 daf (fun i => .inl (cy 1, 10, .inr (.inl (zDf_2 i))))) H := hP9
              replace hD : va_D A ([(ta, .inr (7, [.ref fa, .ref a_draft, .ref a_fence, .ref a_past, .ref a_slots, .ref a_slotKinds, .ref a_sheets, .ref a_speedX, .ref a_speedY, .ref a_leftward, .ref ca, .ref da, .int fi])), (fa, .inr (1, [.ref fap, .ref faq])), (fap, .inr (3, [.ref fapn])), (fapn, .inl (cy 0, 6, .inl fu)), (faq, .inr (3, [.ref faqn])), (faqn, .inl (cy 0, 6, .inl fv)), (ca, .inl (cy 0, 10, .inl (f_X7_clearChange zC_2))), (da, .inr (6, [.ref dar])), (dar, .inl (cy 6, 5, .inr (.inr (.inr (.inr (fun i => if i < 5 then some (daf i) else none))))))] ++ yk_fam 5 daf (fun i => .inl (cy 1, 10, .inr (.inl (zDf_2 i))))) := hD9
              replace hS := hS9
              clear hP9 hD9 hS9
              refine yk_v [0, 6, 2, 3] (va_runV (As := [.ref fap, .int (f_X7_oneIf (if (nI ki) = 0 then 1 else 0)), .int (2 * (f_X7_oneIf (if (nI ki) = 2 then 1 else 0))), .int (f_X7_oneIf (if (nI ki) = 3 then 1 else 0))]) (rest := []) ⟨hx, hb, hml, hown, hts⟩ (c_X7_addChange l D cy ta ca fap fapn fa a_draft a_fence a_past a_slots a_slotKinds a_sheets a_speedX a_speedY a_leftward da (f_X7_clearChange zC_2) fi fu (f_X7_oneIf (if (nI ki) = 0 then 1 else 0)) (2 * (f_X7_oneIf (if (nI ki) = 2 then 1 else 0))) (f_X7_oneIf (if (nI ki) = 3 then 1 else 0)) H.size) (cwV 4 hts gX7_kept_X7_addChange rfl rfl rfl hv_X7_addChange (yk_room hRf hRl rfl rfl)) (yk_pv (q := (RX7, TX7, 13)) hG hA hS hK hP hD [0, 6, 2, 3] (by decide +kernel) rfl rfl rfl) rfl rfl hl.1 rfl (lv_room (Nat.le_of_ble_eq_true rfl)) dX7_kept_59 ⟨Nat.zero_le _, Nat.zero_le _⟩) hP hD hS hA rfl (Eq.trans (b := [ta, ca, fap, fapn]) rfl rfl) (fun H locs hP9 hD9 hS9 => ?_)
              replace hP : va_P D vwCl ([(ta, .inr (7, [.ref fa, .ref a_draft, .ref a_fence, .ref a_past, .ref a_slots, .ref a_slotKinds, .ref a_sheets, .ref a_speedX, .ref a_speedY, .ref a_leftward, .ref ca, .ref da, .int fi])), (fa, .inr (1, [.ref fap, .ref faq])), (fap, .inr (3, [.ref fapn])), (fapn, .inl (cy 0, 6, .inl fu)), (faq, .inr (3, [.ref faqn])), (faqn, .inl (cy 0, 6, .inl fv)), (ca, .inl (cy 0, 10, .inl (f_X7_addChange (f_X7_clearChange zC_2) fu (f_X7_oneIf (if (nI ki) = 0 then 1 else 0)) (2 * (f_X7_oneIf (if (nI ki) = 2 then 1 else 0))) (f_X7_oneIf (if (nI ki) = 3 then 1 else 0))))), (da, .inr (6, [.ref dar])), (dar, .inl (cy 6, 5, .inr (.inr (.inr (.inr (fun i => if i < 5 then some (daf i) else none))))))] ++ yk_fam 5 daf (fun i => .inl (cy 1, 10, .inr (.inl (zDf_2 i))))) H := hP9
              replace hD : va_D A ([(ta, .inr (7, [.ref fa, .ref a_draft, .ref a_fence, .ref a_past, .ref a_slots, .ref a_slotKinds, .ref a_sheets, .ref a_speedX, .ref a_speedY, .ref a_leftward, .ref ca, .ref da, .int fi])), (fa, .inr (1, [.ref fap, .ref faq])), (fap, .inr (3, [.ref fapn])), (fapn, .inl (cy 0, 6, .inl fu)), (faq, .inr (3, [.ref faqn])), (faqn, .inl (cy 0, 6, .inl fv)), (ca, .inl (cy 0, 10, .inl (f_X7_addChange (f_X7_clearChange zC_2) fu (f_X7_oneIf (if (nI ki) = 0 then 1 else 0)) (2 * (f_X7_oneIf (if (nI ki) = 2 then 1 else 0))) (f_X7_oneIf (if (nI ki) = 3 then 1 else 0))))), (da, .inr (6, [.ref dar])), (dar, .inl (cy 6, 5, .inr (.inr (.inr (.inr (fun i => if i < 5 then some (daf i) else none))))))] ++ yk_fam 5 daf (fun i => .inl (cy 1, 10, .inr (.inl (zDf_2 i))))) := hD9
              replace hS := hS9
              clear hP9 hD9 hS9
              refine lv_aload_n hx hb dX7_kept_62 rfl (lv_at hl 0 rfl) ?_
              refine lv_aload_n hx hb dX7_kept_63 rfl (lv_at hl 0 rfl) ?_
              refine va_get (D := D) (ci := 7) (v := .ref fa) (C := RX7) (T := TX7) (N := 13) hx hb hts uX7_kept_X7 hown hK hP 0 rfl rfl 0 (by decide) (hts _ kX7_kept_0) (fun _ h9 => h9) rfl dX7_kept_64 ?_
              refine va_get (D := D) (ci := 1) (v := .ref faq) (C := RX1) (T := TX1) (N := 2) hx hb hts uX7_kept_X1 hown hK hP 1 rfl rfl 1 (by decide) (hts _ kX7_kept_2) (fun _ h9 => h9) rfl dX7_kept_67 ?_
              refine lv_iload_n hx hb dX7_kept_70 rfl (lv_at hl 1 rfl) ?_
              refine lv_iconst (v := 1) hx hb dX7_kept_71 (by decide) ?_
              have J32 : ∀ (v31 : Int32) (H : Heap) (locs : List Loc) (ls : Array Slot), v31 = (if (nI ki) = 1 then 1 else 0) → va_P D vwCl ([(ta, .inr (7, [.ref fa, .ref a_draft, .ref a_fence, .ref a_past, .ref a_slots, .ref a_slotKinds, .ref a_sheets, .ref a_speedX, .ref a_speedY, .ref a_leftward, .ref ca, .ref da, .int fi])), (fa, .inr (1, [.ref fap, .ref faq])), (fap, .inr (3, [.ref fapn])), (fapn, .inl (cy 0, 6, .inl fu)), (faq, .inr (3, [.ref faqn])), (faqn, .inl (cy 0, 6, .inl fv)), (ca, .inl (cy 0, 10, .inl (f_X7_addChange (f_X7_clearChange zC_2) fu (f_X7_oneIf (if (nI ki) = 0 then 1 else 0)) (2 * (f_X7_oneIf (if (nI ki) = 2 then 1 else 0))) (f_X7_oneIf (if (nI ki) = 3 then 1 else 0))))), (da, .inr (6, [.ref dar])), (dar, .inl (cy 6, 5, .inr (.inr (.inr (.inr (fun i => if i < 5 then some (daf i) else none))))))] ++ yk_fam 5 daf (fun i => .inl (cy 1, 10, .inr (.inl (zDf_2 i))))) H → va_D A ([(ta, .inr (7, [.ref fa, .ref a_draft, .ref a_fence, .ref a_past, .ref a_slots, .ref a_slotKinds, .ref a_sheets, .ref a_speedX, .ref a_speedY, .ref a_leftward, .ref ca, .ref da, .int fi])), (fa, .inr (1, [.ref fap, .ref faq])), (fap, .inr (3, [.ref fapn])), (fapn, .inl (cy 0, 6, .inl fu)), (faq, .inr (3, [.ref faqn])), (faqn, .inl (cy 0, 6, .inl fv)), (ca, .inl (cy 0, 10, .inl (f_X7_addChange (f_X7_clearChange zC_2) fu (f_X7_oneIf (if (nI ki) = 0 then 1 else 0)) (2 * (f_X7_oneIf (if (nI ki) = 2 then 1 else 0))) (f_X7_oneIf (if (nI ki) = 3 then 1 else 0))))), (da, .inr (6, [.ref dar])), (dar, .inl (cy 6, 5, .inr (.inr (.inr (.inr (fun i => if i < 5 then some (daf i) else none))))))] ++ yk_fam 5 daf (fun i => .inl (cy 1, 10, .inr (.inl (zDf_2 i))))) → va_S A s.heap H locs → lv_has ls 2 [(0, .ref ta), (1, .int (nI ki))] → W p l e R s m args below meth c H locs 0 0 Q (F0 m 80 ls [.int v31, .ref faq, .ref ta]) := by
                clear hP hD hS hl
                intro v31 H locs ls ev31
                rw [ev31]
                clear ev31
                intro hP hD hS hl
                refine yk_i [] (va_runS (As := [.int (if (nI ki) = 1 then 1 else 0)]) (rest := [.ref faq, .ref ta]) ⟨hx, hb, hml, hown, hts⟩ (c_X7_oneIf l D cy (if (nI ki) = 1 then 1 else 0) H.size) (va_cwS 1 hts gX7_kept_X7_oneIf rfl rfl rfl hs_X7_oneIf (yk_room hRf hRl rfl rfl)) (yk_ps hG hA hS hK hP hD [] (by decide +kernel) rfl) rfl rfl hl.1 rfl (lv_room (Nat.le_of_ble_eq_true rfl)) dX7_kept_80 ⟨Nat.zero_le _, Nat.zero_le _⟩) hP hD hS hA rfl rfl (fun H locs hP9 hD9 hS9 => ?_)
                replace hP : va_P D vwCl ([(ta, .inr (7, [.ref fa, .ref a_draft, .ref a_fence, .ref a_past, .ref a_slots, .ref a_slotKinds, .ref a_sheets, .ref a_speedX, .ref a_speedY, .ref a_leftward, .ref ca, .ref da, .int fi])), (fa, .inr (1, [.ref fap, .ref faq])), (fap, .inr (3, [.ref fapn])), (fapn, .inl (cy 0, 6, .inl fu)), (faq, .inr (3, [.ref faqn])), (faqn, .inl (cy 0, 6, .inl fv)), (ca, .inl (cy 0, 10, .inl (f_X7_addChange (f_X7_clearChange zC_2) fu (f_X7_oneIf (if (nI ki) = 0 then 1 else 0)) (2 * (f_X7_oneIf (if (nI ki) = 2 then 1 else 0))) (f_X7_oneIf (if (nI ki) = 3 then 1 else 0))))), (da, .inr (6, [.ref dar])), (dar, .inl (cy 6, 5, .inr (.inr (.inr (.inr (fun i => if i < 5 then some (daf i) else none))))))] ++ yk_fam 5 daf (fun i => .inl (cy 1, 10, .inr (.inl (zDf_2 i))))) H := hP9
                replace hD : va_D A ([(ta, .inr (7, [.ref fa, .ref a_draft, .ref a_fence, .ref a_past, .ref a_slots, .ref a_slotKinds, .ref a_sheets, .ref a_speedX, .ref a_speedY, .ref a_leftward, .ref ca, .ref da, .int fi])), (fa, .inr (1, [.ref fap, .ref faq])), (fap, .inr (3, [.ref fapn])), (fapn, .inl (cy 0, 6, .inl fu)), (faq, .inr (3, [.ref faqn])), (faqn, .inl (cy 0, 6, .inl fv)), (ca, .inl (cy 0, 10, .inl (f_X7_addChange (f_X7_clearChange zC_2) fu (f_X7_oneIf (if (nI ki) = 0 then 1 else 0)) (2 * (f_X7_oneIf (if (nI ki) = 2 then 1 else 0))) (f_X7_oneIf (if (nI ki) = 3 then 1 else 0))))), (da, .inr (6, [.ref dar])), (dar, .inl (cy 6, 5, .inr (.inr (.inr (.inr (fun i => if i < 5 then some (daf i) else none))))))] ++ yk_fam 5 daf (fun i => .inl (cy 1, 10, .inr (.inl (zDf_2 i))))) := hD9
                replace hS := hS9
                clear hP9 hD9 hS9
                refine lv_iload_n hx hb dX7_kept_83 rfl (lv_at hl 1 rfl) ?_
                refine lv_iconst (v := 3) hx hb dX7_kept_84 (by decide) ?_
                have J35 : ∀ (v34 : Int32) (H : Heap) (locs : List Loc) (ls : Array Slot), v34 = (if (nI ki) = 3 then 1 else 0) → va_P D vwCl ([(ta, .inr (7, [.ref fa, .ref a_draft, .ref a_fence, .ref a_past, .ref a_slots, .ref a_slotKinds, .ref a_sheets, .ref a_speedX, .ref a_speedY, .ref a_leftward, .ref ca, .ref da, .int fi])), (fa, .inr (1, [.ref fap, .ref faq])), (fap, .inr (3, [.ref fapn])), (fapn, .inl (cy 0, 6, .inl fu)), (faq, .inr (3, [.ref faqn])), (faqn, .inl (cy 0, 6, .inl fv)), (ca, .inl (cy 0, 10, .inl (f_X7_addChange (f_X7_clearChange zC_2) fu (f_X7_oneIf (if (nI ki) = 0 then 1 else 0)) (2 * (f_X7_oneIf (if (nI ki) = 2 then 1 else 0))) (f_X7_oneIf (if (nI ki) = 3 then 1 else 0))))), (da, .inr (6, [.ref dar])), (dar, .inl (cy 6, 5, .inr (.inr (.inr (.inr (fun i => if i < 5 then some (daf i) else none))))))] ++ yk_fam 5 daf (fun i => .inl (cy 1, 10, .inr (.inl (zDf_2 i))))) H → va_D A ([(ta, .inr (7, [.ref fa, .ref a_draft, .ref a_fence, .ref a_past, .ref a_slots, .ref a_slotKinds, .ref a_sheets, .ref a_speedX, .ref a_speedY, .ref a_leftward, .ref ca, .ref da, .int fi])), (fa, .inr (1, [.ref fap, .ref faq])), (fap, .inr (3, [.ref fapn])), (fapn, .inl (cy 0, 6, .inl fu)), (faq, .inr (3, [.ref faqn])), (faqn, .inl (cy 0, 6, .inl fv)), (ca, .inl (cy 0, 10, .inl (f_X7_addChange (f_X7_clearChange zC_2) fu (f_X7_oneIf (if (nI ki) = 0 then 1 else 0)) (2 * (f_X7_oneIf (if (nI ki) = 2 then 1 else 0))) (f_X7_oneIf (if (nI ki) = 3 then 1 else 0))))), (da, .inr (6, [.ref dar])), (dar, .inl (cy 6, 5, .inr (.inr (.inr (.inr (fun i => if i < 5 then some (daf i) else none))))))] ++ yk_fam 5 daf (fun i => .inl (cy 1, 10, .inr (.inl (zDf_2 i))))) → va_S A s.heap H locs → lv_has ls 2 [(0, .ref ta), (1, .int (nI ki))] → W p l e R s m args below meth c H locs 0 0 Q (F0 m 93 ls [.int v34, .int (f_X7_oneIf (if (nI ki) = 1 then 1 else 0)), .ref faq, .ref ta]) := by
                  clear hP hD hS hl
                  intro v34 H locs ls ev34
                  rw [ev34]
                  clear ev34
                  intro hP hD hS hl
                  refine yk_i [] (va_runS (As := [.int (if (nI ki) = 3 then 1 else 0)]) (rest := [.int (f_X7_oneIf (if (nI ki) = 1 then 1 else 0)), .ref faq, .ref ta]) ⟨hx, hb, hml, hown, hts⟩ (c_X7_oneIf l D cy (if (nI ki) = 3 then 1 else 0) H.size) (va_cwS 1 hts gX7_kept_X7_oneIf rfl rfl rfl hs_X7_oneIf (yk_room hRf hRl rfl rfl)) (yk_ps hG hA hS hK hP hD [] (by decide +kernel) rfl) rfl rfl hl.1 rfl (lv_room (Nat.le_of_ble_eq_true rfl)) dX7_kept_93 ⟨Nat.zero_le _, Nat.zero_le _⟩) hP hD hS hA rfl rfl (fun H locs hP9 hD9 hS9 => ?_)
                  replace hP : va_P D vwCl ([(ta, .inr (7, [.ref fa, .ref a_draft, .ref a_fence, .ref a_past, .ref a_slots, .ref a_slotKinds, .ref a_sheets, .ref a_speedX, .ref a_speedY, .ref a_leftward, .ref ca, .ref da, .int fi])), (fa, .inr (1, [.ref fap, .ref faq])), (fap, .inr (3, [.ref fapn])), (fapn, .inl (cy 0, 6, .inl fu)), (faq, .inr (3, [.ref faqn])), (faqn, .inl (cy 0, 6, .inl fv)), (ca, .inl (cy 0, 10, .inl (f_X7_addChange (f_X7_clearChange zC_2) fu (f_X7_oneIf (if (nI ki) = 0 then 1 else 0)) (2 * (f_X7_oneIf (if (nI ki) = 2 then 1 else 0))) (f_X7_oneIf (if (nI ki) = 3 then 1 else 0))))), (da, .inr (6, [.ref dar])), (dar, .inl (cy 6, 5, .inr (.inr (.inr (.inr (fun i => if i < 5 then some (daf i) else none))))))] ++ yk_fam 5 daf (fun i => .inl (cy 1, 10, .inr (.inl (zDf_2 i))))) H := hP9
                  replace hD : va_D A ([(ta, .inr (7, [.ref fa, .ref a_draft, .ref a_fence, .ref a_past, .ref a_slots, .ref a_slotKinds, .ref a_sheets, .ref a_speedX, .ref a_speedY, .ref a_leftward, .ref ca, .ref da, .int fi])), (fa, .inr (1, [.ref fap, .ref faq])), (fap, .inr (3, [.ref fapn])), (fapn, .inl (cy 0, 6, .inl fu)), (faq, .inr (3, [.ref faqn])), (faqn, .inl (cy 0, 6, .inl fv)), (ca, .inl (cy 0, 10, .inl (f_X7_addChange (f_X7_clearChange zC_2) fu (f_X7_oneIf (if (nI ki) = 0 then 1 else 0)) (2 * (f_X7_oneIf (if (nI ki) = 2 then 1 else 0))) (f_X7_oneIf (if (nI ki) = 3 then 1 else 0))))), (da, .inr (6, [.ref dar])), (dar, .inl (cy 6, 5, .inr (.inr (.inr (.inr (fun i => if i < 5 then some (daf i) else none))))))] ++ yk_fam 5 daf (fun i => .inl (cy 1, 10, .inr (.inl (zDf_2 i))))) := hD9
                  replace hS := hS9
                  clear hP9 hD9 hS9
                  refine lv_iconst (v := 2) hx hb dX7_kept_96 (by decide) ?_
                  refine lv_iload_n hx hb dX7_kept_97 rfl (lv_at hl 1 rfl) ?_
                  refine lv_iconst (v := 4) hx hb dX7_kept_98 (by decide) ?_
                  have J38 : ∀ (v37 : Int32) (H : Heap) (locs : List Loc) (ls : Array Slot), v37 = (if (nI ki) = 4 then 1 else 0) → va_P D vwCl ([(ta, .inr (7, [.ref fa, .ref a_draft, .ref a_fence, .ref a_past, .ref a_slots, .ref a_slotKinds, .ref a_sheets, .ref a_speedX, .ref a_speedY, .ref a_leftward, .ref ca, .ref da, .int fi])), (fa, .inr (1, [.ref fap, .ref faq])), (fap, .inr (3, [.ref fapn])), (fapn, .inl (cy 0, 6, .inl fu)), (faq, .inr (3, [.ref faqn])), (faqn, .inl (cy 0, 6, .inl fv)), (ca, .inl (cy 0, 10, .inl (f_X7_addChange (f_X7_clearChange zC_2) fu (f_X7_oneIf (if (nI ki) = 0 then 1 else 0)) (2 * (f_X7_oneIf (if (nI ki) = 2 then 1 else 0))) (f_X7_oneIf (if (nI ki) = 3 then 1 else 0))))), (da, .inr (6, [.ref dar])), (dar, .inl (cy 6, 5, .inr (.inr (.inr (.inr (fun i => if i < 5 then some (daf i) else none))))))] ++ yk_fam 5 daf (fun i => .inl (cy 1, 10, .inr (.inl (zDf_2 i))))) H → va_D A ([(ta, .inr (7, [.ref fa, .ref a_draft, .ref a_fence, .ref a_past, .ref a_slots, .ref a_slotKinds, .ref a_sheets, .ref a_speedX, .ref a_speedY, .ref a_leftward, .ref ca, .ref da, .int fi])), (fa, .inr (1, [.ref fap, .ref faq])), (fap, .inr (3, [.ref fapn])), (fapn, .inl (cy 0, 6, .inl fu)), (faq, .inr (3, [.ref faqn])), (faqn, .inl (cy 0, 6, .inl fv)), (ca, .inl (cy 0, 10, .inl (f_X7_addChange (f_X7_clearChange zC_2) fu (f_X7_oneIf (if (nI ki) = 0 then 1 else 0)) (2 * (f_X7_oneIf (if (nI ki) = 2 then 1 else 0))) (f_X7_oneIf (if (nI ki) = 3 then 1 else 0))))), (da, .inr (6, [.ref dar])), (dar, .inl (cy 6, 5, .inr (.inr (.inr (.inr (fun i => if i < 5 then some (daf i) else none))))))] ++ yk_fam 5 daf (fun i => .inl (cy 1, 10, .inr (.inl (zDf_2 i))))) → va_S A s.heap H locs → lv_has ls 2 [(0, .ref ta), (1, .int (nI ki))] → W p l e R s m args below meth c H locs 0 0 Q (F0 m 107 ls [.int v37, .int 2, .int (f_X7_oneIf (if (nI ki) = 3 then 1 else 0)), .int (f_X7_oneIf (if (nI ki) = 1 then 1 else 0)), .ref faq, .ref ta]) := by
                    clear hP hD hS hl
                    intro v37 H locs ls ev37
                    rw [ev37]
                    clear ev37
                    intro hP hD hS hl
                    refine yk_i [] (va_runS (As := [.int (if (nI ki) = 4 then 1 else 0)]) (rest := [.int 2, .int (f_X7_oneIf (if (nI ki) = 3 then 1 else 0)), .int (f_X7_oneIf (if (nI ki) = 1 then 1 else 0)), .ref faq, .ref ta]) ⟨hx, hb, hml, hown, hts⟩ (c_X7_oneIf l D cy (if (nI ki) = 4 then 1 else 0) H.size) (va_cwS 1 hts gX7_kept_X7_oneIf rfl rfl rfl hs_X7_oneIf (yk_room hRf hRl rfl rfl)) (yk_ps hG hA hS hK hP hD [] (by decide +kernel) rfl) rfl rfl hl.1 rfl (lv_room (Nat.le_of_ble_eq_true rfl)) dX7_kept_107 ⟨Nat.zero_le _, Nat.zero_le _⟩) hP hD hS hA rfl rfl (fun H locs hP9 hD9 hS9 => ?_)
                    replace hP : va_P D vwCl ([(ta, .inr (7, [.ref fa, .ref a_draft, .ref a_fence, .ref a_past, .ref a_slots, .ref a_slotKinds, .ref a_sheets, .ref a_speedX, .ref a_speedY, .ref a_leftward, .ref ca, .ref da, .int fi])), (fa, .inr (1, [.ref fap, .ref faq])), (fap, .inr (3, [.ref fapn])), (fapn, .inl (cy 0, 6, .inl fu)), (faq, .inr (3, [.ref faqn])), (faqn, .inl (cy 0, 6, .inl fv)), (ca, .inl (cy 0, 10, .inl (f_X7_addChange (f_X7_clearChange zC_2) fu (f_X7_oneIf (if (nI ki) = 0 then 1 else 0)) (2 * (f_X7_oneIf (if (nI ki) = 2 then 1 else 0))) (f_X7_oneIf (if (nI ki) = 3 then 1 else 0))))), (da, .inr (6, [.ref dar])), (dar, .inl (cy 6, 5, .inr (.inr (.inr (.inr (fun i => if i < 5 then some (daf i) else none))))))] ++ yk_fam 5 daf (fun i => .inl (cy 1, 10, .inr (.inl (zDf_2 i))))) H := hP9
                    replace hD : va_D A ([(ta, .inr (7, [.ref fa, .ref a_draft, .ref a_fence, .ref a_past, .ref a_slots, .ref a_slotKinds, .ref a_sheets, .ref a_speedX, .ref a_speedY, .ref a_leftward, .ref ca, .ref da, .int fi])), (fa, .inr (1, [.ref fap, .ref faq])), (fap, .inr (3, [.ref fapn])), (fapn, .inl (cy 0, 6, .inl fu)), (faq, .inr (3, [.ref faqn])), (faqn, .inl (cy 0, 6, .inl fv)), (ca, .inl (cy 0, 10, .inl (f_X7_addChange (f_X7_clearChange zC_2) fu (f_X7_oneIf (if (nI ki) = 0 then 1 else 0)) (2 * (f_X7_oneIf (if (nI ki) = 2 then 1 else 0))) (f_X7_oneIf (if (nI ki) = 3 then 1 else 0))))), (da, .inr (6, [.ref dar])), (dar, .inl (cy 6, 5, .inr (.inr (.inr (.inr (fun i => if i < 5 then some (daf i) else none))))))] ++ yk_fam 5 daf (fun i => .inl (cy 1, 10, .inr (.inl (zDf_2 i))))) := hD9
                    replace hS := hS9
                    clear hP9 hD9 hS9
                    refine lv_imul hx hb dX7_kept_110 ?_
                    refine yk_v [0, 6, 4, 5] (va_runV (As := [.ref faq, .int (f_X7_oneIf (if (nI ki) = 1 then 1 else 0)), .int (f_X7_oneIf (if (nI ki) = 3 then 1 else 0)), .int (2 * (f_X7_oneIf (if (nI ki) = 4 then 1 else 0)))]) (rest := []) ⟨hx, hb, hml, hown, hts⟩ (c_X7_addChange l D cy ta ca faq faqn fa a_draft a_fence a_past a_slots a_slotKinds a_sheets a_speedX a_speedY a_leftward da (f_X7_addChange (f_X7_clearChange zC_2) fu (f_X7_oneIf (if (nI ki) = 0 then 1 else 0)) (2 * (f_X7_oneIf (if (nI ki) = 2 then 1 else 0))) (f_X7_oneIf (if (nI ki) = 3 then 1 else 0))) fi fv (f_X7_oneIf (if (nI ki) = 1 then 1 else 0)) (f_X7_oneIf (if (nI ki) = 3 then 1 else 0)) (2 * (f_X7_oneIf (if (nI ki) = 4 then 1 else 0))) H.size) (cwV 4 hts gX7_kept_X7_addChange rfl rfl rfl hv_X7_addChange (yk_room hRf hRl rfl rfl)) (yk_pv (q := (RX7, TX7, 13)) hG hA hS hK hP hD [0, 6, 4, 5] (by decide +kernel) rfl rfl rfl) rfl rfl hl.1 rfl (lv_room (Nat.le_of_ble_eq_true rfl)) dX7_kept_111 ⟨Nat.zero_le _, Nat.zero_le _⟩) hP hD hS hA rfl (Eq.trans (b := [ta, ca, faq, faqn]) rfl rfl) (fun H locs hP9 hD9 hS9 => ?_)
                    replace hP : va_P D vwCl ([(ta, .inr (7, [.ref fa, .ref a_draft, .ref a_fence, .ref a_past, .ref a_slots, .ref a_slotKinds, .ref a_sheets, .ref a_speedX, .ref a_speedY, .ref a_leftward, .ref ca, .ref da, .int fi])), (fa, .inr (1, [.ref fap, .ref faq])), (fap, .inr (3, [.ref fapn])), (fapn, .inl (cy 0, 6, .inl fu)), (faq, .inr (3, [.ref faqn])), (faqn, .inl (cy 0, 6, .inl fv)), (ca, .inl (cy 0, 10, .inl (f_X7_addChange (f_X7_addChange (f_X7_clearChange zC_2) fu (f_X7_oneIf (if (nI ki) = 0 then 1 else 0)) (2 * (f_X7_oneIf (if (nI ki) = 2 then 1 else 0))) (f_X7_oneIf (if (nI ki) = 3 then 1 else 0))) fv (f_X7_oneIf (if (nI ki) = 1 then 1 else 0)) (f_X7_oneIf (if (nI ki) = 3 then 1 else 0)) (2 * (f_X7_oneIf (if (nI ki) = 4 then 1 else 0)))))), (da, .inr (6, [.ref dar])), (dar, .inl (cy 6, 5, .inr (.inr (.inr (.inr (fun i => if i < 5 then some (daf i) else none))))))] ++ yk_fam 5 daf (fun i => .inl (cy 1, 10, .inr (.inl (zDf_2 i))))) H := hP9
                    replace hD : va_D A ([(ta, .inr (7, [.ref fa, .ref a_draft, .ref a_fence, .ref a_past, .ref a_slots, .ref a_slotKinds, .ref a_sheets, .ref a_speedX, .ref a_speedY, .ref a_leftward, .ref ca, .ref da, .int fi])), (fa, .inr (1, [.ref fap, .ref faq])), (fap, .inr (3, [.ref fapn])), (fapn, .inl (cy 0, 6, .inl fu)), (faq, .inr (3, [.ref faqn])), (faqn, .inl (cy 0, 6, .inl fv)), (ca, .inl (cy 0, 10, .inl (f_X7_addChange (f_X7_addChange (f_X7_clearChange zC_2) fu (f_X7_oneIf (if (nI ki) = 0 then 1 else 0)) (2 * (f_X7_oneIf (if (nI ki) = 2 then 1 else 0))) (f_X7_oneIf (if (nI ki) = 3 then 1 else 0))) fv (f_X7_oneIf (if (nI ki) = 1 then 1 else 0)) (f_X7_oneIf (if (nI ki) = 3 then 1 else 0)) (2 * (f_X7_oneIf (if (nI ki) = 4 then 1 else 0)))))), (da, .inr (6, [.ref dar])), (dar, .inl (cy 6, 5, .inr (.inr (.inr (.inr (fun i => if i < 5 then some (daf i) else none))))))] ++ yk_fam 5 daf (fun i => .inl (cy 1, 10, .inr (.inl (zDf_2 i))))) := hD9
                    replace hS := hS9
                    clear hP9 hD9 hS9
                    refine lv_aload_n hx hb dX7_kept_114 rfl (lv_at hl 0 rfl) ?_
                    refine va_get (D := D) (ci := 7) (v := .ref da) (C := RX7) (T := TX7) (N := 13) hx hb hts uX7_kept_X7 hown hK hP 0 rfl rfl 11 (by decide) (hts _ kX7_kept_3) (fun _ h9 => h9) rfl dX7_kept_115 ?_
                    refine lv_iload_n hx hb dX7_kept_118 rfl (lv_at hl 1 rfl) ?_
                    refine lv_aload_n hx hb dX7_kept_119 rfl (lv_at hl 0 rfl) ?_
                    refine va_get (D := D) (ci := 7) (v := .ref ca) (C := RX7) (T := TX7) (N := 13) hx hb hts uX7_kept_X7 hown hK hP 0 rfl rfl 10 (by decide) (hts _ kX7_kept_4) (fun _ h9 => h9) rfl dX7_kept_120 ?_
                    refine yk_v [7, 8, 6, 9, 10, 11, 12, 13] (va_runV (As := [.int (nI ki), .ref ca]) (rest := []) ⟨hx, hb, hml, hown, hts⟩ (c_X6_fillRow l D cy da dar ca daf zDf_2 ki (f_X7_addChange (f_X7_addChange (f_X7_clearChange zC_2) fu (f_X7_oneIf (if (nI ki) = 0 then 1 else 0)) (2 * (f_X7_oneIf (if (nI ki) = 2 then 1 else 0))) (f_X7_oneIf (if (nI ki) = 3 then 1 else 0))) fv (f_X7_oneIf (if (nI ki) = 1 then 1 else 0)) (f_X7_oneIf (if (nI ki) = 3 then 1 else 0)) (2 * (f_X7_oneIf (if (nI ki) = 4 then 1 else 0)))) (by omega) H.size) (cwV 2 hts gX7_kept_X6_fillRow rfl rfl rfl hv_X6_fillRow (yk_room hRf hRl rfl rfl)) (yk_pv (q := (RX6, TX6, 1)) hG hA hS hK hP hD [7, 8, 6, 9, 10, 11, 12, 13] (by decide +kernel) rfl rfl rfl) rfl rfl hl.1 rfl (lv_room (Nat.le_of_ble_eq_true rfl)) dX7_kept_123 ⟨Nat.zero_le _, Nat.zero_le _⟩) hP hD hS hA rfl (Eq.trans (b := [da, dar, ca, daf 0, daf 1, daf 2, daf 3, daf 4]) rfl rfl) (fun H locs hP9 hD9 hS9 => ?_)
                    replace hP : va_P D vwCl ([(ta, .inr (7, [.ref fa, .ref a_draft, .ref a_fence, .ref a_past, .ref a_slots, .ref a_slotKinds, .ref a_sheets, .ref a_speedX, .ref a_speedY, .ref a_leftward, .ref ca, .ref da, .int fi])), (fa, .inr (1, [.ref fap, .ref faq])), (fap, .inr (3, [.ref fapn])), (fapn, .inl (cy 0, 6, .inl fu)), (faq, .inr (3, [.ref faqn])), (faqn, .inl (cy 0, 6, .inl fv)), (ca, .inl (cy 0, 10, .inl (f_X7_addChange (f_X7_addChange (f_X7_clearChange zC_2) fu (f_X7_oneIf (if (nI ki) = 0 then 1 else 0)) (2 * (f_X7_oneIf (if (nI ki) = 2 then 1 else 0))) (f_X7_oneIf (if (nI ki) = 3 then 1 else 0))) fv (f_X7_oneIf (if (nI ki) = 1 then 1 else 0)) (f_X7_oneIf (if (nI ki) = 3 then 1 else 0)) (2 * (f_X7_oneIf (if (nI ki) = 4 then 1 else 0)))))), (da, .inr (6, [.ref dar])), (dar, .inl (cy 6, 5, .inr (.inr (.inr (.inr (fun i => if i < 5 then some (daf i) else none))))))] ++ yk_fam 5 daf (fun i => .inl (cy 1, 10, .inr (.inl ((f_X6_fillRow zDf_2 ki (f_X7_addChange (f_X7_addChange (f_X7_clearChange zC_2) fu (f_X7_oneIf (if (nI ki) = 0 then 1 else 0)) (2 * (f_X7_oneIf (if (nI ki) = 2 then 1 else 0))) (f_X7_oneIf (if (nI ki) = 3 then 1 else 0))) fv (f_X7_oneIf (if (nI ki) = 1 then 1 else 0)) (f_X7_oneIf (if (nI ki) = 3 then 1 else 0)) (2 * (f_X7_oneIf (if (nI ki) = 4 then 1 else 0))))) i))))) H := hP9
                    replace hD : va_D A ([(ta, .inr (7, [.ref fa, .ref a_draft, .ref a_fence, .ref a_past, .ref a_slots, .ref a_slotKinds, .ref a_sheets, .ref a_speedX, .ref a_speedY, .ref a_leftward, .ref ca, .ref da, .int fi])), (fa, .inr (1, [.ref fap, .ref faq])), (fap, .inr (3, [.ref fapn])), (fapn, .inl (cy 0, 6, .inl fu)), (faq, .inr (3, [.ref faqn])), (faqn, .inl (cy 0, 6, .inl fv)), (ca, .inl (cy 0, 10, .inl (f_X7_addChange (f_X7_addChange (f_X7_clearChange zC_2) fu (f_X7_oneIf (if (nI ki) = 0 then 1 else 0)) (2 * (f_X7_oneIf (if (nI ki) = 2 then 1 else 0))) (f_X7_oneIf (if (nI ki) = 3 then 1 else 0))) fv (f_X7_oneIf (if (nI ki) = 1 then 1 else 0)) (f_X7_oneIf (if (nI ki) = 3 then 1 else 0)) (2 * (f_X7_oneIf (if (nI ki) = 4 then 1 else 0)))))), (da, .inr (6, [.ref dar])), (dar, .inl (cy 6, 5, .inr (.inr (.inr (.inr (fun i => if i < 5 then some (daf i) else none))))))] ++ yk_fam 5 daf (fun i => .inl (cy 1, 10, .inr (.inl ((f_X6_fillRow zDf_2 ki (f_X7_addChange (f_X7_addChange (f_X7_clearChange zC_2) fu (f_X7_oneIf (if (nI ki) = 0 then 1 else 0)) (2 * (f_X7_oneIf (if (nI ki) = 2 then 1 else 0))) (f_X7_oneIf (if (nI ki) = 3 then 1 else 0))) fv (f_X7_oneIf (if (nI ki) = 1 then 1 else 0)) (f_X7_oneIf (if (nI ki) = 3 then 1 else 0)) (2 * (f_X7_oneIf (if (nI ki) = 4 then 1 else 0))))) i))))) := hD9
                    replace hS := hS9
                    clear hP9 hD9 hS9
                    refine lv_iinc (v := nI (ki + 1)) (lv' := [(1, .int (nI (ki + 1))), (0, .ref ta)]) hx hb dX7_kept_126 hl (k := 1) rfl (yk_inc ki) (by decide) rfl (fun ls hl9 => ?_)
                    replace hl := hl9
                    clear hl9
                    refine lv_goto (tgt := 2) hx hb dX7_kept_129 (by decide) ?_
                    obtain ⟨n9, rfl⟩ : ∃ n9, n2 = n9 + 1 := ⟨n2 - 1, by omega⟩
                    exact ih2 n9 (ki + 1) (f_X7_addChange (f_X7_addChange (f_X7_clearChange zC_2) fu (f_X7_oneIf (if (nI ki) = 0 then 1 else 0)) (2 * (f_X7_oneIf (if (nI ki) = 2 then 1 else 0))) (f_X7_oneIf (if (nI ki) = 3 then 1 else 0))) fv (f_X7_oneIf (if (nI ki) = 1 then 1 else 0)) (f_X7_oneIf (if (nI ki) = 3 then 1 else 0)) (2 * (f_X7_oneIf (if (nI ki) = 4 then 1 else 0)))) (f_X6_fillRow zDf_2 ki (f_X7_addChange (f_X7_addChange (f_X7_clearChange zC_2) fu (f_X7_oneIf (if (nI ki) = 0 then 1 else 0)) (2 * (f_X7_oneIf (if (nI ki) = 2 then 1 else 0))) (f_X7_oneIf (if (nI ki) = 3 then 1 else 0))) fv (f_X7_oneIf (if (nI ki) = 1 then 1 else 0)) (f_X7_oneIf (if (nI ki) = 3 then 1 else 0)) (2 * (f_X7_oneIf (if (nI ki) = 4 then 1 else 0))))) _ _ _ (by omega) (by omega)  hV2 hP hD hS (lv_sub hl [1, 0] rfl)
                  refine lv_icmp_ne (tgt := 106) hx hb dX7_kept_99 (by decide) (fun hc36 => ?_) (fun hc36 => ?_)
                  · refine lv_iconst (v := 0) hx hb dX7_kept_106 (by decide) ?_
                    exact J38 _ _ _ _ ((if_neg hc36).symm) hP hD hS (lv_sub hl [0, 1] rfl)
                  · refine lv_iconst (v := 1) hx hb dX7_kept_102 (by decide) ?_
                    refine lv_goto (tgt := 107) hx hb dX7_kept_103 (by decide) ?_
                    exact J38 _ _ _ _ ((if_pos hc36).symm) hP hD hS (lv_sub hl [0, 1] rfl)
                refine lv_icmp_ne (tgt := 92) hx hb dX7_kept_85 (by decide) (fun hc33 => ?_) (fun hc33 => ?_)
                · refine lv_iconst (v := 0) hx hb dX7_kept_92 (by decide) ?_
                  exact J35 _ _ _ _ ((if_neg hc33).symm) hP hD hS (lv_sub hl [0, 1] rfl)
                · refine lv_iconst (v := 1) hx hb dX7_kept_88 (by decide) ?_
                  refine lv_goto (tgt := 93) hx hb dX7_kept_89 (by decide) ?_
                  exact J35 _ _ _ _ ((if_pos hc33).symm) hP hD hS (lv_sub hl [0, 1] rfl)
              refine lv_icmp_ne (tgt := 79) hx hb dX7_kept_72 (by decide) (fun hc30 => ?_) (fun hc30 => ?_)
              · refine lv_iconst (v := 0) hx hb dX7_kept_79 (by decide) ?_
                exact J32 _ _ _ _ ((if_neg hc30).symm) hP hD hS (lv_sub hl [0, 1] rfl)
              · refine lv_iconst (v := 1) hx hb dX7_kept_75 (by decide) ?_
                refine lv_goto (tgt := 80) hx hb dX7_kept_76 (by decide) ?_
                exact J32 _ _ _ _ ((if_pos hc30).symm) hP hD hS (lv_sub hl [0, 1] rfl)
            refine lv_icmp_ne (tgt := 55) hx hb dX7_kept_48 (by decide) (fun hc27 => ?_) (fun hc27 => ?_)
            · refine lv_iconst (v := 0) hx hb dX7_kept_55 (by decide) ?_
              exact J29 _ _ _ _ ((if_neg hc27).symm) hP hD hS (lv_sub hl [0, 1] rfl)
            · refine lv_iconst (v := 1) hx hb dX7_kept_51 (by decide) ?_
              refine lv_goto (tgt := 56) hx hb dX7_kept_52 (by decide) ?_
              exact J29 _ _ _ _ ((if_pos hc27).symm) hP hD hS (lv_sub hl [0, 1] rfl)
          refine lv_icmp_ne (tgt := 41) hx hb dX7_kept_34 (by decide) (fun hc24 => ?_) (fun hc24 => ?_)
          · refine lv_iconst (v := 0) hx hb dX7_kept_41 (by decide) ?_
            exact J26 _ _ _ _ ((if_neg hc24).symm) hP hD hS (lv_sub hl [0, 1] rfl)
          · refine lv_iconst (v := 1) hx hb dX7_kept_37 (by decide) ?_
            refine lv_goto (tgt := 42) hx hb dX7_kept_38 (by decide) ?_
            exact J26 _ _ _ _ ((if_pos hc24).symm) hP hD hS (lv_sub hl [0, 1] rfl)
        refine lv_if_ne (tgt := 27) hx hb dX7_kept_20 (by decide) (fun hc21 => ?_) (fun hc21 => ?_)
        · refine lv_iconst (v := 0) hx hb dX7_kept_27 (by decide) ?_
          exact J23 _ _ _ _ ((if_neg hc21).symm) hP hD hS (lv_sub hl [0, 1] rfl)
        · refine lv_iconst (v := 1) hx hb dX7_kept_23 (by decide) ?_
          refine lv_goto (tgt := 28) hx hb dX7_kept_24 (by decide) ?_
          exact J23 _ _ _ _ ((if_pos hc21).symm) hP hD hS (lv_sub hl [0, 1] rfl)
  exact L2 (5 + 1) 5 0 ch tb _ _ _ (Nat.lt_succ_self _) (by omega)  rfl hP hD hS (lv_sub hl [1, 0] rfl)

theorem kX7_none_0 : Cond.constant RX7 83 (-1000001) ∈ wsX7_none := by decide +kernel
theorem kX7_none_1 : Cond.fieldLink RX7 10 "FlowPlane" "flow" "LFlowPlane$Flow;" ∈ wsX7_none := by decide +kernel
theorem kX7_none_2 : Cond.methodLink RX7 236 Lib.Math.min.name ∈ wsX7_none := by decide +kernel
theorem kX7_none_3 : Cond.static Lib.Math.min.name ∈ wsX7_none := by decide +kernel
theorem kX7_none_4 : Cond.initialized "java/lang/Math" ∈ wsX7_none := by decide +kernel
theorem kX7_none_5 : Cond.code Lib.Math.min.name Lib.Math.min.code 2 (some .int) ∈ wsX7_none := by decide +kernel
theorem kX7_none_6 : Cond.methodLink RX7 241 Lib.Math.max.name ∈ wsX7_none := by decide +kernel
theorem kX7_none_7 : Cond.static Lib.Math.max.name ∈ wsX7_none := by decide +kernel
theorem kX7_none_8 : Cond.code Lib.Math.max.name Lib.Math.max.code 2 (some .int) ∈ wsX7_none := by decide +kernel
theorem uX7_none_X7 : ∀ w ∈ u_ws RX7 TX7 13, w ∈ wsX7_none := by decide +kernel
def f_X7_none (fu : Nat → Int32) (fv : Nat → Int32) (fi : Int32) (pa : Int32) (pb : Int32) (pc_ : Int32) (pd : Int32) : Int32 × Int32 := (if (f_X7_isPlace pa pb) = 0 then (((f_X7_finding fi (-1000001)).1), ((f_X7_finding fi (-1000001)).2)) else (if (f_X7_isPlace pc_ pd) = 0 then (((f_X7_finding fi (-1000001)).1), ((f_X7_finding fi (-1000001)).2)) else (if pc_ ≤ pa then (((f_X7_finding fi (-1000001)).1), ((f_X7_finding fi (-1000001)).2)) else (if pb < pd then (if ((if (if (f_X1_spreadAt fu fv pc_ pd) < (f_X1_spreadAt fu fv pc_ pb) then (f_X1_spreadAt fu fv pc_ pd) else (f_X1_spreadAt fu fv pc_ pb)) < (if (f_X1_spreadAt fu fv pa pd) < (f_X1_spreadAt fu fv pa pb) then (f_X1_spreadAt fu fv pa pd) else (f_X1_spreadAt fu fv pa pb)) then (if (f_X1_spreadAt fu fv pc_ pd) < (f_X1_spreadAt fu fv pc_ pb) then (f_X1_spreadAt fu fv pc_ pd) else (f_X1_spreadAt fu fv pc_ pb)) else (if (f_X1_spreadAt fu fv pa pd) < (f_X1_spreadAt fu fv pa pb) then (f_X1_spreadAt fu fv pa pd) else (f_X1_spreadAt fu fv pa pb))) : Int32) < 0 then ((if 0 < ((if (if (f_X1_spreadAt fu fv pa pb) < (f_X1_spreadAt fu fv pa pd) then (f_X1_spreadAt fu fv pa pd) else (f_X1_spreadAt fu fv pa pb)) < (if (f_X1_spreadAt fu fv pc_ pb) < (f_X1_spreadAt fu fv pc_ pd) then (f_X1_spreadAt fu fv pc_ pd) else (f_X1_spreadAt fu fv pc_ pb)) then (if (f_X1_spreadAt fu fv pc_ pb) < (f_X1_spreadAt fu fv pc_ pd) then (f_X1_spreadAt fu fv pc_ pd) else (f_X1_spreadAt fu fv pc_ pb)) else (if (f_X1_spreadAt fu fv pa pb) < (f_X1_spreadAt fu fv pa pd) then (f_X1_spreadAt fu fv pa pd) else (f_X1_spreadAt fu fv pa pb))) : Int32) then 0 else (if 0 ≤ ((if (if (f_X1_spreadAt fu fv pc_ pd) < (f_X1_spreadAt fu fv pc_ pb) then (f_X1_spreadAt fu fv pc_ pd) else (f_X1_spreadAt fu fv pc_ pb)) < (if (f_X1_spreadAt fu fv pa pd) < (f_X1_spreadAt fu fv pa pb) then (f_X1_spreadAt fu fv pa pd) else (f_X1_spreadAt fu fv pa pb)) then (if (f_X1_spreadAt fu fv pc_ pd) < (f_X1_spreadAt fu fv pc_ pb) then (f_X1_spreadAt fu fv pc_ pd) else (f_X1_spreadAt fu fv pc_ pb)) else (if (f_X1_spreadAt fu fv pa pd) < (f_X1_spreadAt fu fv pa pb) then (f_X1_spreadAt fu fv pa pd) else (f_X1_spreadAt fu fv pa pb))) : Int32) then 0 else (-1))), fi) else (if ((if (if (f_X1_spreadAt fu fv pa pb) < (f_X1_spreadAt fu fv pa pd) then (f_X1_spreadAt fu fv pa pd) else (f_X1_spreadAt fu fv pa pb)) < (if (f_X1_spreadAt fu fv pc_ pb) < (f_X1_spreadAt fu fv pc_ pd) then (f_X1_spreadAt fu fv pc_ pd) else (f_X1_spreadAt fu fv pc_ pb)) then (if (f_X1_spreadAt fu fv pc_ pb) < (f_X1_spreadAt fu fv pc_ pd) then (f_X1_spreadAt fu fv pc_ pd) else (f_X1_spreadAt fu fv pc_ pb)) else (if (f_X1_spreadAt fu fv pa pb) < (f_X1_spreadAt fu fv pa pd) then (f_X1_spreadAt fu fv pa pd) else (f_X1_spreadAt fu fv pa pb))) : Int32) ≤ 0 then ((if 0 < ((if (if (f_X1_spreadAt fu fv pa pb) < (f_X1_spreadAt fu fv pa pd) then (f_X1_spreadAt fu fv pa pd) else (f_X1_spreadAt fu fv pa pb)) < (if (f_X1_spreadAt fu fv pc_ pb) < (f_X1_spreadAt fu fv pc_ pd) then (f_X1_spreadAt fu fv pc_ pd) else (f_X1_spreadAt fu fv pc_ pb)) then (if (f_X1_spreadAt fu fv pc_ pb) < (f_X1_spreadAt fu fv pc_ pd) then (f_X1_spreadAt fu fv pc_ pd) else (f_X1_spreadAt fu fv pc_ pb)) else (if (f_X1_spreadAt fu fv pa pb) < (f_X1_spreadAt fu fv pa pd) then (f_X1_spreadAt fu fv pa pd) else (f_X1_spreadAt fu fv pa pb))) : Int32) then 0 else (if 0 ≤ ((if (if (f_X1_spreadAt fu fv pc_ pd) < (f_X1_spreadAt fu fv pc_ pb) then (f_X1_spreadAt fu fv pc_ pd) else (f_X1_spreadAt fu fv pc_ pb)) < (if (f_X1_spreadAt fu fv pa pd) < (f_X1_spreadAt fu fv pa pb) then (f_X1_spreadAt fu fv pa pd) else (f_X1_spreadAt fu fv pa pb)) then (if (f_X1_spreadAt fu fv pc_ pd) < (f_X1_spreadAt fu fv pc_ pb) then (f_X1_spreadAt fu fv pc_ pd) else (f_X1_spreadAt fu fv pc_ pb)) else (if (f_X1_spreadAt fu fv pa pd) < (f_X1_spreadAt fu fv pa pb) then (f_X1_spreadAt fu fv pa pd) else (f_X1_spreadAt fu fv pa pb))) : Int32) then 0 else (-1))), fi) else (1, fi))) else (((f_X7_finding fi (-1000001)).1), ((f_X7_finding fi (-1000001)).2))))))
set_option maxHeartbeats 400000000 in
set_option maxRecDepth 100000 in
theorem c_X7_none (l : Launch) (D : va_G) (cy : Nat → ClassId) (ta : Nat) (fa : Nat) (fap : Nat) (fapn : Nat) (faq : Nat) (faqn : Nat) (a_draft : Nat) (a_fence : Nat) (a_past : Nat) (a_slots : Nat) (a_slotKinds : Nat) (a_sheets : Nat) (a_speedX : Nat) (a_speedY : Nat) (a_leftward : Nat) (a_change : Nat) (a_table : Nat) (fu : Nat → Int32) (fv : Nat → Int32) (fi : Int32) (pa : Int32) (pb : Int32) (pc_ : Int32) (pd : Int32) : yk_Ci l D vwCl (yk_ty cy) yX7_none wsX7_none 2 44 [.ref ta, .int pa, .int pb, .int pc_, .int pd] [(ta, .inr (7, [.ref fa, .ref a_draft, .ref a_fence, .ref a_past, .ref a_slots, .ref a_slotKinds, .ref a_sheets, .ref a_speedX, .ref a_speedY, .ref a_leftward, .ref a_change, .ref a_table, .int fi])), (fa, .inr (1, [.ref fap, .ref faq])), (fap, .inr (3, [.ref fapn])), (fapn, .inl (cy 0, 6, .inl fu)), (faq, .inr (3, [.ref faqn])), (faqn, .inl (cy 0, 6, .inl fv))] ((f_X7_none fu fv fi pa pb pc_ pd).1) [(ta, .inr (7, [.ref fa, .ref a_draft, .ref a_fence, .ref a_past, .ref a_slots, .ref a_slotKinds, .ref a_sheets, .ref a_speedX, .ref a_speedY, .ref a_leftward, .ref a_change, .ref a_table, .int ((f_X7_none fu fv fi pa pb pc_ pd).2)])), (fa, .inr (1, [.ref fap, .ref faq])), (fap, .inr (3, [.ref fapn])), (fapn, .inl (cy 0, 6, .inl fu)), (faq, .inr (3, [.ref faqn])), (faqn, .inl (cy 0, 6, .inl fv))] := by
  refine yk_eI (cc := cX7_none) (maxL := 11) (by decide) rfl (Nat.le_of_ble_eq_true rfl) rfl ?_
  intro p e R s m args below meth c A Q ls H locs hx hb hml hown hts hRf hRl hA hK hG hP hD hS hl hQ
  have hP : va_P D vwCl [(ta, .inr (7, [.ref fa, .ref a_draft, .ref a_fence, .ref a_past, .ref a_slots, .ref a_slotKinds, .ref a_sheets, .ref a_speedX, .ref a_speedY, .ref a_leftward, .ref a_change, .ref a_table, .int fi])), (fa, .inr (1, [.ref fap, .ref faq])), (fap, .inr (3, [.ref fapn])), (fapn, .inl (cy 0, 6, .inl fu)), (faq, .inr (3, [.ref faqn])), (faqn, .inl (cy 0, 6, .inl fv))] H := hP
  have hl : lv_has ls 11 [(0, .ref ta), (1, .int pa), (2, .int pb), (3, .int pc_), (4, .int pd)] := hl
  have hown : s.vm.findClass RX7 = some m.cls := hown
  have hF : (f_X7_none fu fv fi pa pb pc_ pd) = (f_X7_none fu fv fi pa pb pc_ pd) := rfl
  refine lv_iload_n hx hb dX7_none_0 rfl (lv_at hl 1 rfl) ?_
  refine lv_iload_n hx hb dX7_none_1 rfl (lv_at hl 2 rfl) ?_
  refine yk_i [] (va_runS (As := [.int pa, .int pb]) (rest := []) ⟨hx, hb, hml, hown, hts⟩ (c_X7_isPlace l D cy pa pb H.size) (va_cwS 2 hts gX7_none_X7_isPlace rfl rfl rfl hs_X7_isPlace (yk_room hRf hRl rfl rfl)) (yk_ps hG hA hS hK hP hD [] (by decide +kernel) rfl) rfl rfl hl.1 rfl (lv_room (Nat.le_of_ble_eq_true rfl)) dX7_none_2 ⟨Nat.zero_le _, Nat.zero_le _⟩) hP hD hS hA rfl rfl (fun H locs hP9 hD9 hS9 => ?_)
  replace hP : va_P D vwCl [(ta, .inr (7, [.ref fa, .ref a_draft, .ref a_fence, .ref a_past, .ref a_slots, .ref a_slotKinds, .ref a_sheets, .ref a_speedX, .ref a_speedY, .ref a_leftward, .ref a_change, .ref a_table, .int fi])), (fa, .inr (1, [.ref fap, .ref faq])), (fap, .inr (3, [.ref fapn])), (fapn, .inl (cy 0, 6, .inl fu)), (faq, .inr (3, [.ref faqn])), (faqn, .inl (cy 0, 6, .inl fv))] H := hP9
  replace hD : va_D A [(ta, .inr (7, [.ref fa, .ref a_draft, .ref a_fence, .ref a_past, .ref a_slots, .ref a_slotKinds, .ref a_sheets, .ref a_speedX, .ref a_speedY, .ref a_leftward, .ref a_change, .ref a_table, .int fi])), (fa, .inr (1, [.ref fap, .ref faq])), (fap, .inr (3, [.ref fapn])), (fapn, .inl (cy 0, 6, .inl fu)), (faq, .inr (3, [.ref faqn])), (faqn, .inl (cy 0, 6, .inl fv))] := hD9
  replace hS := hS9
  clear hP9 hD9 hS9
  refine lv_if_eq (tgt := 28) hx hb dX7_none_5 (by decide) (fun hc1 => ?_) (fun hc1 => ?_)
  · replace hF := hF.trans (if_pos hc1)
    refine lv_aload_n hx hb dX7_none_28 rfl (lv_at hl 0 rfl) ?_
    refine lv_ldc (v := (-1000001)) hx hb hown (hts _ kX7_none_0) dX7_none_29 ?_
    refine yk_i [0] (va_runV (As := [.int (-1000001)]) (rest := []) ⟨hx, hb, hml, hown, hts⟩ (c_X7_finding l D cy ta fa a_draft a_fence a_past a_slots a_slotKinds a_sheets a_speedX a_speedY a_leftward a_change a_table fi (-1000001) H.size) (cwV 1 hts gX7_none_X7_finding rfl rfl rfl hv_X7_finding (yk_room hRf hRl rfl rfl)) (yk_pv (q := (RX7, TX7, 13)) hG hA hS hK hP hD [0] (by decide +kernel) rfl rfl rfl) rfl rfl hl.1 rfl (lv_room (Nat.le_of_ble_eq_true rfl)) dX7_none_31 ⟨Nat.zero_le _, Nat.zero_le _⟩) hP hD hS hA rfl (Eq.trans (b := [ta]) rfl rfl) (fun H locs hP9 hD9 hS9 => ?_)
    replace hP : va_P D vwCl [(ta, .inr (7, [.ref fa, .ref a_draft, .ref a_fence, .ref a_past, .ref a_slots, .ref a_slotKinds, .ref a_sheets, .ref a_speedX, .ref a_speedY, .ref a_leftward, .ref a_change, .ref a_table, .int ((f_X7_finding fi (-1000001)).2)])), (fa, .inr (1, [.ref fap, .ref faq])), (fap, .inr (3, [.ref fapn])), (fapn, .inl (cy 0, 6, .inl fu)), (faq, .inr (3, [.ref faqn])), (faqn, .inl (cy 0, 6, .inl fv))] H := hP9
    replace hD : va_D A [(ta, .inr (7, [.ref fa, .ref a_draft, .ref a_fence, .ref a_past, .ref a_slots, .ref a_slotKinds, .ref a_sheets, .ref a_speedX, .ref a_speedY, .ref a_leftward, .ref a_change, .ref a_table, .int ((f_X7_finding fi (-1000001)).2)])), (fa, .inr (1, [.ref fap, .ref faq])), (fap, .inr (3, [.ref fapn])), (fapn, .inl (cy 0, 6, .inl fu)), (faq, .inr (3, [.ref faqn])), (faqn, .inl (cy 0, 6, .inl fv))] := hD9
    replace hS := hS9
    clear hP9 hD9 hS9
    have hF : f_X7_none fu fv fi pa pb pc_ pd = (((f_X7_finding fi (-1000001)).1), ((f_X7_finding fi (-1000001)).2)) := hF
    have hf0 := yk_fst hF
    have hg0 := yk_snd hF
    rw [hf0, hg0] at hQ
    exact hQ _ _ _ _ dX7_none_34 hP hS
  · replace hF := hF.trans (if_neg hc1)
    refine lv_iload_n hx hb dX7_none_8 rfl (lv_at hl 3 rfl) ?_
    refine lv_iload hx hb dX7_none_9 (lv_at hl 4 rfl) ?_
    refine yk_i [] (va_runS (As := [.int pc_, .int pd]) (rest := []) ⟨hx, hb, hml, hown, hts⟩ (c_X7_isPlace l D cy pc_ pd H.size) (va_cwS 2 hts gX7_none_X7_isPlace rfl rfl rfl hs_X7_isPlace (yk_room hRf hRl rfl rfl)) (yk_ps hG hA hS hK hP hD [] (by decide +kernel) rfl) rfl rfl hl.1 rfl (lv_room (Nat.le_of_ble_eq_true rfl)) dX7_none_11 ⟨Nat.zero_le _, Nat.zero_le _⟩) hP hD hS hA rfl rfl (fun H locs hP9 hD9 hS9 => ?_)
    replace hP : va_P D vwCl [(ta, .inr (7, [.ref fa, .ref a_draft, .ref a_fence, .ref a_past, .ref a_slots, .ref a_slotKinds, .ref a_sheets, .ref a_speedX, .ref a_speedY, .ref a_leftward, .ref a_change, .ref a_table, .int fi])), (fa, .inr (1, [.ref fap, .ref faq])), (fap, .inr (3, [.ref fapn])), (fapn, .inl (cy 0, 6, .inl fu)), (faq, .inr (3, [.ref faqn])), (faqn, .inl (cy 0, 6, .inl fv))] H := hP9
    replace hD : va_D A [(ta, .inr (7, [.ref fa, .ref a_draft, .ref a_fence, .ref a_past, .ref a_slots, .ref a_slotKinds, .ref a_sheets, .ref a_speedX, .ref a_speedY, .ref a_leftward, .ref a_change, .ref a_table, .int fi])), (fa, .inr (1, [.ref fap, .ref faq])), (fap, .inr (3, [.ref fapn])), (fapn, .inl (cy 0, 6, .inl fu)), (faq, .inr (3, [.ref faqn])), (faqn, .inl (cy 0, 6, .inl fv))] := hD9
    replace hS := hS9
    clear hP9 hD9 hS9
    refine lv_if_eq (tgt := 28) hx hb dX7_none_14 (by decide) (fun hc2 => ?_) (fun hc2 => ?_)
    · replace hF := hF.trans (if_pos hc2)
      refine lv_aload_n hx hb dX7_none_28 rfl (lv_at hl 0 rfl) ?_
      refine lv_ldc (v := (-1000001)) hx hb hown (hts _ kX7_none_0) dX7_none_29 ?_
      refine yk_i [0] (va_runV (As := [.int (-1000001)]) (rest := []) ⟨hx, hb, hml, hown, hts⟩ (c_X7_finding l D cy ta fa a_draft a_fence a_past a_slots a_slotKinds a_sheets a_speedX a_speedY a_leftward a_change a_table fi (-1000001) H.size) (cwV 1 hts gX7_none_X7_finding rfl rfl rfl hv_X7_finding (yk_room hRf hRl rfl rfl)) (yk_pv (q := (RX7, TX7, 13)) hG hA hS hK hP hD [0] (by decide +kernel) rfl rfl rfl) rfl rfl hl.1 rfl (lv_room (Nat.le_of_ble_eq_true rfl)) dX7_none_31 ⟨Nat.zero_le _, Nat.zero_le _⟩) hP hD hS hA rfl (Eq.trans (b := [ta]) rfl rfl) (fun H locs hP9 hD9 hS9 => ?_)
      replace hP : va_P D vwCl [(ta, .inr (7, [.ref fa, .ref a_draft, .ref a_fence, .ref a_past, .ref a_slots, .ref a_slotKinds, .ref a_sheets, .ref a_speedX, .ref a_speedY, .ref a_leftward, .ref a_change, .ref a_table, .int ((f_X7_finding fi (-1000001)).2)])), (fa, .inr (1, [.ref fap, .ref faq])), (fap, .inr (3, [.ref fapn])), (fapn, .inl (cy 0, 6, .inl fu)), (faq, .inr (3, [.ref faqn])), (faqn, .inl (cy 0, 6, .inl fv))] H := hP9
      replace hD : va_D A [(ta, .inr (7, [.ref fa, .ref a_draft, .ref a_fence, .ref a_past, .ref a_slots, .ref a_slotKinds, .ref a_sheets, .ref a_speedX, .ref a_speedY, .ref a_leftward, .ref a_change, .ref a_table, .int ((f_X7_finding fi (-1000001)).2)])), (fa, .inr (1, [.ref fap, .ref faq])), (fap, .inr (3, [.ref fapn])), (fapn, .inl (cy 0, 6, .inl fu)), (faq, .inr (3, [.ref faqn])), (faqn, .inl (cy 0, 6, .inl fv))] := hD9
      replace hS := hS9
      clear hP9 hD9 hS9
      have hF : f_X7_none fu fv fi pa pb pc_ pd = (((f_X7_finding fi (-1000001)).1), ((f_X7_finding fi (-1000001)).2)) := hF
      have hf0 := yk_fst hF
      have hg0 := yk_snd hF
      rw [hf0, hg0] at hQ
      exact hQ _ _ _ _ dX7_none_34 hP hS
    · replace hF := hF.trans (if_neg hc2)
      refine lv_iload_n hx hb dX7_none_17 rfl (lv_at hl 1 rfl) ?_
      refine lv_iload_n hx hb dX7_none_18 rfl (lv_at hl 3 rfl) ?_
      refine lv_icmp_ge (tgt := 28) hx hb dX7_none_19 (by decide) (fun hc3 => ?_) (fun hc3 => ?_)
      · replace hF := hF.trans (if_pos hc3)
        refine lv_aload_n hx hb dX7_none_28 rfl (lv_at hl 0 rfl) ?_
        refine lv_ldc (v := (-1000001)) hx hb hown (hts _ kX7_none_0) dX7_none_29 ?_
        refine yk_i [0] (va_runV (As := [.int (-1000001)]) (rest := []) ⟨hx, hb, hml, hown, hts⟩ (c_X7_finding l D cy ta fa a_draft a_fence a_past a_slots a_slotKinds a_sheets a_speedX a_speedY a_leftward a_change a_table fi (-1000001) H.size) (cwV 1 hts gX7_none_X7_finding rfl rfl rfl hv_X7_finding (yk_room hRf hRl rfl rfl)) (yk_pv (q := (RX7, TX7, 13)) hG hA hS hK hP hD [0] (by decide +kernel) rfl rfl rfl) rfl rfl hl.1 rfl (lv_room (Nat.le_of_ble_eq_true rfl)) dX7_none_31 ⟨Nat.zero_le _, Nat.zero_le _⟩) hP hD hS hA rfl (Eq.trans (b := [ta]) rfl rfl) (fun H locs hP9 hD9 hS9 => ?_)
        replace hP : va_P D vwCl [(ta, .inr (7, [.ref fa, .ref a_draft, .ref a_fence, .ref a_past, .ref a_slots, .ref a_slotKinds, .ref a_sheets, .ref a_speedX, .ref a_speedY, .ref a_leftward, .ref a_change, .ref a_table, .int ((f_X7_finding fi (-1000001)).2)])), (fa, .inr (1, [.ref fap, .ref faq])), (fap, .inr (3, [.ref fapn])), (fapn, .inl (cy 0, 6, .inl fu)), (faq, .inr (3, [.ref faqn])), (faqn, .inl (cy 0, 6, .inl fv))] H := hP9
        replace hD : va_D A [(ta, .inr (7, [.ref fa, .ref a_draft, .ref a_fence, .ref a_past, .ref a_slots, .ref a_slotKinds, .ref a_sheets, .ref a_speedX, .ref a_speedY, .ref a_leftward, .ref a_change, .ref a_table, .int ((f_X7_finding fi (-1000001)).2)])), (fa, .inr (1, [.ref fap, .ref faq])), (fap, .inr (3, [.ref fapn])), (fapn, .inl (cy 0, 6, .inl fu)), (faq, .inr (3, [.ref faqn])), (faqn, .inl (cy 0, 6, .inl fv))] := hD9
        replace hS := hS9
        clear hP9 hD9 hS9
        have hF : f_X7_none fu fv fi pa pb pc_ pd = (((f_X7_finding fi (-1000001)).1), ((f_X7_finding fi (-1000001)).2)) := hF
        have hf0 := yk_fst hF
        have hg0 := yk_snd hF
        rw [hf0, hg0] at hQ
        exact hQ _ _ _ _ dX7_none_34 hP hS
      · replace hF := hF.trans (if_neg hc3)
        refine lv_iload_n hx hb dX7_none_22 rfl (lv_at hl 2 rfl) ?_
        refine lv_iload hx hb dX7_none_23 (lv_at hl 4 rfl) ?_
        refine lv_icmp_lt (tgt := 35) hx hb dX7_none_25 (by decide) (fun hc4 => ?_) (fun hc4 => ?_)
        · replace hF := hF.trans (if_pos hc4)
          refine lv_aload_n hx hb dX7_none_35 rfl (lv_at hl 0 rfl) ?_
          refine va_get (D := D) (ci := 7) (v := .ref fa) (C := RX7) (T := TX7) (N := 13) hx hb hts uX7_none_X7 hown hK hP 0 rfl rfl 0 (by decide) (hts _ kX7_none_1) (fun _ h9 => h9) rfl dX7_none_36 ?_
          refine lv_iload_n hx hb dX7_none_39 rfl (lv_at hl 1 rfl) ?_
          refine lv_iload_n hx hb dX7_none_40 rfl (lv_at hl 2 rfl) ?_
          refine yk_i [1, 2, 3, 4, 5] (va_runV (As := [.int pa, .int pb]) (rest := []) ⟨hx, hb, hml, hown, hts⟩ (c_X1_spreadAt l D cy fa fap fapn faq faqn fu fv pa pb H.size) (cwV 2 hts gX7_none_X1_spreadAt rfl rfl rfl hv_X1_spreadAt (yk_room hRf hRl rfl rfl)) (yk_pv (q := (RX1, TX1, 2)) hG hA hS hK hP hD [1, 2, 3, 4, 5] (by decide +kernel) rfl rfl rfl) rfl rfl hl.1 rfl (lv_room (Nat.le_of_ble_eq_true rfl)) dX7_none_41 ⟨Nat.zero_le _, Nat.zero_le _⟩) hP hD hS hA rfl (Eq.trans (b := [fa, fap, fapn, faq, faqn]) rfl rfl) (fun H locs hP9 hD9 hS9 => ?_)
          replace hP : va_P D vwCl [(ta, .inr (7, [.ref fa, .ref a_draft, .ref a_fence, .ref a_past, .ref a_slots, .ref a_slotKinds, .ref a_sheets, .ref a_speedX, .ref a_speedY, .ref a_leftward, .ref a_change, .ref a_table, .int fi])), (fa, .inr (1, [.ref fap, .ref faq])), (fap, .inr (3, [.ref fapn])), (fapn, .inl (cy 0, 6, .inl fu)), (faq, .inr (3, [.ref faqn])), (faqn, .inl (cy 0, 6, .inl fv))] H := hP9
          replace hD : va_D A [(ta, .inr (7, [.ref fa, .ref a_draft, .ref a_fence, .ref a_past, .ref a_slots, .ref a_slotKinds, .ref a_sheets, .ref a_speedX, .ref a_speedY, .ref a_leftward, .ref a_change, .ref a_table, .int fi])), (fa, .inr (1, [.ref fap, .ref faq])), (fap, .inr (3, [.ref fapn])), (fapn, .inl (cy 0, 6, .inl fu)), (faq, .inr (3, [.ref faqn])), (faqn, .inl (cy 0, 6, .inl fv))] := hD9
          replace hS := hS9
          clear hP9 hD9 hS9
          refine lv_istore (lv' := [(5, .int (f_X1_spreadAt fu fv pa pb)), (0, .ref ta), (1, .int pa), (2, .int pb), (3, .int pc_), (4, .int pd)]) hx hb dX7_none_44 hl (by decide) rfl (fun ls hl9 => ?_)
          replace hl := hl9
          clear hl9
          refine lv_aload_n hx hb dX7_none_46 rfl (lv_at hl 1 rfl) ?_
          refine va_get (D := D) (ci := 7) (v := .ref fa) (C := RX7) (T := TX7) (N := 13) hx hb hts uX7_none_X7 hown hK hP 0 rfl rfl 0 (by decide) (hts _ kX7_none_1) (fun _ h9 => h9) rfl dX7_none_47 ?_
          refine lv_iload_n hx hb dX7_none_50 rfl (lv_at hl 2 rfl) ?_
          refine lv_iload hx hb dX7_none_51 (lv_at hl 5 rfl) ?_
          refine yk_i [1, 2, 3, 4, 5] (va_runV (As := [.int pa, .int pd]) (rest := []) ⟨hx, hb, hml, hown, hts⟩ (c_X1_spreadAt l D cy fa fap fapn faq faqn fu fv pa pd H.size) (cwV 2 hts gX7_none_X1_spreadAt rfl rfl rfl hv_X1_spreadAt (yk_room hRf hRl rfl rfl)) (yk_pv (q := (RX1, TX1, 2)) hG hA hS hK hP hD [1, 2, 3, 4, 5] (by decide +kernel) rfl rfl rfl) rfl rfl hl.1 rfl (lv_room (Nat.le_of_ble_eq_true rfl)) dX7_none_53 ⟨Nat.zero_le _, Nat.zero_le _⟩) hP hD hS hA rfl (Eq.trans (b := [fa, fap, fapn, faq, faqn]) rfl rfl) (fun H locs hP9 hD9 hS9 => ?_)
          replace hP : va_P D vwCl [(ta, .inr (7, [.ref fa, .ref a_draft, .ref a_fence, .ref a_past, .ref a_slots, .ref a_slotKinds, .ref a_sheets, .ref a_speedX, .ref a_speedY, .ref a_leftward, .ref a_change, .ref a_table, .int fi])), (fa, .inr (1, [.ref fap, .ref faq])), (fap, .inr (3, [.ref fapn])), (fapn, .inl (cy 0, 6, .inl fu)), (faq, .inr (3, [.ref faqn])), (faqn, .inl (cy 0, 6, .inl fv))] H := hP9
          replace hD : va_D A [(ta, .inr (7, [.ref fa, .ref a_draft, .ref a_fence, .ref a_past, .ref a_slots, .ref a_slotKinds, .ref a_sheets, .ref a_speedX, .ref a_speedY, .ref a_leftward, .ref a_change, .ref a_table, .int fi])), (fa, .inr (1, [.ref fap, .ref faq])), (fap, .inr (3, [.ref fapn])), (fapn, .inl (cy 0, 6, .inl fu)), (faq, .inr (3, [.ref faqn])), (faqn, .inl (cy 0, 6, .inl fv))] := hD9
          replace hS := hS9
          clear hP9 hD9 hS9
          refine lv_istore (lv' := [(6, .int (f_X1_spreadAt fu fv pa pd)), (5, .int (f_X1_spreadAt fu fv pa pb)), (0, .ref ta), (1, .int pa), (2, .int pb), (3, .int pc_), (4, .int pd)]) hx hb dX7_none_56 hl (by decide) rfl (fun ls hl9 => ?_)
          replace hl := hl9
          clear hl9
          refine lv_aload_n hx hb dX7_none_58 rfl (lv_at hl 2 rfl) ?_
          refine va_get (D := D) (ci := 7) (v := .ref fa) (C := RX7) (T := TX7) (N := 13) hx hb hts uX7_none_X7 hown hK hP 0 rfl rfl 0 (by decide) (hts _ kX7_none_1) (fun _ h9 => h9) rfl dX7_none_59 ?_
          refine lv_iload_n hx hb dX7_none_62 rfl (lv_at hl 5 rfl) ?_
          refine lv_iload_n hx hb dX7_none_63 rfl (lv_at hl 4 rfl) ?_
          refine yk_i [1, 2, 3, 4, 5] (va_runV (As := [.int pc_, .int pb]) (rest := []) ⟨hx, hb, hml, hown, hts⟩ (c_X1_spreadAt l D cy fa fap fapn faq faqn fu fv pc_ pb H.size) (cwV 2 hts gX7_none_X1_spreadAt rfl rfl rfl hv_X1_spreadAt (yk_room hRf hRl rfl rfl)) (yk_pv (q := (RX1, TX1, 2)) hG hA hS hK hP hD [1, 2, 3, 4, 5] (by decide +kernel) rfl rfl rfl) rfl rfl hl.1 rfl (lv_room (Nat.le_of_ble_eq_true rfl)) dX7_none_64 ⟨Nat.zero_le _, Nat.zero_le _⟩) hP hD hS hA rfl (Eq.trans (b := [fa, fap, fapn, faq, faqn]) rfl rfl) (fun H locs hP9 hD9 hS9 => ?_)
          replace hP : va_P D vwCl [(ta, .inr (7, [.ref fa, .ref a_draft, .ref a_fence, .ref a_past, .ref a_slots, .ref a_slotKinds, .ref a_sheets, .ref a_speedX, .ref a_speedY, .ref a_leftward, .ref a_change, .ref a_table, .int fi])), (fa, .inr (1, [.ref fap, .ref faq])), (fap, .inr (3, [.ref fapn])), (fapn, .inl (cy 0, 6, .inl fu)), (faq, .inr (3, [.ref faqn])), (faqn, .inl (cy 0, 6, .inl fv))] H := hP9
          replace hD : va_D A [(ta, .inr (7, [.ref fa, .ref a_draft, .ref a_fence, .ref a_past, .ref a_slots, .ref a_slotKinds, .ref a_sheets, .ref a_speedX, .ref a_speedY, .ref a_leftward, .ref a_change, .ref a_table, .int fi])), (fa, .inr (1, [.ref fap, .ref faq])), (fap, .inr (3, [.ref fapn])), (fapn, .inl (cy 0, 6, .inl fu)), (faq, .inr (3, [.ref faqn])), (faqn, .inl (cy 0, 6, .inl fv))] := hD9
          replace hS := hS9
          clear hP9 hD9 hS9
          refine lv_istore (lv' := [(7, .int (f_X1_spreadAt fu fv pc_ pb)), (6, .int (f_X1_spreadAt fu fv pa pd)), (5, .int (f_X1_spreadAt fu fv pa pb)), (0, .ref ta), (1, .int pa), (2, .int pb), (3, .int pc_), (4, .int pd)]) hx hb dX7_none_67 hl (by decide) rfl (fun ls hl9 => ?_)
          replace hl := hl9
          clear hl9
          refine lv_aload_n hx hb dX7_none_69 rfl (lv_at hl 3 rfl) ?_
          refine va_get (D := D) (ci := 7) (v := .ref fa) (C := RX7) (T := TX7) (N := 13) hx hb hts uX7_none_X7 hown hK hP 0 rfl rfl 0 (by decide) (hts _ kX7_none_1) (fun _ h9 => h9) rfl dX7_none_70 ?_
          refine lv_iload_n hx hb dX7_none_73 rfl (lv_at hl 6 rfl) ?_
          refine lv_iload hx hb dX7_none_74 (lv_at hl 7 rfl) ?_
          refine yk_i [1, 2, 3, 4, 5] (va_runV (As := [.int pc_, .int pd]) (rest := []) ⟨hx, hb, hml, hown, hts⟩ (c_X1_spreadAt l D cy fa fap fapn faq faqn fu fv pc_ pd H.size) (cwV 2 hts gX7_none_X1_spreadAt rfl rfl rfl hv_X1_spreadAt (yk_room hRf hRl rfl rfl)) (yk_pv (q := (RX1, TX1, 2)) hG hA hS hK hP hD [1, 2, 3, 4, 5] (by decide +kernel) rfl rfl rfl) rfl rfl hl.1 rfl (lv_room (Nat.le_of_ble_eq_true rfl)) dX7_none_76 ⟨Nat.zero_le _, Nat.zero_le _⟩) hP hD hS hA rfl (Eq.trans (b := [fa, fap, fapn, faq, faqn]) rfl rfl) (fun H locs hP9 hD9 hS9 => ?_)
          replace hP : va_P D vwCl [(ta, .inr (7, [.ref fa, .ref a_draft, .ref a_fence, .ref a_past, .ref a_slots, .ref a_slotKinds, .ref a_sheets, .ref a_speedX, .ref a_speedY, .ref a_leftward, .ref a_change, .ref a_table, .int fi])), (fa, .inr (1, [.ref fap, .ref faq])), (fap, .inr (3, [.ref fapn])), (fapn, .inl (cy 0, 6, .inl fu)), (faq, .inr (3, [.ref faqn])), (faqn, .inl (cy 0, 6, .inl fv))] H := hP9
          replace hD : va_D A [(ta, .inr (7, [.ref fa, .ref a_draft, .ref a_fence, .ref a_past, .ref a_slots, .ref a_slotKinds, .ref a_sheets, .ref a_speedX, .ref a_speedY, .ref a_leftward, .ref a_change, .ref a_table, .int fi])), (fa, .inr (1, [.ref fap, .ref faq])), (fap, .inr (3, [.ref fapn])), (fapn, .inl (cy 0, 6, .inl fu)), (faq, .inr (3, [.ref faqn])), (faqn, .inl (cy 0, 6, .inl fv))] := hD9
          replace hS := hS9
          clear hP9 hD9 hS9
          refine lv_istore (lv' := [(8, .int (f_X1_spreadAt fu fv pc_ pd)), (7, .int (f_X1_spreadAt fu fv pc_ pb)), (6, .int (f_X1_spreadAt fu fv pa pd)), (5, .int (f_X1_spreadAt fu fv pa pb)), (0, .ref ta), (1, .int pa), (2, .int pb), (3, .int pc_), (4, .int pd)]) hx hb dX7_none_79 hl (by decide) rfl (fun ls hl9 => ?_)
          replace hl := hl9
          clear hl9
          refine lv_iload hx hb dX7_none_81 (lv_at hl 3 rfl) ?_
          refine lv_iload hx hb dX7_none_83 (lv_at hl 2 rfl) ?_
          refine va_mmin hx hb (hml.trans hl.1.symm) hown (hts _ kX7_none_2) (hts _ kX7_none_3) (hts _ kX7_none_4) (hts _ kX7_none_5) (by rw [hRf]; exact Nat.le_of_ble_eq_true rfl) (by rw [hRl]; exact Nat.le_of_ble_eq_true rfl) (Nat.zero_le _) (Nat.zero_le _) dX7_none_85 ?_
          refine lv_iload hx hb dX7_none_88 (lv_at hl 1 rfl) ?_
          refine lv_iload hx hb dX7_none_90 (lv_at hl 0 rfl) ?_
          refine va_mmin hx hb (hml.trans hl.1.symm) hown (hts _ kX7_none_2) (hts _ kX7_none_3) (hts _ kX7_none_4) (hts _ kX7_none_5) (by rw [hRf]; exact Nat.le_of_ble_eq_true rfl) (by rw [hRl]; exact Nat.le_of_ble_eq_true rfl) (Nat.zero_le _) (Nat.zero_le _) dX7_none_92 ?_
          refine va_mmin hx hb (hml.trans hl.1.symm) hown (hts _ kX7_none_2) (hts _ kX7_none_3) (hts _ kX7_none_4) (hts _ kX7_none_5) (by rw [hRf]; exact Nat.le_of_ble_eq_true rfl) (by rw [hRl]; exact Nat.le_of_ble_eq_true rfl) (Nat.zero_le _) (Nat.zero_le _) dX7_none_95 ?_
          refine lv_istore (lv' := [(9, .int (if (if (f_X1_spreadAt fu fv pc_ pd) < (f_X1_spreadAt fu fv pc_ pb) then (f_X1_spreadAt fu fv pc_ pd) else (f_X1_spreadAt fu fv pc_ pb)) < (if (f_X1_spreadAt fu fv pa pd) < (f_X1_spreadAt fu fv pa pb) then (f_X1_spreadAt fu fv pa pd) else (f_X1_spreadAt fu fv pa pb)) then (if (f_X1_spreadAt fu fv pc_ pd) < (f_X1_spreadAt fu fv pc_ pb) then (f_X1_spreadAt fu fv pc_ pd) else (f_X1_spreadAt fu fv pc_ pb)) else (if (f_X1_spreadAt fu fv pa pd) < (f_X1_spreadAt fu fv pa pb) then (f_X1_spreadAt fu fv pa pd) else (f_X1_spreadAt fu fv pa pb)))), (8, .int (f_X1_spreadAt fu fv pc_ pd)), (7, .int (f_X1_spreadAt fu fv pc_ pb)), (6, .int (f_X1_spreadAt fu fv pa pd)), (5, .int (f_X1_spreadAt fu fv pa pb)), (0, .ref ta), (1, .int pa), (2, .int pb), (3, .int pc_), (4, .int pd)]) hx hb dX7_none_98 hl (by decide) rfl (fun ls hl9 => ?_)
          replace hl := hl9
          clear hl9
          refine lv_iload hx hb dX7_none_100 (lv_at hl 4 rfl) ?_
          refine lv_iload hx hb dX7_none_102 (lv_at hl 3 rfl) ?_
          refine va_mmax hx hb (hml.trans hl.1.symm) hown (hts _ kX7_none_6) (hts _ kX7_none_7) (hts _ kX7_none_4) (hts _ kX7_none_8) (by rw [hRf]; exact Nat.le_of_ble_eq_true rfl) (by rw [hRl]; exact Nat.le_of_ble_eq_true rfl) (Nat.zero_le _) (Nat.zero_le _) dX7_none_104 ?_
          refine lv_iload hx hb dX7_none_107 (lv_at hl 2 rfl) ?_
          refine lv_iload hx hb dX7_none_109 (lv_at hl 1 rfl) ?_
          refine va_mmax hx hb (hml.trans hl.1.symm) hown (hts _ kX7_none_6) (hts _ kX7_none_7) (hts _ kX7_none_4) (hts _ kX7_none_8) (by rw [hRf]; exact Nat.le_of_ble_eq_true rfl) (by rw [hRl]; exact Nat.le_of_ble_eq_true rfl) (Nat.zero_le _) (Nat.zero_le _) dX7_none_111 ?_
          refine va_mmax hx hb (hml.trans hl.1.symm) hown (hts _ kX7_none_6) (hts _ kX7_none_7) (hts _ kX7_none_4) (hts _ kX7_none_8) (by rw [hRf]; exact Nat.le_of_ble_eq_true rfl) (by rw [hRl]; exact Nat.le_of_ble_eq_true rfl) (Nat.zero_le _) (Nat.zero_le _) dX7_none_114 ?_
          refine lv_istore (lv' := [(10, .int (if (if (f_X1_spreadAt fu fv pa pb) < (f_X1_spreadAt fu fv pa pd) then (f_X1_spreadAt fu fv pa pd) else (f_X1_spreadAt fu fv pa pb)) < (if (f_X1_spreadAt fu fv pc_ pb) < (f_X1_spreadAt fu fv pc_ pd) then (f_X1_spreadAt fu fv pc_ pd) else (f_X1_spreadAt fu fv pc_ pb)) then (if (f_X1_spreadAt fu fv pc_ pb) < (f_X1_spreadAt fu fv pc_ pd) then (f_X1_spreadAt fu fv pc_ pd) else (f_X1_spreadAt fu fv pc_ pb)) else (if (f_X1_spreadAt fu fv pa pb) < (f_X1_spreadAt fu fv pa pd) then (f_X1_spreadAt fu fv pa pd) else (f_X1_spreadAt fu fv pa pb)))), (9, .int (if (if (f_X1_spreadAt fu fv pc_ pd) < (f_X1_spreadAt fu fv pc_ pb) then (f_X1_spreadAt fu fv pc_ pd) else (f_X1_spreadAt fu fv pc_ pb)) < (if (f_X1_spreadAt fu fv pa pd) < (f_X1_spreadAt fu fv pa pb) then (f_X1_spreadAt fu fv pa pd) else (f_X1_spreadAt fu fv pa pb)) then (if (f_X1_spreadAt fu fv pc_ pd) < (f_X1_spreadAt fu fv pc_ pb) then (f_X1_spreadAt fu fv pc_ pd) else (f_X1_spreadAt fu fv pc_ pb)) else (if (f_X1_spreadAt fu fv pa pd) < (f_X1_spreadAt fu fv pa pb) then (f_X1_spreadAt fu fv pa pd) else (f_X1_spreadAt fu fv pa pb)))), (8, .int (f_X1_spreadAt fu fv pc_ pd)), (7, .int (f_X1_spreadAt fu fv pc_ pb)), (6, .int (f_X1_spreadAt fu fv pa pd)), (5, .int (f_X1_spreadAt fu fv pa pb)), (0, .ref ta), (1, .int pa), (2, .int pb), (3, .int pc_), (4, .int pd)]) hx hb dX7_none_117 hl (by decide) rfl (fun ls hl9 => ?_)
          replace hl := hl9
          clear hl9
          refine lv_iload hx hb dX7_none_119 (lv_at hl 1 rfl) ?_
          refine lv_if_lt (tgt := 131) hx hb dX7_none_121 (by decide) (fun hc5 => ?_) (fun hc5 => ?_)
          · replace hF := hF.trans (if_pos hc5)
            refine lv_iload hx hb dX7_none_131 (lv_at hl 0 rfl) ?_
            have J9 : ∀ (v8 : Int32) (H : Heap) (locs : List Loc) (ls : Array Slot), v8 = (if 0 < ((if (if (f_X1_spreadAt fu fv pa pb) < (f_X1_spreadAt fu fv pa pd) then (f_X1_spreadAt fu fv pa pd) else (f_X1_spreadAt fu fv pa pb)) < (if (f_X1_spreadAt fu fv pc_ pb) < (f_X1_spreadAt fu fv pc_ pd) then (f_X1_spreadAt fu fv pc_ pd) else (f_X1_spreadAt fu fv pc_ pb)) then (if (f_X1_spreadAt fu fv pc_ pb) < (f_X1_spreadAt fu fv pc_ pd) then (f_X1_spreadAt fu fv pc_ pd) else (f_X1_spreadAt fu fv pc_ pb)) else (if (f_X1_spreadAt fu fv pa pb) < (f_X1_spreadAt fu fv pa pd) then (f_X1_spreadAt fu fv pa pd) else (f_X1_spreadAt fu fv pa pb))) : Int32) then 0 else (if 0 ≤ ((if (if (f_X1_spreadAt fu fv pc_ pd) < (f_X1_spreadAt fu fv pc_ pb) then (f_X1_spreadAt fu fv pc_ pd) else (f_X1_spreadAt fu fv pc_ pb)) < (if (f_X1_spreadAt fu fv pa pd) < (f_X1_spreadAt fu fv pa pb) then (f_X1_spreadAt fu fv pa pd) else (f_X1_spreadAt fu fv pa pb)) then (if (f_X1_spreadAt fu fv pc_ pd) < (f_X1_spreadAt fu fv pc_ pb) then (f_X1_spreadAt fu fv pc_ pd) else (f_X1_spreadAt fu fv pc_ pb)) else (if (f_X1_spreadAt fu fv pa pd) < (f_X1_spreadAt fu fv pa pb) then (f_X1_spreadAt fu fv pa pd) else (f_X1_spreadAt fu fv pa pb))) : Int32) then 0 else (-1))) → va_P D vwCl [(ta, .inr (7, [.ref fa, .ref a_draft, .ref a_fence, .ref a_past, .ref a_slots, .ref a_slotKinds, .ref a_sheets, .ref a_speedX, .ref a_speedY, .ref a_leftward, .ref a_change, .ref a_table, .int fi])), (fa, .inr (1, [.ref fap, .ref faq])), (fap, .inr (3, [.ref fapn])), (fapn, .inl (cy 0, 6, .inl fu)), (faq, .inr (3, [.ref faqn])), (faqn, .inl (cy 0, 6, .inl fv))] H → va_D A [(ta, .inr (7, [.ref fa, .ref a_draft, .ref a_fence, .ref a_past, .ref a_slots, .ref a_slotKinds, .ref a_sheets, .ref a_speedX, .ref a_speedY, .ref a_leftward, .ref a_change, .ref a_table, .int fi])), (fa, .inr (1, [.ref fap, .ref faq])), (fap, .inr (3, [.ref fapn])), (fapn, .inl (cy 0, 6, .inl fu)), (faq, .inr (3, [.ref faqn])), (faqn, .inl (cy 0, 6, .inl fv))] → va_S A s.heap H locs → lv_has ls 11 [(0, .ref ta), (1, .int pa), (2, .int pb), (3, .int pc_), (4, .int pd), (5, .int (f_X1_spreadAt fu fv pa pb)), (6, .int (f_X1_spreadAt fu fv pa pd)), (7, .int (f_X1_spreadAt fu fv pc_ pb)), (8, .int (f_X1_spreadAt fu fv pc_ pd)), (9, .int (if (if (f_X1_spreadAt fu fv pc_ pd) < (f_X1_spreadAt fu fv pc_ pb) then (f_X1_spreadAt fu fv pc_ pd) else (f_X1_spreadAt fu fv pc_ pb)) < (if (f_X1_spreadAt fu fv pa pd) < (f_X1_spreadAt fu fv pa pb) then (f_X1_spreadAt fu fv pa pd) else (f_X1_spreadAt fu fv pa pb)) then (if (f_X1_spreadAt fu fv pc_ pd) < (f_X1_spreadAt fu fv pc_ pb) then (f_X1_spreadAt fu fv pc_ pd) else (f_X1_spreadAt fu fv pc_ pb)) else (if (f_X1_spreadAt fu fv pa pd) < (f_X1_spreadAt fu fv pa pb) then (f_X1_spreadAt fu fv pa pd) else (f_X1_spreadAt fu fv pa pb)))), (10, .int (if (if (f_X1_spreadAt fu fv pa pb) < (f_X1_spreadAt fu fv pa pd) then (f_X1_spreadAt fu fv pa pd) else (f_X1_spreadAt fu fv pa pb)) < (if (f_X1_spreadAt fu fv pc_ pb) < (f_X1_spreadAt fu fv pc_ pd) then (f_X1_spreadAt fu fv pc_ pd) else (f_X1_spreadAt fu fv pc_ pb)) then (if (f_X1_spreadAt fu fv pc_ pb) < (f_X1_spreadAt fu fv pc_ pd) then (f_X1_spreadAt fu fv pc_ pd) else (f_X1_spreadAt fu fv pc_ pb)) else (if (f_X1_spreadAt fu fv pa pb) < (f_X1_spreadAt fu fv pa pd) then (f_X1_spreadAt fu fv pa pd) else (f_X1_spreadAt fu fv pa pb))))] → W p l e R s m args below meth c H locs 0 0 Q (F0 m 146 ls [.int v8]) := by
              clear hP hD hS hl
              intro v8 H locs ls ev8
              rw [ev8]
              clear ev8
              intro hP hD hS hl
              have hF : f_X7_none fu fv fi pa pb pc_ pd = ((if 0 < ((if (if (f_X1_spreadAt fu fv pa pb) < (f_X1_spreadAt fu fv pa pd) then (f_X1_spreadAt fu fv pa pd) else (f_X1_spreadAt fu fv pa pb)) < (if (f_X1_spreadAt fu fv pc_ pb) < (f_X1_spreadAt fu fv pc_ pd) then (f_X1_spreadAt fu fv pc_ pd) else (f_X1_spreadAt fu fv pc_ pb)) then (if (f_X1_spreadAt fu fv pc_ pb) < (f_X1_spreadAt fu fv pc_ pd) then (f_X1_spreadAt fu fv pc_ pd) else (f_X1_spreadAt fu fv pc_ pb)) else (if (f_X1_spreadAt fu fv pa pb) < (f_X1_spreadAt fu fv pa pd) then (f_X1_spreadAt fu fv pa pd) else (f_X1_spreadAt fu fv pa pb))) : Int32) then 0 else (if 0 ≤ ((if (if (f_X1_spreadAt fu fv pc_ pd) < (f_X1_spreadAt fu fv pc_ pb) then (f_X1_spreadAt fu fv pc_ pd) else (f_X1_spreadAt fu fv pc_ pb)) < (if (f_X1_spreadAt fu fv pa pd) < (f_X1_spreadAt fu fv pa pb) then (f_X1_spreadAt fu fv pa pd) else (f_X1_spreadAt fu fv pa pb)) then (if (f_X1_spreadAt fu fv pc_ pd) < (f_X1_spreadAt fu fv pc_ pb) then (f_X1_spreadAt fu fv pc_ pd) else (f_X1_spreadAt fu fv pc_ pb)) else (if (f_X1_spreadAt fu fv pa pd) < (f_X1_spreadAt fu fv pa pb) then (f_X1_spreadAt fu fv pa pd) else (f_X1_spreadAt fu fv pa pb))) : Int32) then 0 else (-1))), fi) := hF
              have hf0 := yk_fst hF
              have hg0 := yk_snd hF
              rw [hf0, hg0] at hQ
              exact hQ _ _ _ _ dX7_none_146 hP hS
            refine lv_if_gt (tgt := 145) hx hb dX7_none_133 (by decide) (fun hc6 => ?_) (fun hc6 => ?_)
            · refine lv_iconst (v := 0) hx hb dX7_none_145 (by decide) ?_
              exact J9 _ _ _ _ ((if_pos hc6).symm) hP hD hS (lv_sub hl [6, 7, 8, 9, 10, 5, 4, 3, 2, 1, 0] rfl)
            · refine lv_iload hx hb dX7_none_136 (lv_at hl 1 rfl) ?_
              refine lv_if_ge (tgt := 145) hx hb dX7_none_138 (by decide) (fun hc7 => ?_) (fun hc7 => ?_)
              · refine lv_iconst (v := 0) hx hb dX7_none_145 (by decide) ?_
                exact J9 _ _ _ _ (((if_neg hc6).trans (if_pos hc7)).symm) hP hD hS (lv_sub hl [6, 7, 8, 9, 10, 5, 4, 3, 2, 1, 0] rfl)
              · refine lv_iconst (v := (-1)) hx hb dX7_none_141 (by decide) ?_
                refine lv_goto (tgt := 146) hx hb dX7_none_142 (by decide) ?_
                exact J9 _ _ _ _ (((if_neg hc6).trans (if_neg hc7)).symm) hP hD hS (lv_sub hl [6, 7, 8, 9, 10, 5, 4, 3, 2, 1, 0] rfl)
          · replace hF := hF.trans (if_neg hc5)
            refine lv_iload hx hb dX7_none_124 (lv_at hl 0 rfl) ?_
            refine lv_if_le (tgt := 131) hx hb dX7_none_126 (by decide) (fun hc10 => ?_) (fun hc10 => ?_)
            · replace hF := hF.trans (if_pos hc10)
              refine lv_iload hx hb dX7_none_131 (lv_at hl 0 rfl) ?_
              have J14 : ∀ (v13 : Int32) (H : Heap) (locs : List Loc) (ls : Array Slot), v13 = (if 0 < ((if (if (f_X1_spreadAt fu fv pa pb) < (f_X1_spreadAt fu fv pa pd) then (f_X1_spreadAt fu fv pa pd) else (f_X1_spreadAt fu fv pa pb)) < (if (f_X1_spreadAt fu fv pc_ pb) < (f_X1_spreadAt fu fv pc_ pd) then (f_X1_spreadAt fu fv pc_ pd) else (f_X1_spreadAt fu fv pc_ pb)) then (if (f_X1_spreadAt fu fv pc_ pb) < (f_X1_spreadAt fu fv pc_ pd) then (f_X1_spreadAt fu fv pc_ pd) else (f_X1_spreadAt fu fv pc_ pb)) else (if (f_X1_spreadAt fu fv pa pb) < (f_X1_spreadAt fu fv pa pd) then (f_X1_spreadAt fu fv pa pd) else (f_X1_spreadAt fu fv pa pb))) : Int32) then 0 else (if 0 ≤ ((if (if (f_X1_spreadAt fu fv pc_ pd) < (f_X1_spreadAt fu fv pc_ pb) then (f_X1_spreadAt fu fv pc_ pd) else (f_X1_spreadAt fu fv pc_ pb)) < (if (f_X1_spreadAt fu fv pa pd) < (f_X1_spreadAt fu fv pa pb) then (f_X1_spreadAt fu fv pa pd) else (f_X1_spreadAt fu fv pa pb)) then (if (f_X1_spreadAt fu fv pc_ pd) < (f_X1_spreadAt fu fv pc_ pb) then (f_X1_spreadAt fu fv pc_ pd) else (f_X1_spreadAt fu fv pc_ pb)) else (if (f_X1_spreadAt fu fv pa pd) < (f_X1_spreadAt fu fv pa pb) then (f_X1_spreadAt fu fv pa pd) else (f_X1_spreadAt fu fv pa pb))) : Int32) then 0 else (-1))) → va_P D vwCl [(ta, .inr (7, [.ref fa, .ref a_draft, .ref a_fence, .ref a_past, .ref a_slots, .ref a_slotKinds, .ref a_sheets, .ref a_speedX, .ref a_speedY, .ref a_leftward, .ref a_change, .ref a_table, .int fi])), (fa, .inr (1, [.ref fap, .ref faq])), (fap, .inr (3, [.ref fapn])), (fapn, .inl (cy 0, 6, .inl fu)), (faq, .inr (3, [.ref faqn])), (faqn, .inl (cy 0, 6, .inl fv))] H → va_D A [(ta, .inr (7, [.ref fa, .ref a_draft, .ref a_fence, .ref a_past, .ref a_slots, .ref a_slotKinds, .ref a_sheets, .ref a_speedX, .ref a_speedY, .ref a_leftward, .ref a_change, .ref a_table, .int fi])), (fa, .inr (1, [.ref fap, .ref faq])), (fap, .inr (3, [.ref fapn])), (fapn, .inl (cy 0, 6, .inl fu)), (faq, .inr (3, [.ref faqn])), (faqn, .inl (cy 0, 6, .inl fv))] → va_S A s.heap H locs → lv_has ls 11 [(0, .ref ta), (1, .int pa), (2, .int pb), (3, .int pc_), (4, .int pd), (5, .int (f_X1_spreadAt fu fv pa pb)), (6, .int (f_X1_spreadAt fu fv pa pd)), (7, .int (f_X1_spreadAt fu fv pc_ pb)), (8, .int (f_X1_spreadAt fu fv pc_ pd)), (9, .int (if (if (f_X1_spreadAt fu fv pc_ pd) < (f_X1_spreadAt fu fv pc_ pb) then (f_X1_spreadAt fu fv pc_ pd) else (f_X1_spreadAt fu fv pc_ pb)) < (if (f_X1_spreadAt fu fv pa pd) < (f_X1_spreadAt fu fv pa pb) then (f_X1_spreadAt fu fv pa pd) else (f_X1_spreadAt fu fv pa pb)) then (if (f_X1_spreadAt fu fv pc_ pd) < (f_X1_spreadAt fu fv pc_ pb) then (f_X1_spreadAt fu fv pc_ pd) else (f_X1_spreadAt fu fv pc_ pb)) else (if (f_X1_spreadAt fu fv pa pd) < (f_X1_spreadAt fu fv pa pb) then (f_X1_spreadAt fu fv pa pd) else (f_X1_spreadAt fu fv pa pb)))), (10, .int (if (if (f_X1_spreadAt fu fv pa pb) < (f_X1_spreadAt fu fv pa pd) then (f_X1_spreadAt fu fv pa pd) else (f_X1_spreadAt fu fv pa pb)) < (if (f_X1_spreadAt fu fv pc_ pb) < (f_X1_spreadAt fu fv pc_ pd) then (f_X1_spreadAt fu fv pc_ pd) else (f_X1_spreadAt fu fv pc_ pb)) then (if (f_X1_spreadAt fu fv pc_ pb) < (f_X1_spreadAt fu fv pc_ pd) then (f_X1_spreadAt fu fv pc_ pd) else (f_X1_spreadAt fu fv pc_ pb)) else (if (f_X1_spreadAt fu fv pa pb) < (f_X1_spreadAt fu fv pa pd) then (f_X1_spreadAt fu fv pa pd) else (f_X1_spreadAt fu fv pa pb))))] → W p l e R s m args below meth c H locs 0 0 Q (F0 m 146 ls [.int v13]) := by
                clear hP hD hS hl
                intro v13 H locs ls ev13
                rw [ev13]
                clear ev13
                intro hP hD hS hl
                have hF : f_X7_none fu fv fi pa pb pc_ pd = ((if 0 < ((if (if (f_X1_spreadAt fu fv pa pb) < (f_X1_spreadAt fu fv pa pd) then (f_X1_spreadAt fu fv pa pd) else (f_X1_spreadAt fu fv pa pb)) < (if (f_X1_spreadAt fu fv pc_ pb) < (f_X1_spreadAt fu fv pc_ pd) then (f_X1_spreadAt fu fv pc_ pd) else (f_X1_spreadAt fu fv pc_ pb)) then (if (f_X1_spreadAt fu fv pc_ pb) < (f_X1_spreadAt fu fv pc_ pd) then (f_X1_spreadAt fu fv pc_ pd) else (f_X1_spreadAt fu fv pc_ pb)) else (if (f_X1_spreadAt fu fv pa pb) < (f_X1_spreadAt fu fv pa pd) then (f_X1_spreadAt fu fv pa pd) else (f_X1_spreadAt fu fv pa pb))) : Int32) then 0 else (if 0 ≤ ((if (if (f_X1_spreadAt fu fv pc_ pd) < (f_X1_spreadAt fu fv pc_ pb) then (f_X1_spreadAt fu fv pc_ pd) else (f_X1_spreadAt fu fv pc_ pb)) < (if (f_X1_spreadAt fu fv pa pd) < (f_X1_spreadAt fu fv pa pb) then (f_X1_spreadAt fu fv pa pd) else (f_X1_spreadAt fu fv pa pb)) then (if (f_X1_spreadAt fu fv pc_ pd) < (f_X1_spreadAt fu fv pc_ pb) then (f_X1_spreadAt fu fv pc_ pd) else (f_X1_spreadAt fu fv pc_ pb)) else (if (f_X1_spreadAt fu fv pa pd) < (f_X1_spreadAt fu fv pa pb) then (f_X1_spreadAt fu fv pa pd) else (f_X1_spreadAt fu fv pa pb))) : Int32) then 0 else (-1))), fi) := hF
                have hf0 := yk_fst hF
                have hg0 := yk_snd hF
                rw [hf0, hg0] at hQ
                exact hQ _ _ _ _ dX7_none_146 hP hS
              refine lv_if_gt (tgt := 145) hx hb dX7_none_133 (by decide) (fun hc11 => ?_) (fun hc11 => ?_)
              · refine lv_iconst (v := 0) hx hb dX7_none_145 (by decide) ?_
                exact J14 _ _ _ _ ((if_pos hc11).symm) hP hD hS (lv_sub hl [6, 7, 8, 9, 10, 5, 4, 3, 2, 1, 0] rfl)
              · refine lv_iload hx hb dX7_none_136 (lv_at hl 1 rfl) ?_
                refine lv_if_ge (tgt := 145) hx hb dX7_none_138 (by decide) (fun hc12 => ?_) (fun hc12 => ?_)
                · refine lv_iconst (v := 0) hx hb dX7_none_145 (by decide) ?_
                  exact J14 _ _ _ _ (((if_neg hc11).trans (if_pos hc12)).symm) hP hD hS (lv_sub hl [6, 7, 8, 9, 10, 5, 4, 3, 2, 1, 0] rfl)
                · refine lv_iconst (v := (-1)) hx hb dX7_none_141 (by decide) ?_
                  refine lv_goto (tgt := 146) hx hb dX7_none_142 (by decide) ?_
                  exact J14 _ _ _ _ (((if_neg hc11).trans (if_neg hc12)).symm) hP hD hS (lv_sub hl [6, 7, 8, 9, 10, 5, 4, 3, 2, 1, 0] rfl)
            · replace hF := hF.trans (if_neg hc10)
              refine lv_iconst (v := 1) hx hb dX7_none_129 (by decide) ?_
              have hF : f_X7_none fu fv fi pa pb pc_ pd = (1, fi) := hF
              have hf0 := yk_fst hF
              have hg0 := yk_snd hF
              rw [hf0, hg0] at hQ
              exact hQ _ _ _ _ dX7_none_130 hP hS
        · replace hF := hF.trans (if_neg hc4)
          refine lv_aload_n hx hb dX7_none_28 rfl (lv_at hl 0 rfl) ?_
          refine lv_ldc (v := (-1000001)) hx hb hown (hts _ kX7_none_0) dX7_none_29 ?_
          refine yk_i [0] (va_runV (As := [.int (-1000001)]) (rest := []) ⟨hx, hb, hml, hown, hts⟩ (c_X7_finding l D cy ta fa a_draft a_fence a_past a_slots a_slotKinds a_sheets a_speedX a_speedY a_leftward a_change a_table fi (-1000001) H.size) (cwV 1 hts gX7_none_X7_finding rfl rfl rfl hv_X7_finding (yk_room hRf hRl rfl rfl)) (yk_pv (q := (RX7, TX7, 13)) hG hA hS hK hP hD [0] (by decide +kernel) rfl rfl rfl) rfl rfl hl.1 rfl (lv_room (Nat.le_of_ble_eq_true rfl)) dX7_none_31 ⟨Nat.zero_le _, Nat.zero_le _⟩) hP hD hS hA rfl (Eq.trans (b := [ta]) rfl rfl) (fun H locs hP9 hD9 hS9 => ?_)
          replace hP : va_P D vwCl [(ta, .inr (7, [.ref fa, .ref a_draft, .ref a_fence, .ref a_past, .ref a_slots, .ref a_slotKinds, .ref a_sheets, .ref a_speedX, .ref a_speedY, .ref a_leftward, .ref a_change, .ref a_table, .int ((f_X7_finding fi (-1000001)).2)])), (fa, .inr (1, [.ref fap, .ref faq])), (fap, .inr (3, [.ref fapn])), (fapn, .inl (cy 0, 6, .inl fu)), (faq, .inr (3, [.ref faqn])), (faqn, .inl (cy 0, 6, .inl fv))] H := hP9
          replace hD : va_D A [(ta, .inr (7, [.ref fa, .ref a_draft, .ref a_fence, .ref a_past, .ref a_slots, .ref a_slotKinds, .ref a_sheets, .ref a_speedX, .ref a_speedY, .ref a_leftward, .ref a_change, .ref a_table, .int ((f_X7_finding fi (-1000001)).2)])), (fa, .inr (1, [.ref fap, .ref faq])), (fap, .inr (3, [.ref fapn])), (fapn, .inl (cy 0, 6, .inl fu)), (faq, .inr (3, [.ref faqn])), (faqn, .inl (cy 0, 6, .inl fv))] := hD9
          replace hS := hS9
          clear hP9 hD9 hS9
          have hF : f_X7_none fu fv fi pa pb pc_ pd = (((f_X7_finding fi (-1000001)).1), ((f_X7_finding fi (-1000001)).2)) := hF
          have hf0 := yk_fst hF
          have hg0 := yk_snd hF
          rw [hf0, hg0] at hQ
          exact hQ _ _ _ _ dX7_none_34 hP hS

theorem kX7_edge_0 : Cond.fieldLink RX7 10 "FlowPlane" "flow" "LFlowPlane$Flow;" ∈ wsX7_edge := by decide +kernel
theorem kX7_edge_1 : Cond.fieldLink RX7 117 "FlowPlane$Flow" "p" "LFlowPlane$Polynomial;" ∈ wsX7_edge := by decide +kernel
theorem kX7_edge_2 : Cond.fieldLink RX7 96 "FlowPlane$Polynomial" "numbers" "[I" ∈ wsX7_edge := by decide +kernel
theorem kX7_edge_3 : Cond.fieldLink RX7 125 "FlowPlane$Flow" "q" "LFlowPlane$Polynomial;" ∈ wsX7_edge := by decide +kernel
theorem uX7_edge_X7 : ∀ w ∈ u_ws RX7 TX7 13, w ∈ wsX7_edge := by decide +kernel
theorem uX7_edge_X1 : ∀ w ∈ u_ws RX1 TX1 2, w ∈ wsX7_edge := by decide +kernel
theorem uX7_edge_X3 : ∀ w ∈ u_ws RX3 TX3 1, w ∈ wsX7_edge := by decide +kernel
def f_X7_edge (fu : Nat → Int32) (fv : Nat → Int32) : Int32 := (f_X7_linesOfCubic (fv 3) ((fv 4) - (fu 3)) ((fv 5) - (fu 4)) (-(fu 5)))
set_option maxHeartbeats 400000000 in
set_option maxRecDepth 100000 in
theorem c_X7_edge (l : Launch) (D : va_G) (cy : Nat → ClassId) (ta : Nat) (fa : Nat) (fap : Nat) (fapn : Nat) (faq : Nat) (faqn : Nat) (a_draft : Nat) (a_fence : Nat) (a_past : Nat) (a_slots : Nat) (a_slotKinds : Nat) (a_sheets : Nat) (a_speedX : Nat) (a_speedY : Nat) (a_leftward : Nat) (a_change : Nat) (a_table : Nat) (fu : Nat → Int32) (fv : Nat → Int32) (fi : Int32) : yk_Ci l D vwCl (yk_ty cy) yX7_edge wsX7_edge 1 25 [.ref ta] [(ta, .inr (7, [.ref fa, .ref a_draft, .ref a_fence, .ref a_past, .ref a_slots, .ref a_slotKinds, .ref a_sheets, .ref a_speedX, .ref a_speedY, .ref a_leftward, .ref a_change, .ref a_table, .int fi])), (fa, .inr (1, [.ref fap, .ref faq])), (fap, .inr (3, [.ref fapn])), (fapn, .inl (cy 0, 6, .inl fu)), (faq, .inr (3, [.ref faqn])), (faqn, .inl (cy 0, 6, .inl fv))] (f_X7_edge fu fv) [(ta, .inr (7, [.ref fa, .ref a_draft, .ref a_fence, .ref a_past, .ref a_slots, .ref a_slotKinds, .ref a_sheets, .ref a_speedX, .ref a_speedY, .ref a_leftward, .ref a_change, .ref a_table, .int fi])), (fa, .inr (1, [.ref fap, .ref faq])), (fap, .inr (3, [.ref fapn])), (fapn, .inl (cy 0, 6, .inl fu)), (faq, .inr (3, [.ref faqn])), (faqn, .inl (cy 0, 6, .inl fv))] := by
  refine yk_eI (cc := cX7_edge) (maxL := 3) (by decide) rfl (Nat.le_of_ble_eq_true rfl) rfl ?_
  intro p e R s m args below meth c A Q ls H locs hx hb hml hown hts hRf hRl hA hK hG hP hD hS hl hQ
  have hP : va_P D vwCl [(ta, .inr (7, [.ref fa, .ref a_draft, .ref a_fence, .ref a_past, .ref a_slots, .ref a_slotKinds, .ref a_sheets, .ref a_speedX, .ref a_speedY, .ref a_leftward, .ref a_change, .ref a_table, .int fi])), (fa, .inr (1, [.ref fap, .ref faq])), (fap, .inr (3, [.ref fapn])), (fapn, .inl (cy 0, 6, .inl fu)), (faq, .inr (3, [.ref faqn])), (faqn, .inl (cy 0, 6, .inl fv))] H := hP
  have hl : lv_has ls 3 [(0, .ref ta)] := hl
  have hown : s.vm.findClass RX7 = some m.cls := hown
  have hF : (f_X7_edge fu fv) = (f_X7_edge fu fv) := rfl
  refine lv_aload_n hx hb dX7_edge_0 rfl (lv_at hl 0 rfl) ?_
  refine va_get (D := D) (ci := 7) (v := .ref fa) (C := RX7) (T := TX7) (N := 13) hx hb hts uX7_edge_X7 hown hK hP 0 rfl rfl 0 (by decide) (hts _ kX7_edge_0) (fun _ h9 => h9) rfl dX7_edge_1 ?_
  refine va_get (D := D) (ci := 1) (v := .ref fap) (C := RX1) (T := TX1) (N := 2) hx hb hts uX7_edge_X1 hown hK hP 1 rfl rfl 0 (by decide) (hts _ kX7_edge_1) (fun _ h9 => h9) rfl dX7_edge_4 ?_
  refine va_get (D := D) (ci := 3) (v := .ref fapn) (C := RX3) (T := TX3) (N := 1) hx hb hts uX7_edge_X3 hown hK hP 2 rfl rfl 0 (by decide) (hts _ kX7_edge_2) (fun _ h9 => h9) rfl dX7_edge_7 ?_
  refine lv_astore_n (lv' := [(1, .ref fapn), (0, .ref ta)]) hx hb dX7_edge_10 rfl hl (by decide) rfl (fun ls hl9 => ?_)
  replace hl := hl9
  clear hl9
  refine lv_aload_n hx hb dX7_edge_11 rfl (lv_at hl 1 rfl) ?_
  refine va_get (D := D) (ci := 7) (v := .ref fa) (C := RX7) (T := TX7) (N := 13) hx hb hts uX7_edge_X7 hown hK hP 0 rfl rfl 0 (by decide) (hts _ kX7_edge_0) (fun _ h9 => h9) rfl dX7_edge_12 ?_
  refine va_get (D := D) (ci := 1) (v := .ref faq) (C := RX1) (T := TX1) (N := 2) hx hb hts uX7_edge_X1 hown hK hP 1 rfl rfl 1 (by decide) (hts _ kX7_edge_3) (fun _ h9 => h9) rfl dX7_edge_15 ?_
  refine va_get (D := D) (ci := 3) (v := .ref faqn) (C := RX3) (T := TX3) (N := 1) hx hb hts uX7_edge_X3 hown hK hP 4 rfl rfl 0 (by decide) (hts _ kX7_edge_2) (fun _ h9 => h9) rfl dX7_edge_18 ?_
  refine lv_astore_n (lv' := [(2, .ref faqn), (1, .ref fapn), (0, .ref ta)]) hx hb dX7_edge_21 rfl hl (by decide) rfl (fun ls hl9 => ?_)
  replace hl := hl9
  clear hl9
  refine lv_aload_n hx hb dX7_edge_22 rfl (lv_at hl 0 rfl) ?_
  refine lv_iconst (v := 3) hx hb dX7_edge_23 (by decide) ?_
  refine yk_ild hx hb hK hP 5 0 rfl rfl 3 (by omega) (by decide) dX7_edge_24 ?_
  refine lv_aload_n hx hb dX7_edge_25 rfl (lv_at hl 0 rfl) ?_
  refine lv_iconst (v := 4) hx hb dX7_edge_26 (by decide) ?_
  refine yk_ild hx hb hK hP 5 0 rfl rfl 4 (by omega) (by decide) dX7_edge_27 ?_
  refine lv_aload_n hx hb dX7_edge_28 rfl (lv_at hl 1 rfl) ?_
  refine lv_iconst (v := 3) hx hb dX7_edge_29 (by decide) ?_
  refine yk_ild hx hb hK hP 3 0 rfl rfl 3 (by omega) (by decide) dX7_edge_30 ?_
  refine lv_isub hx hb dX7_edge_31 ?_
  refine lv_aload_n hx hb dX7_edge_32 rfl (lv_at hl 0 rfl) ?_
  refine lv_iconst (v := 5) hx hb dX7_edge_33 (by decide) ?_
  refine yk_ild hx hb hK hP 5 0 rfl rfl 5 (by omega) (by decide) dX7_edge_34 ?_
  refine lv_aload_n hx hb dX7_edge_35 rfl (lv_at hl 1 rfl) ?_
  refine lv_iconst (v := 4) hx hb dX7_edge_36 (by decide) ?_
  refine yk_ild hx hb hK hP 3 0 rfl rfl 4 (by omega) (by decide) dX7_edge_37 ?_
  refine lv_isub hx hb dX7_edge_38 ?_
  refine lv_aload_n hx hb dX7_edge_39 rfl (lv_at hl 1 rfl) ?_
  refine lv_iconst (v := 5) hx hb dX7_edge_40 (by decide) ?_
  refine yk_ild hx hb hK hP 3 0 rfl rfl 5 (by omega) (by decide) dX7_edge_41 ?_
  refine lv_ineg hx hb dX7_edge_42 ?_
  refine yk_i [] (va_runS (As := [.int (fv 3), .int ((fv 4) - (fu 3)), .int ((fv 5) - (fu 4)), .int (-(fu 5))]) (rest := []) ⟨hx, hb, hml, hown, hts⟩ (c_X7_linesOfCubic l D cy (fv 3) ((fv 4) - (fu 3)) ((fv 5) - (fu 4)) (-(fu 5)) H.size) (va_cwS 4 hts gX7_edge_X7_linesOfCubic rfl rfl rfl hs_X7_linesOfCubic (yk_room hRf hRl rfl rfl)) (yk_ps hG hA hS hK hP hD [] (by decide +kernel) rfl) rfl rfl hl.1 rfl (lv_room (Nat.le_of_ble_eq_true rfl)) dX7_edge_43 ⟨Nat.zero_le _, Nat.zero_le _⟩) hP hD hS hA rfl rfl (fun H locs hP9 hD9 hS9 => ?_)
  replace hP : va_P D vwCl [(ta, .inr (7, [.ref fa, .ref a_draft, .ref a_fence, .ref a_past, .ref a_slots, .ref a_slotKinds, .ref a_sheets, .ref a_speedX, .ref a_speedY, .ref a_leftward, .ref a_change, .ref a_table, .int fi])), (fa, .inr (1, [.ref fap, .ref faq])), (fap, .inr (3, [.ref fapn])), (fapn, .inl (cy 0, 6, .inl fu)), (faq, .inr (3, [.ref faqn])), (faqn, .inl (cy 0, 6, .inl fv))] H := hP9
  replace hD : va_D A [(ta, .inr (7, [.ref fa, .ref a_draft, .ref a_fence, .ref a_past, .ref a_slots, .ref a_slotKinds, .ref a_sheets, .ref a_speedX, .ref a_speedY, .ref a_leftward, .ref a_change, .ref a_table, .int fi])), (fa, .inr (1, [.ref fap, .ref faq])), (fap, .inr (3, [.ref fapn])), (fapn, .inl (cy 0, 6, .inl fu)), (faq, .inr (3, [.ref faqn])), (faqn, .inl (cy 0, 6, .inl fv))] := hD9
  replace hS := hS9
  clear hP9 hD9 hS9
  have hF : f_X7_edge fu fv = (f_X7_linesOfCubic (fv 3) ((fv 4) - (fu 3)) ((fv 5) - (fu 4)) (-(fu 5))) := hF
  rw [hF] at hQ
  exact hQ _ _ _ _ dX7_edge_46 hP hS
