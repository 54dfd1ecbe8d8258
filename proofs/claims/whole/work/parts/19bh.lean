theorem hv_X7_isSheet : yX7_isSheet.cls = RX7 ∧ yX7_isSheet.cls ≠ "java/lang/invoke/MethodHandle" ∧ yX7_isSheet.cls ≠ "java/lang/invoke/VarHandle" ∧ (parseMethodDescriptor yX7_isSheet.desc).map (fun d => d.parameters.length) = some 1 := by decide +kernel
theorem hs_X7_isSheet : yX7_isSheet.cls ≠ "java/lang/invoke/MethodHandle" ∧ yX7_isSheet.cls ≠ "java/lang/invoke/VarHandle" ∧ (parseMethodDescriptor yX7_isSheet.desc).map (fun d => d.parameters.length) = some 1 := by decide +kernel
theorem hv_X7_isBits : yX7_isBits.cls = RX7 ∧ yX7_isBits.cls ≠ "java/lang/invoke/MethodHandle" ∧ yX7_isBits.cls ≠ "java/lang/invoke/VarHandle" ∧ (parseMethodDescriptor yX7_isBits.desc).map (fun d => d.parameters.length) = some 1 := by decide +kernel
theorem hs_X7_isBits : yX7_isBits.cls ≠ "java/lang/invoke/MethodHandle" ∧ yX7_isBits.cls ≠ "java/lang/invoke/VarHandle" ∧ (parseMethodDescriptor yX7_isBits.desc).map (fun d => d.parameters.length) = some 1 := by decide +kernel
theorem hv_X5_begin : yX5_begin.cls = RX5 ∧ yX5_begin.cls ≠ "java/lang/invoke/MethodHandle" ∧ yX5_begin.cls ≠ "java/lang/invoke/VarHandle" ∧ (parseMethodDescriptor yX5_begin.desc).map (fun d => d.parameters.length) = some 2 := by decide +kernel
theorem hs_X5_begin : yX5_begin.cls ≠ "java/lang/invoke/MethodHandle" ∧ yX5_begin.cls ≠ "java/lang/invoke/VarHandle" ∧ (parseMethodDescriptor yX5_begin.desc).map (fun d => d.parameters.length) = some 2 := by decide +kernel
theorem kX7_sheet_0 : Cond.constant RX7 83 (-1000001) ∈ wsX7_sheet := by decide +kernel
theorem kX7_sheet_1 : Cond.fieldLink RX7 43 "FlowPlane" "sheets" "[LFlowPlane$Sheet;" ∈ wsX7_sheet := by decide +kernel
theorem kX7_sheet_2 : Cond.fieldLink RX7 269 "FlowPlane$Sheet" "size" "I" ∈ wsX7_sheet := by decide +kernel
theorem kX7_sheet_3 : Cond.constant RX7 159 (-1000003) ∈ wsX7_sheet := by decide +kernel
theorem uX7_sheet_X7 : ∀ w ∈ u_ws RX7 TX7 13, w ∈ wsX7_sheet := by decide +kernel
theorem uX7_sheet_X5 : ∀ w ∈ u_ws RX5 TX5 3, w ∈ wsX7_sheet := by decide +kernel
def f_X7_sheet (h0 : Nat → Int32) (b0 : Int32) (n0 : Nat) (fi : Int32) (px : Int32) (pb : Int32) (pn : Int32) : Int32 × Int32 × Int32 × Nat × (Nat → Int32) := (if (f_X7_isSheet px) = 0 then (((f_X7_finding fi (-1000001)).1), ((f_X7_finding fi (-1000001)).2), b0, n0, h0) else (if (f_X7_isBits pb) = 0 then (((f_X7_finding fi (-1000001)).1), ((f_X7_finding fi (-1000001)).2), b0, n0, h0) else (if 0 ≤ pn then (if pn ≤ 16 then ((nI ((f_X5_begin h0 pb (if pb = 0 then 0 else pn.toNatClampNeg)).2.1)), fi, ((f_X5_begin h0 pb (if pb = 0 then 0 else pn.toNatClampNeg)).1), ((f_X5_begin h0 pb (if pb = 0 then 0 else pn.toNatClampNeg)).2.1), ((f_X5_begin h0 pb (if pb = 0 then 0 else pn.toNatClampNeg)).2.2)) else (((f_X7_finding fi (-1000001)).1), ((f_X7_finding fi (-1000001)).2), b0, n0, h0)) else (((f_X7_finding fi (-1000003)).1), ((f_X7_finding fi (-1000003)).2), b0, n0, h0))))
set_option maxHeartbeats 400000000 in
set_option maxRecDepth 100000 in
theorem c_X7_sheet (l : Launch) (D : va_G) (cy : Nat → ClassId) (ta : Nat) (ha : Nat) (hx0 : Nat) (hx0n : Nat) (a_flow : Nat) (a_draft : Nat) (a_fence : Nat) (a_past : Nat) (a_slots : Nat) (a_slotKinds : Nat) (a_speedX : Nat) (a_speedY : Nat) (a_leftward : Nat) (a_change : Nat) (a_table : Nat) (rf : Nat → Option Nat) (h0 : Nat → Int32) (b0 : Int32) (n0 : Nat) (fi : Int32) (px : Int32) (pb : Int32) (pn : Int32) (hn0 : n0 ≤ 16) (hrf : ¬ f_X7_isSheet px = 0 → rf px.toNatClampNeg = some hx0) : yk_Ci l D vwCl (yk_ty cy) yX7_sheet wsX7_sheet 1 23 [.ref ta, .int px, .int pb, .int pn] [(ta, .inr (7, [.ref a_flow, .ref a_draft, .ref a_fence, .ref a_past, .ref a_slots, .ref a_slotKinds, .ref ha, .ref a_speedX, .ref a_speedY, .ref a_leftward, .ref a_change, .ref a_table, .int fi])), (ha, .inl (cy 4, 4, .inr (.inr (.inr (.inr rf))))), (hx0, .inr (5, [.ref hx0n, .int b0, .int (nI n0)])), (hx0n, .inl (cy 0, 16, .inl h0))] ((f_X7_sheet h0 b0 n0 fi px pb pn).1) [(ta, .inr (7, [.ref a_flow, .ref a_draft, .ref a_fence, .ref a_past, .ref a_slots, .ref a_slotKinds, .ref ha, .ref a_speedX, .ref a_speedY, .ref a_leftward, .ref a_change, .ref a_table, .int ((f_X7_sheet h0 b0 n0 fi px pb pn).2.1)])), (ha, .inl (cy 4, 4, .inr (.inr (.inr (.inr rf))))), (hx0, .inr (5, [.ref hx0n, .int ((f_X7_sheet h0 b0 n0 fi px pb pn).2.2.1), .int (nI ((f_X7_sheet h0 b0 n0 fi px pb pn).2.2.2.1))])), (hx0n, .inl (cy 0, 16, .inl ((f_X7_sheet h0 b0 n0 fi px pb pn).2.2.2.2)))] := by
  refine yk_eI (cc := cX7_sheet) (maxL := 4) (by decide) rfl (Nat.le_of_ble_eq_true rfl) rfl ?_
  intro p e R s m args below meth c A Q ls H locs hx hb hml hown hts hRf hRl hA hK hG hP hD hS hl hQ
  have hP : va_P D vwCl [(ta, .inr (7, [.ref a_flow, .ref a_draft, .ref a_fence, .ref a_past, .ref a_slots, .ref a_slotKinds, .ref ha, .ref a_speedX, .ref a_speedY, .ref a_leftward, .ref a_change, .ref a_table, .int fi])), (ha, .inl (cy 4, 4, .inr (.inr (.inr (.inr rf))))), (hx0, .inr (5, [.ref hx0n, .int b0, .int (nI n0)])), (hx0n, .inl (cy 0, 16, .inl h0))] H := hP
  have hl : lv_has ls 4 [(0, .ref ta), (1, .int px), (2, .int pb), (3, .int pn)] := hl
  have hown : s.vm.findClass RX7 = some m.cls := hown
  have hF : (f_X7_sheet h0 b0 n0 fi px pb pn) = (f_X7_sheet h0 b0 n0 fi px pb pn) := rfl
  refine lv_iload_n hx hb dX7_sheet_0 rfl (lv_at hl 1 rfl) ?_
  refine yk_i [] (va_runS (As := [.int px]) (rest := []) ⟨hx, hb, hml, hown, hts⟩ (c_X7_isSheet l D cy px H.size) (va_cwS 1 hts gX7_sheet_X7_isSheet rfl rfl rfl hs_X7_isSheet (yk_room hRf hRl rfl rfl)) (yk_ps hG hA hS hK hP hD [] (by decide +kernel) rfl) rfl rfl hl.1 rfl (lv_room (Nat.le_of_ble_eq_true rfl)) dX7_sheet_1 ⟨Nat.zero_le _, Nat.zero_le _⟩) hP hD hS hA rfl rfl (fun H locs hP9 hD9 hS9 => ?_)
  replace hP : va_P D vwCl [(ta, .inr (7, [.ref a_flow, .ref a_draft, .ref a_fence, .ref a_past, .ref a_slots, .ref a_slotKinds, .ref ha, .ref a_speedX, .ref a_speedY, .ref a_leftward, .ref a_change, .ref a_table, .int fi])), (ha, .inl (cy 4, 4, .inr (.inr (.inr (.inr rf))))), (hx0, .inr (5, [.ref hx0n, .int b0, .int (nI n0)])), (hx0n, .inl (cy 0, 16, .inl h0))] H := hP9
  replace hD : va_D A [(ta, .inr (7, [.ref a_flow, .ref a_draft, .ref a_fence, .ref a_past, .ref a_slots, .ref a_slotKinds, .ref ha, .ref a_speedX, .ref a_speedY, .ref a_leftward, .ref a_change, .ref a_table, .int fi])), (ha, .inl (cy 4, 4, .inr (.inr (.inr (.inr rf))))), (hx0, .inr (5, [.ref hx0n, .int b0, .int (nI n0)])), (hx0n, .inl (cy 0, 16, .inl h0))] := hD9
  replace hS := hS9
  clear hP9 hD9 hS9
  refine lv_if_eq (tgt := 14) hx hb dX7_sheet_4 (by decide) (fun hc1 => ?_) (fun hc1 => ?_)
  · replace hF := hF.trans (if_pos hc1)
    refine lv_aload_n hx hb dX7_sheet_14 rfl (lv_at hl 0 rfl) ?_
    refine lv_ldc (v := (-1000001)) hx hb hown (hts _ kX7_sheet_0) dX7_sheet_15 ?_
    refine yk_i [0] (va_runV (As := [.int (-1000001)]) (rest := []) ⟨hx, hb, hml, hown, hts⟩ (c_X7_finding l D cy ta a_flow a_draft a_fence a_past a_slots a_slotKinds ha a_speedX a_speedY a_leftward a_change a_table fi (-1000001) H.size) (cwV 1 hts gX7_sheet_X7_finding rfl rfl rfl hv_X7_finding (yk_room hRf hRl rfl rfl)) (yk_pv (q := (RX7, TX7, 13)) hG hA hS hK hP hD [0] (by decide +kernel) rfl rfl rfl) rfl rfl hl.1 rfl (lv_room (Nat.le_of_ble_eq_true rfl)) dX7_sheet_17 ⟨Nat.zero_le _, Nat.zero_le _⟩) hP hD hS hA rfl (Eq.trans (b := [ta]) rfl rfl) (fun H locs hP9 hD9 hS9 => ?_)
    replace hP : va_P D vwCl [(ta, .inr (7, [.ref a_flow, .ref a_draft, .ref a_fence, .ref a_past, .ref a_slots, .ref a_slotKinds, .ref ha, .ref a_speedX, .ref a_speedY, .ref a_leftward, .ref a_change, .ref a_table, .int ((f_X7_finding fi (-1000001)).2)])), (ha, .inl (cy 4, 4, .inr (.inr (.inr (.inr rf))))), (hx0, .inr (5, [.ref hx0n, .int b0, .int (nI n0)])), (hx0n, .inl (cy 0, 16, .inl h0))] H := hP9
    replace hD : va_D A [(ta, .inr (7, [.ref a_flow, .ref a_draft, .ref a_fence, .ref a_past, .ref a_slots, .ref a_slotKinds, .ref ha, .ref a_speedX, .ref a_speedY, .ref a_leftward, .ref a_change, .ref a_table, .int ((f_X7_finding fi (-1000001)).2)])), (ha, .inl (cy 4, 4, .inr (.inr (.inr (.inr rf))))), (hx0, .inr (5, [.ref hx0n, .int b0, .int (nI n0)])), (hx0n, .inl (cy 0, 16, .inl h0))] := hD9
    replace hS := hS9
    clear hP9 hD9 hS9
    have hF : f_X7_sheet h0 b0 n0 fi px pb pn = (((f_X7_finding fi (-1000001)).1), ((f_X7_finding fi (-1000001)).2), b0, n0, h0) := hF
    have hf0 := yk_fst hF
    have hg0 := yk_snd hF
    have hf1 := yk_fst hg0
    have hg1 := yk_snd hg0
    have hf2 := yk_fst hg1
    have hg2 := yk_snd hg1
    have hf3 := yk_fst hg2
    have hg3 := yk_snd hg2
    rw [hf0, hf1, hf2, hf3, hg3] at hQ
    exact hQ _ _ _ _ dX7_sheet_20 hP hS
  · replace hF := hF.trans (if_neg hc1)
    refine lv_iload_n hx hb dX7_sheet_7 rfl (lv_at hl 2 rfl) ?_
    refine yk_i [] (va_runS (As := [.int pb]) (rest := []) ⟨hx, hb, hml, hown, hts⟩ (c_X7_isBits l D cy pb H.size) (va_cwS 1 hts gX7_sheet_X7_isBits rfl rfl rfl hs_X7_isBits (yk_room hRf hRl rfl rfl)) (yk_ps hG hA hS hK hP hD [] (by decide +kernel) rfl) rfl rfl hl.1 rfl (lv_room (Nat.le_of_ble_eq_true rfl)) dX7_sheet_8 ⟨Nat.zero_le _, Nat.zero_le _⟩) hP hD hS hA rfl rfl (fun H locs hP9 hD9 hS9 => ?_)
    replace hP : va_P D vwCl [(ta, .inr (7, [.ref a_flow, .ref a_draft, .ref a_fence, .ref a_past, .ref a_slots, .ref a_slotKinds, .ref ha, .ref a_speedX, .ref a_speedY, .ref a_leftward, .ref a_change, .ref a_table, .int fi])), (ha, .inl (cy 4, 4, .inr (.inr (.inr (.inr rf))))), (hx0, .inr (5, [.ref hx0n, .int b0, .int (nI n0)])), (hx0n, .inl (cy 0, 16, .inl h0))] H := hP9
    replace hD : va_D A [(ta, .inr (7, [.ref a_flow, .ref a_draft, .ref a_fence, .ref a_past, .ref a_slots, .ref a_slotKinds, .ref ha, .ref a_speedX, .ref a_speedY, .ref a_leftward, .ref a_change, .ref a_table, .int fi])), (ha, .inl (cy 4, 4, .inr (.inr (.inr (.inr rf))))), (hx0, .inr (5, [.ref hx0n, .int b0, .int (nI n0)])), (hx0n, .inl (cy 0, 16, .inl h0))] := hD9
    replace hS := hS9
    clear hP9 hD9 hS9
    refine lv_if_ne (tgt := 21) hx hb dX7_sheet_11 (by decide) (fun hc2 => ?_) (fun hc2 => ?_)
    · replace hF := hF.trans (if_neg hc2)
      have hq3 : px = nI px.toNatClampNeg := (ix_sheet (by assumption)).1
      have hq3b : px.toNatClampNeg < 4 := (ix_sheet (by assumption)).2
      rw [hq3] at hl
      refine lv_iload_n hx hb dX7_sheet_21 rfl (lv_at hl 3 rfl) ?_
      refine lv_if_ge (tgt := 32) hx hb dX7_sheet_22 (by decide) (fun hc4 => ?_) (fun hc4 => ?_)
      · replace hF := hF.trans (if_pos hc4)
        refine lv_iload_n hx hb dX7_sheet_32 rfl (lv_at hl 3 rfl) ?_
        refine lv_bipush (v := 16) hx hb dX7_sheet_33 (by decide) ?_
        refine lv_icmp_le (tgt := 45) hx hb dX7_sheet_35 (by decide) (fun hc5 => ?_) (fun hc5 => ?_)
        · replace hF := hF.trans (if_pos hc5)
          have hq6 : pn = nI pn.toNatClampNeg := (ix_size (by assumption) (by assumption)).1
          have hq6b : pn.toNatClampNeg < 17 := (ix_size (by assumption) (by assumption)).2
          rw [hq6] at hl
          refine lv_aload_n hx hb dX7_sheet_45 rfl (lv_at hl 0 rfl) ?_
          refine va_get (D := D) (ci := 7) (v := .ref ha) (C := RX7) (T := TX7) (N := 13) hx hb hts uX7_sheet_X7 hown hK hP 0 rfl rfl 6 (by decide) (hts _ kX7_sheet_1) (fun _ h9 => h9) rfl dX7_sheet_46 ?_
          refine lv_iload_n hx hb dX7_sheet_49 rfl (lv_at hl 1 rfl) ?_
          refine yk_aldq hx hb hK hP 1 4 rfl rfl px.toNatClampNeg (ix_sheet (by assumption)).2 (by decide) (hrf (by assumption)) dX7_sheet_50 ?_
          refine lv_iload_n hx hb dX7_sheet_51 rfl (lv_at hl 2 rfl) ?_
          refine lv_iload_n hx hb dX7_sheet_52 rfl (lv_at hl 2 rfl) ?_
          have J9 : ∀ (v8 : Nat) (H : Heap) (locs : List Loc) (ls : Array Slot), v8 = (if pb = 0 then 0 else pn.toNatClampNeg) → va_P D vwCl [(ta, .inr (7, [.ref a_flow, .ref a_draft, .ref a_fence, .ref a_past, .ref a_slots, .ref a_slotKinds, .ref ha, .ref a_speedX, .ref a_speedY, .ref a_leftward, .ref a_change, .ref a_table, .int fi])), (ha, .inl (cy 4, 4, .inr (.inr (.inr (.inr rf))))), (hx0, .inr (5, [.ref hx0n, .int b0, .int (nI n0)])), (hx0n, .inl (cy 0, 16, .inl h0))] H → va_D A [(ta, .inr (7, [.ref a_flow, .ref a_draft, .ref a_fence, .ref a_past, .ref a_slots, .ref a_slotKinds, .ref ha, .ref a_speedX, .ref a_speedY, .ref a_leftward, .ref a_change, .ref a_table, .int fi])), (ha, .inl (cy 4, 4, .inr (.inr (.inr (.inr rf))))), (hx0, .inr (5, [.ref hx0n, .int b0, .int (nI n0)])), (hx0n, .inl (cy 0, 16, .inl h0))] → va_S A s.heap H locs → lv_has ls 4 [(0, .ref ta), (1, .int (nI px.toNatClampNeg)), (2, .int pb), (3, .int (nI pn.toNatClampNeg))] → W p l e R s m args below meth c H locs 0 0 Q (F0 m 61 ls [.int (nI v8), .int pb, .ref hx0]) := by
            clear hP hD hS hl
            intro v8 H locs ls ev8
            rw [ev8]
            clear ev8
            intro hP hD hS hl
            refine yk_v [2, 3] (va_runV (As := [.int pb, .int (nI (if pb = 0 then 0 else pn.toNatClampNeg))]) (rest := []) ⟨hx, hb, hml, hown, hts⟩ (c_X5_begin l D cy hx0 hx0n h0 b0 n0 pb (if pb = 0 then 0 else pn.toNatClampNeg) H.size) (cwV 2 hts gX7_sheet_X5_begin rfl rfl rfl hv_X5_begin (yk_room hRf hRl rfl rfl)) (yk_pv (q := (RX5, TX5, 3)) hG hA hS hK hP hD [2, 3] (by decide +kernel) rfl rfl rfl) rfl rfl hl.1 rfl (lv_room (Nat.le_of_ble_eq_true rfl)) dX7_sheet_61 ⟨Nat.zero_le _, Nat.zero_le _⟩) hP hD hS hA rfl (Eq.trans (b := [hx0, hx0n]) rfl rfl) (fun H locs hP9 hD9 hS9 => ?_)
            replace hP : va_P D vwCl [(ta, .inr (7, [.ref a_flow, .ref a_draft, .ref a_fence, .ref a_past, .ref a_slots, .ref a_slotKinds, .ref ha, .ref a_speedX, .ref a_speedY, .ref a_leftward, .ref a_change, .ref a_table, .int fi])), (ha, .inl (cy 4, 4, .inr (.inr (.inr (.inr rf))))), (hx0, .inr (5, [.ref hx0n, .int ((f_X5_begin h0 pb (if pb = 0 then 0 else pn.toNatClampNeg)).1), .int (nI ((f_X5_begin h0 pb (if pb = 0 then 0 else pn.toNatClampNeg)).2.1))])), (hx0n, .inl (cy 0, 16, .inl ((f_X5_begin h0 pb (if pb = 0 then 0 else pn.toNatClampNeg)).2.2)))] H := hP9
            replace hD : va_D A [(ta, .inr (7, [.ref a_flow, .ref a_draft, .ref a_fence, .ref a_past, .ref a_slots, .ref a_slotKinds, .ref ha, .ref a_speedX, .ref a_speedY, .ref a_leftward, .ref a_change, .ref a_table, .int fi])), (ha, .inl (cy 4, 4, .inr (.inr (.inr (.inr rf))))), (hx0, .inr (5, [.ref hx0n, .int ((f_X5_begin h0 pb (if pb = 0 then 0 else pn.toNatClampNeg)).1), .int (nI ((f_X5_begin h0 pb (if pb = 0 then 0 else pn.toNatClampNeg)).2.1))])), (hx0n, .inl (cy 0, 16, .inl ((f_X5_begin h0 pb (if pb = 0 then 0 else pn.toNatClampNeg)).2.2)))] := hD9
            replace hS := hS9
            clear hP9 hD9 hS9
            refine lv_aload_n hx hb dX7_sheet_64 rfl (lv_at hl 0 rfl) ?_
            refine va_get (D := D) (ci := 7) (v := .ref ha) (C := RX7) (T := TX7) (N := 13) hx hb hts uX7_sheet_X7 hown hK hP 0 rfl rfl 6 (by decide) (hts _ kX7_sheet_1) (fun _ h9 => h9) rfl dX7_sheet_65 ?_
            refine lv_iload_n hx hb dX7_sheet_68 rfl (lv_at hl 1 rfl) ?_
            refine yk_aldq hx hb hK hP 1 4 rfl rfl px.toNatClampNeg (ix_sheet (by assumption)).2 (by decide) (hrf (by assumption)) dX7_sheet_69 ?_
            refine va_get (D := D) (ci := 5) (v := .int (nI ((f_X5_begin h0 pb (if pb = 0 then 0 else pn.toNatClampNeg)).2.1))) (C := RX5) (T := TX5) (N := 3) hx hb hts uX7_sheet_X5 hown hK hP 2 rfl rfl 2 (by decide) (hts _ kX7_sheet_2) (fun _ h9 => h9) rfl dX7_sheet_70 ?_
            have hF : f_X7_sheet h0 b0 n0 fi px pb pn = ((nI ((f_X5_begin h0 pb (if pb = 0 then 0 else pn.toNatClampNeg)).2.1)), fi, ((f_X5_begin h0 pb (if pb = 0 then 0 else pn.toNatClampNeg)).1), ((f_X5_begin h0 pb (if pb = 0 then 0 else pn.toNatClampNeg)).2.1), ((f_X5_begin h0 pb (if pb = 0 then 0 else pn.toNatClampNeg)).2.2)) := hF
            have hf0 := yk_fst hF
            have hg0 := yk_snd hF
            have hf1 := yk_fst hg0
            have hg1 := yk_snd hg0
            have hf2 := yk_fst hg1
            have hg2 := yk_snd hg1
            have hf3 := yk_fst hg2
            have hg3 := yk_snd hg2
            rw [hf0, hf1, hf2, hf3, hg3] at hQ
            exact hQ _ _ _ _ dX7_sheet_73 hP hS
          refine lv_if_ne (tgt := 60) hx hb dX7_sheet_53 (by decide) (fun hc7 => ?_) (fun hc7 => ?_)
          · refine lv_iload_n hx hb dX7_sheet_60 rfl (lv_at hl 3 rfl) ?_
            exact J9 _ _ _ _ ((if_neg hc7).symm) hP hD hS (lv_sub hl [0, 1, 2, 3] rfl)
          · refine lv_iconst (v := 0) hx hb dX7_sheet_56 (by decide) ?_
            refine lv_goto (tgt := 61) hx hb dX7_sheet_57 (by decide) ?_
            exact J9 _ _ _ _ ((if_pos hc7).symm) hP hD hS (lv_sub hl [0, 1, 2, 3] rfl)
        · replace hF := hF.trans (if_neg hc5)
          refine lv_aload_n hx hb dX7_sheet_38 rfl (lv_at hl 0 rfl) ?_
          refine lv_ldc (v := (-1000001)) hx hb hown (hts _ kX7_sheet_0) dX7_sheet_39 ?_
          refine yk_i [0] (va_runV (As := [.int (-1000001)]) (rest := []) ⟨hx, hb, hml, hown, hts⟩ (c_X7_finding l D cy ta a_flow a_draft a_fence a_past a_slots a_slotKinds ha a_speedX a_speedY a_leftward a_change a_table fi (-1000001) H.size) (cwV 1 hts gX7_sheet_X7_finding rfl rfl rfl hv_X7_finding (yk_room hRf hRl rfl rfl)) (yk_pv (q := (RX7, TX7, 13)) hG hA hS hK hP hD [0] (by decide +kernel) rfl rfl rfl) rfl rfl hl.1 rfl (lv_room (Nat.le_of_ble_eq_true rfl)) dX7_sheet_41 ⟨Nat.zero_le _, Nat.zero_le _⟩) hP hD hS hA rfl (Eq.trans (b := [ta]) rfl rfl) (fun H locs hP9 hD9 hS9 => ?_)
          replace hP : va_P D vwCl [(ta, .inr (7, [.ref a_flow, .ref a_draft, .ref a_fence, .ref a_past, .ref a_slots, .ref a_slotKinds, .ref ha, .ref a_speedX, .ref a_speedY, .ref a_leftward, .ref a_change, .ref a_table, .int ((f_X7_finding fi (-1000001)).2)])), (ha, .inl (cy 4, 4, .inr (.inr (.inr (.inr rf))))), (hx0, .inr (5, [.ref hx0n, .int b0, .int (nI n0)])), (hx0n, .inl (cy 0, 16, .inl h0))] H := hP9
          replace hD : va_D A [(ta, .inr (7, [.ref a_flow, .ref a_draft, .ref a_fence, .ref a_past, .ref a_slots, .ref a_slotKinds, .ref ha, .ref a_speedX, .ref a_speedY, .ref a_leftward, .ref a_change, .ref a_table, .int ((f_X7_finding fi (-1000001)).2)])), (ha, .inl (cy 4, 4, .inr (.inr (.inr (.inr rf))))), (hx0, .inr (5, [.ref hx0n, .int b0, .int (nI n0)])), (hx0n, .inl (cy 0, 16, .inl h0))] := hD9
          replace hS := hS9
          clear hP9 hD9 hS9
          have hF : f_X7_sheet h0 b0 n0 fi px pb pn = (((f_X7_finding fi (-1000001)).1), ((f_X7_finding fi (-1000001)).2), b0, n0, h0) := hF
          have hf0 := yk_fst hF
          have hg0 := yk_snd hF
          have hf1 := yk_fst hg0
          have hg1 := yk_snd hg0
          have hf2 := yk_fst hg1
          have hg2 := yk_snd hg1
          have hf3 := yk_fst hg2
          have hg3 := yk_snd hg2
          rw [hf0, hf1, hf2, hf3, hg3] at hQ
          exact hQ _ _ _ _ dX7_sheet_44 hP hS
      · replace hF := hF.trans (if_neg hc4)
        refine lv_aload_n hx hb dX7_sheet_25 rfl (lv_at hl 0 rfl) ?_
        refine lv_ldc (v := (-1000003)) hx hb hown (hts _ kX7_sheet_3) dX7_sheet_26 ?_
        refine yk_i [0] (va_runV (As := [.int (-1000003)]) (rest := []) ⟨hx, hb, hml, hown, hts⟩ (c_X7_finding l D cy ta a_flow a_draft a_fence a_past a_slots a_slotKinds ha a_speedX a_speedY a_leftward a_change a_table fi (-1000003) H.size) (cwV 1 hts gX7_sheet_X7_finding rfl rfl rfl hv_X7_finding (yk_room hRf hRl rfl rfl)) (yk_pv (q := (RX7, TX7, 13)) hG hA hS hK hP hD [0] (by decide +kernel) rfl rfl rfl) rfl rfl hl.1 rfl (lv_room (Nat.le_of_ble_eq_true rfl)) dX7_sheet_28 ⟨Nat.zero_le _, Nat.zero_le _⟩) hP hD hS hA rfl (Eq.trans (b := [ta]) rfl rfl) (fun H locs hP9 hD9 hS9 => ?_)
        replace hP : va_P D vwCl [(ta, .inr (7, [.ref a_flow, .ref a_draft, .ref a_fence, .ref a_past, .ref a_slots, .ref a_slotKinds, .ref ha, .ref a_speedX, .ref a_speedY, .ref a_leftward, .ref a_change, .ref a_table, .int ((f_X7_finding fi (-1000003)).2)])), (ha, .inl (cy 4, 4, .inr (.inr (.inr (.inr rf))))), (hx0, .inr (5, [.ref hx0n, .int b0, .int (nI n0)])), (hx0n, .inl (cy 0, 16, .inl h0))] H := hP9
        replace hD : va_D A [(ta, .inr (7, [.ref a_flow, .ref a_draft, .ref a_fence, .ref a_past, .ref a_slots, .ref a_slotKinds, .ref ha, .ref a_speedX, .ref a_speedY, .ref a_leftward, .ref a_change, .ref a_table, .int ((f_X7_finding fi (-1000003)).2)])), (ha, .inl (cy 4, 4, .inr (.inr (.inr (.inr rf))))), (hx0, .inr (5, [.ref hx0n, .int b0, .int (nI n0)])), (hx0n, .inl (cy 0, 16, .inl h0))] := hD9
        replace hS := hS9
        clear hP9 hD9 hS9
        have hF : f_X7_sheet h0 b0 n0 fi px pb pn = (((f_X7_finding fi (-1000003)).1), ((f_X7_finding fi (-1000003)).2), b0, n0, h0) := hF
        have hf0 := yk_fst hF
        have hg0 := yk_snd hF
        have hf1 := yk_fst hg0
        have hg1 := yk_snd hg0
        have hf2 := yk_fst hg1
        have hg2 := yk_snd hg1
        have hf3 := yk_fst hg2
        have hg3 := yk_snd hg2
        rw [hf0, hf1, hf2, hf3, hg3] at hQ
        exact hQ _ _ _ _ dX7_sheet_31 hP hS
    · replace hF := hF.trans (if_pos hc2)
      refine lv_aload_n hx hb dX7_sheet_14 rfl (lv_at hl 0 rfl) ?_
      refine lv_ldc (v := (-1000001)) hx hb hown (hts _ kX7_sheet_0) dX7_sheet_15 ?_
      refine yk_i [0] (va_runV (As := [.int (-1000001)]) (rest := []) ⟨hx, hb, hml, hown, hts⟩ (c_X7_finding l D cy ta a_flow a_draft a_fence a_past a_slots a_slotKinds ha a_speedX a_speedY a_leftward a_change a_table fi (-1000001) H.size) (cwV 1 hts gX7_sheet_X7_finding rfl rfl rfl hv_X7_finding (yk_room hRf hRl rfl rfl)) (yk_pv (q := (RX7, TX7, 13)) hG hA hS hK hP hD [0] (by decide +kernel) rfl rfl rfl) rfl rfl hl.1 rfl (lv_room (Nat.le_of_ble_eq_true rfl)) dX7_sheet_17 ⟨Nat.zero_le _, Nat.zero_le _⟩) hP hD hS hA rfl (Eq.trans (b := [ta]) rfl rfl) (fun H locs hP9 hD9 hS9 => ?_)
      replace hP : va_P D vwCl [(ta, .inr (7, [.ref a_flow, .ref a_draft, .ref a_fence, .ref a_past, .ref a_slots, .ref a_slotKinds, .ref ha, .ref a_speedX, .ref a_speedY, .ref a_leftward, .ref a_change, .ref a_table, .int ((f_X7_finding fi (-1000001)).2)])), (ha, .inl (cy 4, 4, .inr (.inr (.inr (.inr rf))))), (hx0, .inr (5, [.ref hx0n, .int b0, .int (nI n0)])), (hx0n, .inl (cy 0, 16, .inl h0))] H := hP9
      replace hD : va_D A [(ta, .inr (7, [.ref a_flow, .ref a_draft, .ref a_fence, .ref a_past, .ref a_slots, .ref a_slotKinds, .ref ha, .ref a_speedX, .ref a_speedY, .ref a_leftward, .ref a_change, .ref a_table, .int ((f_X7_finding fi (-1000001)).2)])), (ha, .inl (cy 4, 4, .inr (.inr (.inr (.inr rf))))), (hx0, .inr (5, [.ref hx0n, .int b0, .int (nI n0)])), (hx0n, .inl (cy 0, 16, .inl h0))] := hD9
      replace hS := hS9
      clear hP9 hD9 hS9
      have hF : f_X7_sheet h0 b0 n0 fi px pb pn = (((f_X7_finding fi (-1000001)).1), ((f_X7_finding fi (-1000001)).2), b0, n0, h0) := hF
      have hf0 := yk_fst hF
      have hg0 := yk_snd hF
      have hf1 := yk_fst hg0
      have hg1 := yk_snd hg0
      have hf2 := yk_fst hg1
      have hg2 := yk_snd hg1
      have hf3 := yk_fst hg2
      have hg3 := yk_snd hg2
      rw [hf0, hf1, hf2, hf3, hg3] at hQ
      exact hQ _ _ _ _ dX7_sheet_20 hP hS
