theorem hv_X5_isMissing : yX5_isMissing.cls = RX5 ∧ yX5_isMissing.cls ≠ "java/lang/invoke/MethodHandle" ∧ yX5_isMissing.cls ≠ "java/lang/invoke/VarHandle" ∧ (parseMethodDescriptor yX5_isMissing.desc).map (fun d => d.parameters.length) = some 0 := by decide +kernel
theorem hs_X5_isMissing : yX5_isMissing.cls ≠ "java/lang/invoke/MethodHandle" ∧ yX5_isMissing.cls ≠ "java/lang/invoke/VarHandle" ∧ (parseMethodDescriptor yX5_isMissing.desc).map (fun d => d.parameters.length) = some 0 := by decide +kernel
theorem hv_X5_lowestBits : yX5_lowestBits.cls = RX5 ∧ yX5_lowestBits.cls ≠ "java/lang/invoke/MethodHandle" ∧ yX5_lowestBits.cls ≠ "java/lang/invoke/VarHandle" ∧ (parseMethodDescriptor yX5_lowestBits.desc).map (fun d => d.parameters.length) = some 1 := by decide +kernel
theorem hs_X5_lowestBits : yX5_lowestBits.cls ≠ "java/lang/invoke/MethodHandle" ∧ yX5_lowestBits.cls ≠ "java/lang/invoke/VarHandle" ∧ (parseMethodDescriptor yX5_lowestBits.desc).map (fun d => d.parameters.length) = some 1 := by decide +kernel
theorem kX7_write_0 : Cond.fieldLink RX7 43 "FlowPlane" "sheets" "[LFlowPlane$Sheet;" ∈ wsX7_write := by decide +kernel
theorem kX7_write_1 : Cond.constant RX7 83 (-1000001) ∈ wsX7_write := by decide +kernel
theorem kX7_write_2 : Cond.fieldLink RX7 269 "FlowPlane$Sheet" "size" "I" ∈ wsX7_write := by decide +kernel
theorem kX7_write_3 : Cond.fieldLink RX7 276 "FlowPlane$Sheet" "numbers" "[I" ∈ wsX7_write := by decide +kernel
theorem kX7_write_4 : Cond.constant RX7 275 (-1000002) ∈ wsX7_write := by decide +kernel
theorem uX7_write_X7 : ∀ w ∈ u_ws RX7 TX7 13, w ∈ wsX7_write := by decide +kernel
theorem uX7_write_X5 : ∀ w ∈ u_ws RX5 TX5 3, w ∈ wsX7_write := by decide +kernel
def f_X7_write (h0 : Nat → Int32) (b0 : Int32) (n0 : Nat) (fi : Int32) (px : Int32) (pm : Int32) (pv : Int32) : Int32 × Int32 × (Nat → Int32) := (if (f_X7_isSheet px) = 0 then (((f_X7_finding fi (-1000001)).1), ((f_X7_finding fi (-1000001)).2), h0) else (if (f_X5_isMissing b0) = 0 then (if pm < 0 then (((f_X7_finding fi (-1000001)).1), ((f_X7_finding fi (-1000001)).2), h0) else (if pm < (nI n0) then (0, fi, (upd h0 pm.toNatClampNeg (f_X5_lowestBits b0 pv))) else (((f_X7_finding fi (-1000001)).1), ((f_X7_finding fi (-1000001)).2), h0))) else (((f_X7_finding fi (-1000002)).1), ((f_X7_finding fi (-1000002)).2), h0)))
set_option maxHeartbeats 400000000 in
set_option maxRecDepth 100000 in
theorem c_X7_write (l : Launch) (D : va_G) (cy : Nat → ClassId) (ta : Nat) (ha : Nat) (hx0 : Nat) (hx0n : Nat) (a_flow : Nat) (a_draft : Nat) (a_fence : Nat) (a_past : Nat) (a_slots : Nat) (a_slotKinds : Nat) (a_speedX : Nat) (a_speedY : Nat) (a_leftward : Nat) (a_change : Nat) (a_table : Nat) (rf : Nat → Option Nat) (h0 : Nat → Int32) (b0 : Int32) (n0 : Nat) (fi : Int32) (px : Int32) (pm : Int32) (pv : Int32) (hn0 : n0 ≤ 16) (hrf : ¬ f_X7_isSheet px = 0 → rf px.toNatClampNeg = some hx0) : yk_Ci l D vwCl (yk_ty cy) yX7_write wsX7_write 1 21 [.ref ta, .int px, .int pm, .int pv] [(ta, .inr (7, [.ref a_flow, .ref a_draft, .ref a_fence, .ref a_past, .ref a_slots, .ref a_slotKinds, .ref ha, .ref a_speedX, .ref a_speedY, .ref a_leftward, .ref a_change, .ref a_table, .int fi])), (ha, .inl (cy 4, 4, .inr (.inr (.inr (.inr rf))))), (hx0, .inr (5, [.ref hx0n, .int b0, .int (nI n0)])), (hx0n, .inl (cy 0, 16, .inl h0))] ((f_X7_write h0 b0 n0 fi px pm pv).1) [(ta, .inr (7, [.ref a_flow, .ref a_draft, .ref a_fence, .ref a_past, .ref a_slots, .ref a_slotKinds, .ref ha, .ref a_speedX, .ref a_speedY, .ref a_leftward, .ref a_change, .ref a_table, .int ((f_X7_write h0 b0 n0 fi px pm pv).2.1)])), (ha, .inl (cy 4, 4, .inr (.inr (.inr (.inr rf))))), (hx0, .inr (5, [.ref hx0n, .int b0, .int (nI n0)])), (hx0n, .inl (cy 0, 16, .inl ((f_X7_write h0 b0 n0 fi px pm pv).2.2)))] := by
  refine yk_eI (cc := cX7_write) (maxL := 5) (by decide) rfl (Nat.le_of_ble_eq_true rfl) rfl ?_
  intro p e R s m args below meth c A Q ls H locs hx hb hml hown hts hRf hRl hA hK hG hP hD hS hl hQ
  have hP : va_P D vwCl [(ta, .inr (7, [.ref a_flow, .ref a_draft, .ref a_fence, .ref a_past, .ref a_slots, .ref a_slotKinds, .ref ha, .ref a_speedX, .ref a_speedY, .ref a_leftward, .ref a_change, .ref a_table, .int fi])), (ha, .inl (cy 4, 4, .inr (.inr (.inr (.inr rf))))), (hx0, .inr (5, [.ref hx0n, .int b0, .int (nI n0)])), (hx0n, .inl (cy 0, 16, .inl h0))] H := hP
  have hl : lv_has ls 5 [(0, .ref ta), (1, .int px), (2, .int pm), (3, .int pv)] := hl
  have hown : s.vm.findClass RX7 = some m.cls := hown
  have hF : (f_X7_write h0 b0 n0 fi px pm pv) = (f_X7_write h0 b0 n0 fi px pm pv) := rfl
  refine lv_iload_n hx hb dX7_write_0 rfl (lv_at hl 1 rfl) ?_
  refine yk_i [] (va_runS (As := [.int px]) (rest := []) ⟨hx, hb, hml, hown, hts⟩ (c_X7_isSheet l D cy px H.size) (va_cwS 1 hts gX7_write_X7_isSheet rfl rfl rfl hs_X7_isSheet (yk_room hRf hRl rfl rfl)) (yk_ps hG hA hS hK hP hD [] (by decide +kernel) rfl) rfl rfl hl.1 rfl (lv_room (Nat.le_of_ble_eq_true rfl)) dX7_write_1 ⟨Nat.zero_le _, Nat.zero_le _⟩) hP hD hS hA rfl rfl (fun H locs hP9 hD9 hS9 => ?_)
  replace hP : va_P D vwCl [(ta, .inr (7, [.ref a_flow, .ref a_draft, .ref a_fence, .ref a_past, .ref a_slots, .ref a_slotKinds, .ref ha, .ref a_speedX, .ref a_speedY, .ref a_leftward, .ref a_change, .ref a_table, .int fi])), (ha, .inl (cy 4, 4, .inr (.inr (.inr (.inr rf))))), (hx0, .inr (5, [.ref hx0n, .int b0, .int (nI n0)])), (hx0n, .inl (cy 0, 16, .inl h0))] H := hP9
  replace hD : va_D A [(ta, .inr (7, [.ref a_flow, .ref a_draft, .ref a_fence, .ref a_past, .ref a_slots, .ref a_slotKinds, .ref ha, .ref a_speedX, .ref a_speedY, .ref a_leftward, .ref a_change, .ref a_table, .int fi])), (ha, .inl (cy 4, 4, .inr (.inr (.inr (.inr rf))))), (hx0, .inr (5, [.ref hx0n, .int b0, .int (nI n0)])), (hx0n, .inl (cy 0, 16, .inl h0))] := hD9
  replace hS := hS9
  clear hP9 hD9 hS9
  refine lv_if_ne (tgt := 14) hx hb dX7_write_4 (by decide) (fun hc1 => ?_) (fun hc1 => ?_)
  · replace hF := hF.trans (if_neg hc1)
    have hq2 : px = nI px.toNatClampNeg := (ix_sheet (by assumption)).1
    have hq2b : px.toNatClampNeg < 4 := (ix_sheet (by assumption)).2
    rw [hq2] at hl
    refine lv_aload_n hx hb dX7_write_14 rfl (lv_at hl 0 rfl) ?_
    refine va_get (D := D) (ci := 7) (v := .ref ha) (C := RX7) (T := TX7) (N := 13) hx hb hts uX7_write_X7 hown hK hP 0 rfl rfl 6 (by decide) (hts _ kX7_write_0) (fun _ h9 => h9) rfl dX7_write_15 ?_
    refine lv_iload_n hx hb dX7_write_18 rfl (lv_at hl 1 rfl) ?_
    refine yk_aldq hx hb hK hP 1 4 rfl rfl px.toNatClampNeg (ix_sheet (by assumption)).2 (by decide) (hrf (by assumption)) dX7_write_19 ?_
    refine lv_astore (lv' := [(4, .ref hx0), (0, .ref ta), (1, .int (nI px.toNatClampNeg)), (2, .int pm), (3, .int pv)]) hx hb dX7_write_20 hl (by decide) rfl (fun ls hl9 => ?_)
    replace hl := hl9
    clear hl9
    refine lv_aload hx hb dX7_write_22 (lv_at hl 0 rfl) ?_
    refine yk_i [2, 3] (va_runV (As := []) (rest := []) ⟨hx, hb, hml, hown, hts⟩ (c_X5_isMissing l D cy hx0 hx0n h0 b0 n0 H.size) (cwV 0 hts gX7_write_X5_isMissing rfl rfl rfl hv_X5_isMissing (yk_room hRf hRl rfl rfl)) (yk_pv (q := (RX5, TX5, 3)) hG hA hS hK hP hD [2, 3] (by decide +kernel) rfl rfl rfl) rfl rfl hl.1 rfl (lv_room (Nat.le_of_ble_eq_true rfl)) dX7_write_24 ⟨Nat.zero_le _, Nat.zero_le _⟩) hP hD hS hA rfl (Eq.trans (b := [hx0, hx0n]) rfl rfl) (fun H locs hP9 hD9 hS9 => ?_)
    replace hP : va_P D vwCl [(ta, .inr (7, [.ref a_flow, .ref a_draft, .ref a_fence, .ref a_past, .ref a_slots, .ref a_slotKinds, .ref ha, .ref a_speedX, .ref a_speedY, .ref a_leftward, .ref a_change, .ref a_table, .int fi])), (ha, .inl (cy 4, 4, .inr (.inr (.inr (.inr rf))))), (hx0, .inr (5, [.ref hx0n, .int b0, .int (nI n0)])), (hx0n, .inl (cy 0, 16, .inl h0))] H := hP9
    replace hD : va_D A [(ta, .inr (7, [.ref a_flow, .ref a_draft, .ref a_fence, .ref a_past, .ref a_slots, .ref a_slotKinds, .ref ha, .ref a_speedX, .ref a_speedY, .ref a_leftward, .ref a_change, .ref a_table, .int fi])), (ha, .inl (cy 4, 4, .inr (.inr (.inr (.inr rf))))), (hx0, .inr (5, [.ref hx0n, .int b0, .int (nI n0)])), (hx0n, .inl (cy 0, 16, .inl h0))] := hD9
    replace hS := hS9
    clear hP9 hD9 hS9
    refine lv_if_eq (tgt := 38) hx hb dX7_write_27 (by decide) (fun hc3 => ?_) (fun hc3 => ?_)
    · replace hF := hF.trans (if_pos hc3)
      refine lv_iload_n hx hb dX7_write_38 rfl (lv_at hl 3 rfl) ?_
      refine lv_if_lt (tgt := 51) hx hb dX7_write_39 (by decide) (fun hc4 => ?_) (fun hc4 => ?_)
      · replace hF := hF.trans (if_pos hc4)
        refine lv_aload_n hx hb dX7_write_51 rfl (lv_at hl 1 rfl) ?_
        refine lv_ldc (v := (-1000001)) hx hb hown (hts _ kX7_write_1) dX7_write_52 ?_
        refine yk_i [0] (va_runV (As := [.int (-1000001)]) (rest := []) ⟨hx, hb, hml, hown, hts⟩ (c_X7_finding l D cy ta a_flow a_draft a_fence a_past a_slots a_slotKinds ha a_speedX a_speedY a_leftward a_change a_table fi (-1000001) H.size) (cwV 1 hts gX7_write_X7_finding rfl rfl rfl hv_X7_finding (yk_room hRf hRl rfl rfl)) (yk_pv (q := (RX7, TX7, 13)) hG hA hS hK hP hD [0] (by decide +kernel) rfl rfl rfl) rfl rfl hl.1 rfl (lv_room (Nat.le_of_ble_eq_true rfl)) dX7_write_54 ⟨Nat.zero_le _, Nat.zero_le _⟩) hP hD hS hA rfl (Eq.trans (b := [ta]) rfl rfl) (fun H locs hP9 hD9 hS9 => ?_)
        replace hP : va_P D vwCl [(ta, .inr (7, [.ref a_flow, .ref a_draft, .ref a_fence, .ref a_past, .ref a_slots, .ref a_slotKinds, .ref ha, .ref a_speedX, .ref a_speedY, .ref a_leftward, .ref a_change, .ref a_table, .int ((f_X7_finding fi (-1000001)).2)])), (ha, .inl (cy 4, 4, .inr (.inr (.inr (.inr rf))))), (hx0, .inr (5, [.ref hx0n, .int b0, .int (nI n0)])), (hx0n, .inl (cy 0, 16, .inl h0))] H := hP9
        replace hD : va_D A [(ta, .inr (7, [.ref a_flow, .ref a_draft, .ref a_fence, .ref a_past, .ref a_slots, .ref a_slotKinds, .ref ha, .ref a_speedX, .ref a_speedY, .ref a_leftward, .ref a_change, .ref a_table, .int ((f_X7_finding fi (-1000001)).2)])), (ha, .inl (cy 4, 4, .inr (.inr (.inr (.inr rf))))), (hx0, .inr (5, [.ref hx0n, .int b0, .int (nI n0)])), (hx0n, .inl (cy 0, 16, .inl h0))] := hD9
        replace hS := hS9
        clear hP9 hD9 hS9
        have hF : f_X7_write h0 b0 n0 fi px pm pv = (((f_X7_finding fi (-1000001)).1), ((f_X7_finding fi (-1000001)).2), h0) := hF
        have hf0 := yk_fst hF
        have hg0 := yk_snd hF
        have hf1 := yk_fst hg0
        have hg1 := yk_snd hg0
        rw [hf0, hf1, hg1] at hQ
        exact hQ _ _ _ _ dX7_write_57 hP hS
      · replace hF := hF.trans (if_neg hc4)
        refine lv_iload_n hx hb dX7_write_42 rfl (lv_at hl 3 rfl) ?_
        refine lv_aload hx hb dX7_write_43 (lv_at hl 0 rfl) ?_
        refine va_get (D := D) (ci := 5) (v := .int (nI n0)) (C := RX5) (T := TX5) (N := 3) hx hb hts uX7_write_X5 hown hK hP 2 rfl rfl 2 (by decide) (hts _ kX7_write_2) (fun _ h9 => h9) rfl dX7_write_45 ?_
        refine lv_icmp_lt (tgt := 58) hx hb dX7_write_48 (by decide) (fun hc5 => ?_) (fun hc5 => ?_)
        · replace hF := hF.trans (if_pos hc5)
          have hq8 : pm = nI pm.toNatClampNeg ∧ pm.toNatClampNeg < n0 := yk_ix (by omega) (by assumption) (Int32.not_le.mpr (by assumption))
          have hq6 : pm = nI pm.toNatClampNeg := hq8.1
          have hq6b : pm.toNatClampNeg < n0 := hq8.2
          rw [hq6] at hl
          refine lv_aload hx hb dX7_write_58 (lv_at hl 0 rfl) ?_
          refine va_get (D := D) (ci := 5) (v := .ref hx0n) (C := RX5) (T := TX5) (N := 3) hx hb hts uX7_write_X5 hown hK hP 2 rfl rfl 0 (by decide) (hts _ kX7_write_3) (fun _ h9 => h9) rfl dX7_write_60 ?_
          refine lv_iload_n hx hb dX7_write_63 rfl (lv_at hl 3 rfl) ?_
          refine lv_aload hx hb dX7_write_64 (lv_at hl 0 rfl) ?_
          refine lv_iload_n hx hb dX7_write_66 rfl (lv_at hl 4 rfl) ?_
          refine yk_i [2, 3] (va_runV (As := [.int pv]) (rest := [.int (nI pm.toNatClampNeg), .ref hx0n]) ⟨hx, hb, hml, hown, hts⟩ (c_X5_lowestBits l D cy hx0 hx0n h0 b0 n0 pv H.size) (cwV 1 hts gX7_write_X5_lowestBits rfl rfl rfl hv_X5_lowestBits (yk_room hRf hRl rfl rfl)) (yk_pv (q := (RX5, TX5, 3)) hG hA hS hK hP hD [2, 3] (by decide +kernel) rfl rfl rfl) rfl rfl hl.1 rfl (lv_room (Nat.le_of_ble_eq_true rfl)) dX7_write_67 ⟨Nat.zero_le _, Nat.zero_le _⟩) hP hD hS hA rfl (Eq.trans (b := [hx0, hx0n]) rfl rfl) (fun H locs hP9 hD9 hS9 => ?_)
          replace hP : va_P D vwCl [(ta, .inr (7, [.ref a_flow, .ref a_draft, .ref a_fence, .ref a_past, .ref a_slots, .ref a_slotKinds, .ref ha, .ref a_speedX, .ref a_speedY, .ref a_leftward, .ref a_change, .ref a_table, .int fi])), (ha, .inl (cy 4, 4, .inr (.inr (.inr (.inr rf))))), (hx0, .inr (5, [.ref hx0n, .int b0, .int (nI n0)])), (hx0n, .inl (cy 0, 16, .inl h0))] H := hP9
          replace hD : va_D A [(ta, .inr (7, [.ref a_flow, .ref a_draft, .ref a_fence, .ref a_past, .ref a_slots, .ref a_slotKinds, .ref ha, .ref a_speedX, .ref a_speedY, .ref a_leftward, .ref a_change, .ref a_table, .int fi])), (ha, .inl (cy 4, 4, .inr (.inr (.inr (.inr rf))))), (hx0, .inr (5, [.ref hx0n, .int b0, .int (nI n0)])), (hx0n, .inl (cy 0, 16, .inl h0))] := hD9
          replace hS := hS9
          clear hP9 hD9 hS9
          refine yk_ist hx hb hK hP hD hS 3 0 rfl rfl pm.toNatClampNeg (by omega) (by decide) dX7_write_70 (fun H locs hP9 hD9 hS9 => ?_)
          replace hP : va_P D vwCl [(ta, .inr (7, [.ref a_flow, .ref a_draft, .ref a_fence, .ref a_past, .ref a_slots, .ref a_slotKinds, .ref ha, .ref a_speedX, .ref a_speedY, .ref a_leftward, .ref a_change, .ref a_table, .int fi])), (ha, .inl (cy 4, 4, .inr (.inr (.inr (.inr rf))))), (hx0, .inr (5, [.ref hx0n, .int b0, .int (nI n0)])), (hx0n, .inl (cy 0, 16, .inl (upd h0 pm.toNatClampNeg (f_X5_lowestBits b0 pv))))] H := hP9
          replace hD : va_D A [(ta, .inr (7, [.ref a_flow, .ref a_draft, .ref a_fence, .ref a_past, .ref a_slots, .ref a_slotKinds, .ref ha, .ref a_speedX, .ref a_speedY, .ref a_leftward, .ref a_change, .ref a_table, .int fi])), (ha, .inl (cy 4, 4, .inr (.inr (.inr (.inr rf))))), (hx0, .inr (5, [.ref hx0n, .int b0, .int (nI n0)])), (hx0n, .inl (cy 0, 16, .inl (upd h0 pm.toNatClampNeg (f_X5_lowestBits b0 pv))))] := hD9
          replace hS := hS9
          clear hP9 hD9 hS9
          refine lv_iconst (v := 0) hx hb dX7_write_71 (by decide) ?_
          have hF : f_X7_write h0 b0 n0 fi px pm pv = (0, fi, (upd h0 pm.toNatClampNeg (f_X5_lowestBits b0 pv))) := hF
          have hf0 := yk_fst hF
          have hg0 := yk_snd hF
          have hf1 := yk_fst hg0
          have hg1 := yk_snd hg0
          rw [hf0, hf1, hg1] at hQ
          exact hQ _ _ _ _ dX7_write_72 hP hS
        · replace hF := hF.trans (if_neg hc5)
          refine lv_aload_n hx hb dX7_write_51 rfl (lv_at hl 1 rfl) ?_
          refine lv_ldc (v := (-1000001)) hx hb hown (hts _ kX7_write_1) dX7_write_52 ?_
          refine yk_i [0] (va_runV (As := [.int (-1000001)]) (rest := []) ⟨hx, hb, hml, hown, hts⟩ (c_X7_finding l D cy ta a_flow a_draft a_fence a_past a_slots a_slotKinds ha a_speedX a_speedY a_leftward a_change a_table fi (-1000001) H.size) (cwV 1 hts gX7_write_X7_finding rfl rfl rfl hv_X7_finding (yk_room hRf hRl rfl rfl)) (yk_pv (q := (RX7, TX7, 13)) hG hA hS hK hP hD [0] (by decide +kernel) rfl rfl rfl) rfl rfl hl.1 rfl (lv_room (Nat.le_of_ble_eq_true rfl)) dX7_write_54 ⟨Nat.zero_le _, Nat.zero_le _⟩) hP hD hS hA rfl (Eq.trans (b := [ta]) rfl rfl) (fun H locs hP9 hD9 hS9 => ?_)
          replace hP : va_P D vwCl [(ta, .inr (7, [.ref a_flow, .ref a_draft, .ref a_fence, .ref a_past, .ref a_slots, .ref a_slotKinds, .ref ha, .ref a_speedX, .ref a_speedY, .ref a_leftward, .ref a_change, .ref a_table, .int ((f_X7_finding fi (-1000001)).2)])), (ha, .inl (cy 4, 4, .inr (.inr (.inr (.inr rf))))), (hx0, .inr (5, [.ref hx0n, .int b0, .int (nI n0)])), (hx0n, .inl (cy 0, 16, .inl h0))] H := hP9
          replace hD : va_D A [(ta, .inr (7, [.ref a_flow, .ref a_draft, .ref a_fence, .ref a_past, .ref a_slots, .ref a_slotKinds, .ref ha, .ref a_speedX, .ref a_speedY, .ref a_leftward, .ref a_change, .ref a_table, .int ((f_X7_finding fi (-1000001)).2)])), (ha, .inl (cy 4, 4, .inr (.inr (.inr (.inr rf))))), (hx0, .inr (5, [.ref hx0n, .int b0, .int (nI n0)])), (hx0n, .inl (cy 0, 16, .inl h0))] := hD9
          replace hS := hS9
          clear hP9 hD9 hS9
          have hF : f_X7_write h0 b0 n0 fi px pm pv = (((f_X7_finding fi (-1000001)).1), ((f_X7_finding fi (-1000001)).2), h0) := hF
          have hf0 := yk_fst hF
          have hg0 := yk_snd hF
          have hf1 := yk_fst hg0
          have hg1 := yk_snd hg0
          rw [hf0, hf1, hg1] at hQ
          exact hQ _ _ _ _ dX7_write_57 hP hS
    · replace hF := hF.trans (if_neg hc3)
      refine lv_aload_n hx hb dX7_write_30 rfl (lv_at hl 1 rfl) ?_
      refine lv_ldcw (v := (-1000002)) hx hb hown (hts _ kX7_write_4) dX7_write_31 ?_
      refine yk_i [0] (va_runV (As := [.int (-1000002)]) (rest := []) ⟨hx, hb, hml, hown, hts⟩ (c_X7_finding l D cy ta a_flow a_draft a_fence a_past a_slots a_slotKinds ha a_speedX a_speedY a_leftward a_change a_table fi (-1000002) H.size) (cwV 1 hts gX7_write_X7_finding rfl rfl rfl hv_X7_finding (yk_room hRf hRl rfl rfl)) (yk_pv (q := (RX7, TX7, 13)) hG hA hS hK hP hD [0] (by decide +kernel) rfl rfl rfl) rfl rfl hl.1 rfl (lv_room (Nat.le_of_ble_eq_true rfl)) dX7_write_34 ⟨Nat.zero_le _, Nat.zero_le _⟩) hP hD hS hA rfl (Eq.trans (b := [ta]) rfl rfl) (fun H locs hP9 hD9 hS9 => ?_)
      replace hP : va_P D vwCl [(ta, .inr (7, [.ref a_flow, .ref a_draft, .ref a_fence, .ref a_past, .ref a_slots, .ref a_slotKinds, .ref ha, .ref a_speedX, .ref a_speedY, .ref a_leftward, .ref a_change, .ref a_table, .int ((f_X7_finding fi (-1000002)).2)])), (ha, .inl (cy 4, 4, .inr (.inr (.inr (.inr rf))))), (hx0, .inr (5, [.ref hx0n, .int b0, .int (nI n0)])), (hx0n, .inl (cy 0, 16, .inl h0))] H := hP9
      replace hD : va_D A [(ta, .inr (7, [.ref a_flow, .ref a_draft, .ref a_fence, .ref a_past, .ref a_slots, .ref a_slotKinds, .ref ha, .ref a_speedX, .ref a_speedY, .ref a_leftward, .ref a_change, .ref a_table, .int ((f_X7_finding fi (-1000002)).2)])), (ha, .inl (cy 4, 4, .inr (.inr (.inr (.inr rf))))), (hx0, .inr (5, [.ref hx0n, .int b0, .int (nI n0)])), (hx0n, .inl (cy 0, 16, .inl h0))] := hD9
      replace hS := hS9
      clear hP9 hD9 hS9
      have hF : f_X7_write h0 b0 n0 fi px pm pv = (((f_X7_finding fi (-1000002)).1), ((f_X7_finding fi (-1000002)).2), h0) := hF
      have hf0 := yk_fst hF
      have hg0 := yk_snd hF
      have hf1 := yk_fst hg0
      have hg1 := yk_snd hg0
      rw [hf0, hf1, hg1] at hQ
      exact hQ _ _ _ _ dX7_write_37 hP hS
  · replace hF := hF.trans (if_pos hc1)
    refine lv_aload_n hx hb dX7_write_7 rfl (lv_at hl 0 rfl) ?_
    refine lv_ldc (v := (-1000001)) hx hb hown (hts _ kX7_write_1) dX7_write_8 ?_
    refine yk_i [0] (va_runV (As := [.int (-1000001)]) (rest := []) ⟨hx, hb, hml, hown, hts⟩ (c_X7_finding l D cy ta a_flow a_draft a_fence a_past a_slots a_slotKinds ha a_speedX a_speedY a_leftward a_change a_table fi (-1000001) H.size) (cwV 1 hts gX7_write_X7_finding rfl rfl rfl hv_X7_finding (yk_room hRf hRl rfl rfl)) (yk_pv (q := (RX7, TX7, 13)) hG hA hS hK hP hD [0] (by decide +kernel) rfl rfl rfl) rfl rfl hl.1 rfl (lv_room (Nat.le_of_ble_eq_true rfl)) dX7_write_10 ⟨Nat.zero_le _, Nat.zero_le _⟩) hP hD hS hA rfl (Eq.trans (b := [ta]) rfl rfl) (fun H locs hP9 hD9 hS9 => ?_)
    replace hP : va_P D vwCl [(ta, .inr (7, [.ref a_flow, .ref a_draft, .ref a_fence, .ref a_past, .ref a_slots, .ref a_slotKinds, .ref ha, .ref a_speedX, .ref a_speedY, .ref a_leftward, .ref a_change, .ref a_table, .int ((f_X7_finding fi (-1000001)).2)])), (ha, .inl (cy 4, 4, .inr (.inr (.inr (.inr rf))))), (hx0, .inr (5, [.ref hx0n, .int b0, .int (nI n0)])), (hx0n, .inl (cy 0, 16, .inl h0))] H := hP9
    replace hD : va_D A [(ta, .inr (7, [.ref a_flow, .ref a_draft, .ref a_fence, .ref a_past, .ref a_slots, .ref a_slotKinds, .ref ha, .ref a_speedX, .ref a_speedY, .ref a_leftward, .ref a_change, .ref a_table, .int ((f_X7_finding fi (-1000001)).2)])), (ha, .inl (cy 4, 4, .inr (.inr (.inr (.inr rf))))), (hx0, .inr (5, [.ref hx0n, .int b0, .int (nI n0)])), (hx0n, .inl (cy 0, 16, .inl h0))] := hD9
    replace hS := hS9
    clear hP9 hD9 hS9
    have hF : f_X7_write h0 b0 n0 fi px pm pv = (((f_X7_finding fi (-1000001)).1), ((f_X7_finding fi (-1000001)).2), h0) := hF
    have hf0 := yk_fst hF
    have hg0 := yk_snd hF
    have hf1 := yk_fst hg0
    have hg1 := yk_snd hg0
    rw [hf0, hf1, hg1] at hQ
    exact hQ _ _ _ _ dX7_write_13 hP hS
