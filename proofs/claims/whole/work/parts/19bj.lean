theorem hv_X5_hasRange : yX5_hasRange.cls = RX5 ∧ yX5_hasRange.cls ≠ "java/lang/invoke/MethodHandle" ∧ yX5_hasRange.cls ≠ "java/lang/invoke/VarHandle" ∧ (parseMethodDescriptor yX5_hasRange.desc).map (fun d => d.parameters.length) = some 2 := by decide +kernel
theorem hs_X5_hasRange : yX5_hasRange.cls ≠ "java/lang/invoke/MethodHandle" ∧ yX5_hasRange.cls ≠ "java/lang/invoke/VarHandle" ∧ (parseMethodDescriptor yX5_hasRange.desc).map (fun d => d.parameters.length) = some 2 := by decide +kernel
theorem kX7_copy_0 : Cond.constant RX7 83 (-1000001) ∈ wsX7_copy := by decide +kernel
theorem kX7_copy_1 : Cond.fieldLink RX7 43 "FlowPlane" "sheets" "[LFlowPlane$Sheet;" ∈ wsX7_copy := by decide +kernel
theorem kX7_copy_2 : Cond.constant RX7 275 (-1000002) ∈ wsX7_copy := by decide +kernel
theorem kX7_copy_3 : Cond.fieldLink RX7 280 "FlowPlane$Sheet" "bits" "I" ∈ wsX7_copy := by decide +kernel
theorem kX7_copy_4 : Cond.fieldLink RX7 276 "FlowPlane$Sheet" "numbers" "[I" ∈ wsX7_copy := by decide +kernel
theorem kX7_copy_5 : Cond.methodLink RX7 286 arraycopyName ∈ wsX7_copy := by decide +kernel
theorem kX7_copy_6 : Cond.native arraycopyName ∈ wsX7_copy := by decide +kernel
theorem kX7_copy_7 : Cond.static arraycopyName ∈ wsX7_copy := by decide +kernel
theorem kX7_copy_8 : Cond.initialized "java/lang/System" ∈ wsX7_copy := by decide +kernel
theorem kX7_copy_9 : Cond.constant RX7 182 (-1000004) ∈ wsX7_copy := by decide +kernel
theorem uX7_copy_X7 : ∀ w ∈ u_ws RX7 TX7 13, w ∈ wsX7_copy := by decide +kernel
theorem uX7_copy_X5 : ∀ w ∈ u_ws RX5 TX5 3, w ∈ wsX7_copy := by decide +kernel
def f_X7_copy (h0 : Nat → Int32) (b0 : Int32) (n0 : Nat) (h1 : Nat → Int32) (b1 : Int32) (n1 : Nat) (fi : Int32) (px : Int32) (pf : Int32) (py : Int32) (po : Int32) (pn : Int32) : Int32 × Int32 × (Nat → Int32) := (if (f_X7_isSheet px) = 0 then (((f_X7_finding fi (-1000001)).1), ((f_X7_finding fi (-1000001)).2), h1) else (if (f_X7_isSheet py) = 0 then (((f_X7_finding fi (-1000001)).1), ((f_X7_finding fi (-1000001)).2), h1) else (if (f_X5_isMissing b0) = 0 then (if (f_X5_isMissing b1) = 0 then (if b0 = b1 then (if (f_X5_hasRange n0 pf pn) = 0 then (((f_X7_finding fi (-1000001)).1), ((f_X7_finding fi (-1000001)).2), h1) else (if (f_X5_hasRange n1 po pn) = 0 then (((f_X7_finding fi (-1000001)).1), ((f_X7_finding fi (-1000001)).2), h1) else ((nI pn.toNatClampNeg), fi, (va_cpy h0 h1 pf.toNatClampNeg po.toNatClampNeg pn.toNatClampNeg)))) else (((f_X7_finding fi (-1000004)).1), ((f_X7_finding fi (-1000004)).2), h1)) else (((f_X7_finding fi (-1000002)).1), ((f_X7_finding fi (-1000002)).2), h1)) else (((f_X7_finding fi (-1000002)).1), ((f_X7_finding fi (-1000002)).2), h1))))
set_option maxHeartbeats 400000000 in
set_option maxRecDepth 100000 in
theorem c_X7_copy (l : Launch) (D : va_G) (cy : Nat → ClassId) (ta : Nat) (ha : Nat) (hx0 : Nat) (hx0n : Nat) (hx1 : Nat) (hx1n : Nat) (a_flow : Nat) (a_draft : Nat) (a_fence : Nat) (a_past : Nat) (a_slots : Nat) (a_slotKinds : Nat) (a_speedX : Nat) (a_speedY : Nat) (a_leftward : Nat) (a_change : Nat) (a_table : Nat) (rf : Nat → Option Nat) (h0 : Nat → Int32) (b0 : Int32) (n0 : Nat) (h1 : Nat → Int32) (b1 : Int32) (n1 : Nat) (fi : Int32) (px : Int32) (pf : Int32) (py : Int32) (po : Int32) (pn : Int32) (hn0 : n0 ≤ 16) (hrf : ¬ f_X7_isSheet px = 0 → rf px.toNatClampNeg = some hx0) (hn1 : n1 ≤ 16) (hrg : ¬ f_X7_isSheet py = 0 → rf py.toNatClampNeg = some hx1) : yk_Ci l D vwCl (yk_ty cy) yX7_copy wsX7_copy 1 22 [.ref ta, .int px, .int pf, .int py, .int po, .int pn] [(ta, .inr (7, [.ref a_flow, .ref a_draft, .ref a_fence, .ref a_past, .ref a_slots, .ref a_slotKinds, .ref ha, .ref a_speedX, .ref a_speedY, .ref a_leftward, .ref a_change, .ref a_table, .int fi])), (ha, .inl (cy 4, 4, .inr (.inr (.inr (.inr rf))))), (hx0, .inr (5, [.ref hx0n, .int b0, .int (nI n0)])), (hx0n, .inl (cy 0, 16, .inl h0)), (hx1, .inr (5, [.ref hx1n, .int b1, .int (nI n1)])), (hx1n, .inl (cy 0, 16, .inl h1))] ((f_X7_copy h0 b0 n0 h1 b1 n1 fi px pf py po pn).1) [(ta, .inr (7, [.ref a_flow, .ref a_draft, .ref a_fence, .ref a_past, .ref a_slots, .ref a_slotKinds, .ref ha, .ref a_speedX, .ref a_speedY, .ref a_leftward, .ref a_change, .ref a_table, .int ((f_X7_copy h0 b0 n0 h1 b1 n1 fi px pf py po pn).2.1)])), (ha, .inl (cy 4, 4, .inr (.inr (.inr (.inr rf))))), (hx0, .inr (5, [.ref hx0n, .int b0, .int (nI n0)])), (hx0n, .inl (cy 0, 16, .inl h0)), (hx1, .inr (5, [.ref hx1n, .int b1, .int (nI n1)])), (hx1n, .inl (cy 0, 16, .inl ((f_X7_copy h0 b0 n0 h1 b1 n1 fi px pf py po pn).2.2)))] := by
  refine yk_eI (cc := cX7_copy) (maxL := 8) (by decide) rfl (Nat.le_of_ble_eq_true rfl) rfl ?_
  intro p e R s m args below meth c A Q ls H locs hx hb hml hown hts hRf hRl hA hK hG hP hD hS hl hQ
  have hP : va_P D vwCl [(ta, .inr (7, [.ref a_flow, .ref a_draft, .ref a_fence, .ref a_past, .ref a_slots, .ref a_slotKinds, .ref ha, .ref a_speedX, .ref a_speedY, .ref a_leftward, .ref a_change, .ref a_table, .int fi])), (ha, .inl (cy 4, 4, .inr (.inr (.inr (.inr rf))))), (hx0, .inr (5, [.ref hx0n, .int b0, .int (nI n0)])), (hx0n, .inl (cy 0, 16, .inl h0)), (hx1, .inr (5, [.ref hx1n, .int b1, .int (nI n1)])), (hx1n, .inl (cy 0, 16, .inl h1))] H := hP
  have hl : lv_has ls 8 [(0, .ref ta), (1, .int px), (2, .int pf), (3, .int py), (4, .int po), (5, .int pn)] := hl
  have hown : s.vm.findClass RX7 = some m.cls := hown
  have hF : (f_X7_copy h0 b0 n0 h1 b1 n1 fi px pf py po pn) = (f_X7_copy h0 b0 n0 h1 b1 n1 fi px pf py po pn) := rfl
  refine lv_iload_n hx hb dX7_copy_0 rfl (lv_at hl 1 rfl) ?_
  refine yk_i [] (va_runS (As := [.int px]) (rest := []) ⟨hx, hb, hml, hown, hts⟩ (c_X7_isSheet l D cy px H.size) (va_cwS 1 hts gX7_copy_X7_isSheet rfl rfl rfl hs_X7_isSheet (yk_room hRf hRl rfl rfl)) (yk_ps hG hA hS hK hP hD [] (by decide +kernel) rfl) rfl rfl hl.1 rfl (lv_room (Nat.le_of_ble_eq_true rfl)) dX7_copy_1 ⟨Nat.zero_le _, Nat.zero_le _⟩) hP hD hS hA rfl rfl (fun H locs hP9 hD9 hS9 => ?_)
  replace hP : va_P D vwCl [(ta, .inr (7, [.ref a_flow, .ref a_draft, .ref a_fence, .ref a_past, .ref a_slots, .ref a_slotKinds, .ref ha, .ref a_speedX, .ref a_speedY, .ref a_leftward, .ref a_change, .ref a_table, .int fi])), (ha, .inl (cy 4, 4, .inr (.inr (.inr (.inr rf))))), (hx0, .inr (5, [.ref hx0n, .int b0, .int (nI n0)])), (hx0n, .inl (cy 0, 16, .inl h0)), (hx1, .inr (5, [.ref hx1n, .int b1, .int (nI n1)])), (hx1n, .inl (cy 0, 16, .inl h1))] H := hP9
  replace hD : va_D A [(ta, .inr (7, [.ref a_flow, .ref a_draft, .ref a_fence, .ref a_past, .ref a_slots, .ref a_slotKinds, .ref ha, .ref a_speedX, .ref a_speedY, .ref a_leftward, .ref a_change, .ref a_table, .int fi])), (ha, .inl (cy 4, 4, .inr (.inr (.inr (.inr rf))))), (hx0, .inr (5, [.ref hx0n, .int b0, .int (nI n0)])), (hx0n, .inl (cy 0, 16, .inl h0)), (hx1, .inr (5, [.ref hx1n, .int b1, .int (nI n1)])), (hx1n, .inl (cy 0, 16, .inl h1))] := hD9
  replace hS := hS9
  clear hP9 hD9 hS9
  refine lv_if_eq (tgt := 14) hx hb dX7_copy_4 (by decide) (fun hc1 => ?_) (fun hc1 => ?_)
  · replace hF := hF.trans (if_pos hc1)
    refine lv_aload_n hx hb dX7_copy_14 rfl (lv_at hl 0 rfl) ?_
    refine lv_ldc (v := (-1000001)) hx hb hown (hts _ kX7_copy_0) dX7_copy_15 ?_
    refine yk_i [0] (va_runV (As := [.int (-1000001)]) (rest := []) ⟨hx, hb, hml, hown, hts⟩ (c_X7_finding l D cy ta a_flow a_draft a_fence a_past a_slots a_slotKinds ha a_speedX a_speedY a_leftward a_change a_table fi (-1000001) H.size) (cwV 1 hts gX7_copy_X7_finding rfl rfl rfl hv_X7_finding (yk_room hRf hRl rfl rfl)) (yk_pv (q := (RX7, TX7, 13)) hG hA hS hK hP hD [0] (by decide +kernel) rfl rfl rfl) rfl rfl hl.1 rfl (lv_room (Nat.le_of_ble_eq_true rfl)) dX7_copy_17 ⟨Nat.zero_le _, Nat.zero_le _⟩) hP hD hS hA rfl (Eq.trans (b := [ta]) rfl rfl) (fun H locs hP9 hD9 hS9 => ?_)
    replace hP : va_P D vwCl [(ta, .inr (7, [.ref a_flow, .ref a_draft, .ref a_fence, .ref a_past, .ref a_slots, .ref a_slotKinds, .ref ha, .ref a_speedX, .ref a_speedY, .ref a_leftward, .ref a_change, .ref a_table, .int ((f_X7_finding fi (-1000001)).2)])), (ha, .inl (cy 4, 4, .inr (.inr (.inr (.inr rf))))), (hx0, .inr (5, [.ref hx0n, .int b0, .int (nI n0)])), (hx0n, .inl (cy 0, 16, .inl h0)), (hx1, .inr (5, [.ref hx1n, .int b1, .int (nI n1)])), (hx1n, .inl (cy 0, 16, .inl h1))] H := hP9
    replace hD : va_D A [(ta, .inr (7, [.ref a_flow, .ref a_draft, .ref a_fence, .ref a_past, .ref a_slots, .ref a_slotKinds, .ref ha, .ref a_speedX, .ref a_speedY, .ref a_leftward, .ref a_change, .ref a_table, .int ((f_X7_finding fi (-1000001)).2)])), (ha, .inl (cy 4, 4, .inr (.inr (.inr (.inr rf))))), (hx0, .inr (5, [.ref hx0n, .int b0, .int (nI n0)])), (hx0n, .inl (cy 0, 16, .inl h0)), (hx1, .inr (5, [.ref hx1n, .int b1, .int (nI n1)])), (hx1n, .inl (cy 0, 16, .inl h1))] := hD9
    replace hS := hS9
    clear hP9 hD9 hS9
    have hF : f_X7_copy h0 b0 n0 h1 b1 n1 fi px pf py po pn = (((f_X7_finding fi (-1000001)).1), ((f_X7_finding fi (-1000001)).2), h1) := hF
    have hf0 := yk_fst hF
    have hg0 := yk_snd hF
    have hf1 := yk_fst hg0
    have hg1 := yk_snd hg0
    rw [hf0, hf1, hg1] at hQ
    exact hQ _ _ _ _ dX7_copy_20 hP hS
  · replace hF := hF.trans (if_neg hc1)
    refine lv_iload_n hx hb dX7_copy_7 rfl (lv_at hl 3 rfl) ?_
    refine yk_i [] (va_runS (As := [.int py]) (rest := []) ⟨hx, hb, hml, hown, hts⟩ (c_X7_isSheet l D cy py H.size) (va_cwS 1 hts gX7_copy_X7_isSheet rfl rfl rfl hs_X7_isSheet (yk_room hRf hRl rfl rfl)) (yk_ps hG hA hS hK hP hD [] (by decide +kernel) rfl) rfl rfl hl.1 rfl (lv_room (Nat.le_of_ble_eq_true rfl)) dX7_copy_8 ⟨Nat.zero_le _, Nat.zero_le _⟩) hP hD hS hA rfl rfl (fun H locs hP9 hD9 hS9 => ?_)
    replace hP : va_P D vwCl [(ta, .inr (7, [.ref a_flow, .ref a_draft, .ref a_fence, .ref a_past, .ref a_slots, .ref a_slotKinds, .ref ha, .ref a_speedX, .ref a_speedY, .ref a_leftward, .ref a_change, .ref a_table, .int fi])), (ha, .inl (cy 4, 4, .inr (.inr (.inr (.inr rf))))), (hx0, .inr (5, [.ref hx0n, .int b0, .int (nI n0)])), (hx0n, .inl (cy 0, 16, .inl h0)), (hx1, .inr (5, [.ref hx1n, .int b1, .int (nI n1)])), (hx1n, .inl (cy 0, 16, .inl h1))] H := hP9
    replace hD : va_D A [(ta, .inr (7, [.ref a_flow, .ref a_draft, .ref a_fence, .ref a_past, .ref a_slots, .ref a_slotKinds, .ref ha, .ref a_speedX, .ref a_speedY, .ref a_leftward, .ref a_change, .ref a_table, .int fi])), (ha, .inl (cy 4, 4, .inr (.inr (.inr (.inr rf))))), (hx0, .inr (5, [.ref hx0n, .int b0, .int (nI n0)])), (hx0n, .inl (cy 0, 16, .inl h0)), (hx1, .inr (5, [.ref hx1n, .int b1, .int (nI n1)])), (hx1n, .inl (cy 0, 16, .inl h1))] := hD9
    replace hS := hS9
    clear hP9 hD9 hS9
    refine lv_if_ne (tgt := 21) hx hb dX7_copy_11 (by decide) (fun hc2 => ?_) (fun hc2 => ?_)
    · replace hF := hF.trans (if_neg hc2)
      have hq3 : px = nI px.toNatClampNeg := (ix_sheet (by assumption)).1
      have hq3b : px.toNatClampNeg < 4 := (ix_sheet (by assumption)).2
      rw [hq3] at hl
      have hq4 : py = nI py.toNatClampNeg := (ix_sheet (by assumption)).1
      have hq4b : py.toNatClampNeg < 4 := (ix_sheet (by assumption)).2
      rw [hq4] at hl
      refine lv_aload_n hx hb dX7_copy_21 rfl (lv_at hl 0 rfl) ?_
      refine va_get (D := D) (ci := 7) (v := .ref ha) (C := RX7) (T := TX7) (N := 13) hx hb hts uX7_copy_X7 hown hK hP 0 rfl rfl 6 (by decide) (hts _ kX7_copy_1) (fun _ h9 => h9) rfl dX7_copy_22 ?_
      refine lv_iload_n hx hb dX7_copy_25 rfl (lv_at hl 1 rfl) ?_
      refine yk_aldq hx hb hK hP 1 4 rfl rfl px.toNatClampNeg (ix_sheet (by assumption)).2 (by decide) (hrf (by assumption)) dX7_copy_26 ?_
      refine lv_astore (lv' := [(6, .ref hx0), (0, .ref ta), (1, .int (nI px.toNatClampNeg)), (2, .int pf), (3, .int (nI py.toNatClampNeg)), (4, .int po), (5, .int pn)]) hx hb dX7_copy_27 hl (by decide) rfl (fun ls hl9 => ?_)
      replace hl := hl9
      clear hl9
      refine lv_aload_n hx hb dX7_copy_29 rfl (lv_at hl 1 rfl) ?_
      refine va_get (D := D) (ci := 7) (v := .ref ha) (C := RX7) (T := TX7) (N := 13) hx hb hts uX7_copy_X7 hown hK hP 0 rfl rfl 6 (by decide) (hts _ kX7_copy_1) (fun _ h9 => h9) rfl dX7_copy_30 ?_
      refine lv_iload_n hx hb dX7_copy_33 rfl (lv_at hl 4 rfl) ?_
      refine yk_aldq hx hb hK hP 1 4 rfl rfl py.toNatClampNeg (ix_sheet (by assumption)).2 (by decide) (hrg (by assumption)) dX7_copy_34 ?_
      refine lv_astore (lv' := [(7, .ref hx1), (6, .ref hx0), (0, .ref ta), (1, .int (nI px.toNatClampNeg)), (2, .int pf), (3, .int (nI py.toNatClampNeg)), (4, .int po), (5, .int pn)]) hx hb dX7_copy_35 hl (by decide) rfl (fun ls hl9 => ?_)
      replace hl := hl9
      clear hl9
      refine lv_aload hx hb dX7_copy_37 (lv_at hl 1 rfl) ?_
      refine yk_i [2, 3] (va_runV (As := []) (rest := []) ⟨hx, hb, hml, hown, hts⟩ (c_X5_isMissing l D cy hx0 hx0n h0 b0 n0 H.size) (cwV 0 hts gX7_copy_X5_isMissing rfl rfl rfl hv_X5_isMissing (yk_room hRf hRl rfl rfl)) (yk_pv (q := (RX5, TX5, 3)) hG hA hS hK hP hD [2, 3] (by decide +kernel) rfl rfl rfl) rfl rfl hl.1 rfl (lv_room (Nat.le_of_ble_eq_true rfl)) dX7_copy_39 ⟨Nat.zero_le _, Nat.zero_le _⟩) hP hD hS hA rfl (Eq.trans (b := [hx0, hx0n]) rfl rfl) (fun H locs hP9 hD9 hS9 => ?_)
      replace hP : va_P D vwCl [(ta, .inr (7, [.ref a_flow, .ref a_draft, .ref a_fence, .ref a_past, .ref a_slots, .ref a_slotKinds, .ref ha, .ref a_speedX, .ref a_speedY, .ref a_leftward, .ref a_change, .ref a_table, .int fi])), (ha, .inl (cy 4, 4, .inr (.inr (.inr (.inr rf))))), (hx0, .inr (5, [.ref hx0n, .int b0, .int (nI n0)])), (hx0n, .inl (cy 0, 16, .inl h0)), (hx1, .inr (5, [.ref hx1n, .int b1, .int (nI n1)])), (hx1n, .inl (cy 0, 16, .inl h1))] H := hP9
      replace hD : va_D A [(ta, .inr (7, [.ref a_flow, .ref a_draft, .ref a_fence, .ref a_past, .ref a_slots, .ref a_slotKinds, .ref ha, .ref a_speedX, .ref a_speedY, .ref a_leftward, .ref a_change, .ref a_table, .int fi])), (ha, .inl (cy 4, 4, .inr (.inr (.inr (.inr rf))))), (hx0, .inr (5, [.ref hx0n, .int b0, .int (nI n0)])), (hx0n, .inl (cy 0, 16, .inl h0)), (hx1, .inr (5, [.ref hx1n, .int b1, .int (nI n1)])), (hx1n, .inl (cy 0, 16, .inl h1))] := hD9
      replace hS := hS9
      clear hP9 hD9 hS9
      refine lv_if_ne (tgt := 53) hx hb dX7_copy_42 (by decide) (fun hc5 => ?_) (fun hc5 => ?_)
      · replace hF := hF.trans (if_neg hc5)
        refine lv_aload_n hx hb dX7_copy_53 rfl (lv_at hl 2 rfl) ?_
        refine lv_ldcw (v := (-1000002)) hx hb hown (hts _ kX7_copy_2) dX7_copy_54 ?_
        refine yk_i [0] (va_runV (As := [.int (-1000002)]) (rest := []) ⟨hx, hb, hml, hown, hts⟩ (c_X7_finding l D cy ta a_flow a_draft a_fence a_past a_slots a_slotKinds ha a_speedX a_speedY a_leftward a_change a_table fi (-1000002) H.size) (cwV 1 hts gX7_copy_X7_finding rfl rfl rfl hv_X7_finding (yk_room hRf hRl rfl rfl)) (yk_pv (q := (RX7, TX7, 13)) hG hA hS hK hP hD [0] (by decide +kernel) rfl rfl rfl) rfl rfl hl.1 rfl (lv_room (Nat.le_of_ble_eq_true rfl)) dX7_copy_57 ⟨Nat.zero_le _, Nat.zero_le _⟩) hP hD hS hA rfl (Eq.trans (b := [ta]) rfl rfl) (fun H locs hP9 hD9 hS9 => ?_)
        replace hP : va_P D vwCl [(ta, .inr (7, [.ref a_flow, .ref a_draft, .ref a_fence, .ref a_past, .ref a_slots, .ref a_slotKinds, .ref ha, .ref a_speedX, .ref a_speedY, .ref a_leftward, .ref a_change, .ref a_table, .int ((f_X7_finding fi (-1000002)).2)])), (ha, .inl (cy 4, 4, .inr (.inr (.inr (.inr rf))))), (hx0, .inr (5, [.ref hx0n, .int b0, .int (nI n0)])), (hx0n, .inl (cy 0, 16, .inl h0)), (hx1, .inr (5, [.ref hx1n, .int b1, .int (nI n1)])), (hx1n, .inl (cy 0, 16, .inl h1))] H := hP9
        replace hD : va_D A [(ta, .inr (7, [.ref a_flow, .ref a_draft, .ref a_fence, .ref a_past, .ref a_slots, .ref a_slotKinds, .ref ha, .ref a_speedX, .ref a_speedY, .ref a_leftward, .ref a_change, .ref a_table, .int ((f_X7_finding fi (-1000002)).2)])), (ha, .inl (cy 4, 4, .inr (.inr (.inr (.inr rf))))), (hx0, .inr (5, [.ref hx0n, .int b0, .int (nI n0)])), (hx0n, .inl (cy 0, 16, .inl h0)), (hx1, .inr (5, [.ref hx1n, .int b1, .int (nI n1)])), (hx1n, .inl (cy 0, 16, .inl h1))] := hD9
        replace hS := hS9
        clear hP9 hD9 hS9
        have hF : f_X7_copy h0 b0 n0 h1 b1 n1 fi px pf py po pn = (((f_X7_finding fi (-1000002)).1), ((f_X7_finding fi (-1000002)).2), h1) := hF
        have hf0 := yk_fst hF
        have hg0 := yk_snd hF
        have hf1 := yk_fst hg0
        have hg1 := yk_snd hg0
        rw [hf0, hf1, hg1] at hQ
        exact hQ _ _ _ _ dX7_copy_60 hP hS
      · replace hF := hF.trans (if_pos hc5)
        refine lv_aload hx hb dX7_copy_45 (lv_at hl 0 rfl) ?_
        refine yk_i [4, 5] (va_runV (As := []) (rest := []) ⟨hx, hb, hml, hown, hts⟩ (c_X5_isMissing l D cy hx1 hx1n h1 b1 n1 H.size) (cwV 0 hts gX7_copy_X5_isMissing rfl rfl rfl hv_X5_isMissing (yk_room hRf hRl rfl rfl)) (yk_pv (q := (RX5, TX5, 3)) hG hA hS hK hP hD [4, 5] (by decide +kernel) rfl rfl rfl) rfl rfl hl.1 rfl (lv_room (Nat.le_of_ble_eq_true rfl)) dX7_copy_47 ⟨Nat.zero_le _, Nat.zero_le _⟩) hP hD hS hA rfl (Eq.trans (b := [hx1, hx1n]) rfl rfl) (fun H locs hP9 hD9 hS9 => ?_)
        replace hP : va_P D vwCl [(ta, .inr (7, [.ref a_flow, .ref a_draft, .ref a_fence, .ref a_past, .ref a_slots, .ref a_slotKinds, .ref ha, .ref a_speedX, .ref a_speedY, .ref a_leftward, .ref a_change, .ref a_table, .int fi])), (ha, .inl (cy 4, 4, .inr (.inr (.inr (.inr rf))))), (hx0, .inr (5, [.ref hx0n, .int b0, .int (nI n0)])), (hx0n, .inl (cy 0, 16, .inl h0)), (hx1, .inr (5, [.ref hx1n, .int b1, .int (nI n1)])), (hx1n, .inl (cy 0, 16, .inl h1))] H := hP9
        replace hD : va_D A [(ta, .inr (7, [.ref a_flow, .ref a_draft, .ref a_fence, .ref a_past, .ref a_slots, .ref a_slotKinds, .ref ha, .ref a_speedX, .ref a_speedY, .ref a_leftward, .ref a_change, .ref a_table, .int fi])), (ha, .inl (cy 4, 4, .inr (.inr (.inr (.inr rf))))), (hx0, .inr (5, [.ref hx0n, .int b0, .int (nI n0)])), (hx0n, .inl (cy 0, 16, .inl h0)), (hx1, .inr (5, [.ref hx1n, .int b1, .int (nI n1)])), (hx1n, .inl (cy 0, 16, .inl h1))] := hD9
        replace hS := hS9
        clear hP9 hD9 hS9
        refine lv_if_eq (tgt := 61) hx hb dX7_copy_50 (by decide) (fun hc6 => ?_) (fun hc6 => ?_)
        · replace hF := hF.trans (if_pos hc6)
          refine lv_aload hx hb dX7_copy_61 (lv_at hl 1 rfl) ?_
          refine va_get (D := D) (ci := 5) (v := .int b0) (C := RX5) (T := TX5) (N := 3) hx hb hts uX7_copy_X5 hown hK hP 2 rfl rfl 1 (by decide) (hts _ kX7_copy_3) (fun _ h9 => h9) rfl dX7_copy_63 ?_
          refine lv_aload hx hb dX7_copy_66 (lv_at hl 0 rfl) ?_
          refine va_get (D := D) (ci := 5) (v := .int b1) (C := RX5) (T := TX5) (N := 3) hx hb hts uX7_copy_X5 hown hK hP 4 rfl rfl 1 (by decide) (hts _ kX7_copy_3) (fun _ h9 => h9) rfl dX7_copy_68 ?_
          refine lv_icmp_eq (tgt := 81) hx hb dX7_copy_71 (by decide) (fun hc7 => ?_) (fun hc7 => ?_)
          · replace hF := hF.trans (if_pos hc7)
            refine lv_aload hx hb dX7_copy_81 (lv_at hl 1 rfl) ?_
            refine lv_iload_n hx hb dX7_copy_83 rfl (lv_at hl 4 rfl) ?_
            refine lv_iload hx hb dX7_copy_84 (lv_at hl 7 rfl) ?_
            refine yk_i [2, 3] (va_runV (As := [.int pf, .int pn]) (rest := []) ⟨hx, hb, hml, hown, hts⟩ (c_X5_hasRange l D cy hx0 hx0n h0 b0 n0 pf pn hn0 H.size) (cwV 2 hts gX7_copy_X5_hasRange rfl rfl rfl hv_X5_hasRange (yk_room hRf hRl rfl rfl)) (yk_pv (q := (RX5, TX5, 3)) hG hA hS hK hP hD [2, 3] (by decide +kernel) rfl rfl rfl) rfl rfl hl.1 rfl (lv_room (Nat.le_of_ble_eq_true rfl)) dX7_copy_86 ⟨Nat.zero_le _, Nat.zero_le _⟩) hP hD hS hA rfl (Eq.trans (b := [hx0, hx0n]) rfl rfl) (fun H locs hP9 hD9 hS9 => ?_)
            replace hP : va_P D vwCl [(ta, .inr (7, [.ref a_flow, .ref a_draft, .ref a_fence, .ref a_past, .ref a_slots, .ref a_slotKinds, .ref ha, .ref a_speedX, .ref a_speedY, .ref a_leftward, .ref a_change, .ref a_table, .int fi])), (ha, .inl (cy 4, 4, .inr (.inr (.inr (.inr rf))))), (hx0, .inr (5, [.ref hx0n, .int b0, .int (nI n0)])), (hx0n, .inl (cy 0, 16, .inl h0)), (hx1, .inr (5, [.ref hx1n, .int b1, .int (nI n1)])), (hx1n, .inl (cy 0, 16, .inl h1))] H := hP9
            replace hD : va_D A [(ta, .inr (7, [.ref a_flow, .ref a_draft, .ref a_fence, .ref a_past, .ref a_slots, .ref a_slotKinds, .ref ha, .ref a_speedX, .ref a_speedY, .ref a_leftward, .ref a_change, .ref a_table, .int fi])), (ha, .inl (cy 4, 4, .inr (.inr (.inr (.inr rf))))), (hx0, .inr (5, [.ref hx0n, .int b0, .int (nI n0)])), (hx0n, .inl (cy 0, 16, .inl h0)), (hx1, .inr (5, [.ref hx1n, .int b1, .int (nI n1)])), (hx1n, .inl (cy 0, 16, .inl h1))] := hD9
            replace hS := hS9
            clear hP9 hD9 hS9
            refine lv_if_eq (tgt := 104) hx hb dX7_copy_89 (by decide) (fun hc8 => ?_) (fun hc8 => ?_)
            · replace hF := hF.trans (if_pos hc8)
              refine lv_aload_n hx hb dX7_copy_104 rfl (lv_at hl 2 rfl) ?_
              refine lv_ldc (v := (-1000001)) hx hb hown (hts _ kX7_copy_0) dX7_copy_105 ?_
              refine yk_i [0] (va_runV (As := [.int (-1000001)]) (rest := []) ⟨hx, hb, hml, hown, hts⟩ (c_X7_finding l D cy ta a_flow a_draft a_fence a_past a_slots a_slotKinds ha a_speedX a_speedY a_leftward a_change a_table fi (-1000001) H.size) (cwV 1 hts gX7_copy_X7_finding rfl rfl rfl hv_X7_finding (yk_room hRf hRl rfl rfl)) (yk_pv (q := (RX7, TX7, 13)) hG hA hS hK hP hD [0] (by decide +kernel) rfl rfl rfl) rfl rfl hl.1 rfl (lv_room (Nat.le_of_ble_eq_true rfl)) dX7_copy_107 ⟨Nat.zero_le _, Nat.zero_le _⟩) hP hD hS hA rfl (Eq.trans (b := [ta]) rfl rfl) (fun H locs hP9 hD9 hS9 => ?_)
              replace hP : va_P D vwCl [(ta, .inr (7, [.ref a_flow, .ref a_draft, .ref a_fence, .ref a_past, .ref a_slots, .ref a_slotKinds, .ref ha, .ref a_speedX, .ref a_speedY, .ref a_leftward, .ref a_change, .ref a_table, .int ((f_X7_finding fi (-1000001)).2)])), (ha, .inl (cy 4, 4, .inr (.inr (.inr (.inr rf))))), (hx0, .inr (5, [.ref hx0n, .int b0, .int (nI n0)])), (hx0n, .inl (cy 0, 16, .inl h0)), (hx1, .inr (5, [.ref hx1n, .int b1, .int (nI n1)])), (hx1n, .inl (cy 0, 16, .inl h1))] H := hP9
              replace hD : va_D A [(ta, .inr (7, [.ref a_flow, .ref a_draft, .ref a_fence, .ref a_past, .ref a_slots, .ref a_slotKinds, .ref ha, .ref a_speedX, .ref a_speedY, .ref a_leftward, .ref a_change, .ref a_table, .int ((f_X7_finding fi (-1000001)).2)])), (ha, .inl (cy 4, 4, .inr (.inr (.inr (.inr rf))))), (hx0, .inr (5, [.ref hx0n, .int b0, .int (nI n0)])), (hx0n, .inl (cy 0, 16, .inl h0)), (hx1, .inr (5, [.ref hx1n, .int b1, .int (nI n1)])), (hx1n, .inl (cy 0, 16, .inl h1))] := hD9
              replace hS := hS9
              clear hP9 hD9 hS9
              have hF : f_X7_copy h0 b0 n0 h1 b1 n1 fi px pf py po pn = (((f_X7_finding fi (-1000001)).1), ((f_X7_finding fi (-1000001)).2), h1) := hF
              have hf0 := yk_fst hF
              have hg0 := yk_snd hF
              have hf1 := yk_fst hg0
              have hg1 := yk_snd hg0
              rw [hf0, hf1, hg1] at hQ
              exact hQ _ _ _ _ dX7_copy_110 hP hS
            · replace hF := hF.trans (if_neg hc8)
              refine lv_aload hx hb dX7_copy_92 (lv_at hl 0 rfl) ?_
              refine lv_iload hx hb dX7_copy_94 (lv_at hl 6 rfl) ?_
              refine lv_iload hx hb dX7_copy_96 (lv_at hl 7 rfl) ?_
              refine yk_i [4, 5] (va_runV (As := [.int po, .int pn]) (rest := []) ⟨hx, hb, hml, hown, hts⟩ (c_X5_hasRange l D cy hx1 hx1n h1 b1 n1 po pn hn1 H.size) (cwV 2 hts gX7_copy_X5_hasRange rfl rfl rfl hv_X5_hasRange (yk_room hRf hRl rfl rfl)) (yk_pv (q := (RX5, TX5, 3)) hG hA hS hK hP hD [4, 5] (by decide +kernel) rfl rfl rfl) rfl rfl hl.1 rfl (lv_room (Nat.le_of_ble_eq_true rfl)) dX7_copy_98 ⟨Nat.zero_le _, Nat.zero_le _⟩) hP hD hS hA rfl (Eq.trans (b := [hx1, hx1n]) rfl rfl) (fun H locs hP9 hD9 hS9 => ?_)
              replace hP : va_P D vwCl [(ta, .inr (7, [.ref a_flow, .ref a_draft, .ref a_fence, .ref a_past, .ref a_slots, .ref a_slotKinds, .ref ha, .ref a_speedX, .ref a_speedY, .ref a_leftward, .ref a_change, .ref a_table, .int fi])), (ha, .inl (cy 4, 4, .inr (.inr (.inr (.inr rf))))), (hx0, .inr (5, [.ref hx0n, .int b0, .int (nI n0)])), (hx0n, .inl (cy 0, 16, .inl h0)), (hx1, .inr (5, [.ref hx1n, .int b1, .int (nI n1)])), (hx1n, .inl (cy 0, 16, .inl h1))] H := hP9
              replace hD : va_D A [(ta, .inr (7, [.ref a_flow, .ref a_draft, .ref a_fence, .ref a_past, .ref a_slots, .ref a_slotKinds, .ref ha, .ref a_speedX, .ref a_speedY, .ref a_leftward, .ref a_change, .ref a_table, .int fi])), (ha, .inl (cy 4, 4, .inr (.inr (.inr (.inr rf))))), (hx0, .inr (5, [.ref hx0n, .int b0, .int (nI n0)])), (hx0n, .inl (cy 0, 16, .inl h0)), (hx1, .inr (5, [.ref hx1n, .int b1, .int (nI n1)])), (hx1n, .inl (cy 0, 16, .inl h1))] := hD9
              replace hS := hS9
              clear hP9 hD9 hS9
              refine lv_if_ne (tgt := 111) hx hb dX7_copy_101 (by decide) (fun hc9 => ?_) (fun hc9 => ?_)
              · replace hF := hF.trans (if_neg hc9)
                have hq8 := hr_ok (n := n0) (x := pf) (y := pn) (by omega) (by assumption)
                have hq9 := hr_ok (n := n1) (x := po) (y := pn) (by omega) (by assumption)
                have hq10 : pf = nI pf.toNatClampNeg := hq8.1.1
                have hq10b : pf.toNatClampNeg < 17 := hq8.1.2
                rw [hq10] at hl
                have hq11 : po = nI po.toNatClampNeg := hq9.1.1
                have hq11b : po.toNatClampNeg < 17 := hq9.1.2
                rw [hq11] at hl
                have hq12 : pn = nI pn.toNatClampNeg := hq8.2.1.1
                have hq12b : pn.toNatClampNeg < 17 := hq8.2.1.2
                rw [hq12] at hl
                refine lv_aload hx hb dX7_copy_111 (lv_at hl 1 rfl) ?_
                refine va_get (D := D) (ci := 5) (v := .ref hx0n) (C := RX5) (T := TX5) (N := 3) hx hb hts uX7_copy_X5 hown hK hP 2 rfl rfl 0 (by decide) (hts _ kX7_copy_4) (fun _ h9 => h9) rfl dX7_copy_113 ?_
                refine lv_iload_n hx hb dX7_copy_116 rfl (lv_at hl 4 rfl) ?_
                refine lv_aload hx hb dX7_copy_117 (lv_at hl 0 rfl) ?_
                refine va_get (D := D) (ci := 5) (v := .ref hx1n) (C := RX5) (T := TX5) (N := 3) hx hb hts uX7_copy_X5 hown hK hP 4 rfl rfl 0 (by decide) (hts _ kX7_copy_4) (fun _ h9 => h9) rfl dX7_copy_119 ?_
                refine lv_iload hx hb dX7_copy_122 (lv_at hl 6 rfl) ?_
                refine lv_iload hx hb dX7_copy_124 (lv_at hl 7 rfl) ?_
                refine yk_cpy (sp := pf.toNatClampNeg) (dp := po.toNatClampNeg) (n := pn.toNatClampNeg) hx hb (hml.trans hl.1.symm) hown (hts _ kX7_copy_5) (hts _ kX7_copy_6) (hts _ kX7_copy_7) (hts _ kX7_copy_8) hK hP hD hS 3 5 rfl rfl rfl rfl (⟨by omega, by omega⟩) (by omega) (by omega) (by rw [hRf]; exact Nat.le_of_ble_eq_true rfl) (by rw [hRl]; exact Nat.le_of_ble_eq_true rfl) dX7_copy_126 (fun H locs hP9 hD9 hS9 => ?_)
                replace hP : va_P D vwCl [(ta, .inr (7, [.ref a_flow, .ref a_draft, .ref a_fence, .ref a_past, .ref a_slots, .ref a_slotKinds, .ref ha, .ref a_speedX, .ref a_speedY, .ref a_leftward, .ref a_change, .ref a_table, .int fi])), (ha, .inl (cy 4, 4, .inr (.inr (.inr (.inr rf))))), (hx0, .inr (5, [.ref hx0n, .int b0, .int (nI n0)])), (hx0n, .inl (cy 0, 16, .inl h0)), (hx1, .inr (5, [.ref hx1n, .int b1, .int (nI n1)])), (hx1n, .inl (cy 0, 16, .inl (va_cpy h0 h1 pf.toNatClampNeg po.toNatClampNeg pn.toNatClampNeg)))] H := hP9
                replace hD : va_D A [(ta, .inr (7, [.ref a_flow, .ref a_draft, .ref a_fence, .ref a_past, .ref a_slots, .ref a_slotKinds, .ref ha, .ref a_speedX, .ref a_speedY, .ref a_leftward, .ref a_change, .ref a_table, .int fi])), (ha, .inl (cy 4, 4, .inr (.inr (.inr (.inr rf))))), (hx0, .inr (5, [.ref hx0n, .int b0, .int (nI n0)])), (hx0n, .inl (cy 0, 16, .inl h0)), (hx1, .inr (5, [.ref hx1n, .int b1, .int (nI n1)])), (hx1n, .inl (cy 0, 16, .inl (va_cpy h0 h1 pf.toNatClampNeg po.toNatClampNeg pn.toNatClampNeg)))] := hD9
                replace hS := hS9
                clear hP9 hD9 hS9
                refine lv_iload hx hb dX7_copy_129 (lv_at hl 7 rfl) ?_
                have hF : f_X7_copy h0 b0 n0 h1 b1 n1 fi px pf py po pn = ((nI pn.toNatClampNeg), fi, (va_cpy h0 h1 pf.toNatClampNeg po.toNatClampNeg pn.toNatClampNeg)) := hF
                have hf0 := yk_fst hF
                have hg0 := yk_snd hF
                have hf1 := yk_fst hg0
                have hg1 := yk_snd hg0
                rw [hf0, hf1, hg1] at hQ
                exact hQ _ _ _ _ dX7_copy_131 hP hS
              · replace hF := hF.trans (if_pos hc9)
                refine lv_aload_n hx hb dX7_copy_104 rfl (lv_at hl 2 rfl) ?_
                refine lv_ldc (v := (-1000001)) hx hb hown (hts _ kX7_copy_0) dX7_copy_105 ?_
                refine yk_i [0] (va_runV (As := [.int (-1000001)]) (rest := []) ⟨hx, hb, hml, hown, hts⟩ (c_X7_finding l D cy ta a_flow a_draft a_fence a_past a_slots a_slotKinds ha a_speedX a_speedY a_leftward a_change a_table fi (-1000001) H.size) (cwV 1 hts gX7_copy_X7_finding rfl rfl rfl hv_X7_finding (yk_room hRf hRl rfl rfl)) (yk_pv (q := (RX7, TX7, 13)) hG hA hS hK hP hD [0] (by decide +kernel) rfl rfl rfl) rfl rfl hl.1 rfl (lv_room (Nat.le_of_ble_eq_true rfl)) dX7_copy_107 ⟨Nat.zero_le _, Nat.zero_le _⟩) hP hD hS hA rfl (Eq.trans (b := [ta]) rfl rfl) (fun H locs hP9 hD9 hS9 => ?_)
                replace hP : va_P D vwCl [(ta, .inr (7, [.ref a_flow, .ref a_draft, .ref a_fence, .ref a_past, .ref a_slots, .ref a_slotKinds, .ref ha, .ref a_speedX, .ref a_speedY, .ref a_leftward, .ref a_change, .ref a_table, .int ((f_X7_finding fi (-1000001)).2)])), (ha, .inl (cy 4, 4, .inr (.inr (.inr (.inr rf))))), (hx0, .inr (5, [.ref hx0n, .int b0, .int (nI n0)])), (hx0n, .inl (cy 0, 16, .inl h0)), (hx1, .inr (5, [.ref hx1n, .int b1, .int (nI n1)])), (hx1n, .inl (cy 0, 16, .inl h1))] H := hP9
                replace hD : va_D A [(ta, .inr (7, [.ref a_flow, .ref a_draft, .ref a_fence, .ref a_past, .ref a_slots, .ref a_slotKinds, .ref ha, .ref a_speedX, .ref a_speedY, .ref a_leftward, .ref a_change, .ref a_table, .int ((f_X7_finding fi (-1000001)).2)])), (ha, .inl (cy 4, 4, .inr (.inr (.inr (.inr rf))))), (hx0, .inr (5, [.ref hx0n, .int b0, .int (nI n0)])), (hx0n, .inl (cy 0, 16, .inl h0)), (hx1, .inr (5, [.ref hx1n, .int b1, .int (nI n1)])), (hx1n, .inl (cy 0, 16, .inl h1))] := hD9
                replace hS := hS9
                clear hP9 hD9 hS9
                have hF : f_X7_copy h0 b0 n0 h1 b1 n1 fi px pf py po pn = (((f_X7_finding fi (-1000001)).1), ((f_X7_finding fi (-1000001)).2), h1) := hF
                have hf0 := yk_fst hF
                have hg0 := yk_snd hF
                have hf1 := yk_fst hg0
                have hg1 := yk_snd hg0
                rw [hf0, hf1, hg1] at hQ
                exact hQ _ _ _ _ dX7_copy_110 hP hS
          · replace hF := hF.trans (if_neg hc7)
            refine lv_aload_n hx hb dX7_copy_74 rfl (lv_at hl 2 rfl) ?_
            refine lv_ldc (v := (-1000004)) hx hb hown (hts _ kX7_copy_9) dX7_copy_75 ?_
            refine yk_i [0] (va_runV (As := [.int (-1000004)]) (rest := []) ⟨hx, hb, hml, hown, hts⟩ (c_X7_finding l D cy ta a_flow a_draft a_fence a_past a_slots a_slotKinds ha a_speedX a_speedY a_leftward a_change a_table fi (-1000004) H.size) (cwV 1 hts gX7_copy_X7_finding rfl rfl rfl hv_X7_finding (yk_room hRf hRl rfl rfl)) (yk_pv (q := (RX7, TX7, 13)) hG hA hS hK hP hD [0] (by decide +kernel) rfl rfl rfl) rfl rfl hl.1 rfl (lv_room (Nat.le_of_ble_eq_true rfl)) dX7_copy_77 ⟨Nat.zero_le _, Nat.zero_le _⟩) hP hD hS hA rfl (Eq.trans (b := [ta]) rfl rfl) (fun H locs hP9 hD9 hS9 => ?_)
            replace hP : va_P D vwCl [(ta, .inr (7, [.ref a_flow, .ref a_draft, .ref a_fence, .ref a_past, .ref a_slots, .ref a_slotKinds, .ref ha, .ref a_speedX, .ref a_speedY, .ref a_leftward, .ref a_change, .ref a_table, .int ((f_X7_finding fi (-1000004)).2)])), (ha, .inl (cy 4, 4, .inr (.inr (.inr (.inr rf))))), (hx0, .inr (5, [.ref hx0n, .int b0, .int (nI n0)])), (hx0n, .inl (cy 0, 16, .inl h0)), (hx1, .inr (5, [.ref hx1n, .int b1, .int (nI n1)])), (hx1n, .inl (cy 0, 16, .inl h1))] H := hP9
            replace hD : va_D A [(ta, .inr (7, [.ref a_flow, .ref a_draft, .ref a_fence, .ref a_past, .ref a_slots, .ref a_slotKinds, .ref ha, .ref a_speedX, .ref a_speedY, .ref a_leftward, .ref a_change, .ref a_table, .int ((f_X7_finding fi (-1000004)).2)])), (ha, .inl (cy 4, 4, .inr (.inr (.inr (.inr rf))))), (hx0, .inr (5, [.ref hx0n, .int b0, .int (nI n0)])), (hx0n, .inl (cy 0, 16, .inl h0)), (hx1, .inr (5, [.ref hx1n, .int b1, .int (nI n1)])), (hx1n, .inl (cy 0, 16, .inl h1))] := hD9
            replace hS := hS9
            clear hP9 hD9 hS9
            have hF : f_X7_copy h0 b0 n0 h1 b1 n1 fi px pf py po pn = (((f_X7_finding fi (-1000004)).1), ((f_X7_finding fi (-1000004)).2), h1) := hF
            have hf0 := yk_fst hF
            have hg0 := yk_snd hF
            have hf1 := yk_fst hg0
            have hg1 := yk_snd hg0
            rw [hf0, hf1, hg1] at hQ
            exact hQ _ _ _ _ dX7_copy_80 hP hS
        · replace hF := hF.trans (if_neg hc6)
          refine lv_aload_n hx hb dX7_copy_53 rfl (lv_at hl 2 rfl) ?_
          refine lv_ldcw (v := (-1000002)) hx hb hown (hts _ kX7_copy_2) dX7_copy_54 ?_
          refine yk_i [0] (va_runV (As := [.int (-1000002)]) (rest := []) ⟨hx, hb, hml, hown, hts⟩ (c_X7_finding l D cy ta a_flow a_draft a_fence a_past a_slots a_slotKinds ha a_speedX a_speedY a_leftward a_change a_table fi (-1000002) H.size) (cwV 1 hts gX7_copy_X7_finding rfl rfl rfl hv_X7_finding (yk_room hRf hRl rfl rfl)) (yk_pv (q := (RX7, TX7, 13)) hG hA hS hK hP hD [0] (by decide +kernel) rfl rfl rfl) rfl rfl hl.1 rfl (lv_room (Nat.le_of_ble_eq_true rfl)) dX7_copy_57 ⟨Nat.zero_le _, Nat.zero_le _⟩) hP hD hS hA rfl (Eq.trans (b := [ta]) rfl rfl) (fun H locs hP9 hD9 hS9 => ?_)
          replace hP : va_P D vwCl [(ta, .inr (7, [.ref a_flow, .ref a_draft, .ref a_fence, .ref a_past, .ref a_slots, .ref a_slotKinds, .ref ha, .ref a_speedX, .ref a_speedY, .ref a_leftward, .ref a_change, .ref a_table, .int ((f_X7_finding fi (-1000002)).2)])), (ha, .inl (cy 4, 4, .inr (.inr (.inr (.inr rf))))), (hx0, .inr (5, [.ref hx0n, .int b0, .int (nI n0)])), (hx0n, .inl (cy 0, 16, .inl h0)), (hx1, .inr (5, [.ref hx1n, .int b1, .int (nI n1)])), (hx1n, .inl (cy 0, 16, .inl h1))] H := hP9
          replace hD : va_D A [(ta, .inr (7, [.ref a_flow, .ref a_draft, .ref a_fence, .ref a_past, .ref a_slots, .ref a_slotKinds, .ref ha, .ref a_speedX, .ref a_speedY, .ref a_leftward, .ref a_change, .ref a_table, .int ((f_X7_finding fi (-1000002)).2)])), (ha, .inl (cy 4, 4, .inr (.inr (.inr (.inr rf))))), (hx0, .inr (5, [.ref hx0n, .int b0, .int (nI n0)])), (hx0n, .inl (cy 0, 16, .inl h0)), (hx1, .inr (5, [.ref hx1n, .int b1, .int (nI n1)])), (hx1n, .inl (cy 0, 16, .inl h1))] := hD9
          replace hS := hS9
          clear hP9 hD9 hS9
          have hF : f_X7_copy h0 b0 n0 h1 b1 n1 fi px pf py po pn = (((f_X7_finding fi (-1000002)).1), ((f_X7_finding fi (-1000002)).2), h1) := hF
          have hf0 := yk_fst hF
          have hg0 := yk_snd hF
          have hf1 := yk_fst hg0
          have hg1 := yk_snd hg0
          rw [hf0, hf1, hg1] at hQ
          exact hQ _ _ _ _ dX7_copy_60 hP hS
    · replace hF := hF.trans (if_pos hc2)
      refine lv_aload_n hx hb dX7_copy_14 rfl (lv_at hl 0 rfl) ?_
      refine lv_ldc (v := (-1000001)) hx hb hown (hts _ kX7_copy_0) dX7_copy_15 ?_
      refine yk_i [0] (va_runV (As := [.int (-1000001)]) (rest := []) ⟨hx, hb, hml, hown, hts⟩ (c_X7_finding l D cy ta a_flow a_draft a_fence a_past a_slots a_slotKinds ha a_speedX a_speedY a_leftward a_change a_table fi (-1000001) H.size) (cwV 1 hts gX7_copy_X7_finding rfl rfl rfl hv_X7_finding (yk_room hRf hRl rfl rfl)) (yk_pv (q := (RX7, TX7, 13)) hG hA hS hK hP hD [0] (by decide +kernel) rfl rfl rfl) rfl rfl hl.1 rfl (lv_room (Nat.le_of_ble_eq_true rfl)) dX7_copy_17 ⟨Nat.zero_le _, Nat.zero_le _⟩) hP hD hS hA rfl (Eq.trans (b := [ta]) rfl rfl) (fun H locs hP9 hD9 hS9 => ?_)
      replace hP : va_P D vwCl [(ta, .inr (7, [.ref a_flow, .ref a_draft, .ref a_fence, .ref a_past, .ref a_slots, .ref a_slotKinds, .ref ha, .ref a_speedX, .ref a_speedY, .ref a_leftward, .ref a_change, .ref a_table, .int ((f_X7_finding fi (-1000001)).2)])), (ha, .inl (cy 4, 4, .inr (.inr (.inr (.inr rf))))), (hx0, .inr (5, [.ref hx0n, .int b0, .int (nI n0)])), (hx0n, .inl (cy 0, 16, .inl h0)), (hx1, .inr (5, [.ref hx1n, .int b1, .int (nI n1)])), (hx1n, .inl (cy 0, 16, .inl h1))] H := hP9
      replace hD : va_D A [(ta, .inr (7, [.ref a_flow, .ref a_draft, .ref a_fence, .ref a_past, .ref a_slots, .ref a_slotKinds, .ref ha, .ref a_speedX, .ref a_speedY, .ref a_leftward, .ref a_change, .ref a_table, .int ((f_X7_finding fi (-1000001)).2)])), (ha, .inl (cy 4, 4, .inr (.inr (.inr (.inr rf))))), (hx0, .inr (5, [.ref hx0n, .int b0, .int (nI n0)])), (hx0n, .inl (cy 0, 16, .inl h0)), (hx1, .inr (5, [.ref hx1n, .int b1, .int (nI n1)])), (hx1n, .inl (cy 0, 16, .inl h1))] := hD9
      replace hS := hS9
      clear hP9 hD9 hS9
      have hF : f_X7_copy h0 b0 n0 h1 b1 n1 fi px pf py po pn = (((f_X7_finding fi (-1000001)).1), ((f_X7_finding fi (-1000001)).2), h1) := hF
      have hf0 := yk_fst hF
      have hg0 := yk_snd hF
      have hf1 := yk_fst hg0
      have hg1 := yk_snd hg0
      rw [hf0, hf1, hg1] at hQ
      exact hQ _ _ _ _ dX7_copy_20 hP hS
