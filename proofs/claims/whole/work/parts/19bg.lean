theorem hv_X7_isUnder : yX7_isUnder.cls = RX7 ∧ yX7_isUnder.cls ≠ "java/lang/invoke/MethodHandle" ∧ yX7_isUnder.cls ≠ "java/lang/invoke/VarHandle" ∧ (parseMethodDescriptor yX7_isUnder.desc).map (fun d => d.parameters.length) = some 2 := by decide +kernel
theorem hs_X7_isUnder : yX7_isUnder.cls ≠ "java/lang/invoke/MethodHandle" ∧ yX7_isUnder.cls ≠ "java/lang/invoke/VarHandle" ∧ (parseMethodDescriptor yX7_isUnder.desc).map (fun d => d.parameters.length) = some 2 := by decide +kernel
theorem hv_X1_countNotZero : yX1_countNotZero.cls = RX1 ∧ yX1_countNotZero.cls ≠ "java/lang/invoke/MethodHandle" ∧ yX1_countNotZero.cls ≠ "java/lang/invoke/VarHandle" ∧ (parseMethodDescriptor yX1_countNotZero.desc).map (fun d => d.parameters.length) = some 0 := by decide +kernel
theorem hs_X1_countNotZero : yX1_countNotZero.cls ≠ "java/lang/invoke/MethodHandle" ∧ yX1_countNotZero.cls ≠ "java/lang/invoke/VarHandle" ∧ (parseMethodDescriptor yX1_countNotZero.desc).map (fun d => d.parameters.length) = some 0 := by decide +kernel
theorem kX7_as_0 : Cond.constant RX7 83 (-1000001) ∈ wsX7_as := by decide +kernel
theorem kX7_as_1 : Cond.fieldLink RX7 37 "FlowPlane" "slotKinds" "[I" ∈ wsX7_as := by decide +kernel
theorem kX7_as_2 : Cond.fieldLink RX7 33 "FlowPlane" "slots" "[LFlowPlane$Flow;" ∈ wsX7_as := by decide +kernel
theorem kX7_as_3 : Cond.constant RX7 182 (-1000004) ∈ wsX7_as := by decide +kernel
theorem kX7_as_4 : Cond.constant RX7 146 (-1000006) ∈ wsX7_as := by decide +kernel
theorem uX7_as_X7 : ∀ w ∈ u_ws RX7 TX7 13, w ∈ wsX7_as := by decide +kernel
def f_X7_as (su : Nat → Int32) (sv : Nat → Int32) (sk : Nat → Int32) (fi : Int32) (px : Int32) (py : Int32) : Int32 × Int32 := (if (f_X7_isSlot px) = 0 then (((f_X7_finding fi (-1000001)).1), ((f_X7_finding fi (-1000001)).2)) else (if py < 0 then (((f_X7_finding fi (-1000001)).1), ((f_X7_finding fi (-1000001)).2)) else (if py ≤ 3 then (if (sk px.toNatClampNeg) = (-1) then (((f_X7_finding fi (-1000006)).1), ((f_X7_finding fi (-1000006)).2)) else (if (f_X7_isUnder (sk px.toNatClampNeg) py) = 0 then (((f_X7_finding fi (-1000004)).1), ((f_X7_finding fi (-1000004)).2)) else ((f_X1_countNotZero su sv), fi))) else (((f_X7_finding fi (-1000001)).1), ((f_X7_finding fi (-1000001)).2)))))
set_option maxHeartbeats 400000000 in
set_option maxRecDepth 100000 in
theorem c_X7_as (l : Launch) (D : va_G) (cy : Nat → ClassId) (ta : Nat) (sa : Nat) (sx : Nat) (sxp : Nat) (sxpn : Nat) (sxq : Nat) (sxqn : Nat) (ka : Nat) (a_flow : Nat) (a_draft : Nat) (a_fence : Nat) (a_past : Nat) (a_sheets : Nat) (a_speedX : Nat) (a_speedY : Nat) (a_leftward : Nat) (a_change : Nat) (a_table : Nat) (rf : Nat → Option Nat) (su : Nat → Int32) (sv : Nat → Int32) (sk : Nat → Int32) (fi : Int32) (px : Int32) (py : Int32) (hrf : ¬ f_X7_isSlot px = 0 → rf px.toNatClampNeg = some sx) : yk_Ci l D vwCl (yk_ty cy) yX7_as wsX7_as 2 42 [.ref ta, .int px, .int py] [(ta, .inr (7, [.ref a_flow, .ref a_draft, .ref a_fence, .ref a_past, .ref sa, .ref ka, .ref a_sheets, .ref a_speedX, .ref a_speedY, .ref a_leftward, .ref a_change, .ref a_table, .int fi])), (sa, .inl (cy 3, 4, .inr (.inr (.inr (.inr rf))))), (sx, .inr (1, [.ref sxp, .ref sxq])), (sxp, .inr (3, [.ref sxpn])), (sxpn, .inl (cy 0, 6, .inl su)), (sxq, .inr (3, [.ref sxqn])), (sxqn, .inl (cy 0, 6, .inl sv)), (ka, .inl (cy 0, 4, .inl sk))] ((f_X7_as su sv sk fi px py).1) [(ta, .inr (7, [.ref a_flow, .ref a_draft, .ref a_fence, .ref a_past, .ref sa, .ref ka, .ref a_sheets, .ref a_speedX, .ref a_speedY, .ref a_leftward, .ref a_change, .ref a_table, .int ((f_X7_as su sv sk fi px py).2)])), (sa, .inl (cy 3, 4, .inr (.inr (.inr (.inr rf))))), (sx, .inr (1, [.ref sxp, .ref sxq])), (sxp, .inr (3, [.ref sxpn])), (sxpn, .inl (cy 0, 6, .inl su)), (sxq, .inr (3, [.ref sxqn])), (sxqn, .inl (cy 0, 6, .inl sv)), (ka, .inl (cy 0, 4, .inl sk))] := by
  refine yk_eI (cc := cX7_as) (maxL := 3) (by decide) rfl (Nat.le_of_ble_eq_true rfl) rfl ?_
  intro p e R s m args below meth c A Q ls H locs hx hb hml hown hts hRf hRl hA hK hG hP hD hS hl hQ
  have hP : va_P D vwCl [(ta, .inr (7, [.ref a_flow, .ref a_draft, .ref a_fence, .ref a_past, .ref sa, .ref ka, .ref a_sheets, .ref a_speedX, .ref a_speedY, .ref a_leftward, .ref a_change, .ref a_table, .int fi])), (sa, .inl (cy 3, 4, .inr (.inr (.inr (.inr rf))))), (sx, .inr (1, [.ref sxp, .ref sxq])), (sxp, .inr (3, [.ref sxpn])), (sxpn, .inl (cy 0, 6, .inl su)), (sxq, .inr (3, [.ref sxqn])), (sxqn, .inl (cy 0, 6, .inl sv)), (ka, .inl (cy 0, 4, .inl sk))] H := hP
  have hl : lv_has ls 3 [(0, .ref ta), (1, .int px), (2, .int py)] := hl
  have hown : s.vm.findClass RX7 = some m.cls := hown
  have hF : (f_X7_as su sv sk fi px py) = (f_X7_as su sv sk fi px py) := rfl
  refine lv_iload_n hx hb dX7_as_0 rfl (lv_at hl 1 rfl) ?_
  refine yk_i [] (va_runS (As := [.int px]) (rest := []) ⟨hx, hb, hml, hown, hts⟩ (c_X7_isSlot l D cy px H.size) (va_cwS 1 hts gX7_as_X7_isSlot rfl rfl rfl hs_X7_isSlot (yk_room hRf hRl rfl rfl)) (yk_ps hG hA hS hK hP hD [] (by decide +kernel) rfl) rfl rfl hl.1 rfl (lv_room (Nat.le_of_ble_eq_true rfl)) dX7_as_1 ⟨Nat.zero_le _, Nat.zero_le _⟩) hP hD hS hA rfl rfl (fun H locs hP9 hD9 hS9 => ?_)
  replace hP : va_P D vwCl [(ta, .inr (7, [.ref a_flow, .ref a_draft, .ref a_fence, .ref a_past, .ref sa, .ref ka, .ref a_sheets, .ref a_speedX, .ref a_speedY, .ref a_leftward, .ref a_change, .ref a_table, .int fi])), (sa, .inl (cy 3, 4, .inr (.inr (.inr (.inr rf))))), (sx, .inr (1, [.ref sxp, .ref sxq])), (sxp, .inr (3, [.ref sxpn])), (sxpn, .inl (cy 0, 6, .inl su)), (sxq, .inr (3, [.ref sxqn])), (sxqn, .inl (cy 0, 6, .inl sv)), (ka, .inl (cy 0, 4, .inl sk))] H := hP9
  replace hD : va_D A [(ta, .inr (7, [.ref a_flow, .ref a_draft, .ref a_fence, .ref a_past, .ref sa, .ref ka, .ref a_sheets, .ref a_speedX, .ref a_speedY, .ref a_leftward, .ref a_change, .ref a_table, .int fi])), (sa, .inl (cy 3, 4, .inr (.inr (.inr (.inr rf))))), (sx, .inr (1, [.ref sxp, .ref sxq])), (sxp, .inr (3, [.ref sxpn])), (sxpn, .inl (cy 0, 6, .inl su)), (sxq, .inr (3, [.ref sxqn])), (sxqn, .inl (cy 0, 6, .inl sv)), (ka, .inl (cy 0, 4, .inl sk))] := hD9
  replace hS := hS9
  clear hP9 hD9 hS9
  refine lv_if_eq (tgt := 16) hx hb dX7_as_4 (by decide) (fun hc1 => ?_) (fun hc1 => ?_)
  · replace hF := hF.trans (if_pos hc1)
    refine lv_aload_n hx hb dX7_as_16 rfl (lv_at hl 0 rfl) ?_
    refine lv_ldc (v := (-1000001)) hx hb hown (hts _ kX7_as_0) dX7_as_17 ?_
    refine yk_i [0] (va_runV (As := [.int (-1000001)]) (rest := []) ⟨hx, hb, hml, hown, hts⟩ (c_X7_finding l D cy ta a_flow a_draft a_fence a_past sa ka a_sheets a_speedX a_speedY a_leftward a_change a_table fi (-1000001) H.size) (cwV 1 hts gX7_as_X7_finding rfl rfl rfl hv_X7_finding (yk_room hRf hRl rfl rfl)) (yk_pv (q := (RX7, TX7, 13)) hG hA hS hK hP hD [0] (by decide +kernel) rfl rfl rfl) rfl rfl hl.1 rfl (lv_room (Nat.le_of_ble_eq_true rfl)) dX7_as_19 ⟨Nat.zero_le _, Nat.zero_le _⟩) hP hD hS hA rfl (Eq.trans (b := [ta]) rfl rfl) (fun H locs hP9 hD9 hS9 => ?_)
    replace hP : va_P D vwCl [(ta, .inr (7, [.ref a_flow, .ref a_draft, .ref a_fence, .ref a_past, .ref sa, .ref ka, .ref a_sheets, .ref a_speedX, .ref a_speedY, .ref a_leftward, .ref a_change, .ref a_table, .int ((f_X7_finding fi (-1000001)).2)])), (sa, .inl (cy 3, 4, .inr (.inr (.inr (.inr rf))))), (sx, .inr (1, [.ref sxp, .ref sxq])), (sxp, .inr (3, [.ref sxpn])), (sxpn, .inl (cy 0, 6, .inl su)), (sxq, .inr (3, [.ref sxqn])), (sxqn, .inl (cy 0, 6, .inl sv)), (ka, .inl (cy 0, 4, .inl sk))] H := hP9
    replace hD : va_D A [(ta, .inr (7, [.ref a_flow, .ref a_draft, .ref a_fence, .ref a_past, .ref sa, .ref ka, .ref a_sheets, .ref a_speedX, .ref a_speedY, .ref a_leftward, .ref a_change, .ref a_table, .int ((f_X7_finding fi (-1000001)).2)])), (sa, .inl (cy 3, 4, .inr (.inr (.inr (.inr rf))))), (sx, .inr (1, [.ref sxp, .ref sxq])), (sxp, .inr (3, [.ref sxpn])), (sxpn, .inl (cy 0, 6, .inl su)), (sxq, .inr (3, [.ref sxqn])), (sxqn, .inl (cy 0, 6, .inl sv)), (ka, .inl (cy 0, 4, .inl sk))] := hD9
    replace hS := hS9
    clear hP9 hD9 hS9
    have hF : f_X7_as su sv sk fi px py = (((f_X7_finding fi (-1000001)).1), ((f_X7_finding fi (-1000001)).2)) := hF
    have hf0 := yk_fst hF
    have hg0 := yk_snd hF
    rw [hf0, hg0] at hQ
    exact hQ _ _ _ _ dX7_as_22 hP hS
  · replace hF := hF.trans (if_neg hc1)
    refine lv_iload_n hx hb dX7_as_7 rfl (lv_at hl 2 rfl) ?_
    refine lv_if_lt (tgt := 16) hx hb dX7_as_8 (by decide) (fun hc2 => ?_) (fun hc2 => ?_)
    · replace hF := hF.trans (if_pos hc2)
      refine lv_aload_n hx hb dX7_as_16 rfl (lv_at hl 0 rfl) ?_
      refine lv_ldc (v := (-1000001)) hx hb hown (hts _ kX7_as_0) dX7_as_17 ?_
      refine yk_i [0] (va_runV (As := [.int (-1000001)]) (rest := []) ⟨hx, hb, hml, hown, hts⟩ (c_X7_finding l D cy ta a_flow a_draft a_fence a_past sa ka a_sheets a_speedX a_speedY a_leftward a_change a_table fi (-1000001) H.size) (cwV 1 hts gX7_as_X7_finding rfl rfl rfl hv_X7_finding (yk_room hRf hRl rfl rfl)) (yk_pv (q := (RX7, TX7, 13)) hG hA hS hK hP hD [0] (by decide +kernel) rfl rfl rfl) rfl rfl hl.1 rfl (lv_room (Nat.le_of_ble_eq_true rfl)) dX7_as_19 ⟨Nat.zero_le _, Nat.zero_le _⟩) hP hD hS hA rfl (Eq.trans (b := [ta]) rfl rfl) (fun H locs hP9 hD9 hS9 => ?_)
      replace hP : va_P D vwCl [(ta, .inr (7, [.ref a_flow, .ref a_draft, .ref a_fence, .ref a_past, .ref sa, .ref ka, .ref a_sheets, .ref a_speedX, .ref a_speedY, .ref a_leftward, .ref a_change, .ref a_table, .int ((f_X7_finding fi (-1000001)).2)])), (sa, .inl (cy 3, 4, .inr (.inr (.inr (.inr rf))))), (sx, .inr (1, [.ref sxp, .ref sxq])), (sxp, .inr (3, [.ref sxpn])), (sxpn, .inl (cy 0, 6, .inl su)), (sxq, .inr (3, [.ref sxqn])), (sxqn, .inl (cy 0, 6, .inl sv)), (ka, .inl (cy 0, 4, .inl sk))] H := hP9
      replace hD : va_D A [(ta, .inr (7, [.ref a_flow, .ref a_draft, .ref a_fence, .ref a_past, .ref sa, .ref ka, .ref a_sheets, .ref a_speedX, .ref a_speedY, .ref a_leftward, .ref a_change, .ref a_table, .int ((f_X7_finding fi (-1000001)).2)])), (sa, .inl (cy 3, 4, .inr (.inr (.inr (.inr rf))))), (sx, .inr (1, [.ref sxp, .ref sxq])), (sxp, .inr (3, [.ref sxpn])), (sxpn, .inl (cy 0, 6, .inl su)), (sxq, .inr (3, [.ref sxqn])), (sxqn, .inl (cy 0, 6, .inl sv)), (ka, .inl (cy 0, 4, .inl sk))] := hD9
      replace hS := hS9
      clear hP9 hD9 hS9
      have hF : f_X7_as su sv sk fi px py = (((f_X7_finding fi (-1000001)).1), ((f_X7_finding fi (-1000001)).2)) := hF
      have hf0 := yk_fst hF
      have hg0 := yk_snd hF
      rw [hf0, hg0] at hQ
      exact hQ _ _ _ _ dX7_as_22 hP hS
    · replace hF := hF.trans (if_neg hc2)
      refine lv_iload_n hx hb dX7_as_11 rfl (lv_at hl 2 rfl) ?_
      refine lv_iconst (v := 3) hx hb dX7_as_12 (by decide) ?_
      refine lv_icmp_le (tgt := 23) hx hb dX7_as_13 (by decide) (fun hc3 => ?_) (fun hc3 => ?_)
      · replace hF := hF.trans (if_pos hc3)
        have hq4 : px = nI px.toNatClampNeg := (ix_slot (by assumption)).1
        have hq4b : px.toNatClampNeg < 4 := (ix_slot (by assumption)).2
        rw [hq4] at hl
        refine lv_aload_n hx hb dX7_as_23 rfl (lv_at hl 0 rfl) ?_
        refine va_get (D := D) (ci := 7) (v := .ref ka) (C := RX7) (T := TX7) (N := 13) hx hb hts uX7_as_X7 hown hK hP 0 rfl rfl 5 (by decide) (hts _ kX7_as_1) (fun _ h9 => h9) rfl dX7_as_24 ?_
        refine lv_iload_n hx hb dX7_as_27 rfl (lv_at hl 1 rfl) ?_
        refine yk_ild hx hb hK hP 7 0 rfl rfl px.toNatClampNeg (by omega) (by decide) dX7_as_28 ?_
        refine lv_iconst (v := (-1)) hx hb dX7_as_29 (by decide) ?_
        refine lv_icmp_ne (tgt := 40) hx hb dX7_as_30 (by decide) (fun hc5 => ?_) (fun hc5 => ?_)
        · replace hF := hF.trans (if_neg hc5)
          refine lv_aload_n hx hb dX7_as_40 rfl (lv_at hl 0 rfl) ?_
          refine va_get (D := D) (ci := 7) (v := .ref ka) (C := RX7) (T := TX7) (N := 13) hx hb hts uX7_as_X7 hown hK hP 0 rfl rfl 5 (by decide) (hts _ kX7_as_1) (fun _ h9 => h9) rfl dX7_as_41 ?_
          refine lv_iload_n hx hb dX7_as_44 rfl (lv_at hl 1 rfl) ?_
          refine yk_ild hx hb hK hP 7 0 rfl rfl px.toNatClampNeg (by omega) (by decide) dX7_as_45 ?_
          refine lv_iload_n hx hb dX7_as_46 rfl (lv_at hl 2 rfl) ?_
          refine yk_i [] (va_runS (As := [.int (sk px.toNatClampNeg), .int py]) (rest := []) ⟨hx, hb, hml, hown, hts⟩ (c_X7_isUnder l D cy (sk px.toNatClampNeg) py H.size) (va_cwS 2 hts gX7_as_X7_isUnder rfl rfl rfl hs_X7_isUnder (yk_room hRf hRl rfl rfl)) (yk_ps hG hA hS hK hP hD [] (by decide +kernel) rfl) rfl rfl hl.1 rfl (lv_room (Nat.le_of_ble_eq_true rfl)) dX7_as_47 ⟨Nat.zero_le _, Nat.zero_le _⟩) hP hD hS hA rfl rfl (fun H locs hP9 hD9 hS9 => ?_)
          replace hP : va_P D vwCl [(ta, .inr (7, [.ref a_flow, .ref a_draft, .ref a_fence, .ref a_past, .ref sa, .ref ka, .ref a_sheets, .ref a_speedX, .ref a_speedY, .ref a_leftward, .ref a_change, .ref a_table, .int fi])), (sa, .inl (cy 3, 4, .inr (.inr (.inr (.inr rf))))), (sx, .inr (1, [.ref sxp, .ref sxq])), (sxp, .inr (3, [.ref sxpn])), (sxpn, .inl (cy 0, 6, .inl su)), (sxq, .inr (3, [.ref sxqn])), (sxqn, .inl (cy 0, 6, .inl sv)), (ka, .inl (cy 0, 4, .inl sk))] H := hP9
          replace hD : va_D A [(ta, .inr (7, [.ref a_flow, .ref a_draft, .ref a_fence, .ref a_past, .ref sa, .ref ka, .ref a_sheets, .ref a_speedX, .ref a_speedY, .ref a_leftward, .ref a_change, .ref a_table, .int fi])), (sa, .inl (cy 3, 4, .inr (.inr (.inr (.inr rf))))), (sx, .inr (1, [.ref sxp, .ref sxq])), (sxp, .inr (3, [.ref sxpn])), (sxpn, .inl (cy 0, 6, .inl su)), (sxq, .inr (3, [.ref sxqn])), (sxqn, .inl (cy 0, 6, .inl sv)), (ka, .inl (cy 0, 4, .inl sk))] := hD9
          replace hS := hS9
          clear hP9 hD9 hS9
          refine lv_if_ne (tgt := 60) hx hb dX7_as_50 (by decide) (fun hc6 => ?_) (fun hc6 => ?_)
          · replace hF := hF.trans (if_neg hc6)
            refine lv_aload_n hx hb dX7_as_60 rfl (lv_at hl 0 rfl) ?_
            refine va_get (D := D) (ci := 7) (v := .ref sa) (C := RX7) (T := TX7) (N := 13) hx hb hts uX7_as_X7 hown hK hP 0 rfl rfl 4 (by decide) (hts _ kX7_as_2) (fun _ h9 => h9) rfl dX7_as_61 ?_
            refine lv_iload_n hx hb dX7_as_64 rfl (lv_at hl 1 rfl) ?_
            refine yk_aldq hx hb hK hP 1 3 rfl rfl px.toNatClampNeg (ix_slot (by assumption)).2 (by decide) (hrf (by assumption)) dX7_as_65 ?_
            refine yk_i [2, 3, 4, 5, 6] (va_runV (As := []) (rest := []) ⟨hx, hb, hml, hown, hts⟩ (c_X1_countNotZero l D cy sx sxp sxpn sxq sxqn su sv H.size) (cwV 0 hts gX7_as_X1_countNotZero rfl rfl rfl hv_X1_countNotZero (yk_room hRf hRl rfl rfl)) (yk_pv (q := (RX1, TX1, 2)) hG hA hS hK hP hD [2, 3, 4, 5, 6] (by decide +kernel) rfl rfl rfl) rfl rfl hl.1 rfl (lv_room (Nat.le_of_ble_eq_true rfl)) dX7_as_66 ⟨Nat.zero_le _, Nat.zero_le _⟩) hP hD hS hA rfl (Eq.trans (b := [sx, sxp, sxpn, sxq, sxqn]) rfl rfl) (fun H locs hP9 hD9 hS9 => ?_)
            replace hP : va_P D vwCl [(ta, .inr (7, [.ref a_flow, .ref a_draft, .ref a_fence, .ref a_past, .ref sa, .ref ka, .ref a_sheets, .ref a_speedX, .ref a_speedY, .ref a_leftward, .ref a_change, .ref a_table, .int fi])), (sa, .inl (cy 3, 4, .inr (.inr (.inr (.inr rf))))), (sx, .inr (1, [.ref sxp, .ref sxq])), (sxp, .inr (3, [.ref sxpn])), (sxpn, .inl (cy 0, 6, .inl su)), (sxq, .inr (3, [.ref sxqn])), (sxqn, .inl (cy 0, 6, .inl sv)), (ka, .inl (cy 0, 4, .inl sk))] H := hP9
            replace hD : va_D A [(ta, .inr (7, [.ref a_flow, .ref a_draft, .ref a_fence, .ref a_past, .ref sa, .ref ka, .ref a_sheets, .ref a_speedX, .ref a_speedY, .ref a_leftward, .ref a_change, .ref a_table, .int fi])), (sa, .inl (cy 3, 4, .inr (.inr (.inr (.inr rf))))), (sx, .inr (1, [.ref sxp, .ref sxq])), (sxp, .inr (3, [.ref sxpn])), (sxpn, .inl (cy 0, 6, .inl su)), (sxq, .inr (3, [.ref sxqn])), (sxqn, .inl (cy 0, 6, .inl sv)), (ka, .inl (cy 0, 4, .inl sk))] := hD9
            replace hS := hS9
            clear hP9 hD9 hS9
            have hF : f_X7_as su sv sk fi px py = ((f_X1_countNotZero su sv), fi) := hF
            have hf0 := yk_fst hF
            have hg0 := yk_snd hF
            rw [hf0, hg0] at hQ
            exact hQ _ _ _ _ dX7_as_69 hP hS
          · replace hF := hF.trans (if_pos hc6)
            refine lv_aload_n hx hb dX7_as_53 rfl (lv_at hl 0 rfl) ?_
            refine lv_ldc (v := (-1000004)) hx hb hown (hts _ kX7_as_3) dX7_as_54 ?_
            refine yk_i [0] (va_runV (As := [.int (-1000004)]) (rest := []) ⟨hx, hb, hml, hown, hts⟩ (c_X7_finding l D cy ta a_flow a_draft a_fence a_past sa ka a_sheets a_speedX a_speedY a_leftward a_change a_table fi (-1000004) H.size) (cwV 1 hts gX7_as_X7_finding rfl rfl rfl hv_X7_finding (yk_room hRf hRl rfl rfl)) (yk_pv (q := (RX7, TX7, 13)) hG hA hS hK hP hD [0] (by decide +kernel) rfl rfl rfl) rfl rfl hl.1 rfl (lv_room (Nat.le_of_ble_eq_true rfl)) dX7_as_56 ⟨Nat.zero_le _, Nat.zero_le _⟩) hP hD hS hA rfl (Eq.trans (b := [ta]) rfl rfl) (fun H locs hP9 hD9 hS9 => ?_)
            replace hP : va_P D vwCl [(ta, .inr (7, [.ref a_flow, .ref a_draft, .ref a_fence, .ref a_past, .ref sa, .ref ka, .ref a_sheets, .ref a_speedX, .ref a_speedY, .ref a_leftward, .ref a_change, .ref a_table, .int ((f_X7_finding fi (-1000004)).2)])), (sa, .inl (cy 3, 4, .inr (.inr (.inr (.inr rf))))), (sx, .inr (1, [.ref sxp, .ref sxq])), (sxp, .inr (3, [.ref sxpn])), (sxpn, .inl (cy 0, 6, .inl su)), (sxq, .inr (3, [.ref sxqn])), (sxqn, .inl (cy 0, 6, .inl sv)), (ka, .inl (cy 0, 4, .inl sk))] H := hP9
            replace hD : va_D A [(ta, .inr (7, [.ref a_flow, .ref a_draft, .ref a_fence, .ref a_past, .ref sa, .ref ka, .ref a_sheets, .ref a_speedX, .ref a_speedY, .ref a_leftward, .ref a_change, .ref a_table, .int ((f_X7_finding fi (-1000004)).2)])), (sa, .inl (cy 3, 4, .inr (.inr (.inr (.inr rf))))), (sx, .inr (1, [.ref sxp, .ref sxq])), (sxp, .inr (3, [.ref sxpn])), (sxpn, .inl (cy 0, 6, .inl su)), (sxq, .inr (3, [.ref sxqn])), (sxqn, .inl (cy 0, 6, .inl sv)), (ka, .inl (cy 0, 4, .inl sk))] := hD9
            replace hS := hS9
            clear hP9 hD9 hS9
            have hF : f_X7_as su sv sk fi px py = (((f_X7_finding fi (-1000004)).1), ((f_X7_finding fi (-1000004)).2)) := hF
            have hf0 := yk_fst hF
            have hg0 := yk_snd hF
            rw [hf0, hg0] at hQ
            exact hQ _ _ _ _ dX7_as_59 hP hS
        · replace hF := hF.trans (if_pos hc5)
          refine lv_aload_n hx hb dX7_as_33 rfl (lv_at hl 0 rfl) ?_
          refine lv_ldc (v := (-1000006)) hx hb hown (hts _ kX7_as_4) dX7_as_34 ?_
          refine yk_i [0] (va_runV (As := [.int (-1000006)]) (rest := []) ⟨hx, hb, hml, hown, hts⟩ (c_X7_finding l D cy ta a_flow a_draft a_fence a_past sa ka a_sheets a_speedX a_speedY a_leftward a_change a_table fi (-1000006) H.size) (cwV 1 hts gX7_as_X7_finding rfl rfl rfl hv_X7_finding (yk_room hRf hRl rfl rfl)) (yk_pv (q := (RX7, TX7, 13)) hG hA hS hK hP hD [0] (by decide +kernel) rfl rfl rfl) rfl rfl hl.1 rfl (lv_room (Nat.le_of_ble_eq_true rfl)) dX7_as_36 ⟨Nat.zero_le _, Nat.zero_le _⟩) hP hD hS hA rfl (Eq.trans (b := [ta]) rfl rfl) (fun H locs hP9 hD9 hS9 => ?_)
          replace hP : va_P D vwCl [(ta, .inr (7, [.ref a_flow, .ref a_draft, .ref a_fence, .ref a_past, .ref sa, .ref ka, .ref a_sheets, .ref a_speedX, .ref a_speedY, .ref a_leftward, .ref a_change, .ref a_table, .int ((f_X7_finding fi (-1000006)).2)])), (sa, .inl (cy 3, 4, .inr (.inr (.inr (.inr rf))))), (sx, .inr (1, [.ref sxp, .ref sxq])), (sxp, .inr (3, [.ref sxpn])), (sxpn, .inl (cy 0, 6, .inl su)), (sxq, .inr (3, [.ref sxqn])), (sxqn, .inl (cy 0, 6, .inl sv)), (ka, .inl (cy 0, 4, .inl sk))] H := hP9
          replace hD : va_D A [(ta, .inr (7, [.ref a_flow, .ref a_draft, .ref a_fence, .ref a_past, .ref sa, .ref ka, .ref a_sheets, .ref a_speedX, .ref a_speedY, .ref a_leftward, .ref a_change, .ref a_table, .int ((f_X7_finding fi (-1000006)).2)])), (sa, .inl (cy 3, 4, .inr (.inr (.inr (.inr rf))))), (sx, .inr (1, [.ref sxp, .ref sxq])), (sxp, .inr (3, [.ref sxpn])), (sxpn, .inl (cy 0, 6, .inl su)), (sxq, .inr (3, [.ref sxqn])), (sxqn, .inl (cy 0, 6, .inl sv)), (ka, .inl (cy 0, 4, .inl sk))] := hD9
          replace hS := hS9
          clear hP9 hD9 hS9
          have hF : f_X7_as su sv sk fi px py = (((f_X7_finding fi (-1000006)).1), ((f_X7_finding fi (-1000006)).2)) := hF
          have hf0 := yk_fst hF
          have hg0 := yk_snd hF
          rw [hf0, hg0] at hQ
          exact hQ _ _ _ _ dX7_as_39 hP hS
      · replace hF := hF.trans (if_neg hc3)
        refine lv_aload_n hx hb dX7_as_16 rfl (lv_at hl 0 rfl) ?_
        refine lv_ldc (v := (-1000001)) hx hb hown (hts _ kX7_as_0) dX7_as_17 ?_
        refine yk_i [0] (va_runV (As := [.int (-1000001)]) (rest := []) ⟨hx, hb, hml, hown, hts⟩ (c_X7_finding l D cy ta a_flow a_draft a_fence a_past sa ka a_sheets a_speedX a_speedY a_leftward a_change a_table fi (-1000001) H.size) (cwV 1 hts gX7_as_X7_finding rfl rfl rfl hv_X7_finding (yk_room hRf hRl rfl rfl)) (yk_pv (q := (RX7, TX7, 13)) hG hA hS hK hP hD [0] (by decide +kernel) rfl rfl rfl) rfl rfl hl.1 rfl (lv_room (Nat.le_of_ble_eq_true rfl)) dX7_as_19 ⟨Nat.zero_le _, Nat.zero_le _⟩) hP hD hS hA rfl (Eq.trans (b := [ta]) rfl rfl) (fun H locs hP9 hD9 hS9 => ?_)
        replace hP : va_P D vwCl [(ta, .inr (7, [.ref a_flow, .ref a_draft, .ref a_fence, .ref a_past, .ref sa, .ref ka, .ref a_sheets, .ref a_speedX, .ref a_speedY, .ref a_leftward, .ref a_change, .ref a_table, .int ((f_X7_finding fi (-1000001)).2)])), (sa, .inl (cy 3, 4, .inr (.inr (.inr (.inr rf))))), (sx, .inr (1, [.ref sxp, .ref sxq])), (sxp, .inr (3, [.ref sxpn])), (sxpn, .inl (cy 0, 6, .inl su)), (sxq, .inr (3, [.ref sxqn])), (sxqn, .inl (cy 0, 6, .inl sv)), (ka, .inl (cy 0, 4, .inl sk))] H := hP9
        replace hD : va_D A [(ta, .inr (7, [.ref a_flow, .ref a_draft, .ref a_fence, .ref a_past, .ref sa, .ref ka, .ref a_sheets, .ref a_speedX, .ref a_speedY, .ref a_leftward, .ref a_change, .ref a_table, .int ((f_X7_finding fi (-1000001)).2)])), (sa, .inl (cy 3, 4, .inr (.inr (.inr (.inr rf))))), (sx, .inr (1, [.ref sxp, .ref sxq])), (sxp, .inr (3, [.ref sxpn])), (sxpn, .inl (cy 0, 6, .inl su)), (sxq, .inr (3, [.ref sxqn])), (sxqn, .inl (cy 0, 6, .inl sv)), (ka, .inl (cy 0, 4, .inl sk))] := hD9
        replace hS := hS9
        clear hP9 hD9 hS9
        have hF : f_X7_as su sv sk fi px py = (((f_X7_finding fi (-1000001)).1), ((f_X7_finding fi (-1000001)).2)) := hF
        have hf0 := yk_fst hF
        have hg0 := yk_snd hF
        rw [hf0, hg0] at hQ
        exact hQ _ _ _ _ dX7_as_22 hP hS
