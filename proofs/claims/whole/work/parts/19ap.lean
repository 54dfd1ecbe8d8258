theorem hv_X4_follow : yX4_follow.cls = RX4 ∧ yX4_follow.cls ≠ "java/lang/invoke/MethodHandle" ∧ yX4_follow.cls ≠ "java/lang/invoke/VarHandle" ∧ (parseMethodDescriptor yX4_follow.desc).map (fun d => d.parameters.length) = some 3 := by decide +kernel
theorem hs_X4_follow : yX4_follow.cls ≠ "java/lang/invoke/MethodHandle" ∧ yX4_follow.cls ≠ "java/lang/invoke/VarHandle" ∧ (parseMethodDescriptor yX4_follow.desc).map (fun d => d.parameters.length) = some 3 := by decide +kernel
theorem kX7_refusalOfPiece_0 : Cond.constant RX7 83 (-1000001) ∈ wsX7_refusalOfPiece := by decide +kernel
theorem kX7_refusalOfPiece_1 : Cond.fieldLink RX7 22 "FlowPlane" "fence" "LFlowPlane$Fence;" ∈ wsX7_refusalOfPiece := by decide +kernel
theorem kX7_refusalOfPiece_2 : Cond.fieldLink RX7 160 "FlowPlane$Fence" "count" "I" ∈ wsX7_refusalOfPiece := by decide +kernel
theorem kX7_refusalOfPiece_3 : Cond.constant RX7 159 (-1000003) ∈ wsX7_refusalOfPiece := by decide +kernel
theorem uX7_refusalOfPiece_X7 : ∀ w ∈ u_ws RX7 TX7 13, w ∈ wsX7_refusalOfPiece := by decide +kernel
theorem uX7_refusalOfPiece_X0 : ∀ w ∈ u_ws RX0 TX0 3, w ∈ wsX7_refusalOfPiece := by decide +kernel
def f_X7_refusalOfPiece (xs : Nat → Int32) (ys : Nat → Int32) (n : Nat) (px : Int32) : Int32 := (if px < 0 then (-1000001) else (if px < (nI n) then (if (f_X0_stepX xs px.toNatClampNeg) = 0 then (if (f_X0_stepY ys px.toNatClampNeg) = 0 then (-1000003) else 0) else 0) else (-1000001)))
set_option maxHeartbeats 400000000 in
set_option maxRecDepth 100000 in
theorem c_X7_refusalOfPiece (l : Launch) (D : va_G) (cy : Nat → ClassId) (ta : Nat) (ea : Nat) (eax : Nat) (eay : Nat) (a_flow : Nat) (a_draft : Nat) (a_past : Nat) (a_slots : Nat) (a_slotKinds : Nat) (a_sheets : Nat) (a_speedX : Nat) (a_speedY : Nat) (a_leftward : Nat) (a_change : Nat) (a_table : Nat) (xs : Nat → Int32) (ys : Nat → Int32) (n : Nat) (fi : Int32) (px : Int32) (hn : n ≤ 8) : yk_Ci l D vwCl (yk_ty cy) yX7_refusalOfPiece wsX7_refusalOfPiece 1 21 [.ref ta, .int px] [(ta, .inr (7, [.ref a_flow, .ref a_draft, .ref ea, .ref a_past, .ref a_slots, .ref a_slotKinds, .ref a_sheets, .ref a_speedX, .ref a_speedY, .ref a_leftward, .ref a_change, .ref a_table, .int fi])), (ea, .inr (0, [.ref eax, .ref eay, .int (nI n)])), (eax, .inl (cy 0, 9, .inl xs)), (eay, .inl (cy 0, 9, .inl ys))] (f_X7_refusalOfPiece xs ys n px) [(ta, .inr (7, [.ref a_flow, .ref a_draft, .ref ea, .ref a_past, .ref a_slots, .ref a_slotKinds, .ref a_sheets, .ref a_speedX, .ref a_speedY, .ref a_leftward, .ref a_change, .ref a_table, .int fi])), (ea, .inr (0, [.ref eax, .ref eay, .int (nI n)])), (eax, .inl (cy 0, 9, .inl xs)), (eay, .inl (cy 0, 9, .inl ys))] := by
  refine yk_eI (cc := cX7_refusalOfPiece) (maxL := 2) (by decide) rfl (Nat.le_of_ble_eq_true rfl) rfl ?_
  intro p e R s m args below meth c A Q ls H locs hx hb hml hown hts hRf hRl hA hK hG hP hD hS hl hQ
  have hP : va_P D vwCl [(ta, .inr (7, [.ref a_flow, .ref a_draft, .ref ea, .ref a_past, .ref a_slots, .ref a_slotKinds, .ref a_sheets, .ref a_speedX, .ref a_speedY, .ref a_leftward, .ref a_change, .ref a_table, .int fi])), (ea, .inr (0, [.ref eax, .ref eay, .int (nI n)])), (eax, .inl (cy 0, 9, .inl xs)), (eay, .inl (cy 0, 9, .inl ys))] H := hP
  have hl : lv_has ls 2 [(0, .ref ta), (1, .int px)] := hl
  have hown : s.vm.findClass RX7 = some m.cls := hown
  have hF : (f_X7_refusalOfPiece xs ys n px) = (f_X7_refusalOfPiece xs ys n px) := rfl
  refine lv_iload_n hx hb dX7_refusalOfPiece_0 rfl (lv_at hl 1 rfl) ?_
  refine lv_if_lt (tgt := 15) hx hb dX7_refusalOfPiece_1 (by decide) (fun hc1 => ?_) (fun hc1 => ?_)
  · replace hF := hF.trans (if_pos hc1)
    refine lv_ldc (v := (-1000001)) hx hb hown (hts _ kX7_refusalOfPiece_0) dX7_refusalOfPiece_15 ?_
    have hF : f_X7_refusalOfPiece xs ys n px = (-1000001) := hF
    rw [hF] at hQ
    exact hQ _ _ _ _ dX7_refusalOfPiece_17 hP hS
  · replace hF := hF.trans (if_neg hc1)
    refine lv_iload_n hx hb dX7_refusalOfPiece_4 rfl (lv_at hl 1 rfl) ?_
    refine lv_aload_n hx hb dX7_refusalOfPiece_5 rfl (lv_at hl 0 rfl) ?_
    refine va_get (D := D) (ci := 7) (v := .ref ea) (C := RX7) (T := TX7) (N := 13) hx hb hts uX7_refusalOfPiece_X7 hown hK hP 0 rfl rfl 2 (by decide) (hts _ kX7_refusalOfPiece_1) (fun _ h9 => h9) rfl dX7_refusalOfPiece_6 ?_
    refine va_get (D := D) (ci := 0) (v := .int (nI n)) (C := RX0) (T := TX0) (N := 3) hx hb hts uX7_refusalOfPiece_X0 hown hK hP 1 rfl rfl 2 (by decide) (hts _ kX7_refusalOfPiece_2) (fun _ h9 => h9) rfl dX7_refusalOfPiece_9 ?_
    refine lv_icmp_lt (tgt := 18) hx hb dX7_refusalOfPiece_12 (by decide) (fun hc2 => ?_) (fun hc2 => ?_)
    · replace hF := hF.trans (if_pos hc2)
      have hq3 : px = nI px.toNatClampNeg := (ix_pc hn (by assumption) (by assumption)).1
      have hq3b : px.toNatClampNeg < n := (ix_pc hn (by assumption) (by assumption)).2
      rw [hq3] at hl
      refine lv_aload_n hx hb dX7_refusalOfPiece_18 rfl (lv_at hl 0 rfl) ?_
      refine va_get (D := D) (ci := 7) (v := .ref ea) (C := RX7) (T := TX7) (N := 13) hx hb hts uX7_refusalOfPiece_X7 hown hK hP 0 rfl rfl 2 (by decide) (hts _ kX7_refusalOfPiece_1) (fun _ h9 => h9) rfl dX7_refusalOfPiece_19 ?_
      refine lv_iload_n hx hb dX7_refusalOfPiece_22 rfl (lv_at hl 1 rfl) ?_
      refine yk_i [1, 2, 3] (va_runV (As := [.int (nI px.toNatClampNeg)]) (rest := []) ⟨hx, hb, hml, hown, hts⟩ (c_X0_stepX l D cy ea eax eay xs ys n px.toNatClampNeg hn (by omega) H.size) (cwV 1 hts gX7_refusalOfPiece_X0_stepX rfl rfl rfl hv_X0_stepX (yk_room hRf hRl rfl rfl)) (yk_pv (q := (RX0, TX0, 3)) hG hA hS hK hP hD [1, 2, 3] (by decide +kernel) rfl rfl rfl) rfl rfl hl.1 rfl (lv_room (Nat.le_of_ble_eq_true rfl)) dX7_refusalOfPiece_23 ⟨Nat.zero_le _, Nat.zero_le _⟩) hP hD hS hA rfl (Eq.trans (b := [ea, eax, eay]) rfl rfl) (fun H locs hP9 hD9 hS9 => ?_)
      replace hP : va_P D vwCl [(ta, .inr (7, [.ref a_flow, .ref a_draft, .ref ea, .ref a_past, .ref a_slots, .ref a_slotKinds, .ref a_sheets, .ref a_speedX, .ref a_speedY, .ref a_leftward, .ref a_change, .ref a_table, .int fi])), (ea, .inr (0, [.ref eax, .ref eay, .int (nI n)])), (eax, .inl (cy 0, 9, .inl xs)), (eay, .inl (cy 0, 9, .inl ys))] H := hP9
      replace hD : va_D A [(ta, .inr (7, [.ref a_flow, .ref a_draft, .ref ea, .ref a_past, .ref a_slots, .ref a_slotKinds, .ref a_sheets, .ref a_speedX, .ref a_speedY, .ref a_leftward, .ref a_change, .ref a_table, .int fi])), (ea, .inr (0, [.ref eax, .ref eay, .int (nI n)])), (eax, .inl (cy 0, 9, .inl xs)), (eay, .inl (cy 0, 9, .inl ys))] := hD9
      replace hS := hS9
      clear hP9 hD9 hS9
      have J7 : ∀ (v6 : Int32) (H : Heap) (locs : List Loc) (ls : Array Slot), v6 = (if (f_X0_stepX xs px.toNatClampNeg) = 0 then (if (f_X0_stepY ys px.toNatClampNeg) = 0 then (-1000003) else 0) else 0) → va_P D vwCl [(ta, .inr (7, [.ref a_flow, .ref a_draft, .ref ea, .ref a_past, .ref a_slots, .ref a_slotKinds, .ref a_sheets, .ref a_speedX, .ref a_speedY, .ref a_leftward, .ref a_change, .ref a_table, .int fi])), (ea, .inr (0, [.ref eax, .ref eay, .int (nI n)])), (eax, .inl (cy 0, 9, .inl xs)), (eay, .inl (cy 0, 9, .inl ys))] H → va_D A [(ta, .inr (7, [.ref a_flow, .ref a_draft, .ref ea, .ref a_past, .ref a_slots, .ref a_slotKinds, .ref a_sheets, .ref a_speedX, .ref a_speedY, .ref a_leftward, .ref a_change, .ref a_table, .int fi])), (ea, .inr (0, [.ref eax, .ref eay, .int (nI n)])), (eax, .inl (cy 0, 9, .inl xs)), (eay, .inl (cy 0, 9, .inl ys))] → va_S A s.heap H locs → lv_has ls 2 [(0, .ref ta), (1, .int (nI px.toNatClampNeg))] → W p l e R s m args below meth c H locs 0 0 Q (F0 m 46 ls [.int v6]) := by
        clear hP hD hS hl
        intro v6 H locs ls ev6
        rw [ev6]
        clear ev6
        intro hP hD hS hl
        have hF : f_X7_refusalOfPiece xs ys n px = (if (f_X0_stepX xs px.toNatClampNeg) = 0 then (if (f_X0_stepY ys px.toNatClampNeg) = 0 then (-1000003) else 0) else 0) := hF
        rw [hF] at hQ
        exact hQ _ _ _ _ dX7_refusalOfPiece_46 hP hS
      refine lv_if_ne (tgt := 45) hx hb dX7_refusalOfPiece_26 (by decide) (fun hc4 => ?_) (fun hc4 => ?_)
      · refine lv_iconst (v := 0) hx hb dX7_refusalOfPiece_45 (by decide) ?_
        exact J7 _ _ _ _ ((if_neg hc4).symm) hP hD hS (lv_sub hl [0, 1] rfl)
      · refine lv_aload_n hx hb dX7_refusalOfPiece_29 rfl (lv_at hl 0 rfl) ?_
        refine va_get (D := D) (ci := 7) (v := .ref ea) (C := RX7) (T := TX7) (N := 13) hx hb hts uX7_refusalOfPiece_X7 hown hK hP 0 rfl rfl 2 (by decide) (hts _ kX7_refusalOfPiece_1) (fun _ h9 => h9) rfl dX7_refusalOfPiece_30 ?_
        refine lv_iload_n hx hb dX7_refusalOfPiece_33 rfl (lv_at hl 1 rfl) ?_
        refine yk_i [1, 2, 3] (va_runV (As := [.int (nI px.toNatClampNeg)]) (rest := []) ⟨hx, hb, hml, hown, hts⟩ (c_X0_stepY l D cy ea eax eay xs ys n px.toNatClampNeg hn (by omega) H.size) (cwV 1 hts gX7_refusalOfPiece_X0_stepY rfl rfl rfl hv_X0_stepY (yk_room hRf hRl rfl rfl)) (yk_pv (q := (RX0, TX0, 3)) hG hA hS hK hP hD [1, 2, 3] (by decide +kernel) rfl rfl rfl) rfl rfl hl.1 rfl (lv_room (Nat.le_of_ble_eq_true rfl)) dX7_refusalOfPiece_34 ⟨Nat.zero_le _, Nat.zero_le _⟩) hP hD hS hA rfl (Eq.trans (b := [ea, eax, eay]) rfl rfl) (fun H locs hP9 hD9 hS9 => ?_)
        replace hP : va_P D vwCl [(ta, .inr (7, [.ref a_flow, .ref a_draft, .ref ea, .ref a_past, .ref a_slots, .ref a_slotKinds, .ref a_sheets, .ref a_speedX, .ref a_speedY, .ref a_leftward, .ref a_change, .ref a_table, .int fi])), (ea, .inr (0, [.ref eax, .ref eay, .int (nI n)])), (eax, .inl (cy 0, 9, .inl xs)), (eay, .inl (cy 0, 9, .inl ys))] H := hP9
        replace hD : va_D A [(ta, .inr (7, [.ref a_flow, .ref a_draft, .ref ea, .ref a_past, .ref a_slots, .ref a_slotKinds, .ref a_sheets, .ref a_speedX, .ref a_speedY, .ref a_leftward, .ref a_change, .ref a_table, .int fi])), (ea, .inr (0, [.ref eax, .ref eay, .int (nI n)])), (eax, .inl (cy 0, 9, .inl xs)), (eay, .inl (cy 0, 9, .inl ys))] := hD9
        replace hS := hS9
        clear hP9 hD9 hS9
        refine lv_if_ne (tgt := 45) hx hb dX7_refusalOfPiece_37 (by decide) (fun hc5 => ?_) (fun hc5 => ?_)
        · refine lv_iconst (v := 0) hx hb dX7_refusalOfPiece_45 (by decide) ?_
          exact J7 _ _ _ _ (((if_pos hc4).trans (if_neg hc5)).symm) hP hD hS (lv_sub hl [0, 1] rfl)
        · refine lv_ldc (v := (-1000003)) hx hb hown (hts _ kX7_refusalOfPiece_3) dX7_refusalOfPiece_40 ?_
          refine lv_goto (tgt := 46) hx hb dX7_refusalOfPiece_42 (by decide) ?_
          exact J7 _ _ _ _ (((if_pos hc4).trans (if_pos hc5)).symm) hP hD hS (lv_sub hl [0, 1] rfl)
    · replace hF := hF.trans (if_neg hc2)
      refine lv_ldc (v := (-1000001)) hx hb hown (hts _ kX7_refusalOfPiece_0) dX7_refusalOfPiece_15 ?_
      have hF : f_X7_refusalOfPiece xs ys n px = (-1000001) := hF
      rw [hF] at hQ
      exact hQ _ _ _ _ dX7_refusalOfPiece_17 hP hS

theorem rf_ok {xs ys : Nat → Int32} {n : Nat} {x : Int32} (hn : n ≤ 8) (h : f_X7_refusalOfPiece xs ys n x = 0) : x = nI x.toNatClampNeg ∧ x.toNatClampNeg < n := by
  unfold f_X7_refusalOfPiece at h
  by_cases h0 : x < 0
  · rw [if_pos h0] at h; exact absurd h (by decide)
  · rw [if_neg h0] at h
    by_cases h1 : x < nI n
    · exact ix_pc hn h0 h1
    · rw [if_neg h1] at h; exact absurd h (by decide)

theorem kX7_followSpeeds_0 : Cond.fieldLink RX7 51 "FlowPlane" "speedX" "LFlowPlane$Quadratic;" ∈ wsX7_followSpeeds := by decide +kernel
theorem kX7_followSpeeds_1 : Cond.fieldLink RX7 10 "FlowPlane" "flow" "LFlowPlane$Flow;" ∈ wsX7_followSpeeds := by decide +kernel
theorem kX7_followSpeeds_2 : Cond.fieldLink RX7 117 "FlowPlane$Flow" "p" "LFlowPlane$Polynomial;" ∈ wsX7_followSpeeds := by decide +kernel
theorem kX7_followSpeeds_3 : Cond.fieldLink RX7 22 "FlowPlane" "fence" "LFlowPlane$Fence;" ∈ wsX7_followSpeeds := by decide +kernel
theorem kX7_followSpeeds_4 : Cond.fieldLink RX7 55 "FlowPlane" "speedY" "LFlowPlane$Quadratic;" ∈ wsX7_followSpeeds := by decide +kernel
theorem kX7_followSpeeds_5 : Cond.fieldLink RX7 125 "FlowPlane$Flow" "q" "LFlowPlane$Polynomial;" ∈ wsX7_followSpeeds := by decide +kernel
theorem uX7_followSpeeds_X7 : ∀ w ∈ u_ws RX7 TX7 13, w ∈ wsX7_followSpeeds := by decide +kernel
theorem uX7_followSpeeds_X1 : ∀ w ∈ u_ws RX1 TX1 2, w ∈ wsX7_followSpeeds := by decide +kernel
def f_X7_followSpeeds (fu : Nat → Int32) (fv : Nat → Int32) (xs : Nat → Int32) (ys : Nat → Int32) (k : Nat) : Int64 × Int64 × Int64 × Int64 × Int64 × Int64 := (((f_X4_follow fu xs ys k).1), ((f_X4_follow fu xs ys k).2.1), ((f_X4_follow fu xs ys k).2.2), ((f_X4_follow fv xs ys k).1), ((f_X4_follow fv xs ys k).2.1), ((f_X4_follow fv xs ys k).2.2))
set_option maxHeartbeats 400000000 in
set_option maxRecDepth 100000 in
theorem c_X7_followSpeeds (l : Launch) (D : va_G) (cy : Nat → ClassId) (ta : Nat) (fa : Nat) (fap : Nat) (fapn : Nat) (faq : Nat) (faqn : Nat) (ea : Nat) (eax : Nat) (eay : Nat) (qxa : Nat) (qya : Nat) (a_draft : Nat) (a_past : Nat) (a_slots : Nat) (a_slotKinds : Nat) (a_sheets : Nat) (a_leftward : Nat) (a_change : Nat) (a_table : Nat) (fu : Nat → Int32) (fv : Nat → Int32) (xs : Nat → Int32) (ys : Nat → Int32) (n : Nat) (ax : Int64) (bx : Int64) (cx : Int64) (ay : Int64) (by_ : Int64) (cy_ : Int64) (fi : Int32) (k : Nat) (hn : n ≤ 8) (hk : k < 8) : yk_Cv l D vwCl (yk_ty cy) yX7_followSpeeds wsX7_followSpeeds 3 71 [.ref ta, .int (nI k)] [(ta, .inr (7, [.ref fa, .ref a_draft, .ref ea, .ref a_past, .ref a_slots, .ref a_slotKinds, .ref a_sheets, .ref qxa, .ref qya, .ref a_leftward, .ref a_change, .ref a_table, .int fi])), (fa, .inr (1, [.ref fap, .ref faq])), (fap, .inr (3, [.ref fapn])), (fapn, .inl (cy 0, 6, .inl fu)), (faq, .inr (3, [.ref faqn])), (faqn, .inl (cy 0, 6, .inl fv)), (ea, .inr (0, [.ref eax, .ref eay, .int (nI n)])), (eax, .inl (cy 0, 9, .inl xs)), (eay, .inl (cy 0, 9, .inl ys)), (qxa, .inr (4, [.long ax, .long bx, .long cx])), (qya, .inr (4, [.long ay, .long by_, .long cy_]))] [(ta, .inr (7, [.ref fa, .ref a_draft, .ref ea, .ref a_past, .ref a_slots, .ref a_slotKinds, .ref a_sheets, .ref qxa, .ref qya, .ref a_leftward, .ref a_change, .ref a_table, .int fi])), (fa, .inr (1, [.ref fap, .ref faq])), (fap, .inr (3, [.ref fapn])), (fapn, .inl (cy 0, 6, .inl fu)), (faq, .inr (3, [.ref faqn])), (faqn, .inl (cy 0, 6, .inl fv)), (ea, .inr (0, [.ref eax, .ref eay, .int (nI n)])), (eax, .inl (cy 0, 9, .inl xs)), (eay, .inl (cy 0, 9, .inl ys)), (qxa, .inr (4, [.long ((f_X7_followSpeeds fu fv xs ys k).1), .long ((f_X7_followSpeeds fu fv xs ys k).2.1), .long ((f_X7_followSpeeds fu fv xs ys k).2.2.1)])), (qya, .inr (4, [.long ((f_X7_followSpeeds fu fv xs ys k).2.2.2.1), .long ((f_X7_followSpeeds fu fv xs ys k).2.2.2.2.1), .long ((f_X7_followSpeeds fu fv xs ys k).2.2.2.2.2)]))] := by
  refine yk_eV (cc := cX7_followSpeeds) (maxL := 2) (by decide) rfl (Nat.le_of_ble_eq_true rfl) ?_
  intro p e R s m args below meth c A Q ls H locs hx hb hml hown hts hRf hRl hA hK hG hP hD hS hl hQ
  have hP : va_P D vwCl [(ta, .inr (7, [.ref fa, .ref a_draft, .ref ea, .ref a_past, .ref a_slots, .ref a_slotKinds, .ref a_sheets, .ref qxa, .ref qya, .ref a_leftward, .ref a_change, .ref a_table, .int fi])), (fa, .inr (1, [.ref fap, .ref faq])), (fap, .inr (3, [.ref fapn])), (fapn, .inl (cy 0, 6, .inl fu)), (faq, .inr (3, [.ref faqn])), (faqn, .inl (cy 0, 6, .inl fv)), (ea, .inr (0, [.ref eax, .ref eay, .int (nI n)])), (eax, .inl (cy 0, 9, .inl xs)), (eay, .inl (cy 0, 9, .inl ys)), (qxa, .inr (4, [.long ax, .long bx, .long cx])), (qya, .inr (4, [.long ay, .long by_, .long cy_]))] H := hP
  have hl : lv_has ls 2 [(0, .ref ta), (1, .int (nI k))] := hl
  have hown : s.vm.findClass RX7 = some m.cls := hown
  have hF : (f_X7_followSpeeds fu fv xs ys k) = (f_X7_followSpeeds fu fv xs ys k) := rfl
  refine lv_aload_n hx hb dX7_followSpeeds_0 rfl (lv_at hl 0 rfl) ?_
  refine va_get (D := D) (ci := 7) (v := .ref qxa) (C := RX7) (T := TX7) (N := 13) hx hb hts uX7_followSpeeds_X7 hown hK hP 0 rfl rfl 7 (by decide) (hts _ kX7_followSpeeds_0) (fun _ h9 => h9) rfl dX7_followSpeeds_1 ?_
  refine lv_aload_n hx hb dX7_followSpeeds_4 rfl (lv_at hl 0 rfl) ?_
  refine va_get (D := D) (ci := 7) (v := .ref fa) (C := RX7) (T := TX7) (N := 13) hx hb hts uX7_followSpeeds_X7 hown hK hP 0 rfl rfl 0 (by decide) (hts _ kX7_followSpeeds_1) (fun _ h9 => h9) rfl dX7_followSpeeds_5 ?_
  refine va_get (D := D) (ci := 1) (v := .ref fap) (C := RX1) (T := TX1) (N := 2) hx hb hts uX7_followSpeeds_X1 hown hK hP 1 rfl rfl 0 (by decide) (hts _ kX7_followSpeeds_2) (fun _ h9 => h9) rfl dX7_followSpeeds_8 ?_
  refine lv_aload_n hx hb dX7_followSpeeds_11 rfl (lv_at hl 0 rfl) ?_
  refine va_get (D := D) (ci := 7) (v := .ref ea) (C := RX7) (T := TX7) (N := 13) hx hb hts uX7_followSpeeds_X7 hown hK hP 0 rfl rfl 2 (by decide) (hts _ kX7_followSpeeds_3) (fun _ h9 => h9) rfl dX7_followSpeeds_12 ?_
  refine lv_iload_n hx hb dX7_followSpeeds_15 rfl (lv_at hl 1 rfl) ?_
  refine yk_v [9, 2, 3, 6, 7, 8] (va_runV (As := [.ref fap, .ref ea, .int (nI k)]) (rest := []) ⟨hx, hb, hml, hown, hts⟩ (c_X4_follow l D cy qxa fap fapn ea eax eay ax bx cx fu xs ys n k hn hk H.size) (cwV 3 hts gX7_followSpeeds_X4_follow rfl rfl rfl hv_X4_follow (yk_room hRf hRl rfl rfl)) (yk_pv (q := (RX4, TX4, 3)) hG hA hS hK hP hD [9, 2, 3, 6, 7, 8] (by decide +kernel) rfl rfl rfl) rfl rfl hl.1 rfl (lv_room (Nat.le_of_ble_eq_true rfl)) dX7_followSpeeds_16 ⟨Nat.zero_le _, Nat.zero_le _⟩) hP hD hS hA rfl (Eq.trans (b := [qxa, fap, fapn, ea, eax, eay]) rfl rfl) (fun H locs hP9 hD9 hS9 => ?_)
  replace hP : va_P D vwCl [(ta, .inr (7, [.ref fa, .ref a_draft, .ref ea, .ref a_past, .ref a_slots, .ref a_slotKinds, .ref a_sheets, .ref qxa, .ref qya, .ref a_leftward, .ref a_change, .ref a_table, .int fi])), (fa, .inr (1, [.ref fap, .ref faq])), (fap, .inr (3, [.ref fapn])), (fapn, .inl (cy 0, 6, .inl fu)), (faq, .inr (3, [.ref faqn])), (faqn, .inl (cy 0, 6, .inl fv)), (ea, .inr (0, [.ref eax, .ref eay, .int (nI n)])), (eax, .inl (cy 0, 9, .inl xs)), (eay, .inl (cy 0, 9, .inl ys)), (qxa, .inr (4, [.long ((f_X4_follow fu xs ys k).1), .long ((f_X4_follow fu xs ys k).2.1), .long ((f_X4_follow fu xs ys k).2.2)])), (qya, .inr (4, [.long ay, .long by_, .long cy_]))] H := hP9
  replace hD : va_D A [(ta, .inr (7, [.ref fa, .ref a_draft, .ref ea, .ref a_past, .ref a_slots, .ref a_slotKinds, .ref a_sheets, .ref qxa, .ref qya, .ref a_leftward, .ref a_change, .ref a_table, .int fi])), (fa, .inr (1, [.ref fap, .ref faq])), (fap, .inr (3, [.ref fapn])), (fapn, .inl (cy 0, 6, .inl fu)), (faq, .inr (3, [.ref faqn])), (faqn, .inl (cy 0, 6, .inl fv)), (ea, .inr (0, [.ref eax, .ref eay, .int (nI n)])), (eax, .inl (cy 0, 9, .inl xs)), (eay, .inl (cy 0, 9, .inl ys)), (qxa, .inr (4, [.long ((f_X4_follow fu xs ys k).1), .long ((f_X4_follow fu xs ys k).2.1), .long ((f_X4_follow fu xs ys k).2.2)])), (qya, .inr (4, [.long ay, .long by_, .long cy_]))] := hD9
  replace hS := hS9
  clear hP9 hD9 hS9
  refine lv_aload_n hx hb dX7_followSpeeds_19 rfl (lv_at hl 0 rfl) ?_
  refine va_get (D := D) (ci := 7) (v := .ref qya) (C := RX7) (T := TX7) (N := 13) hx hb hts uX7_followSpeeds_X7 hown hK hP 0 rfl rfl 8 (by decide) (hts _ kX7_followSpeeds_4) (fun _ h9 => h9) rfl dX7_followSpeeds_20 ?_
  refine lv_aload_n hx hb dX7_followSpeeds_23 rfl (lv_at hl 0 rfl) ?_
  refine va_get (D := D) (ci := 7) (v := .ref fa) (C := RX7) (T := TX7) (N := 13) hx hb hts uX7_followSpeeds_X7 hown hK hP 0 rfl rfl 0 (by decide) (hts _ kX7_followSpeeds_1) (fun _ h9 => h9) rfl dX7_followSpeeds_24 ?_
  refine va_get (D := D) (ci := 1) (v := .ref faq) (C := RX1) (T := TX1) (N := 2) hx hb hts uX7_followSpeeds_X1 hown hK hP 1 rfl rfl 1 (by decide) (hts _ kX7_followSpeeds_5) (fun _ h9 => h9) rfl dX7_followSpeeds_27 ?_
  refine lv_aload_n hx hb dX7_followSpeeds_30 rfl (lv_at hl 0 rfl) ?_
  refine va_get (D := D) (ci := 7) (v := .ref ea) (C := RX7) (T := TX7) (N := 13) hx hb hts uX7_followSpeeds_X7 hown hK hP 0 rfl rfl 2 (by decide) (hts _ kX7_followSpeeds_3) (fun _ h9 => h9) rfl dX7_followSpeeds_31 ?_
  refine lv_iload_n hx hb dX7_followSpeeds_34 rfl (lv_at hl 1 rfl) ?_
  refine yk_v [10, 4, 5, 6, 7, 8] (va_runV (As := [.ref faq, .ref ea, .int (nI k)]) (rest := []) ⟨hx, hb, hml, hown, hts⟩ (c_X4_follow l D cy qya faq faqn ea eax eay ay by_ cy_ fv xs ys n k hn hk H.size) (cwV 3 hts gX7_followSpeeds_X4_follow rfl rfl rfl hv_X4_follow (yk_room hRf hRl rfl rfl)) (yk_pv (q := (RX4, TX4, 3)) hG hA hS hK hP hD [10, 4, 5, 6, 7, 8] (by decide +kernel) rfl rfl rfl) rfl rfl hl.1 rfl (lv_room (Nat.le_of_ble_eq_true rfl)) dX7_followSpeeds_35 ⟨Nat.zero_le _, Nat.zero_le _⟩) hP hD hS hA rfl (Eq.trans (b := [qya, faq, faqn, ea, eax, eay]) rfl rfl) (fun H locs hP9 hD9 hS9 => ?_)
  replace hP : va_P D vwCl [(ta, .inr (7, [.ref fa, .ref a_draft, .ref ea, .ref a_past, .ref a_slots, .ref a_slotKinds, .ref a_sheets, .ref qxa, .ref qya, .ref a_leftward, .ref a_change, .ref a_table, .int fi])), (fa, .inr (1, [.ref fap, .ref faq])), (fap, .inr (3, [.ref fapn])), (fapn, .inl (cy 0, 6, .inl fu)), (faq, .inr (3, [.ref faqn])), (faqn, .inl (cy 0, 6, .inl fv)), (ea, .inr (0, [.ref eax, .ref eay, .int (nI n)])), (eax, .inl (cy 0, 9, .inl xs)), (eay, .inl (cy 0, 9, .inl ys)), (qxa, .inr (4, [.long ((f_X4_follow fu xs ys k).1), .long ((f_X4_follow fu xs ys k).2.1), .long ((f_X4_follow fu xs ys k).2.2)])), (qya, .inr (4, [.long ((f_X4_follow fv xs ys k).1), .long ((f_X4_follow fv xs ys k).2.1), .long ((f_X4_follow fv xs ys k).2.2)]))] H := hP9
  replace hD : va_D A [(ta, .inr (7, [.ref fa, .ref a_draft, .ref ea, .ref a_past, .ref a_slots, .ref a_slotKinds, .ref a_sheets, .ref qxa, .ref qya, .ref a_leftward, .ref a_change, .ref a_table, .int fi])), (fa, .inr (1, [.ref fap, .ref faq])), (fap, .inr (3, [.ref fapn])), (fapn, .inl (cy 0, 6, .inl fu)), (faq, .inr (3, [.ref faqn])), (faqn, .inl (cy 0, 6, .inl fv)), (ea, .inr (0, [.ref eax, .ref eay, .int (nI n)])), (eax, .inl (cy 0, 9, .inl xs)), (eay, .inl (cy 0, 9, .inl ys)), (qxa, .inr (4, [.long ((f_X4_follow fu xs ys k).1), .long ((f_X4_follow fu xs ys k).2.1), .long ((f_X4_follow fu xs ys k).2.2)])), (qya, .inr (4, [.long ((f_X4_follow fv xs ys k).1), .long ((f_X4_follow fv xs ys k).2.1), .long ((f_X4_follow fv xs ys k).2.2)]))] := hD9
  replace hS := hS9
  clear hP9 hD9 hS9
  have hF : f_X7_followSpeeds fu fv xs ys k = (((f_X4_follow fu xs ys k).1), ((f_X4_follow fu xs ys k).2.1), ((f_X4_follow fu xs ys k).2.2), ((f_X4_follow fv xs ys k).1), ((f_X4_follow fv xs ys k).2.1), ((f_X4_follow fv xs ys k).2.2)) := hF
  have hf0 := yk_fst hF
  have hg0 := yk_snd hF
  have hf1 := yk_fst hg0
  have hg1 := yk_snd hg0
  have hf2 := yk_fst hg1
  have hg2 := yk_snd hg1
  have hf3 := yk_fst hg2
  have hg3 := yk_snd hg2
  have hf4 := yk_fst hg3
  have hg4 := yk_snd hg3
  rw [hf0, hf1, hf2, hf3, hf4, hg4] at hQ
  exact hQ _ _ _ _ dX7_followSpeeds_38 hP hS
