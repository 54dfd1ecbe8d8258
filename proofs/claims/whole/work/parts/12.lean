theorem hv_X0_leftOf : yX0_leftOf.cls = RX0 ∧ yX0_leftOf.cls ≠ "java/lang/invoke/MethodHandle" ∧ yX0_leftOf.cls ≠ "java/lang/invoke/VarHandle" ∧ (parseMethodDescriptor yX0_leftOf.desc).map (fun d => d.parameters.length) = some 3 := by decide +kernel
theorem hs_X0_leftOf : yX0_leftOf.cls ≠ "java/lang/invoke/MethodHandle" ∧ yX0_leftOf.cls ≠ "java/lang/invoke/VarHandle" ∧ (parseMethodDescriptor yX0_leftOf.desc).map (fun d => d.parameters.length) = some 3 := by decide +kernel
theorem hv_X0_isOn : yX0_isOn.cls = RX0 ∧ yX0_isOn.cls ≠ "java/lang/invoke/MethodHandle" ∧ yX0_isOn.cls ≠ "java/lang/invoke/VarHandle" ∧ (parseMethodDescriptor yX0_isOn.desc).map (fun d => d.parameters.length) = some 3 := by decide +kernel
theorem hs_X0_isOn : yX0_isOn.cls ≠ "java/lang/invoke/MethodHandle" ∧ yX0_isOn.cls ≠ "java/lang/invoke/VarHandle" ∧ (parseMethodDescriptor yX0_isOn.desc).map (fun d => d.parameters.length) = some 3 := by decide +kernel
theorem hv_X0_parts : yX0_parts.cls = RX0 ∧ yX0_parts.cls ≠ "java/lang/invoke/MethodHandle" ∧ yX0_parts.cls ≠ "java/lang/invoke/VarHandle" ∧ (parseMethodDescriptor yX0_parts.desc).map (fun d => d.parameters.length) = some 2 := by decide +kernel
theorem hs_X0_parts : yX0_parts.cls ≠ "java/lang/invoke/MethodHandle" ∧ yX0_parts.cls ≠ "java/lang/invoke/VarHandle" ∧ (parseMethodDescriptor yX0_parts.desc).map (fun d => d.parameters.length) = some 2 := by decide +kernel
theorem hv_X0_touches : yX0_touches.cls = RX0 ∧ yX0_touches.cls ≠ "java/lang/invoke/MethodHandle" ∧ yX0_touches.cls ≠ "java/lang/invoke/VarHandle" ∧ (parseMethodDescriptor yX0_touches.desc).map (fun d => d.parameters.length) = some 2 := by decide +kernel
theorem hs_X0_touches : yX0_touches.cls ≠ "java/lang/invoke/MethodHandle" ∧ yX0_touches.cls ≠ "java/lang/invoke/VarHandle" ∧ (parseMethodDescriptor yX0_touches.desc).map (fun d => d.parameters.length) = some 2 := by decide +kernel
theorem hv_X0_foldsBack : yX0_foldsBack.cls = RX0 ∧ yX0_foldsBack.cls ≠ "java/lang/invoke/MethodHandle" ∧ yX0_foldsBack.cls ≠ "java/lang/invoke/VarHandle" ∧ (parseMethodDescriptor yX0_foldsBack.desc).map (fun d => d.parameters.length) = some 2 := by decide +kernel
theorem hs_X0_foldsBack : yX0_foldsBack.cls ≠ "java/lang/invoke/MethodHandle" ∧ yX0_foldsBack.cls ≠ "java/lang/invoke/VarHandle" ∧ (parseMethodDescriptor yX0_foldsBack.desc).map (fun d => d.parameters.length) = some 2 := by decide +kernel
theorem hv_X0_areAlike : yX0_areAlike.cls = RX0 ∧ yX0_areAlike.cls ≠ "java/lang/invoke/MethodHandle" ∧ yX0_areAlike.cls ≠ "java/lang/invoke/VarHandle" ∧ (parseMethodDescriptor yX0_areAlike.desc).map (fun d => d.parameters.length) = some 2 := by decide +kernel
theorem hs_X0_areAlike : yX0_areAlike.cls ≠ "java/lang/invoke/MethodHandle" ∧ yX0_areAlike.cls ≠ "java/lang/invoke/VarHandle" ∧ (parseMethodDescriptor yX0_areAlike.desc).map (fun d => d.parameters.length) = some 2 := by decide +kernel
theorem hv_X0_clash : yX0_clash.cls = RX0 ∧ yX0_clash.cls ≠ "java/lang/invoke/MethodHandle" ∧ yX0_clash.cls ≠ "java/lang/invoke/VarHandle" ∧ (parseMethodDescriptor yX0_clash.desc).map (fun d => d.parameters.length) = some 2 := by decide +kernel
theorem hs_X0_clash : yX0_clash.cls ≠ "java/lang/invoke/MethodHandle" ∧ yX0_clash.cls ≠ "java/lang/invoke/VarHandle" ∧ (parseMethodDescriptor yX0_clash.desc).map (fun d => d.parameters.length) = some 2 := by decide +kernel
theorem hv_X0_isSimple : yX0_isSimple.cls = RX0 ∧ yX0_isSimple.cls ≠ "java/lang/invoke/MethodHandle" ∧ yX0_isSimple.cls ≠ "java/lang/invoke/VarHandle" ∧ (parseMethodDescriptor yX0_isSimple.desc).map (fun d => d.parameters.length) = some 0 := by decide +kernel
theorem hs_X0_isSimple : yX0_isSimple.cls ≠ "java/lang/invoke/MethodHandle" ∧ yX0_isSimple.cls ≠ "java/lang/invoke/VarHandle" ∧ (parseMethodDescriptor yX0_isSimple.desc).map (fun d => d.parameters.length) = some 0 := by decide +kernel
theorem hv_X0_doubleArea : yX0_doubleArea.cls = RX0 ∧ yX0_doubleArea.cls ≠ "java/lang/invoke/MethodHandle" ∧ yX0_doubleArea.cls ≠ "java/lang/invoke/VarHandle" ∧ (parseMethodDescriptor yX0_doubleArea.desc).map (fun d => d.parameters.length) = some 0 := by decide +kernel
theorem hs_X0_doubleArea : yX0_doubleArea.cls ≠ "java/lang/invoke/MethodHandle" ∧ yX0_doubleArea.cls ≠ "java/lang/invoke/VarHandle" ∧ (parseMethodDescriptor yX0_doubleArea.desc).map (fun d => d.parameters.length) = some 0 := by decide +kernel
theorem hv_X0_passesRightOf : yX0_passesRightOf.cls = RX0 ∧ yX0_passesRightOf.cls ≠ "java/lang/invoke/MethodHandle" ∧ yX0_passesRightOf.cls ≠ "java/lang/invoke/VarHandle" ∧ (parseMethodDescriptor yX0_passesRightOf.desc).map (fun d => d.parameters.length) = some 3 := by decide +kernel
theorem hs_X0_passesRightOf : yX0_passesRightOf.cls ≠ "java/lang/invoke/MethodHandle" ∧ yX0_passesRightOf.cls ≠ "java/lang/invoke/VarHandle" ∧ (parseMethodDescriptor yX0_passesRightOf.desc).map (fun d => d.parameters.length) = some 3 := by decide +kernel
theorem kX0_isLatest_0 : Cond.fieldLink RX0 18 "FlowPlane$Fence" "count" "I" ∈ wsX0_isLatest := by decide +kernel
theorem kX0_isLatest_1 : Cond.fieldLink RX0 9 "FlowPlane$Fence" "xs" "[I" ∈ wsX0_isLatest := by decide +kernel
theorem kX0_isLatest_2 : Cond.fieldLink RX0 15 "FlowPlane$Fence" "ys" "[I" ∈ wsX0_isLatest := by decide +kernel
theorem uX0_isLatest_X0 : ∀ w ∈ u_ws RX0 TX0 3, w ∈ wsX0_isLatest := by decide +kernel
def f_X0_isLatest (xs : Nat → Int32) (ys : Nat → Int32) (n : Nat) (x : Int32) (y : Int32) : Int32 := (if (nI n) ≤ 0 then 0 else (if (xs (n - 1)) = x then (if (ys (n - 1)) = y then 1 else 0) else 0))
theorem b_X0_isLatest (xs : Nat → Int32) (ys : Nat → Int32) (n : Nat) (x : Int32) (y : Int32) : (f_X0_isLatest xs ys n x y) = 0 ∨ (f_X0_isLatest xs ys n x y) = 1 := by
  unfold f_X0_isLatest; (repeat' split) <;> first | exact Or.inl (by with_reducible rfl) | exact Or.inr (by with_reducible rfl)
set_option maxHeartbeats 400000000 in
set_option maxRecDepth 100000 in
theorem c_X0_isLatest (l : Launch) (D : va_G) (cy : Nat → ClassId) (ta : Nat) (tax : Nat) (tay : Nat) (xs : Nat → Int32) (ys : Nat → Int32) (n : Nat) (x : Int32) (y : Int32) (hn : n ≤ 8) : yk_Ci l D vwCl (yk_ty cy) yX0_isLatest wsX0_isLatest 0 0 [.ref ta, .int x, .int y] [(ta, .inr (0, [.ref tax, .ref tay, .int (nI n)])), (tax, .inl (cy 0, 9, .inl xs)), (tay, .inl (cy 0, 9, .inl ys))] (f_X0_isLatest xs ys n x y) [(ta, .inr (0, [.ref tax, .ref tay, .int (nI n)])), (tax, .inl (cy 0, 9, .inl xs)), (tay, .inl (cy 0, 9, .inl ys))] := by
  refine yk_eI (cc := cX0_isLatest) (maxL := 3) (by decide) rfl (Nat.le_of_ble_eq_true rfl) (yk_nb (b_X0_isLatest xs ys n x y)) ?_
  intro p e R s m args below meth c A Q ls H locs hx hb hml hown hts hRf hRl hA hK hG hP hD hS hl hQ
  have hP : va_P D vwCl [(ta, .inr (0, [.ref tax, .ref tay, .int (nI n)])), (tax, .inl (cy 0, 9, .inl xs)), (tay, .inl (cy 0, 9, .inl ys))] H := hP
  have hl : lv_has ls 3 [(0, .ref ta), (1, .int x), (2, .int y)] := hl
  have hown : s.vm.findClass RX0 = some m.cls := hown
  have hF : (f_X0_isLatest xs ys n x y) = (f_X0_isLatest xs ys n x y) := rfl
  refine lv_aload_n hx hb dX0_isLatest_0 rfl (lv_at hl 0 rfl) ?_
  refine va_get (D := D) (ci := 0) (v := .int (nI n)) (C := RX0) (T := TX0) (N := 3) hx hb hts uX0_isLatest_X0 hown hK hP 0 rfl rfl 2 (by decide) (hts _ kX0_isLatest_0) (fun _ h9 => h9) rfl dX0_isLatest_1 ?_
  have J5 : ∀ (v4 : Int32) (H : Heap) (locs : List Loc) (ls : Array Slot), v4 = (if (nI n) ≤ 0 then 0 else (if (xs (n - 1)) = x then (if (ys (n - 1)) = y then 1 else 0) else 0)) → va_P D vwCl [(ta, .inr (0, [.ref tax, .ref tay, .int (nI n)])), (tax, .inl (cy 0, 9, .inl xs)), (tay, .inl (cy 0, 9, .inl ys))] H → va_D A [(ta, .inr (0, [.ref tax, .ref tay, .int (nI n)])), (tax, .inl (cy 0, 9, .inl xs)), (tay, .inl (cy 0, 9, .inl ys))] → va_S A s.heap H locs → lv_has ls 3 [(0, .ref ta), (1, .int x), (2, .int y)] → W p l e R s m args below meth c H locs 0 0 Q (F0 m 42 ls [.int v4]) := by
    clear hP hD hS hl
    intro v4 H locs ls ev4
    rw [ev4]
    clear ev4
    intro hP hD hS hl
    have hF : f_X0_isLatest xs ys n x y = (if (nI n) ≤ 0 then 0 else (if (xs (n - 1)) = x then (if (ys (n - 1)) = y then 1 else 0) else 0)) := hF
    rw [hF] at hQ
    exact hQ _ _ _ _ dX0_isLatest_42 hP hS
  refine lv_if_le (tgt := 41) hx hb dX0_isLatest_4 (by decide) (fun hc1 => ?_) (fun hc1 => ?_)
  · refine lv_iconst (v := 0) hx hb dX0_isLatest_41 (by decide) ?_
    exact J5 _ _ _ _ ((if_pos hc1).symm) hP hD hS (lv_sub hl [0, 1, 2] rfl)
  · refine lv_aload_n hx hb dX0_isLatest_7 rfl (lv_at hl 0 rfl) ?_
    refine va_get (D := D) (ci := 0) (v := .ref tax) (C := RX0) (T := TX0) (N := 3) hx hb hts uX0_isLatest_X0 hown hK hP 0 rfl rfl 0 (by decide) (hts _ kX0_isLatest_1) (fun _ h9 => h9) rfl dX0_isLatest_8 ?_
    refine lv_aload_n hx hb dX0_isLatest_11 rfl (lv_at hl 0 rfl) ?_
    refine va_get (D := D) (ci := 0) (v := .int (nI n)) (C := RX0) (T := TX0) (N := 3) hx hb hts uX0_isLatest_X0 hown hK hP 0 rfl rfl 2 (by decide) (hts _ kX0_isLatest_0) (fun _ h9 => h9) rfl dX0_isLatest_12 ?_
    refine lv_iconst (v := 1) hx hb dX0_isLatest_15 (by decide) ?_
    refine lv_isub hx hb dX0_isLatest_16 ?_
    refine yk_ti (y := nI (n - 1)) (pk_sub (b := 1) (yk_pos (by assumption))) ?_
    refine yk_ild hx hb hK hP 1 0 rfl rfl (n - 1) (by omega) (by decide) dX0_isLatest_17 ?_
    refine lv_iload_n hx hb dX0_isLatest_18 rfl (lv_at hl 1 rfl) ?_
    refine lv_icmp_ne (tgt := 41) hx hb dX0_isLatest_19 (by decide) (fun hc2 => ?_) (fun hc2 => ?_)
    · refine lv_iconst (v := 0) hx hb dX0_isLatest_41 (by decide) ?_
      exact J5 _ _ _ _ (((if_neg hc1).trans (if_neg hc2)).symm) hP hD hS (lv_sub hl [0, 1, 2] rfl)
    · refine lv_aload_n hx hb dX0_isLatest_22 rfl (lv_at hl 0 rfl) ?_
      refine va_get (D := D) (ci := 0) (v := .ref tay) (C := RX0) (T := TX0) (N := 3) hx hb hts uX0_isLatest_X0 hown hK hP 0 rfl rfl 1 (by decide) (hts _ kX0_isLatest_2) (fun _ h9 => h9) rfl dX0_isLatest_23 ?_
      refine lv_aload_n hx hb dX0_isLatest_26 rfl (lv_at hl 0 rfl) ?_
      refine va_get (D := D) (ci := 0) (v := .int (nI n)) (C := RX0) (T := TX0) (N := 3) hx hb hts uX0_isLatest_X0 hown hK hP 0 rfl rfl 2 (by decide) (hts _ kX0_isLatest_0) (fun _ h9 => h9) rfl dX0_isLatest_27 ?_
      refine lv_iconst (v := 1) hx hb dX0_isLatest_30 (by decide) ?_
      refine lv_isub hx hb dX0_isLatest_31 ?_
      refine yk_ti (y := nI (n - 1)) (pk_sub (b := 1) (yk_pos (by assumption))) ?_
      refine yk_ild hx hb hK hP 2 0 rfl rfl (n - 1) (by omega) (by decide) dX0_isLatest_32 ?_
      refine lv_iload_n hx hb dX0_isLatest_33 rfl (lv_at hl 2 rfl) ?_
      refine lv_icmp_ne (tgt := 41) hx hb dX0_isLatest_34 (by decide) (fun hc3 => ?_) (fun hc3 => ?_)
      · refine lv_iconst (v := 0) hx hb dX0_isLatest_41 (by decide) ?_
        exact J5 _ _ _ _ (((if_neg hc1).trans ((if_pos hc2).trans (if_neg hc3))).symm) hP hD hS (lv_sub hl [0, 1, 2] rfl)
      · refine lv_iconst (v := 1) hx hb dX0_isLatest_37 (by decide) ?_
        refine lv_goto (tgt := 42) hx hb dX0_isLatest_38 (by decide) ?_
        exact J5 _ _ _ _ (((if_neg hc1).trans ((if_pos hc2).trans (if_pos hc3))).symm) hP hD hS (lv_sub hl [0, 1, 2] rfl)

theorem kX0_stepX_0 : Cond.fieldLink RX0 9 "FlowPlane$Fence" "xs" "[I" ∈ wsX0_stepX := by decide +kernel
theorem uX0_stepX_X0 : ∀ w ∈ u_ws RX0 TX0 3, w ∈ wsX0_stepX := by decide +kernel
def f_X0_stepX (xs : Nat → Int32) (k : Nat) : Int32 := ((xs (k + 1)) - (xs k))
set_option maxHeartbeats 400000000 in
set_option maxRecDepth 100000 in
theorem c_X0_stepX (l : Launch) (D : va_G) (cy : Nat → ClassId) (ta : Nat) (tax : Nat) (tay : Nat) (xs : Nat → Int32) (ys : Nat → Int32) (n : Nat) (k : Nat) (hn : n ≤ 8) (hk : k < 8) : yk_Ci l D vwCl (yk_ty cy) yX0_stepX wsX0_stepX 0 0 [.ref ta, .int (nI k)] [(ta, .inr (0, [.ref tax, .ref tay, .int (nI n)])), (tax, .inl (cy 0, 9, .inl xs)), (tay, .inl (cy 0, 9, .inl ys))] (f_X0_stepX xs k) [(ta, .inr (0, [.ref tax, .ref tay, .int (nI n)])), (tax, .inl (cy 0, 9, .inl xs)), (tay, .inl (cy 0, 9, .inl ys))] := by
  refine yk_eI (cc := cX0_stepX) (maxL := 2) (by decide) rfl (Nat.le_of_ble_eq_true rfl) rfl ?_
  intro p e R s m args below meth c A Q ls H locs hx hb hml hown hts hRf hRl hA hK hG hP hD hS hl hQ
  have hP : va_P D vwCl [(ta, .inr (0, [.ref tax, .ref tay, .int (nI n)])), (tax, .inl (cy 0, 9, .inl xs)), (tay, .inl (cy 0, 9, .inl ys))] H := hP
  have hl : lv_has ls 2 [(0, .ref ta), (1, .int (nI k))] := hl
  have hown : s.vm.findClass RX0 = some m.cls := hown
  have hF : (f_X0_stepX xs k) = (f_X0_stepX xs k) := rfl
  refine lv_aload_n hx hb dX0_stepX_0 rfl (lv_at hl 0 rfl) ?_
  refine va_get (D := D) (ci := 0) (v := .ref tax) (C := RX0) (T := TX0) (N := 3) hx hb hts uX0_stepX_X0 hown hK hP 0 rfl rfl 0 (by decide) (hts _ kX0_stepX_0) (fun _ h9 => h9) rfl dX0_stepX_1 ?_
  refine lv_iload_n hx hb dX0_stepX_4 rfl (lv_at hl 1 rfl) ?_
  refine lv_iconst (v := 1) hx hb dX0_stepX_5 (by decide) ?_
  refine lv_iadd hx hb dX0_stepX_6 ?_
  refine yk_ti (y := nI (k + 1)) (nI_add k 1) ?_
  refine yk_ild hx hb hK hP 1 0 rfl rfl (k + 1) (by omega) (by decide) dX0_stepX_7 ?_
  refine lv_aload_n hx hb dX0_stepX_8 rfl (lv_at hl 0 rfl) ?_
  refine va_get (D := D) (ci := 0) (v := .ref tax) (C := RX0) (T := TX0) (N := 3) hx hb hts uX0_stepX_X0 hown hK hP 0 rfl rfl 0 (by decide) (hts _ kX0_stepX_0) (fun _ h9 => h9) rfl dX0_stepX_9 ?_
  refine lv_iload_n hx hb dX0_stepX_12 rfl (lv_at hl 1 rfl) ?_
  refine yk_ild hx hb hK hP 1 0 rfl rfl k (by omega) (by decide) dX0_stepX_13 ?_
  refine lv_isub hx hb dX0_stepX_14 ?_
  have hF : f_X0_stepX xs k = ((xs (k + 1)) - (xs k)) := hF
  rw [hF] at hQ
  exact hQ _ _ _ _ dX0_stepX_15 hP hS

theorem kX0_stepY_0 : Cond.fieldLink RX0 15 "FlowPlane$Fence" "ys" "[I" ∈ wsX0_stepY := by decide +kernel
theorem uX0_stepY_X0 : ∀ w ∈ u_ws RX0 TX0 3, w ∈ wsX0_stepY := by decide +kernel
def f_X0_stepY (ys : Nat → Int32) (k : Nat) : Int32 := ((ys (k + 1)) - (ys k))
set_option maxHeartbeats 400000000 in
set_option maxRecDepth 100000 in
theorem c_X0_stepY (l : Launch) (D : va_G) (cy : Nat → ClassId) (ta : Nat) (tax : Nat) (tay : Nat) (xs : Nat → Int32) (ys : Nat → Int32) (n : Nat) (k : Nat) (hn : n ≤ 8) (hk : k < 8) : yk_Ci l D vwCl (yk_ty cy) yX0_stepY wsX0_stepY 0 0 [.ref ta, .int (nI k)] [(ta, .inr (0, [.ref tax, .ref tay, .int (nI n)])), (tax, .inl (cy 0, 9, .inl xs)), (tay, .inl (cy 0, 9, .inl ys))] (f_X0_stepY ys k) [(ta, .inr (0, [.ref tax, .ref tay, .int (nI n)])), (tax, .inl (cy 0, 9, .inl xs)), (tay, .inl (cy 0, 9, .inl ys))] := by
  refine yk_eI (cc := cX0_stepY) (maxL := 2) (by decide) rfl (Nat.le_of_ble_eq_true rfl) rfl ?_
  intro p e R s m args below meth c A Q ls H locs hx hb hml hown hts hRf hRl hA hK hG hP hD hS hl hQ
  have hP : va_P D vwCl [(ta, .inr (0, [.ref tax, .ref tay, .int (nI n)])), (tax, .inl (cy 0, 9, .inl xs)), (tay, .inl (cy 0, 9, .inl ys))] H := hP
  have hl : lv_has ls 2 [(0, .ref ta), (1, .int (nI k))] := hl
  have hown : s.vm.findClass RX0 = some m.cls := hown
  have hF : (f_X0_stepY ys k) = (f_X0_stepY ys k) := rfl
  refine lv_aload_n hx hb dX0_stepY_0 rfl (lv_at hl 0 rfl) ?_
  refine va_get (D := D) (ci := 0) (v := .ref tay) (C := RX0) (T := TX0) (N := 3) hx hb hts uX0_stepY_X0 hown hK hP 0 rfl rfl 1 (by decide) (hts _ kX0_stepY_0) (fun _ h9 => h9) rfl dX0_stepY_1 ?_
  refine lv_iload_n hx hb dX0_stepY_4 rfl (lv_at hl 1 rfl) ?_
  refine lv_iconst (v := 1) hx hb dX0_stepY_5 (by decide) ?_
  refine lv_iadd hx hb dX0_stepY_6 ?_
  refine yk_ti (y := nI (k + 1)) (nI_add k 1) ?_
  refine yk_ild hx hb hK hP 2 0 rfl rfl (k + 1) (by omega) (by decide) dX0_stepY_7 ?_
  refine lv_aload_n hx hb dX0_stepY_8 rfl (lv_at hl 0 rfl) ?_
  refine va_get (D := D) (ci := 0) (v := .ref tay) (C := RX0) (T := TX0) (N := 3) hx hb hts uX0_stepY_X0 hown hK hP 0 rfl rfl 1 (by decide) (hts _ kX0_stepY_0) (fun _ h9 => h9) rfl dX0_stepY_9 ?_
  refine lv_iload_n hx hb dX0_stepY_12 rfl (lv_at hl 1 rfl) ?_
  refine yk_ild hx hb hK hP 2 0 rfl rfl k (by omega) (by decide) dX0_stepY_13 ?_
  refine lv_isub hx hb dX0_stepY_14 ?_
  have hF : f_X0_stepY ys k = ((ys (k + 1)) - (ys k)) := hF
  rw [hF] at hQ
  exact hQ _ _ _ _ dX0_stepY_15 hP hS

theorem kX0_leftOf_0 : Cond.fieldLink RX0 9 "FlowPlane$Fence" "xs" "[I" ∈ wsX0_leftOf := by decide +kernel
theorem kX0_leftOf_1 : Cond.fieldLink RX0 15 "FlowPlane$Fence" "ys" "[I" ∈ wsX0_leftOf := by decide +kernel
theorem uX0_leftOf_X0 : ∀ w ∈ u_ws RX0 TX0 3, w ∈ wsX0_leftOf := by decide +kernel
def f_X0_leftOf (xs : Nat → Int32) (ys : Nat → Int32) (k : Nat) (x : Int32) (y : Int32) : Int32 := ((((xs (k + 1)) - (xs k)) * (y - (ys k))) - (((ys (k + 1)) - (ys k)) * (x - (xs k))))
set_option maxHeartbeats 400000000 in
set_option maxRecDepth 100000 in
theorem c_X0_leftOf (l : Launch) (D : va_G) (cy : Nat → ClassId) (ta : Nat) (tax : Nat) (tay : Nat) (xs : Nat → Int32) (ys : Nat → Int32) (n : Nat) (k : Nat) (x : Int32) (y : Int32) (hn : n ≤ 8) (hk : k < 8) : yk_Ci l D vwCl (yk_ty cy) yX0_leftOf wsX0_leftOf 0 0 [.ref ta, .int (nI k), .int x, .int y] [(ta, .inr (0, [.ref tax, .ref tay, .int (nI n)])), (tax, .inl (cy 0, 9, .inl xs)), (tay, .inl (cy 0, 9, .inl ys))] (f_X0_leftOf xs ys k x y) [(ta, .inr (0, [.ref tax, .ref tay, .int (nI n)])), (tax, .inl (cy 0, 9, .inl xs)), (tay, .inl (cy 0, 9, .inl ys))] := by
  refine yk_eI (cc := cX0_leftOf) (maxL := 4) (by decide) rfl (Nat.le_of_ble_eq_true rfl) rfl ?_
  intro p e R s m args below meth c A Q ls H locs hx hb hml hown hts hRf hRl hA hK hG hP hD hS hl hQ
  have hP : va_P D vwCl [(ta, .inr (0, [.ref tax, .ref tay, .int (nI n)])), (tax, .inl (cy 0, 9, .inl xs)), (tay, .inl (cy 0, 9, .inl ys))] H := hP
  have hl : lv_has ls 4 [(0, .ref ta), (1, .int (nI k)), (2, .int x), (3, .int y)] := hl
  have hown : s.vm.findClass RX0 = some m.cls := hown
  have hF : (f_X0_leftOf xs ys k x y) = (f_X0_leftOf xs ys k x y) := rfl
  refine lv_aload_n hx hb dX0_leftOf_0 rfl (lv_at hl 0 rfl) ?_
  refine va_get (D := D) (ci := 0) (v := .ref tax) (C := RX0) (T := TX0) (N := 3) hx hb hts uX0_leftOf_X0 hown hK hP 0 rfl rfl 0 (by decide) (hts _ kX0_leftOf_0) (fun _ h9 => h9) rfl dX0_leftOf_1 ?_
  refine lv_iload_n hx hb dX0_leftOf_4 rfl (lv_at hl 1 rfl) ?_
  refine lv_iconst (v := 1) hx hb dX0_leftOf_5 (by decide) ?_
  refine lv_iadd hx hb dX0_leftOf_6 ?_
  refine yk_ti (y := nI (k + 1)) (nI_add k 1) ?_
  refine yk_ild hx hb hK hP 1 0 rfl rfl (k + 1) (by omega) (by decide) dX0_leftOf_7 ?_
  refine lv_aload_n hx hb dX0_leftOf_8 rfl (lv_at hl 0 rfl) ?_
  refine va_get (D := D) (ci := 0) (v := .ref tax) (C := RX0) (T := TX0) (N := 3) hx hb hts uX0_leftOf_X0 hown hK hP 0 rfl rfl 0 (by decide) (hts _ kX0_leftOf_0) (fun _ h9 => h9) rfl dX0_leftOf_9 ?_
  refine lv_iload_n hx hb dX0_leftOf_12 rfl (lv_at hl 1 rfl) ?_
  refine yk_ild hx hb hK hP 1 0 rfl rfl k (by omega) (by decide) dX0_leftOf_13 ?_
  refine lv_isub hx hb dX0_leftOf_14 ?_
  refine lv_iload_n hx hb dX0_leftOf_15 rfl (lv_at hl 3 rfl) ?_
  refine lv_aload_n hx hb dX0_leftOf_16 rfl (lv_at hl 0 rfl) ?_
  refine va_get (D := D) (ci := 0) (v := .ref tay) (C := RX0) (T := TX0) (N := 3) hx hb hts uX0_leftOf_X0 hown hK hP 0 rfl rfl 1 (by decide) (hts _ kX0_leftOf_1) (fun _ h9 => h9) rfl dX0_leftOf_17 ?_
  refine lv_iload_n hx hb dX0_leftOf_20 rfl (lv_at hl 1 rfl) ?_
  refine yk_ild hx hb hK hP 2 0 rfl rfl k (by omega) (by decide) dX0_leftOf_21 ?_
  refine lv_isub hx hb dX0_leftOf_22 ?_
  refine lv_imul hx hb dX0_leftOf_23 ?_
  refine lv_aload_n hx hb dX0_leftOf_24 rfl (lv_at hl 0 rfl) ?_
  refine va_get (D := D) (ci := 0) (v := .ref tay) (C := RX0) (T := TX0) (N := 3) hx hb hts uX0_leftOf_X0 hown hK hP 0 rfl rfl 1 (by decide) (hts _ kX0_leftOf_1) (fun _ h9 => h9) rfl dX0_leftOf_25 ?_
  refine lv_iload_n hx hb dX0_leftOf_28 rfl (lv_at hl 1 rfl) ?_
  refine lv_iconst (v := 1) hx hb dX0_leftOf_29 (by decide) ?_
  refine lv_iadd hx hb dX0_leftOf_30 ?_
  refine yk_ti (y := nI (k + 1)) (nI_add k 1) ?_
  refine yk_ild hx hb hK hP 2 0 rfl rfl (k + 1) (by omega) (by decide) dX0_leftOf_31 ?_
  refine lv_aload_n hx hb dX0_leftOf_32 rfl (lv_at hl 0 rfl) ?_
  refine va_get (D := D) (ci := 0) (v := .ref tay) (C := RX0) (T := TX0) (N := 3) hx hb hts uX0_leftOf_X0 hown hK hP 0 rfl rfl 1 (by decide) (hts _ kX0_leftOf_1) (fun _ h9 => h9) rfl dX0_leftOf_33 ?_
  refine lv_iload_n hx hb dX0_leftOf_36 rfl (lv_at hl 1 rfl) ?_
  refine yk_ild hx hb hK hP 2 0 rfl rfl k (by omega) (by decide) dX0_leftOf_37 ?_
  refine lv_isub hx hb dX0_leftOf_38 ?_
  refine lv_iload_n hx hb dX0_leftOf_39 rfl (lv_at hl 2 rfl) ?_
  refine lv_aload_n hx hb dX0_leftOf_40 rfl (lv_at hl 0 rfl) ?_
  refine va_get (D := D) (ci := 0) (v := .ref tax) (C := RX0) (T := TX0) (N := 3) hx hb hts uX0_leftOf_X0 hown hK hP 0 rfl rfl 0 (by decide) (hts _ kX0_leftOf_0) (fun _ h9 => h9) rfl dX0_leftOf_41 ?_
  refine lv_iload_n hx hb dX0_leftOf_44 rfl (lv_at hl 1 rfl) ?_
  refine yk_ild hx hb hK hP 1 0 rfl rfl k (by omega) (by decide) dX0_leftOf_45 ?_
  refine lv_isub hx hb dX0_leftOf_46 ?_
  refine lv_imul hx hb dX0_leftOf_47 ?_
  refine lv_isub hx hb dX0_leftOf_48 ?_
  have hF : f_X0_leftOf xs ys k x y = ((((xs (k + 1)) - (xs k)) * (y - (ys k))) - (((ys (k + 1)) - (ys k)) * (x - (xs k)))) := hF
  rw [hF] at hQ
  exact hQ _ _ _ _ dX0_leftOf_49 hP hS

theorem kX0_isOn_0 : Cond.fieldLink RX0 9 "FlowPlane$Fence" "xs" "[I" ∈ wsX0_isOn := by decide +kernel
theorem kX0_isOn_1 : Cond.methodLink RX0 26 Lib.Math.min.name ∈ wsX0_isOn := by decide +kernel
theorem kX0_isOn_2 : Cond.static Lib.Math.min.name ∈ wsX0_isOn := by decide +kernel
theorem kX0_isOn_3 : Cond.initialized "java/lang/Math" ∈ wsX0_isOn := by decide +kernel
theorem kX0_isOn_4 : Cond.code Lib.Math.min.name Lib.Math.min.code 2 (some .int) ∈ wsX0_isOn := by decide +kernel
theorem kX0_isOn_5 : Cond.methodLink RX0 32 Lib.Math.max.name ∈ wsX0_isOn := by decide +kernel
theorem kX0_isOn_6 : Cond.static Lib.Math.max.name ∈ wsX0_isOn := by decide +kernel
theorem kX0_isOn_7 : Cond.code Lib.Math.max.name Lib.Math.max.code 2 (some .int) ∈ wsX0_isOn := by decide +kernel
theorem kX0_isOn_8 : Cond.fieldLink RX0 15 "FlowPlane$Fence" "ys" "[I" ∈ wsX0_isOn := by decide +kernel
theorem uX0_isOn_X0 : ∀ w ∈ u_ws RX0 TX0 3, w ∈ wsX0_isOn := by decide +kernel
def f_X0_isOn (xs : Nat → Int32) (ys : Nat → Int32) (k : Nat) (x : Int32) (y : Int32) : Int32 := (if (f_X0_leftOf xs ys k x y) = 0 then (if x < (if (xs (k + 1)) < (xs k) then (xs (k + 1)) else (xs k)) then 0 else (if (if (xs k) < (xs (k + 1)) then (xs (k + 1)) else (xs k)) < x then 0 else (if y < (if (ys (k + 1)) < (ys k) then (ys (k + 1)) else (ys k)) then 0 else (if (if (ys k) < (ys (k + 1)) then (ys (k + 1)) else (ys k)) < y then 0 else 1)))) else 0)
theorem b_X0_isOn (xs : Nat → Int32) (ys : Nat → Int32) (k : Nat) (x : Int32) (y : Int32) : (f_X0_isOn xs ys k x y) = 0 ∨ (f_X0_isOn xs ys k x y) = 1 := by
  unfold f_X0_isOn; (repeat' split) <;> first | exact Or.inl (by with_reducible rfl) | exact Or.inr (by with_reducible rfl)
set_option maxHeartbeats 400000000 in
set_option maxRecDepth 100000 in
theorem c_X0_isOn (l : Launch) (D : va_G) (cy : Nat → ClassId) (ta : Nat) (tax : Nat) (tay : Nat) (xs : Nat → Int32) (ys : Nat → Int32) (n : Nat) (k : Nat) (x : Int32) (y : Int32) (hn : n ≤ 8) (hk : k < 8) : yk_Ci l D vwCl (yk_ty cy) yX0_isOn wsX0_isOn 1 23 [.ref ta, .int (nI k), .int x, .int y] [(ta, .inr (0, [.ref tax, .ref tay, .int (nI n)])), (tax, .inl (cy 0, 9, .inl xs)), (tay, .inl (cy 0, 9, .inl ys))] (f_X0_isOn xs ys k x y) [(ta, .inr (0, [.ref tax, .ref tay, .int (nI n)])), (tax, .inl (cy 0, 9, .inl xs)), (tay, .inl (cy 0, 9, .inl ys))] := by
  refine yk_eI (cc := cX0_isOn) (maxL := 4) (by decide) rfl (Nat.le_of_ble_eq_true rfl) (yk_nb (b_X0_isOn xs ys k x y)) ?_
  intro p e R s m args below meth c A Q ls H locs hx hb hml hown hts hRf hRl hA hK hG hP hD hS hl hQ
  have hP : va_P D vwCl [(ta, .inr (0, [.ref tax, .ref tay, .int (nI n)])), (tax, .inl (cy 0, 9, .inl xs)), (tay, .inl (cy 0, 9, .inl ys))] H := hP
  have hl : lv_has ls 4 [(0, .ref ta), (1, .int (nI k)), (2, .int x), (3, .int y)] := hl
  have hown : s.vm.findClass RX0 = some m.cls := hown
  have hF : (f_X0_isOn xs ys k x y) = (f_X0_isOn xs ys k x y) := rfl
  refine lv_aload_n hx hb dX0_isOn_0 rfl (lv_at hl 0 rfl) ?_
  refine lv_iload_n hx hb dX0_isOn_1 rfl (lv_at hl 1 rfl) ?_
  refine lv_iload_n hx hb dX0_isOn_2 rfl (lv_at hl 2 rfl) ?_
  refine lv_iload_n hx hb dX0_isOn_3 rfl (lv_at hl 3 rfl) ?_
  refine yk_i [0, 1, 2] (va_runV (As := [.int (nI k), .int x, .int y]) (rest := []) ⟨hx, hb, hml, hown, hts⟩ (c_X0_leftOf l D cy ta tax tay xs ys n k x y hn hk H.size) (cwV 3 hts gX0_isOn_X0_leftOf rfl rfl rfl hv_X0_leftOf (yk_room hRf hRl rfl rfl)) (yk_pv (q := (RX0, TX0, 3)) hG hA hS hK hP hD [0, 1, 2] (by decide +kernel) rfl rfl rfl) rfl rfl hl.1 rfl (lv_room (Nat.le_of_ble_eq_true rfl)) dX0_isOn_4 ⟨Nat.zero_le _, Nat.zero_le _⟩) hP hD hS hA rfl (Eq.trans (b := [ta, tax, tay]) rfl rfl) (fun H locs hP9 hD9 hS9 => ?_)
  replace hP : va_P D vwCl [(ta, .inr (0, [.ref tax, .ref tay, .int (nI n)])), (tax, .inl (cy 0, 9, .inl xs)), (tay, .inl (cy 0, 9, .inl ys))] H := hP9
  replace hD : va_D A [(ta, .inr (0, [.ref tax, .ref tay, .int (nI n)])), (tax, .inl (cy 0, 9, .inl xs)), (tay, .inl (cy 0, 9, .inl ys))] := hD9
  replace hS := hS9
  clear hP9 hD9 hS9
  have J7 : ∀ (v6 : Int32) (H : Heap) (locs : List Loc) (ls : Array Slot), v6 = (if (f_X0_leftOf xs ys k x y) = 0 then (if x < (if (xs (k + 1)) < (xs k) then (xs (k + 1)) else (xs k)) then 0 else (if (if (xs k) < (xs (k + 1)) then (xs (k + 1)) else (xs k)) < x then 0 else (if y < (if (ys (k + 1)) < (ys k) then (ys (k + 1)) else (ys k)) then 0 else (if (if (ys k) < (ys (k + 1)) then (ys (k + 1)) else (ys k)) < y then 0 else 1)))) else 0) → va_P D vwCl [(ta, .inr (0, [.ref tax, .ref tay, .int (nI n)])), (tax, .inl (cy 0, 9, .inl xs)), (tay, .inl (cy 0, 9, .inl ys))] H → va_D A [(ta, .inr (0, [.ref tax, .ref tay, .int (nI n)])), (tax, .inl (cy 0, 9, .inl xs)), (tay, .inl (cy 0, 9, .inl ys))] → va_S A s.heap H locs → lv_has ls 4 [(0, .ref ta), (1, .int (nI k)), (2, .int x), (3, .int y)] → W p l e R s m args below meth c H locs 0 0 Q (F0 m 99 ls [.int v6]) := by
    clear hP hD hS hl
    intro v6 H locs ls ev6
    rw [ev6]
    clear ev6
    intro hP hD hS hl
    have hF : f_X0_isOn xs ys k x y = (if (f_X0_leftOf xs ys k x y) = 0 then (if x < (if (xs (k + 1)) < (xs k) then (xs (k + 1)) else (xs k)) then 0 else (if (if (xs k) < (xs (k + 1)) then (xs (k + 1)) else (xs k)) < x then 0 else (if y < (if (ys (k + 1)) < (ys k) then (ys (k + 1)) else (ys k)) then 0 else (if (if (ys k) < (ys (k + 1)) then (ys (k + 1)) else (ys k)) < y then 0 else 1)))) else 0) := hF
    rw [hF] at hQ
    exact hQ _ _ _ _ dX0_isOn_99 hP hS
  refine lv_if_ne (tgt := 98) hx hb dX0_isOn_7 (by decide) (fun hc1 => ?_) (fun hc1 => ?_)
  · refine lv_iconst (v := 0) hx hb dX0_isOn_98 (by decide) ?_
    exact J7 _ _ _ _ ((if_neg hc1).symm) hP hD hS (lv_sub hl [0, 1, 2, 3] rfl)
  · refine lv_iload_n hx hb dX0_isOn_10 rfl (lv_at hl 2 rfl) ?_
    refine lv_aload_n hx hb dX0_isOn_11 rfl (lv_at hl 0 rfl) ?_
    refine va_get (D := D) (ci := 0) (v := .ref tax) (C := RX0) (T := TX0) (N := 3) hx hb hts uX0_isOn_X0 hown hK hP 0 rfl rfl 0 (by decide) (hts _ kX0_isOn_0) (fun _ h9 => h9) rfl dX0_isOn_12 ?_
    refine lv_iload_n hx hb dX0_isOn_15 rfl (lv_at hl 1 rfl) ?_
    refine yk_ild hx hb hK hP 1 0 rfl rfl k (by omega) (by decide) dX0_isOn_16 ?_
    refine lv_aload_n hx hb dX0_isOn_17 rfl (lv_at hl 0 rfl) ?_
    refine va_get (D := D) (ci := 0) (v := .ref tax) (C := RX0) (T := TX0) (N := 3) hx hb hts uX0_isOn_X0 hown hK hP 0 rfl rfl 0 (by decide) (hts _ kX0_isOn_0) (fun _ h9 => h9) rfl dX0_isOn_18 ?_
    refine lv_iload_n hx hb dX0_isOn_21 rfl (lv_at hl 1 rfl) ?_
    refine lv_iconst (v := 1) hx hb dX0_isOn_22 (by decide) ?_
    refine lv_iadd hx hb dX0_isOn_23 ?_
    refine yk_ti (y := nI (k + 1)) (nI_add k 1) ?_
    refine yk_ild hx hb hK hP 1 0 rfl rfl (k + 1) (by omega) (by decide) dX0_isOn_24 ?_
    refine va_mmin hx hb (hml.trans hl.1.symm) hown (hts _ kX0_isOn_1) (hts _ kX0_isOn_2) (hts _ kX0_isOn_3) (hts _ kX0_isOn_4) (by rw [hRf]; exact Nat.le_of_ble_eq_true rfl) (by rw [hRl]; exact Nat.le_of_ble_eq_true rfl) (Nat.zero_le _) (Nat.zero_le _) dX0_isOn_25 ?_
    refine lv_icmp_lt (tgt := 98) hx hb dX0_isOn_28 (by decide) (fun hc2 => ?_) (fun hc2 => ?_)
    · refine lv_iconst (v := 0) hx hb dX0_isOn_98 (by decide) ?_
      exact J7 _ _ _ _ (((if_pos hc1).trans (if_pos hc2)).symm) hP hD hS (lv_sub hl [0, 1, 2, 3] rfl)
    · refine lv_iload_n hx hb dX0_isOn_31 rfl (lv_at hl 2 rfl) ?_
      refine lv_aload_n hx hb dX0_isOn_32 rfl (lv_at hl 0 rfl) ?_
      refine va_get (D := D) (ci := 0) (v := .ref tax) (C := RX0) (T := TX0) (N := 3) hx hb hts uX0_isOn_X0 hown hK hP 0 rfl rfl 0 (by decide) (hts _ kX0_isOn_0) (fun _ h9 => h9) rfl dX0_isOn_33 ?_
      refine lv_iload_n hx hb dX0_isOn_36 rfl (lv_at hl 1 rfl) ?_
      refine yk_ild hx hb hK hP 1 0 rfl rfl k (by omega) (by decide) dX0_isOn_37 ?_
      refine lv_aload_n hx hb dX0_isOn_38 rfl (lv_at hl 0 rfl) ?_
      refine va_get (D := D) (ci := 0) (v := .ref tax) (C := RX0) (T := TX0) (N := 3) hx hb hts uX0_isOn_X0 hown hK hP 0 rfl rfl 0 (by decide) (hts _ kX0_isOn_0) (fun _ h9 => h9) rfl dX0_isOn_39 ?_
      refine lv_iload_n hx hb dX0_isOn_42 rfl (lv_at hl 1 rfl) ?_
      refine lv_iconst (v := 1) hx hb dX0_isOn_43 (by decide) ?_
      refine lv_iadd hx hb dX0_isOn_44 ?_
      refine yk_ti (y := nI (k + 1)) (nI_add k 1) ?_
      refine yk_ild hx hb hK hP 1 0 rfl rfl (k + 1) (by omega) (by decide) dX0_isOn_45 ?_
      refine va_mmax hx hb (hml.trans hl.1.symm) hown (hts _ kX0_isOn_5) (hts _ kX0_isOn_6) (hts _ kX0_isOn_3) (hts _ kX0_isOn_7) (by rw [hRf]; exact Nat.le_of_ble_eq_true rfl) (by rw [hRl]; exact Nat.le_of_ble_eq_true rfl) (Nat.zero_le _) (Nat.zero_le _) dX0_isOn_46 ?_
      refine lv_icmp_gt (tgt := 98) hx hb dX0_isOn_49 (by decide) (fun hc3 => ?_) (fun hc3 => ?_)
      · refine lv_iconst (v := 0) hx hb dX0_isOn_98 (by decide) ?_
        exact J7 _ _ _ _ (((if_pos hc1).trans ((if_neg hc2).trans (if_pos hc3))).symm) hP hD hS (lv_sub hl [0, 1, 2, 3] rfl)
      · refine lv_iload_n hx hb dX0_isOn_52 rfl (lv_at hl 3 rfl) ?_
        refine lv_aload_n hx hb dX0_isOn_53 rfl (lv_at hl 0 rfl) ?_
        refine va_get (D := D) (ci := 0) (v := .ref tay) (C := RX0) (T := TX0) (N := 3) hx hb hts uX0_isOn_X0 hown hK hP 0 rfl rfl 1 (by decide) (hts _ kX0_isOn_8) (fun _ h9 => h9) rfl dX0_isOn_54 ?_
        refine lv_iload_n hx hb dX0_isOn_57 rfl (lv_at hl 1 rfl) ?_
        refine yk_ild hx hb hK hP 2 0 rfl rfl k (by omega) (by decide) dX0_isOn_58 ?_
        refine lv_aload_n hx hb dX0_isOn_59 rfl (lv_at hl 0 rfl) ?_
        refine va_get (D := D) (ci := 0) (v := .ref tay) (C := RX0) (T := TX0) (N := 3) hx hb hts uX0_isOn_X0 hown hK hP 0 rfl rfl 1 (by decide) (hts _ kX0_isOn_8) (fun _ h9 => h9) rfl dX0_isOn_60 ?_
        refine lv_iload_n hx hb dX0_isOn_63 rfl (lv_at hl 1 rfl) ?_
        refine lv_iconst (v := 1) hx hb dX0_isOn_64 (by decide) ?_
        refine lv_iadd hx hb dX0_isOn_65 ?_
        refine yk_ti (y := nI (k + 1)) (nI_add k 1) ?_
        refine yk_ild hx hb hK hP 2 0 rfl rfl (k + 1) (by omega) (by decide) dX0_isOn_66 ?_
        refine va_mmin hx hb (hml.trans hl.1.symm) hown (hts _ kX0_isOn_1) (hts _ kX0_isOn_2) (hts _ kX0_isOn_3) (hts _ kX0_isOn_4) (by rw [hRf]; exact Nat.le_of_ble_eq_true rfl) (by rw [hRl]; exact Nat.le_of_ble_eq_true rfl) (Nat.zero_le _) (Nat.zero_le _) dX0_isOn_67 ?_
        refine lv_icmp_lt (tgt := 98) hx hb dX0_isOn_70 (by decide) (fun hc4 => ?_) (fun hc4 => ?_)
        · refine lv_iconst (v := 0) hx hb dX0_isOn_98 (by decide) ?_
          exact J7 _ _ _ _ (((if_pos hc1).trans ((if_neg hc2).trans ((if_neg hc3).trans (if_pos hc4)))).symm) hP hD hS (lv_sub hl [0, 1, 2, 3] rfl)
        · refine lv_iload_n hx hb dX0_isOn_73 rfl (lv_at hl 3 rfl) ?_
          refine lv_aload_n hx hb dX0_isOn_74 rfl (lv_at hl 0 rfl) ?_
          refine va_get (D := D) (ci := 0) (v := .ref tay) (C := RX0) (T := TX0) (N := 3) hx hb hts uX0_isOn_X0 hown hK hP 0 rfl rfl 1 (by decide) (hts _ kX0_isOn_8) (fun _ h9 => h9) rfl dX0_isOn_75 ?_
          refine lv_iload_n hx hb dX0_isOn_78 rfl (lv_at hl 1 rfl) ?_
          refine yk_ild hx hb hK hP 2 0 rfl rfl k (by omega) (by decide) dX0_isOn_79 ?_
          refine lv_aload_n hx hb dX0_isOn_80 rfl (lv_at hl 0 rfl) ?_
          refine va_get (D := D) (ci := 0) (v := .ref tay) (C := RX0) (T := TX0) (N := 3) hx hb hts uX0_isOn_X0 hown hK hP 0 rfl rfl 1 (by decide) (hts _ kX0_isOn_8) (fun _ h9 => h9) rfl dX0_isOn_81 ?_
          refine lv_iload_n hx hb dX0_isOn_84 rfl (lv_at hl 1 rfl) ?_
          refine lv_iconst (v := 1) hx hb dX0_isOn_85 (by decide) ?_
          refine lv_iadd hx hb dX0_isOn_86 ?_
          refine yk_ti (y := nI (k + 1)) (nI_add k 1) ?_
          refine yk_ild hx hb hK hP 2 0 rfl rfl (k + 1) (by omega) (by decide) dX0_isOn_87 ?_
          refine va_mmax hx hb (hml.trans hl.1.symm) hown (hts _ kX0_isOn_5) (hts _ kX0_isOn_6) (hts _ kX0_isOn_3) (hts _ kX0_isOn_7) (by rw [hRf]; exact Nat.le_of_ble_eq_true rfl) (by rw [hRl]; exact Nat.le_of_ble_eq_true rfl) (Nat.zero_le _) (Nat.zero_le _) dX0_isOn_88 ?_
          refine lv_icmp_gt (tgt := 98) hx hb dX0_isOn_91 (by decide) (fun hc5 => ?_) (fun hc5 => ?_)
          · refine lv_iconst (v := 0) hx hb dX0_isOn_98 (by decide) ?_
            exact J7 _ _ _ _ (((if_pos hc1).trans ((if_neg hc2).trans ((if_neg hc3).trans ((if_neg hc4).trans (if_pos hc5))))).symm) hP hD hS (lv_sub hl [0, 1, 2, 3] rfl)
          · refine lv_iconst (v := 1) hx hb dX0_isOn_94 (by decide) ?_
            refine lv_goto (tgt := 99) hx hb dX0_isOn_95 (by decide) ?_
            exact J7 _ _ _ _ (((if_pos hc1).trans ((if_neg hc2).trans ((if_neg hc3).trans ((if_neg hc4).trans (if_neg hc5))))).symm) hP hD hS (lv_sub hl [0, 1, 2, 3] rfl)

theorem kX0_areAlike_0 : Cond.fieldLink RX0 9 "FlowPlane$Fence" "xs" "[I" ∈ wsX0_areAlike := by decide +kernel
theorem kX0_areAlike_1 : Cond.fieldLink RX0 15 "FlowPlane$Fence" "ys" "[I" ∈ wsX0_areAlike := by decide +kernel
theorem uX0_areAlike_X0 : ∀ w ∈ u_ws RX0 TX0 3, w ∈ wsX0_areAlike := by decide +kernel
def f_X0_areAlike (xs : Nat → Int32) (ys : Nat → Int32) (j : Nat) (k : Nat) : Int32 := (if (xs j) = (xs k) then (if (ys j) = (ys k) then 1 else 0) else 0)
theorem b_X0_areAlike (xs : Nat → Int32) (ys : Nat → Int32) (j : Nat) (k : Nat) : (f_X0_areAlike xs ys j k) = 0 ∨ (f_X0_areAlike xs ys j k) = 1 := by
  unfold f_X0_areAlike; (repeat' split) <;> first | exact Or.inl (by with_reducible rfl) | exact Or.inr (by with_reducible rfl)
set_option maxHeartbeats 400000000 in
set_option maxRecDepth 100000 in
theorem c_X0_areAlike (l : Launch) (D : va_G) (cy : Nat → ClassId) (ta : Nat) (tax : Nat) (tay : Nat) (xs : Nat → Int32) (ys : Nat → Int32) (n : Nat) (j : Nat) (k : Nat) (hn : n ≤ 8) (hj : j < 8) (hk : k < 8) : yk_Ci l D vwCl (yk_ty cy) yX0_areAlike wsX0_areAlike 0 0 [.ref ta, .int (nI j), .int (nI k)] [(ta, .inr (0, [.ref tax, .ref tay, .int (nI n)])), (tax, .inl (cy 0, 9, .inl xs)), (tay, .inl (cy 0, 9, .inl ys))] (f_X0_areAlike xs ys j k) [(ta, .inr (0, [.ref tax, .ref tay, .int (nI n)])), (tax, .inl (cy 0, 9, .inl xs)), (tay, .inl (cy 0, 9, .inl ys))] := by
  refine yk_eI (cc := cX0_areAlike) (maxL := 3) (by decide) rfl (Nat.le_of_ble_eq_true rfl) (yk_nb (b_X0_areAlike xs ys j k)) ?_
  intro p e R s m args below meth c A Q ls H locs hx hb hml hown hts hRf hRl hA hK hG hP hD hS hl hQ
  have hP : va_P D vwCl [(ta, .inr (0, [.ref tax, .ref tay, .int (nI n)])), (tax, .inl (cy 0, 9, .inl xs)), (tay, .inl (cy 0, 9, .inl ys))] H := hP
  have hl : lv_has ls 3 [(0, .ref ta), (1, .int (nI j)), (2, .int (nI k))] := hl
  have hown : s.vm.findClass RX0 = some m.cls := hown
  have hF : (f_X0_areAlike xs ys j k) = (f_X0_areAlike xs ys j k) := rfl
  refine lv_aload_n hx hb dX0_areAlike_0 rfl (lv_at hl 0 rfl) ?_
  refine va_get (D := D) (ci := 0) (v := .ref tax) (C := RX0) (T := TX0) (N := 3) hx hb hts uX0_areAlike_X0 hown hK hP 0 rfl rfl 0 (by decide) (hts _ kX0_areAlike_0) (fun _ h9 => h9) rfl dX0_areAlike_1 ?_
  refine lv_iload_n hx hb dX0_areAlike_4 rfl (lv_at hl 1 rfl) ?_
  refine yk_ild hx hb hK hP 1 0 rfl rfl j (by omega) (by decide) dX0_areAlike_5 ?_
  refine lv_aload_n hx hb dX0_areAlike_6 rfl (lv_at hl 0 rfl) ?_
  refine va_get (D := D) (ci := 0) (v := .ref tax) (C := RX0) (T := TX0) (N := 3) hx hb hts uX0_areAlike_X0 hown hK hP 0 rfl rfl 0 (by decide) (hts _ kX0_areAlike_0) (fun _ h9 => h9) rfl dX0_areAlike_7 ?_
  refine lv_iload_n hx hb dX0_areAlike_10 rfl (lv_at hl 2 rfl) ?_
  refine yk_ild hx hb hK hP 1 0 rfl rfl k (by omega) (by decide) dX0_areAlike_11 ?_
  have J4 : ∀ (v3 : Int32) (H : Heap) (locs : List Loc) (ls : Array Slot), v3 = (if (xs j) = (xs k) then (if (ys j) = (ys k) then 1 else 0) else 0) → va_P D vwCl [(ta, .inr (0, [.ref tax, .ref tay, .int (nI n)])), (tax, .inl (cy 0, 9, .inl xs)), (tay, .inl (cy 0, 9, .inl ys))] H → va_D A [(ta, .inr (0, [.ref tax, .ref tay, .int (nI n)])), (tax, .inl (cy 0, 9, .inl xs)), (tay, .inl (cy 0, 9, .inl ys))] → va_S A s.heap H locs → lv_has ls 3 [(0, .ref ta), (1, .int (nI j)), (2, .int (nI k))] → W p l e R s m args below meth c H locs 0 0 Q (F0 m 35 ls [.int v3]) := by
    clear hP hD hS hl
    intro v3 H locs ls ev3
    rw [ev3]
    clear ev3
    intro hP hD hS hl
    have hF : f_X0_areAlike xs ys j k = (if (xs j) = (xs k) then (if (ys j) = (ys k) then 1 else 0) else 0) := hF
    rw [hF] at hQ
    exact hQ _ _ _ _ dX0_areAlike_35 hP hS
  refine lv_icmp_ne (tgt := 34) hx hb dX0_areAlike_12 (by decide) (fun hc1 => ?_) (fun hc1 => ?_)
  · refine lv_iconst (v := 0) hx hb dX0_areAlike_34 (by decide) ?_
    exact J4 _ _ _ _ ((if_neg hc1).symm) hP hD hS (lv_sub hl [0, 1, 2] rfl)
  · refine lv_aload_n hx hb dX0_areAlike_15 rfl (lv_at hl 0 rfl) ?_
    refine va_get (D := D) (ci := 0) (v := .ref tay) (C := RX0) (T := TX0) (N := 3) hx hb hts uX0_areAlike_X0 hown hK hP 0 rfl rfl 1 (by decide) (hts _ kX0_areAlike_1) (fun _ h9 => h9) rfl dX0_areAlike_16 ?_
    refine lv_iload_n hx hb dX0_areAlike_19 rfl (lv_at hl 1 rfl) ?_
    refine yk_ild hx hb hK hP 2 0 rfl rfl j (by omega) (by decide) dX0_areAlike_20 ?_
    refine lv_aload_n hx hb dX0_areAlike_21 rfl (lv_at hl 0 rfl) ?_
    refine va_get (D := D) (ci := 0) (v := .ref tay) (C := RX0) (T := TX0) (N := 3) hx hb hts uX0_areAlike_X0 hown hK hP 0 rfl rfl 1 (by decide) (hts _ kX0_areAlike_1) (fun _ h9 => h9) rfl dX0_areAlike_22 ?_
    refine lv_iload_n hx hb dX0_areAlike_25 rfl (lv_at hl 2 rfl) ?_
    refine yk_ild hx hb hK hP 2 0 rfl rfl k (by omega) (by decide) dX0_areAlike_26 ?_
    refine lv_icmp_ne (tgt := 34) hx hb dX0_areAlike_27 (by decide) (fun hc2 => ?_) (fun hc2 => ?_)
    · refine lv_iconst (v := 0) hx hb dX0_areAlike_34 (by decide) ?_
      exact J4 _ _ _ _ (((if_pos hc1).trans (if_neg hc2)).symm) hP hD hS (lv_sub hl [0, 1, 2] rfl)
    · refine lv_iconst (v := 1) hx hb dX0_areAlike_30 (by decide) ?_
      refine lv_goto (tgt := 35) hx hb dX0_areAlike_31 (by decide) ?_
      exact J4 _ _ _ _ (((if_pos hc1).trans (if_pos hc2)).symm) hP hD hS (lv_sub hl [0, 1, 2] rfl)

theorem kX0_foldsBack_0 : Cond.fieldLink RX0 9 "FlowPlane$Fence" "xs" "[I" ∈ wsX0_foldsBack := by decide +kernel
theorem kX0_foldsBack_1 : Cond.fieldLink RX0 15 "FlowPlane$Fence" "ys" "[I" ∈ wsX0_foldsBack := by decide +kernel
theorem uX0_foldsBack_X0 : ∀ w ∈ u_ws RX0 TX0 3, w ∈ wsX0_foldsBack := by decide +kernel
def f_X0_foldsBack (xs : Nat → Int32) (ys : Nat → Int32) (j : Nat) (k : Nat) : Int32 := (if (f_X0_isOn xs ys j (xs (k + 1)) (ys (k + 1))) = 0 then (if (f_X0_isOn xs ys k (xs j) (ys j)) = 0 then 0 else 1) else 1)
theorem b_X0_foldsBack (xs : Nat → Int32) (ys : Nat → Int32) (j : Nat) (k : Nat) : (f_X0_foldsBack xs ys j k) = 0 ∨ (f_X0_foldsBack xs ys j k) = 1 := by
  unfold f_X0_foldsBack; (repeat' split) <;> first | exact Or.inl (by with_reducible rfl) | exact Or.inr (by with_reducible rfl) | with_reducible exact b_X0_isOn _ _ _ _ _
set_option maxHeartbeats 400000000 in
set_option maxRecDepth 100000 in
theorem c_X0_foldsBack (l : Launch) (D : va_G) (cy : Nat → ClassId) (ta : Nat) (tax : Nat) (tay : Nat) (xs : Nat → Int32) (ys : Nat → Int32) (n : Nat) (j : Nat) (k : Nat) (hn : n ≤ 8) (hj : j < 8) (hk : k < 8) : yk_Ci l D vwCl (yk_ty cy) yX0_foldsBack wsX0_foldsBack 2 46 [.ref ta, .int (nI j), .int (nI k)] [(ta, .inr (0, [.ref tax, .ref tay, .int (nI n)])), (tax, .inl (cy 0, 9, .inl xs)), (tay, .inl (cy 0, 9, .inl ys))] (f_X0_foldsBack xs ys j k) [(ta, .inr (0, [.ref tax, .ref tay, .int (nI n)])), (tax, .inl (cy 0, 9, .inl xs)), (tay, .inl (cy 0, 9, .inl ys))] := by
  refine yk_eI (cc := cX0_foldsBack) (maxL := 3) (by decide) rfl (Nat.le_of_ble_eq_true rfl) (yk_nb (b_X0_foldsBack xs ys j k)) ?_
  intro p e R s m args below meth c A Q ls H locs hx hb hml hown hts hRf hRl hA hK hG hP hD hS hl hQ
  have hP : va_P D vwCl [(ta, .inr (0, [.ref tax, .ref tay, .int (nI n)])), (tax, .inl (cy 0, 9, .inl xs)), (tay, .inl (cy 0, 9, .inl ys))] H := hP
  have hl : lv_has ls 3 [(0, .ref ta), (1, .int (nI j)), (2, .int (nI k))] := hl
  have hown : s.vm.findClass RX0 = some m.cls := hown
  have hF : (f_X0_foldsBack xs ys j k) = (f_X0_foldsBack xs ys j k) := rfl
  refine lv_aload_n hx hb dX0_foldsBack_0 rfl (lv_at hl 0 rfl) ?_
  refine lv_iload_n hx hb dX0_foldsBack_1 rfl (lv_at hl 1 rfl) ?_
  refine lv_aload_n hx hb dX0_foldsBack_2 rfl (lv_at hl 0 rfl) ?_
  refine va_get (D := D) (ci := 0) (v := .ref tax) (C := RX0) (T := TX0) (N := 3) hx hb hts uX0_foldsBack_X0 hown hK hP 0 rfl rfl 0 (by decide) (hts _ kX0_foldsBack_0) (fun _ h9 => h9) rfl dX0_foldsBack_3 ?_
  refine lv_iload_n hx hb dX0_foldsBack_6 rfl (lv_at hl 2 rfl) ?_
  refine lv_iconst (v := 1) hx hb dX0_foldsBack_7 (by decide) ?_
  refine lv_iadd hx hb dX0_foldsBack_8 ?_
  refine yk_ti (y := nI (k + 1)) (nI_add k 1) ?_
  refine yk_ild hx hb hK hP 1 0 rfl rfl (k + 1) (by omega) (by decide) dX0_foldsBack_9 ?_
  refine lv_aload_n hx hb dX0_foldsBack_10 rfl (lv_at hl 0 rfl) ?_
  refine va_get (D := D) (ci := 0) (v := .ref tay) (C := RX0) (T := TX0) (N := 3) hx hb hts uX0_foldsBack_X0 hown hK hP 0 rfl rfl 1 (by decide) (hts _ kX0_foldsBack_1) (fun _ h9 => h9) rfl dX0_foldsBack_11 ?_
  refine lv_iload_n hx hb dX0_foldsBack_14 rfl (lv_at hl 2 rfl) ?_
  refine lv_iconst (v := 1) hx hb dX0_foldsBack_15 (by decide) ?_
  refine lv_iadd hx hb dX0_foldsBack_16 ?_
  refine yk_ti (y := nI (k + 1)) (nI_add k 1) ?_
  refine yk_ild hx hb hK hP 2 0 rfl rfl (k + 1) (by omega) (by decide) dX0_foldsBack_17 ?_
  refine yk_i [0, 1, 2] (va_runV (As := [.int (nI j), .int (xs (k + 1)), .int (ys (k + 1))]) (rest := []) ⟨hx, hb, hml, hown, hts⟩ (c_X0_isOn l D cy ta tax tay xs ys n j (xs (k + 1)) (ys (k + 1)) hn hj H.size) (cwV 3 hts gX0_foldsBack_X0_isOn rfl rfl rfl hv_X0_isOn (yk_room hRf hRl rfl rfl)) (yk_pv (q := (RX0, TX0, 3)) hG hA hS hK hP hD [0, 1, 2] (by decide +kernel) rfl rfl rfl) rfl rfl hl.1 rfl (lv_room (Nat.le_of_ble_eq_true rfl)) dX0_foldsBack_18 ⟨Nat.zero_le _, Nat.zero_le _⟩) hP hD hS hA rfl (Eq.trans (b := [ta, tax, tay]) rfl rfl) (fun H locs hP9 hD9 hS9 => ?_)
  replace hP : va_P D vwCl [(ta, .inr (0, [.ref tax, .ref tay, .int (nI n)])), (tax, .inl (cy 0, 9, .inl xs)), (tay, .inl (cy 0, 9, .inl ys))] H := hP9
  replace hD : va_D A [(ta, .inr (0, [.ref tax, .ref tay, .int (nI n)])), (tax, .inl (cy 0, 9, .inl xs)), (tay, .inl (cy 0, 9, .inl ys))] := hD9
  replace hS := hS9
  clear hP9 hD9 hS9
  have J4 : ∀ (v3 : Int32) (H : Heap) (locs : List Loc) (ls : Array Slot), v3 = (if (f_X0_isOn xs ys j (xs (k + 1)) (ys (k + 1))) = 0 then (if (f_X0_isOn xs ys k (xs j) (ys j)) = 0 then 0 else 1) else 1) → va_P D vwCl [(ta, .inr (0, [.ref tax, .ref tay, .int (nI n)])), (tax, .inl (cy 0, 9, .inl xs)), (tay, .inl (cy 0, 9, .inl ys))] H → va_D A [(ta, .inr (0, [.ref tax, .ref tay, .int (nI n)])), (tax, .inl (cy 0, 9, .inl xs)), (tay, .inl (cy 0, 9, .inl ys))] → va_S A s.heap H locs → lv_has ls 3 [(0, .ref ta), (1, .int (nI j)), (2, .int (nI k))] → W p l e R s m args below meth c H locs 0 0 Q (F0 m 49 ls [.int v3]) := by
    clear hP hD hS hl
    intro v3 H locs ls ev3
    rw [ev3]
    clear ev3
    intro hP hD hS hl
    have hF : f_X0_foldsBack xs ys j k = (if (f_X0_isOn xs ys j (xs (k + 1)) (ys (k + 1))) = 0 then (if (f_X0_isOn xs ys k (xs j) (ys j)) = 0 then 0 else 1) else 1) := hF
    rw [hF] at hQ
    exact hQ _ _ _ _ dX0_foldsBack_49 hP hS
  refine lv_if_ne (tgt := 44) hx hb dX0_foldsBack_21 (by decide) (fun hc1 => ?_) (fun hc1 => ?_)
  · refine lv_iconst (v := 1) hx hb dX0_foldsBack_44 (by decide) ?_
    refine lv_goto (tgt := 49) hx hb dX0_foldsBack_45 (by decide) ?_
    exact J4 _ _ _ _ ((if_neg hc1).symm) hP hD hS (lv_sub hl [0, 1, 2] rfl)
  · refine lv_aload_n hx hb dX0_foldsBack_24 rfl (lv_at hl 0 rfl) ?_
    refine lv_iload_n hx hb dX0_foldsBack_25 rfl (lv_at hl 2 rfl) ?_
    refine lv_aload_n hx hb dX0_foldsBack_26 rfl (lv_at hl 0 rfl) ?_
    refine va_get (D := D) (ci := 0) (v := .ref tax) (C := RX0) (T := TX0) (N := 3) hx hb hts uX0_foldsBack_X0 hown hK hP 0 rfl rfl 0 (by decide) (hts _ kX0_foldsBack_0) (fun _ h9 => h9) rfl dX0_foldsBack_27 ?_
    refine lv_iload_n hx hb dX0_foldsBack_30 rfl (lv_at hl 1 rfl) ?_
    refine yk_ild hx hb hK hP 1 0 rfl rfl j (by omega) (by decide) dX0_foldsBack_31 ?_
    refine lv_aload_n hx hb dX0_foldsBack_32 rfl (lv_at hl 0 rfl) ?_
    refine va_get (D := D) (ci := 0) (v := .ref tay) (C := RX0) (T := TX0) (N := 3) hx hb hts uX0_foldsBack_X0 hown hK hP 0 rfl rfl 1 (by decide) (hts _ kX0_foldsBack_1) (fun _ h9 => h9) rfl dX0_foldsBack_33 ?_
    refine lv_iload_n hx hb dX0_foldsBack_36 rfl (lv_at hl 1 rfl) ?_
    refine yk_ild hx hb hK hP 2 0 rfl rfl j (by omega) (by decide) dX0_foldsBack_37 ?_
    refine yk_i [0, 1, 2] (va_runV (As := [.int (nI k), .int (xs j), .int (ys j)]) (rest := []) ⟨hx, hb, hml, hown, hts⟩ (c_X0_isOn l D cy ta tax tay xs ys n k (xs j) (ys j) hn hk H.size) (cwV 3 hts gX0_foldsBack_X0_isOn rfl rfl rfl hv_X0_isOn (yk_room hRf hRl rfl rfl)) (yk_pv (q := (RX0, TX0, 3)) hG hA hS hK hP hD [0, 1, 2] (by decide +kernel) rfl rfl rfl) rfl rfl hl.1 rfl (lv_room (Nat.le_of_ble_eq_true rfl)) dX0_foldsBack_38 ⟨Nat.zero_le _, Nat.zero_le _⟩) hP hD hS hA rfl (Eq.trans (b := [ta, tax, tay]) rfl rfl) (fun H locs hP9 hD9 hS9 => ?_)
    replace hP : va_P D vwCl [(ta, .inr (0, [.ref tax, .ref tay, .int (nI n)])), (tax, .inl (cy 0, 9, .inl xs)), (tay, .inl (cy 0, 9, .inl ys))] H := hP9
    replace hD : va_D A [(ta, .inr (0, [.ref tax, .ref tay, .int (nI n)])), (tax, .inl (cy 0, 9, .inl xs)), (tay, .inl (cy 0, 9, .inl ys))] := hD9
    replace hS := hS9
    clear hP9 hD9 hS9
    refine lv_if_eq (tgt := 48) hx hb dX0_foldsBack_41 (by decide) (fun hc2 => ?_) (fun hc2 => ?_)
    · refine lv_iconst (v := 0) hx hb dX0_foldsBack_48 (by decide) ?_
      exact J4 _ _ _ _ (((if_pos hc1).trans (if_pos hc2)).symm) hP hD hS (lv_sub hl [0, 1, 2] rfl)
    · refine lv_iconst (v := 1) hx hb dX0_foldsBack_44 (by decide) ?_
      refine lv_goto (tgt := 49) hx hb dX0_foldsBack_45 (by decide) ?_
      exact J4 _ _ _ _ (((if_pos hc1).trans (if_neg hc2)).symm) hP hD hS (lv_sub hl [0, 1, 2] rfl)

theorem kX0_parts_0 : Cond.fieldLink RX0 9 "FlowPlane$Fence" "xs" "[I" ∈ wsX0_parts := by decide +kernel
theorem kX0_parts_1 : Cond.fieldLink RX0 15 "FlowPlane$Fence" "ys" "[I" ∈ wsX0_parts := by decide +kernel
theorem uX0_parts_X0 : ∀ w ∈ u_ws RX0 TX0 3, w ∈ wsX0_parts := by decide +kernel
def f_X0_parts (xs : Nat → Int32) (ys : Nat → Int32) (j : Nat) (k : Nat) : Int32 := (if 0 ≤ (f_X0_leftOf xs ys j (xs k) (ys k)) then (if (f_X0_leftOf xs ys j (xs k) (ys k)) ≤ 0 then 0 else (if 0 ≤ (f_X0_leftOf xs ys j (xs (k + 1)) (ys (k + 1))) then 0 else 1)) else (if 0 < (f_X0_leftOf xs ys j (xs (k + 1)) (ys (k + 1))) then 1 else (if (f_X0_leftOf xs ys j (xs k) (ys k)) ≤ 0 then 0 else (if 0 ≤ (f_X0_leftOf xs ys j (xs (k + 1)) (ys (k + 1))) then 0 else 1))))
theorem b_X0_parts (xs : Nat → Int32) (ys : Nat → Int32) (j : Nat) (k : Nat) : (f_X0_parts xs ys j k) = 0 ∨ (f_X0_parts xs ys j k) = 1 := by
  unfold f_X0_parts; (repeat' split) <;> first | exact Or.inl (by with_reducible rfl) | exact Or.inr (by with_reducible rfl)
set_option maxHeartbeats 400000000 in
set_option maxRecDepth 100000 in
theorem c_X0_parts (l : Launch) (D : va_G) (cy : Nat → ClassId) (ta : Nat) (tax : Nat) (tay : Nat) (xs : Nat → Int32) (ys : Nat → Int32) (n : Nat) (j : Nat) (k : Nat) (hn : n ≤ 8) (hj : j < 8) (hk : k < 8) : yk_Ci l D vwCl (yk_ty cy) yX0_parts wsX0_parts 1 23 [.ref ta, .int (nI j), .int (nI k)] [(ta, .inr (0, [.ref tax, .ref tay, .int (nI n)])), (tax, .inl (cy 0, 9, .inl xs)), (tay, .inl (cy 0, 9, .inl ys))] (f_X0_parts xs ys j k) [(ta, .inr (0, [.ref tax, .ref tay, .int (nI n)])), (tax, .inl (cy 0, 9, .inl xs)), (tay, .inl (cy 0, 9, .inl ys))] := by
  refine yk_eI (cc := cX0_parts) (maxL := 5) (by decide) rfl (Nat.le_of_ble_eq_true rfl) (yk_nb (b_X0_parts xs ys j k)) ?_
  intro p e R s m args below meth c A Q ls H locs hx hb hml hown hts hRf hRl hA hK hG hP hD hS hl hQ
  have hP : va_P D vwCl [(ta, .inr (0, [.ref tax, .ref tay, .int (nI n)])), (tax, .inl (cy 0, 9, .inl xs)), (tay, .inl (cy 0, 9, .inl ys))] H := hP
  have hl : lv_has ls 5 [(0, .ref ta), (1, .int (nI j)), (2, .int (nI k))] := hl
  have hown : s.vm.findClass RX0 = some m.cls := hown
  have hF : (f_X0_parts xs ys j k) = (f_X0_parts xs ys j k) := rfl
  refine lv_aload_n hx hb dX0_parts_0 rfl (lv_at hl 0 rfl) ?_
  refine lv_iload_n hx hb dX0_parts_1 rfl (lv_at hl 1 rfl) ?_
  refine lv_aload_n hx hb dX0_parts_2 rfl (lv_at hl 0 rfl) ?_
  refine va_get (D := D) (ci := 0) (v := .ref tax) (C := RX0) (T := TX0) (N := 3) hx hb hts uX0_parts_X0 hown hK hP 0 rfl rfl 0 (by decide) (hts _ kX0_parts_0) (fun _ h9 => h9) rfl dX0_parts_3 ?_
  refine lv_iload_n hx hb dX0_parts_6 rfl (lv_at hl 2 rfl) ?_
  refine yk_ild hx hb hK hP 1 0 rfl rfl k (by omega) (by decide) dX0_parts_7 ?_
  refine lv_aload_n hx hb dX0_parts_8 rfl (lv_at hl 0 rfl) ?_
  refine va_get (D := D) (ci := 0) (v := .ref tay) (C := RX0) (T := TX0) (N := 3) hx hb hts uX0_parts_X0 hown hK hP 0 rfl rfl 1 (by decide) (hts _ kX0_parts_1) (fun _ h9 => h9) rfl dX0_parts_9 ?_
  refine lv_iload_n hx hb dX0_parts_12 rfl (lv_at hl 2 rfl) ?_
  refine yk_ild hx hb hK hP 2 0 rfl rfl k (by omega) (by decide) dX0_parts_13 ?_
  refine yk_i [0, 1, 2] (va_runV (As := [.int (nI j), .int (xs k), .int (ys k)]) (rest := []) ⟨hx, hb, hml, hown, hts⟩ (c_X0_leftOf l D cy ta tax tay xs ys n j (xs k) (ys k) hn hj H.size) (cwV 3 hts gX0_parts_X0_leftOf rfl rfl rfl hv_X0_leftOf (yk_room hRf hRl rfl rfl)) (yk_pv (q := (RX0, TX0, 3)) hG hA hS hK hP hD [0, 1, 2] (by decide +kernel) rfl rfl rfl) rfl rfl hl.1 rfl (lv_room (Nat.le_of_ble_eq_true rfl)) dX0_parts_14 ⟨Nat.zero_le _, Nat.zero_le _⟩) hP hD hS hA rfl (Eq.trans (b := [ta, tax, tay]) rfl rfl) (fun H locs hP9 hD9 hS9 => ?_)
  replace hP : va_P D vwCl [(ta, .inr (0, [.ref tax, .ref tay, .int (nI n)])), (tax, .inl (cy 0, 9, .inl xs)), (tay, .inl (cy 0, 9, .inl ys))] H := hP9
  replace hD : va_D A [(ta, .inr (0, [.ref tax, .ref tay, .int (nI n)])), (tax, .inl (cy 0, 9, .inl xs)), (tay, .inl (cy 0, 9, .inl ys))] := hD9
  replace hS := hS9
  clear hP9 hD9 hS9
  refine lv_istore_n (lv' := [(3, .int (f_X0_leftOf xs ys j (xs k) (ys k))), (0, .ref ta), (1, .int (nI j)), (2, .int (nI k))]) hx hb dX0_parts_17 rfl hl (by decide) rfl (fun ls hl9 => ?_)
  replace hl := hl9
  clear hl9
  refine lv_aload_n hx hb dX0_parts_18 rfl (lv_at hl 1 rfl) ?_
  refine lv_iload_n hx hb dX0_parts_19 rfl (lv_at hl 2 rfl) ?_
  refine lv_aload_n hx hb dX0_parts_20 rfl (lv_at hl 1 rfl) ?_
  refine va_get (D := D) (ci := 0) (v := .ref tax) (C := RX0) (T := TX0) (N := 3) hx hb hts uX0_parts_X0 hown hK hP 0 rfl rfl 0 (by decide) (hts _ kX0_parts_0) (fun _ h9 => h9) rfl dX0_parts_21 ?_
  refine lv_iload_n hx hb dX0_parts_24 rfl (lv_at hl 3 rfl) ?_
  refine lv_iconst (v := 1) hx hb dX0_parts_25 (by decide) ?_
  refine lv_iadd hx hb dX0_parts_26 ?_
  refine yk_ti (y := nI (k + 1)) (nI_add k 1) ?_
  refine yk_ild hx hb hK hP 1 0 rfl rfl (k + 1) (by omega) (by decide) dX0_parts_27 ?_
  refine lv_aload_n hx hb dX0_parts_28 rfl (lv_at hl 1 rfl) ?_
  refine va_get (D := D) (ci := 0) (v := .ref tay) (C := RX0) (T := TX0) (N := 3) hx hb hts uX0_parts_X0 hown hK hP 0 rfl rfl 1 (by decide) (hts _ kX0_parts_1) (fun _ h9 => h9) rfl dX0_parts_29 ?_
  refine lv_iload_n hx hb dX0_parts_32 rfl (lv_at hl 3 rfl) ?_
  refine lv_iconst (v := 1) hx hb dX0_parts_33 (by decide) ?_
  refine lv_iadd hx hb dX0_parts_34 ?_
  refine yk_ti (y := nI (k + 1)) (nI_add k 1) ?_
  refine yk_ild hx hb hK hP 2 0 rfl rfl (k + 1) (by omega) (by decide) dX0_parts_35 ?_
  refine yk_i [0, 1, 2] (va_runV (As := [.int (nI j), .int (xs (k + 1)), .int (ys (k + 1))]) (rest := []) ⟨hx, hb, hml, hown, hts⟩ (c_X0_leftOf l D cy ta tax tay xs ys n j (xs (k + 1)) (ys (k + 1)) hn hj H.size) (cwV 3 hts gX0_parts_X0_leftOf rfl rfl rfl hv_X0_leftOf (yk_room hRf hRl rfl rfl)) (yk_pv (q := (RX0, TX0, 3)) hG hA hS hK hP hD [0, 1, 2] (by decide +kernel) rfl rfl rfl) rfl rfl hl.1 rfl (lv_room (Nat.le_of_ble_eq_true rfl)) dX0_parts_36 ⟨Nat.zero_le _, Nat.zero_le _⟩) hP hD hS hA rfl (Eq.trans (b := [ta, tax, tay]) rfl rfl) (fun H locs hP9 hD9 hS9 => ?_)
  replace hP : va_P D vwCl [(ta, .inr (0, [.ref tax, .ref tay, .int (nI n)])), (tax, .inl (cy 0, 9, .inl xs)), (tay, .inl (cy 0, 9, .inl ys))] H := hP9
  replace hD : va_D A [(ta, .inr (0, [.ref tax, .ref tay, .int (nI n)])), (tax, .inl (cy 0, 9, .inl xs)), (tay, .inl (cy 0, 9, .inl ys))] := hD9
  replace hS := hS9
  clear hP9 hD9 hS9
  refine lv_istore (lv' := [(4, .int (f_X0_leftOf xs ys j (xs (k + 1)) (ys (k + 1)))), (3, .int (f_X0_leftOf xs ys j (xs k) (ys k))), (0, .ref ta), (1, .int (nI j)), (2, .int (nI k))]) hx hb dX0_parts_39 hl (by decide) rfl (fun ls hl9 => ?_)
  replace hl := hl9
  clear hl9
  refine lv_iload_n hx hb dX0_parts_41 rfl (lv_at hl 1 rfl) ?_
  have J8 : ∀ (v7 : Int32) (H : Heap) (locs : List Loc) (ls : Array Slot), v7 = (if 0 ≤ (f_X0_leftOf xs ys j (xs k) (ys k)) then (if (f_X0_leftOf xs ys j (xs k) (ys k)) ≤ 0 then 0 else (if 0 ≤ (f_X0_leftOf xs ys j (xs (k + 1)) (ys (k + 1))) then 0 else 1)) else (if 0 < (f_X0_leftOf xs ys j (xs (k + 1)) (ys (k + 1))) then 1 else (if (f_X0_leftOf xs ys j (xs k) (ys k)) ≤ 0 then 0 else (if 0 ≤ (f_X0_leftOf xs ys j (xs (k + 1)) (ys (k + 1))) then 0 else 1)))) → va_P D vwCl [(ta, .inr (0, [.ref tax, .ref tay, .int (nI n)])), (tax, .inl (cy 0, 9, .inl xs)), (tay, .inl (cy 0, 9, .inl ys))] H → va_D A [(ta, .inr (0, [.ref tax, .ref tay, .int (nI n)])), (tax, .inl (cy 0, 9, .inl xs)), (tay, .inl (cy 0, 9, .inl ys))] → va_S A s.heap H locs → lv_has ls 5 [(0, .ref ta), (1, .int (nI j)), (2, .int (nI k)), (3, .int (f_X0_leftOf xs ys j (xs k) (ys k))), (4, .int (f_X0_leftOf xs ys j (xs (k + 1)) (ys (k + 1))))] → W p l e R s m args below meth c H locs 0 0 Q (F0 m 64 ls [.int v7]) := by
    clear hP hD hS hl
    intro v7 H locs ls ev7
    rw [ev7]
    clear ev7
    intro hP hD hS hl
    have hF : f_X0_parts xs ys j k = (if 0 ≤ (f_X0_leftOf xs ys j (xs k) (ys k)) then (if (f_X0_leftOf xs ys j (xs k) (ys k)) ≤ 0 then 0 else (if 0 ≤ (f_X0_leftOf xs ys j (xs (k + 1)) (ys (k + 1))) then 0 else 1)) else (if 0 < (f_X0_leftOf xs ys j (xs (k + 1)) (ys (k + 1))) then 1 else (if (f_X0_leftOf xs ys j (xs k) (ys k)) ≤ 0 then 0 else (if 0 ≤ (f_X0_leftOf xs ys j (xs (k + 1)) (ys (k + 1))) then 0 else 1)))) := hF
    rw [hF] at hQ
    exact hQ _ _ _ _ dX0_parts_64 hP hS
  refine lv_if_ge (tgt := 50) hx hb dX0_parts_42 (by decide) (fun hc1 => ?_) (fun hc1 => ?_)
  · refine lv_iload_n hx hb dX0_parts_50 rfl (lv_at hl 1 rfl) ?_
    refine lv_if_le (tgt := 63) hx hb dX0_parts_51 (by decide) (fun hc2 => ?_) (fun hc2 => ?_)
    · refine lv_iconst (v := 0) hx hb dX0_parts_63 (by decide) ?_
      exact J8 _ _ _ _ (((if_pos hc1).trans (if_pos hc2)).symm) hP hD hS (lv_sub hl [2, 3, 4, 1, 0] rfl)
    · refine lv_iload hx hb dX0_parts_54 (lv_at hl 0 rfl) ?_
      refine lv_if_ge (tgt := 63) hx hb dX0_parts_56 (by decide) (fun hc3 => ?_) (fun hc3 => ?_)
      · refine lv_iconst (v := 0) hx hb dX0_parts_63 (by decide) ?_
        exact J8 _ _ _ _ (((if_pos hc1).trans ((if_neg hc2).trans (if_pos hc3))).symm) hP hD hS (lv_sub hl [2, 3, 4, 1, 0] rfl)
      · refine lv_iconst (v := 1) hx hb dX0_parts_59 (by decide) ?_
        refine lv_goto (tgt := 64) hx hb dX0_parts_60 (by decide) ?_
        exact J8 _ _ _ _ (((if_pos hc1).trans ((if_neg hc2).trans (if_neg hc3))).symm) hP hD hS (lv_sub hl [2, 3, 4, 1, 0] rfl)
  · refine lv_iload hx hb dX0_parts_45 (lv_at hl 0 rfl) ?_
    refine lv_if_gt (tgt := 59) hx hb dX0_parts_47 (by decide) (fun hc4 => ?_) (fun hc4 => ?_)
    · refine lv_iconst (v := 1) hx hb dX0_parts_59 (by decide) ?_
      refine lv_goto (tgt := 64) hx hb dX0_parts_60 (by decide) ?_
      exact J8 _ _ _ _ (((if_neg hc1).trans (if_pos hc4)).symm) hP hD hS (lv_sub hl [2, 3, 4, 1, 0] rfl)
    · refine lv_iload_n hx hb dX0_parts_50 rfl (lv_at hl 1 rfl) ?_
      refine lv_if_le (tgt := 63) hx hb dX0_parts_51 (by decide) (fun hc5 => ?_) (fun hc5 => ?_)
      · refine lv_iconst (v := 0) hx hb dX0_parts_63 (by decide) ?_
        exact J8 _ _ _ _ (((if_neg hc1).trans ((if_neg hc4).trans (if_pos hc5))).symm) hP hD hS (lv_sub hl [2, 3, 4, 1, 0] rfl)
      · refine lv_iload hx hb dX0_parts_54 (lv_at hl 0 rfl) ?_
        refine lv_if_ge (tgt := 63) hx hb dX0_parts_56 (by decide) (fun hc6 => ?_) (fun hc6 => ?_)
        · refine lv_iconst (v := 0) hx hb dX0_parts_63 (by decide) ?_
          exact J8 _ _ _ _ (((if_neg hc1).trans ((if_neg hc4).trans ((if_neg hc5).trans (if_pos hc6)))).symm) hP hD hS (lv_sub hl [2, 3, 4, 1, 0] rfl)
        · refine lv_iconst (v := 1) hx hb dX0_parts_59 (by decide) ?_
          refine lv_goto (tgt := 64) hx hb dX0_parts_60 (by decide) ?_
          exact J8 _ _ _ _ (((if_neg hc1).trans ((if_neg hc4).trans ((if_neg hc5).trans (if_neg hc6)))).symm) hP hD hS (lv_sub hl [2, 3, 4, 1, 0] rfl)

theorem kX0_touches_0 : Cond.fieldLink RX0 9 "FlowPlane$Fence" "xs" "[I" ∈ wsX0_touches := by decide +kernel
theorem kX0_touches_1 : Cond.fieldLink RX0 15 "FlowPlane$Fence" "ys" "[I" ∈ wsX0_touches := by decide +kernel
theorem uX0_touches_X0 : ∀ w ∈ u_ws RX0 TX0 3, w ∈ wsX0_touches := by decide +kernel
def f_X0_touches (xs : Nat → Int32) (ys : Nat → Int32) (j : Nat) (k : Nat) : Int32 := (if (f_X0_isOn xs ys j (xs k) (ys k)) = 0 then (if (f_X0_isOn xs ys j (xs (k + 1)) (ys (k + 1))) = 0 then 0 else 1) else 1)
theorem b_X0_touches (xs : Nat → Int32) (ys : Nat → Int32) (j : Nat) (k : Nat) : (f_X0_touches xs ys j k) = 0 ∨ (f_X0_touches xs ys j k) = 1 := by
  unfold f_X0_touches; (repeat' split) <;> first | exact Or.inl (by with_reducible rfl) | exact Or.inr (by with_reducible rfl) | with_reducible exact b_X0_isOn _ _ _ _ _
set_option maxHeartbeats 400000000 in
set_option maxRecDepth 100000 in
theorem c_X0_touches (l : Launch) (D : va_G) (cy : Nat → ClassId) (ta : Nat) (tax : Nat) (tay : Nat) (xs : Nat → Int32) (ys : Nat → Int32) (n : Nat) (j : Nat) (k : Nat) (hn : n ≤ 8) (hj : j < 8) (hk : k < 8) : yk_Ci l D vwCl (yk_ty cy) yX0_touches wsX0_touches 2 46 [.ref ta, .int (nI j), .int (nI k)] [(ta, .inr (0, [.ref tax, .ref tay, .int (nI n)])), (tax, .inl (cy 0, 9, .inl xs)), (tay, .inl (cy 0, 9, .inl ys))] (f_X0_touches xs ys j k) [(ta, .inr (0, [.ref tax, .ref tay, .int (nI n)])), (tax, .inl (cy 0, 9, .inl xs)), (tay, .inl (cy 0, 9, .inl ys))] := by
  refine yk_eI (cc := cX0_touches) (maxL := 3) (by decide) rfl (Nat.le_of_ble_eq_true rfl) (yk_nb (b_X0_touches xs ys j k)) ?_
  intro p e R s m args below meth c A Q ls H locs hx hb hml hown hts hRf hRl hA hK hG hP hD hS hl hQ
  have hP : va_P D vwCl [(ta, .inr (0, [.ref tax, .ref tay, .int (nI n)])), (tax, .inl (cy 0, 9, .inl xs)), (tay, .inl (cy 0, 9, .inl ys))] H := hP
  have hl : lv_has ls 3 [(0, .ref ta), (1, .int (nI j)), (2, .int (nI k))] := hl
  have hown : s.vm.findClass RX0 = some m.cls := hown
  have hF : (f_X0_touches xs ys j k) = (f_X0_touches xs ys j k) := rfl
  refine lv_aload_n hx hb dX0_touches_0 rfl (lv_at hl 0 rfl) ?_
  refine lv_iload_n hx hb dX0_touches_1 rfl (lv_at hl 1 rfl) ?_
  refine lv_aload_n hx hb dX0_touches_2 rfl (lv_at hl 0 rfl) ?_
  refine va_get (D := D) (ci := 0) (v := .ref tax) (C := RX0) (T := TX0) (N := 3) hx hb hts uX0_touches_X0 hown hK hP 0 rfl rfl 0 (by decide) (hts _ kX0_touches_0) (fun _ h9 => h9) rfl dX0_touches_3 ?_
  refine lv_iload_n hx hb dX0_touches_6 rfl (lv_at hl 2 rfl) ?_
  refine yk_ild hx hb hK hP 1 0 rfl rfl k (by omega) (by decide) dX0_touches_7 ?_
  refine lv_aload_n hx hb dX0_touches_8 rfl (lv_at hl 0 rfl) ?_
  refine va_get (D := D) (ci := 0) (v := .ref tay) (C := RX0) (T := TX0) (N := 3) hx hb hts uX0_touches_X0 hown hK hP 0 rfl rfl 1 (by decide) (hts _ kX0_touches_1) (fun _ h9 => h9) rfl dX0_touches_9 ?_
  refine lv_iload_n hx hb dX0_touches_12 rfl (lv_at hl 2 rfl) ?_
  refine yk_ild hx hb hK hP 2 0 rfl rfl k (by omega) (by decide) dX0_touches_13 ?_
  refine yk_i [0, 1, 2] (va_runV (As := [.int (nI j), .int (xs k), .int (ys k)]) (rest := []) ⟨hx, hb, hml, hown, hts⟩ (c_X0_isOn l D cy ta tax tay xs ys n j (xs k) (ys k) hn hj H.size) (cwV 3 hts gX0_touches_X0_isOn rfl rfl rfl hv_X0_isOn (yk_room hRf hRl rfl rfl)) (yk_pv (q := (RX0, TX0, 3)) hG hA hS hK hP hD [0, 1, 2] (by decide +kernel) rfl rfl rfl) rfl rfl hl.1 rfl (lv_room (Nat.le_of_ble_eq_true rfl)) dX0_touches_14 ⟨Nat.zero_le _, Nat.zero_le _⟩) hP hD hS hA rfl (Eq.trans (b := [ta, tax, tay]) rfl rfl) (fun H locs hP9 hD9 hS9 => ?_)
  replace hP : va_P D vwCl [(ta, .inr (0, [.ref tax, .ref tay, .int (nI n)])), (tax, .inl (cy 0, 9, .inl xs)), (tay, .inl (cy 0, 9, .inl ys))] H := hP9
  replace hD : va_D A [(ta, .inr (0, [.ref tax, .ref tay, .int (nI n)])), (tax, .inl (cy 0, 9, .inl xs)), (tay, .inl (cy 0, 9, .inl ys))] := hD9
  replace hS := hS9
  clear hP9 hD9 hS9
  have J4 : ∀ (v3 : Int32) (H : Heap) (locs : List Loc) (ls : Array Slot), v3 = (if (f_X0_isOn xs ys j (xs k) (ys k)) = 0 then (if (f_X0_isOn xs ys j (xs (k + 1)) (ys (k + 1))) = 0 then 0 else 1) else 1) → va_P D vwCl [(ta, .inr (0, [.ref tax, .ref tay, .int (nI n)])), (tax, .inl (cy 0, 9, .inl xs)), (tay, .inl (cy 0, 9, .inl ys))] H → va_D A [(ta, .inr (0, [.ref tax, .ref tay, .int (nI n)])), (tax, .inl (cy 0, 9, .inl xs)), (tay, .inl (cy 0, 9, .inl ys))] → va_S A s.heap H locs → lv_has ls 3 [(0, .ref ta), (1, .int (nI j)), (2, .int (nI k))] → W p l e R s m args below meth c H locs 0 0 Q (F0 m 49 ls [.int v3]) := by
    clear hP hD hS hl
    intro v3 H locs ls ev3
    rw [ev3]
    clear ev3
    intro hP hD hS hl
    have hF : f_X0_touches xs ys j k = (if (f_X0_isOn xs ys j (xs k) (ys k)) = 0 then (if (f_X0_isOn xs ys j (xs (k + 1)) (ys (k + 1))) = 0 then 0 else 1) else 1) := hF
    rw [hF] at hQ
    exact hQ _ _ _ _ dX0_touches_49 hP hS
  refine lv_if_ne (tgt := 44) hx hb dX0_touches_17 (by decide) (fun hc1 => ?_) (fun hc1 => ?_)
  · refine lv_iconst (v := 1) hx hb dX0_touches_44 (by decide) ?_
    refine lv_goto (tgt := 49) hx hb dX0_touches_45 (by decide) ?_
    exact J4 _ _ _ _ ((if_neg hc1).symm) hP hD hS (lv_sub hl [0, 1, 2] rfl)
  · refine lv_aload_n hx hb dX0_touches_20 rfl (lv_at hl 0 rfl) ?_
    refine lv_iload_n hx hb dX0_touches_21 rfl (lv_at hl 1 rfl) ?_
    refine lv_aload_n hx hb dX0_touches_22 rfl (lv_at hl 0 rfl) ?_
    refine va_get (D := D) (ci := 0) (v := .ref tax) (C := RX0) (T := TX0) (N := 3) hx hb hts uX0_touches_X0 hown hK hP 0 rfl rfl 0 (by decide) (hts _ kX0_touches_0) (fun _ h9 => h9) rfl dX0_touches_23 ?_
    refine lv_iload_n hx hb dX0_touches_26 rfl (lv_at hl 2 rfl) ?_
    refine lv_iconst (v := 1) hx hb dX0_touches_27 (by decide) ?_
    refine lv_iadd hx hb dX0_touches_28 ?_
    refine yk_ti (y := nI (k + 1)) (nI_add k 1) ?_
    refine yk_ild hx hb hK hP 1 0 rfl rfl (k + 1) (by omega) (by decide) dX0_touches_29 ?_
    refine lv_aload_n hx hb dX0_touches_30 rfl (lv_at hl 0 rfl) ?_
    refine va_get (D := D) (ci := 0) (v := .ref tay) (C := RX0) (T := TX0) (N := 3) hx hb hts uX0_touches_X0 hown hK hP 0 rfl rfl 1 (by decide) (hts _ kX0_touches_1) (fun _ h9 => h9) rfl dX0_touches_31 ?_
    refine lv_iload_n hx hb dX0_touches_34 rfl (lv_at hl 2 rfl) ?_
    refine lv_iconst (v := 1) hx hb dX0_touches_35 (by decide) ?_
    refine lv_iadd hx hb dX0_touches_36 ?_
    refine yk_ti (y := nI (k + 1)) (nI_add k 1) ?_
    refine yk_ild hx hb hK hP 2 0 rfl rfl (k + 1) (by omega) (by decide) dX0_touches_37 ?_
    refine yk_i [0, 1, 2] (va_runV (As := [.int (nI j), .int (xs (k + 1)), .int (ys (k + 1))]) (rest := []) ⟨hx, hb, hml, hown, hts⟩ (c_X0_isOn l D cy ta tax tay xs ys n j (xs (k + 1)) (ys (k + 1)) hn hj H.size) (cwV 3 hts gX0_touches_X0_isOn rfl rfl rfl hv_X0_isOn (yk_room hRf hRl rfl rfl)) (yk_pv (q := (RX0, TX0, 3)) hG hA hS hK hP hD [0, 1, 2] (by decide +kernel) rfl rfl rfl) rfl rfl hl.1 rfl (lv_room (Nat.le_of_ble_eq_true rfl)) dX0_touches_38 ⟨Nat.zero_le _, Nat.zero_le _⟩) hP hD hS hA rfl (Eq.trans (b := [ta, tax, tay]) rfl rfl) (fun H locs hP9 hD9 hS9 => ?_)
    replace hP : va_P D vwCl [(ta, .inr (0, [.ref tax, .ref tay, .int (nI n)])), (tax, .inl (cy 0, 9, .inl xs)), (tay, .inl (cy 0, 9, .inl ys))] H := hP9
    replace hD : va_D A [(ta, .inr (0, [.ref tax, .ref tay, .int (nI n)])), (tax, .inl (cy 0, 9, .inl xs)), (tay, .inl (cy 0, 9, .inl ys))] := hD9
    replace hS := hS9
    clear hP9 hD9 hS9
    refine lv_if_eq (tgt := 48) hx hb dX0_touches_41 (by decide) (fun hc2 => ?_) (fun hc2 => ?_)
    · refine lv_iconst (v := 0) hx hb dX0_touches_48 (by decide) ?_
      exact J4 _ _ _ _ (((if_pos hc1).trans (if_pos hc2)).symm) hP hD hS (lv_sub hl [0, 1, 2] rfl)
    · refine lv_iconst (v := 1) hx hb dX0_touches_44 (by decide) ?_
      refine lv_goto (tgt := 49) hx hb dX0_touches_45 (by decide) ?_
      exact J4 _ _ _ _ (((if_pos hc1).trans (if_neg hc2)).symm) hP hD hS (lv_sub hl [0, 1, 2] rfl)

theorem kX0_passesRightOf_0 : Cond.fieldLink RX0 15 "FlowPlane$Fence" "ys" "[I" ∈ wsX0_passesRightOf := by decide +kernel
theorem uX0_passesRightOf_X0 : ∀ w ∈ u_ws RX0 TX0 3, w ∈ wsX0_passesRightOf := by decide +kernel
def f_X0_passesRightOf (xs : Nat → Int32) (ys : Nat → Int32) (k : Nat) (x : Int32) (y : Int32) : Int32 := (if y < (ys k) then (if y < (ys (k + 1)) then 0 else (if (ys k) ≤ y then 0 else (if 0 ≤ (f_X0_leftOf xs ys k x y) then 0 else 1))) else (if (ys (k + 1)) ≤ y then (if y < (ys (k + 1)) then 0 else (if (ys k) ≤ y then 0 else (if 0 ≤ (f_X0_leftOf xs ys k x y) then 0 else 1))) else (if (f_X0_leftOf xs ys k x y) ≤ 0 then 0 else 1)))
theorem b_X0_passesRightOf (xs : Nat → Int32) (ys : Nat → Int32) (k : Nat) (x : Int32) (y : Int32) : (f_X0_passesRightOf xs ys k x y) = 0 ∨ (f_X0_passesRightOf xs ys k x y) = 1 := by
  unfold f_X0_passesRightOf; (repeat' split) <;> first | exact Or.inl (by with_reducible rfl) | exact Or.inr (by with_reducible rfl)
set_option maxHeartbeats 400000000 in
set_option maxRecDepth 100000 in
theorem c_X0_passesRightOf (l : Launch) (D : va_G) (cy : Nat → ClassId) (ta : Nat) (tax : Nat) (tay : Nat) (xs : Nat → Int32) (ys : Nat → Int32) (n : Nat) (k : Nat) (x : Int32) (y : Int32) (hn : n ≤ 8) (hk : k < 8) : yk_Ci l D vwCl (yk_ty cy) yX0_passesRightOf wsX0_passesRightOf 1 23 [.ref ta, .int (nI k), .int x, .int y] [(ta, .inr (0, [.ref tax, .ref tay, .int (nI n)])), (tax, .inl (cy 0, 9, .inl xs)), (tay, .inl (cy 0, 9, .inl ys))] (f_X0_passesRightOf xs ys k x y) [(ta, .inr (0, [.ref tax, .ref tay, .int (nI n)])), (tax, .inl (cy 0, 9, .inl xs)), (tay, .inl (cy 0, 9, .inl ys))] := by
  refine yk_eI (cc := cX0_passesRightOf) (maxL := 6) (by decide) rfl (Nat.le_of_ble_eq_true rfl) (yk_nb (b_X0_passesRightOf xs ys k x y)) ?_
  intro p e R s m args below meth c A Q ls H locs hx hb hml hown hts hRf hRl hA hK hG hP hD hS hl hQ
  have hP : va_P D vwCl [(ta, .inr (0, [.ref tax, .ref tay, .int (nI n)])), (tax, .inl (cy 0, 9, .inl xs)), (tay, .inl (cy 0, 9, .inl ys))] H := hP
  have hl : lv_has ls 6 [(0, .ref ta), (1, .int (nI k)), (2, .int x), (3, .int y)] := hl
  have hown : s.vm.findClass RX0 = some m.cls := hown
  have hF : (f_X0_passesRightOf xs ys k x y) = (f_X0_passesRightOf xs ys k x y) := rfl
  refine lv_aload_n hx hb dX0_passesRightOf_0 rfl (lv_at hl 0 rfl) ?_
  refine va_get (D := D) (ci := 0) (v := .ref tay) (C := RX0) (T := TX0) (N := 3) hx hb hts uX0_passesRightOf_X0 hown hK hP 0 rfl rfl 1 (by decide) (hts _ kX0_passesRightOf_0) (fun _ h9 => h9) rfl dX0_passesRightOf_1 ?_
  refine lv_iload_n hx hb dX0_passesRightOf_4 rfl (lv_at hl 1 rfl) ?_
  refine yk_ild hx hb hK hP 2 0 rfl rfl k (by omega) (by decide) dX0_passesRightOf_5 ?_
  refine lv_istore (lv' := [(4, .int (ys k)), (0, .ref ta), (1, .int (nI k)), (2, .int x), (3, .int y)]) hx hb dX0_passesRightOf_6 hl (by decide) rfl (fun ls hl9 => ?_)
  replace hl := hl9
  clear hl9
  refine lv_aload_n hx hb dX0_passesRightOf_8 rfl (lv_at hl 1 rfl) ?_
  refine va_get (D := D) (ci := 0) (v := .ref tay) (C := RX0) (T := TX0) (N := 3) hx hb hts uX0_passesRightOf_X0 hown hK hP 0 rfl rfl 1 (by decide) (hts _ kX0_passesRightOf_0) (fun _ h9 => h9) rfl dX0_passesRightOf_9 ?_
  refine lv_iload_n hx hb dX0_passesRightOf_12 rfl (lv_at hl 2 rfl) ?_
  refine lv_iconst (v := 1) hx hb dX0_passesRightOf_13 (by decide) ?_
  refine lv_iadd hx hb dX0_passesRightOf_14 ?_
  refine yk_ti (y := nI (k + 1)) (nI_add k 1) ?_
  refine yk_ild hx hb hK hP 2 0 rfl rfl (k + 1) (by omega) (by decide) dX0_passesRightOf_15 ?_
  refine lv_istore (lv' := [(5, .int (ys (k + 1))), (4, .int (ys k)), (0, .ref ta), (1, .int (nI k)), (2, .int x), (3, .int y)]) hx hb dX0_passesRightOf_16 hl (by decide) rfl (fun ls hl9 => ?_)
  replace hl := hl9
  clear hl9
  refine lv_iload hx hb dX0_passesRightOf_18 (lv_at hl 1 rfl) ?_
  refine lv_iload_n hx hb dX0_passesRightOf_20 rfl (lv_at hl 5 rfl) ?_
  refine lv_icmp_gt (tgt := 46) hx hb dX0_passesRightOf_21 (by decide) (fun hc1 => ?_) (fun hc1 => ?_)
  · replace hF := hF.trans (if_pos hc1)
    refine lv_iload hx hb dX0_passesRightOf_46 (lv_at hl 0 rfl) ?_
    refine lv_iload_n hx hb dX0_passesRightOf_48 rfl (lv_at hl 5 rfl) ?_
    have J6 : ∀ (v5 : Int32) (H : Heap) (locs : List Loc) (ls : Array Slot), v5 = (if y < (ys (k + 1)) then 0 else (if (ys k) ≤ y then 0 else (if 0 ≤ (f_X0_leftOf xs ys k x y) then 0 else 1))) → va_P D vwCl [(ta, .inr (0, [.ref tax, .ref tay, .int (nI n)])), (tax, .inl (cy 0, 9, .inl xs)), (tay, .inl (cy 0, 9, .inl ys))] H → va_D A [(ta, .inr (0, [.ref tax, .ref tay, .int (nI n)])), (tax, .inl (cy 0, 9, .inl xs)), (tay, .inl (cy 0, 9, .inl ys))] → va_S A s.heap H locs → lv_has ls 6 [(0, .ref ta), (1, .int (nI k)), (2, .int x), (3, .int y), (4, .int (ys k)), (5, .int (ys (k + 1)))] → W p l e R s m args below meth c H locs 0 0 Q (F0 m 73 ls [.int v5]) := by
      clear hP hD hS hl
      intro v5 H locs ls ev5
      rw [ev5]
      clear ev5
      intro hP hD hS hl
      have hF : f_X0_passesRightOf xs ys k x y = (if y < (ys (k + 1)) then 0 else (if (ys k) ≤ y then 0 else (if 0 ≤ (f_X0_leftOf xs ys k x y) then 0 else 1))) := hF
      rw [hF] at hQ
      exact hQ _ _ _ _ dX0_passesRightOf_73 hP hS
    refine lv_icmp_gt (tgt := 72) hx hb dX0_passesRightOf_49 (by decide) (fun hc2 => ?_) (fun hc2 => ?_)
    · refine lv_iconst (v := 0) hx hb dX0_passesRightOf_72 (by decide) ?_
      exact J6 _ _ _ _ ((if_pos hc2).symm) hP hD hS (lv_sub hl [2, 3, 4, 5, 1, 0] rfl)
    · refine lv_iload_n hx hb dX0_passesRightOf_52 rfl (lv_at hl 5 rfl) ?_
      refine lv_iload hx hb dX0_passesRightOf_53 (lv_at hl 1 rfl) ?_
      refine lv_icmp_ge (tgt := 72) hx hb dX0_passesRightOf_55 (by decide) (fun hc3 => ?_) (fun hc3 => ?_)
      · refine lv_iconst (v := 0) hx hb dX0_passesRightOf_72 (by decide) ?_
        exact J6 _ _ _ _ (((if_neg hc2).trans (if_pos hc3)).symm) hP hD hS (lv_sub hl [2, 3, 4, 5, 1, 0] rfl)
      · refine lv_aload_n hx hb dX0_passesRightOf_58 rfl (lv_at hl 2 rfl) ?_
        refine lv_iload_n hx hb dX0_passesRightOf_59 rfl (lv_at hl 3 rfl) ?_
        refine lv_iload_n hx hb dX0_passesRightOf_60 rfl (lv_at hl 4 rfl) ?_
        refine lv_iload_n hx hb dX0_passesRightOf_61 rfl (lv_at hl 5 rfl) ?_
        refine yk_i [0, 1, 2] (va_runV (As := [.int (nI k), .int x, .int y]) (rest := []) ⟨hx, hb, hml, hown, hts⟩ (c_X0_leftOf l D cy ta tax tay xs ys n k x y hn hk H.size) (cwV 3 hts gX0_passesRightOf_X0_leftOf rfl rfl rfl hv_X0_leftOf (yk_room hRf hRl rfl rfl)) (yk_pv (q := (RX0, TX0, 3)) hG hA hS hK hP hD [0, 1, 2] (by decide +kernel) rfl rfl rfl) rfl rfl hl.1 rfl (lv_room (Nat.le_of_ble_eq_true rfl)) dX0_passesRightOf_62 ⟨Nat.zero_le _, Nat.zero_le _⟩) hP hD hS hA rfl (Eq.trans (b := [ta, tax, tay]) rfl rfl) (fun H locs hP9 hD9 hS9 => ?_)
        replace hP : va_P D vwCl [(ta, .inr (0, [.ref tax, .ref tay, .int (nI n)])), (tax, .inl (cy 0, 9, .inl xs)), (tay, .inl (cy 0, 9, .inl ys))] H := hP9
        replace hD : va_D A [(ta, .inr (0, [.ref tax, .ref tay, .int (nI n)])), (tax, .inl (cy 0, 9, .inl xs)), (tay, .inl (cy 0, 9, .inl ys))] := hD9
        replace hS := hS9
        clear hP9 hD9 hS9
        refine lv_if_ge (tgt := 72) hx hb dX0_passesRightOf_65 (by decide) (fun hc4 => ?_) (fun hc4 => ?_)
        · refine lv_iconst (v := 0) hx hb dX0_passesRightOf_72 (by decide) ?_
          exact J6 _ _ _ _ (((if_neg hc2).trans ((if_neg hc3).trans (if_pos hc4))).symm) hP hD hS (lv_sub hl [2, 3, 4, 5, 1, 0] rfl)
        · refine lv_iconst (v := 1) hx hb dX0_passesRightOf_68 (by decide) ?_
          refine lv_goto (tgt := 73) hx hb dX0_passesRightOf_69 (by decide) ?_
          exact J6 _ _ _ _ (((if_neg hc2).trans ((if_neg hc3).trans (if_neg hc4))).symm) hP hD hS (lv_sub hl [2, 3, 4, 5, 1, 0] rfl)
  · replace hF := hF.trans (if_neg hc1)
    refine lv_iload_n hx hb dX0_passesRightOf_24 rfl (lv_at hl 5 rfl) ?_
    refine lv_iload hx hb dX0_passesRightOf_25 (lv_at hl 0 rfl) ?_
    refine lv_icmp_ge (tgt := 46) hx hb dX0_passesRightOf_27 (by decide) (fun hc7 => ?_) (fun hc7 => ?_)
    · replace hF := hF.trans (if_pos hc7)
      refine lv_iload hx hb dX0_passesRightOf_46 (lv_at hl 0 rfl) ?_
      refine lv_iload_n hx hb dX0_passesRightOf_48 rfl (lv_at hl 5 rfl) ?_
      have J12 : ∀ (v11 : Int32) (H : Heap) (locs : List Loc) (ls : Array Slot), v11 = (if y < (ys (k + 1)) then 0 else (if (ys k) ≤ y then 0 else (if 0 ≤ (f_X0_leftOf xs ys k x y) then 0 else 1))) → va_P D vwCl [(ta, .inr (0, [.ref tax, .ref tay, .int (nI n)])), (tax, .inl (cy 0, 9, .inl xs)), (tay, .inl (cy 0, 9, .inl ys))] H → va_D A [(ta, .inr (0, [.ref tax, .ref tay, .int (nI n)])), (tax, .inl (cy 0, 9, .inl xs)), (tay, .inl (cy 0, 9, .inl ys))] → va_S A s.heap H locs → lv_has ls 6 [(0, .ref ta), (1, .int (nI k)), (2, .int x), (3, .int y), (4, .int (ys k)), (5, .int (ys (k + 1)))] → W p l e R s m args below meth c H locs 0 0 Q (F0 m 73 ls [.int v11]) := by
        clear hP hD hS hl
        intro v11 H locs ls ev11
        rw [ev11]
        clear ev11
        intro hP hD hS hl
        have hF : f_X0_passesRightOf xs ys k x y = (if y < (ys (k + 1)) then 0 else (if (ys k) ≤ y then 0 else (if 0 ≤ (f_X0_leftOf xs ys k x y) then 0 else 1))) := hF
        rw [hF] at hQ
        exact hQ _ _ _ _ dX0_passesRightOf_73 hP hS
      refine lv_icmp_gt (tgt := 72) hx hb dX0_passesRightOf_49 (by decide) (fun hc8 => ?_) (fun hc8 => ?_)
      · refine lv_iconst (v := 0) hx hb dX0_passesRightOf_72 (by decide) ?_
        exact J12 _ _ _ _ ((if_pos hc8).symm) hP hD hS (lv_sub hl [2, 3, 4, 5, 1, 0] rfl)
      · refine lv_iload_n hx hb dX0_passesRightOf_52 rfl (lv_at hl 5 rfl) ?_
        refine lv_iload hx hb dX0_passesRightOf_53 (lv_at hl 1 rfl) ?_
        refine lv_icmp_ge (tgt := 72) hx hb dX0_passesRightOf_55 (by decide) (fun hc9 => ?_) (fun hc9 => ?_)
        · refine lv_iconst (v := 0) hx hb dX0_passesRightOf_72 (by decide) ?_
          exact J12 _ _ _ _ (((if_neg hc8).trans (if_pos hc9)).symm) hP hD hS (lv_sub hl [2, 3, 4, 5, 1, 0] rfl)
        · refine lv_aload_n hx hb dX0_passesRightOf_58 rfl (lv_at hl 2 rfl) ?_
          refine lv_iload_n hx hb dX0_passesRightOf_59 rfl (lv_at hl 3 rfl) ?_
          refine lv_iload_n hx hb dX0_passesRightOf_60 rfl (lv_at hl 4 rfl) ?_
          refine lv_iload_n hx hb dX0_passesRightOf_61 rfl (lv_at hl 5 rfl) ?_
          refine yk_i [0, 1, 2] (va_runV (As := [.int (nI k), .int x, .int y]) (rest := []) ⟨hx, hb, hml, hown, hts⟩ (c_X0_leftOf l D cy ta tax tay xs ys n k x y hn hk H.size) (cwV 3 hts gX0_passesRightOf_X0_leftOf rfl rfl rfl hv_X0_leftOf (yk_room hRf hRl rfl rfl)) (yk_pv (q := (RX0, TX0, 3)) hG hA hS hK hP hD [0, 1, 2] (by decide +kernel) rfl rfl rfl) rfl rfl hl.1 rfl (lv_room (Nat.le_of_ble_eq_true rfl)) dX0_passesRightOf_62 ⟨Nat.zero_le _, Nat.zero_le _⟩) hP hD hS hA rfl (Eq.trans (b := [ta, tax, tay]) rfl rfl) (fun H locs hP9 hD9 hS9 => ?_)
          replace hP : va_P D vwCl [(ta, .inr (0, [.ref tax, .ref tay, .int (nI n)])), (tax, .inl (cy 0, 9, .inl xs)), (tay, .inl (cy 0, 9, .inl ys))] H := hP9
          replace hD : va_D A [(ta, .inr (0, [.ref tax, .ref tay, .int (nI n)])), (tax, .inl (cy 0, 9, .inl xs)), (tay, .inl (cy 0, 9, .inl ys))] := hD9
          replace hS := hS9
          clear hP9 hD9 hS9
          refine lv_if_ge (tgt := 72) hx hb dX0_passesRightOf_65 (by decide) (fun hc10 => ?_) (fun hc10 => ?_)
          · refine lv_iconst (v := 0) hx hb dX0_passesRightOf_72 (by decide) ?_
            exact J12 _ _ _ _ (((if_neg hc8).trans ((if_neg hc9).trans (if_pos hc10))).symm) hP hD hS (lv_sub hl [2, 3, 4, 5, 1, 0] rfl)
          · refine lv_iconst (v := 1) hx hb dX0_passesRightOf_68 (by decide) ?_
            refine lv_goto (tgt := 73) hx hb dX0_passesRightOf_69 (by decide) ?_
            exact J12 _ _ _ _ (((if_neg hc8).trans ((if_neg hc9).trans (if_neg hc10))).symm) hP hD hS (lv_sub hl [2, 3, 4, 5, 1, 0] rfl)
    · replace hF := hF.trans (if_neg hc7)
      refine lv_aload_n hx hb dX0_passesRightOf_30 rfl (lv_at hl 2 rfl) ?_
      refine lv_iload_n hx hb dX0_passesRightOf_31 rfl (lv_at hl 3 rfl) ?_
      refine lv_iload_n hx hb dX0_passesRightOf_32 rfl (lv_at hl 4 rfl) ?_
      refine lv_iload_n hx hb dX0_passesRightOf_33 rfl (lv_at hl 5 rfl) ?_
      refine yk_i [0, 1, 2] (va_runV (As := [.int (nI k), .int x, .int y]) (rest := []) ⟨hx, hb, hml, hown, hts⟩ (c_X0_leftOf l D cy ta tax tay xs ys n k x y hn hk H.size) (cwV 3 hts gX0_passesRightOf_X0_leftOf rfl rfl rfl hv_X0_leftOf (yk_room hRf hRl rfl rfl)) (yk_pv (q := (RX0, TX0, 3)) hG hA hS hK hP hD [0, 1, 2] (by decide +kernel) rfl rfl rfl) rfl rfl hl.1 rfl (lv_room (Nat.le_of_ble_eq_true rfl)) dX0_passesRightOf_34 ⟨Nat.zero_le _, Nat.zero_le _⟩) hP hD hS hA rfl (Eq.trans (b := [ta, tax, tay]) rfl rfl) (fun H locs hP9 hD9 hS9 => ?_)
      replace hP : va_P D vwCl [(ta, .inr (0, [.ref tax, .ref tay, .int (nI n)])), (tax, .inl (cy 0, 9, .inl xs)), (tay, .inl (cy 0, 9, .inl ys))] H := hP9
      replace hD : va_D A [(ta, .inr (0, [.ref tax, .ref tay, .int (nI n)])), (tax, .inl (cy 0, 9, .inl xs)), (tay, .inl (cy 0, 9, .inl ys))] := hD9
      replace hS := hS9
      clear hP9 hD9 hS9
      have J15 : ∀ (v14 : Int32) (H : Heap) (locs : List Loc) (ls : Array Slot), v14 = (if (f_X0_leftOf xs ys k x y) ≤ 0 then 0 else 1) → va_P D vwCl [(ta, .inr (0, [.ref tax, .ref tay, .int (nI n)])), (tax, .inl (cy 0, 9, .inl xs)), (tay, .inl (cy 0, 9, .inl ys))] H → va_D A [(ta, .inr (0, [.ref tax, .ref tay, .int (nI n)])), (tax, .inl (cy 0, 9, .inl xs)), (tay, .inl (cy 0, 9, .inl ys))] → va_S A s.heap H locs → lv_has ls 6 [(0, .ref ta), (1, .int (nI k)), (2, .int x), (3, .int y), (4, .int (ys k)), (5, .int (ys (k + 1)))] → W p l e R s m args below meth c H locs 0 0 Q (F0 m 45 ls [.int v14]) := by
        clear hP hD hS hl
        intro v14 H locs ls ev14
        rw [ev14]
        clear ev14
        intro hP hD hS hl
        have hF : f_X0_passesRightOf xs ys k x y = (if (f_X0_leftOf xs ys k x y) ≤ 0 then 0 else 1) := hF
        rw [hF] at hQ
        exact hQ _ _ _ _ dX0_passesRightOf_45 hP hS
      refine lv_if_le (tgt := 44) hx hb dX0_passesRightOf_37 (by decide) (fun hc13 => ?_) (fun hc13 => ?_)
      · refine lv_iconst (v := 0) hx hb dX0_passesRightOf_44 (by decide) ?_
        exact J15 _ _ _ _ ((if_pos hc13).symm) hP hD hS (lv_sub hl [2, 3, 4, 5, 1, 0] rfl)
      · refine lv_iconst (v := 1) hx hb dX0_passesRightOf_40 (by decide) ?_
        refine lv_goto (tgt := 45) hx hb dX0_passesRightOf_41 (by decide) ?_
        exact J15 _ _ _ _ ((if_neg hc13).symm) hP hD hS (lv_sub hl [2, 3, 4, 5, 1, 0] rfl)

theorem kX0_clash_0 : Cond.fieldLink RX0 18 "FlowPlane$Fence" "count" "I" ∈ wsX0_clash := by decide +kernel
theorem uX0_clash_X0 : ∀ w ∈ u_ws RX0 TX0 3, w ∈ wsX0_clash := by decide +kernel
def f_X0_clash (xs : Nat → Int32) (ys : Nat → Int32) (n : Nat) (j : Nat) (k : Nat) : Int32 := (if (nI k) = (nI (j + 1)) then (f_X0_foldsBack xs ys j k) else (if (nI j) = 0 then (if (nI k) = ((nI n) - 1) then (f_X0_foldsBack xs ys k j) else (if (f_X0_parts xs ys j k) = 0 then (if (f_X0_touches xs ys j k) = 0 then (if (f_X0_touches xs ys k j) = 0 then 0 else 1) else 1) else (if (f_X0_parts xs ys k j) = 0 then (if (f_X0_touches xs ys j k) = 0 then (if (f_X0_touches xs ys k j) = 0 then 0 else 1) else 1) else 1))) else (if (f_X0_parts xs ys j k) = 0 then (if (f_X0_touches xs ys j k) = 0 then (if (f_X0_touches xs ys k j) = 0 then 0 else 1) else 1) else (if (f_X0_parts xs ys k j) = 0 then (if (f_X0_touches xs ys j k) = 0 then (if (f_X0_touches xs ys k j) = 0 then 0 else 1) else 1) else 1))))
theorem b_X0_clash (xs : Nat → Int32) (ys : Nat → Int32) (n : Nat) (j : Nat) (k : Nat) : (f_X0_clash xs ys n j k) = 0 ∨ (f_X0_clash xs ys n j k) = 1 := by
  unfold f_X0_clash; (repeat' split) <;> first | exact Or.inl (by with_reducible rfl) | exact Or.inr (by with_reducible rfl) | with_reducible exact b_X0_parts _ _ _ _ | with_reducible exact b_X0_touches _ _ _ _ | with_reducible exact b_X0_foldsBack _ _ _ _
set_option maxHeartbeats 400000000 in
set_option maxRecDepth 100000 in
theorem c_X0_clash (l : Launch) (D : va_G) (cy : Nat → ClassId) (ta : Nat) (tax : Nat) (tay : Nat) (xs : Nat → Int32) (ys : Nat → Int32) (n : Nat) (j : Nat) (k : Nat) (hn : n ≤ 8) (hj : j < 8) (hk : k < 8) (hj0 : j < n) (hk0 : k < n) : yk_Ci l D vwCl (yk_ty cy) yX0_clash wsX0_clash 3 68 [.ref ta, .int (nI j), .int (nI k)] [(ta, .inr (0, [.ref tax, .ref tay, .int (nI n)])), (tax, .inl (cy 0, 9, .inl xs)), (tay, .inl (cy 0, 9, .inl ys))] (f_X0_clash xs ys n j k) [(ta, .inr (0, [.ref tax, .ref tay, .int (nI n)])), (tax, .inl (cy 0, 9, .inl xs)), (tay, .inl (cy 0, 9, .inl ys))] := by
  refine yk_eI (cc := cX0_clash) (maxL := 3) (by decide) rfl (Nat.le_of_ble_eq_true rfl) (yk_nb (b_X0_clash xs ys n j k)) ?_
  intro p e R s m args below meth c A Q ls H locs hx hb hml hown hts hRf hRl hA hK hG hP hD hS hl hQ
  have hP : va_P D vwCl [(ta, .inr (0, [.ref tax, .ref tay, .int (nI n)])), (tax, .inl (cy 0, 9, .inl xs)), (tay, .inl (cy 0, 9, .inl ys))] H := hP
  have hl : lv_has ls 3 [(0, .ref ta), (1, .int (nI j)), (2, .int (nI k))] := hl
  have hown : s.vm.findClass RX0 = some m.cls := hown
  have hF : (f_X0_clash xs ys n j k) = (f_X0_clash xs ys n j k) := rfl
  refine lv_iload_n hx hb dX0_clash_0 rfl (lv_at hl 2 rfl) ?_
  refine lv_iload_n hx hb dX0_clash_1 rfl (lv_at hl 1 rfl) ?_
  refine lv_iconst (v := 1) hx hb dX0_clash_2 (by decide) ?_
  refine lv_iadd hx hb dX0_clash_3 ?_
  refine yk_ti (y := nI (j + 1)) (nI_add j 1) ?_
  refine lv_icmp_ne (tgt := 14) hx hb dX0_clash_4 (by decide) (fun hc1 => ?_) (fun hc1 => ?_)
  · replace hF := hF.trans (if_neg hc1)
    refine lv_iload_n hx hb dX0_clash_14 rfl (lv_at hl 1 rfl) ?_
    refine lv_if_ne (tgt := 35) hx hb dX0_clash_15 (by decide) (fun hc2 => ?_) (fun hc2 => ?_)
    · replace hF := hF.trans (if_neg hc2)
      refine lv_aload_n hx hb dX0_clash_35 rfl (lv_at hl 0 rfl) ?_
      refine lv_iload_n hx hb dX0_clash_36 rfl (lv_at hl 1 rfl) ?_
      refine lv_iload_n hx hb dX0_clash_37 rfl (lv_at hl 2 rfl) ?_
      refine yk_i [0, 1, 2] (va_runV (As := [.int (nI j), .int (nI k)]) (rest := []) ⟨hx, hb, hml, hown, hts⟩ (c_X0_parts l D cy ta tax tay xs ys n j k hn hj hk H.size) (cwV 2 hts gX0_clash_X0_parts rfl rfl rfl hv_X0_parts (yk_room hRf hRl rfl rfl)) (yk_pv (q := (RX0, TX0, 3)) hG hA hS hK hP hD [0, 1, 2] (by decide +kernel) rfl rfl rfl) rfl rfl hl.1 rfl (lv_room (Nat.le_of_ble_eq_true rfl)) dX0_clash_38 ⟨Nat.zero_le _, Nat.zero_le _⟩) hP hD hS hA rfl (Eq.trans (b := [ta, tax, tay]) rfl rfl) (fun H locs hP9 hD9 hS9 => ?_)
      replace hP : va_P D vwCl [(ta, .inr (0, [.ref tax, .ref tay, .int (nI n)])), (tax, .inl (cy 0, 9, .inl xs)), (tay, .inl (cy 0, 9, .inl ys))] H := hP9
      replace hD : va_D A [(ta, .inr (0, [.ref tax, .ref tay, .int (nI n)])), (tax, .inl (cy 0, 9, .inl xs)), (tay, .inl (cy 0, 9, .inl ys))] := hD9
      replace hS := hS9
      clear hP9 hD9 hS9
      have J10 : ∀ (v9 : Int32) (H : Heap) (locs : List Loc) (ls : Array Slot), v9 = (if (f_X0_parts xs ys j k) = 0 then (if (f_X0_touches xs ys j k) = 0 then (if (f_X0_touches xs ys k j) = 0 then 0 else 1) else 1) else (if (f_X0_parts xs ys k j) = 0 then (if (f_X0_touches xs ys j k) = 0 then (if (f_X0_touches xs ys k j) = 0 then 0 else 1) else 1) else 1)) → va_P D vwCl [(ta, .inr (0, [.ref tax, .ref tay, .int (nI n)])), (tax, .inl (cy 0, 9, .inl xs)), (tay, .inl (cy 0, 9, .inl ys))] H → va_D A [(ta, .inr (0, [.ref tax, .ref tay, .int (nI n)])), (tax, .inl (cy 0, 9, .inl xs)), (tay, .inl (cy 0, 9, .inl ys))] → va_S A s.heap H locs → lv_has ls 3 [(0, .ref ta), (1, .int (nI j)), (2, .int (nI k))] → W p l e R s m args below meth c H locs 0 0 Q (F0 m 76 ls [.int v9]) := by
        clear hP hD hS hl
        intro v9 H locs ls ev9
        rw [ev9]
        clear ev9
        intro hP hD hS hl
        have hF : f_X0_clash xs ys n j k = (if (f_X0_parts xs ys j k) = 0 then (if (f_X0_touches xs ys j k) = 0 then (if (f_X0_touches xs ys k j) = 0 then 0 else 1) else 1) else (if (f_X0_parts xs ys k j) = 0 then (if (f_X0_touches xs ys j k) = 0 then (if (f_X0_touches xs ys k j) = 0 then 0 else 1) else 1) else 1)) := hF
        rw [hF] at hQ
        exact hQ _ _ _ _ dX0_clash_76 hP hS
      refine lv_if_eq (tgt := 53) hx hb dX0_clash_41 (by decide) (fun hc3 => ?_) (fun hc3 => ?_)
      · refine lv_aload_n hx hb dX0_clash_53 rfl (lv_at hl 0 rfl) ?_
        refine lv_iload_n hx hb dX0_clash_54 rfl (lv_at hl 1 rfl) ?_
        refine lv_iload_n hx hb dX0_clash_55 rfl (lv_at hl 2 rfl) ?_
        refine yk_i [0, 1, 2] (va_runV (As := [.int (nI j), .int (nI k)]) (rest := []) ⟨hx, hb, hml, hown, hts⟩ (c_X0_touches l D cy ta tax tay xs ys n j k hn hj hk H.size) (cwV 2 hts gX0_clash_X0_touches rfl rfl rfl hv_X0_touches (yk_room hRf hRl rfl rfl)) (yk_pv (q := (RX0, TX0, 3)) hG hA hS hK hP hD [0, 1, 2] (by decide +kernel) rfl rfl rfl) rfl rfl hl.1 rfl (lv_room (Nat.le_of_ble_eq_true rfl)) dX0_clash_56 ⟨Nat.zero_le _, Nat.zero_le _⟩) hP hD hS hA rfl (Eq.trans (b := [ta, tax, tay]) rfl rfl) (fun H locs hP9 hD9 hS9 => ?_)
        replace hP : va_P D vwCl [(ta, .inr (0, [.ref tax, .ref tay, .int (nI n)])), (tax, .inl (cy 0, 9, .inl xs)), (tay, .inl (cy 0, 9, .inl ys))] H := hP9
        replace hD : va_D A [(ta, .inr (0, [.ref tax, .ref tay, .int (nI n)])), (tax, .inl (cy 0, 9, .inl xs)), (tay, .inl (cy 0, 9, .inl ys))] := hD9
        replace hS := hS9
        clear hP9 hD9 hS9
        refine lv_if_ne (tgt := 71) hx hb dX0_clash_59 (by decide) (fun hc4 => ?_) (fun hc4 => ?_)
        · refine lv_iconst (v := 1) hx hb dX0_clash_71 (by decide) ?_
          refine lv_goto (tgt := 76) hx hb dX0_clash_72 (by decide) ?_
          exact J10 _ _ _ _ (((if_pos hc3).trans (if_neg hc4)).symm) hP hD hS (lv_sub hl [0, 1, 2] rfl)
        · refine lv_aload_n hx hb dX0_clash_62 rfl (lv_at hl 0 rfl) ?_
          refine lv_iload_n hx hb dX0_clash_63 rfl (lv_at hl 2 rfl) ?_
          refine lv_iload_n hx hb dX0_clash_64 rfl (lv_at hl 1 rfl) ?_
          refine yk_i [0, 1, 2] (va_runV (As := [.int (nI k), .int (nI j)]) (rest := []) ⟨hx, hb, hml, hown, hts⟩ (c_X0_touches l D cy ta tax tay xs ys n k j hn hk hj H.size) (cwV 2 hts gX0_clash_X0_touches rfl rfl rfl hv_X0_touches (yk_room hRf hRl rfl rfl)) (yk_pv (q := (RX0, TX0, 3)) hG hA hS hK hP hD [0, 1, 2] (by decide +kernel) rfl rfl rfl) rfl rfl hl.1 rfl (lv_room (Nat.le_of_ble_eq_true rfl)) dX0_clash_65 ⟨Nat.zero_le _, Nat.zero_le _⟩) hP hD hS hA rfl (Eq.trans (b := [ta, tax, tay]) rfl rfl) (fun H locs hP9 hD9 hS9 => ?_)
          replace hP : va_P D vwCl [(ta, .inr (0, [.ref tax, .ref tay, .int (nI n)])), (tax, .inl (cy 0, 9, .inl xs)), (tay, .inl (cy 0, 9, .inl ys))] H := hP9
          replace hD : va_D A [(ta, .inr (0, [.ref tax, .ref tay, .int (nI n)])), (tax, .inl (cy 0, 9, .inl xs)), (tay, .inl (cy 0, 9, .inl ys))] := hD9
          replace hS := hS9
          clear hP9 hD9 hS9
          refine lv_if_eq (tgt := 75) hx hb dX0_clash_68 (by decide) (fun hc5 => ?_) (fun hc5 => ?_)
          · refine lv_iconst (v := 0) hx hb dX0_clash_75 (by decide) ?_
            exact J10 _ _ _ _ (((if_pos hc3).trans ((if_pos hc4).trans (if_pos hc5))).symm) hP hD hS (lv_sub hl [0, 1, 2] rfl)
          · refine lv_iconst (v := 1) hx hb dX0_clash_71 (by decide) ?_
            refine lv_goto (tgt := 76) hx hb dX0_clash_72 (by decide) ?_
            exact J10 _ _ _ _ (((if_pos hc3).trans ((if_pos hc4).trans (if_neg hc5))).symm) hP hD hS (lv_sub hl [0, 1, 2] rfl)
      · refine lv_aload_n hx hb dX0_clash_44 rfl (lv_at hl 0 rfl) ?_
        refine lv_iload_n hx hb dX0_clash_45 rfl (lv_at hl 2 rfl) ?_
        refine lv_iload_n hx hb dX0_clash_46 rfl (lv_at hl 1 rfl) ?_
        refine yk_i [0, 1, 2] (va_runV (As := [.int (nI k), .int (nI j)]) (rest := []) ⟨hx, hb, hml, hown, hts⟩ (c_X0_parts l D cy ta tax tay xs ys n k j hn hk hj H.size) (cwV 2 hts gX0_clash_X0_parts rfl rfl rfl hv_X0_parts (yk_room hRf hRl rfl rfl)) (yk_pv (q := (RX0, TX0, 3)) hG hA hS hK hP hD [0, 1, 2] (by decide +kernel) rfl rfl rfl) rfl rfl hl.1 rfl (lv_room (Nat.le_of_ble_eq_true rfl)) dX0_clash_47 ⟨Nat.zero_le _, Nat.zero_le _⟩) hP hD hS hA rfl (Eq.trans (b := [ta, tax, tay]) rfl rfl) (fun H locs hP9 hD9 hS9 => ?_)
        replace hP : va_P D vwCl [(ta, .inr (0, [.ref tax, .ref tay, .int (nI n)])), (tax, .inl (cy 0, 9, .inl xs)), (tay, .inl (cy 0, 9, .inl ys))] H := hP9
        replace hD : va_D A [(ta, .inr (0, [.ref tax, .ref tay, .int (nI n)])), (tax, .inl (cy 0, 9, .inl xs)), (tay, .inl (cy 0, 9, .inl ys))] := hD9
        replace hS := hS9
        clear hP9 hD9 hS9
        refine lv_if_ne (tgt := 71) hx hb dX0_clash_50 (by decide) (fun hc6 => ?_) (fun hc6 => ?_)
        · refine lv_iconst (v := 1) hx hb dX0_clash_71 (by decide) ?_
          refine lv_goto (tgt := 76) hx hb dX0_clash_72 (by decide) ?_
          exact J10 _ _ _ _ (((if_neg hc3).trans (if_neg hc6)).symm) hP hD hS (lv_sub hl [0, 1, 2] rfl)
        · refine lv_aload_n hx hb dX0_clash_53 rfl (lv_at hl 0 rfl) ?_
          refine lv_iload_n hx hb dX0_clash_54 rfl (lv_at hl 1 rfl) ?_
          refine lv_iload_n hx hb dX0_clash_55 rfl (lv_at hl 2 rfl) ?_
          refine yk_i [0, 1, 2] (va_runV (As := [.int (nI j), .int (nI k)]) (rest := []) ⟨hx, hb, hml, hown, hts⟩ (c_X0_touches l D cy ta tax tay xs ys n j k hn hj hk H.size) (cwV 2 hts gX0_clash_X0_touches rfl rfl rfl hv_X0_touches (yk_room hRf hRl rfl rfl)) (yk_pv (q := (RX0, TX0, 3)) hG hA hS hK hP hD [0, 1, 2] (by decide +kernel) rfl rfl rfl) rfl rfl hl.1 rfl (lv_room (Nat.le_of_ble_eq_true rfl)) dX0_clash_56 ⟨Nat.zero_le _, Nat.zero_le _⟩) hP hD hS hA rfl (Eq.trans (b := [ta, tax, tay]) rfl rfl) (fun H locs hP9 hD9 hS9 => ?_)
          replace hP : va_P D vwCl [(ta, .inr (0, [.ref tax, .ref tay, .int (nI n)])), (tax, .inl (cy 0, 9, .inl xs)), (tay, .inl (cy 0, 9, .inl ys))] H := hP9
          replace hD : va_D A [(ta, .inr (0, [.ref tax, .ref tay, .int (nI n)])), (tax, .inl (cy 0, 9, .inl xs)), (tay, .inl (cy 0, 9, .inl ys))] := hD9
          replace hS := hS9
          clear hP9 hD9 hS9
          refine lv_if_ne (tgt := 71) hx hb dX0_clash_59 (by decide) (fun hc7 => ?_) (fun hc7 => ?_)
          · refine lv_iconst (v := 1) hx hb dX0_clash_71 (by decide) ?_
            refine lv_goto (tgt := 76) hx hb dX0_clash_72 (by decide) ?_
            exact J10 _ _ _ _ (((if_neg hc3).trans ((if_pos hc6).trans (if_neg hc7))).symm) hP hD hS (lv_sub hl [0, 1, 2] rfl)
          · refine lv_aload_n hx hb dX0_clash_62 rfl (lv_at hl 0 rfl) ?_
            refine lv_iload_n hx hb dX0_clash_63 rfl (lv_at hl 2 rfl) ?_
            refine lv_iload_n hx hb dX0_clash_64 rfl (lv_at hl 1 rfl) ?_
            refine yk_i [0, 1, 2] (va_runV (As := [.int (nI k), .int (nI j)]) (rest := []) ⟨hx, hb, hml, hown, hts⟩ (c_X0_touches l D cy ta tax tay xs ys n k j hn hk hj H.size) (cwV 2 hts gX0_clash_X0_touches rfl rfl rfl hv_X0_touches (yk_room hRf hRl rfl rfl)) (yk_pv (q := (RX0, TX0, 3)) hG hA hS hK hP hD [0, 1, 2] (by decide +kernel) rfl rfl rfl) rfl rfl hl.1 rfl (lv_room (Nat.le_of_ble_eq_true rfl)) dX0_clash_65 ⟨Nat.zero_le _, Nat.zero_le _⟩) hP hD hS hA rfl (Eq.trans (b := [ta, tax, tay]) rfl rfl) (fun H locs hP9 hD9 hS9 => ?_)
            replace hP : va_P D vwCl [(ta, .inr (0, [.ref tax, .ref tay, .int (nI n)])), (tax, .inl (cy 0, 9, .inl xs)), (tay, .inl (cy 0, 9, .inl ys))] H := hP9
            replace hD : va_D A [(ta, .inr (0, [.ref tax, .ref tay, .int (nI n)])), (tax, .inl (cy 0, 9, .inl xs)), (tay, .inl (cy 0, 9, .inl ys))] := hD9
            replace hS := hS9
            clear hP9 hD9 hS9
            refine lv_if_eq (tgt := 75) hx hb dX0_clash_68 (by decide) (fun hc8 => ?_) (fun hc8 => ?_)
            · refine lv_iconst (v := 0) hx hb dX0_clash_75 (by decide) ?_
              exact J10 _ _ _ _ (((if_neg hc3).trans ((if_pos hc6).trans ((if_pos hc7).trans (if_pos hc8)))).symm) hP hD hS (lv_sub hl [0, 1, 2] rfl)
            · refine lv_iconst (v := 1) hx hb dX0_clash_71 (by decide) ?_
              refine lv_goto (tgt := 76) hx hb dX0_clash_72 (by decide) ?_
              exact J10 _ _ _ _ (((if_neg hc3).trans ((if_pos hc6).trans ((if_pos hc7).trans (if_neg hc8)))).symm) hP hD hS (lv_sub hl [0, 1, 2] rfl)
    · replace hF := hF.trans (if_pos hc2)
      refine lv_iload_n hx hb dX0_clash_18 rfl (lv_at hl 2 rfl) ?_
      refine lv_aload_n hx hb dX0_clash_19 rfl (lv_at hl 0 rfl) ?_
      refine va_get (D := D) (ci := 0) (v := .int (nI n)) (C := RX0) (T := TX0) (N := 3) hx hb hts uX0_clash_X0 hown hK hP 0 rfl rfl 2 (by decide) (hts _ kX0_clash_0) (fun _ h9 => h9) rfl dX0_clash_20 ?_
      refine lv_iconst (v := 1) hx hb dX0_clash_23 (by decide) ?_
      refine lv_isub hx hb dX0_clash_24 ?_
      refine lv_icmp_ne (tgt := 35) hx hb dX0_clash_25 (by decide) (fun hc11 => ?_) (fun hc11 => ?_)
      · replace hF := hF.trans (if_neg hc11)
        refine lv_aload_n hx hb dX0_clash_35 rfl (lv_at hl 0 rfl) ?_
        refine lv_iload_n hx hb dX0_clash_36 rfl (lv_at hl 1 rfl) ?_
        refine lv_iload_n hx hb dX0_clash_37 rfl (lv_at hl 2 rfl) ?_
        refine yk_i [0, 1, 2] (va_runV (As := [.int (nI j), .int (nI k)]) (rest := []) ⟨hx, hb, hml, hown, hts⟩ (c_X0_parts l D cy ta tax tay xs ys n j k hn hj hk H.size) (cwV 2 hts gX0_clash_X0_parts rfl rfl rfl hv_X0_parts (yk_room hRf hRl rfl rfl)) (yk_pv (q := (RX0, TX0, 3)) hG hA hS hK hP hD [0, 1, 2] (by decide +kernel) rfl rfl rfl) rfl rfl hl.1 rfl (lv_room (Nat.le_of_ble_eq_true rfl)) dX0_clash_38 ⟨Nat.zero_le _, Nat.zero_le _⟩) hP hD hS hA rfl (Eq.trans (b := [ta, tax, tay]) rfl rfl) (fun H locs hP9 hD9 hS9 => ?_)
        replace hP : va_P D vwCl [(ta, .inr (0, [.ref tax, .ref tay, .int (nI n)])), (tax, .inl (cy 0, 9, .inl xs)), (tay, .inl (cy 0, 9, .inl ys))] H := hP9
        replace hD : va_D A [(ta, .inr (0, [.ref tax, .ref tay, .int (nI n)])), (tax, .inl (cy 0, 9, .inl xs)), (tay, .inl (cy 0, 9, .inl ys))] := hD9
        replace hS := hS9
        clear hP9 hD9 hS9
        have J19 : ∀ (v18 : Int32) (H : Heap) (locs : List Loc) (ls : Array Slot), v18 = (if (f_X0_parts xs ys j k) = 0 then (if (f_X0_touches xs ys j k) = 0 then (if (f_X0_touches xs ys k j) = 0 then 0 else 1) else 1) else (if (f_X0_parts xs ys k j) = 0 then (if (f_X0_touches xs ys j k) = 0 then (if (f_X0_touches xs ys k j) = 0 then 0 else 1) else 1) else 1)) → va_P D vwCl [(ta, .inr (0, [.ref tax, .ref tay, .int (nI n)])), (tax, .inl (cy 0, 9, .inl xs)), (tay, .inl (cy 0, 9, .inl ys))] H → va_D A [(ta, .inr (0, [.ref tax, .ref tay, .int (nI n)])), (tax, .inl (cy 0, 9, .inl xs)), (tay, .inl (cy 0, 9, .inl ys))] → va_S A s.heap H locs → lv_has ls 3 [(0, .ref ta), (1, .int (nI j)), (2, .int (nI k))] → W p l e R s m args below meth c H locs 0 0 Q (F0 m 76 ls [.int v18]) := by
          clear hP hD hS hl
          intro v18 H locs ls ev18
          rw [ev18]
          clear ev18
          intro hP hD hS hl
          have hF : f_X0_clash xs ys n j k = (if (f_X0_parts xs ys j k) = 0 then (if (f_X0_touches xs ys j k) = 0 then (if (f_X0_touches xs ys k j) = 0 then 0 else 1) else 1) else (if (f_X0_parts xs ys k j) = 0 then (if (f_X0_touches xs ys j k) = 0 then (if (f_X0_touches xs ys k j) = 0 then 0 else 1) else 1) else 1)) := hF
          rw [hF] at hQ
          exact hQ _ _ _ _ dX0_clash_76 hP hS
        refine lv_if_eq (tgt := 53) hx hb dX0_clash_41 (by decide) (fun hc12 => ?_) (fun hc12 => ?_)
        · refine lv_aload_n hx hb dX0_clash_53 rfl (lv_at hl 0 rfl) ?_
          refine lv_iload_n hx hb dX0_clash_54 rfl (lv_at hl 1 rfl) ?_
          refine lv_iload_n hx hb dX0_clash_55 rfl (lv_at hl 2 rfl) ?_
          refine yk_i [0, 1, 2] (va_runV (As := [.int (nI j), .int (nI k)]) (rest := []) ⟨hx, hb, hml, hown, hts⟩ (c_X0_touches l D cy ta tax tay xs ys n j k hn hj hk H.size) (cwV 2 hts gX0_clash_X0_touches rfl rfl rfl hv_X0_touches (yk_room hRf hRl rfl rfl)) (yk_pv (q := (RX0, TX0, 3)) hG hA hS hK hP hD [0, 1, 2] (by decide +kernel) rfl rfl rfl) rfl rfl hl.1 rfl (lv_room (Nat.le_of_ble_eq_true rfl)) dX0_clash_56 ⟨Nat.zero_le _, Nat.zero_le _⟩) hP hD hS hA rfl (Eq.trans (b := [ta, tax, tay]) rfl rfl) (fun H locs hP9 hD9 hS9 => ?_)
          replace hP : va_P D vwCl [(ta, .inr (0, [.ref tax, .ref tay, .int (nI n)])), (tax, .inl (cy 0, 9, .inl xs)), (tay, .inl (cy 0, 9, .inl ys))] H := hP9
          replace hD : va_D A [(ta, .inr (0, [.ref tax, .ref tay, .int (nI n)])), (tax, .inl (cy 0, 9, .inl xs)), (tay, .inl (cy 0, 9, .inl ys))] := hD9
          replace hS := hS9
          clear hP9 hD9 hS9
          refine lv_if_ne (tgt := 71) hx hb dX0_clash_59 (by decide) (fun hc13 => ?_) (fun hc13 => ?_)
          · refine lv_iconst (v := 1) hx hb dX0_clash_71 (by decide) ?_
            refine lv_goto (tgt := 76) hx hb dX0_clash_72 (by decide) ?_
            exact J19 _ _ _ _ (((if_pos hc12).trans (if_neg hc13)).symm) hP hD hS (lv_sub hl [0, 1, 2] rfl)
          · refine lv_aload_n hx hb dX0_clash_62 rfl (lv_at hl 0 rfl) ?_
            refine lv_iload_n hx hb dX0_clash_63 rfl (lv_at hl 2 rfl) ?_
            refine lv_iload_n hx hb dX0_clash_64 rfl (lv_at hl 1 rfl) ?_
            refine yk_i [0, 1, 2] (va_runV (As := [.int (nI k), .int (nI j)]) (rest := []) ⟨hx, hb, hml, hown, hts⟩ (c_X0_touches l D cy ta tax tay xs ys n k j hn hk hj H.size) (cwV 2 hts gX0_clash_X0_touches rfl rfl rfl hv_X0_touches (yk_room hRf hRl rfl rfl)) (yk_pv (q := (RX0, TX0, 3)) hG hA hS hK hP hD [0, 1, 2] (by decide +kernel) rfl rfl rfl) rfl rfl hl.1 rfl (lv_room (Nat.le_of_ble_eq_true rfl)) dX0_clash_65 ⟨Nat.zero_le _, Nat.zero_le _⟩) hP hD hS hA rfl (Eq.trans (b := [ta, tax, tay]) rfl rfl) (fun H locs hP9 hD9 hS9 => ?_)
            replace hP : va_P D vwCl [(ta, .inr (0, [.ref tax, .ref tay, .int (nI n)])), (tax, .inl (cy 0, 9, .inl xs)), (tay, .inl (cy 0, 9, .inl ys))] H := hP9
            replace hD : va_D A [(ta, .inr (0, [.ref tax, .ref tay, .int (nI n)])), (tax, .inl (cy 0, 9, .inl xs)), (tay, .inl (cy 0, 9, .inl ys))] := hD9
            replace hS := hS9
            clear hP9 hD9 hS9
            refine lv_if_eq (tgt := 75) hx hb dX0_clash_68 (by decide) (fun hc14 => ?_) (fun hc14 => ?_)
            · refine lv_iconst (v := 0) hx hb dX0_clash_75 (by decide) ?_
              exact J19 _ _ _ _ (((if_pos hc12).trans ((if_pos hc13).trans (if_pos hc14))).symm) hP hD hS (lv_sub hl [0, 1, 2] rfl)
            · refine lv_iconst (v := 1) hx hb dX0_clash_71 (by decide) ?_
              refine lv_goto (tgt := 76) hx hb dX0_clash_72 (by decide) ?_
              exact J19 _ _ _ _ (((if_pos hc12).trans ((if_pos hc13).trans (if_neg hc14))).symm) hP hD hS (lv_sub hl [0, 1, 2] rfl)
        · refine lv_aload_n hx hb dX0_clash_44 rfl (lv_at hl 0 rfl) ?_
          refine lv_iload_n hx hb dX0_clash_45 rfl (lv_at hl 2 rfl) ?_
          refine lv_iload_n hx hb dX0_clash_46 rfl (lv_at hl 1 rfl) ?_
          refine yk_i [0, 1, 2] (va_runV (As := [.int (nI k), .int (nI j)]) (rest := []) ⟨hx, hb, hml, hown, hts⟩ (c_X0_parts l D cy ta tax tay xs ys n k j hn hk hj H.size) (cwV 2 hts gX0_clash_X0_parts rfl rfl rfl hv_X0_parts (yk_room hRf hRl rfl rfl)) (yk_pv (q := (RX0, TX0, 3)) hG hA hS hK hP hD [0, 1, 2] (by decide +kernel) rfl rfl rfl) rfl rfl hl.1 rfl (lv_room (Nat.le_of_ble_eq_true rfl)) dX0_clash_47 ⟨Nat.zero_le _, Nat.zero_le _⟩) hP hD hS hA rfl (Eq.trans (b := [ta, tax, tay]) rfl rfl) (fun H locs hP9 hD9 hS9 => ?_)
          replace hP : va_P D vwCl [(ta, .inr (0, [.ref tax, .ref tay, .int (nI n)])), (tax, .inl (cy 0, 9, .inl xs)), (tay, .inl (cy 0, 9, .inl ys))] H := hP9
          replace hD : va_D A [(ta, .inr (0, [.ref tax, .ref tay, .int (nI n)])), (tax, .inl (cy 0, 9, .inl xs)), (tay, .inl (cy 0, 9, .inl ys))] := hD9
          replace hS := hS9
          clear hP9 hD9 hS9
          refine lv_if_ne (tgt := 71) hx hb dX0_clash_50 (by decide) (fun hc15 => ?_) (fun hc15 => ?_)
          · refine lv_iconst (v := 1) hx hb dX0_clash_71 (by decide) ?_
            refine lv_goto (tgt := 76) hx hb dX0_clash_72 (by decide) ?_
            exact J19 _ _ _ _ (((if_neg hc12).trans (if_neg hc15)).symm) hP hD hS (lv_sub hl [0, 1, 2] rfl)
          · refine lv_aload_n hx hb dX0_clash_53 rfl (lv_at hl 0 rfl) ?_
            refine lv_iload_n hx hb dX0_clash_54 rfl (lv_at hl 1 rfl) ?_
            refine lv_iload_n hx hb dX0_clash_55 rfl (lv_at hl 2 rfl) ?_
            refine yk_i [0, 1, 2] (va_runV (As := [.int (nI j), .int (nI k)]) (rest := []) ⟨hx, hb, hml, hown, hts⟩ (c_X0_touches l D cy ta tax tay xs ys n j k hn hj hk H.size) (cwV 2 hts gX0_clash_X0_touches rfl rfl rfl hv_X0_touches (yk_room hRf hRl rfl rfl)) (yk_pv (q := (RX0, TX0, 3)) hG hA hS hK hP hD [0, 1, 2] (by decide +kernel) rfl rfl rfl) rfl rfl hl.1 rfl (lv_room (Nat.le_of_ble_eq_true rfl)) dX0_clash_56 ⟨Nat.zero_le _, Nat.zero_le _⟩) hP hD hS hA rfl (Eq.trans (b := [ta, tax, tay]) rfl rfl) (fun H locs hP9 hD9 hS9 => ?_)
            replace hP : va_P D vwCl [(ta, .inr (0, [.ref tax, .ref tay, .int (nI n)])), (tax, .inl (cy 0, 9, .inl xs)), (tay, .inl (cy 0, 9, .inl ys))] H := hP9
            replace hD : va_D A [(ta, .inr (0, [.ref tax, .ref tay, .int (nI n)])), (tax, .inl (cy 0, 9, .inl xs)), (tay, .inl (cy 0, 9, .inl ys))] := hD9
            replace hS := hS9
            clear hP9 hD9 hS9
            refine lv_if_ne (tgt := 71) hx hb dX0_clash_59 (by decide) (fun hc16 => ?_) (fun hc16 => ?_)
            · refine lv_iconst (v := 1) hx hb dX0_clash_71 (by decide) ?_
              refine lv_goto (tgt := 76) hx hb dX0_clash_72 (by decide) ?_
              exact J19 _ _ _ _ (((if_neg hc12).trans ((if_pos hc15).trans (if_neg hc16))).symm) hP hD hS (lv_sub hl [0, 1, 2] rfl)
            · refine lv_aload_n hx hb dX0_clash_62 rfl (lv_at hl 0 rfl) ?_
              refine lv_iload_n hx hb dX0_clash_63 rfl (lv_at hl 2 rfl) ?_
              refine lv_iload_n hx hb dX0_clash_64 rfl (lv_at hl 1 rfl) ?_
              refine yk_i [0, 1, 2] (va_runV (As := [.int (nI k), .int (nI j)]) (rest := []) ⟨hx, hb, hml, hown, hts⟩ (c_X0_touches l D cy ta tax tay xs ys n k j hn hk hj H.size) (cwV 2 hts gX0_clash_X0_touches rfl rfl rfl hv_X0_touches (yk_room hRf hRl rfl rfl)) (yk_pv (q := (RX0, TX0, 3)) hG hA hS hK hP hD [0, 1, 2] (by decide +kernel) rfl rfl rfl) rfl rfl hl.1 rfl (lv_room (Nat.le_of_ble_eq_true rfl)) dX0_clash_65 ⟨Nat.zero_le _, Nat.zero_le _⟩) hP hD hS hA rfl (Eq.trans (b := [ta, tax, tay]) rfl rfl) (fun H locs hP9 hD9 hS9 => ?_)
              replace hP : va_P D vwCl [(ta, .inr (0, [.ref tax, .ref tay, .int (nI n)])), (tax, .inl (cy 0, 9, .inl xs)), (tay, .inl (cy 0, 9, .inl ys))] H := hP9
              replace hD : va_D A [(ta, .inr (0, [.ref tax, .ref tay, .int (nI n)])), (tax, .inl (cy 0, 9, .inl xs)), (tay, .inl (cy 0, 9, .inl ys))] := hD9
              replace hS := hS9
              clear hP9 hD9 hS9
              refine lv_if_eq (tgt := 75) hx hb dX0_clash_68 (by decide) (fun hc17 => ?_) (fun hc17 => ?_)
              · refine lv_iconst (v := 0) hx hb dX0_clash_75 (by decide) ?_
                exact J19 _ _ _ _ (((if_neg hc12).trans ((if_pos hc15).trans ((if_pos hc16).trans (if_pos hc17)))).symm) hP hD hS (lv_sub hl [0, 1, 2] rfl)
              · refine lv_iconst (v := 1) hx hb dX0_clash_71 (by decide) ?_
                refine lv_goto (tgt := 76) hx hb dX0_clash_72 (by decide) ?_
                exact J19 _ _ _ _ (((if_neg hc12).trans ((if_pos hc15).trans ((if_pos hc16).trans (if_neg hc17)))).symm) hP hD hS (lv_sub hl [0, 1, 2] rfl)
      · replace hF := hF.trans (if_pos hc11)
        refine lv_aload_n hx hb dX0_clash_28 rfl (lv_at hl 0 rfl) ?_
        refine lv_iload_n hx hb dX0_clash_29 rfl (lv_at hl 2 rfl) ?_
        refine lv_iload_n hx hb dX0_clash_30 rfl (lv_at hl 1 rfl) ?_
        refine yk_i [0, 1, 2] (va_runV (As := [.int (nI k), .int (nI j)]) (rest := []) ⟨hx, hb, hml, hown, hts⟩ (c_X0_foldsBack l D cy ta tax tay xs ys n k j hn hk hj H.size) (cwV 2 hts gX0_clash_X0_foldsBack rfl rfl rfl hv_X0_foldsBack (yk_room hRf hRl rfl rfl)) (yk_pv (q := (RX0, TX0, 3)) hG hA hS hK hP hD [0, 1, 2] (by decide +kernel) rfl rfl rfl) rfl rfl hl.1 rfl (lv_room (Nat.le_of_ble_eq_true rfl)) dX0_clash_31 ⟨Nat.zero_le _, Nat.zero_le _⟩) hP hD hS hA rfl (Eq.trans (b := [ta, tax, tay]) rfl rfl) (fun H locs hP9 hD9 hS9 => ?_)
        replace hP : va_P D vwCl [(ta, .inr (0, [.ref tax, .ref tay, .int (nI n)])), (tax, .inl (cy 0, 9, .inl xs)), (tay, .inl (cy 0, 9, .inl ys))] H := hP9
        replace hD : va_D A [(ta, .inr (0, [.ref tax, .ref tay, .int (nI n)])), (tax, .inl (cy 0, 9, .inl xs)), (tay, .inl (cy 0, 9, .inl ys))] := hD9
        replace hS := hS9
        clear hP9 hD9 hS9
        have hF : f_X0_clash xs ys n j k = (f_X0_foldsBack xs ys k j) := hF
        rw [hF] at hQ
        exact hQ _ _ _ _ dX0_clash_34 hP hS
  · replace hF := hF.trans (if_pos hc1)
    refine lv_aload_n hx hb dX0_clash_7 rfl (lv_at hl 0 rfl) ?_
    refine lv_iload_n hx hb dX0_clash_8 rfl (lv_at hl 1 rfl) ?_
    refine lv_iload_n hx hb dX0_clash_9 rfl (lv_at hl 2 rfl) ?_
    refine yk_i [0, 1, 2] (va_runV (As := [.int (nI j), .int (nI k)]) (rest := []) ⟨hx, hb, hml, hown, hts⟩ (c_X0_foldsBack l D cy ta tax tay xs ys n j k hn hj hk H.size) (cwV 2 hts gX0_clash_X0_foldsBack rfl rfl rfl hv_X0_foldsBack (yk_room hRf hRl rfl rfl)) (yk_pv (q := (RX0, TX0, 3)) hG hA hS hK hP hD [0, 1, 2] (by decide +kernel) rfl rfl rfl) rfl rfl hl.1 rfl (lv_room (Nat.le_of_ble_eq_true rfl)) dX0_clash_10 ⟨Nat.zero_le _, Nat.zero_le _⟩) hP hD hS hA rfl (Eq.trans (b := [ta, tax, tay]) rfl rfl) (fun H locs hP9 hD9 hS9 => ?_)
    replace hP : va_P D vwCl [(ta, .inr (0, [.ref tax, .ref tay, .int (nI n)])), (tax, .inl (cy 0, 9, .inl xs)), (tay, .inl (cy 0, 9, .inl ys))] H := hP9
    replace hD : va_D A [(ta, .inr (0, [.ref tax, .ref tay, .int (nI n)])), (tax, .inl (cy 0, 9, .inl xs)), (tay, .inl (cy 0, 9, .inl ys))] := hD9
    replace hS := hS9
    clear hP9 hD9 hS9
    have hF : f_X0_clash xs ys n j k = (f_X0_foldsBack xs ys j k) := hF
    rw [hF] at hQ
    exact hQ _ _ _ _ dX0_clash_13 hP hS

theorem kX0_isSimple_0 : Cond.fieldLink RX0 18 "FlowPlane$Fence" "count" "I" ∈ wsX0_isSimple := by decide +kernel
theorem uX0_isSimple_X0 : ∀ w ∈ u_ws RX0 TX0 3, w ∈ wsX0_isSimple := by decide +kernel
def l_X0_isSimple_24 (xs : Nat → Int32) (ys : Nat → Int32) (n : Nat) (ki : Nat) (kc : Nat → Int32) : Nat → Nat → Int32
  | 0, kj => 0
  | fu_X0_isSimple_24 + 1, kj => (if (nI n) ≤ (nI kj) then (kc (ki + 1)) else (if (f_X0_areAlike xs ys ki kj) = 0 then (if (f_X0_clash xs ys n ki kj) = 0 then (l_X0_isSimple_24 xs ys n ki kc fu_X0_isSimple_24 (kj + 1)) else 0) else 0))
def l_X0_isSimple_12 (xs : Nat → Int32) (ys : Nat → Int32) (n : Nat) : Nat → Nat → Int32
  | 0, ki => 0
  | fu_X0_isSimple_12 + 1, ki => (if (nI n) ≤ (nI ki) then 1 else (l_X0_isSimple_24 xs ys n ki (fun ki' => l_X0_isSimple_12 xs ys n fu_X0_isSimple_12 (ki')) (n - (ki + 1) + 1) (ki + 1)))
def f_X0_isSimple (xs : Nat → Int32) (ys : Nat → Int32) (n : Nat) : Int32 := (if 3 ≤ (nI n) then (l_X0_isSimple_12 xs ys n (n + 1) 0) else 0)
theorem bl_X0_isSimple_24 (xs : Nat → Int32) (ys : Nat → Int32) (n : Nat) (ki : Nat) (kc : Nat → Int32) (hkc : ∀ (q0 : Nat), (kc q0) = 0 ∨ (kc q0) = 1) : ∀ (fz : Nat) (q0 : Nat), (l_X0_isSimple_24 xs ys n ki kc fz q0) = 0 ∨ (l_X0_isSimple_24 xs ys n ki kc fz q0) = 1
  | 0, _ => Or.inl rfl
  | fz + 1, _ => by
    unfold l_X0_isSimple_24
    (repeat' split) <;> first | exact Or.inl (by with_reducible rfl) | exact Or.inr (by with_reducible rfl) | exact hkc _ | exact bl_X0_isSimple_24 _ _ _ _ kc hkc fz _ | with_reducible exact b_X0_areAlike _ _ _ _ | with_reducible exact b_X0_clash _ _ _ _ _
theorem bl_X0_isSimple_12 (xs : Nat → Int32) (ys : Nat → Int32) (n : Nat) : ∀ (fz : Nat) (q0 : Nat), (l_X0_isSimple_12 xs ys n fz q0) = 0 ∨ (l_X0_isSimple_12 xs ys n fz q0) = 1
  | 0, _ => Or.inl rfl
  | fz + 1, _ => by
    unfold l_X0_isSimple_12
    (repeat' split) <;> first | exact Or.inl (by with_reducible rfl) | exact Or.inr (by with_reducible rfl) | exact bl_X0_isSimple_12 _ _ _ fz _ | exact bl_X0_isSimple_24 _ _ _ _ _ (fun _ => bl_X0_isSimple_12 _ _ _ fz _) _ _ | with_reducible exact b_X0_areAlike _ _ _ _ | with_reducible exact b_X0_clash _ _ _ _ _
theorem b_X0_isSimple (xs : Nat → Int32) (ys : Nat → Int32) (n : Nat) : (f_X0_isSimple xs ys n) = 0 ∨ (f_X0_isSimple xs ys n) = 1 := by
  unfold f_X0_isSimple; (repeat' split) <;> first | exact Or.inl (by with_reducible rfl) | exact Or.inr (by with_reducible rfl) | with_reducible exact b_X0_areAlike _ _ _ _ | with_reducible exact b_X0_clash _ _ _ _ _ | with_reducible exact bl_X0_isSimple_12 _ _ _ _ _
set_option maxHeartbeats 400000000 in
set_option maxRecDepth 100000 in
theorem c_X0_isSimple (l : Launch) (D : va_G) (cy : Nat → ClassId) (ta : Nat) (tax : Nat) (tay : Nat) (xs : Nat → Int32) (ys : Nat → Int32) (n : Nat) (hn : n ≤ 8) : yk_Ci l D vwCl (yk_ty cy) yX0_isSimple wsX0_isSimple 4 90 [.ref ta] [(ta, .inr (0, [.ref tax, .ref tay, .int (nI n)])), (tax, .inl (cy 0, 9, .inl xs)), (tay, .inl (cy 0, 9, .inl ys))] (f_X0_isSimple xs ys n) [(ta, .inr (0, [.ref tax, .ref tay, .int (nI n)])), (tax, .inl (cy 0, 9, .inl xs)), (tay, .inl (cy 0, 9, .inl ys))] := by
  refine yk_eI (cc := cX0_isSimple) (maxL := 3) (by decide) rfl (Nat.le_of_ble_eq_true rfl) (yk_nb (b_X0_isSimple xs ys n)) ?_
  intro p e R s m args below meth c A Q ls H locs hx hb hml hown hts hRf hRl hA hK hG hP hD hS hl hQ
  have hP : va_P D vwCl [(ta, .inr (0, [.ref tax, .ref tay, .int (nI n)])), (tax, .inl (cy 0, 9, .inl xs)), (tay, .inl (cy 0, 9, .inl ys))] H := hP
  have hl : lv_has ls 3 [(0, .ref ta)] := hl
  have hown : s.vm.findClass RX0 = some m.cls := hown
  have hF : (f_X0_isSimple xs ys n) = (f_X0_isSimple xs ys n) := rfl
  refine lv_aload_n hx hb dX0_isSimple_0 rfl (lv_at hl 0 rfl) ?_
  refine va_get (D := D) (ci := 0) (v := .int (nI n)) (C := RX0) (T := TX0) (N := 3) hx hb hts uX0_isSimple_X0 hown hK hP 0 rfl rfl 2 (by decide) (hts _ kX0_isSimple_0) (fun _ h9 => h9) rfl dX0_isSimple_1 ?_
  refine lv_iconst (v := 3) hx hb dX0_isSimple_4 (by decide) ?_
  refine lv_icmp_ge (tgt := 10) hx hb dX0_isSimple_5 (by decide) (fun hc1 => ?_) (fun hc1 => ?_)
  · replace hF := hF.trans (if_pos hc1)
    refine lv_iconst (v := 0) hx hb dX0_isSimple_10 (by decide) ?_
    refine lv_istore_n (lv' := [(1, .int 0), (0, .ref ta)]) hx hb dX0_isSimple_11 rfl hl (by decide) rfl (fun ls hl9 => ?_)
    replace hl := hl9
    clear hl9
    have L12 : ∀ (M9 n12 ki : Nat) (H : Heap) (locs : List Loc) (ls : Array Slot), n12 < M9 → ki + n12 = n → f_X0_isSimple xs ys n = (l_X0_isSimple_12 xs ys n (n12 + 1) ki) → va_P D vwCl [(ta, .inr (0, [.ref tax, .ref tay, .int (nI n)])), (tax, .inl (cy 0, 9, .inl xs)), (tay, .inl (cy 0, 9, .inl ys))] H → va_D A [(ta, .inr (0, [.ref tax, .ref tay, .int (nI n)])), (tax, .inl (cy 0, 9, .inl xs)), (tay, .inl (cy 0, 9, .inl ys))] → va_S A s.heap H locs → lv_has ls 3 [(0, .ref ta), (1, .int (nI ki))] → W p l e R s m args below meth c H locs 0 0 Q (F0 m 12 ls []) := by
      clear hP hD hS hl hF
      intro M9
      induction M9 with
      | zero => intro n12 ki _ _ _ hn; exact absurd hn (Nat.not_lt_zero _)
      | succ M9 ih12 =>
        intro n12 ki H locs ls hn12 hk12 hF hP hD hS hl
        refine lv_iload_n hx hb dX0_isSimple_12 rfl (lv_at hl 1 rfl) ?_
        refine lv_aload_n hx hb dX0_isSimple_13 rfl (lv_at hl 0 rfl) ?_
        refine va_get (D := D) (ci := 0) (v := .int (nI n)) (C := RX0) (T := TX0) (N := 3) hx hb hts uX0_isSimple_X0 hown hK hP 0 rfl rfl 2 (by decide) (hts _ kX0_isSimple_0) (fun _ h9 => h9) rfl dX0_isSimple_14 ?_
        refine lv_icmp_ge (tgt := 64) hx hb dX0_isSimple_17 (by decide) (fun hc2 => ?_) (fun hc2 => ?_)
        · replace hF := hF.trans (if_pos hc2)
          refine lv_iconst (v := 1) hx hb dX0_isSimple_64 (by decide) ?_
          have hF : f_X0_isSimple xs ys n = 1 := hF
          rw [hF] at hQ
          exact hQ _ _ _ _ dX0_isSimple_65 hP hS
        · replace hF := hF.trans (if_neg hc2)
          have hlt12 : ki < n := yk_lt hk12 (by omega) hc2
          refine lv_iload_n hx hb dX0_isSimple_20 rfl (lv_at hl 1 rfl) ?_
          refine lv_iconst (v := 1) hx hb dX0_isSimple_21 (by decide) ?_
          refine lv_iadd hx hb dX0_isSimple_22 ?_
          refine yk_ti (y := nI (ki + 1)) (nI_add ki 1) ?_
          refine lv_istore_n (lv' := [(2, .int (nI (ki + 1))), (0, .ref ta), (1, .int (nI ki))]) hx hb dX0_isSimple_23 rfl hl (by decide) rfl (fun ls hl9 => ?_)
          replace hl := hl9
          clear hl9
          have L24 : ∀ (M9 n24 kj : Nat) (H : Heap) (locs : List Loc) (ls : Array Slot), n24 < M9 → kj + n24 = n → f_X0_isSimple xs ys n = (l_X0_isSimple_24 xs ys n ki (fun ki' => l_X0_isSimple_12 xs ys n n12 ki') (n24 + 1) kj) → va_P D vwCl [(ta, .inr (0, [.ref tax, .ref tay, .int (nI n)])), (tax, .inl (cy 0, 9, .inl xs)), (tay, .inl (cy 0, 9, .inl ys))] H → va_D A [(ta, .inr (0, [.ref tax, .ref tay, .int (nI n)])), (tax, .inl (cy 0, 9, .inl xs)), (tay, .inl (cy 0, 9, .inl ys))] → va_S A s.heap H locs → lv_has ls 3 [(0, .ref ta), (1, .int (nI ki)), (2, .int (nI kj))] → W p l e R s m args below meth c H locs 0 0 Q (F0 m 24 ls []) := by
            clear hP hD hS hl hF
            intro M9
            induction M9 with
            | zero => intro n24 kj _ _ _ hn; exact absurd hn (Nat.not_lt_zero _)
            | succ M9 ih24 =>
              intro n24 kj H locs ls hn24 hk24 hF hP hD hS hl
              refine lv_iload_n hx hb dX0_isSimple_24 rfl (lv_at hl 2 rfl) ?_
              refine lv_aload_n hx hb dX0_isSimple_25 rfl (lv_at hl 0 rfl) ?_
              refine va_get (D := D) (ci := 0) (v := .int (nI n)) (C := RX0) (T := TX0) (N := 3) hx hb hts uX0_isSimple_X0 hown hK hP 0 rfl rfl 2 (by decide) (hts _ kX0_isSimple_0) (fun _ h9 => h9) rfl dX0_isSimple_26 ?_
              refine lv_icmp_ge (tgt := 58) hx hb dX0_isSimple_29 (by decide) (fun hc3 => ?_) (fun hc3 => ?_)
              · replace hF := hF.trans (if_pos hc3)
                refine lv_iinc (v := nI (ki + 1)) (lv' := [(1, .int (nI (ki + 1))), (0, .ref ta), (2, .int (nI kj))]) hx hb dX0_isSimple_58 hl (k := 1) rfl (yk_inc ki) (by decide) rfl (fun ls hl9 => ?_)
                replace hl := hl9
                clear hl9
                refine lv_goto (tgt := 12) hx hb dX0_isSimple_61 (by decide) ?_
                obtain ⟨n9, rfl⟩ : ∃ n9, n12 = n9 + 1 := ⟨n12 - 1, by omega⟩
                exact ih12 n9 (ki + 1) _ _ _ (by omega) (by omega)  hF hP hD hS (lv_sub hl [1, 0] rfl)
              · replace hF := hF.trans (if_neg hc3)
                have hlt24 : kj < n := yk_lt hk24 (by omega) hc3
                refine lv_aload_n hx hb dX0_isSimple_32 rfl (lv_at hl 0 rfl) ?_
                refine lv_iload_n hx hb dX0_isSimple_33 rfl (lv_at hl 1 rfl) ?_
                refine lv_iload_n hx hb dX0_isSimple_34 rfl (lv_at hl 2 rfl) ?_
                refine yk_i [0, 1, 2] (va_runV (As := [.int (nI ki), .int (nI kj)]) (rest := []) ⟨hx, hb, hml, hown, hts⟩ (c_X0_areAlike l D cy ta tax tay xs ys n ki kj hn (by omega) (by omega) H.size) (cwV 2 hts gX0_isSimple_X0_areAlike rfl rfl rfl hv_X0_areAlike (yk_room hRf hRl rfl rfl)) (yk_pv (q := (RX0, TX0, 3)) hG hA hS hK hP hD [0, 1, 2] (by decide +kernel) rfl rfl rfl) rfl rfl hl.1 rfl (lv_room (Nat.le_of_ble_eq_true rfl)) dX0_isSimple_35 ⟨Nat.zero_le _, Nat.zero_le _⟩) hP hD hS hA rfl (Eq.trans (b := [ta, tax, tay]) rfl rfl) (fun H locs hP9 hD9 hS9 => ?_)
                replace hP : va_P D vwCl [(ta, .inr (0, [.ref tax, .ref tay, .int (nI n)])), (tax, .inl (cy 0, 9, .inl xs)), (tay, .inl (cy 0, 9, .inl ys))] H := hP9
                replace hD : va_D A [(ta, .inr (0, [.ref tax, .ref tay, .int (nI n)])), (tax, .inl (cy 0, 9, .inl xs)), (tay, .inl (cy 0, 9, .inl ys))] := hD9
                replace hS := hS9
                clear hP9 hD9 hS9
                refine lv_if_ne (tgt := 50) hx hb dX0_isSimple_38 (by decide) (fun hc4 => ?_) (fun hc4 => ?_)
                · replace hF := hF.trans (if_neg hc4)
                  refine lv_iconst (v := 0) hx hb dX0_isSimple_50 (by decide) ?_
                  have hF : f_X0_isSimple xs ys n = 0 := hF
                  rw [hF] at hQ
                  exact hQ _ _ _ _ dX0_isSimple_51 hP hS
                · replace hF := hF.trans (if_pos hc4)
                  refine lv_aload_n hx hb dX0_isSimple_41 rfl (lv_at hl 0 rfl) ?_
                  refine lv_iload_n hx hb dX0_isSimple_42 rfl (lv_at hl 1 rfl) ?_
                  refine lv_iload_n hx hb dX0_isSimple_43 rfl (lv_at hl 2 rfl) ?_
                  refine yk_i [0, 1, 2] (va_runV (As := [.int (nI ki), .int (nI kj)]) (rest := []) ⟨hx, hb, hml, hown, hts⟩ (c_X0_clash l D cy ta tax tay xs ys n ki kj hn (by omega) (by omega) (by omega) (by omega) H.size) (cwV 2 hts gX0_isSimple_X0_clash rfl rfl rfl hv_X0_clash (yk_room hRf hRl rfl rfl)) (yk_pv (q := (RX0, TX0, 3)) hG hA hS hK hP hD [0, 1, 2] (by decide +kernel) rfl rfl rfl) rfl rfl hl.1 rfl (lv_room (Nat.le_of_ble_eq_true rfl)) dX0_isSimple_44 ⟨Nat.zero_le _, Nat.zero_le _⟩) hP hD hS hA rfl (Eq.trans (b := [ta, tax, tay]) rfl rfl) (fun H locs hP9 hD9 hS9 => ?_)
                  replace hP : va_P D vwCl [(ta, .inr (0, [.ref tax, .ref tay, .int (nI n)])), (tax, .inl (cy 0, 9, .inl xs)), (tay, .inl (cy 0, 9, .inl ys))] H := hP9
                  replace hD : va_D A [(ta, .inr (0, [.ref tax, .ref tay, .int (nI n)])), (tax, .inl (cy 0, 9, .inl xs)), (tay, .inl (cy 0, 9, .inl ys))] := hD9
                  replace hS := hS9
                  clear hP9 hD9 hS9
                  refine lv_if_eq (tgt := 52) hx hb dX0_isSimple_47 (by decide) (fun hc5 => ?_) (fun hc5 => ?_)
                  · replace hF := hF.trans (if_pos hc5)
                    refine lv_iinc (v := nI (kj + 1)) (lv' := [(2, .int (nI (kj + 1))), (0, .ref ta), (1, .int (nI ki))]) hx hb dX0_isSimple_52 hl (k := 2) rfl (yk_inc kj) (by decide) rfl (fun ls hl9 => ?_)
                    replace hl := hl9
                    clear hl9
                    refine lv_goto (tgt := 24) hx hb dX0_isSimple_55 (by decide) ?_
                    obtain ⟨n9, rfl⟩ : ∃ n9, n24 = n9 + 1 := ⟨n24 - 1, by omega⟩
                    exact ih24 n9 (kj + 1) _ _ _ (by omega) (by omega)  hF hP hD hS (lv_sub hl [1, 2, 0] rfl)
                  · replace hF := hF.trans (if_neg hc5)
                    refine lv_iconst (v := 0) hx hb dX0_isSimple_50 (by decide) ?_
                    have hF : f_X0_isSimple xs ys n = 0 := hF
                    rw [hF] at hQ
                    exact hQ _ _ _ _ dX0_isSimple_51 hP hS
          exact L24 ((n - (ki + 1)) + 1) (n - (ki + 1)) (ki + 1)  _ _ _ (Nat.lt_succ_self _) (by omega)  hF hP hD hS (lv_sub hl [1, 2, 0] rfl)
    exact L12 (n + 1) n 0  _ _ _ (Nat.lt_succ_self _) (by omega)  hF hP hD hS (lv_sub hl [1, 0] rfl)
  · replace hF := hF.trans (if_neg hc1)
    refine lv_iconst (v := 0) hx hb dX0_isSimple_8 (by decide) ?_
    have hF : f_X0_isSimple xs ys n = 0 := hF
    rw [hF] at hQ
    exact hQ _ _ _ _ dX0_isSimple_9 hP hS

theorem kX0_doubleArea_0 : Cond.fieldLink RX0 18 "FlowPlane$Fence" "count" "I" ∈ wsX0_doubleArea := by decide +kernel
theorem kX0_doubleArea_1 : Cond.fieldLink RX0 9 "FlowPlane$Fence" "xs" "[I" ∈ wsX0_doubleArea := by decide +kernel
theorem kX0_doubleArea_2 : Cond.fieldLink RX0 15 "FlowPlane$Fence" "ys" "[I" ∈ wsX0_doubleArea := by decide +kernel
theorem uX0_doubleArea_X0 : ∀ w ∈ u_ws RX0 TX0 3, w ∈ wsX0_doubleArea := by decide +kernel
def l_X0_doubleArea_4 (xs : Nat → Int32) (ys : Nat → Int32) (n : Nat) : Nat → Nat → Int32 → Int32
  | 0, ki, z1_4 => z1_4
  | fu_X0_doubleArea_4 + 1, ki, z1_4 => (if (nI n) ≤ (nI ki) then z1_4 else (l_X0_doubleArea_4 xs ys n fu_X0_doubleArea_4 (ki + 1) (z1_4 + (((xs ki) * (ys (ki + 1))) - ((ys ki) * (xs (ki + 1)))))))
def f_X0_doubleArea (xs : Nat → Int32) (ys : Nat → Int32) (n : Nat) : Int32 := (l_X0_doubleArea_4 xs ys n (n + 1) 0 0)
set_option maxHeartbeats 400000000 in
set_option maxRecDepth 100000 in
theorem c_X0_doubleArea (l : Launch) (D : va_G) (cy : Nat → ClassId) (ta : Nat) (tax : Nat) (tay : Nat) (xs : Nat → Int32) (ys : Nat → Int32) (n : Nat) (hn : n ≤ 8) : yk_Ci l D vwCl (yk_ty cy) yX0_doubleArea wsX0_doubleArea 0 0 [.ref ta] [(ta, .inr (0, [.ref tax, .ref tay, .int (nI n)])), (tax, .inl (cy 0, 9, .inl xs)), (tay, .inl (cy 0, 9, .inl ys))] (f_X0_doubleArea xs ys n) [(ta, .inr (0, [.ref tax, .ref tay, .int (nI n)])), (tax, .inl (cy 0, 9, .inl xs)), (tay, .inl (cy 0, 9, .inl ys))] := by
  refine yk_eI (cc := cX0_doubleArea) (maxL := 3) (by decide) rfl (Nat.le_of_ble_eq_true rfl) rfl ?_
  intro p e R s m args below meth c A Q ls H locs hx hb hml hown hts hRf hRl hA hK hG hP hD hS hl hQ
  have hP : va_P D vwCl [(ta, .inr (0, [.ref tax, .ref tay, .int (nI n)])), (tax, .inl (cy 0, 9, .inl xs)), (tay, .inl (cy 0, 9, .inl ys))] H := hP
  have hl : lv_has ls 3 [(0, .ref ta)] := hl
  have hown : s.vm.findClass RX0 = some m.cls := hown
  have hF : (f_X0_doubleArea xs ys n) = (f_X0_doubleArea xs ys n) := rfl
  refine lv_iconst (v := 0) hx hb dX0_doubleArea_0 (by decide) ?_
  refine lv_istore_n (lv' := [(1, .int 0), (0, .ref ta)]) hx hb dX0_doubleArea_1 rfl hl (by decide) rfl (fun ls hl9 => ?_)
  replace hl := hl9
  clear hl9
  refine lv_iconst (v := 0) hx hb dX0_doubleArea_2 (by decide) ?_
  refine lv_istore_n (lv' := [(2, .int 0), (1, .int 0), (0, .ref ta)]) hx hb dX0_doubleArea_3 rfl hl (by decide) rfl (fun ls hl9 => ?_)
  replace hl := hl9
  clear hl9
  have J2 : ∀ (H : Heap) (locs : List Loc) (ls : Array Slot), va_P D vwCl [(ta, .inr (0, [.ref tax, .ref tay, .int (nI n)])), (tax, .inl (cy 0, 9, .inl xs)), (tay, .inl (cy 0, 9, .inl ys))] H → va_D A [(ta, .inr (0, [.ref tax, .ref tay, .int (nI n)])), (tax, .inl (cy 0, 9, .inl xs)), (tay, .inl (cy 0, 9, .inl ys))] → va_S A s.heap H locs → lv_has ls 3 [(0, .ref ta), (1, .int (l_X0_doubleArea_4 xs ys n (n + 1) 0 0))] → W p l e R s m args below meth c H locs 0 0 Q (F0 m 52 ls []) := by
    clear hP hD hS hl
    intro H locs ls hP hD hS hl
    refine lv_iload_n hx hb dX0_doubleArea_52 rfl (lv_at hl 1 rfl) ?_
    have hF : f_X0_doubleArea xs ys n = (l_X0_doubleArea_4 xs ys n (n + 1) 0 0) := hF
    rw [hF] at hQ
    exact hQ _ _ _ _ dX0_doubleArea_53 hP hS
  have L4 : ∀ (M9 n4 ki : Nat) (z1_4 : Int32) (H : Heap) (locs : List Loc) (ls : Array Slot), n4 < M9 → ki + n4 = n → (l_X0_doubleArea_4 xs ys n (n + 1) 0 0) = (l_X0_doubleArea_4 xs ys n (n4 + 1) ki z1_4) → va_P D vwCl [(ta, .inr (0, [.ref tax, .ref tay, .int (nI n)])), (tax, .inl (cy 0, 9, .inl xs)), (tay, .inl (cy 0, 9, .inl ys))] H → va_D A [(ta, .inr (0, [.ref tax, .ref tay, .int (nI n)])), (tax, .inl (cy 0, 9, .inl xs)), (tay, .inl (cy 0, 9, .inl ys))] → va_S A s.heap H locs → lv_has ls 3 [(0, .ref ta), (1, .int z1_4), (2, .int (nI ki))] → W p l e R s m args below meth c H locs 0 0 Q (F0 m 4 ls []) := by
    clear hP hD hS hl
    intro M9
    induction M9 with
    | zero => intro n4 ki _ _ _ _ hn; exact absurd hn (Nat.not_lt_zero _)
    | succ M9 ih4 =>
      intro n4 ki z1_4 H locs ls hn4 hk4 hV4 hP hD hS hl
      refine lv_iload_n hx hb dX0_doubleArea_4 rfl (lv_at hl 2 rfl) ?_
      refine lv_aload_n hx hb dX0_doubleArea_5 rfl (lv_at hl 0 rfl) ?_
      refine va_get (D := D) (ci := 0) (v := .int (nI n)) (C := RX0) (T := TX0) (N := 3) hx hb hts uX0_doubleArea_X0 hown hK hP 0 rfl rfl 2 (by decide) (hts _ kX0_doubleArea_0) (fun _ h9 => h9) rfl dX0_doubleArea_6 ?_
      refine lv_icmp_ge (tgt := 52) hx hb dX0_doubleArea_9 (by decide) (fun hc1 => ?_) (fun hc1 => ?_)
      · replace hV4 := hV4.trans (if_pos hc1)
        have hV4 : (l_X0_doubleArea_4 xs ys n (n + 1) 0 0) = z1_4 := hV4
        have J2 := J2
        rw [hV4] at J2
        exact J2 _ _ _ hP hD hS (lv_sub hl [0, 1] rfl)
      · replace hV4 := hV4.trans (if_neg hc1)
        have hlt4 : ki < n := yk_lt hk4 (by omega) hc1
        refine lv_iload_n hx hb dX0_doubleArea_12 rfl (lv_at hl 1 rfl) ?_
        refine lv_aload_n hx hb dX0_doubleArea_13 rfl (lv_at hl 0 rfl) ?_
        refine va_get (D := D) (ci := 0) (v := .ref tax) (C := RX0) (T := TX0) (N := 3) hx hb hts uX0_doubleArea_X0 hown hK hP 0 rfl rfl 0 (by decide) (hts _ kX0_doubleArea_1) (fun _ h9 => h9) rfl dX0_doubleArea_14 ?_
        refine lv_iload_n hx hb dX0_doubleArea_17 rfl (lv_at hl 2 rfl) ?_
        refine yk_ild hx hb hK hP 1 0 rfl rfl ki (by omega) (by decide) dX0_doubleArea_18 ?_
        refine lv_aload_n hx hb dX0_doubleArea_19 rfl (lv_at hl 0 rfl) ?_
        refine va_get (D := D) (ci := 0) (v := .ref tay) (C := RX0) (T := TX0) (N := 3) hx hb hts uX0_doubleArea_X0 hown hK hP 0 rfl rfl 1 (by decide) (hts _ kX0_doubleArea_2) (fun _ h9 => h9) rfl dX0_doubleArea_20 ?_
        refine lv_iload_n hx hb dX0_doubleArea_23 rfl (lv_at hl 2 rfl) ?_
        refine lv_iconst (v := 1) hx hb dX0_doubleArea_24 (by decide) ?_
        refine lv_iadd hx hb dX0_doubleArea_25 ?_
        refine yk_ti (y := nI (ki + 1)) (nI_add ki 1) ?_
        refine yk_ild hx hb hK hP 2 0 rfl rfl (ki + 1) (by omega) (by decide) dX0_doubleArea_26 ?_
        refine lv_imul hx hb dX0_doubleArea_27 ?_
        refine lv_aload_n hx hb dX0_doubleArea_28 rfl (lv_at hl 0 rfl) ?_
        refine va_get (D := D) (ci := 0) (v := .ref tay) (C := RX0) (T := TX0) (N := 3) hx hb hts uX0_doubleArea_X0 hown hK hP 0 rfl rfl 1 (by decide) (hts _ kX0_doubleArea_2) (fun _ h9 => h9) rfl dX0_doubleArea_29 ?_
        refine lv_iload_n hx hb dX0_doubleArea_32 rfl (lv_at hl 2 rfl) ?_
        refine yk_ild hx hb hK hP 2 0 rfl rfl ki (by omega) (by decide) dX0_doubleArea_33 ?_
        refine lv_aload_n hx hb dX0_doubleArea_34 rfl (lv_at hl 0 rfl) ?_
        refine va_get (D := D) (ci := 0) (v := .ref tax) (C := RX0) (T := TX0) (N := 3) hx hb hts uX0_doubleArea_X0 hown hK hP 0 rfl rfl 0 (by decide) (hts _ kX0_doubleArea_1) (fun _ h9 => h9) rfl dX0_doubleArea_35 ?_
        refine lv_iload_n hx hb dX0_doubleArea_38 rfl (lv_at hl 2 rfl) ?_
        refine lv_iconst (v := 1) hx hb dX0_doubleArea_39 (by decide) ?_
        refine lv_iadd hx hb dX0_doubleArea_40 ?_
        refine yk_ti (y := nI (ki + 1)) (nI_add ki 1) ?_
        refine yk_ild hx hb hK hP 1 0 rfl rfl (ki + 1) (by omega) (by decide) dX0_doubleArea_41 ?_
        refine lv_imul hx hb dX0_doubleArea_42 ?_
        refine lv_isub hx hb dX0_doubleArea_43 ?_
        refine lv_iadd hx hb dX0_doubleArea_44 ?_
        refine lv_istore_n (lv' := [(1, .int (z1_4 + (((xs ki) * (ys (ki + 1))) - ((ys ki) * (xs (ki + 1)))))), (0, .ref ta), (2, .int (nI ki))]) hx hb dX0_doubleArea_45 rfl hl (by decide) rfl (fun ls hl9 => ?_)
        replace hl := hl9
        clear hl9
        refine lv_iinc (v := nI (ki + 1)) (lv' := [(2, .int (nI (ki + 1))), (1, .int (z1_4 + (((xs ki) * (ys (ki + 1))) - ((ys ki) * (xs (ki + 1)))))), (0, .ref ta)]) hx hb dX0_doubleArea_46 hl (k := 2) rfl (yk_inc ki) (by decide) rfl (fun ls hl9 => ?_)
        replace hl := hl9
        clear hl9
        refine lv_goto (tgt := 4) hx hb dX0_doubleArea_49 (by decide) ?_
        obtain ⟨n9, rfl⟩ : ∃ n9, n4 = n9 + 1 := ⟨n4 - 1, by omega⟩
        exact ih4 n9 (ki + 1) (z1_4 + (((xs ki) * (ys (ki + 1))) - ((ys ki) * (xs (ki + 1))))) _ _ _ (by omega) (by omega)  hV4 hP hD hS (lv_sub hl [2, 1, 0] rfl)
  exact L4 (n + 1) n 0 0 _ _ _ (Nat.lt_succ_self _) (by omega)  rfl hP hD hS (lv_sub hl [2, 1, 0] rfl)

def f_X0_isLeft (xs : Nat → Int32) (ys : Nat → Int32) (n : Nat) : Int32 := (if (f_X0_isSimple xs ys n) = 0 then 0 else (if (f_X0_doubleArea xs ys n) ≤ 0 then 0 else 1))
theorem b_X0_isLeft (xs : Nat → Int32) (ys : Nat → Int32) (n : Nat) : (f_X0_isLeft xs ys n) = 0 ∨ (f_X0_isLeft xs ys n) = 1 := by
  unfold f_X0_isLeft; (repeat' split) <;> first | exact Or.inl (by with_reducible rfl) | exact Or.inr (by with_reducible rfl) | with_reducible exact b_X0_isSimple _ _ _
set_option maxHeartbeats 400000000 in
set_option maxRecDepth 100000 in
theorem c_X0_isLeft (l : Launch) (D : va_G) (cy : Nat → ClassId) (ta : Nat) (tax : Nat) (tay : Nat) (xs : Nat → Int32) (ys : Nat → Int32) (n : Nat) (hn : n ≤ 8) : yk_Ci l D vwCl (yk_ty cy) yX0_isLeft wsX0_isLeft 5 112 [.ref ta] [(ta, .inr (0, [.ref tax, .ref tay, .int (nI n)])), (tax, .inl (cy 0, 9, .inl xs)), (tay, .inl (cy 0, 9, .inl ys))] (f_X0_isLeft xs ys n) [(ta, .inr (0, [.ref tax, .ref tay, .int (nI n)])), (tax, .inl (cy 0, 9, .inl xs)), (tay, .inl (cy 0, 9, .inl ys))] := by
  refine yk_eI (cc := cX0_isLeft) (maxL := 1) (by decide) rfl (Nat.le_of_ble_eq_true rfl) (yk_nb (b_X0_isLeft xs ys n)) ?_
  intro p e R s m args below meth c A Q ls H locs hx hb hml hown hts hRf hRl hA hK hG hP hD hS hl hQ
  have hP : va_P D vwCl [(ta, .inr (0, [.ref tax, .ref tay, .int (nI n)])), (tax, .inl (cy 0, 9, .inl xs)), (tay, .inl (cy 0, 9, .inl ys))] H := hP
  have hl : lv_has ls 1 [(0, .ref ta)] := hl
  have hown : s.vm.findClass RX0 = some m.cls := hown
  have hF : (f_X0_isLeft xs ys n) = (f_X0_isLeft xs ys n) := rfl
  refine lv_aload_n hx hb dX0_isLeft_0 rfl (lv_at hl 0 rfl) ?_
  refine yk_i [0, 1, 2] (va_runV (As := []) (rest := []) ⟨hx, hb, hml, hown, hts⟩ (c_X0_isSimple l D cy ta tax tay xs ys n hn H.size) (cwV 0 hts gX0_isLeft_X0_isSimple rfl rfl rfl hv_X0_isSimple (yk_room hRf hRl rfl rfl)) (yk_pv (q := (RX0, TX0, 3)) hG hA hS hK hP hD [0, 1, 2] (by decide +kernel) rfl rfl rfl) rfl rfl hl.1 rfl (lv_room (Nat.le_of_ble_eq_true rfl)) dX0_isLeft_1 ⟨Nat.zero_le _, Nat.zero_le _⟩) hP hD hS hA rfl (Eq.trans (b := [ta, tax, tay]) rfl rfl) (fun H locs hP9 hD9 hS9 => ?_)
  replace hP : va_P D vwCl [(ta, .inr (0, [.ref tax, .ref tay, .int (nI n)])), (tax, .inl (cy 0, 9, .inl xs)), (tay, .inl (cy 0, 9, .inl ys))] H := hP9
  replace hD : va_D A [(ta, .inr (0, [.ref tax, .ref tay, .int (nI n)])), (tax, .inl (cy 0, 9, .inl xs)), (tay, .inl (cy 0, 9, .inl ys))] := hD9
  replace hS := hS9
  clear hP9 hD9 hS9
  have J4 : ∀ (v3 : Int32) (H : Heap) (locs : List Loc) (ls : Array Slot), v3 = (if (f_X0_isSimple xs ys n) = 0 then 0 else (if (f_X0_doubleArea xs ys n) ≤ 0 then 0 else 1)) → va_P D vwCl [(ta, .inr (0, [.ref tax, .ref tay, .int (nI n)])), (tax, .inl (cy 0, 9, .inl xs)), (tay, .inl (cy 0, 9, .inl ys))] H → va_D A [(ta, .inr (0, [.ref tax, .ref tay, .int (nI n)])), (tax, .inl (cy 0, 9, .inl xs)), (tay, .inl (cy 0, 9, .inl ys))] → va_S A s.heap H locs → lv_has ls 1 [(0, .ref ta)] → W p l e R s m args below meth c H locs 0 0 Q (F0 m 19 ls [.int v3]) := by
    clear hP hD hS hl
    intro v3 H locs ls ev3
    rw [ev3]
    clear ev3
    intro hP hD hS hl
    have hF : f_X0_isLeft xs ys n = (if (f_X0_isSimple xs ys n) = 0 then 0 else (if (f_X0_doubleArea xs ys n) ≤ 0 then 0 else 1)) := hF
    rw [hF] at hQ
    exact hQ _ _ _ _ dX0_isLeft_19 hP hS
  refine lv_if_eq (tgt := 18) hx hb dX0_isLeft_4 (by decide) (fun hc1 => ?_) (fun hc1 => ?_)
  · refine lv_iconst (v := 0) hx hb dX0_isLeft_18 (by decide) ?_
    exact J4 _ _ _ _ ((if_pos hc1).symm) hP hD hS (lv_sub hl [0] rfl)
  · refine lv_aload_n hx hb dX0_isLeft_7 rfl (lv_at hl 0 rfl) ?_
    refine yk_i [0, 1, 2] (va_runV (As := []) (rest := []) ⟨hx, hb, hml, hown, hts⟩ (c_X0_doubleArea l D cy ta tax tay xs ys n hn H.size) (cwV 0 hts gX0_isLeft_X0_doubleArea rfl rfl rfl hv_X0_doubleArea (yk_room hRf hRl rfl rfl)) (yk_pv (q := (RX0, TX0, 3)) hG hA hS hK hP hD [0, 1, 2] (by decide +kernel) rfl rfl rfl) rfl rfl hl.1 rfl (lv_room (Nat.le_of_ble_eq_true rfl)) dX0_isLeft_8 ⟨Nat.zero_le _, Nat.zero_le _⟩) hP hD hS hA rfl (Eq.trans (b := [ta, tax, tay]) rfl rfl) (fun H locs hP9 hD9 hS9 => ?_)
    replace hP : va_P D vwCl [(ta, .inr (0, [.ref tax, .ref tay, .int (nI n)])), (tax, .inl (cy 0, 9, .inl xs)), (tay, .inl (cy 0, 9, .inl ys))] H := hP9
    replace hD : va_D A [(ta, .inr (0, [.ref tax, .ref tay, .int (nI n)])), (tax, .inl (cy 0, 9, .inl xs)), (tay, .inl (cy 0, 9, .inl ys))] := hD9
    replace hS := hS9
    clear hP9 hD9 hS9
    refine lv_if_le (tgt := 18) hx hb dX0_isLeft_11 (by decide) (fun hc2 => ?_) (fun hc2 => ?_)
    · refine lv_iconst (v := 0) hx hb dX0_isLeft_18 (by decide) ?_
      exact J4 _ _ _ _ (((if_neg hc1).trans (if_pos hc2)).symm) hP hD hS (lv_sub hl [0] rfl)
    · refine lv_iconst (v := 1) hx hb dX0_isLeft_14 (by decide) ?_
      refine lv_goto (tgt := 19) hx hb dX0_isLeft_15 (by decide) ?_
      exact J4 _ _ _ _ (((if_neg hc1).trans (if_neg hc2)).symm) hP hD hS (lv_sub hl [0] rfl)

theorem kX0_whereIs_0 : Cond.fieldLink RX0 18 "FlowPlane$Fence" "count" "I" ∈ wsX0_whereIs := by decide +kernel
theorem uX0_whereIs_X0 : ∀ w ∈ u_ws RX0 TX0 3, w ∈ wsX0_whereIs := by decide +kernel
def l_X0_whereIs_5 (xs : Nat → Int32) (ys : Nat → Int32) (n : Nat) (x : Int32) (y : Int32) : Nat → Nat → Int32 → Int32
  | 0, ki, z3_5 => 0
  | fu_X0_whereIs_5 + 1, ki, z3_5 => (if (nI n) ≤ (nI ki) then (if z3_5 = 0 then 0 else 2) else (if (f_X0_isOn xs ys ki x y) = 0 then (l_X0_whereIs_5 xs ys n x y fu_X0_whereIs_5 (ki + 1) (if (f_X0_passesRightOf xs ys ki x y) = 0 then z3_5 else (if z3_5 = 0 then 1 else 0))) else 1))
def f_X0_whereIs (xs : Nat → Int32) (ys : Nat → Int32) (n : Nat) (x : Int32) (y : Int32) : Int32 := (l_X0_whereIs_5 xs ys n x y (n + 1) 0 0)
set_option maxHeartbeats 400000000 in
set_option maxRecDepth 100000 in
theorem c_X0_whereIs (l : Launch) (D : va_G) (cy : Nat → ClassId) (ta : Nat) (tax : Nat) (tay : Nat) (xs : Nat → Int32) (ys : Nat → Int32) (n : Nat) (x : Int32) (y : Int32) (hn : n ≤ 8) : yk_Ci l D vwCl (yk_ty cy) yX0_whereIs wsX0_whereIs 2 48 [.ref ta, .int x, .int y] [(ta, .inr (0, [.ref tax, .ref tay, .int (nI n)])), (tax, .inl (cy 0, 9, .inl xs)), (tay, .inl (cy 0, 9, .inl ys))] (f_X0_whereIs xs ys n x y) [(ta, .inr (0, [.ref tax, .ref tay, .int (nI n)])), (tax, .inl (cy 0, 9, .inl xs)), (tay, .inl (cy 0, 9, .inl ys))] := by
  refine yk_eI (cc := cX0_whereIs) (maxL := 5) (by decide) rfl (Nat.le_of_ble_eq_true rfl) rfl ?_
  intro p e R s m args below meth c A Q ls H locs hx hb hml hown hts hRf hRl hA hK hG hP hD hS hl hQ
  have hP : va_P D vwCl [(ta, .inr (0, [.ref tax, .ref tay, .int (nI n)])), (tax, .inl (cy 0, 9, .inl xs)), (tay, .inl (cy 0, 9, .inl ys))] H := hP
  have hl : lv_has ls 5 [(0, .ref ta), (1, .int x), (2, .int y)] := hl
  have hown : s.vm.findClass RX0 = some m.cls := hown
  have hF : (f_X0_whereIs xs ys n x y) = (f_X0_whereIs xs ys n x y) := rfl
  refine lv_iconst (v := 0) hx hb dX0_whereIs_0 (by decide) ?_
  refine lv_istore_n (lv' := [(3, .int 0), (0, .ref ta), (1, .int x), (2, .int y)]) hx hb dX0_whereIs_1 rfl hl (by decide) rfl (fun ls hl9 => ?_)
  replace hl := hl9
  clear hl9
  refine lv_iconst (v := 0) hx hb dX0_whereIs_2 (by decide) ?_
  refine lv_istore (lv' := [(4, .int 0), (3, .int 0), (0, .ref ta), (1, .int x), (2, .int y)]) hx hb dX0_whereIs_3 hl (by decide) rfl (fun ls hl9 => ?_)
  replace hl := hl9
  clear hl9
  have L5 : ∀ (M9 n5 ki : Nat) (z3_5 : Int32) (H : Heap) (locs : List Loc) (ls : Array Slot), n5 < M9 → ki + n5 = n → f_X0_whereIs xs ys n x y = (l_X0_whereIs_5 xs ys n x y (n5 + 1) ki z3_5) → va_P D vwCl [(ta, .inr (0, [.ref tax, .ref tay, .int (nI n)])), (tax, .inl (cy 0, 9, .inl xs)), (tay, .inl (cy 0, 9, .inl ys))] H → va_D A [(ta, .inr (0, [.ref tax, .ref tay, .int (nI n)])), (tax, .inl (cy 0, 9, .inl xs)), (tay, .inl (cy 0, 9, .inl ys))] → va_S A s.heap H locs → lv_has ls 5 [(0, .ref ta), (1, .int x), (2, .int y), (3, .int z3_5), (4, .int (nI ki))] → W p l e R s m args below meth c H locs 0 0 Q (F0 m 5 ls []) := by
    clear hP hD hS hl hF
    intro M9
    induction M9 with
    | zero => intro n5 ki _ _ _ _ hn; exact absurd hn (Nat.not_lt_zero _)
    | succ M9 ih5 =>
      intro n5 ki z3_5 H locs ls hn5 hk5 hF hP hD hS hl
      refine lv_iload hx hb dX0_whereIs_5 (lv_at hl 4 rfl) ?_
      refine lv_aload_n hx hb dX0_whereIs_7 rfl (lv_at hl 0 rfl) ?_
      refine va_get (D := D) (ci := 0) (v := .int (nI n)) (C := RX0) (T := TX0) (N := 3) hx hb hts uX0_whereIs_X0 hown hK hP 0 rfl rfl 2 (by decide) (hts _ kX0_whereIs_0) (fun _ h9 => h9) rfl dX0_whereIs_8 ?_
      refine lv_icmp_ge (tgt := 54) hx hb dX0_whereIs_11 (by decide) (fun hc1 => ?_) (fun hc1 => ?_)
      · replace hF := hF.trans (if_pos hc1)
        refine lv_iload_n hx hb dX0_whereIs_54 rfl (lv_at hl 3 rfl) ?_
        have J4 : ∀ (v3 : Int32) (H : Heap) (locs : List Loc) (ls : Array Slot), v3 = (if z3_5 = 0 then 0 else 2) → va_P D vwCl [(ta, .inr (0, [.ref tax, .ref tay, .int (nI n)])), (tax, .inl (cy 0, 9, .inl xs)), (tay, .inl (cy 0, 9, .inl ys))] H → va_D A [(ta, .inr (0, [.ref tax, .ref tay, .int (nI n)])), (tax, .inl (cy 0, 9, .inl xs)), (tay, .inl (cy 0, 9, .inl ys))] → va_S A s.heap H locs → lv_has ls 5 [(0, .ref ta), (1, .int x), (2, .int y), (3, .int z3_5), (4, .int (nI ki))] → W p l e R s m args below meth c H locs 0 0 Q (F0 m 63 ls [.int v3]) := by
          clear hP hD hS hl
          intro v3 H locs ls ev3
          rw [ev3]
          clear ev3
          intro hP hD hS hl
          have hF : f_X0_whereIs xs ys n x y = (if z3_5 = 0 then 0 else 2) := hF
          rw [hF] at hQ
          exact hQ _ _ _ _ dX0_whereIs_63 hP hS
        refine lv_if_eq (tgt := 62) hx hb dX0_whereIs_55 (by decide) (fun hc2 => ?_) (fun hc2 => ?_)
        · refine lv_iconst (v := 0) hx hb dX0_whereIs_62 (by decide) ?_
          exact J4 _ _ _ _ ((if_pos hc2).symm) hP hD hS (lv_sub hl [0, 1, 2, 3, 4] rfl)
        · refine lv_iconst (v := 2) hx hb dX0_whereIs_58 (by decide) ?_
          refine lv_goto (tgt := 63) hx hb dX0_whereIs_59 (by decide) ?_
          exact J4 _ _ _ _ ((if_neg hc2).symm) hP hD hS (lv_sub hl [0, 1, 2, 3, 4] rfl)
      · replace hF := hF.trans (if_neg hc1)
        have hlt5 : ki < n := yk_lt hk5 (by omega) hc1
        refine lv_aload_n hx hb dX0_whereIs_14 rfl (lv_at hl 0 rfl) ?_
        refine lv_iload hx hb dX0_whereIs_15 (lv_at hl 4 rfl) ?_
        refine lv_iload_n hx hb dX0_whereIs_17 rfl (lv_at hl 1 rfl) ?_
        refine lv_iload_n hx hb dX0_whereIs_18 rfl (lv_at hl 2 rfl) ?_
        refine yk_i [0, 1, 2] (va_runV (As := [.int (nI ki), .int x, .int y]) (rest := []) ⟨hx, hb, hml, hown, hts⟩ (c_X0_isOn l D cy ta tax tay xs ys n ki x y hn (by omega) H.size) (cwV 3 hts gX0_whereIs_X0_isOn rfl rfl rfl hv_X0_isOn (yk_room hRf hRl rfl rfl)) (yk_pv (q := (RX0, TX0, 3)) hG hA hS hK hP hD [0, 1, 2] (by decide +kernel) rfl rfl rfl) rfl rfl hl.1 rfl (lv_room (Nat.le_of_ble_eq_true rfl)) dX0_whereIs_19 ⟨Nat.zero_le _, Nat.zero_le _⟩) hP hD hS hA rfl (Eq.trans (b := [ta, tax, tay]) rfl rfl) (fun H locs hP9 hD9 hS9 => ?_)
        replace hP : va_P D vwCl [(ta, .inr (0, [.ref tax, .ref tay, .int (nI n)])), (tax, .inl (cy 0, 9, .inl xs)), (tay, .inl (cy 0, 9, .inl ys))] H := hP9
        replace hD : va_D A [(ta, .inr (0, [.ref tax, .ref tay, .int (nI n)])), (tax, .inl (cy 0, 9, .inl xs)), (tay, .inl (cy 0, 9, .inl ys))] := hD9
        replace hS := hS9
        clear hP9 hD9 hS9
        refine lv_if_eq (tgt := 27) hx hb dX0_whereIs_22 (by decide) (fun hc5 => ?_) (fun hc5 => ?_)
        · replace hF := hF.trans (if_pos hc5)
          refine lv_aload_n hx hb dX0_whereIs_27 rfl (lv_at hl 0 rfl) ?_
          refine lv_iload hx hb dX0_whereIs_28 (lv_at hl 4 rfl) ?_
          refine lv_iload_n hx hb dX0_whereIs_30 rfl (lv_at hl 1 rfl) ?_
          refine lv_iload_n hx hb dX0_whereIs_31 rfl (lv_at hl 2 rfl) ?_
          refine yk_i [0, 1, 2] (va_runV (As := [.int (nI ki), .int x, .int y]) (rest := []) ⟨hx, hb, hml, hown, hts⟩ (c_X0_passesRightOf l D cy ta tax tay xs ys n ki x y hn (by omega) H.size) (cwV 3 hts gX0_whereIs_X0_passesRightOf rfl rfl rfl hv_X0_passesRightOf (yk_room hRf hRl rfl rfl)) (yk_pv (q := (RX0, TX0, 3)) hG hA hS hK hP hD [0, 1, 2] (by decide +kernel) rfl rfl rfl) rfl rfl hl.1 rfl (lv_room (Nat.le_of_ble_eq_true rfl)) dX0_whereIs_32 ⟨Nat.zero_le _, Nat.zero_le _⟩) hP hD hS hA rfl (Eq.trans (b := [ta, tax, tay]) rfl rfl) (fun H locs hP9 hD9 hS9 => ?_)
          replace hP : va_P D vwCl [(ta, .inr (0, [.ref tax, .ref tay, .int (nI n)])), (tax, .inl (cy 0, 9, .inl xs)), (tay, .inl (cy 0, 9, .inl ys))] H := hP9
          replace hD : va_D A [(ta, .inr (0, [.ref tax, .ref tay, .int (nI n)])), (tax, .inl (cy 0, 9, .inl xs)), (tay, .inl (cy 0, 9, .inl ys))] := hD9
          replace hS := hS9
          clear hP9 hD9 hS9
          have J11 : ∀ (v10 : Int32) (H : Heap) (locs : List Loc) (ls : Array Slot), v10 = (if (f_X0_passesRightOf xs ys ki x y) = 0 then z3_5 else (if z3_5 = 0 then 1 else 0)) → va_P D vwCl [(ta, .inr (0, [.ref tax, .ref tay, .int (nI n)])), (tax, .inl (cy 0, 9, .inl xs)), (tay, .inl (cy 0, 9, .inl ys))] H → va_D A [(ta, .inr (0, [.ref tax, .ref tay, .int (nI n)])), (tax, .inl (cy 0, 9, .inl xs)), (tay, .inl (cy 0, 9, .inl ys))] → va_S A s.heap H locs → lv_has ls 5 [(0, .ref ta), (1, .int x), (2, .int y), (3, .int v10), (4, .int (nI ki))] → W p l e R s m args below meth c H locs 0 0 Q (F0 m 48 ls []) := by
            clear hP hD hS hl
            intro v10 H locs ls ev10
            rw [ev10]
            clear ev10
            intro hP hD hS hl
            refine lv_iinc (v := nI (ki + 1)) (lv' := [(4, .int (nI (ki + 1))), (0, .ref ta), (1, .int x), (2, .int y), (3, .int (if (f_X0_passesRightOf xs ys ki x y) = 0 then z3_5 else (if z3_5 = 0 then 1 else 0)))]) hx hb dX0_whereIs_48 hl (k := 4) rfl (yk_inc ki) (by decide) rfl (fun ls hl9 => ?_)
            replace hl := hl9
            clear hl9
            refine lv_goto (tgt := 5) hx hb dX0_whereIs_51 (by decide) ?_
            obtain ⟨n9, rfl⟩ : ∃ n9, n5 = n9 + 1 := ⟨n5 - 1, by omega⟩
            exact ih5 n9 (ki + 1) (if (f_X0_passesRightOf xs ys ki x y) = 0 then z3_5 else (if z3_5 = 0 then 1 else 0)) _ _ _ (by omega) (by omega)  hF hP hD hS (lv_sub hl [1, 2, 3, 4, 0] rfl)
          refine lv_if_eq (tgt := 48) hx hb dX0_whereIs_35 (by decide) (fun hc6 => ?_) (fun hc6 => ?_)
          · exact J11 _ _ _ _ ((if_pos hc6).symm) hP hD hS (lv_sub hl [0, 1, 2, 3, 4] rfl)
          · refine lv_iload_n hx hb dX0_whereIs_38 rfl (lv_at hl 3 rfl) ?_
            have J9 : ∀ (v8 : Int32) (H : Heap) (locs : List Loc) (ls : Array Slot), v8 = (if z3_5 = 0 then 1 else 0) → va_P D vwCl [(ta, .inr (0, [.ref tax, .ref tay, .int (nI n)])), (tax, .inl (cy 0, 9, .inl xs)), (tay, .inl (cy 0, 9, .inl ys))] H → va_D A [(ta, .inr (0, [.ref tax, .ref tay, .int (nI n)])), (tax, .inl (cy 0, 9, .inl xs)), (tay, .inl (cy 0, 9, .inl ys))] → va_S A s.heap H locs → lv_has ls 5 [(0, .ref ta), (1, .int x), (2, .int y), (3, .int z3_5), (4, .int (nI ki))] → W p l e R s m args below meth c H locs 0 0 Q (F0 m 47 ls [.int v8]) := by
              clear hP hD hS hl
              intro v8 H locs ls ev8
              rw [ev8]
              clear ev8
              intro hP hD hS hl
              refine lv_istore_n (lv' := [(3, .int (if z3_5 = 0 then 1 else 0)), (0, .ref ta), (1, .int x), (2, .int y), (4, .int (nI ki))]) hx hb dX0_whereIs_47 rfl hl (by decide) rfl (fun ls hl9 => ?_)
              replace hl := hl9
              clear hl9
              exact J11 _ _ _ _ ((if_neg hc6).symm) hP hD hS (lv_sub hl [1, 2, 3, 0, 4] rfl)
            refine lv_if_ne (tgt := 46) hx hb dX0_whereIs_39 (by decide) (fun hc7 => ?_) (fun hc7 => ?_)
            · refine lv_iconst (v := 0) hx hb dX0_whereIs_46 (by decide) ?_
              exact J9 _ _ _ _ ((if_neg hc7).symm) hP hD hS (lv_sub hl [0, 1, 2, 3, 4] rfl)
            · refine lv_iconst (v := 1) hx hb dX0_whereIs_42 (by decide) ?_
              refine lv_goto (tgt := 47) hx hb dX0_whereIs_43 (by decide) ?_
              exact J9 _ _ _ _ ((if_pos hc7).symm) hP hD hS (lv_sub hl [0, 1, 2, 3, 4] rfl)
        · replace hF := hF.trans (if_neg hc5)
          refine lv_iconst (v := 1) hx hb dX0_whereIs_25 (by decide) ?_
          have hF : f_X0_whereIs xs ys n x y = 1 := hF
          rw [hF] at hQ
          exact hQ _ _ _ _ dX0_whereIs_26 hP hS
  exact L5 (n + 1) n 0 0 _ _ _ (Nat.lt_succ_self _) (by omega)  hF hP hD hS (lv_sub hl [2, 3, 4, 1, 0] rfl)

theorem kX0_append_0 : Cond.fieldLink RX0 18 "FlowPlane$Fence" "count" "I" ∈ wsX0_append := by decide +kernel
theorem kX0_append_1 : Cond.fieldLink RX0 9 "FlowPlane$Fence" "xs" "[I" ∈ wsX0_append := by decide +kernel
theorem kX0_append_2 : Cond.fieldLink RX0 15 "FlowPlane$Fence" "ys" "[I" ∈ wsX0_append := by decide +kernel
theorem uX0_append_X0 : ∀ w ∈ u_ws RX0 TX0 3, w ∈ wsX0_append := by decide +kernel
def f_X0_append (xs : Nat → Int32) (ys : Nat → Int32) (n : Nat) (x : Int32) (y : Int32) : Nat × (Nat → Int32) × (Nat → Int32) := ((if 8 ≤ (nI n) then n else (n + 1)), (if 8 ≤ (nI n) then xs else (upd (upd xs n x) (n + 1) ((upd xs n x) 0))), (if 8 ≤ (nI n) then ys else (upd (upd ys n y) (n + 1) ((upd ys n y) 0))))
set_option maxHeartbeats 400000000 in
set_option maxRecDepth 100000 in
theorem c_X0_append (l : Launch) (D : va_G) (cy : Nat → ClassId) (ta : Nat) (tax : Nat) (tay : Nat) (xs : Nat → Int32) (ys : Nat → Int32) (n : Nat) (x : Int32) (y : Int32) (hn : n ≤ 8) (h8 : n < 8) : yk_Cv l D vwCl (yk_ty cy) yX0_append wsX0_append 0 0 [.ref ta, .int x, .int y] [(ta, .inr (0, [.ref tax, .ref tay, .int (nI n)])), (tax, .inl (cy 0, 9, .inl xs)), (tay, .inl (cy 0, 9, .inl ys))] [(ta, .inr (0, [.ref tax, .ref tay, .int (nI ((f_X0_append xs ys n x y).1))])), (tax, .inl (cy 0, 9, .inl ((f_X0_append xs ys n x y).2.1))), (tay, .inl (cy 0, 9, .inl ((f_X0_append xs ys n x y).2.2)))] := by
  refine yk_eV (cc := cX0_append) (maxL := 3) (by decide) rfl (Nat.le_of_ble_eq_true rfl) ?_
  intro p e R s m args below meth c A Q ls H locs hx hb hml hown hts hRf hRl hA hK hG hP hD hS hl hQ
  have hP : va_P D vwCl [(ta, .inr (0, [.ref tax, .ref tay, .int (nI n)])), (tax, .inl (cy 0, 9, .inl xs)), (tay, .inl (cy 0, 9, .inl ys))] H := hP
  have hl : lv_has ls 3 [(0, .ref ta), (1, .int x), (2, .int y)] := hl
  have hown : s.vm.findClass RX0 = some m.cls := hown
  have hF : (f_X0_append xs ys n x y) = (f_X0_append xs ys n x y) := rfl
  refine lv_aload_n hx hb dX0_append_0 rfl (lv_at hl 0 rfl) ?_
  refine va_get (D := D) (ci := 0) (v := .int (nI n)) (C := RX0) (T := TX0) (N := 3) hx hb hts uX0_append_X0 hown hK hP 0 rfl rfl 2 (by decide) (hts _ kX0_append_0) (fun _ h9 => h9) rfl dX0_append_1 ?_
  refine lv_bipush (v := 8) hx hb dX0_append_4 (by decide) ?_
  have J5 : ∀ (v2 : Nat) (v3 : Nat → Int32) (v4 : Nat → Int32) (H : Heap) (locs : List Loc) (ls : Array Slot), v2 = (if 8 ≤ (nI n) then n else (n + 1)) → v3 = (if 8 ≤ (nI n) then xs else (upd (upd xs n x) (n + 1) ((upd xs n x) 0))) → v4 = (if 8 ≤ (nI n) then ys else (upd (upd ys n y) (n + 1) ((upd ys n y) 0))) → va_P D vwCl [(ta, .inr (0, [.ref tax, .ref tay, .int (nI v2)])), (tax, .inl (cy 0, 9, .inl v3)), (tay, .inl (cy 0, 9, .inl v4))] H → va_D A [(ta, .inr (0, [.ref tax, .ref tay, .int (nI v2)])), (tax, .inl (cy 0, 9, .inl v3)), (tay, .inl (cy 0, 9, .inl v4))] → va_S A s.heap H locs → lv_has ls 3 [(0, .ref ta), (1, .int x), (2, .int y)] → W p l e R s m args below meth c H locs 0 0 Q (F0 m 69 ls []) := by
    clear hP hD hS hl
    intro v2 v3 v4 H locs ls ev2 ev3 ev4
    rw [ev2, ev3, ev4]
    clear ev2
    clear ev3
    clear ev4
    intro hP hD hS hl
    have hF : f_X0_append xs ys n x y = ((if 8 ≤ (nI n) then n else (n + 1)), (if 8 ≤ (nI n) then xs else (upd (upd xs n x) (n + 1) ((upd xs n x) 0))), (if 8 ≤ (nI n) then ys else (upd (upd ys n y) (n + 1) ((upd ys n y) 0)))) := hF
    rw [hF] at hQ
    exact hQ _ _ _ _ dX0_append_69 hP hS
  refine lv_icmp_ge (tgt := 69) hx hb dX0_append_6 (by decide) (fun hc1 => ?_) (fun hc1 => ?_)
  · exact J5 _ _ _ _ _ _ ((if_pos hc1).symm) ((if_pos hc1).symm) ((if_pos hc1).symm) hP hD hS (lv_sub hl [0, 1, 2] rfl)
  · refine lv_aload_n hx hb dX0_append_9 rfl (lv_at hl 0 rfl) ?_
    refine va_get (D := D) (ci := 0) (v := .ref tax) (C := RX0) (T := TX0) (N := 3) hx hb hts uX0_append_X0 hown hK hP 0 rfl rfl 0 (by decide) (hts _ kX0_append_1) (fun _ h9 => h9) rfl dX0_append_10 ?_
    refine lv_aload_n hx hb dX0_append_13 rfl (lv_at hl 0 rfl) ?_
    refine va_get (D := D) (ci := 0) (v := .int (nI n)) (C := RX0) (T := TX0) (N := 3) hx hb hts uX0_append_X0 hown hK hP 0 rfl rfl 2 (by decide) (hts _ kX0_append_0) (fun _ h9 => h9) rfl dX0_append_14 ?_
    refine lv_iload_n hx hb dX0_append_17 rfl (lv_at hl 1 rfl) ?_
    refine yk_ist hx hb hK hP hD hS 1 0 rfl rfl n (by omega) (by decide) dX0_append_18 (fun H locs hP9 hD9 hS9 => ?_)
    replace hP : va_P D vwCl [(ta, .inr (0, [.ref tax, .ref tay, .int (nI n)])), (tax, .inl (cy 0, 9, .inl (upd xs n x))), (tay, .inl (cy 0, 9, .inl ys))] H := hP9
    replace hD : va_D A [(ta, .inr (0, [.ref tax, .ref tay, .int (nI n)])), (tax, .inl (cy 0, 9, .inl (upd xs n x))), (tay, .inl (cy 0, 9, .inl ys))] := hD9
    replace hS := hS9
    clear hP9 hD9 hS9
    refine lv_aload_n hx hb dX0_append_19 rfl (lv_at hl 0 rfl) ?_
    refine va_get (D := D) (ci := 0) (v := .ref tay) (C := RX0) (T := TX0) (N := 3) hx hb hts uX0_append_X0 hown hK hP 0 rfl rfl 1 (by decide) (hts _ kX0_append_2) (fun _ h9 => h9) rfl dX0_append_20 ?_
    refine lv_aload_n hx hb dX0_append_23 rfl (lv_at hl 0 rfl) ?_
    refine va_get (D := D) (ci := 0) (v := .int (nI n)) (C := RX0) (T := TX0) (N := 3) hx hb hts uX0_append_X0 hown hK hP 0 rfl rfl 2 (by decide) (hts _ kX0_append_0) (fun _ h9 => h9) rfl dX0_append_24 ?_
    refine lv_iload_n hx hb dX0_append_27 rfl (lv_at hl 2 rfl) ?_
    refine yk_ist hx hb hK hP hD hS 2 0 rfl rfl n (by omega) (by decide) dX0_append_28 (fun H locs hP9 hD9 hS9 => ?_)
    replace hP : va_P D vwCl [(ta, .inr (0, [.ref tax, .ref tay, .int (nI n)])), (tax, .inl (cy 0, 9, .inl (upd xs n x))), (tay, .inl (cy 0, 9, .inl (upd ys n y)))] H := hP9
    replace hD : va_D A [(ta, .inr (0, [.ref tax, .ref tay, .int (nI n)])), (tax, .inl (cy 0, 9, .inl (upd xs n x))), (tay, .inl (cy 0, 9, .inl (upd ys n y)))] := hD9
    replace hS := hS9
    clear hP9 hD9 hS9
    refine lv_aload_n hx hb dX0_append_29 rfl (lv_at hl 0 rfl) ?_
    refine lv_dup hx hb dX0_append_30 rfl ?_
    refine va_get (D := D) (ci := 0) (v := .int (nI n)) (C := RX0) (T := TX0) (N := 3) hx hb hts uX0_append_X0 hown hK hP 0 rfl rfl 2 (by decide) (hts _ kX0_append_0) (fun _ h9 => h9) rfl dX0_append_31 ?_
    refine lv_iconst (v := 1) hx hb dX0_append_34 (by decide) ?_
    refine lv_iadd hx hb dX0_append_35 ?_
    refine yk_ti (y := nI (n + 1)) (nI_add n 1) ?_
    refine va_put (D := D) (ci := 0) (v := .int (nI (n + 1))) (ty := .int) (C := RX0) (T := TX0) (N := 3) hx hb hts uX0_append_X0 tyX0 tyX0_ok nmX0 hown hK hP hD hS 0 rfl rfl 2 (by decide) (hts _ kX0_append_0) (fun _ h9 => h9) rfl (by decide +kernel) (rfl) (rfl) (Nat.le_of_ble_eq_true rfl) dX0_append_36 (fun H locs hP9 hD9 hS9 => ?_)
    replace hP : va_P D vwCl [(ta, .inr (0, [.ref tax, .ref tay, .int (nI (n + 1))])), (tax, .inl (cy 0, 9, .inl (upd xs n x))), (tay, .inl (cy 0, 9, .inl (upd ys n y)))] H := hP9
    replace hD : va_D A [(ta, .inr (0, [.ref tax, .ref tay, .int (nI (n + 1))])), (tax, .inl (cy 0, 9, .inl (upd xs n x))), (tay, .inl (cy 0, 9, .inl (upd ys n y)))] := hD9
    replace hS := hS9
    clear hP9 hD9 hS9
    refine lv_aload_n hx hb dX0_append_39 rfl (lv_at hl 0 rfl) ?_
    refine va_get (D := D) (ci := 0) (v := .ref tax) (C := RX0) (T := TX0) (N := 3) hx hb hts uX0_append_X0 hown hK hP 0 rfl rfl 0 (by decide) (hts _ kX0_append_1) (fun _ h9 => h9) rfl dX0_append_40 ?_
    refine lv_aload_n hx hb dX0_append_43 rfl (lv_at hl 0 rfl) ?_
    refine va_get (D := D) (ci := 0) (v := .int (nI (n + 1))) (C := RX0) (T := TX0) (N := 3) hx hb hts uX0_append_X0 hown hK hP 0 rfl rfl 2 (by decide) (hts _ kX0_append_0) (fun _ h9 => h9) rfl dX0_append_44 ?_
    refine lv_aload_n hx hb dX0_append_47 rfl (lv_at hl 0 rfl) ?_
    refine va_get (D := D) (ci := 0) (v := .ref tax) (C := RX0) (T := TX0) (N := 3) hx hb hts uX0_append_X0 hown hK hP 0 rfl rfl 0 (by decide) (hts _ kX0_append_1) (fun _ h9 => h9) rfl dX0_append_48 ?_
    refine lv_iconst (v := 0) hx hb dX0_append_51 (by decide) ?_
    refine yk_ild hx hb hK hP 1 0 rfl rfl 0 (by omega) (by decide) dX0_append_52 ?_
    refine yk_ist hx hb hK hP hD hS 1 0 rfl rfl (n + 1) (by omega) (by decide) dX0_append_53 (fun H locs hP9 hD9 hS9 => ?_)
    replace hP : va_P D vwCl [(ta, .inr (0, [.ref tax, .ref tay, .int (nI (n + 1))])), (tax, .inl (cy 0, 9, .inl (upd (upd xs n x) (n + 1) ((upd xs n x) 0)))), (tay, .inl (cy 0, 9, .inl (upd ys n y)))] H := hP9
    replace hD : va_D A [(ta, .inr (0, [.ref tax, .ref tay, .int (nI (n + 1))])), (tax, .inl (cy 0, 9, .inl (upd (upd xs n x) (n + 1) ((upd xs n x) 0)))), (tay, .inl (cy 0, 9, .inl (upd ys n y)))] := hD9
    replace hS := hS9
    clear hP9 hD9 hS9
    refine lv_aload_n hx hb dX0_append_54 rfl (lv_at hl 0 rfl) ?_
    refine va_get (D := D) (ci := 0) (v := .ref tay) (C := RX0) (T := TX0) (N := 3) hx hb hts uX0_append_X0 hown hK hP 0 rfl rfl 1 (by decide) (hts _ kX0_append_2) (fun _ h9 => h9) rfl dX0_append_55 ?_
    refine lv_aload_n hx hb dX0_append_58 rfl (lv_at hl 0 rfl) ?_
    refine va_get (D := D) (ci := 0) (v := .int (nI (n + 1))) (C := RX0) (T := TX0) (N := 3) hx hb hts uX0_append_X0 hown hK hP 0 rfl rfl 2 (by decide) (hts _ kX0_append_0) (fun _ h9 => h9) rfl dX0_append_59 ?_
    refine lv_aload_n hx hb dX0_append_62 rfl (lv_at hl 0 rfl) ?_
    refine va_get (D := D) (ci := 0) (v := .ref tay) (C := RX0) (T := TX0) (N := 3) hx hb hts uX0_append_X0 hown hK hP 0 rfl rfl 1 (by decide) (hts _ kX0_append_2) (fun _ h9 => h9) rfl dX0_append_63 ?_
    refine lv_iconst (v := 0) hx hb dX0_append_66 (by decide) ?_
    refine yk_ild hx hb hK hP 2 0 rfl rfl 0 (by omega) (by decide) dX0_append_67 ?_
    refine yk_ist hx hb hK hP hD hS 2 0 rfl rfl (n + 1) (by omega) (by decide) dX0_append_68 (fun H locs hP9 hD9 hS9 => ?_)
    replace hP : va_P D vwCl [(ta, .inr (0, [.ref tax, .ref tay, .int (nI (n + 1))])), (tax, .inl (cy 0, 9, .inl (upd (upd xs n x) (n + 1) ((upd xs n x) 0)))), (tay, .inl (cy 0, 9, .inl (upd (upd ys n y) (n + 1) ((upd ys n y) 0))))] H := hP9
    replace hD : va_D A [(ta, .inr (0, [.ref tax, .ref tay, .int (nI (n + 1))])), (tax, .inl (cy 0, 9, .inl (upd (upd xs n x) (n + 1) ((upd xs n x) 0)))), (tay, .inl (cy 0, 9, .inl (upd (upd ys n y) (n + 1) ((upd ys n y) 0))))] := hD9
    replace hS := hS9
    clear hP9 hD9 hS9
    exact J5 _ _ _ _ _ _ ((if_neg hc1).symm) ((if_neg hc1).symm) ((if_neg hc1).symm) hP hD hS (lv_sub hl [0, 1, 2] rfl)
