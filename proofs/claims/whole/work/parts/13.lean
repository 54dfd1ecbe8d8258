theorem hv_X3_become : yX3_become.cls = RX3 ∧ yX3_become.cls ≠ "java/lang/invoke/MethodHandle" ∧ yX3_become.cls ≠ "java/lang/invoke/VarHandle" ∧ (parseMethodDescriptor yX3_become.desc).map (fun d => d.parameters.length) = some 1 := by decide +kernel
theorem hs_X3_become : yX3_become.cls ≠ "java/lang/invoke/MethodHandle" ∧ yX3_become.cls ≠ "java/lang/invoke/VarHandle" ∧ (parseMethodDescriptor yX3_become.desc).map (fun d => d.parameters.length) = some 1 := by decide +kernel
theorem hv_X3_at : yX3_at.cls = RX3 ∧ yX3_at.cls ≠ "java/lang/invoke/MethodHandle" ∧ yX3_at.cls ≠ "java/lang/invoke/VarHandle" ∧ (parseMethodDescriptor yX3_at.desc).map (fun d => d.parameters.length) = some 2 := by decide +kernel
theorem hs_X3_at : yX3_at.cls ≠ "java/lang/invoke/MethodHandle" ∧ yX3_at.cls ≠ "java/lang/invoke/VarHandle" ∧ (parseMethodDescriptor yX3_at.desc).map (fun d => d.parameters.length) = some 2 := by decide +kernel
theorem hv_X3_byX : yX3_byX.cls = RX3 ∧ yX3_byX.cls ≠ "java/lang/invoke/MethodHandle" ∧ yX3_byX.cls ≠ "java/lang/invoke/VarHandle" ∧ (parseMethodDescriptor yX3_byX.desc).map (fun d => d.parameters.length) = some 2 := by decide +kernel
theorem hs_X3_byX : yX3_byX.cls ≠ "java/lang/invoke/MethodHandle" ∧ yX3_byX.cls ≠ "java/lang/invoke/VarHandle" ∧ (parseMethodDescriptor yX3_byX.desc).map (fun d => d.parameters.length) = some 2 := by decide +kernel
theorem hv_X3_byY : yX3_byY.cls = RX3 ∧ yX3_byY.cls ≠ "java/lang/invoke/MethodHandle" ∧ yX3_byY.cls ≠ "java/lang/invoke/VarHandle" ∧ (parseMethodDescriptor yX3_byY.desc).map (fun d => d.parameters.length) = some 2 := by decide +kernel
theorem hs_X3_byY : yX3_byY.cls ≠ "java/lang/invoke/MethodHandle" ∧ yX3_byY.cls ≠ "java/lang/invoke/VarHandle" ∧ (parseMethodDescriptor yX3_byY.desc).map (fun d => d.parameters.length) = some 2 := by decide +kernel
theorem hv_X3_fits : yX3_fits.cls = RX3 ∧ yX3_fits.cls ≠ "java/lang/invoke/MethodHandle" ∧ yX3_fits.cls ≠ "java/lang/invoke/VarHandle" ∧ (parseMethodDescriptor yX3_fits.desc).map (fun d => d.parameters.length) = some 0 := by decide +kernel
theorem hs_X3_fits : yX3_fits.cls ≠ "java/lang/invoke/MethodHandle" ∧ yX3_fits.cls ≠ "java/lang/invoke/VarHandle" ∧ (parseMethodDescriptor yX3_fits.desc).map (fun d => d.parameters.length) = some 0 := by decide +kernel
theorem hv_X3_countNotZero : yX3_countNotZero.cls = RX3 ∧ yX3_countNotZero.cls ≠ "java/lang/invoke/MethodHandle" ∧ yX3_countNotZero.cls ≠ "java/lang/invoke/VarHandle" ∧ (parseMethodDescriptor yX3_countNotZero.desc).map (fun d => d.parameters.length) = some 0 := by decide +kernel
theorem hs_X3_countNotZero : yX3_countNotZero.cls ≠ "java/lang/invoke/MethodHandle" ∧ yX3_countNotZero.cls ≠ "java/lang/invoke/VarHandle" ∧ (parseMethodDescriptor yX3_countNotZero.desc).map (fun d => d.parameters.length) = some 0 := by decide +kernel
theorem hv_X1_spreadAt : yX1_spreadAt.cls = RX1 ∧ yX1_spreadAt.cls ≠ "java/lang/invoke/MethodHandle" ∧ yX1_spreadAt.cls ≠ "java/lang/invoke/VarHandle" ∧ (parseMethodDescriptor yX1_spreadAt.desc).map (fun d => d.parameters.length) = some 2 := by decide +kernel
theorem hs_X1_spreadAt : yX1_spreadAt.cls ≠ "java/lang/invoke/MethodHandle" ∧ yX1_spreadAt.cls ≠ "java/lang/invoke/VarHandle" ∧ (parseMethodDescriptor yX1_spreadAt.desc).map (fun d => d.parameters.length) = some 2 := by decide +kernel
theorem hv_X1_isFree : yX1_isFree.cls = RX1 ∧ yX1_isFree.cls ≠ "java/lang/invoke/MethodHandle" ∧ yX1_isFree.cls ≠ "java/lang/invoke/VarHandle" ∧ (parseMethodDescriptor yX1_isFree.desc).map (fun d => d.parameters.length) = some 0 := by decide +kernel
theorem hs_X1_isFree : yX1_isFree.cls ≠ "java/lang/invoke/MethodHandle" ∧ yX1_isFree.cls ≠ "java/lang/invoke/VarHandle" ∧ (parseMethodDescriptor yX1_isFree.desc).map (fun d => d.parameters.length) = some 0 := by decide +kernel
theorem hv_X3_hasSquares : yX3_hasSquares.cls = RX3 ∧ yX3_hasSquares.cls ≠ "java/lang/invoke/MethodHandle" ∧ yX3_hasSquares.cls ≠ "java/lang/invoke/VarHandle" ∧ (parseMethodDescriptor yX3_hasSquares.desc).map (fun d => d.parameters.length) = some 0 := by decide +kernel
theorem hs_X3_hasSquares : yX3_hasSquares.cls ≠ "java/lang/invoke/MethodHandle" ∧ yX3_hasSquares.cls ≠ "java/lang/invoke/VarHandle" ∧ (parseMethodDescriptor yX3_hasSquares.desc).map (fun d => d.parameters.length) = some 0 := by decide +kernel
theorem hv_X0_stepX : yX0_stepX.cls = RX0 ∧ yX0_stepX.cls ≠ "java/lang/invoke/MethodHandle" ∧ yX0_stepX.cls ≠ "java/lang/invoke/VarHandle" ∧ (parseMethodDescriptor yX0_stepX.desc).map (fun d => d.parameters.length) = some 1 := by decide +kernel
theorem hs_X0_stepX : yX0_stepX.cls ≠ "java/lang/invoke/MethodHandle" ∧ yX0_stepX.cls ≠ "java/lang/invoke/VarHandle" ∧ (parseMethodDescriptor yX0_stepX.desc).map (fun d => d.parameters.length) = some 1 := by decide +kernel
theorem hv_X0_stepY : yX0_stepY.cls = RX0 ∧ yX0_stepY.cls ≠ "java/lang/invoke/MethodHandle" ∧ yX0_stepY.cls ≠ "java/lang/invoke/VarHandle" ∧ (parseMethodDescriptor yX0_stepY.desc).map (fun d => d.parameters.length) = some 1 := by decide +kernel
theorem hs_X0_stepY : yX0_stepY.cls ≠ "java/lang/invoke/MethodHandle" ∧ yX0_stepY.cls ≠ "java/lang/invoke/VarHandle" ∧ (parseMethodDescriptor yX0_stepY.desc).map (fun d => d.parameters.length) = some 1 := by decide +kernel
theorem hv_X4_discriminant : yX4_discriminant.cls = RX4 ∧ yX4_discriminant.cls ≠ "java/lang/invoke/MethodHandle" ∧ yX4_discriminant.cls ≠ "java/lang/invoke/VarHandle" ∧ (parseMethodDescriptor yX4_discriminant.desc).map (fun d => d.parameters.length) = some 0 := by decide +kernel
theorem hs_X4_discriminant : yX4_discriminant.cls ≠ "java/lang/invoke/MethodHandle" ∧ yX4_discriminant.cls ≠ "java/lang/invoke/VarHandle" ∧ (parseMethodDescriptor yX4_discriminant.desc).map (fun d => d.parameters.length) = some 0 := by decide +kernel
theorem hv_J13_signum_95d88 : yJ13_signum_95d88.cls = RJ13 ∧ yJ13_signum_95d88.cls ≠ "java/lang/invoke/MethodHandle" ∧ yJ13_signum_95d88.cls ≠ "java/lang/invoke/VarHandle" ∧ (parseMethodDescriptor yJ13_signum_95d88.desc).map (fun d => d.parameters.length) = some 1 := by decide +kernel
theorem hs_J13_signum_95d88 : yJ13_signum_95d88.cls ≠ "java/lang/invoke/MethodHandle" ∧ yJ13_signum_95d88.cls ≠ "java/lang/invoke/VarHandle" ∧ (parseMethodDescriptor yJ13_signum_95d88.desc).map (fun d => d.parameters.length) = some 1 := by decide +kernel
theorem hv_X4_branch : yX4_branch.cls = RX4 ∧ yX4_branch.cls ≠ "java/lang/invoke/MethodHandle" ∧ yX4_branch.cls ≠ "java/lang/invoke/VarHandle" ∧ (parseMethodDescriptor yX4_branch.desc).map (fun d => d.parameters.length) = some 1 := by decide +kernel
theorem hs_X4_branch : yX4_branch.cls ≠ "java/lang/invoke/MethodHandle" ∧ yX4_branch.cls ≠ "java/lang/invoke/VarHandle" ∧ (parseMethodDescriptor yX4_branch.desc).map (fun d => d.parameters.length) = some 1 := by decide +kernel
theorem hv_X4_signAtRoot : yX4_signAtRoot.cls = RX4 ∧ yX4_signAtRoot.cls ≠ "java/lang/invoke/MethodHandle" ∧ yX4_signAtRoot.cls ≠ "java/lang/invoke/VarHandle" ∧ (parseMethodDescriptor yX4_signAtRoot.desc).map (fun d => d.parameters.length) = some 4 := by decide +kernel
theorem hs_X4_signAtRoot : yX4_signAtRoot.cls ≠ "java/lang/invoke/MethodHandle" ∧ yX4_signAtRoot.cls ≠ "java/lang/invoke/VarHandle" ∧ (parseMethodDescriptor yX4_signAtRoot.desc).map (fun d => d.parameters.length) = some 4 := by decide +kernel
theorem hv_X4_sideOfStart : yX4_sideOfStart.cls = RX4 ∧ yX4_sideOfStart.cls ≠ "java/lang/invoke/MethodHandle" ∧ yX4_sideOfStart.cls ≠ "java/lang/invoke/VarHandle" ∧ (parseMethodDescriptor yX4_sideOfStart.desc).map (fun d => d.parameters.length) = some 1 := by decide +kernel
theorem hs_X4_sideOfStart : yX4_sideOfStart.cls ≠ "java/lang/invoke/MethodHandle" ∧ yX4_sideOfStart.cls ≠ "java/lang/invoke/VarHandle" ∧ (parseMethodDescriptor yX4_sideOfStart.desc).map (fun d => d.parameters.length) = some 1 := by decide +kernel
theorem hv_X4_sideOfEnd : yX4_sideOfEnd.cls = RX4 ∧ yX4_sideOfEnd.cls ≠ "java/lang/invoke/MethodHandle" ∧ yX4_sideOfEnd.cls ≠ "java/lang/invoke/VarHandle" ∧ (parseMethodDescriptor yX4_sideOfEnd.desc).map (fun d => d.parameters.length) = some 1 := by decide +kernel
theorem hs_X4_sideOfEnd : yX4_sideOfEnd.cls ≠ "java/lang/invoke/MethodHandle" ∧ yX4_sideOfEnd.cls ≠ "java/lang/invoke/VarHandle" ∧ (parseMethodDescriptor yX4_sideOfEnd.desc).map (fun d => d.parameters.length) = some 1 := by decide +kernel
theorem hv_X4_isZero : yX4_isZero.cls = RX4 ∧ yX4_isZero.cls ≠ "java/lang/invoke/MethodHandle" ∧ yX4_isZero.cls ≠ "java/lang/invoke/VarHandle" ∧ (parseMethodDescriptor yX4_isZero.desc).map (fun d => d.parameters.length) = some 0 := by decide +kernel
theorem hs_X4_isZero : yX4_isZero.cls ≠ "java/lang/invoke/MethodHandle" ∧ yX4_isZero.cls ≠ "java/lang/invoke/VarHandle" ∧ (parseMethodDescriptor yX4_isZero.desc).map (fun d => d.parameters.length) = some 0 := by decide +kernel
theorem hv_X4_rootCount : yX4_rootCount.cls = RX4 ∧ yX4_rootCount.cls ≠ "java/lang/invoke/MethodHandle" ∧ yX4_rootCount.cls ≠ "java/lang/invoke/VarHandle" ∧ (parseMethodDescriptor yX4_rootCount.desc).map (fun d => d.parameters.length) = some 0 := by decide +kernel
theorem hs_X4_rootCount : yX4_rootCount.cls ≠ "java/lang/invoke/MethodHandle" ∧ yX4_rootCount.cls ≠ "java/lang/invoke/VarHandle" ∧ (parseMethodDescriptor yX4_rootCount.desc).map (fun d => d.parameters.length) = some 0 := by decide +kernel
theorem hv_X4_isOnPiece : yX4_isOnPiece.cls = RX4 ∧ yX4_isOnPiece.cls ≠ "java/lang/invoke/MethodHandle" ∧ yX4_isOnPiece.cls ≠ "java/lang/invoke/VarHandle" ∧ (parseMethodDescriptor yX4_isOnPiece.desc).map (fun d => d.parameters.length) = some 1 := by decide +kernel
theorem hs_X4_isOnPiece : yX4_isOnPiece.cls ≠ "java/lang/invoke/MethodHandle" ∧ yX4_isOnPiece.cls ≠ "java/lang/invoke/VarHandle" ∧ (parseMethodDescriptor yX4_isOnPiece.desc).map (fun d => d.parameters.length) = some 1 := by decide +kernel
theorem hv_X4_signAtRootOf : yX4_signAtRootOf.cls = RX4 ∧ yX4_signAtRootOf.cls ≠ "java/lang/invoke/MethodHandle" ∧ yX4_signAtRootOf.cls ≠ "java/lang/invoke/VarHandle" ∧ (parseMethodDescriptor yX4_signAtRootOf.desc).map (fun d => d.parameters.length) = some 2 := by decide +kernel
theorem hs_X4_signAtRootOf : yX4_signAtRootOf.cls ≠ "java/lang/invoke/MethodHandle" ∧ yX4_signAtRootOf.cls ≠ "java/lang/invoke/VarHandle" ∧ (parseMethodDescriptor yX4_signAtRootOf.desc).map (fun d => d.parameters.length) = some 2 := by decide +kernel
theorem hv_X4_zerosOnPiece : yX4_zerosOnPiece.cls = RX4 ∧ yX4_zerosOnPiece.cls ≠ "java/lang/invoke/MethodHandle" ∧ yX4_zerosOnPiece.cls ≠ "java/lang/invoke/VarHandle" ∧ (parseMethodDescriptor yX4_zerosOnPiece.desc).map (fun d => d.parameters.length) = some 0 := by decide +kernel
theorem hs_X4_zerosOnPiece : yX4_zerosOnPiece.cls ≠ "java/lang/invoke/MethodHandle" ∧ yX4_zerosOnPiece.cls ≠ "java/lang/invoke/VarHandle" ∧ (parseMethodDescriptor yX4_zerosOnPiece.desc).map (fun d => d.parameters.length) = some 0 := by decide +kernel
theorem hv_X4_signAfterRoot : yX4_signAfterRoot.cls = RX4 ∧ yX4_signAfterRoot.cls ≠ "java/lang/invoke/MethodHandle" ∧ yX4_signAfterRoot.cls ≠ "java/lang/invoke/VarHandle" ∧ (parseMethodDescriptor yX4_signAfterRoot.desc).map (fun d => d.parameters.length) = some 1 := by decide +kernel
theorem hs_X4_signAfterRoot : yX4_signAfterRoot.cls ≠ "java/lang/invoke/MethodHandle" ∧ yX4_signAfterRoot.cls ≠ "java/lang/invoke/VarHandle" ∧ (parseMethodDescriptor yX4_signAfterRoot.desc).map (fun d => d.parameters.length) = some 1 := by decide +kernel
theorem hv_X4_signBeforeRoot : yX4_signBeforeRoot.cls = RX4 ∧ yX4_signBeforeRoot.cls ≠ "java/lang/invoke/MethodHandle" ∧ yX4_signBeforeRoot.cls ≠ "java/lang/invoke/VarHandle" ∧ (parseMethodDescriptor yX4_signBeforeRoot.desc).map (fun d => d.parameters.length) = some 1 := by decide +kernel
theorem hs_X4_signBeforeRoot : yX4_signBeforeRoot.cls ≠ "java/lang/invoke/MethodHandle" ∧ yX4_signBeforeRoot.cls ≠ "java/lang/invoke/VarHandle" ∧ (parseMethodDescriptor yX4_signBeforeRoot.desc).map (fun d => d.parameters.length) = some 1 := by decide +kernel
theorem kX3_fits_0 : Cond.fieldLink RX3 9 "FlowPlane$Polynomial" "numbers" "[I" ∈ wsX3_fits := by decide +kernel
theorem kX3_fits_1 : Cond.initialized RX7 ∈ wsX3_fits := by decide +kernel
theorem kX3_fits_2 : Cond.static yX7_isWithin ∈ wsX3_fits := by decide +kernel
theorem uX3_fits_X3 : ∀ w ∈ u_ws RX3 TX3 1, w ∈ wsX3_fits := by decide +kernel
def l_X3_fits_2 (fu : Nat → Int32) : Nat → Nat → Int32
  | 0, ki => 0
  | fu_X3_fits_2 + 1, ki => (if 6 ≤ (nI ki) then 1 else (if (f_X7_isWithin (fu ki) 4) = 0 then 0 else (l_X3_fits_2 fu fu_X3_fits_2 (ki + 1))))
def f_X3_fits (fu : Nat → Int32) : Int32 := (l_X3_fits_2 fu (6 + 1) 0)
theorem bl_X3_fits_2 (fu : Nat → Int32) : ∀ (fz : Nat) (q0 : Nat), (l_X3_fits_2 fu fz q0) = 0 ∨ (l_X3_fits_2 fu fz q0) = 1
  | 0, _ => Or.inl rfl
  | fz + 1, _ => by
    unfold l_X3_fits_2
    (repeat' split) <;> first | exact Or.inl (by with_reducible rfl) | exact Or.inr (by with_reducible rfl) | exact bl_X3_fits_2 _ fz _ | with_reducible exact b_X7_isWithin _ _
theorem b_X3_fits (fu : Nat → Int32) : (f_X3_fits fu) = 0 ∨ (f_X3_fits fu) = 1 := by
  unfold f_X3_fits; (repeat' split) <;> first | exact Or.inl (by with_reducible rfl) | exact Or.inr (by with_reducible rfl) | with_reducible exact b_X7_isWithin _ _ | with_reducible exact bl_X3_fits_2 _ _ _
set_option maxHeartbeats 400000000 in
set_option maxRecDepth 100000 in
theorem c_X3_fits (l : Launch) (D : va_G) (cy : Nat → ClassId) (ta : Nat) (tan : Nat) (fu : Nat → Int32) : yk_Ci l D vwCl (yk_ty cy) yX3_fits wsX3_fits 1 21 [.ref ta] [(ta, .inr (3, [.ref tan])), (tan, .inl (cy 0, 6, .inl fu))] (f_X3_fits fu) [(ta, .inr (3, [.ref tan])), (tan, .inl (cy 0, 6, .inl fu))] := by
  refine yk_eI (cc := cX3_fits) (maxL := 2) (by decide) rfl (Nat.le_of_ble_eq_true rfl) (yk_nb (b_X3_fits fu)) ?_
  intro p e R s m args below meth c A Q ls H locs hx hb hml hown hts hRf hRl hA hK hG hP hD hS hl hQ
  have hP : va_P D vwCl [(ta, .inr (3, [.ref tan])), (tan, .inl (cy 0, 6, .inl fu))] H := hP
  have hl : lv_has ls 2 [(0, .ref ta)] := hl
  have hown : s.vm.findClass RX3 = some m.cls := hown
  have hF : (f_X3_fits fu) = (f_X3_fits fu) := rfl
  refine lv_iconst (v := 0) hx hb dX3_fits_0 (by decide) ?_
  refine lv_istore_n (lv' := [(1, .int 0), (0, .ref ta)]) hx hb dX3_fits_1 rfl hl (by decide) rfl (fun ls hl9 => ?_)
  replace hl := hl9
  clear hl9
  have L2 : ∀ (M9 n2 ki : Nat) (H : Heap) (locs : List Loc) (ls : Array Slot), n2 < M9 → ki + n2 = 6 → f_X3_fits fu = (l_X3_fits_2 fu (n2 + 1) ki) → va_P D vwCl [(ta, .inr (3, [.ref tan])), (tan, .inl (cy 0, 6, .inl fu))] H → va_D A [(ta, .inr (3, [.ref tan])), (tan, .inl (cy 0, 6, .inl fu))] → va_S A s.heap H locs → lv_has ls 2 [(0, .ref ta), (1, .int (nI ki))] → W p l e R s m args below meth c H locs 0 0 Q (F0 m 2 ls []) := by
    clear hP hD hS hl hF
    intro M9
    induction M9 with
    | zero => intro n2 ki _ _ _ hn; exact absurd hn (Nat.not_lt_zero _)
    | succ M9 ih2 =>
      intro n2 ki H locs ls hn2 hk2 hF hP hD hS hl
      refine lv_iload_n hx hb dX3_fits_2 rfl (lv_at hl 1 rfl) ?_
      refine lv_bipush (v := 6) hx hb dX3_fits_3 (by decide) ?_
      refine lv_icmp_ge (tgt := 29) hx hb dX3_fits_5 (by decide) (fun hc1 => ?_) (fun hc1 => ?_)
      · replace hF := hF.trans (if_pos hc1)
        refine lv_iconst (v := 1) hx hb dX3_fits_29 (by decide) ?_
        have hF : f_X3_fits fu = 1 := hF
        rw [hF] at hQ
        exact hQ _ _ _ _ dX3_fits_30 hP hS
      · replace hF := hF.trans (if_neg hc1)
        have hlt2 : ki < 6 := yk_lt hk2 (by omega) hc1
        refine lv_aload_n hx hb dX3_fits_8 rfl (lv_at hl 0 rfl) ?_
        refine va_get (D := D) (ci := 3) (v := .ref tan) (C := RX3) (T := TX3) (N := 1) hx hb hts uX3_fits_X3 hown hK hP 0 rfl rfl 0 (by decide) (hts _ kX3_fits_0) (fun _ h9 => h9) rfl dX3_fits_9 ?_
        refine lv_iload_n hx hb dX3_fits_12 rfl (lv_at hl 1 rfl) ?_
        refine yk_ild hx hb hK hP 1 0 rfl rfl ki (by omega) (by decide) dX3_fits_13 ?_
        refine lv_iconst (v := 4) hx hb dX3_fits_14 (by decide) ?_
        refine yk_i [] (va_runSN (As := [.int (fu ki), .int 4]) (rest := []) ⟨hx, hb, hml, hown, hts⟩ (c_X7_isWithin l D cy (fu ki) 4 H.size) ⟨va_cnB 2 hts gX3_fits_X7_isWithin_n19 rfl rfl rfl hG.2.2.2 (hts _ kX3_fits_1) hs_X7_isWithin (yk_room hRf hRl rfl rfl), (hts _ kX3_fits_2), trivial⟩ (yk_ps hG hA hS hK hP hD [] (by decide +kernel) rfl) rfl rfl hl.1 rfl (lv_room (Nat.le_of_ble_eq_true rfl)) dX3_fits_15 ⟨Nat.zero_le _, Nat.zero_le _⟩) hP hD hS hA rfl rfl (fun H locs hP9 hD9 hS9 => ?_)
        replace hP : va_P D vwCl [(ta, .inr (3, [.ref tan])), (tan, .inl (cy 0, 6, .inl fu))] H := hP9
        replace hD : va_D A [(ta, .inr (3, [.ref tan])), (tan, .inl (cy 0, 6, .inl fu))] := hD9
        replace hS := hS9
        clear hP9 hD9 hS9
        refine lv_if_ne (tgt := 23) hx hb dX3_fits_18 (by decide) (fun hc2 => ?_) (fun hc2 => ?_)
        · replace hF := hF.trans (if_neg hc2)
          refine lv_iinc (v := nI (ki + 1)) (lv' := [(1, .int (nI (ki + 1))), (0, .ref ta)]) hx hb dX3_fits_23 hl (k := 1) rfl (yk_inc ki) (by decide) rfl (fun ls hl9 => ?_)
          replace hl := hl9
          clear hl9
          refine lv_goto (tgt := 2) hx hb dX3_fits_26 (by decide) ?_
          obtain ⟨n9, rfl⟩ : ∃ n9, n2 = n9 + 1 := ⟨n2 - 1, by omega⟩
          exact ih2 n9 (ki + 1) _ _ _ (by omega) (by omega)  hF hP hD hS (lv_sub hl [1, 0] rfl)
        · replace hF := hF.trans (if_pos hc2)
          refine lv_iconst (v := 0) hx hb dX3_fits_21 (by decide) ?_
          have hF : f_X3_fits fu = 0 := hF
          rw [hF] at hQ
          exact hQ _ _ _ _ dX3_fits_22 hP hS
  exact L2 (6 + 1) 6 0  _ _ _ (Nat.lt_succ_self _) (by omega)  hF hP hD hS (lv_sub hl [1, 0] rfl)

theorem kX3_countNotZero_0 : Cond.fieldLink RX3 9 "FlowPlane$Polynomial" "numbers" "[I" ∈ wsX3_countNotZero := by decide +kernel
theorem uX3_countNotZero_X3 : ∀ w ∈ u_ws RX3 TX3 1, w ∈ wsX3_countNotZero := by decide +kernel
def l_X3_countNotZero_4 (fu : Nat → Int32) : Nat → Nat → Int32 → Int32
  | 0, ki, z1_4 => z1_4
  | fu_X3_countNotZero_4 + 1, ki, z1_4 => (if 6 ≤ (nI ki) then z1_4 else (l_X3_countNotZero_4 fu fu_X3_countNotZero_4 (ki + 1) (if (fu ki) = 0 then z1_4 else (z1_4 + 1))))
def f_X3_countNotZero (fu : Nat → Int32) : Int32 := (l_X3_countNotZero_4 fu (6 + 1) 0 0)
set_option maxHeartbeats 400000000 in
set_option maxRecDepth 100000 in
theorem c_X3_countNotZero (l : Launch) (D : va_G) (cy : Nat → ClassId) (ta : Nat) (tan : Nat) (fu : Nat → Int32) : yk_Ci l D vwCl (yk_ty cy) yX3_countNotZero wsX3_countNotZero 0 0 [.ref ta] [(ta, .inr (3, [.ref tan])), (tan, .inl (cy 0, 6, .inl fu))] (f_X3_countNotZero fu) [(ta, .inr (3, [.ref tan])), (tan, .inl (cy 0, 6, .inl fu))] := by
  refine yk_eI (cc := cX3_countNotZero) (maxL := 3) (by decide) rfl (Nat.le_of_ble_eq_true rfl) rfl ?_
  intro p e R s m args below meth c A Q ls H locs hx hb hml hown hts hRf hRl hA hK hG hP hD hS hl hQ
  have hP : va_P D vwCl [(ta, .inr (3, [.ref tan])), (tan, .inl (cy 0, 6, .inl fu))] H := hP
  have hl : lv_has ls 3 [(0, .ref ta)] := hl
  have hown : s.vm.findClass RX3 = some m.cls := hown
  have hF : (f_X3_countNotZero fu) = (f_X3_countNotZero fu) := rfl
  refine lv_iconst (v := 0) hx hb dX3_countNotZero_0 (by decide) ?_
  refine lv_istore_n (lv' := [(1, .int 0), (0, .ref ta)]) hx hb dX3_countNotZero_1 rfl hl (by decide) rfl (fun ls hl9 => ?_)
  replace hl := hl9
  clear hl9
  refine lv_iconst (v := 0) hx hb dX3_countNotZero_2 (by decide) ?_
  refine lv_istore_n (lv' := [(2, .int 0), (1, .int 0), (0, .ref ta)]) hx hb dX3_countNotZero_3 rfl hl (by decide) rfl (fun ls hl9 => ?_)
  replace hl := hl9
  clear hl9
  have J5 : ∀ (H : Heap) (locs : List Loc) (ls : Array Slot), va_P D vwCl [(ta, .inr (3, [.ref tan])), (tan, .inl (cy 0, 6, .inl fu))] H → va_D A [(ta, .inr (3, [.ref tan])), (tan, .inl (cy 0, 6, .inl fu))] → va_S A s.heap H locs → lv_has ls 3 [(0, .ref ta), (1, .int (l_X3_countNotZero_4 fu (6 + 1) 0 0))] → W p l e R s m args below meth c H locs 0 0 Q (F0 m 28 ls []) := by
    clear hP hD hS hl
    intro H locs ls hP hD hS hl
    refine lv_iload_n hx hb dX3_countNotZero_28 rfl (lv_at hl 1 rfl) ?_
    have hF : f_X3_countNotZero fu = (l_X3_countNotZero_4 fu (6 + 1) 0 0) := hF
    rw [hF] at hQ
    exact hQ _ _ _ _ dX3_countNotZero_29 hP hS
  have L4 : ∀ (M9 n4 ki : Nat) (z1_4 : Int32) (H : Heap) (locs : List Loc) (ls : Array Slot), n4 < M9 → ki + n4 = 6 → (l_X3_countNotZero_4 fu (6 + 1) 0 0) = (l_X3_countNotZero_4 fu (n4 + 1) ki z1_4) → va_P D vwCl [(ta, .inr (3, [.ref tan])), (tan, .inl (cy 0, 6, .inl fu))] H → va_D A [(ta, .inr (3, [.ref tan])), (tan, .inl (cy 0, 6, .inl fu))] → va_S A s.heap H locs → lv_has ls 3 [(0, .ref ta), (1, .int z1_4), (2, .int (nI ki))] → W p l e R s m args below meth c H locs 0 0 Q (F0 m 4 ls []) := by
    clear hP hD hS hl
    intro M9
    induction M9 with
    | zero => intro n4 ki _ _ _ _ hn; exact absurd hn (Nat.not_lt_zero _)
    | succ M9 ih4 =>
      intro n4 ki z1_4 H locs ls hn4 hk4 hV4 hP hD hS hl
      refine lv_iload_n hx hb dX3_countNotZero_4 rfl (lv_at hl 2 rfl) ?_
      refine lv_bipush (v := 6) hx hb dX3_countNotZero_5 (by decide) ?_
      refine lv_icmp_ge (tgt := 28) hx hb dX3_countNotZero_7 (by decide) (fun hc1 => ?_) (fun hc1 => ?_)
      · replace hV4 := hV4.trans (if_pos hc1)
        have hV4 : (l_X3_countNotZero_4 fu (6 + 1) 0 0) = z1_4 := hV4
        have J5 := J5
        rw [hV4] at J5
        exact J5 _ _ _ hP hD hS (lv_sub hl [0, 1] rfl)
      · replace hV4 := hV4.trans (if_neg hc1)
        have hlt4 : ki < 6 := yk_lt hk4 (by omega) hc1
        refine lv_aload_n hx hb dX3_countNotZero_10 rfl (lv_at hl 0 rfl) ?_
        refine va_get (D := D) (ci := 3) (v := .ref tan) (C := RX3) (T := TX3) (N := 1) hx hb hts uX3_countNotZero_X3 hown hK hP 0 rfl rfl 0 (by decide) (hts _ kX3_countNotZero_0) (fun _ h9 => h9) rfl dX3_countNotZero_11 ?_
        refine lv_iload_n hx hb dX3_countNotZero_14 rfl (lv_at hl 2 rfl) ?_
        refine yk_ild hx hb hK hP 1 0 rfl rfl ki (by omega) (by decide) dX3_countNotZero_15 ?_
        have J4 : ∀ (v3 : Int32) (H : Heap) (locs : List Loc) (ls : Array Slot), v3 = (if (fu ki) = 0 then z1_4 else (z1_4 + 1)) → va_P D vwCl [(ta, .inr (3, [.ref tan])), (tan, .inl (cy 0, 6, .inl fu))] H → va_D A [(ta, .inr (3, [.ref tan])), (tan, .inl (cy 0, 6, .inl fu))] → va_S A s.heap H locs → lv_has ls 3 [(0, .ref ta), (1, .int v3), (2, .int (nI ki))] → W p l e R s m args below meth c H locs 0 0 Q (F0 m 22 ls []) := by
          clear hP hD hS hl
          intro v3 H locs ls ev3
          rw [ev3]
          clear ev3
          intro hP hD hS hl
          refine lv_iinc (v := nI (ki + 1)) (lv' := [(2, .int (nI (ki + 1))), (0, .ref ta), (1, .int (if (fu ki) = 0 then z1_4 else (z1_4 + 1)))]) hx hb dX3_countNotZero_22 hl (k := 2) rfl (yk_inc ki) (by decide) rfl (fun ls hl9 => ?_)
          replace hl := hl9
          clear hl9
          refine lv_goto (tgt := 4) hx hb dX3_countNotZero_25 (by decide) ?_
          obtain ⟨n9, rfl⟩ : ∃ n9, n4 = n9 + 1 := ⟨n4 - 1, by omega⟩
          exact ih4 n9 (ki + 1) (if (fu ki) = 0 then z1_4 else (z1_4 + 1)) _ _ _ (by omega) (by omega)  hV4 hP hD hS (lv_sub hl [1, 2, 0] rfl)
        refine lv_if_eq (tgt := 22) hx hb dX3_countNotZero_16 (by decide) (fun hc2 => ?_) (fun hc2 => ?_)
        · exact J4 _ _ _ _ ((if_pos hc2).symm) hP hD hS (lv_sub hl [0, 1, 2] rfl)
        · refine lv_iinc (v := (z1_4 + 1)) (lv' := [(1, .int (z1_4 + 1)), (0, .ref ta), (2, .int (nI ki))]) hx hb dX3_countNotZero_19 hl (k := 1) rfl (yk_incg _) (by decide) rfl (fun ls hl9 => ?_)
          replace hl := hl9
          clear hl9
          exact J4 _ _ _ _ ((if_neg hc2).symm) hP hD hS (lv_sub hl [1, 0, 2] rfl)
  exact L4 (6 + 1) 6 0 0 _ _ _ (Nat.lt_succ_self _) (by omega)  rfl hP hD hS (lv_sub hl [2, 1, 0] rfl)

theorem kX3_become_0 : Cond.fieldLink RX3 9 "FlowPlane$Polynomial" "numbers" "[I" ∈ wsX3_become := by decide +kernel
theorem kX3_become_1 : Cond.methodLink RX3 23 arraycopyName ∈ wsX3_become := by decide +kernel
theorem kX3_become_2 : Cond.native arraycopyName ∈ wsX3_become := by decide +kernel
theorem kX3_become_3 : Cond.static arraycopyName ∈ wsX3_become := by decide +kernel
theorem kX3_become_4 : Cond.initialized "java/lang/System" ∈ wsX3_become := by decide +kernel
theorem uX3_become_X3 : ∀ w ∈ u_ws RX3 TX3 1, w ∈ wsX3_become := by decide +kernel
def f_X3_become (fu : Nat → Int32) (gu : Nat → Int32) : (Nat → Int32) := (va_cpy gu fu 0 0 6)
set_option maxHeartbeats 400000000 in
set_option maxRecDepth 100000 in
theorem c_X3_become (l : Launch) (D : va_G) (cy : Nat → ClassId) (ta : Nat) (tan : Nat) (oa : Nat) (oan : Nat) (fu : Nat → Int32) (gu : Nat → Int32) : yk_Cv l D vwCl (yk_ty cy) yX3_become wsX3_become 1 18 [.ref ta, .ref oa] [(ta, .inr (3, [.ref tan])), (tan, .inl (cy 0, 6, .inl fu)), (oa, .inr (3, [.ref oan])), (oan, .inl (cy 0, 6, .inl gu))] [(ta, .inr (3, [.ref tan])), (tan, .inl (cy 0, 6, .inl (f_X3_become fu gu))), (oa, .inr (3, [.ref oan])), (oan, .inl (cy 0, 6, .inl gu))] := by
  refine yk_eV (cc := cX3_become) (maxL := 2) (by decide) rfl (Nat.le_of_ble_eq_true rfl) ?_
  intro p e R s m args below meth c A Q ls H locs hx hb hml hown hts hRf hRl hA hK hG hP hD hS hl hQ
  have hP : va_P D vwCl [(ta, .inr (3, [.ref tan])), (tan, .inl (cy 0, 6, .inl fu)), (oa, .inr (3, [.ref oan])), (oan, .inl (cy 0, 6, .inl gu))] H := hP
  have hl : lv_has ls 2 [(0, .ref ta), (1, .ref oa)] := hl
  have hown : s.vm.findClass RX3 = some m.cls := hown
  have hF : (f_X3_become fu gu) = (f_X3_become fu gu) := rfl
  refine lv_aload_n hx hb dX3_become_0 rfl (lv_at hl 1 rfl) ?_
  refine va_get (D := D) (ci := 3) (v := .ref oan) (C := RX3) (T := TX3) (N := 1) hx hb hts uX3_become_X3 hown hK hP 2 rfl rfl 0 (by decide) (hts _ kX3_become_0) (fun _ h9 => h9) rfl dX3_become_1 ?_
  refine lv_iconst (v := 0) hx hb dX3_become_4 (by decide) ?_
  refine lv_aload_n hx hb dX3_become_5 rfl (lv_at hl 0 rfl) ?_
  refine va_get (D := D) (ci := 3) (v := .ref tan) (C := RX3) (T := TX3) (N := 1) hx hb hts uX3_become_X3 hown hK hP 0 rfl rfl 0 (by decide) (hts _ kX3_become_0) (fun _ h9 => h9) rfl dX3_become_6 ?_
  refine lv_iconst (v := 0) hx hb dX3_become_9 (by decide) ?_
  refine lv_bipush (v := 6) hx hb dX3_become_10 (by decide) ?_
  refine yk_cpy (sp := 0) (dp := 0) (n := 6) hx hb (hml.trans hl.1.symm) hown (hts _ kX3_become_1) (hts _ kX3_become_2) (hts _ kX3_become_3) (hts _ kX3_become_4) hK hP hD hS 3 1 rfl rfl rfl rfl (⟨by omega, by omega⟩) (by omega) (by omega) (by rw [hRf]; exact Nat.le_of_ble_eq_true rfl) (by rw [hRl]; exact Nat.le_of_ble_eq_true rfl) dX3_become_12 (fun H locs hP9 hD9 hS9 => ?_)
  replace hP : va_P D vwCl [(ta, .inr (3, [.ref tan])), (tan, .inl (cy 0, 6, .inl (va_cpy gu fu 0 0 6))), (oa, .inr (3, [.ref oan])), (oan, .inl (cy 0, 6, .inl gu))] H := hP9
  replace hD : va_D A [(ta, .inr (3, [.ref tan])), (tan, .inl (cy 0, 6, .inl (va_cpy gu fu 0 0 6))), (oa, .inr (3, [.ref oan])), (oan, .inl (cy 0, 6, .inl gu))] := hD9
  replace hS := hS9
  clear hP9 hD9 hS9
  have hF : f_X3_become fu gu = (va_cpy gu fu 0 0 6) := hF
  rw [hF] at hQ
  exact hQ _ _ _ _ dX3_become_15 hP hS

theorem kX3_negatedFrom_0 : Cond.fieldLink RX3 9 "FlowPlane$Polynomial" "numbers" "[I" ∈ wsX3_negatedFrom := by decide +kernel
theorem uX3_negatedFrom_X3 : ∀ w ∈ u_ws RX3 TX3 1, w ∈ wsX3_negatedFrom := by decide +kernel
def l_X3_negatedFrom_2 (fu : Nat → Int32) (gu : Nat → Int32) : Nat → Nat → (Nat → Int32) → (Nat → Int32)
  | 0, ki, zTn_2 => zTn_2
  | fu_X3_negatedFrom_2 + 1, ki, zTn_2 => (if 6 ≤ (nI ki) then zTn_2 else (l_X3_negatedFrom_2 fu gu fu_X3_negatedFrom_2 (ki + 1) (upd zTn_2 ki (-(gu ki)))))
def f_X3_negatedFrom (fu : Nat → Int32) (gu : Nat → Int32) : (Nat → Int32) := (l_X3_negatedFrom_2 fu gu (6 + 1) 0 fu)
set_option maxHeartbeats 400000000 in
set_option maxRecDepth 100000 in
theorem c_X3_negatedFrom (l : Launch) (D : va_G) (cy : Nat → ClassId) (ta : Nat) (tan : Nat) (oa : Nat) (oan : Nat) (fu : Nat → Int32) (gu : Nat → Int32) : yk_Cv l D vwCl (yk_ty cy) yX3_negatedFrom wsX3_negatedFrom 0 0 [.ref ta, .ref oa] [(ta, .inr (3, [.ref tan])), (tan, .inl (cy 0, 6, .inl fu)), (oa, .inr (3, [.ref oan])), (oan, .inl (cy 0, 6, .inl gu))] [(ta, .inr (3, [.ref tan])), (tan, .inl (cy 0, 6, .inl (f_X3_negatedFrom fu gu))), (oa, .inr (3, [.ref oan])), (oan, .inl (cy 0, 6, .inl gu))] := by
  refine yk_eV (cc := cX3_negatedFrom) (maxL := 3) (by decide) rfl (Nat.le_of_ble_eq_true rfl) ?_
  intro p e R s m args below meth c A Q ls H locs hx hb hml hown hts hRf hRl hA hK hG hP hD hS hl hQ
  have hP : va_P D vwCl [(ta, .inr (3, [.ref tan])), (tan, .inl (cy 0, 6, .inl fu)), (oa, .inr (3, [.ref oan])), (oan, .inl (cy 0, 6, .inl gu))] H := hP
  have hl : lv_has ls 3 [(0, .ref ta), (1, .ref oa)] := hl
  have hown : s.vm.findClass RX3 = some m.cls := hown
  have hF : (f_X3_negatedFrom fu gu) = (f_X3_negatedFrom fu gu) := rfl
  refine lv_iconst (v := 0) hx hb dX3_negatedFrom_0 (by decide) ?_
  refine lv_istore_n (lv' := [(2, .int 0), (0, .ref ta), (1, .ref oa)]) hx hb dX3_negatedFrom_1 rfl hl (by decide) rfl (fun ls hl9 => ?_)
  replace hl := hl9
  clear hl9
  have J3 : ∀ (H : Heap) (locs : List Loc) (ls : Array Slot), va_P D vwCl [(ta, .inr (3, [.ref tan])), (tan, .inl (cy 0, 6, .inl (l_X3_negatedFrom_2 fu gu (6 + 1) 0 fu))), (oa, .inr (3, [.ref oan])), (oan, .inl (cy 0, 6, .inl gu))] H → va_D A [(ta, .inr (3, [.ref tan])), (tan, .inl (cy 0, 6, .inl (l_X3_negatedFrom_2 fu gu (6 + 1) 0 fu))), (oa, .inr (3, [.ref oan])), (oan, .inl (cy 0, 6, .inl gu))] → va_S A s.heap H locs → lv_has ls 3 [(0, .ref ta), (1, .ref oa)] → W p l e R s m args below meth c H locs 0 0 Q (F0 m 27 ls []) := by
    clear hP hD hS hl
    intro H locs ls hP hD hS hl
    have hF : f_X3_negatedFrom fu gu = (l_X3_negatedFrom_2 fu gu (6 + 1) 0 fu) := hF
    rw [hF] at hQ
    exact hQ _ _ _ _ dX3_negatedFrom_27 hP hS
  have L2 : ∀ (M9 n2 ki : Nat) (zTn_2 : Nat → Int32) (H : Heap) (locs : List Loc) (ls : Array Slot), n2 < M9 → ki + n2 = 6 → (l_X3_negatedFrom_2 fu gu (6 + 1) 0 fu) = (l_X3_negatedFrom_2 fu gu (n2 + 1) ki zTn_2) → va_P D vwCl [(ta, .inr (3, [.ref tan])), (tan, .inl (cy 0, 6, .inl zTn_2)), (oa, .inr (3, [.ref oan])), (oan, .inl (cy 0, 6, .inl gu))] H → va_D A [(ta, .inr (3, [.ref tan])), (tan, .inl (cy 0, 6, .inl zTn_2)), (oa, .inr (3, [.ref oan])), (oan, .inl (cy 0, 6, .inl gu))] → va_S A s.heap H locs → lv_has ls 3 [(0, .ref ta), (1, .ref oa), (2, .int (nI ki))] → W p l e R s m args below meth c H locs 0 0 Q (F0 m 2 ls []) := by
    clear hP hD hS hl
    intro M9
    induction M9 with
    | zero => intro n2 ki _ _ _ _ hn; exact absurd hn (Nat.not_lt_zero _)
    | succ M9 ih2 =>
      intro n2 ki zTn_2 H locs ls hn2 hk2 hV2 hP hD hS hl
      refine lv_iload_n hx hb dX3_negatedFrom_2 rfl (lv_at hl 2 rfl) ?_
      refine lv_bipush (v := 6) hx hb dX3_negatedFrom_3 (by decide) ?_
      refine lv_icmp_ge (tgt := 27) hx hb dX3_negatedFrom_5 (by decide) (fun hc2 => ?_) (fun hc2 => ?_)
      · replace hV2 := hV2.trans (if_pos hc2)
        have hV2 : (l_X3_negatedFrom_2 fu gu (6 + 1) 0 fu) = zTn_2 := hV2
        have J3 := J3
        rw [hV2] at J3
        exact J3 _ _ _ hP hD hS (lv_sub hl [0, 1] rfl)
      · replace hV2 := hV2.trans (if_neg hc2)
        have hlt2 : ki < 6 := yk_lt hk2 (by omega) hc2
        refine lv_aload_n hx hb dX3_negatedFrom_8 rfl (lv_at hl 0 rfl) ?_
        refine va_get (D := D) (ci := 3) (v := .ref tan) (C := RX3) (T := TX3) (N := 1) hx hb hts uX3_negatedFrom_X3 hown hK hP 0 rfl rfl 0 (by decide) (hts _ kX3_negatedFrom_0) (fun _ h9 => h9) rfl dX3_negatedFrom_9 ?_
        refine lv_iload_n hx hb dX3_negatedFrom_12 rfl (lv_at hl 2 rfl) ?_
        refine lv_aload_n hx hb dX3_negatedFrom_13 rfl (lv_at hl 1 rfl) ?_
        refine va_get (D := D) (ci := 3) (v := .ref oan) (C := RX3) (T := TX3) (N := 1) hx hb hts uX3_negatedFrom_X3 hown hK hP 2 rfl rfl 0 (by decide) (hts _ kX3_negatedFrom_0) (fun _ h9 => h9) rfl dX3_negatedFrom_14 ?_
        refine lv_iload_n hx hb dX3_negatedFrom_17 rfl (lv_at hl 2 rfl) ?_
        refine yk_ild hx hb hK hP 3 0 rfl rfl ki (by omega) (by decide) dX3_negatedFrom_18 ?_
        refine lv_ineg hx hb dX3_negatedFrom_19 ?_
        refine yk_ist hx hb hK hP hD hS 1 0 rfl rfl ki (by omega) (by decide) dX3_negatedFrom_20 (fun H locs hP9 hD9 hS9 => ?_)
        replace hP : va_P D vwCl [(ta, .inr (3, [.ref tan])), (tan, .inl (cy 0, 6, .inl (upd zTn_2 ki (-(gu ki))))), (oa, .inr (3, [.ref oan])), (oan, .inl (cy 0, 6, .inl gu))] H := hP9
        replace hD : va_D A [(ta, .inr (3, [.ref tan])), (tan, .inl (cy 0, 6, .inl (upd zTn_2 ki (-(gu ki))))), (oa, .inr (3, [.ref oan])), (oan, .inl (cy 0, 6, .inl gu))] := hD9
        replace hS := hS9
        clear hP9 hD9 hS9
        refine lv_iinc (v := nI (ki + 1)) (lv' := [(2, .int (nI (ki + 1))), (0, .ref ta), (1, .ref oa)]) hx hb dX3_negatedFrom_21 hl (k := 2) rfl (yk_inc ki) (by decide) rfl (fun ls hl9 => ?_)
        replace hl := hl9
        clear hl9
        refine lv_goto (tgt := 2) hx hb dX3_negatedFrom_24 (by decide) ?_
        obtain ⟨n9, rfl⟩ : ∃ n9, n2 = n9 + 1 := ⟨n2 - 1, by omega⟩
        exact ih2 n9 (ki + 1) (upd zTn_2 ki (-(gu ki))) _ _ _ (by omega) (by omega)  hV2 hP hD hS (lv_sub hl [1, 2, 0] rfl)
  exact L2 (6 + 1) 6 0 fu _ _ _ (Nat.lt_succ_self _) (by omega)  rfl hP hD hS (lv_sub hl [1, 2, 0] rfl)

theorem kX3_turnedFrom_0 : Cond.fieldLink RX3 9 "FlowPlane$Polynomial" "numbers" "[I" ∈ wsX3_turnedFrom := by decide +kernel
theorem uX3_turnedFrom_X3 : ∀ w ∈ u_ws RX3 TX3 1, w ∈ wsX3_turnedFrom := by decide +kernel
def f_X3_turnedFrom (fu : Nat → Int32) (gu : Nat → Int32) (x : Int32) : (Nat → Int32) := (upd (upd (upd (upd (upd (upd fu 0 (x * (gu 0))) 1 ((-x) * (gu 2))) 2 (x * (gu 1))) 3 (x * (gu 5))) 4 ((-x) * (gu 4))) 5 (x * (gu 3)))
set_option maxHeartbeats 400000000 in
set_option maxRecDepth 100000 in
theorem c_X3_turnedFrom (l : Launch) (D : va_G) (cy : Nat → ClassId) (ta : Nat) (tan : Nat) (oa : Nat) (oan : Nat) (fu : Nat → Int32) (gu : Nat → Int32) (x : Int32) : yk_Cv l D vwCl (yk_ty cy) yX3_turnedFrom wsX3_turnedFrom 0 0 [.ref ta, .ref oa, .int x] [(ta, .inr (3, [.ref tan])), (tan, .inl (cy 0, 6, .inl fu)), (oa, .inr (3, [.ref oan])), (oan, .inl (cy 0, 6, .inl gu))] [(ta, .inr (3, [.ref tan])), (tan, .inl (cy 0, 6, .inl (f_X3_turnedFrom fu gu x))), (oa, .inr (3, [.ref oan])), (oan, .inl (cy 0, 6, .inl gu))] := by
  refine yk_eV (cc := cX3_turnedFrom) (maxL := 3) (by decide) rfl (Nat.le_of_ble_eq_true rfl) ?_
  intro p e R s m args below meth c A Q ls H locs hx hb hml hown hts hRf hRl hA hK hG hP hD hS hl hQ
  have hP : va_P D vwCl [(ta, .inr (3, [.ref tan])), (tan, .inl (cy 0, 6, .inl fu)), (oa, .inr (3, [.ref oan])), (oan, .inl (cy 0, 6, .inl gu))] H := hP
  have hl : lv_has ls 3 [(0, .ref ta), (1, .ref oa), (2, .int x)] := hl
  have hown : s.vm.findClass RX3 = some m.cls := hown
  have hF : (f_X3_turnedFrom fu gu x) = (f_X3_turnedFrom fu gu x) := rfl
  refine lv_aload_n hx hb dX3_turnedFrom_0 rfl (lv_at hl 0 rfl) ?_
  refine va_get (D := D) (ci := 3) (v := .ref tan) (C := RX3) (T := TX3) (N := 1) hx hb hts uX3_turnedFrom_X3 hown hK hP 0 rfl rfl 0 (by decide) (hts _ kX3_turnedFrom_0) (fun _ h9 => h9) rfl dX3_turnedFrom_1 ?_
  refine lv_iconst (v := 0) hx hb dX3_turnedFrom_4 (by decide) ?_
  refine lv_iload_n hx hb dX3_turnedFrom_5 rfl (lv_at hl 2 rfl) ?_
  refine lv_aload_n hx hb dX3_turnedFrom_6 rfl (lv_at hl 1 rfl) ?_
  refine va_get (D := D) (ci := 3) (v := .ref oan) (C := RX3) (T := TX3) (N := 1) hx hb hts uX3_turnedFrom_X3 hown hK hP 2 rfl rfl 0 (by decide) (hts _ kX3_turnedFrom_0) (fun _ h9 => h9) rfl dX3_turnedFrom_7 ?_
  refine lv_iconst (v := 0) hx hb dX3_turnedFrom_10 (by decide) ?_
  refine yk_ild hx hb hK hP 3 0 rfl rfl 0 (by omega) (by decide) dX3_turnedFrom_11 ?_
  refine lv_imul hx hb dX3_turnedFrom_12 ?_
  refine yk_ist hx hb hK hP hD hS 1 0 rfl rfl 0 (by omega) (by decide) dX3_turnedFrom_13 (fun H locs hP9 hD9 hS9 => ?_)
  replace hP : va_P D vwCl [(ta, .inr (3, [.ref tan])), (tan, .inl (cy 0, 6, .inl (upd fu 0 (x * (gu 0))))), (oa, .inr (3, [.ref oan])), (oan, .inl (cy 0, 6, .inl gu))] H := hP9
  replace hD : va_D A [(ta, .inr (3, [.ref tan])), (tan, .inl (cy 0, 6, .inl (upd fu 0 (x * (gu 0))))), (oa, .inr (3, [.ref oan])), (oan, .inl (cy 0, 6, .inl gu))] := hD9
  replace hS := hS9
  clear hP9 hD9 hS9
  refine lv_aload_n hx hb dX3_turnedFrom_14 rfl (lv_at hl 0 rfl) ?_
  refine va_get (D := D) (ci := 3) (v := .ref tan) (C := RX3) (T := TX3) (N := 1) hx hb hts uX3_turnedFrom_X3 hown hK hP 0 rfl rfl 0 (by decide) (hts _ kX3_turnedFrom_0) (fun _ h9 => h9) rfl dX3_turnedFrom_15 ?_
  refine lv_iconst (v := 1) hx hb dX3_turnedFrom_18 (by decide) ?_
  refine lv_iload_n hx hb dX3_turnedFrom_19 rfl (lv_at hl 2 rfl) ?_
  refine lv_ineg hx hb dX3_turnedFrom_20 ?_
  refine lv_aload_n hx hb dX3_turnedFrom_21 rfl (lv_at hl 1 rfl) ?_
  refine va_get (D := D) (ci := 3) (v := .ref oan) (C := RX3) (T := TX3) (N := 1) hx hb hts uX3_turnedFrom_X3 hown hK hP 2 rfl rfl 0 (by decide) (hts _ kX3_turnedFrom_0) (fun _ h9 => h9) rfl dX3_turnedFrom_22 ?_
  refine lv_iconst (v := 2) hx hb dX3_turnedFrom_25 (by decide) ?_
  refine yk_ild hx hb hK hP 3 0 rfl rfl 2 (by omega) (by decide) dX3_turnedFrom_26 ?_
  refine lv_imul hx hb dX3_turnedFrom_27 ?_
  refine yk_ist hx hb hK hP hD hS 1 0 rfl rfl 1 (by omega) (by decide) dX3_turnedFrom_28 (fun H locs hP9 hD9 hS9 => ?_)
  replace hP : va_P D vwCl [(ta, .inr (3, [.ref tan])), (tan, .inl (cy 0, 6, .inl (upd (upd fu 0 (x * (gu 0))) 1 ((-x) * (gu 2))))), (oa, .inr (3, [.ref oan])), (oan, .inl (cy 0, 6, .inl gu))] H := hP9
  replace hD : va_D A [(ta, .inr (3, [.ref tan])), (tan, .inl (cy 0, 6, .inl (upd (upd fu 0 (x * (gu 0))) 1 ((-x) * (gu 2))))), (oa, .inr (3, [.ref oan])), (oan, .inl (cy 0, 6, .inl gu))] := hD9
  replace hS := hS9
  clear hP9 hD9 hS9
  refine lv_aload_n hx hb dX3_turnedFrom_29 rfl (lv_at hl 0 rfl) ?_
  refine va_get (D := D) (ci := 3) (v := .ref tan) (C := RX3) (T := TX3) (N := 1) hx hb hts uX3_turnedFrom_X3 hown hK hP 0 rfl rfl 0 (by decide) (hts _ kX3_turnedFrom_0) (fun _ h9 => h9) rfl dX3_turnedFrom_30 ?_
  refine lv_iconst (v := 2) hx hb dX3_turnedFrom_33 (by decide) ?_
  refine lv_iload_n hx hb dX3_turnedFrom_34 rfl (lv_at hl 2 rfl) ?_
  refine lv_aload_n hx hb dX3_turnedFrom_35 rfl (lv_at hl 1 rfl) ?_
  refine va_get (D := D) (ci := 3) (v := .ref oan) (C := RX3) (T := TX3) (N := 1) hx hb hts uX3_turnedFrom_X3 hown hK hP 2 rfl rfl 0 (by decide) (hts _ kX3_turnedFrom_0) (fun _ h9 => h9) rfl dX3_turnedFrom_36 ?_
  refine lv_iconst (v := 1) hx hb dX3_turnedFrom_39 (by decide) ?_
  refine yk_ild hx hb hK hP 3 0 rfl rfl 1 (by omega) (by decide) dX3_turnedFrom_40 ?_
  refine lv_imul hx hb dX3_turnedFrom_41 ?_
  refine yk_ist hx hb hK hP hD hS 1 0 rfl rfl 2 (by omega) (by decide) dX3_turnedFrom_42 (fun H locs hP9 hD9 hS9 => ?_)
  replace hP : va_P D vwCl [(ta, .inr (3, [.ref tan])), (tan, .inl (cy 0, 6, .inl (upd (upd (upd fu 0 (x * (gu 0))) 1 ((-x) * (gu 2))) 2 (x * (gu 1))))), (oa, .inr (3, [.ref oan])), (oan, .inl (cy 0, 6, .inl gu))] H := hP9
  replace hD : va_D A [(ta, .inr (3, [.ref tan])), (tan, .inl (cy 0, 6, .inl (upd (upd (upd fu 0 (x * (gu 0))) 1 ((-x) * (gu 2))) 2 (x * (gu 1))))), (oa, .inr (3, [.ref oan])), (oan, .inl (cy 0, 6, .inl gu))] := hD9
  replace hS := hS9
  clear hP9 hD9 hS9
  refine lv_aload_n hx hb dX3_turnedFrom_43 rfl (lv_at hl 0 rfl) ?_
  refine va_get (D := D) (ci := 3) (v := .ref tan) (C := RX3) (T := TX3) (N := 1) hx hb hts uX3_turnedFrom_X3 hown hK hP 0 rfl rfl 0 (by decide) (hts _ kX3_turnedFrom_0) (fun _ h9 => h9) rfl dX3_turnedFrom_44 ?_
  refine lv_iconst (v := 3) hx hb dX3_turnedFrom_47 (by decide) ?_
  refine lv_iload_n hx hb dX3_turnedFrom_48 rfl (lv_at hl 2 rfl) ?_
  refine lv_aload_n hx hb dX3_turnedFrom_49 rfl (lv_at hl 1 rfl) ?_
  refine va_get (D := D) (ci := 3) (v := .ref oan) (C := RX3) (T := TX3) (N := 1) hx hb hts uX3_turnedFrom_X3 hown hK hP 2 rfl rfl 0 (by decide) (hts _ kX3_turnedFrom_0) (fun _ h9 => h9) rfl dX3_turnedFrom_50 ?_
  refine lv_iconst (v := 5) hx hb dX3_turnedFrom_53 (by decide) ?_
  refine yk_ild hx hb hK hP 3 0 rfl rfl 5 (by omega) (by decide) dX3_turnedFrom_54 ?_
  refine lv_imul hx hb dX3_turnedFrom_55 ?_
  refine yk_ist hx hb hK hP hD hS 1 0 rfl rfl 3 (by omega) (by decide) dX3_turnedFrom_56 (fun H locs hP9 hD9 hS9 => ?_)
  replace hP : va_P D vwCl [(ta, .inr (3, [.ref tan])), (tan, .inl (cy 0, 6, .inl (upd (upd (upd (upd fu 0 (x * (gu 0))) 1 ((-x) * (gu 2))) 2 (x * (gu 1))) 3 (x * (gu 5))))), (oa, .inr (3, [.ref oan])), (oan, .inl (cy 0, 6, .inl gu))] H := hP9
  replace hD : va_D A [(ta, .inr (3, [.ref tan])), (tan, .inl (cy 0, 6, .inl (upd (upd (upd (upd fu 0 (x * (gu 0))) 1 ((-x) * (gu 2))) 2 (x * (gu 1))) 3 (x * (gu 5))))), (oa, .inr (3, [.ref oan])), (oan, .inl (cy 0, 6, .inl gu))] := hD9
  replace hS := hS9
  clear hP9 hD9 hS9
  refine lv_aload_n hx hb dX3_turnedFrom_57 rfl (lv_at hl 0 rfl) ?_
  refine va_get (D := D) (ci := 3) (v := .ref tan) (C := RX3) (T := TX3) (N := 1) hx hb hts uX3_turnedFrom_X3 hown hK hP 0 rfl rfl 0 (by decide) (hts _ kX3_turnedFrom_0) (fun _ h9 => h9) rfl dX3_turnedFrom_58 ?_
  refine lv_iconst (v := 4) hx hb dX3_turnedFrom_61 (by decide) ?_
  refine lv_iload_n hx hb dX3_turnedFrom_62 rfl (lv_at hl 2 rfl) ?_
  refine lv_ineg hx hb dX3_turnedFrom_63 ?_
  refine lv_aload_n hx hb dX3_turnedFrom_64 rfl (lv_at hl 1 rfl) ?_
  refine va_get (D := D) (ci := 3) (v := .ref oan) (C := RX3) (T := TX3) (N := 1) hx hb hts uX3_turnedFrom_X3 hown hK hP 2 rfl rfl 0 (by decide) (hts _ kX3_turnedFrom_0) (fun _ h9 => h9) rfl dX3_turnedFrom_65 ?_
  refine lv_iconst (v := 4) hx hb dX3_turnedFrom_68 (by decide) ?_
  refine yk_ild hx hb hK hP 3 0 rfl rfl 4 (by omega) (by decide) dX3_turnedFrom_69 ?_
  refine lv_imul hx hb dX3_turnedFrom_70 ?_
  refine yk_ist hx hb hK hP hD hS 1 0 rfl rfl 4 (by omega) (by decide) dX3_turnedFrom_71 (fun H locs hP9 hD9 hS9 => ?_)
  replace hP : va_P D vwCl [(ta, .inr (3, [.ref tan])), (tan, .inl (cy 0, 6, .inl (upd (upd (upd (upd (upd fu 0 (x * (gu 0))) 1 ((-x) * (gu 2))) 2 (x * (gu 1))) 3 (x * (gu 5))) 4 ((-x) * (gu 4))))), (oa, .inr (3, [.ref oan])), (oan, .inl (cy 0, 6, .inl gu))] H := hP9
  replace hD : va_D A [(ta, .inr (3, [.ref tan])), (tan, .inl (cy 0, 6, .inl (upd (upd (upd (upd (upd fu 0 (x * (gu 0))) 1 ((-x) * (gu 2))) 2 (x * (gu 1))) 3 (x * (gu 5))) 4 ((-x) * (gu 4))))), (oa, .inr (3, [.ref oan])), (oan, .inl (cy 0, 6, .inl gu))] := hD9
  replace hS := hS9
  clear hP9 hD9 hS9
  refine lv_aload_n hx hb dX3_turnedFrom_72 rfl (lv_at hl 0 rfl) ?_
  refine va_get (D := D) (ci := 3) (v := .ref tan) (C := RX3) (T := TX3) (N := 1) hx hb hts uX3_turnedFrom_X3 hown hK hP 0 rfl rfl 0 (by decide) (hts _ kX3_turnedFrom_0) (fun _ h9 => h9) rfl dX3_turnedFrom_73 ?_
  refine lv_iconst (v := 5) hx hb dX3_turnedFrom_76 (by decide) ?_
  refine lv_iload_n hx hb dX3_turnedFrom_77 rfl (lv_at hl 2 rfl) ?_
  refine lv_aload_n hx hb dX3_turnedFrom_78 rfl (lv_at hl 1 rfl) ?_
  refine va_get (D := D) (ci := 3) (v := .ref oan) (C := RX3) (T := TX3) (N := 1) hx hb hts uX3_turnedFrom_X3 hown hK hP 2 rfl rfl 0 (by decide) (hts _ kX3_turnedFrom_0) (fun _ h9 => h9) rfl dX3_turnedFrom_79 ?_
  refine lv_iconst (v := 3) hx hb dX3_turnedFrom_82 (by decide) ?_
  refine yk_ild hx hb hK hP 3 0 rfl rfl 3 (by omega) (by decide) dX3_turnedFrom_83 ?_
  refine lv_imul hx hb dX3_turnedFrom_84 ?_
  refine yk_ist hx hb hK hP hD hS 1 0 rfl rfl 5 (by omega) (by decide) dX3_turnedFrom_85 (fun H locs hP9 hD9 hS9 => ?_)
  replace hP : va_P D vwCl [(ta, .inr (3, [.ref tan])), (tan, .inl (cy 0, 6, .inl (upd (upd (upd (upd (upd (upd fu 0 (x * (gu 0))) 1 ((-x) * (gu 2))) 2 (x * (gu 1))) 3 (x * (gu 5))) 4 ((-x) * (gu 4))) 5 (x * (gu 3))))), (oa, .inr (3, [.ref oan])), (oan, .inl (cy 0, 6, .inl gu))] H := hP9
  replace hD : va_D A [(ta, .inr (3, [.ref tan])), (tan, .inl (cy 0, 6, .inl (upd (upd (upd (upd (upd (upd fu 0 (x * (gu 0))) 1 ((-x) * (gu 2))) 2 (x * (gu 1))) 3 (x * (gu 5))) 4 ((-x) * (gu 4))) 5 (x * (gu 3))))), (oa, .inr (3, [.ref oan])), (oan, .inl (cy 0, 6, .inl gu))] := hD9
  replace hS := hS9
  clear hP9 hD9 hS9
  have hF : f_X3_turnedFrom fu gu x = (upd (upd (upd (upd (upd (upd fu 0 (x * (gu 0))) 1 ((-x) * (gu 2))) 2 (x * (gu 1))) 3 (x * (gu 5))) 4 ((-x) * (gu 4))) 5 (x * (gu 3))) := hF
  rw [hF] at hQ
  exact hQ _ _ _ _ dX3_turnedFrom_86 hP hS

theorem kX3_mirroredFrom_0 : Cond.fieldLink RX3 9 "FlowPlane$Polynomial" "numbers" "[I" ∈ wsX3_mirroredFrom := by decide +kernel
theorem uX3_mirroredFrom_X3 : ∀ w ∈ u_ws RX3 TX3 1, w ∈ wsX3_mirroredFrom := by decide +kernel
def f_X3_mirroredFrom (fu : Nat → Int32) (gu : Nat → Int32) (x : Int32) : (Nat → Int32) := (upd (upd (upd (upd (upd (upd fu 0 (x * (gu 0))) 1 ((-x) * (gu 1))) 2 (x * (gu 2))) 3 (x * (gu 3))) 4 ((-x) * (gu 4))) 5 (x * (gu 5)))
set_option maxHeartbeats 400000000 in
set_option maxRecDepth 100000 in
theorem c_X3_mirroredFrom (l : Launch) (D : va_G) (cy : Nat → ClassId) (ta : Nat) (tan : Nat) (oa : Nat) (oan : Nat) (fu : Nat → Int32) (gu : Nat → Int32) (x : Int32) : yk_Cv l D vwCl (yk_ty cy) yX3_mirroredFrom wsX3_mirroredFrom 0 0 [.ref ta, .ref oa, .int x] [(ta, .inr (3, [.ref tan])), (tan, .inl (cy 0, 6, .inl fu)), (oa, .inr (3, [.ref oan])), (oan, .inl (cy 0, 6, .inl gu))] [(ta, .inr (3, [.ref tan])), (tan, .inl (cy 0, 6, .inl (f_X3_mirroredFrom fu gu x))), (oa, .inr (3, [.ref oan])), (oan, .inl (cy 0, 6, .inl gu))] := by
  refine yk_eV (cc := cX3_mirroredFrom) (maxL := 3) (by decide) rfl (Nat.le_of_ble_eq_true rfl) ?_
  intro p e R s m args below meth c A Q ls H locs hx hb hml hown hts hRf hRl hA hK hG hP hD hS hl hQ
  have hP : va_P D vwCl [(ta, .inr (3, [.ref tan])), (tan, .inl (cy 0, 6, .inl fu)), (oa, .inr (3, [.ref oan])), (oan, .inl (cy 0, 6, .inl gu))] H := hP
  have hl : lv_has ls 3 [(0, .ref ta), (1, .ref oa), (2, .int x)] := hl
  have hown : s.vm.findClass RX3 = some m.cls := hown
  have hF : (f_X3_mirroredFrom fu gu x) = (f_X3_mirroredFrom fu gu x) := rfl
  refine lv_aload_n hx hb dX3_mirroredFrom_0 rfl (lv_at hl 0 rfl) ?_
  refine va_get (D := D) (ci := 3) (v := .ref tan) (C := RX3) (T := TX3) (N := 1) hx hb hts uX3_mirroredFrom_X3 hown hK hP 0 rfl rfl 0 (by decide) (hts _ kX3_mirroredFrom_0) (fun _ h9 => h9) rfl dX3_mirroredFrom_1 ?_
  refine lv_iconst (v := 0) hx hb dX3_mirroredFrom_4 (by decide) ?_
  refine lv_iload_n hx hb dX3_mirroredFrom_5 rfl (lv_at hl 2 rfl) ?_
  refine lv_aload_n hx hb dX3_mirroredFrom_6 rfl (lv_at hl 1 rfl) ?_
  refine va_get (D := D) (ci := 3) (v := .ref oan) (C := RX3) (T := TX3) (N := 1) hx hb hts uX3_mirroredFrom_X3 hown hK hP 2 rfl rfl 0 (by decide) (hts _ kX3_mirroredFrom_0) (fun _ h9 => h9) rfl dX3_mirroredFrom_7 ?_
  refine lv_iconst (v := 0) hx hb dX3_mirroredFrom_10 (by decide) ?_
  refine yk_ild hx hb hK hP 3 0 rfl rfl 0 (by omega) (by decide) dX3_mirroredFrom_11 ?_
  refine lv_imul hx hb dX3_mirroredFrom_12 ?_
  refine yk_ist hx hb hK hP hD hS 1 0 rfl rfl 0 (by omega) (by decide) dX3_mirroredFrom_13 (fun H locs hP9 hD9 hS9 => ?_)
  replace hP : va_P D vwCl [(ta, .inr (3, [.ref tan])), (tan, .inl (cy 0, 6, .inl (upd fu 0 (x * (gu 0))))), (oa, .inr (3, [.ref oan])), (oan, .inl (cy 0, 6, .inl gu))] H := hP9
  replace hD : va_D A [(ta, .inr (3, [.ref tan])), (tan, .inl (cy 0, 6, .inl (upd fu 0 (x * (gu 0))))), (oa, .inr (3, [.ref oan])), (oan, .inl (cy 0, 6, .inl gu))] := hD9
  replace hS := hS9
  clear hP9 hD9 hS9
  refine lv_aload_n hx hb dX3_mirroredFrom_14 rfl (lv_at hl 0 rfl) ?_
  refine va_get (D := D) (ci := 3) (v := .ref tan) (C := RX3) (T := TX3) (N := 1) hx hb hts uX3_mirroredFrom_X3 hown hK hP 0 rfl rfl 0 (by decide) (hts _ kX3_mirroredFrom_0) (fun _ h9 => h9) rfl dX3_mirroredFrom_15 ?_
  refine lv_iconst (v := 1) hx hb dX3_mirroredFrom_18 (by decide) ?_
  refine lv_iload_n hx hb dX3_mirroredFrom_19 rfl (lv_at hl 2 rfl) ?_
  refine lv_ineg hx hb dX3_mirroredFrom_20 ?_
  refine lv_aload_n hx hb dX3_mirroredFrom_21 rfl (lv_at hl 1 rfl) ?_
  refine va_get (D := D) (ci := 3) (v := .ref oan) (C := RX3) (T := TX3) (N := 1) hx hb hts uX3_mirroredFrom_X3 hown hK hP 2 rfl rfl 0 (by decide) (hts _ kX3_mirroredFrom_0) (fun _ h9 => h9) rfl dX3_mirroredFrom_22 ?_
  refine lv_iconst (v := 1) hx hb dX3_mirroredFrom_25 (by decide) ?_
  refine yk_ild hx hb hK hP 3 0 rfl rfl 1 (by omega) (by decide) dX3_mirroredFrom_26 ?_
  refine lv_imul hx hb dX3_mirroredFrom_27 ?_
  refine yk_ist hx hb hK hP hD hS 1 0 rfl rfl 1 (by omega) (by decide) dX3_mirroredFrom_28 (fun H locs hP9 hD9 hS9 => ?_)
  replace hP : va_P D vwCl [(ta, .inr (3, [.ref tan])), (tan, .inl (cy 0, 6, .inl (upd (upd fu 0 (x * (gu 0))) 1 ((-x) * (gu 1))))), (oa, .inr (3, [.ref oan])), (oan, .inl (cy 0, 6, .inl gu))] H := hP9
  replace hD : va_D A [(ta, .inr (3, [.ref tan])), (tan, .inl (cy 0, 6, .inl (upd (upd fu 0 (x * (gu 0))) 1 ((-x) * (gu 1))))), (oa, .inr (3, [.ref oan])), (oan, .inl (cy 0, 6, .inl gu))] := hD9
  replace hS := hS9
  clear hP9 hD9 hS9
  refine lv_aload_n hx hb dX3_mirroredFrom_29 rfl (lv_at hl 0 rfl) ?_
  refine va_get (D := D) (ci := 3) (v := .ref tan) (C := RX3) (T := TX3) (N := 1) hx hb hts uX3_mirroredFrom_X3 hown hK hP 0 rfl rfl 0 (by decide) (hts _ kX3_mirroredFrom_0) (fun _ h9 => h9) rfl dX3_mirroredFrom_30 ?_
  refine lv_iconst (v := 2) hx hb dX3_mirroredFrom_33 (by decide) ?_
  refine lv_iload_n hx hb dX3_mirroredFrom_34 rfl (lv_at hl 2 rfl) ?_
  refine lv_aload_n hx hb dX3_mirroredFrom_35 rfl (lv_at hl 1 rfl) ?_
  refine va_get (D := D) (ci := 3) (v := .ref oan) (C := RX3) (T := TX3) (N := 1) hx hb hts uX3_mirroredFrom_X3 hown hK hP 2 rfl rfl 0 (by decide) (hts _ kX3_mirroredFrom_0) (fun _ h9 => h9) rfl dX3_mirroredFrom_36 ?_
  refine lv_iconst (v := 2) hx hb dX3_mirroredFrom_39 (by decide) ?_
  refine yk_ild hx hb hK hP 3 0 rfl rfl 2 (by omega) (by decide) dX3_mirroredFrom_40 ?_
  refine lv_imul hx hb dX3_mirroredFrom_41 ?_
  refine yk_ist hx hb hK hP hD hS 1 0 rfl rfl 2 (by omega) (by decide) dX3_mirroredFrom_42 (fun H locs hP9 hD9 hS9 => ?_)
  replace hP : va_P D vwCl [(ta, .inr (3, [.ref tan])), (tan, .inl (cy 0, 6, .inl (upd (upd (upd fu 0 (x * (gu 0))) 1 ((-x) * (gu 1))) 2 (x * (gu 2))))), (oa, .inr (3, [.ref oan])), (oan, .inl (cy 0, 6, .inl gu))] H := hP9
  replace hD : va_D A [(ta, .inr (3, [.ref tan])), (tan, .inl (cy 0, 6, .inl (upd (upd (upd fu 0 (x * (gu 0))) 1 ((-x) * (gu 1))) 2 (x * (gu 2))))), (oa, .inr (3, [.ref oan])), (oan, .inl (cy 0, 6, .inl gu))] := hD9
  replace hS := hS9
  clear hP9 hD9 hS9
  refine lv_aload_n hx hb dX3_mirroredFrom_43 rfl (lv_at hl 0 rfl) ?_
  refine va_get (D := D) (ci := 3) (v := .ref tan) (C := RX3) (T := TX3) (N := 1) hx hb hts uX3_mirroredFrom_X3 hown hK hP 0 rfl rfl 0 (by decide) (hts _ kX3_mirroredFrom_0) (fun _ h9 => h9) rfl dX3_mirroredFrom_44 ?_
  refine lv_iconst (v := 3) hx hb dX3_mirroredFrom_47 (by decide) ?_
  refine lv_iload_n hx hb dX3_mirroredFrom_48 rfl (lv_at hl 2 rfl) ?_
  refine lv_aload_n hx hb dX3_mirroredFrom_49 rfl (lv_at hl 1 rfl) ?_
  refine va_get (D := D) (ci := 3) (v := .ref oan) (C := RX3) (T := TX3) (N := 1) hx hb hts uX3_mirroredFrom_X3 hown hK hP 2 rfl rfl 0 (by decide) (hts _ kX3_mirroredFrom_0) (fun _ h9 => h9) rfl dX3_mirroredFrom_50 ?_
  refine lv_iconst (v := 3) hx hb dX3_mirroredFrom_53 (by decide) ?_
  refine yk_ild hx hb hK hP 3 0 rfl rfl 3 (by omega) (by decide) dX3_mirroredFrom_54 ?_
  refine lv_imul hx hb dX3_mirroredFrom_55 ?_
  refine yk_ist hx hb hK hP hD hS 1 0 rfl rfl 3 (by omega) (by decide) dX3_mirroredFrom_56 (fun H locs hP9 hD9 hS9 => ?_)
  replace hP : va_P D vwCl [(ta, .inr (3, [.ref tan])), (tan, .inl (cy 0, 6, .inl (upd (upd (upd (upd fu 0 (x * (gu 0))) 1 ((-x) * (gu 1))) 2 (x * (gu 2))) 3 (x * (gu 3))))), (oa, .inr (3, [.ref oan])), (oan, .inl (cy 0, 6, .inl gu))] H := hP9
  replace hD : va_D A [(ta, .inr (3, [.ref tan])), (tan, .inl (cy 0, 6, .inl (upd (upd (upd (upd fu 0 (x * (gu 0))) 1 ((-x) * (gu 1))) 2 (x * (gu 2))) 3 (x * (gu 3))))), (oa, .inr (3, [.ref oan])), (oan, .inl (cy 0, 6, .inl gu))] := hD9
  replace hS := hS9
  clear hP9 hD9 hS9
  refine lv_aload_n hx hb dX3_mirroredFrom_57 rfl (lv_at hl 0 rfl) ?_
  refine va_get (D := D) (ci := 3) (v := .ref tan) (C := RX3) (T := TX3) (N := 1) hx hb hts uX3_mirroredFrom_X3 hown hK hP 0 rfl rfl 0 (by decide) (hts _ kX3_mirroredFrom_0) (fun _ h9 => h9) rfl dX3_mirroredFrom_58 ?_
  refine lv_iconst (v := 4) hx hb dX3_mirroredFrom_61 (by decide) ?_
  refine lv_iload_n hx hb dX3_mirroredFrom_62 rfl (lv_at hl 2 rfl) ?_
  refine lv_ineg hx hb dX3_mirroredFrom_63 ?_
  refine lv_aload_n hx hb dX3_mirroredFrom_64 rfl (lv_at hl 1 rfl) ?_
  refine va_get (D := D) (ci := 3) (v := .ref oan) (C := RX3) (T := TX3) (N := 1) hx hb hts uX3_mirroredFrom_X3 hown hK hP 2 rfl rfl 0 (by decide) (hts _ kX3_mirroredFrom_0) (fun _ h9 => h9) rfl dX3_mirroredFrom_65 ?_
  refine lv_iconst (v := 4) hx hb dX3_mirroredFrom_68 (by decide) ?_
  refine yk_ild hx hb hK hP 3 0 rfl rfl 4 (by omega) (by decide) dX3_mirroredFrom_69 ?_
  refine lv_imul hx hb dX3_mirroredFrom_70 ?_
  refine yk_ist hx hb hK hP hD hS 1 0 rfl rfl 4 (by omega) (by decide) dX3_mirroredFrom_71 (fun H locs hP9 hD9 hS9 => ?_)
  replace hP : va_P D vwCl [(ta, .inr (3, [.ref tan])), (tan, .inl (cy 0, 6, .inl (upd (upd (upd (upd (upd fu 0 (x * (gu 0))) 1 ((-x) * (gu 1))) 2 (x * (gu 2))) 3 (x * (gu 3))) 4 ((-x) * (gu 4))))), (oa, .inr (3, [.ref oan])), (oan, .inl (cy 0, 6, .inl gu))] H := hP9
  replace hD : va_D A [(ta, .inr (3, [.ref tan])), (tan, .inl (cy 0, 6, .inl (upd (upd (upd (upd (upd fu 0 (x * (gu 0))) 1 ((-x) * (gu 1))) 2 (x * (gu 2))) 3 (x * (gu 3))) 4 ((-x) * (gu 4))))), (oa, .inr (3, [.ref oan])), (oan, .inl (cy 0, 6, .inl gu))] := hD9
  replace hS := hS9
  clear hP9 hD9 hS9
  refine lv_aload_n hx hb dX3_mirroredFrom_72 rfl (lv_at hl 0 rfl) ?_
  refine va_get (D := D) (ci := 3) (v := .ref tan) (C := RX3) (T := TX3) (N := 1) hx hb hts uX3_mirroredFrom_X3 hown hK hP 0 rfl rfl 0 (by decide) (hts _ kX3_mirroredFrom_0) (fun _ h9 => h9) rfl dX3_mirroredFrom_73 ?_
  refine lv_iconst (v := 5) hx hb dX3_mirroredFrom_76 (by decide) ?_
  refine lv_iload_n hx hb dX3_mirroredFrom_77 rfl (lv_at hl 2 rfl) ?_
  refine lv_aload_n hx hb dX3_mirroredFrom_78 rfl (lv_at hl 1 rfl) ?_
  refine va_get (D := D) (ci := 3) (v := .ref oan) (C := RX3) (T := TX3) (N := 1) hx hb hts uX3_mirroredFrom_X3 hown hK hP 2 rfl rfl 0 (by decide) (hts _ kX3_mirroredFrom_0) (fun _ h9 => h9) rfl dX3_mirroredFrom_79 ?_
  refine lv_iconst (v := 5) hx hb dX3_mirroredFrom_82 (by decide) ?_
  refine yk_ild hx hb hK hP 3 0 rfl rfl 5 (by omega) (by decide) dX3_mirroredFrom_83 ?_
  refine lv_imul hx hb dX3_mirroredFrom_84 ?_
  refine yk_ist hx hb hK hP hD hS 1 0 rfl rfl 5 (by omega) (by decide) dX3_mirroredFrom_85 (fun H locs hP9 hD9 hS9 => ?_)
  replace hP : va_P D vwCl [(ta, .inr (3, [.ref tan])), (tan, .inl (cy 0, 6, .inl (upd (upd (upd (upd (upd (upd fu 0 (x * (gu 0))) 1 ((-x) * (gu 1))) 2 (x * (gu 2))) 3 (x * (gu 3))) 4 ((-x) * (gu 4))) 5 (x * (gu 5))))), (oa, .inr (3, [.ref oan])), (oan, .inl (cy 0, 6, .inl gu))] H := hP9
  replace hD : va_D A [(ta, .inr (3, [.ref tan])), (tan, .inl (cy 0, 6, .inl (upd (upd (upd (upd (upd (upd fu 0 (x * (gu 0))) 1 ((-x) * (gu 1))) 2 (x * (gu 2))) 3 (x * (gu 3))) 4 ((-x) * (gu 4))) 5 (x * (gu 5))))), (oa, .inr (3, [.ref oan])), (oan, .inl (cy 0, 6, .inl gu))] := hD9
  replace hS := hS9
  clear hP9 hD9 hS9
  have hF : f_X3_mirroredFrom fu gu x = (upd (upd (upd (upd (upd (upd fu 0 (x * (gu 0))) 1 ((-x) * (gu 1))) 2 (x * (gu 2))) 3 (x * (gu 3))) 4 ((-x) * (gu 4))) 5 (x * (gu 5))) := hF
  rw [hF] at hQ
  exact hQ _ _ _ _ dX3_mirroredFrom_86 hP hS

theorem kX3_movedFrom_0 : Cond.fieldLink RX3 9 "FlowPlane$Polynomial" "numbers" "[I" ∈ wsX3_movedFrom := by decide +kernel
theorem uX3_movedFrom_X3 : ∀ w ∈ u_ws RX3 TX3 1, w ∈ wsX3_movedFrom := by decide +kernel
def f_X3_movedFrom (fu : Nat → Int32) (gu : Nat → Int32) (x : Int32) (y : Int32) : (Nat → Int32) := (upd (upd (upd (f_X3_become fu gu) 0 (f_X3_at gu x y)) 1 (f_X3_byX gu x y)) 2 (f_X3_byY gu x y))
set_option maxHeartbeats 400000000 in
set_option maxRecDepth 100000 in
theorem c_X3_movedFrom (l : Launch) (D : va_G) (cy : Nat → ClassId) (ta : Nat) (tan : Nat) (oa : Nat) (oan : Nat) (fu : Nat → Int32) (gu : Nat → Int32) (x : Int32) (y : Int32) : yk_Cv l D vwCl (yk_ty cy) yX3_movedFrom wsX3_movedFrom 2 44 [.ref ta, .ref oa, .int x, .int y] [(ta, .inr (3, [.ref tan])), (tan, .inl (cy 0, 6, .inl fu)), (oa, .inr (3, [.ref oan])), (oan, .inl (cy 0, 6, .inl gu))] [(ta, .inr (3, [.ref tan])), (tan, .inl (cy 0, 6, .inl (f_X3_movedFrom fu gu x y))), (oa, .inr (3, [.ref oan])), (oan, .inl (cy 0, 6, .inl gu))] := by
  refine yk_eV (cc := cX3_movedFrom) (maxL := 4) (by decide) rfl (Nat.le_of_ble_eq_true rfl) ?_
  intro p e R s m args below meth c A Q ls H locs hx hb hml hown hts hRf hRl hA hK hG hP hD hS hl hQ
  have hP : va_P D vwCl [(ta, .inr (3, [.ref tan])), (tan, .inl (cy 0, 6, .inl fu)), (oa, .inr (3, [.ref oan])), (oan, .inl (cy 0, 6, .inl gu))] H := hP
  have hl : lv_has ls 4 [(0, .ref ta), (1, .ref oa), (2, .int x), (3, .int y)] := hl
  have hown : s.vm.findClass RX3 = some m.cls := hown
  have hF : (f_X3_movedFrom fu gu x y) = (f_X3_movedFrom fu gu x y) := rfl
  refine lv_aload_n hx hb dX3_movedFrom_0 rfl (lv_at hl 0 rfl) ?_
  refine lv_aload_n hx hb dX3_movedFrom_1 rfl (lv_at hl 1 rfl) ?_
  refine yk_v [0, 1, 2, 3] (va_runV (As := [.ref oa]) (rest := []) ⟨hx, hb, hml, hown, hts⟩ (c_X3_become l D cy ta tan oa oan fu gu H.size) (cwV 1 hts gX3_movedFrom_X3_become rfl rfl rfl hv_X3_become (yk_room hRf hRl rfl rfl)) (yk_pv (q := (RX3, TX3, 1)) hG hA hS hK hP hD [0, 1, 2, 3] (by decide +kernel) rfl rfl rfl) rfl rfl hl.1 rfl (lv_room (Nat.le_of_ble_eq_true rfl)) dX3_movedFrom_2 ⟨Nat.zero_le _, Nat.zero_le _⟩) hP hD hS hA rfl (Eq.trans (b := [ta, tan, oa, oan]) rfl rfl) (fun H locs hP9 hD9 hS9 => ?_)
  replace hP : va_P D vwCl [(ta, .inr (3, [.ref tan])), (tan, .inl (cy 0, 6, .inl (f_X3_become fu gu))), (oa, .inr (3, [.ref oan])), (oan, .inl (cy 0, 6, .inl gu))] H := hP9
  replace hD : va_D A [(ta, .inr (3, [.ref tan])), (tan, .inl (cy 0, 6, .inl (f_X3_become fu gu))), (oa, .inr (3, [.ref oan])), (oan, .inl (cy 0, 6, .inl gu))] := hD9
  replace hS := hS9
  clear hP9 hD9 hS9
  refine lv_aload_n hx hb dX3_movedFrom_5 rfl (lv_at hl 0 rfl) ?_
  refine va_get (D := D) (ci := 3) (v := .ref tan) (C := RX3) (T := TX3) (N := 1) hx hb hts uX3_movedFrom_X3 hown hK hP 0 rfl rfl 0 (by decide) (hts _ kX3_movedFrom_0) (fun _ h9 => h9) rfl dX3_movedFrom_6 ?_
  refine lv_iconst (v := 0) hx hb dX3_movedFrom_9 (by decide) ?_
  refine lv_aload_n hx hb dX3_movedFrom_10 rfl (lv_at hl 1 rfl) ?_
  refine lv_iload_n hx hb dX3_movedFrom_11 rfl (lv_at hl 2 rfl) ?_
  refine lv_iload_n hx hb dX3_movedFrom_12 rfl (lv_at hl 3 rfl) ?_
  refine yk_i [2, 3] (va_runV (As := [.int x, .int y]) (rest := [.int 0, .ref tan]) ⟨hx, hb, hml, hown, hts⟩ (c_X3_at l D cy oa oan gu x y H.size) (cwV 2 hts gX3_movedFrom_X3_at rfl rfl rfl hv_X3_at (yk_room hRf hRl rfl rfl)) (yk_pv (q := (RX3, TX3, 1)) hG hA hS hK hP hD [2, 3] (by decide +kernel) rfl rfl rfl) rfl rfl hl.1 rfl (lv_room (Nat.le_of_ble_eq_true rfl)) dX3_movedFrom_13 ⟨Nat.zero_le _, Nat.zero_le _⟩) hP hD hS hA rfl (Eq.trans (b := [oa, oan]) rfl rfl) (fun H locs hP9 hD9 hS9 => ?_)
  replace hP : va_P D vwCl [(ta, .inr (3, [.ref tan])), (tan, .inl (cy 0, 6, .inl (f_X3_become fu gu))), (oa, .inr (3, [.ref oan])), (oan, .inl (cy 0, 6, .inl gu))] H := hP9
  replace hD : va_D A [(ta, .inr (3, [.ref tan])), (tan, .inl (cy 0, 6, .inl (f_X3_become fu gu))), (oa, .inr (3, [.ref oan])), (oan, .inl (cy 0, 6, .inl gu))] := hD9
  replace hS := hS9
  clear hP9 hD9 hS9
  refine yk_ist hx hb hK hP hD hS 1 0 rfl rfl 0 (by omega) (by decide) dX3_movedFrom_16 (fun H locs hP9 hD9 hS9 => ?_)
  replace hP : va_P D vwCl [(ta, .inr (3, [.ref tan])), (tan, .inl (cy 0, 6, .inl (upd (f_X3_become fu gu) 0 (f_X3_at gu x y)))), (oa, .inr (3, [.ref oan])), (oan, .inl (cy 0, 6, .inl gu))] H := hP9
  replace hD : va_D A [(ta, .inr (3, [.ref tan])), (tan, .inl (cy 0, 6, .inl (upd (f_X3_become fu gu) 0 (f_X3_at gu x y)))), (oa, .inr (3, [.ref oan])), (oan, .inl (cy 0, 6, .inl gu))] := hD9
  replace hS := hS9
  clear hP9 hD9 hS9
  refine lv_aload_n hx hb dX3_movedFrom_17 rfl (lv_at hl 0 rfl) ?_
  refine va_get (D := D) (ci := 3) (v := .ref tan) (C := RX3) (T := TX3) (N := 1) hx hb hts uX3_movedFrom_X3 hown hK hP 0 rfl rfl 0 (by decide) (hts _ kX3_movedFrom_0) (fun _ h9 => h9) rfl dX3_movedFrom_18 ?_
  refine lv_iconst (v := 1) hx hb dX3_movedFrom_21 (by decide) ?_
  refine lv_aload_n hx hb dX3_movedFrom_22 rfl (lv_at hl 1 rfl) ?_
  refine lv_iload_n hx hb dX3_movedFrom_23 rfl (lv_at hl 2 rfl) ?_
  refine lv_iload_n hx hb dX3_movedFrom_24 rfl (lv_at hl 3 rfl) ?_
  refine yk_i [2, 3] (va_runV (As := [.int x, .int y]) (rest := [.int 1, .ref tan]) ⟨hx, hb, hml, hown, hts⟩ (c_X3_byX l D cy oa oan gu x y H.size) (cwV 2 hts gX3_movedFrom_X3_byX rfl rfl rfl hv_X3_byX (yk_room hRf hRl rfl rfl)) (yk_pv (q := (RX3, TX3, 1)) hG hA hS hK hP hD [2, 3] (by decide +kernel) rfl rfl rfl) rfl rfl hl.1 rfl (lv_room (Nat.le_of_ble_eq_true rfl)) dX3_movedFrom_25 ⟨Nat.zero_le _, Nat.zero_le _⟩) hP hD hS hA rfl (Eq.trans (b := [oa, oan]) rfl rfl) (fun H locs hP9 hD9 hS9 => ?_)
  replace hP : va_P D vwCl [(ta, .inr (3, [.ref tan])), (tan, .inl (cy 0, 6, .inl (upd (f_X3_become fu gu) 0 (f_X3_at gu x y)))), (oa, .inr (3, [.ref oan])), (oan, .inl (cy 0, 6, .inl gu))] H := hP9
  replace hD : va_D A [(ta, .inr (3, [.ref tan])), (tan, .inl (cy 0, 6, .inl (upd (f_X3_become fu gu) 0 (f_X3_at gu x y)))), (oa, .inr (3, [.ref oan])), (oan, .inl (cy 0, 6, .inl gu))] := hD9
  replace hS := hS9
  clear hP9 hD9 hS9
  refine yk_ist hx hb hK hP hD hS 1 0 rfl rfl 1 (by omega) (by decide) dX3_movedFrom_28 (fun H locs hP9 hD9 hS9 => ?_)
  replace hP : va_P D vwCl [(ta, .inr (3, [.ref tan])), (tan, .inl (cy 0, 6, .inl (upd (upd (f_X3_become fu gu) 0 (f_X3_at gu x y)) 1 (f_X3_byX gu x y)))), (oa, .inr (3, [.ref oan])), (oan, .inl (cy 0, 6, .inl gu))] H := hP9
  replace hD : va_D A [(ta, .inr (3, [.ref tan])), (tan, .inl (cy 0, 6, .inl (upd (upd (f_X3_become fu gu) 0 (f_X3_at gu x y)) 1 (f_X3_byX gu x y)))), (oa, .inr (3, [.ref oan])), (oan, .inl (cy 0, 6, .inl gu))] := hD9
  replace hS := hS9
  clear hP9 hD9 hS9
  refine lv_aload_n hx hb dX3_movedFrom_29 rfl (lv_at hl 0 rfl) ?_
  refine va_get (D := D) (ci := 3) (v := .ref tan) (C := RX3) (T := TX3) (N := 1) hx hb hts uX3_movedFrom_X3 hown hK hP 0 rfl rfl 0 (by decide) (hts _ kX3_movedFrom_0) (fun _ h9 => h9) rfl dX3_movedFrom_30 ?_
  refine lv_iconst (v := 2) hx hb dX3_movedFrom_33 (by decide) ?_
  refine lv_aload_n hx hb dX3_movedFrom_34 rfl (lv_at hl 1 rfl) ?_
  refine lv_iload_n hx hb dX3_movedFrom_35 rfl (lv_at hl 2 rfl) ?_
  refine lv_iload_n hx hb dX3_movedFrom_36 rfl (lv_at hl 3 rfl) ?_
  refine yk_i [2, 3] (va_runV (As := [.int x, .int y]) (rest := [.int 2, .ref tan]) ⟨hx, hb, hml, hown, hts⟩ (c_X3_byY l D cy oa oan gu x y H.size) (cwV 2 hts gX3_movedFrom_X3_byY rfl rfl rfl hv_X3_byY (yk_room hRf hRl rfl rfl)) (yk_pv (q := (RX3, TX3, 1)) hG hA hS hK hP hD [2, 3] (by decide +kernel) rfl rfl rfl) rfl rfl hl.1 rfl (lv_room (Nat.le_of_ble_eq_true rfl)) dX3_movedFrom_37 ⟨Nat.zero_le _, Nat.zero_le _⟩) hP hD hS hA rfl (Eq.trans (b := [oa, oan]) rfl rfl) (fun H locs hP9 hD9 hS9 => ?_)
  replace hP : va_P D vwCl [(ta, .inr (3, [.ref tan])), (tan, .inl (cy 0, 6, .inl (upd (upd (f_X3_become fu gu) 0 (f_X3_at gu x y)) 1 (f_X3_byX gu x y)))), (oa, .inr (3, [.ref oan])), (oan, .inl (cy 0, 6, .inl gu))] H := hP9
  replace hD : va_D A [(ta, .inr (3, [.ref tan])), (tan, .inl (cy 0, 6, .inl (upd (upd (f_X3_become fu gu) 0 (f_X3_at gu x y)) 1 (f_X3_byX gu x y)))), (oa, .inr (3, [.ref oan])), (oan, .inl (cy 0, 6, .inl gu))] := hD9
  replace hS := hS9
  clear hP9 hD9 hS9
  refine yk_ist hx hb hK hP hD hS 1 0 rfl rfl 2 (by omega) (by decide) dX3_movedFrom_40 (fun H locs hP9 hD9 hS9 => ?_)
  replace hP : va_P D vwCl [(ta, .inr (3, [.ref tan])), (tan, .inl (cy 0, 6, .inl (upd (upd (upd (f_X3_become fu gu) 0 (f_X3_at gu x y)) 1 (f_X3_byX gu x y)) 2 (f_X3_byY gu x y)))), (oa, .inr (3, [.ref oan])), (oan, .inl (cy 0, 6, .inl gu))] H := hP9
  replace hD : va_D A [(ta, .inr (3, [.ref tan])), (tan, .inl (cy 0, 6, .inl (upd (upd (upd (f_X3_become fu gu) 0 (f_X3_at gu x y)) 1 (f_X3_byX gu x y)) 2 (f_X3_byY gu x y)))), (oa, .inr (3, [.ref oan])), (oan, .inl (cy 0, 6, .inl gu))] := hD9
  replace hS := hS9
  clear hP9 hD9 hS9
  have hF : f_X3_movedFrom fu gu x y = (upd (upd (upd (f_X3_become fu gu) 0 (f_X3_at gu x y)) 1 (f_X3_byX gu x y)) 2 (f_X3_byY gu x y)) := hF
  rw [hF] at hQ
  exact hQ _ _ _ _ dX3_movedFrom_41 hP hS

theorem kX3_increase_0 : Cond.fieldLink RX3 9 "FlowPlane$Polynomial" "numbers" "[I" ∈ wsX3_increase := by decide +kernel
theorem uX3_increase_X3 : ∀ w ∈ u_ws RX3 TX3 1, w ∈ wsX3_increase := by decide +kernel
def l_X3_increase_2 (fu : Nat → Int32) (gu : Nat → Int32) (x : Int32) : Nat → Nat → (Nat → Int32) → (Nat → Int32)
  | 0, ki, zTn_2 => zTn_2
  | fu_X3_increase_2 + 1, ki, zTn_2 => (if 6 ≤ (nI ki) then zTn_2 else (l_X3_increase_2 fu gu x fu_X3_increase_2 (ki + 1) (upd zTn_2 ki ((zTn_2 ki) + (x * (gu ki))))))
def f_X3_increase (fu : Nat → Int32) (gu : Nat → Int32) (x : Int32) : (Nat → Int32) := (l_X3_increase_2 fu gu x (6 + 1) 0 fu)
set_option maxHeartbeats 400000000 in
set_option maxRecDepth 100000 in
theorem c_X3_increase (l : Launch) (D : va_G) (cy : Nat → ClassId) (ta : Nat) (tan : Nat) (oa : Nat) (oan : Nat) (fu : Nat → Int32) (gu : Nat → Int32) (x : Int32) : yk_Cv l D vwCl (yk_ty cy) yX3_increase wsX3_increase 0 0 [.ref ta, .ref oa, .int x] [(ta, .inr (3, [.ref tan])), (tan, .inl (cy 0, 6, .inl fu)), (oa, .inr (3, [.ref oan])), (oan, .inl (cy 0, 6, .inl gu))] [(ta, .inr (3, [.ref tan])), (tan, .inl (cy 0, 6, .inl (f_X3_increase fu gu x))), (oa, .inr (3, [.ref oan])), (oan, .inl (cy 0, 6, .inl gu))] := by
  refine yk_eV (cc := cX3_increase) (maxL := 4) (by decide) rfl (Nat.le_of_ble_eq_true rfl) ?_
  intro p e R s m args below meth c A Q ls H locs hx hb hml hown hts hRf hRl hA hK hG hP hD hS hl hQ
  have hP : va_P D vwCl [(ta, .inr (3, [.ref tan])), (tan, .inl (cy 0, 6, .inl fu)), (oa, .inr (3, [.ref oan])), (oan, .inl (cy 0, 6, .inl gu))] H := hP
  have hl : lv_has ls 4 [(0, .ref ta), (1, .ref oa), (2, .int x)] := hl
  have hown : s.vm.findClass RX3 = some m.cls := hown
  have hF : (f_X3_increase fu gu x) = (f_X3_increase fu gu x) := rfl
  refine lv_iconst (v := 0) hx hb dX3_increase_0 (by decide) ?_
  refine lv_istore_n (lv' := [(3, .int 0), (0, .ref ta), (1, .ref oa), (2, .int x)]) hx hb dX3_increase_1 rfl hl (by decide) rfl (fun ls hl9 => ?_)
  replace hl := hl9
  clear hl9
  have J3 : ∀ (H : Heap) (locs : List Loc) (ls : Array Slot), va_P D vwCl [(ta, .inr (3, [.ref tan])), (tan, .inl (cy 0, 6, .inl (l_X3_increase_2 fu gu x (6 + 1) 0 fu))), (oa, .inr (3, [.ref oan])), (oan, .inl (cy 0, 6, .inl gu))] H → va_D A [(ta, .inr (3, [.ref tan])), (tan, .inl (cy 0, 6, .inl (l_X3_increase_2 fu gu x (6 + 1) 0 fu))), (oa, .inr (3, [.ref oan])), (oan, .inl (cy 0, 6, .inl gu))] → va_S A s.heap H locs → lv_has ls 4 [(0, .ref ta), (1, .ref oa), (2, .int x)] → W p l e R s m args below meth c H locs 0 0 Q (F0 m 31 ls []) := by
    clear hP hD hS hl
    intro H locs ls hP hD hS hl
    have hF : f_X3_increase fu gu x = (l_X3_increase_2 fu gu x (6 + 1) 0 fu) := hF
    rw [hF] at hQ
    exact hQ _ _ _ _ dX3_increase_31 hP hS
  have L2 : ∀ (M9 n2 ki : Nat) (zTn_2 : Nat → Int32) (H : Heap) (locs : List Loc) (ls : Array Slot), n2 < M9 → ki + n2 = 6 → (l_X3_increase_2 fu gu x (6 + 1) 0 fu) = (l_X3_increase_2 fu gu x (n2 + 1) ki zTn_2) → va_P D vwCl [(ta, .inr (3, [.ref tan])), (tan, .inl (cy 0, 6, .inl zTn_2)), (oa, .inr (3, [.ref oan])), (oan, .inl (cy 0, 6, .inl gu))] H → va_D A [(ta, .inr (3, [.ref tan])), (tan, .inl (cy 0, 6, .inl zTn_2)), (oa, .inr (3, [.ref oan])), (oan, .inl (cy 0, 6, .inl gu))] → va_S A s.heap H locs → lv_has ls 4 [(0, .ref ta), (1, .ref oa), (2, .int x), (3, .int (nI ki))] → W p l e R s m args below meth c H locs 0 0 Q (F0 m 2 ls []) := by
    clear hP hD hS hl
    intro M9
    induction M9 with
    | zero => intro n2 ki _ _ _ _ hn; exact absurd hn (Nat.not_lt_zero _)
    | succ M9 ih2 =>
      intro n2 ki zTn_2 H locs ls hn2 hk2 hV2 hP hD hS hl
      refine lv_iload_n hx hb dX3_increase_2 rfl (lv_at hl 3 rfl) ?_
      refine lv_bipush (v := 6) hx hb dX3_increase_3 (by decide) ?_
      refine lv_icmp_ge (tgt := 31) hx hb dX3_increase_5 (by decide) (fun hc2 => ?_) (fun hc2 => ?_)
      · replace hV2 := hV2.trans (if_pos hc2)
        have hV2 : (l_X3_increase_2 fu gu x (6 + 1) 0 fu) = zTn_2 := hV2
        have J3 := J3
        rw [hV2] at J3
        exact J3 _ _ _ hP hD hS (lv_sub hl [0, 1, 2] rfl)
      · replace hV2 := hV2.trans (if_neg hc2)
        have hlt2 : ki < 6 := yk_lt hk2 (by omega) hc2
        refine lv_aload_n hx hb dX3_increase_8 rfl (lv_at hl 0 rfl) ?_
        refine va_get (D := D) (ci := 3) (v := .ref tan) (C := RX3) (T := TX3) (N := 1) hx hb hts uX3_increase_X3 hown hK hP 0 rfl rfl 0 (by decide) (hts _ kX3_increase_0) (fun _ h9 => h9) rfl dX3_increase_9 ?_
        refine lv_iload_n hx hb dX3_increase_12 rfl (lv_at hl 3 rfl) ?_
        refine lv_dup2_11 hx hb dX3_increase_13 rfl rfl ?_
        refine yk_ild hx hb hK hP 1 0 rfl rfl ki (by omega) (by decide) dX3_increase_14 ?_
        refine lv_iload_n hx hb dX3_increase_15 rfl (lv_at hl 2 rfl) ?_
        refine lv_aload_n hx hb dX3_increase_16 rfl (lv_at hl 1 rfl) ?_
        refine va_get (D := D) (ci := 3) (v := .ref oan) (C := RX3) (T := TX3) (N := 1) hx hb hts uX3_increase_X3 hown hK hP 2 rfl rfl 0 (by decide) (hts _ kX3_increase_0) (fun _ h9 => h9) rfl dX3_increase_17 ?_
        refine lv_iload_n hx hb dX3_increase_20 rfl (lv_at hl 3 rfl) ?_
        refine yk_ild hx hb hK hP 3 0 rfl rfl ki (by omega) (by decide) dX3_increase_21 ?_
        refine lv_imul hx hb dX3_increase_22 ?_
        refine lv_iadd hx hb dX3_increase_23 ?_
        refine yk_ist hx hb hK hP hD hS 1 0 rfl rfl ki (by omega) (by decide) dX3_increase_24 (fun H locs hP9 hD9 hS9 => ?_)
        replace hP : va_P D vwCl [(ta, .inr (3, [.ref tan])), (tan, .inl (cy 0, 6, .inl (upd zTn_2 ki ((zTn_2 ki) + (x * (gu ki)))))), (oa, .inr (3, [.ref oan])), (oan, .inl (cy 0, 6, .inl gu))] H := hP9
        replace hD : va_D A [(ta, .inr (3, [.ref tan])), (tan, .inl (cy 0, 6, .inl (upd zTn_2 ki ((zTn_2 ki) + (x * (gu ki)))))), (oa, .inr (3, [.ref oan])), (oan, .inl (cy 0, 6, .inl gu))] := hD9
        replace hS := hS9
        clear hP9 hD9 hS9
        refine lv_iinc (v := nI (ki + 1)) (lv' := [(3, .int (nI (ki + 1))), (0, .ref ta), (1, .ref oa), (2, .int x)]) hx hb dX3_increase_25 hl (k := 3) rfl (yk_inc ki) (by decide) rfl (fun ls hl9 => ?_)
        replace hl := hl9
        clear hl9
        refine lv_goto (tgt := 2) hx hb dX3_increase_28 (by decide) ?_
        obtain ⟨n9, rfl⟩ : ∃ n9, n2 = n9 + 1 := ⟨n2 - 1, by omega⟩
        exact ih2 n9 (ki + 1) (upd zTn_2 ki ((zTn_2 ki) + (x * (gu ki)))) _ _ _ (by omega) (by omega)  hV2 hP hD hS (lv_sub hl [1, 2, 3, 0] rfl)
  exact L2 (6 + 1) 6 0 fu _ _ _ (Nat.lt_succ_self _) (by omega)  rfl hP hD hS (lv_sub hl [1, 2, 3, 0] rfl)

theorem c_X1_part_p (l : Launch) (D : va_G) (cy : Nat → ClassId) (ta pa qa : Nat) (x : Int32) (h0 : x = 0) : yk_Cr l D vwCl (yk_ty cy) yX1_part wsX1_part 0 0 [.ref ta, .int x] [(ta, .inr (1, [.ref pa, .ref qa]))] pa [(ta, .inr (1, [.ref pa, .ref qa]))] := by
  refine yk_eR (Or.inl ⟨_, rfl⟩) (cc := cX1_part) (maxL := 2) (by decide) rfl (Nat.le_of_ble_eq_true rfl) ?_
  intro p e R s m args below meth c A Q ls H locs hx hb hml hown hts hRf hRl hA hK hG hP hD hS hl hQ
  have hl : lv_has ls 2 [(0, .ref ta), (1, .int x)] := hl
  have hown : s.vm.findClass RX1 = some m.cls := hown
  refine lv_iload_n hx hb dX1_part_0 rfl (lv_at hl 1 rfl) ?_
  refine lv_if_eq (tgt := 11) hx hb dX1_part_1 (by decide) (fun hc => ?_) (fun hc => absurd h0 hc)
  refine lv_aload_n hx hb dX1_part_11 rfl (lv_at hl 0 rfl) ?_
  refine va_get (D := D) (ci := 1) (v := .ref pa) (C := RX1) (T := TX1) (N := 2) hx hb hts (by decide +kernel) hown hK hP 0 rfl rfl 0 (by decide) (hts (.fieldLink RX1 12 "FlowPlane$Flow" "p" "LFlowPlane$Polynomial;") (by decide +kernel)) (fun _ h9 => h9) rfl dX1_part_12 ?_
  exact hQ _ _ _ _ dX1_part_15 hP hS
theorem c_X1_part_q (l : Launch) (D : va_G) (cy : Nat → ClassId) (ta pa qa : Nat) (x : Int32) (h0 : ¬ x = 0) : yk_Cr l D vwCl (yk_ty cy) yX1_part wsX1_part 0 0 [.ref ta, .int x] [(ta, .inr (1, [.ref pa, .ref qa]))] qa [(ta, .inr (1, [.ref pa, .ref qa]))] := by
  refine yk_eR (Or.inl ⟨_, rfl⟩) (cc := cX1_part) (maxL := 2) (by decide) rfl (Nat.le_of_ble_eq_true rfl) ?_
  intro p e R s m args below meth c A Q ls H locs hx hb hml hown hts hRf hRl hA hK hG hP hD hS hl hQ
  have hl : lv_has ls 2 [(0, .ref ta), (1, .int x)] := hl
  have hown : s.vm.findClass RX1 = some m.cls := hown
  refine lv_iload_n hx hb dX1_part_0 rfl (lv_at hl 1 rfl) ?_
  refine lv_if_eq (tgt := 11) hx hb dX1_part_1 (by decide) (fun hc => absurd hc h0) (fun hc => ?_)
  refine lv_aload_n hx hb dX1_part_4 rfl (lv_at hl 0 rfl) ?_
  refine va_get (D := D) (ci := 1) (v := .ref qa) (C := RX1) (T := TX1) (N := 2) hx hb hts (by decide +kernel) hown hK hP 0 rfl rfl 1 (by decide) (hts (.fieldLink RX1 18 "FlowPlane$Flow" "q" "LFlowPlane$Polynomial;") (by decide +kernel)) (fun _ h9 => h9) rfl dX1_part_5 ?_
  refine lv_goto (tgt := 15) hx hb dX1_part_8 (by decide) ?_
  exact hQ _ _ _ _ dX1_part_15 hP hS

theorem kX1_become_0 : Cond.fieldLink RX1 12 "FlowPlane$Flow" "p" "LFlowPlane$Polynomial;" ∈ wsX1_become := by decide +kernel
theorem kX1_become_1 : Cond.fieldLink RX1 18 "FlowPlane$Flow" "q" "LFlowPlane$Polynomial;" ∈ wsX1_become := by decide +kernel
theorem uX1_become_X1 : ∀ w ∈ u_ws RX1 TX1 2, w ∈ wsX1_become := by decide +kernel
def f_X1_become (fu : Nat → Int32) (fv : Nat → Int32) (gu : Nat → Int32) (gv : Nat → Int32) : (Nat → Int32) × (Nat → Int32) := ((f_X3_become fu gu), (f_X3_become fv gv))
set_option maxHeartbeats 400000000 in
set_option maxRecDepth 100000 in
theorem c_X1_become (l : Launch) (D : va_G) (cy : Nat → ClassId) (ta : Nat) (tap : Nat) (tapn : Nat) (taq : Nat) (taqn : Nat) (oa : Nat) (oap : Nat) (oapn : Nat) (oaq : Nat) (oaqn : Nat) (fu : Nat → Int32) (fv : Nat → Int32) (gu : Nat → Int32) (gv : Nat → Int32) : yk_Cv l D vwCl (yk_ty cy) yX1_become wsX1_become 2 39 [.ref ta, .ref oa] [(ta, .inr (1, [.ref tap, .ref taq])), (tap, .inr (3, [.ref tapn])), (tapn, .inl (cy 0, 6, .inl fu)), (taq, .inr (3, [.ref taqn])), (taqn, .inl (cy 0, 6, .inl fv)), (oa, .inr (1, [.ref oap, .ref oaq])), (oap, .inr (3, [.ref oapn])), (oapn, .inl (cy 0, 6, .inl gu)), (oaq, .inr (3, [.ref oaqn])), (oaqn, .inl (cy 0, 6, .inl gv))] [(ta, .inr (1, [.ref tap, .ref taq])), (tap, .inr (3, [.ref tapn])), (tapn, .inl (cy 0, 6, .inl ((f_X1_become fu fv gu gv).1))), (taq, .inr (3, [.ref taqn])), (taqn, .inl (cy 0, 6, .inl ((f_X1_become fu fv gu gv).2))), (oa, .inr (1, [.ref oap, .ref oaq])), (oap, .inr (3, [.ref oapn])), (oapn, .inl (cy 0, 6, .inl gu)), (oaq, .inr (3, [.ref oaqn])), (oaqn, .inl (cy 0, 6, .inl gv))] := by
  refine yk_eV (cc := cX1_become) (maxL := 2) (by decide) rfl (Nat.le_of_ble_eq_true rfl) ?_
  intro p e R s m args below meth c A Q ls H locs hx hb hml hown hts hRf hRl hA hK hG hP hD hS hl hQ
  have hP : va_P D vwCl [(ta, .inr (1, [.ref tap, .ref taq])), (tap, .inr (3, [.ref tapn])), (tapn, .inl (cy 0, 6, .inl fu)), (taq, .inr (3, [.ref taqn])), (taqn, .inl (cy 0, 6, .inl fv)), (oa, .inr (1, [.ref oap, .ref oaq])), (oap, .inr (3, [.ref oapn])), (oapn, .inl (cy 0, 6, .inl gu)), (oaq, .inr (3, [.ref oaqn])), (oaqn, .inl (cy 0, 6, .inl gv))] H := hP
  have hl : lv_has ls 2 [(0, .ref ta), (1, .ref oa)] := hl
  have hown : s.vm.findClass RX1 = some m.cls := hown
  have hF : (f_X1_become fu fv gu gv) = (f_X1_become fu fv gu gv) := rfl
  refine lv_aload_n hx hb dX1_become_0 rfl (lv_at hl 0 rfl) ?_
  refine va_get (D := D) (ci := 1) (v := .ref tap) (C := RX1) (T := TX1) (N := 2) hx hb hts uX1_become_X1 hown hK hP 0 rfl rfl 0 (by decide) (hts _ kX1_become_0) (fun _ h9 => h9) rfl dX1_become_1 ?_
  refine lv_aload_n hx hb dX1_become_4 rfl (lv_at hl 1 rfl) ?_
  refine va_get (D := D) (ci := 1) (v := .ref oap) (C := RX1) (T := TX1) (N := 2) hx hb hts uX1_become_X1 hown hK hP 5 rfl rfl 0 (by decide) (hts _ kX1_become_0) (fun _ h9 => h9) rfl dX1_become_5 ?_
  refine yk_v [1, 2, 6, 7] (va_runV (As := [.ref oap]) (rest := []) ⟨hx, hb, hml, hown, hts⟩ (c_X3_become l D cy tap tapn oap oapn fu gu H.size) (cwV 1 hts gX1_become_X3_become rfl rfl rfl hv_X3_become (yk_room hRf hRl rfl rfl)) (yk_pv (q := (RX3, TX3, 1)) hG hA hS hK hP hD [1, 2, 6, 7] (by decide +kernel) rfl rfl rfl) rfl rfl hl.1 rfl (lv_room (Nat.le_of_ble_eq_true rfl)) dX1_become_8 ⟨Nat.zero_le _, Nat.zero_le _⟩) hP hD hS hA rfl (Eq.trans (b := [tap, tapn, oap, oapn]) rfl rfl) (fun H locs hP9 hD9 hS9 => ?_)
  replace hP : va_P D vwCl [(ta, .inr (1, [.ref tap, .ref taq])), (tap, .inr (3, [.ref tapn])), (tapn, .inl (cy 0, 6, .inl (f_X3_become fu gu))), (taq, .inr (3, [.ref taqn])), (taqn, .inl (cy 0, 6, .inl fv)), (oa, .inr (1, [.ref oap, .ref oaq])), (oap, .inr (3, [.ref oapn])), (oapn, .inl (cy 0, 6, .inl gu)), (oaq, .inr (3, [.ref oaqn])), (oaqn, .inl (cy 0, 6, .inl gv))] H := hP9
  replace hD : va_D A [(ta, .inr (1, [.ref tap, .ref taq])), (tap, .inr (3, [.ref tapn])), (tapn, .inl (cy 0, 6, .inl (f_X3_become fu gu))), (taq, .inr (3, [.ref taqn])), (taqn, .inl (cy 0, 6, .inl fv)), (oa, .inr (1, [.ref oap, .ref oaq])), (oap, .inr (3, [.ref oapn])), (oapn, .inl (cy 0, 6, .inl gu)), (oaq, .inr (3, [.ref oaqn])), (oaqn, .inl (cy 0, 6, .inl gv))] := hD9
  replace hS := hS9
  clear hP9 hD9 hS9
  refine lv_aload_n hx hb dX1_become_11 rfl (lv_at hl 0 rfl) ?_
  refine va_get (D := D) (ci := 1) (v := .ref taq) (C := RX1) (T := TX1) (N := 2) hx hb hts uX1_become_X1 hown hK hP 0 rfl rfl 1 (by decide) (hts _ kX1_become_1) (fun _ h9 => h9) rfl dX1_become_12 ?_
  refine lv_aload_n hx hb dX1_become_15 rfl (lv_at hl 1 rfl) ?_
  refine va_get (D := D) (ci := 1) (v := .ref oaq) (C := RX1) (T := TX1) (N := 2) hx hb hts uX1_become_X1 hown hK hP 5 rfl rfl 1 (by decide) (hts _ kX1_become_1) (fun _ h9 => h9) rfl dX1_become_16 ?_
  refine yk_v [3, 4, 8, 9] (va_runV (As := [.ref oaq]) (rest := []) ⟨hx, hb, hml, hown, hts⟩ (c_X3_become l D cy taq taqn oaq oaqn fv gv H.size) (cwV 1 hts gX1_become_X3_become rfl rfl rfl hv_X3_become (yk_room hRf hRl rfl rfl)) (yk_pv (q := (RX3, TX3, 1)) hG hA hS hK hP hD [3, 4, 8, 9] (by decide +kernel) rfl rfl rfl) rfl rfl hl.1 rfl (lv_room (Nat.le_of_ble_eq_true rfl)) dX1_become_19 ⟨Nat.zero_le _, Nat.zero_le _⟩) hP hD hS hA rfl (Eq.trans (b := [taq, taqn, oaq, oaqn]) rfl rfl) (fun H locs hP9 hD9 hS9 => ?_)
  replace hP : va_P D vwCl [(ta, .inr (1, [.ref tap, .ref taq])), (tap, .inr (3, [.ref tapn])), (tapn, .inl (cy 0, 6, .inl (f_X3_become fu gu))), (taq, .inr (3, [.ref taqn])), (taqn, .inl (cy 0, 6, .inl (f_X3_become fv gv))), (oa, .inr (1, [.ref oap, .ref oaq])), (oap, .inr (3, [.ref oapn])), (oapn, .inl (cy 0, 6, .inl gu)), (oaq, .inr (3, [.ref oaqn])), (oaqn, .inl (cy 0, 6, .inl gv))] H := hP9
  replace hD : va_D A [(ta, .inr (1, [.ref tap, .ref taq])), (tap, .inr (3, [.ref tapn])), (tapn, .inl (cy 0, 6, .inl (f_X3_become fu gu))), (taq, .inr (3, [.ref taqn])), (taqn, .inl (cy 0, 6, .inl (f_X3_become fv gv))), (oa, .inr (1, [.ref oap, .ref oaq])), (oap, .inr (3, [.ref oapn])), (oapn, .inl (cy 0, 6, .inl gu)), (oaq, .inr (3, [.ref oaqn])), (oaqn, .inl (cy 0, 6, .inl gv))] := hD9
  replace hS := hS9
  clear hP9 hD9 hS9
  have hF : f_X1_become fu fv gu gv = ((f_X3_become fu gu), (f_X3_become fv gv)) := hF
  rw [hF] at hQ
  exact hQ _ _ _ _ dX1_become_22 hP hS

theorem kX1_fits_0 : Cond.fieldLink RX1 12 "FlowPlane$Flow" "p" "LFlowPlane$Polynomial;" ∈ wsX1_fits := by decide +kernel
theorem kX1_fits_1 : Cond.fieldLink RX1 18 "FlowPlane$Flow" "q" "LFlowPlane$Polynomial;" ∈ wsX1_fits := by decide +kernel
theorem uX1_fits_X1 : ∀ w ∈ u_ws RX1 TX1 2, w ∈ wsX1_fits := by decide +kernel
def f_X1_fits (fu : Nat → Int32) (fv : Nat → Int32) : Int32 := (if (f_X3_fits fu) = 0 then 0 else (if (f_X3_fits fv) = 0 then 0 else 1))
theorem b_X1_fits (fu : Nat → Int32) (fv : Nat → Int32) : (f_X1_fits fu fv) = 0 ∨ (f_X1_fits fu fv) = 1 := by
  unfold f_X1_fits; (repeat' split) <;> first | exact Or.inl (by with_reducible rfl) | exact Or.inr (by with_reducible rfl) | with_reducible exact b_X3_fits _
set_option maxHeartbeats 400000000 in
set_option maxRecDepth 100000 in
theorem c_X1_fits (l : Launch) (D : va_G) (cy : Nat → ClassId) (ta : Nat) (tap : Nat) (tapn : Nat) (taq : Nat) (taqn : Nat) (fu : Nat → Int32) (fv : Nat → Int32) : yk_Ci l D vwCl (yk_ty cy) yX1_fits wsX1_fits 2 42 [.ref ta] [(ta, .inr (1, [.ref tap, .ref taq])), (tap, .inr (3, [.ref tapn])), (tapn, .inl (cy 0, 6, .inl fu)), (taq, .inr (3, [.ref taqn])), (taqn, .inl (cy 0, 6, .inl fv))] (f_X1_fits fu fv) [(ta, .inr (1, [.ref tap, .ref taq])), (tap, .inr (3, [.ref tapn])), (tapn, .inl (cy 0, 6, .inl fu)), (taq, .inr (3, [.ref taqn])), (taqn, .inl (cy 0, 6, .inl fv))] := by
  refine yk_eI (cc := cX1_fits) (maxL := 1) (by decide) rfl (Nat.le_of_ble_eq_true rfl) (yk_nb (b_X1_fits fu fv)) ?_
  intro p e R s m args below meth c A Q ls H locs hx hb hml hown hts hRf hRl hA hK hG hP hD hS hl hQ
  have hP : va_P D vwCl [(ta, .inr (1, [.ref tap, .ref taq])), (tap, .inr (3, [.ref tapn])), (tapn, .inl (cy 0, 6, .inl fu)), (taq, .inr (3, [.ref taqn])), (taqn, .inl (cy 0, 6, .inl fv))] H := hP
  have hl : lv_has ls 1 [(0, .ref ta)] := hl
  have hown : s.vm.findClass RX1 = some m.cls := hown
  have hF : (f_X1_fits fu fv) = (f_X1_fits fu fv) := rfl
  refine lv_aload_n hx hb dX1_fits_0 rfl (lv_at hl 0 rfl) ?_
  refine va_get (D := D) (ci := 1) (v := .ref tap) (C := RX1) (T := TX1) (N := 2) hx hb hts uX1_fits_X1 hown hK hP 0 rfl rfl 0 (by decide) (hts _ kX1_fits_0) (fun _ h9 => h9) rfl dX1_fits_1 ?_
  refine yk_i [1, 2] (va_runV (As := []) (rest := []) ⟨hx, hb, hml, hown, hts⟩ (c_X3_fits l D cy tap tapn fu H.size) (cwV 0 hts gX1_fits_X3_fits rfl rfl rfl hv_X3_fits (yk_room hRf hRl rfl rfl)) (yk_pv (q := (RX3, TX3, 1)) hG hA hS hK hP hD [1, 2] (by decide +kernel) rfl rfl rfl) rfl rfl hl.1 rfl (lv_room (Nat.le_of_ble_eq_true rfl)) dX1_fits_4 ⟨Nat.zero_le _, Nat.zero_le _⟩) hP hD hS hA rfl (Eq.trans (b := [tap, tapn]) rfl rfl) (fun H locs hP9 hD9 hS9 => ?_)
  replace hP : va_P D vwCl [(ta, .inr (1, [.ref tap, .ref taq])), (tap, .inr (3, [.ref tapn])), (tapn, .inl (cy 0, 6, .inl fu)), (taq, .inr (3, [.ref taqn])), (taqn, .inl (cy 0, 6, .inl fv))] H := hP9
  replace hD : va_D A [(ta, .inr (1, [.ref tap, .ref taq])), (tap, .inr (3, [.ref tapn])), (tapn, .inl (cy 0, 6, .inl fu)), (taq, .inr (3, [.ref taqn])), (taqn, .inl (cy 0, 6, .inl fv))] := hD9
  replace hS := hS9
  clear hP9 hD9 hS9
  have J4 : ∀ (v3 : Int32) (H : Heap) (locs : List Loc) (ls : Array Slot), v3 = (if (f_X3_fits fu) = 0 then 0 else (if (f_X3_fits fv) = 0 then 0 else 1)) → va_P D vwCl [(ta, .inr (1, [.ref tap, .ref taq])), (tap, .inr (3, [.ref tapn])), (tapn, .inl (cy 0, 6, .inl fu)), (taq, .inr (3, [.ref taqn])), (taqn, .inl (cy 0, 6, .inl fv))] H → va_D A [(ta, .inr (1, [.ref tap, .ref taq])), (tap, .inr (3, [.ref tapn])), (tapn, .inl (cy 0, 6, .inl fu)), (taq, .inr (3, [.ref taqn])), (taqn, .inl (cy 0, 6, .inl fv))] → va_S A s.heap H locs → lv_has ls 1 [(0, .ref ta)] → W p l e R s m args below meth c H locs 0 0 Q (F0 m 25 ls [.int v3]) := by
    clear hP hD hS hl
    intro v3 H locs ls ev3
    rw [ev3]
    clear ev3
    intro hP hD hS hl
    have hF : f_X1_fits fu fv = (if (f_X3_fits fu) = 0 then 0 else (if (f_X3_fits fv) = 0 then 0 else 1)) := hF
    rw [hF] at hQ
    exact hQ _ _ _ _ dX1_fits_25 hP hS
  refine lv_if_eq (tgt := 24) hx hb dX1_fits_7 (by decide) (fun hc1 => ?_) (fun hc1 => ?_)
  · refine lv_iconst (v := 0) hx hb dX1_fits_24 (by decide) ?_
    exact J4 _ _ _ _ ((if_pos hc1).symm) hP hD hS (lv_sub hl [0] rfl)
  · refine lv_aload_n hx hb dX1_fits_10 rfl (lv_at hl 0 rfl) ?_
    refine va_get (D := D) (ci := 1) (v := .ref taq) (C := RX1) (T := TX1) (N := 2) hx hb hts uX1_fits_X1 hown hK hP 0 rfl rfl 1 (by decide) (hts _ kX1_fits_1) (fun _ h9 => h9) rfl dX1_fits_11 ?_
    refine yk_i [3, 4] (va_runV (As := []) (rest := []) ⟨hx, hb, hml, hown, hts⟩ (c_X3_fits l D cy taq taqn fv H.size) (cwV 0 hts gX1_fits_X3_fits rfl rfl rfl hv_X3_fits (yk_room hRf hRl rfl rfl)) (yk_pv (q := (RX3, TX3, 1)) hG hA hS hK hP hD [3, 4] (by decide +kernel) rfl rfl rfl) rfl rfl hl.1 rfl (lv_room (Nat.le_of_ble_eq_true rfl)) dX1_fits_14 ⟨Nat.zero_le _, Nat.zero_le _⟩) hP hD hS hA rfl (Eq.trans (b := [taq, taqn]) rfl rfl) (fun H locs hP9 hD9 hS9 => ?_)
    replace hP : va_P D vwCl [(ta, .inr (1, [.ref tap, .ref taq])), (tap, .inr (3, [.ref tapn])), (tapn, .inl (cy 0, 6, .inl fu)), (taq, .inr (3, [.ref taqn])), (taqn, .inl (cy 0, 6, .inl fv))] H := hP9
    replace hD : va_D A [(ta, .inr (1, [.ref tap, .ref taq])), (tap, .inr (3, [.ref tapn])), (tapn, .inl (cy 0, 6, .inl fu)), (taq, .inr (3, [.ref taqn])), (taqn, .inl (cy 0, 6, .inl fv))] := hD9
    replace hS := hS9
    clear hP9 hD9 hS9
    refine lv_if_eq (tgt := 24) hx hb dX1_fits_17 (by decide) (fun hc2 => ?_) (fun hc2 => ?_)
    · refine lv_iconst (v := 0) hx hb dX1_fits_24 (by decide) ?_
      exact J4 _ _ _ _ (((if_neg hc1).trans (if_pos hc2)).symm) hP hD hS (lv_sub hl [0] rfl)
    · refine lv_iconst (v := 1) hx hb dX1_fits_20 (by decide) ?_
      refine lv_goto (tgt := 25) hx hb dX1_fits_21 (by decide) ?_
      exact J4 _ _ _ _ (((if_neg hc1).trans (if_neg hc2)).symm) hP hD hS (lv_sub hl [0] rfl)

theorem kX1_countNotZero_0 : Cond.fieldLink RX1 12 "FlowPlane$Flow" "p" "LFlowPlane$Polynomial;" ∈ wsX1_countNotZero := by decide +kernel
theorem kX1_countNotZero_1 : Cond.fieldLink RX1 18 "FlowPlane$Flow" "q" "LFlowPlane$Polynomial;" ∈ wsX1_countNotZero := by decide +kernel
theorem uX1_countNotZero_X1 : ∀ w ∈ u_ws RX1 TX1 2, w ∈ wsX1_countNotZero := by decide +kernel
def f_X1_countNotZero (fu : Nat → Int32) (fv : Nat → Int32) : Int32 := ((f_X3_countNotZero fu) + (f_X3_countNotZero fv))
set_option maxHeartbeats 400000000 in
set_option maxRecDepth 100000 in
theorem c_X1_countNotZero (l : Launch) (D : va_G) (cy : Nat → ClassId) (ta : Nat) (tap : Nat) (tapn : Nat) (taq : Nat) (taqn : Nat) (fu : Nat → Int32) (fv : Nat → Int32) : yk_Ci l D vwCl (yk_ty cy) yX1_countNotZero wsX1_countNotZero 1 22 [.ref ta] [(ta, .inr (1, [.ref tap, .ref taq])), (tap, .inr (3, [.ref tapn])), (tapn, .inl (cy 0, 6, .inl fu)), (taq, .inr (3, [.ref taqn])), (taqn, .inl (cy 0, 6, .inl fv))] (f_X1_countNotZero fu fv) [(ta, .inr (1, [.ref tap, .ref taq])), (tap, .inr (3, [.ref tapn])), (tapn, .inl (cy 0, 6, .inl fu)), (taq, .inr (3, [.ref taqn])), (taqn, .inl (cy 0, 6, .inl fv))] := by
  refine yk_eI (cc := cX1_countNotZero) (maxL := 1) (by decide) rfl (Nat.le_of_ble_eq_true rfl) rfl ?_
  intro p e R s m args below meth c A Q ls H locs hx hb hml hown hts hRf hRl hA hK hG hP hD hS hl hQ
  have hP : va_P D vwCl [(ta, .inr (1, [.ref tap, .ref taq])), (tap, .inr (3, [.ref tapn])), (tapn, .inl (cy 0, 6, .inl fu)), (taq, .inr (3, [.ref taqn])), (taqn, .inl (cy 0, 6, .inl fv))] H := hP
  have hl : lv_has ls 1 [(0, .ref ta)] := hl
  have hown : s.vm.findClass RX1 = some m.cls := hown
  have hF : (f_X1_countNotZero fu fv) = (f_X1_countNotZero fu fv) := rfl
  refine lv_aload_n hx hb dX1_countNotZero_0 rfl (lv_at hl 0 rfl) ?_
  refine va_get (D := D) (ci := 1) (v := .ref tap) (C := RX1) (T := TX1) (N := 2) hx hb hts uX1_countNotZero_X1 hown hK hP 0 rfl rfl 0 (by decide) (hts _ kX1_countNotZero_0) (fun _ h9 => h9) rfl dX1_countNotZero_1 ?_
  refine yk_i [1, 2] (va_runV (As := []) (rest := []) ⟨hx, hb, hml, hown, hts⟩ (c_X3_countNotZero l D cy tap tapn fu H.size) (cwV 0 hts gX1_countNotZero_X3_countNotZero rfl rfl rfl hv_X3_countNotZero (yk_room hRf hRl rfl rfl)) (yk_pv (q := (RX3, TX3, 1)) hG hA hS hK hP hD [1, 2] (by decide +kernel) rfl rfl rfl) rfl rfl hl.1 rfl (lv_room (Nat.le_of_ble_eq_true rfl)) dX1_countNotZero_4 ⟨Nat.zero_le _, Nat.zero_le _⟩) hP hD hS hA rfl (Eq.trans (b := [tap, tapn]) rfl rfl) (fun H locs hP9 hD9 hS9 => ?_)
  replace hP : va_P D vwCl [(ta, .inr (1, [.ref tap, .ref taq])), (tap, .inr (3, [.ref tapn])), (tapn, .inl (cy 0, 6, .inl fu)), (taq, .inr (3, [.ref taqn])), (taqn, .inl (cy 0, 6, .inl fv))] H := hP9
  replace hD : va_D A [(ta, .inr (1, [.ref tap, .ref taq])), (tap, .inr (3, [.ref tapn])), (tapn, .inl (cy 0, 6, .inl fu)), (taq, .inr (3, [.ref taqn])), (taqn, .inl (cy 0, 6, .inl fv))] := hD9
  replace hS := hS9
  clear hP9 hD9 hS9
  refine lv_aload_n hx hb dX1_countNotZero_7 rfl (lv_at hl 0 rfl) ?_
  refine va_get (D := D) (ci := 1) (v := .ref taq) (C := RX1) (T := TX1) (N := 2) hx hb hts uX1_countNotZero_X1 hown hK hP 0 rfl rfl 1 (by decide) (hts _ kX1_countNotZero_1) (fun _ h9 => h9) rfl dX1_countNotZero_8 ?_
  refine yk_i [3, 4] (va_runV (As := []) (rest := [.int (f_X3_countNotZero fu)]) ⟨hx, hb, hml, hown, hts⟩ (c_X3_countNotZero l D cy taq taqn fv H.size) (cwV 0 hts gX1_countNotZero_X3_countNotZero rfl rfl rfl hv_X3_countNotZero (yk_room hRf hRl rfl rfl)) (yk_pv (q := (RX3, TX3, 1)) hG hA hS hK hP hD [3, 4] (by decide +kernel) rfl rfl rfl) rfl rfl hl.1 rfl (lv_room (Nat.le_of_ble_eq_true rfl)) dX1_countNotZero_11 ⟨Nat.zero_le _, Nat.zero_le _⟩) hP hD hS hA rfl (Eq.trans (b := [taq, taqn]) rfl rfl) (fun H locs hP9 hD9 hS9 => ?_)
  replace hP : va_P D vwCl [(ta, .inr (1, [.ref tap, .ref taq])), (tap, .inr (3, [.ref tapn])), (tapn, .inl (cy 0, 6, .inl fu)), (taq, .inr (3, [.ref taqn])), (taqn, .inl (cy 0, 6, .inl fv))] H := hP9
  replace hD : va_D A [(ta, .inr (1, [.ref tap, .ref taq])), (tap, .inr (3, [.ref tapn])), (tapn, .inl (cy 0, 6, .inl fu)), (taq, .inr (3, [.ref taqn])), (taqn, .inl (cy 0, 6, .inl fv))] := hD9
  replace hS := hS9
  clear hP9 hD9 hS9
  refine lv_iadd hx hb dX1_countNotZero_14 ?_
  have hF : f_X1_countNotZero fu fv = ((f_X3_countNotZero fu) + (f_X3_countNotZero fv)) := hF
  rw [hF] at hQ
  exact hQ _ _ _ _ dX1_countNotZero_15 hP hS

theorem kX1_isRest_0 : Cond.fieldLink RX1 12 "FlowPlane$Flow" "p" "LFlowPlane$Polynomial;" ∈ wsX1_isRest := by decide +kernel
theorem kX1_isRest_1 : Cond.fieldLink RX1 18 "FlowPlane$Flow" "q" "LFlowPlane$Polynomial;" ∈ wsX1_isRest := by decide +kernel
theorem uX1_isRest_X1 : ∀ w ∈ u_ws RX1 TX1 2, w ∈ wsX1_isRest := by decide +kernel
def f_X1_isRest (fu : Nat → Int32) (fv : Nat → Int32) (x : Int32) (y : Int32) : Int32 := (if (f_X3_at fu x y) = 0 then (if (f_X3_at fv x y) = 0 then 1 else 0) else 0)
theorem b_X1_isRest (fu : Nat → Int32) (fv : Nat → Int32) (x : Int32) (y : Int32) : (f_X1_isRest fu fv x y) = 0 ∨ (f_X1_isRest fu fv x y) = 1 := by
  unfold f_X1_isRest; (repeat' split) <;> first | exact Or.inl (by with_reducible rfl) | exact Or.inr (by with_reducible rfl)
set_option maxHeartbeats 400000000 in
set_option maxRecDepth 100000 in
theorem c_X1_isRest (l : Launch) (D : va_G) (cy : Nat → ClassId) (ta : Nat) (tap : Nat) (tapn : Nat) (taq : Nat) (taqn : Nat) (fu : Nat → Int32) (fv : Nat → Int32) (x : Int32) (y : Int32) : yk_Ci l D vwCl (yk_ty cy) yX1_isRest wsX1_isRest 2 44 [.ref ta, .int x, .int y] [(ta, .inr (1, [.ref tap, .ref taq])), (tap, .inr (3, [.ref tapn])), (tapn, .inl (cy 0, 6, .inl fu)), (taq, .inr (3, [.ref taqn])), (taqn, .inl (cy 0, 6, .inl fv))] (f_X1_isRest fu fv x y) [(ta, .inr (1, [.ref tap, .ref taq])), (tap, .inr (3, [.ref tapn])), (tapn, .inl (cy 0, 6, .inl fu)), (taq, .inr (3, [.ref taqn])), (taqn, .inl (cy 0, 6, .inl fv))] := by
  refine yk_eI (cc := cX1_isRest) (maxL := 3) (by decide) rfl (Nat.le_of_ble_eq_true rfl) (yk_nb (b_X1_isRest fu fv x y)) ?_
  intro p e R s m args below meth c A Q ls H locs hx hb hml hown hts hRf hRl hA hK hG hP hD hS hl hQ
  have hP : va_P D vwCl [(ta, .inr (1, [.ref tap, .ref taq])), (tap, .inr (3, [.ref tapn])), (tapn, .inl (cy 0, 6, .inl fu)), (taq, .inr (3, [.ref taqn])), (taqn, .inl (cy 0, 6, .inl fv))] H := hP
  have hl : lv_has ls 3 [(0, .ref ta), (1, .int x), (2, .int y)] := hl
  have hown : s.vm.findClass RX1 = some m.cls := hown
  have hF : (f_X1_isRest fu fv x y) = (f_X1_isRest fu fv x y) := rfl
  refine lv_aload_n hx hb dX1_isRest_0 rfl (lv_at hl 0 rfl) ?_
  refine va_get (D := D) (ci := 1) (v := .ref tap) (C := RX1) (T := TX1) (N := 2) hx hb hts uX1_isRest_X1 hown hK hP 0 rfl rfl 0 (by decide) (hts _ kX1_isRest_0) (fun _ h9 => h9) rfl dX1_isRest_1 ?_
  refine lv_iload_n hx hb dX1_isRest_4 rfl (lv_at hl 1 rfl) ?_
  refine lv_iload_n hx hb dX1_isRest_5 rfl (lv_at hl 2 rfl) ?_
  refine yk_i [1, 2] (va_runV (As := [.int x, .int y]) (rest := []) ⟨hx, hb, hml, hown, hts⟩ (c_X3_at l D cy tap tapn fu x y H.size) (cwV 2 hts gX1_isRest_X3_at rfl rfl rfl hv_X3_at (yk_room hRf hRl rfl rfl)) (yk_pv (q := (RX3, TX3, 1)) hG hA hS hK hP hD [1, 2] (by decide +kernel) rfl rfl rfl) rfl rfl hl.1 rfl (lv_room (Nat.le_of_ble_eq_true rfl)) dX1_isRest_6 ⟨Nat.zero_le _, Nat.zero_le _⟩) hP hD hS hA rfl (Eq.trans (b := [tap, tapn]) rfl rfl) (fun H locs hP9 hD9 hS9 => ?_)
  replace hP : va_P D vwCl [(ta, .inr (1, [.ref tap, .ref taq])), (tap, .inr (3, [.ref tapn])), (tapn, .inl (cy 0, 6, .inl fu)), (taq, .inr (3, [.ref taqn])), (taqn, .inl (cy 0, 6, .inl fv))] H := hP9
  replace hD : va_D A [(ta, .inr (1, [.ref tap, .ref taq])), (tap, .inr (3, [.ref tapn])), (tapn, .inl (cy 0, 6, .inl fu)), (taq, .inr (3, [.ref taqn])), (taqn, .inl (cy 0, 6, .inl fv))] := hD9
  replace hS := hS9
  clear hP9 hD9 hS9
  have J4 : ∀ (v3 : Int32) (H : Heap) (locs : List Loc) (ls : Array Slot), v3 = (if (f_X3_at fu x y) = 0 then (if (f_X3_at fv x y) = 0 then 1 else 0) else 0) → va_P D vwCl [(ta, .inr (1, [.ref tap, .ref taq])), (tap, .inr (3, [.ref tapn])), (tapn, .inl (cy 0, 6, .inl fu)), (taq, .inr (3, [.ref taqn])), (taqn, .inl (cy 0, 6, .inl fv))] H → va_D A [(ta, .inr (1, [.ref tap, .ref taq])), (tap, .inr (3, [.ref tapn])), (tapn, .inl (cy 0, 6, .inl fu)), (taq, .inr (3, [.ref taqn])), (taqn, .inl (cy 0, 6, .inl fv))] → va_S A s.heap H locs → lv_has ls 3 [(0, .ref ta), (1, .int x), (2, .int y)] → W p l e R s m args below meth c H locs 0 0 Q (F0 m 29 ls [.int v3]) := by
    clear hP hD hS hl
    intro v3 H locs ls ev3
    rw [ev3]
    clear ev3
    intro hP hD hS hl
    have hF : f_X1_isRest fu fv x y = (if (f_X3_at fu x y) = 0 then (if (f_X3_at fv x y) = 0 then 1 else 0) else 0) := hF
    rw [hF] at hQ
    exact hQ _ _ _ _ dX1_isRest_29 hP hS
  refine lv_if_ne (tgt := 28) hx hb dX1_isRest_9 (by decide) (fun hc1 => ?_) (fun hc1 => ?_)
  · refine lv_iconst (v := 0) hx hb dX1_isRest_28 (by decide) ?_
    exact J4 _ _ _ _ ((if_neg hc1).symm) hP hD hS (lv_sub hl [0, 1, 2] rfl)
  · refine lv_aload_n hx hb dX1_isRest_12 rfl (lv_at hl 0 rfl) ?_
    refine va_get (D := D) (ci := 1) (v := .ref taq) (C := RX1) (T := TX1) (N := 2) hx hb hts uX1_isRest_X1 hown hK hP 0 rfl rfl 1 (by decide) (hts _ kX1_isRest_1) (fun _ h9 => h9) rfl dX1_isRest_13 ?_
    refine lv_iload_n hx hb dX1_isRest_16 rfl (lv_at hl 1 rfl) ?_
    refine lv_iload_n hx hb dX1_isRest_17 rfl (lv_at hl 2 rfl) ?_
    refine yk_i [3, 4] (va_runV (As := [.int x, .int y]) (rest := []) ⟨hx, hb, hml, hown, hts⟩ (c_X3_at l D cy taq taqn fv x y H.size) (cwV 2 hts gX1_isRest_X3_at rfl rfl rfl hv_X3_at (yk_room hRf hRl rfl rfl)) (yk_pv (q := (RX3, TX3, 1)) hG hA hS hK hP hD [3, 4] (by decide +kernel) rfl rfl rfl) rfl rfl hl.1 rfl (lv_room (Nat.le_of_ble_eq_true rfl)) dX1_isRest_18 ⟨Nat.zero_le _, Nat.zero_le _⟩) hP hD hS hA rfl (Eq.trans (b := [taq, taqn]) rfl rfl) (fun H locs hP9 hD9 hS9 => ?_)
    replace hP : va_P D vwCl [(ta, .inr (1, [.ref tap, .ref taq])), (tap, .inr (3, [.ref tapn])), (tapn, .inl (cy 0, 6, .inl fu)), (taq, .inr (3, [.ref taqn])), (taqn, .inl (cy 0, 6, .inl fv))] H := hP9
    replace hD : va_D A [(ta, .inr (1, [.ref tap, .ref taq])), (tap, .inr (3, [.ref tapn])), (tapn, .inl (cy 0, 6, .inl fu)), (taq, .inr (3, [.ref taqn])), (taqn, .inl (cy 0, 6, .inl fv))] := hD9
    replace hS := hS9
    clear hP9 hD9 hS9
    refine lv_if_ne (tgt := 28) hx hb dX1_isRest_21 (by decide) (fun hc2 => ?_) (fun hc2 => ?_)
    · refine lv_iconst (v := 0) hx hb dX1_isRest_28 (by decide) ?_
      exact J4 _ _ _ _ (((if_pos hc1).trans (if_neg hc2)).symm) hP hD hS (lv_sub hl [0, 1, 2] rfl)
    · refine lv_iconst (v := 1) hx hb dX1_isRest_24 (by decide) ?_
      refine lv_goto (tgt := 29) hx hb dX1_isRest_25 (by decide) ?_
      exact J4 _ _ _ _ (((if_pos hc1).trans (if_pos hc2)).symm) hP hD hS (lv_sub hl [0, 1, 2] rfl)

theorem kX1_sortAt_0 : Cond.fieldLink RX1 12 "FlowPlane$Flow" "p" "LFlowPlane$Polynomial;" ∈ wsX1_sortAt := by decide +kernel
theorem kX1_sortAt_1 : Cond.fieldLink RX1 18 "FlowPlane$Flow" "q" "LFlowPlane$Polynomial;" ∈ wsX1_sortAt := by decide +kernel
theorem uX1_sortAt_X1 : ∀ w ∈ u_ws RX1 TX1 2, w ∈ wsX1_sortAt := by decide +kernel
def f_X1_sortAt (fu : Nat → Int32) (fv : Nat → Int32) (x : Int32) (y : Int32) : Int32 := (if (((f_X3_byX fu x y) * (f_X3_byY fv x y)) - ((f_X3_byY fu x y) * (f_X3_byX fv x y))) = 0 then 5 else (if 0 ≤ (((f_X3_byX fu x y) * (f_X3_byY fv x y)) - ((f_X3_byY fu x y) * (f_X3_byX fv x y))) then (if (((f_X3_byX fu x y) + (f_X3_byY fv x y)) * ((f_X3_byX fu x y) + (f_X3_byY fv x y))) < (4 * (((f_X3_byX fu x y) * (f_X3_byY fv x y)) - ((f_X3_byY fu x y) * (f_X3_byX fv x y)))) then (if ((f_X3_byX fu x y) + (f_X3_byY fv x y)) = 0 then 4 else 3) else 2) else 1))
set_option maxHeartbeats 400000000 in
set_option maxRecDepth 100000 in
theorem c_X1_sortAt (l : Launch) (D : va_G) (cy : Nat → ClassId) (ta : Nat) (tap : Nat) (tapn : Nat) (taq : Nat) (taqn : Nat) (fu : Nat → Int32) (fv : Nat → Int32) (x : Int32) (y : Int32) : yk_Ci l D vwCl (yk_ty cy) yX1_sortAt wsX1_sortAt 1 22 [.ref ta, .int x, .int y] [(ta, .inr (1, [.ref tap, .ref taq])), (tap, .inr (3, [.ref tapn])), (tapn, .inl (cy 0, 6, .inl fu)), (taq, .inr (3, [.ref taqn])), (taqn, .inl (cy 0, 6, .inl fv))] (f_X1_sortAt fu fv x y) [(ta, .inr (1, [.ref tap, .ref taq])), (tap, .inr (3, [.ref tapn])), (tapn, .inl (cy 0, 6, .inl fu)), (taq, .inr (3, [.ref taqn])), (taqn, .inl (cy 0, 6, .inl fv))] := by
  refine yk_eI (cc := cX1_sortAt) (maxL := 5) (by decide) rfl (Nat.le_of_ble_eq_true rfl) rfl ?_
  intro p e R s m args below meth c A Q ls H locs hx hb hml hown hts hRf hRl hA hK hG hP hD hS hl hQ
  have hP : va_P D vwCl [(ta, .inr (1, [.ref tap, .ref taq])), (tap, .inr (3, [.ref tapn])), (tapn, .inl (cy 0, 6, .inl fu)), (taq, .inr (3, [.ref taqn])), (taqn, .inl (cy 0, 6, .inl fv))] H := hP
  have hl : lv_has ls 5 [(0, .ref ta), (1, .int x), (2, .int y)] := hl
  have hown : s.vm.findClass RX1 = some m.cls := hown
  have hF : (f_X1_sortAt fu fv x y) = (f_X1_sortAt fu fv x y) := rfl
  refine lv_aload_n hx hb dX1_sortAt_0 rfl (lv_at hl 0 rfl) ?_
  refine va_get (D := D) (ci := 1) (v := .ref tap) (C := RX1) (T := TX1) (N := 2) hx hb hts uX1_sortAt_X1 hown hK hP 0 rfl rfl 0 (by decide) (hts _ kX1_sortAt_0) (fun _ h9 => h9) rfl dX1_sortAt_1 ?_
  refine lv_iload_n hx hb dX1_sortAt_4 rfl (lv_at hl 1 rfl) ?_
  refine lv_iload_n hx hb dX1_sortAt_5 rfl (lv_at hl 2 rfl) ?_
  refine yk_i [1, 2] (va_runV (As := [.int x, .int y]) (rest := []) ⟨hx, hb, hml, hown, hts⟩ (c_X3_byX l D cy tap tapn fu x y H.size) (cwV 2 hts gX1_sortAt_X3_byX rfl rfl rfl hv_X3_byX (yk_room hRf hRl rfl rfl)) (yk_pv (q := (RX3, TX3, 1)) hG hA hS hK hP hD [1, 2] (by decide +kernel) rfl rfl rfl) rfl rfl hl.1 rfl (lv_room (Nat.le_of_ble_eq_true rfl)) dX1_sortAt_6 ⟨Nat.zero_le _, Nat.zero_le _⟩) hP hD hS hA rfl (Eq.trans (b := [tap, tapn]) rfl rfl) (fun H locs hP9 hD9 hS9 => ?_)
  replace hP : va_P D vwCl [(ta, .inr (1, [.ref tap, .ref taq])), (tap, .inr (3, [.ref tapn])), (tapn, .inl (cy 0, 6, .inl fu)), (taq, .inr (3, [.ref taqn])), (taqn, .inl (cy 0, 6, .inl fv))] H := hP9
  replace hD : va_D A [(ta, .inr (1, [.ref tap, .ref taq])), (tap, .inr (3, [.ref tapn])), (tapn, .inl (cy 0, 6, .inl fu)), (taq, .inr (3, [.ref taqn])), (taqn, .inl (cy 0, 6, .inl fv))] := hD9
  replace hS := hS9
  clear hP9 hD9 hS9
  refine lv_aload_n hx hb dX1_sortAt_9 rfl (lv_at hl 0 rfl) ?_
  refine va_get (D := D) (ci := 1) (v := .ref taq) (C := RX1) (T := TX1) (N := 2) hx hb hts uX1_sortAt_X1 hown hK hP 0 rfl rfl 1 (by decide) (hts _ kX1_sortAt_1) (fun _ h9 => h9) rfl dX1_sortAt_10 ?_
  refine lv_iload_n hx hb dX1_sortAt_13 rfl (lv_at hl 1 rfl) ?_
  refine lv_iload_n hx hb dX1_sortAt_14 rfl (lv_at hl 2 rfl) ?_
  refine yk_i [3, 4] (va_runV (As := [.int x, .int y]) (rest := [.int (f_X3_byX fu x y)]) ⟨hx, hb, hml, hown, hts⟩ (c_X3_byY l D cy taq taqn fv x y H.size) (cwV 2 hts gX1_sortAt_X3_byY rfl rfl rfl hv_X3_byY (yk_room hRf hRl rfl rfl)) (yk_pv (q := (RX3, TX3, 1)) hG hA hS hK hP hD [3, 4] (by decide +kernel) rfl rfl rfl) rfl rfl hl.1 rfl (lv_room (Nat.le_of_ble_eq_true rfl)) dX1_sortAt_15 ⟨Nat.zero_le _, Nat.zero_le _⟩) hP hD hS hA rfl (Eq.trans (b := [taq, taqn]) rfl rfl) (fun H locs hP9 hD9 hS9 => ?_)
  replace hP : va_P D vwCl [(ta, .inr (1, [.ref tap, .ref taq])), (tap, .inr (3, [.ref tapn])), (tapn, .inl (cy 0, 6, .inl fu)), (taq, .inr (3, [.ref taqn])), (taqn, .inl (cy 0, 6, .inl fv))] H := hP9
  replace hD : va_D A [(ta, .inr (1, [.ref tap, .ref taq])), (tap, .inr (3, [.ref tapn])), (tapn, .inl (cy 0, 6, .inl fu)), (taq, .inr (3, [.ref taqn])), (taqn, .inl (cy 0, 6, .inl fv))] := hD9
  replace hS := hS9
  clear hP9 hD9 hS9
  refine lv_iadd hx hb dX1_sortAt_18 ?_
  refine lv_istore_n (lv' := [(3, .int ((f_X3_byX fu x y) + (f_X3_byY fv x y))), (0, .ref ta), (1, .int x), (2, .int y)]) hx hb dX1_sortAt_19 rfl hl (by decide) rfl (fun ls hl9 => ?_)
  replace hl := hl9
  clear hl9
  refine lv_aload_n hx hb dX1_sortAt_20 rfl (lv_at hl 1 rfl) ?_
  refine va_get (D := D) (ci := 1) (v := .ref tap) (C := RX1) (T := TX1) (N := 2) hx hb hts uX1_sortAt_X1 hown hK hP 0 rfl rfl 0 (by decide) (hts _ kX1_sortAt_0) (fun _ h9 => h9) rfl dX1_sortAt_21 ?_
  refine lv_iload_n hx hb dX1_sortAt_24 rfl (lv_at hl 2 rfl) ?_
  refine lv_iload_n hx hb dX1_sortAt_25 rfl (lv_at hl 3 rfl) ?_
  refine yk_i [1, 2] (va_runV (As := [.int x, .int y]) (rest := []) ⟨hx, hb, hml, hown, hts⟩ (c_X3_byX l D cy tap tapn fu x y H.size) (cwV 2 hts gX1_sortAt_X3_byX rfl rfl rfl hv_X3_byX (yk_room hRf hRl rfl rfl)) (yk_pv (q := (RX3, TX3, 1)) hG hA hS hK hP hD [1, 2] (by decide +kernel) rfl rfl rfl) rfl rfl hl.1 rfl (lv_room (Nat.le_of_ble_eq_true rfl)) dX1_sortAt_26 ⟨Nat.zero_le _, Nat.zero_le _⟩) hP hD hS hA rfl (Eq.trans (b := [tap, tapn]) rfl rfl) (fun H locs hP9 hD9 hS9 => ?_)
  replace hP : va_P D vwCl [(ta, .inr (1, [.ref tap, .ref taq])), (tap, .inr (3, [.ref tapn])), (tapn, .inl (cy 0, 6, .inl fu)), (taq, .inr (3, [.ref taqn])), (taqn, .inl (cy 0, 6, .inl fv))] H := hP9
  replace hD : va_D A [(ta, .inr (1, [.ref tap, .ref taq])), (tap, .inr (3, [.ref tapn])), (tapn, .inl (cy 0, 6, .inl fu)), (taq, .inr (3, [.ref taqn])), (taqn, .inl (cy 0, 6, .inl fv))] := hD9
  replace hS := hS9
  clear hP9 hD9 hS9
  refine lv_aload_n hx hb dX1_sortAt_29 rfl (lv_at hl 1 rfl) ?_
  refine va_get (D := D) (ci := 1) (v := .ref taq) (C := RX1) (T := TX1) (N := 2) hx hb hts uX1_sortAt_X1 hown hK hP 0 rfl rfl 1 (by decide) (hts _ kX1_sortAt_1) (fun _ h9 => h9) rfl dX1_sortAt_30 ?_
  refine lv_iload_n hx hb dX1_sortAt_33 rfl (lv_at hl 2 rfl) ?_
  refine lv_iload_n hx hb dX1_sortAt_34 rfl (lv_at hl 3 rfl) ?_
  refine yk_i [3, 4] (va_runV (As := [.int x, .int y]) (rest := [.int (f_X3_byX fu x y)]) ⟨hx, hb, hml, hown, hts⟩ (c_X3_byY l D cy taq taqn fv x y H.size) (cwV 2 hts gX1_sortAt_X3_byY rfl rfl rfl hv_X3_byY (yk_room hRf hRl rfl rfl)) (yk_pv (q := (RX3, TX3, 1)) hG hA hS hK hP hD [3, 4] (by decide +kernel) rfl rfl rfl) rfl rfl hl.1 rfl (lv_room (Nat.le_of_ble_eq_true rfl)) dX1_sortAt_35 ⟨Nat.zero_le _, Nat.zero_le _⟩) hP hD hS hA rfl (Eq.trans (b := [taq, taqn]) rfl rfl) (fun H locs hP9 hD9 hS9 => ?_)
  replace hP : va_P D vwCl [(ta, .inr (1, [.ref tap, .ref taq])), (tap, .inr (3, [.ref tapn])), (tapn, .inl (cy 0, 6, .inl fu)), (taq, .inr (3, [.ref taqn])), (taqn, .inl (cy 0, 6, .inl fv))] H := hP9
  replace hD : va_D A [(ta, .inr (1, [.ref tap, .ref taq])), (tap, .inr (3, [.ref tapn])), (tapn, .inl (cy 0, 6, .inl fu)), (taq, .inr (3, [.ref taqn])), (taqn, .inl (cy 0, 6, .inl fv))] := hD9
  replace hS := hS9
  clear hP9 hD9 hS9
  refine lv_imul hx hb dX1_sortAt_38 ?_
  refine lv_aload_n hx hb dX1_sortAt_39 rfl (lv_at hl 1 rfl) ?_
  refine va_get (D := D) (ci := 1) (v := .ref tap) (C := RX1) (T := TX1) (N := 2) hx hb hts uX1_sortAt_X1 hown hK hP 0 rfl rfl 0 (by decide) (hts _ kX1_sortAt_0) (fun _ h9 => h9) rfl dX1_sortAt_40 ?_
  refine lv_iload_n hx hb dX1_sortAt_43 rfl (lv_at hl 2 rfl) ?_
  refine lv_iload_n hx hb dX1_sortAt_44 rfl (lv_at hl 3 rfl) ?_
  refine yk_i [1, 2] (va_runV (As := [.int x, .int y]) (rest := [.int ((f_X3_byX fu x y) * (f_X3_byY fv x y))]) ⟨hx, hb, hml, hown, hts⟩ (c_X3_byY l D cy tap tapn fu x y H.size) (cwV 2 hts gX1_sortAt_X3_byY rfl rfl rfl hv_X3_byY (yk_room hRf hRl rfl rfl)) (yk_pv (q := (RX3, TX3, 1)) hG hA hS hK hP hD [1, 2] (by decide +kernel) rfl rfl rfl) rfl rfl hl.1 rfl (lv_room (Nat.le_of_ble_eq_true rfl)) dX1_sortAt_45 ⟨Nat.zero_le _, Nat.zero_le _⟩) hP hD hS hA rfl (Eq.trans (b := [tap, tapn]) rfl rfl) (fun H locs hP9 hD9 hS9 => ?_)
  replace hP : va_P D vwCl [(ta, .inr (1, [.ref tap, .ref taq])), (tap, .inr (3, [.ref tapn])), (tapn, .inl (cy 0, 6, .inl fu)), (taq, .inr (3, [.ref taqn])), (taqn, .inl (cy 0, 6, .inl fv))] H := hP9
  replace hD : va_D A [(ta, .inr (1, [.ref tap, .ref taq])), (tap, .inr (3, [.ref tapn])), (tapn, .inl (cy 0, 6, .inl fu)), (taq, .inr (3, [.ref taqn])), (taqn, .inl (cy 0, 6, .inl fv))] := hD9
  replace hS := hS9
  clear hP9 hD9 hS9
  refine lv_aload_n hx hb dX1_sortAt_48 rfl (lv_at hl 1 rfl) ?_
  refine va_get (D := D) (ci := 1) (v := .ref taq) (C := RX1) (T := TX1) (N := 2) hx hb hts uX1_sortAt_X1 hown hK hP 0 rfl rfl 1 (by decide) (hts _ kX1_sortAt_1) (fun _ h9 => h9) rfl dX1_sortAt_49 ?_
  refine lv_iload_n hx hb dX1_sortAt_52 rfl (lv_at hl 2 rfl) ?_
  refine lv_iload_n hx hb dX1_sortAt_53 rfl (lv_at hl 3 rfl) ?_
  refine yk_i [3, 4] (va_runV (As := [.int x, .int y]) (rest := [.int (f_X3_byY fu x y), .int ((f_X3_byX fu x y) * (f_X3_byY fv x y))]) ⟨hx, hb, hml, hown, hts⟩ (c_X3_byX l D cy taq taqn fv x y H.size) (cwV 2 hts gX1_sortAt_X3_byX rfl rfl rfl hv_X3_byX (yk_room hRf hRl rfl rfl)) (yk_pv (q := (RX3, TX3, 1)) hG hA hS hK hP hD [3, 4] (by decide +kernel) rfl rfl rfl) rfl rfl hl.1 rfl (lv_room (Nat.le_of_ble_eq_true rfl)) dX1_sortAt_54 ⟨Nat.zero_le _, Nat.zero_le _⟩) hP hD hS hA rfl (Eq.trans (b := [taq, taqn]) rfl rfl) (fun H locs hP9 hD9 hS9 => ?_)
  replace hP : va_P D vwCl [(ta, .inr (1, [.ref tap, .ref taq])), (tap, .inr (3, [.ref tapn])), (tapn, .inl (cy 0, 6, .inl fu)), (taq, .inr (3, [.ref taqn])), (taqn, .inl (cy 0, 6, .inl fv))] H := hP9
  replace hD : va_D A [(ta, .inr (1, [.ref tap, .ref taq])), (tap, .inr (3, [.ref tapn])), (tapn, .inl (cy 0, 6, .inl fu)), (taq, .inr (3, [.ref taqn])), (taqn, .inl (cy 0, 6, .inl fv))] := hD9
  replace hS := hS9
  clear hP9 hD9 hS9
  refine lv_imul hx hb dX1_sortAt_57 ?_
  refine lv_isub hx hb dX1_sortAt_58 ?_
  refine lv_istore (lv' := [(4, .int (((f_X3_byX fu x y) * (f_X3_byY fv x y)) - ((f_X3_byY fu x y) * (f_X3_byX fv x y)))), (3, .int ((f_X3_byX fu x y) + (f_X3_byY fv x y))), (0, .ref ta), (1, .int x), (2, .int y)]) hx hb dX1_sortAt_59 hl (by decide) rfl (fun ls hl9 => ?_)
  replace hl := hl9
  clear hl9
  refine lv_iload hx hb dX1_sortAt_61 (lv_at hl 0 rfl) ?_
  refine lv_if_ne (tgt := 68) hx hb dX1_sortAt_63 (by decide) (fun hc1 => ?_) (fun hc1 => ?_)
  · replace hF := hF.trans (if_neg hc1)
    refine lv_iload hx hb dX1_sortAt_68 (lv_at hl 0 rfl) ?_
    refine lv_if_ge (tgt := 75) hx hb dX1_sortAt_70 (by decide) (fun hc2 => ?_) (fun hc2 => ?_)
    · replace hF := hF.trans (if_pos hc2)
      refine lv_iload_n hx hb dX1_sortAt_75 rfl (lv_at hl 1 rfl) ?_
      refine lv_iload_n hx hb dX1_sortAt_76 rfl (lv_at hl 1 rfl) ?_
      refine lv_imul hx hb dX1_sortAt_77 ?_
      refine lv_iconst (v := 4) hx hb dX1_sortAt_78 (by decide) ?_
      refine lv_iload hx hb dX1_sortAt_79 (lv_at hl 0 rfl) ?_
      refine lv_imul hx hb dX1_sortAt_81 ?_
      refine lv_icmp_lt (tgt := 87) hx hb dX1_sortAt_82 (by decide) (fun hc3 => ?_) (fun hc3 => ?_)
      · replace hF := hF.trans (if_pos hc3)
        refine lv_iload_n hx hb dX1_sortAt_87 rfl (lv_at hl 1 rfl) ?_
        have J6 : ∀ (v5 : Int32) (H : Heap) (locs : List Loc) (ls : Array Slot), v5 = (if ((f_X3_byX fu x y) + (f_X3_byY fv x y)) = 0 then 4 else 3) → va_P D vwCl [(ta, .inr (1, [.ref tap, .ref taq])), (tap, .inr (3, [.ref tapn])), (tapn, .inl (cy 0, 6, .inl fu)), (taq, .inr (3, [.ref taqn])), (taqn, .inl (cy 0, 6, .inl fv))] H → va_D A [(ta, .inr (1, [.ref tap, .ref taq])), (tap, .inr (3, [.ref tapn])), (tapn, .inl (cy 0, 6, .inl fu)), (taq, .inr (3, [.ref taqn])), (taqn, .inl (cy 0, 6, .inl fv))] → va_S A s.heap H locs → lv_has ls 5 [(0, .ref ta), (1, .int x), (2, .int y), (3, .int ((f_X3_byX fu x y) + (f_X3_byY fv x y))), (4, .int (((f_X3_byX fu x y) * (f_X3_byY fv x y)) - ((f_X3_byY fu x y) * (f_X3_byX fv x y))))] → W p l e R s m args below meth c H locs 0 0 Q (F0 m 96 ls [.int v5]) := by
          clear hP hD hS hl
          intro v5 H locs ls ev5
          rw [ev5]
          clear ev5
          intro hP hD hS hl
          have hF : f_X1_sortAt fu fv x y = (if ((f_X3_byX fu x y) + (f_X3_byY fv x y)) = 0 then 4 else 3) := hF
          rw [hF] at hQ
          exact hQ _ _ _ _ dX1_sortAt_96 hP hS
        refine lv_if_eq (tgt := 95) hx hb dX1_sortAt_88 (by decide) (fun hc4 => ?_) (fun hc4 => ?_)
        · refine lv_iconst (v := 4) hx hb dX1_sortAt_95 (by decide) ?_
          exact J6 _ _ _ _ ((if_pos hc4).symm) hP hD hS (lv_sub hl [2, 3, 4, 1, 0] rfl)
        · refine lv_iconst (v := 3) hx hb dX1_sortAt_91 (by decide) ?_
          refine lv_goto (tgt := 96) hx hb dX1_sortAt_92 (by decide) ?_
          exact J6 _ _ _ _ ((if_neg hc4).symm) hP hD hS (lv_sub hl [2, 3, 4, 1, 0] rfl)
      · replace hF := hF.trans (if_neg hc3)
        refine lv_iconst (v := 2) hx hb dX1_sortAt_85 (by decide) ?_
        have hF : f_X1_sortAt fu fv x y = 2 := hF
        rw [hF] at hQ
        exact hQ _ _ _ _ dX1_sortAt_86 hP hS
    · replace hF := hF.trans (if_neg hc2)
      refine lv_iconst (v := 1) hx hb dX1_sortAt_73 (by decide) ?_
      have hF : f_X1_sortAt fu fv x y = 1 := hF
      rw [hF] at hQ
      exact hQ _ _ _ _ dX1_sortAt_74 hP hS
  · replace hF := hF.trans (if_pos hc1)
    refine lv_iconst (v := 5) hx hb dX1_sortAt_66 (by decide) ?_
    have hF : f_X1_sortAt fu fv x y = 5 := hF
    rw [hF] at hQ
    exact hQ _ _ _ _ dX1_sortAt_67 hP hS

theorem kX1_spreadAt_0 : Cond.fieldLink RX1 12 "FlowPlane$Flow" "p" "LFlowPlane$Polynomial;" ∈ wsX1_spreadAt := by decide +kernel
theorem kX1_spreadAt_1 : Cond.fieldLink RX1 18 "FlowPlane$Flow" "q" "LFlowPlane$Polynomial;" ∈ wsX1_spreadAt := by decide +kernel
theorem uX1_spreadAt_X1 : ∀ w ∈ u_ws RX1 TX1 2, w ∈ wsX1_spreadAt := by decide +kernel
def f_X1_spreadAt (fu : Nat → Int32) (fv : Nat → Int32) (x : Int32) (y : Int32) : Int32 := ((f_X3_byX fu x y) + (f_X3_byY fv x y))
set_option maxHeartbeats 400000000 in
set_option maxRecDepth 100000 in
theorem c_X1_spreadAt (l : Launch) (D : va_G) (cy : Nat → ClassId) (ta : Nat) (tap : Nat) (tapn : Nat) (taq : Nat) (taqn : Nat) (fu : Nat → Int32) (fv : Nat → Int32) (x : Int32) (y : Int32) : yk_Ci l D vwCl (yk_ty cy) yX1_spreadAt wsX1_spreadAt 1 22 [.ref ta, .int x, .int y] [(ta, .inr (1, [.ref tap, .ref taq])), (tap, .inr (3, [.ref tapn])), (tapn, .inl (cy 0, 6, .inl fu)), (taq, .inr (3, [.ref taqn])), (taqn, .inl (cy 0, 6, .inl fv))] (f_X1_spreadAt fu fv x y) [(ta, .inr (1, [.ref tap, .ref taq])), (tap, .inr (3, [.ref tapn])), (tapn, .inl (cy 0, 6, .inl fu)), (taq, .inr (3, [.ref taqn])), (taqn, .inl (cy 0, 6, .inl fv))] := by
  refine yk_eI (cc := cX1_spreadAt) (maxL := 3) (by decide) rfl (Nat.le_of_ble_eq_true rfl) rfl ?_
  intro p e R s m args below meth c A Q ls H locs hx hb hml hown hts hRf hRl hA hK hG hP hD hS hl hQ
  have hP : va_P D vwCl [(ta, .inr (1, [.ref tap, .ref taq])), (tap, .inr (3, [.ref tapn])), (tapn, .inl (cy 0, 6, .inl fu)), (taq, .inr (3, [.ref taqn])), (taqn, .inl (cy 0, 6, .inl fv))] H := hP
  have hl : lv_has ls 3 [(0, .ref ta), (1, .int x), (2, .int y)] := hl
  have hown : s.vm.findClass RX1 = some m.cls := hown
  have hF : (f_X1_spreadAt fu fv x y) = (f_X1_spreadAt fu fv x y) := rfl
  refine lv_aload_n hx hb dX1_spreadAt_0 rfl (lv_at hl 0 rfl) ?_
  refine va_get (D := D) (ci := 1) (v := .ref tap) (C := RX1) (T := TX1) (N := 2) hx hb hts uX1_spreadAt_X1 hown hK hP 0 rfl rfl 0 (by decide) (hts _ kX1_spreadAt_0) (fun _ h9 => h9) rfl dX1_spreadAt_1 ?_
  refine lv_iload_n hx hb dX1_spreadAt_4 rfl (lv_at hl 1 rfl) ?_
  refine lv_iload_n hx hb dX1_spreadAt_5 rfl (lv_at hl 2 rfl) ?_
  refine yk_i [1, 2] (va_runV (As := [.int x, .int y]) (rest := []) ⟨hx, hb, hml, hown, hts⟩ (c_X3_byX l D cy tap tapn fu x y H.size) (cwV 2 hts gX1_spreadAt_X3_byX rfl rfl rfl hv_X3_byX (yk_room hRf hRl rfl rfl)) (yk_pv (q := (RX3, TX3, 1)) hG hA hS hK hP hD [1, 2] (by decide +kernel) rfl rfl rfl) rfl rfl hl.1 rfl (lv_room (Nat.le_of_ble_eq_true rfl)) dX1_spreadAt_6 ⟨Nat.zero_le _, Nat.zero_le _⟩) hP hD hS hA rfl (Eq.trans (b := [tap, tapn]) rfl rfl) (fun H locs hP9 hD9 hS9 => ?_)
  replace hP : va_P D vwCl [(ta, .inr (1, [.ref tap, .ref taq])), (tap, .inr (3, [.ref tapn])), (tapn, .inl (cy 0, 6, .inl fu)), (taq, .inr (3, [.ref taqn])), (taqn, .inl (cy 0, 6, .inl fv))] H := hP9
  replace hD : va_D A [(ta, .inr (1, [.ref tap, .ref taq])), (tap, .inr (3, [.ref tapn])), (tapn, .inl (cy 0, 6, .inl fu)), (taq, .inr (3, [.ref taqn])), (taqn, .inl (cy 0, 6, .inl fv))] := hD9
  replace hS := hS9
  clear hP9 hD9 hS9
  refine lv_aload_n hx hb dX1_spreadAt_9 rfl (lv_at hl 0 rfl) ?_
  refine va_get (D := D) (ci := 1) (v := .ref taq) (C := RX1) (T := TX1) (N := 2) hx hb hts uX1_spreadAt_X1 hown hK hP 0 rfl rfl 1 (by decide) (hts _ kX1_spreadAt_1) (fun _ h9 => h9) rfl dX1_spreadAt_10 ?_
  refine lv_iload_n hx hb dX1_spreadAt_13 rfl (lv_at hl 1 rfl) ?_
  refine lv_iload_n hx hb dX1_spreadAt_14 rfl (lv_at hl 2 rfl) ?_
  refine yk_i [3, 4] (va_runV (As := [.int x, .int y]) (rest := [.int (f_X3_byX fu x y)]) ⟨hx, hb, hml, hown, hts⟩ (c_X3_byY l D cy taq taqn fv x y H.size) (cwV 2 hts gX1_spreadAt_X3_byY rfl rfl rfl hv_X3_byY (yk_room hRf hRl rfl rfl)) (yk_pv (q := (RX3, TX3, 1)) hG hA hS hK hP hD [3, 4] (by decide +kernel) rfl rfl rfl) rfl rfl hl.1 rfl (lv_room (Nat.le_of_ble_eq_true rfl)) dX1_spreadAt_15 ⟨Nat.zero_le _, Nat.zero_le _⟩) hP hD hS hA rfl (Eq.trans (b := [taq, taqn]) rfl rfl) (fun H locs hP9 hD9 hS9 => ?_)
  replace hP : va_P D vwCl [(ta, .inr (1, [.ref tap, .ref taq])), (tap, .inr (3, [.ref tapn])), (tapn, .inl (cy 0, 6, .inl fu)), (taq, .inr (3, [.ref taqn])), (taqn, .inl (cy 0, 6, .inl fv))] H := hP9
  replace hD : va_D A [(ta, .inr (1, [.ref tap, .ref taq])), (tap, .inr (3, [.ref tapn])), (tapn, .inl (cy 0, 6, .inl fu)), (taq, .inr (3, [.ref taqn])), (taqn, .inl (cy 0, 6, .inl fv))] := hD9
  replace hS := hS9
  clear hP9 hD9 hS9
  refine lv_iadd hx hb dX1_spreadAt_18 ?_
  have hF : f_X1_spreadAt fu fv x y = ((f_X3_byX fu x y) + (f_X3_byY fv x y)) := hF
  rw [hF] at hQ
  exact hQ _ _ _ _ dX1_spreadAt_19 hP hS

def f_X1_isFree (fu : Nat → Int32) (fv : Nat → Int32) : Int32 := (if (f_X1_spreadAt fu fv 0 0) = 0 then (if (f_X1_spreadAt fu fv 1 0) = 0 then (if (f_X1_spreadAt fu fv 0 1) = 0 then 1 else 0) else 0) else 0)
theorem b_X1_isFree (fu : Nat → Int32) (fv : Nat → Int32) : (f_X1_isFree fu fv) = 0 ∨ (f_X1_isFree fu fv) = 1 := by
  unfold f_X1_isFree; (repeat' split) <;> first | exact Or.inl (by with_reducible rfl) | exact Or.inr (by with_reducible rfl)
set_option maxHeartbeats 400000000 in
set_option maxRecDepth 100000 in
theorem c_X1_isFree (l : Launch) (D : va_G) (cy : Nat → ClassId) (ta : Nat) (tap : Nat) (tapn : Nat) (taq : Nat) (taqn : Nat) (fu : Nat → Int32) (fv : Nat → Int32) : yk_Ci l D vwCl (yk_ty cy) yX1_isFree wsX1_isFree 2 44 [.ref ta] [(ta, .inr (1, [.ref tap, .ref taq])), (tap, .inr (3, [.ref tapn])), (tapn, .inl (cy 0, 6, .inl fu)), (taq, .inr (3, [.ref taqn])), (taqn, .inl (cy 0, 6, .inl fv))] (f_X1_isFree fu fv) [(ta, .inr (1, [.ref tap, .ref taq])), (tap, .inr (3, [.ref tapn])), (tapn, .inl (cy 0, 6, .inl fu)), (taq, .inr (3, [.ref taqn])), (taqn, .inl (cy 0, 6, .inl fv))] := by
  refine yk_eI (cc := cX1_isFree) (maxL := 1) (by decide) rfl (Nat.le_of_ble_eq_true rfl) (yk_nb (b_X1_isFree fu fv)) ?_
  intro p e R s m args below meth c A Q ls H locs hx hb hml hown hts hRf hRl hA hK hG hP hD hS hl hQ
  have hP : va_P D vwCl [(ta, .inr (1, [.ref tap, .ref taq])), (tap, .inr (3, [.ref tapn])), (tapn, .inl (cy 0, 6, .inl fu)), (taq, .inr (3, [.ref taqn])), (taqn, .inl (cy 0, 6, .inl fv))] H := hP
  have hl : lv_has ls 1 [(0, .ref ta)] := hl
  have hown : s.vm.findClass RX1 = some m.cls := hown
  have hF : (f_X1_isFree fu fv) = (f_X1_isFree fu fv) := rfl
  refine lv_aload_n hx hb dX1_isFree_0 rfl (lv_at hl 0 rfl) ?_
  refine lv_iconst (v := 0) hx hb dX1_isFree_1 (by decide) ?_
  refine lv_iconst (v := 0) hx hb dX1_isFree_2 (by decide) ?_
  refine yk_i [0, 1, 2, 3, 4] (va_runV (As := [.int 0, .int 0]) (rest := []) ⟨hx, hb, hml, hown, hts⟩ (c_X1_spreadAt l D cy ta tap tapn taq taqn fu fv 0 0 H.size) (cwV 2 hts gX1_isFree_X1_spreadAt rfl rfl rfl hv_X1_spreadAt (yk_room hRf hRl rfl rfl)) (yk_pv (q := (RX1, TX1, 2)) hG hA hS hK hP hD [0, 1, 2, 3, 4] (by decide +kernel) rfl rfl rfl) rfl rfl hl.1 rfl (lv_room (Nat.le_of_ble_eq_true rfl)) dX1_isFree_3 ⟨Nat.zero_le _, Nat.zero_le _⟩) hP hD hS hA rfl (Eq.trans (b := [ta, tap, tapn, taq, taqn]) rfl rfl) (fun H locs hP9 hD9 hS9 => ?_)
  replace hP : va_P D vwCl [(ta, .inr (1, [.ref tap, .ref taq])), (tap, .inr (3, [.ref tapn])), (tapn, .inl (cy 0, 6, .inl fu)), (taq, .inr (3, [.ref taqn])), (taqn, .inl (cy 0, 6, .inl fv))] H := hP9
  replace hD : va_D A [(ta, .inr (1, [.ref tap, .ref taq])), (tap, .inr (3, [.ref tapn])), (tapn, .inl (cy 0, 6, .inl fu)), (taq, .inr (3, [.ref taqn])), (taqn, .inl (cy 0, 6, .inl fv))] := hD9
  replace hS := hS9
  clear hP9 hD9 hS9
  have J5 : ∀ (v4 : Int32) (H : Heap) (locs : List Loc) (ls : Array Slot), v4 = (if (f_X1_spreadAt fu fv 0 0) = 0 then (if (f_X1_spreadAt fu fv 1 0) = 0 then (if (f_X1_spreadAt fu fv 0 1) = 0 then 1 else 0) else 0) else 0) → va_P D vwCl [(ta, .inr (1, [.ref tap, .ref taq])), (tap, .inr (3, [.ref tapn])), (tapn, .inl (cy 0, 6, .inl fu)), (taq, .inr (3, [.ref taqn])), (taqn, .inl (cy 0, 6, .inl fv))] H → va_D A [(ta, .inr (1, [.ref tap, .ref taq])), (tap, .inr (3, [.ref tapn])), (tapn, .inl (cy 0, 6, .inl fu)), (taq, .inr (3, [.ref taqn])), (taqn, .inl (cy 0, 6, .inl fv))] → va_S A s.heap H locs → lv_has ls 1 [(0, .ref ta)] → W p l e R s m args below meth c H locs 0 0 Q (F0 m 32 ls [.int v4]) := by
    clear hP hD hS hl
    intro v4 H locs ls ev4
    rw [ev4]
    clear ev4
    intro hP hD hS hl
    have hF : f_X1_isFree fu fv = (if (f_X1_spreadAt fu fv 0 0) = 0 then (if (f_X1_spreadAt fu fv 1 0) = 0 then (if (f_X1_spreadAt fu fv 0 1) = 0 then 1 else 0) else 0) else 0) := hF
    rw [hF] at hQ
    exact hQ _ _ _ _ dX1_isFree_32 hP hS
  refine lv_if_ne (tgt := 31) hx hb dX1_isFree_6 (by decide) (fun hc1 => ?_) (fun hc1 => ?_)
  · refine lv_iconst (v := 0) hx hb dX1_isFree_31 (by decide) ?_
    exact J5 _ _ _ _ ((if_neg hc1).symm) hP hD hS (lv_sub hl [0] rfl)
  · refine lv_aload_n hx hb dX1_isFree_9 rfl (lv_at hl 0 rfl) ?_
    refine lv_iconst (v := 1) hx hb dX1_isFree_10 (by decide) ?_
    refine lv_iconst (v := 0) hx hb dX1_isFree_11 (by decide) ?_
    refine yk_i [0, 1, 2, 3, 4] (va_runV (As := [.int 1, .int 0]) (rest := []) ⟨hx, hb, hml, hown, hts⟩ (c_X1_spreadAt l D cy ta tap tapn taq taqn fu fv 1 0 H.size) (cwV 2 hts gX1_isFree_X1_spreadAt rfl rfl rfl hv_X1_spreadAt (yk_room hRf hRl rfl rfl)) (yk_pv (q := (RX1, TX1, 2)) hG hA hS hK hP hD [0, 1, 2, 3, 4] (by decide +kernel) rfl rfl rfl) rfl rfl hl.1 rfl (lv_room (Nat.le_of_ble_eq_true rfl)) dX1_isFree_12 ⟨Nat.zero_le _, Nat.zero_le _⟩) hP hD hS hA rfl (Eq.trans (b := [ta, tap, tapn, taq, taqn]) rfl rfl) (fun H locs hP9 hD9 hS9 => ?_)
    replace hP : va_P D vwCl [(ta, .inr (1, [.ref tap, .ref taq])), (tap, .inr (3, [.ref tapn])), (tapn, .inl (cy 0, 6, .inl fu)), (taq, .inr (3, [.ref taqn])), (taqn, .inl (cy 0, 6, .inl fv))] H := hP9
    replace hD : va_D A [(ta, .inr (1, [.ref tap, .ref taq])), (tap, .inr (3, [.ref tapn])), (tapn, .inl (cy 0, 6, .inl fu)), (taq, .inr (3, [.ref taqn])), (taqn, .inl (cy 0, 6, .inl fv))] := hD9
    replace hS := hS9
    clear hP9 hD9 hS9
    refine lv_if_ne (tgt := 31) hx hb dX1_isFree_15 (by decide) (fun hc2 => ?_) (fun hc2 => ?_)
    · refine lv_iconst (v := 0) hx hb dX1_isFree_31 (by decide) ?_
      exact J5 _ _ _ _ (((if_pos hc1).trans (if_neg hc2)).symm) hP hD hS (lv_sub hl [0] rfl)
    · refine lv_aload_n hx hb dX1_isFree_18 rfl (lv_at hl 0 rfl) ?_
      refine lv_iconst (v := 0) hx hb dX1_isFree_19 (by decide) ?_
      refine lv_iconst (v := 1) hx hb dX1_isFree_20 (by decide) ?_
      refine yk_i [0, 1, 2, 3, 4] (va_runV (As := [.int 0, .int 1]) (rest := []) ⟨hx, hb, hml, hown, hts⟩ (c_X1_spreadAt l D cy ta tap tapn taq taqn fu fv 0 1 H.size) (cwV 2 hts gX1_isFree_X1_spreadAt rfl rfl rfl hv_X1_spreadAt (yk_room hRf hRl rfl rfl)) (yk_pv (q := (RX1, TX1, 2)) hG hA hS hK hP hD [0, 1, 2, 3, 4] (by decide +kernel) rfl rfl rfl) rfl rfl hl.1 rfl (lv_room (Nat.le_of_ble_eq_true rfl)) dX1_isFree_21 ⟨Nat.zero_le _, Nat.zero_le _⟩) hP hD hS hA rfl (Eq.trans (b := [ta, tap, tapn, taq, taqn]) rfl rfl) (fun H locs hP9 hD9 hS9 => ?_)
      replace hP : va_P D vwCl [(ta, .inr (1, [.ref tap, .ref taq])), (tap, .inr (3, [.ref tapn])), (tapn, .inl (cy 0, 6, .inl fu)), (taq, .inr (3, [.ref taqn])), (taqn, .inl (cy 0, 6, .inl fv))] H := hP9
      replace hD : va_D A [(ta, .inr (1, [.ref tap, .ref taq])), (tap, .inr (3, [.ref tapn])), (tapn, .inl (cy 0, 6, .inl fu)), (taq, .inr (3, [.ref taqn])), (taqn, .inl (cy 0, 6, .inl fv))] := hD9
      replace hS := hS9
      clear hP9 hD9 hS9
      refine lv_if_ne (tgt := 31) hx hb dX1_isFree_24 (by decide) (fun hc3 => ?_) (fun hc3 => ?_)
      · refine lv_iconst (v := 0) hx hb dX1_isFree_31 (by decide) ?_
        exact J5 _ _ _ _ (((if_pos hc1).trans ((if_pos hc2).trans (if_neg hc3))).symm) hP hD hS (lv_sub hl [0] rfl)
      · refine lv_iconst (v := 1) hx hb dX1_isFree_27 (by decide) ?_
        refine lv_goto (tgt := 32) hx hb dX1_isFree_28 (by decide) ?_
        exact J5 _ _ _ _ (((if_pos hc1).trans ((if_pos hc2).trans (if_pos hc3))).symm) hP hD hS (lv_sub hl [0] rfl)

theorem kX1_lastKind_0 : Cond.fieldLink RX1 12 "FlowPlane$Flow" "p" "LFlowPlane$Polynomial;" ∈ wsX1_lastKind := by decide +kernel
theorem kX1_lastKind_1 : Cond.fieldLink RX1 18 "FlowPlane$Flow" "q" "LFlowPlane$Polynomial;" ∈ wsX1_lastKind := by decide +kernel
theorem kX1_lastKind_2 : Cond.fieldLink RX1 52 "FlowPlane$Polynomial" "numbers" "[I" ∈ wsX1_lastKind := by decide +kernel
theorem uX1_lastKind_X1 : ∀ w ∈ u_ws RX1 TX1 2, w ∈ wsX1_lastKind := by decide +kernel
theorem uX1_lastKind_X3 : ∀ w ∈ u_ws RX3 TX3 1, w ∈ wsX1_lastKind := by decide +kernel
def f_X1_lastKind (fu : Nat → Int32) (fv : Nat → Int32) : Int32 := (if (f_X1_isFree fu fv) = 0 then (if (f_X3_hasSquares fu) = 0 then (if (f_X3_hasSquares fv) = 0 then (if (fu 0) = 0 then (if (fv 0) = 0 then 2 else 1) else 1) else 0) else 0) else 3)
set_option maxHeartbeats 400000000 in
set_option maxRecDepth 100000 in
theorem c_X1_lastKind (l : Launch) (D : va_G) (cy : Nat → ClassId) (ta : Nat) (tap : Nat) (tapn : Nat) (taq : Nat) (taqn : Nat) (fu : Nat → Int32) (fv : Nat → Int32) : yk_Ci l D vwCl (yk_ty cy) yX1_lastKind wsX1_lastKind 3 64 [.ref ta] [(ta, .inr (1, [.ref tap, .ref taq])), (tap, .inr (3, [.ref tapn])), (tapn, .inl (cy 0, 6, .inl fu)), (taq, .inr (3, [.ref taqn])), (taqn, .inl (cy 0, 6, .inl fv))] (f_X1_lastKind fu fv) [(ta, .inr (1, [.ref tap, .ref taq])), (tap, .inr (3, [.ref tapn])), (tapn, .inl (cy 0, 6, .inl fu)), (taq, .inr (3, [.ref taqn])), (taqn, .inl (cy 0, 6, .inl fv))] := by
  refine yk_eI (cc := cX1_lastKind) (maxL := 1) (by decide) rfl (Nat.le_of_ble_eq_true rfl) rfl ?_
  intro p e R s m args below meth c A Q ls H locs hx hb hml hown hts hRf hRl hA hK hG hP hD hS hl hQ
  have hP : va_P D vwCl [(ta, .inr (1, [.ref tap, .ref taq])), (tap, .inr (3, [.ref tapn])), (tapn, .inl (cy 0, 6, .inl fu)), (taq, .inr (3, [.ref taqn])), (taqn, .inl (cy 0, 6, .inl fv))] H := hP
  have hl : lv_has ls 1 [(0, .ref ta)] := hl
  have hown : s.vm.findClass RX1 = some m.cls := hown
  have hF : (f_X1_lastKind fu fv) = (f_X1_lastKind fu fv) := rfl
  refine lv_aload_n hx hb dX1_lastKind_0 rfl (lv_at hl 0 rfl) ?_
  refine yk_i [0, 1, 2, 3, 4] (va_runV (As := []) (rest := []) ⟨hx, hb, hml, hown, hts⟩ (c_X1_isFree l D cy ta tap tapn taq taqn fu fv H.size) (cwV 0 hts gX1_lastKind_X1_isFree rfl rfl rfl hv_X1_isFree (yk_room hRf hRl rfl rfl)) (yk_pv (q := (RX1, TX1, 2)) hG hA hS hK hP hD [0, 1, 2, 3, 4] (by decide +kernel) rfl rfl rfl) rfl rfl hl.1 rfl (lv_room (Nat.le_of_ble_eq_true rfl)) dX1_lastKind_1 ⟨Nat.zero_le _, Nat.zero_le _⟩) hP hD hS hA rfl (Eq.trans (b := [ta, tap, tapn, taq, taqn]) rfl rfl) (fun H locs hP9 hD9 hS9 => ?_)
  replace hP : va_P D vwCl [(ta, .inr (1, [.ref tap, .ref taq])), (tap, .inr (3, [.ref tapn])), (tapn, .inl (cy 0, 6, .inl fu)), (taq, .inr (3, [.ref taqn])), (taqn, .inl (cy 0, 6, .inl fv))] H := hP9
  replace hD : va_D A [(ta, .inr (1, [.ref tap, .ref taq])), (tap, .inr (3, [.ref tapn])), (tapn, .inl (cy 0, 6, .inl fu)), (taq, .inr (3, [.ref taqn])), (taqn, .inl (cy 0, 6, .inl fv))] := hD9
  replace hS := hS9
  clear hP9 hD9 hS9
  refine lv_if_eq (tgt := 9) hx hb dX1_lastKind_4 (by decide) (fun hc1 => ?_) (fun hc1 => ?_)
  · replace hF := hF.trans (if_pos hc1)
    refine lv_aload_n hx hb dX1_lastKind_9 rfl (lv_at hl 0 rfl) ?_
    refine va_get (D := D) (ci := 1) (v := .ref tap) (C := RX1) (T := TX1) (N := 2) hx hb hts uX1_lastKind_X1 hown hK hP 0 rfl rfl 0 (by decide) (hts _ kX1_lastKind_0) (fun _ h9 => h9) rfl dX1_lastKind_10 ?_
    refine yk_i [1, 2] (va_runV (As := []) (rest := []) ⟨hx, hb, hml, hown, hts⟩ (c_X3_hasSquares l D cy tap tapn fu H.size) (cwV 0 hts gX1_lastKind_X3_hasSquares rfl rfl rfl hv_X3_hasSquares (yk_room hRf hRl rfl rfl)) (yk_pv (q := (RX3, TX3, 1)) hG hA hS hK hP hD [1, 2] (by decide +kernel) rfl rfl rfl) rfl rfl hl.1 rfl (lv_room (Nat.le_of_ble_eq_true rfl)) dX1_lastKind_13 ⟨Nat.zero_le _, Nat.zero_le _⟩) hP hD hS hA rfl (Eq.trans (b := [tap, tapn]) rfl rfl) (fun H locs hP9 hD9 hS9 => ?_)
    replace hP : va_P D vwCl [(ta, .inr (1, [.ref tap, .ref taq])), (tap, .inr (3, [.ref tapn])), (tapn, .inl (cy 0, 6, .inl fu)), (taq, .inr (3, [.ref taqn])), (taqn, .inl (cy 0, 6, .inl fv))] H := hP9
    replace hD : va_D A [(ta, .inr (1, [.ref tap, .ref taq])), (tap, .inr (3, [.ref tapn])), (tapn, .inl (cy 0, 6, .inl fu)), (taq, .inr (3, [.ref taqn])), (taqn, .inl (cy 0, 6, .inl fv))] := hD9
    replace hS := hS9
    clear hP9 hD9 hS9
    refine lv_if_ne (tgt := 29) hx hb dX1_lastKind_16 (by decide) (fun hc2 => ?_) (fun hc2 => ?_)
    · replace hF := hF.trans (if_neg hc2)
      refine lv_iconst (v := 0) hx hb dX1_lastKind_29 (by decide) ?_
      have hF : f_X1_lastKind fu fv = 0 := hF
      rw [hF] at hQ
      exact hQ _ _ _ _ dX1_lastKind_30 hP hS
    · replace hF := hF.trans (if_pos hc2)
      refine lv_aload_n hx hb dX1_lastKind_19 rfl (lv_at hl 0 rfl) ?_
      refine va_get (D := D) (ci := 1) (v := .ref taq) (C := RX1) (T := TX1) (N := 2) hx hb hts uX1_lastKind_X1 hown hK hP 0 rfl rfl 1 (by decide) (hts _ kX1_lastKind_1) (fun _ h9 => h9) rfl dX1_lastKind_20 ?_
      refine yk_i [3, 4] (va_runV (As := []) (rest := []) ⟨hx, hb, hml, hown, hts⟩ (c_X3_hasSquares l D cy taq taqn fv H.size) (cwV 0 hts gX1_lastKind_X3_hasSquares rfl rfl rfl hv_X3_hasSquares (yk_room hRf hRl rfl rfl)) (yk_pv (q := (RX3, TX3, 1)) hG hA hS hK hP hD [3, 4] (by decide +kernel) rfl rfl rfl) rfl rfl hl.1 rfl (lv_room (Nat.le_of_ble_eq_true rfl)) dX1_lastKind_23 ⟨Nat.zero_le _, Nat.zero_le _⟩) hP hD hS hA rfl (Eq.trans (b := [taq, taqn]) rfl rfl) (fun H locs hP9 hD9 hS9 => ?_)
      replace hP : va_P D vwCl [(ta, .inr (1, [.ref tap, .ref taq])), (tap, .inr (3, [.ref tapn])), (tapn, .inl (cy 0, 6, .inl fu)), (taq, .inr (3, [.ref taqn])), (taqn, .inl (cy 0, 6, .inl fv))] H := hP9
      replace hD : va_D A [(ta, .inr (1, [.ref tap, .ref taq])), (tap, .inr (3, [.ref tapn])), (tapn, .inl (cy 0, 6, .inl fu)), (taq, .inr (3, [.ref taqn])), (taqn, .inl (cy 0, 6, .inl fv))] := hD9
      replace hS := hS9
      clear hP9 hD9 hS9
      refine lv_if_eq (tgt := 31) hx hb dX1_lastKind_26 (by decide) (fun hc3 => ?_) (fun hc3 => ?_)
      · replace hF := hF.trans (if_pos hc3)
        refine lv_aload_n hx hb dX1_lastKind_31 rfl (lv_at hl 0 rfl) ?_
        refine va_get (D := D) (ci := 1) (v := .ref tap) (C := RX1) (T := TX1) (N := 2) hx hb hts uX1_lastKind_X1 hown hK hP 0 rfl rfl 0 (by decide) (hts _ kX1_lastKind_0) (fun _ h9 => h9) rfl dX1_lastKind_32 ?_
        refine va_get (D := D) (ci := 3) (v := .ref tapn) (C := RX3) (T := TX3) (N := 1) hx hb hts uX1_lastKind_X3 hown hK hP 1 rfl rfl 0 (by decide) (hts _ kX1_lastKind_2) (fun _ h9 => h9) rfl dX1_lastKind_35 ?_
        refine lv_iconst (v := 0) hx hb dX1_lastKind_38 (by decide) ?_
        refine yk_ild hx hb hK hP 2 0 rfl rfl 0 (by omega) (by decide) dX1_lastKind_39 ?_
        have J7 : ∀ (v6 : Int32) (H : Heap) (locs : List Loc) (ls : Array Slot), v6 = (if (fu 0) = 0 then (if (fv 0) = 0 then 2 else 1) else 1) → va_P D vwCl [(ta, .inr (1, [.ref tap, .ref taq])), (tap, .inr (3, [.ref tapn])), (tapn, .inl (cy 0, 6, .inl fu)), (taq, .inr (3, [.ref taqn])), (taqn, .inl (cy 0, 6, .inl fv))] H → va_D A [(ta, .inr (1, [.ref tap, .ref taq])), (tap, .inr (3, [.ref tapn])), (tapn, .inl (cy 0, 6, .inl fu)), (taq, .inr (3, [.ref taqn])), (taqn, .inl (cy 0, 6, .inl fv))] → va_S A s.heap H locs → lv_has ls 1 [(0, .ref ta)] → W p l e R s m args below meth c H locs 0 0 Q (F0 m 60 ls [.int v6]) := by
          clear hP hD hS hl
          intro v6 H locs ls ev6
          rw [ev6]
          clear ev6
          intro hP hD hS hl
          have hF : f_X1_lastKind fu fv = (if (fu 0) = 0 then (if (fv 0) = 0 then 2 else 1) else 1) := hF
          rw [hF] at hQ
          exact hQ _ _ _ _ dX1_lastKind_60 hP hS
        refine lv_if_ne (tgt := 59) hx hb dX1_lastKind_40 (by decide) (fun hc4 => ?_) (fun hc4 => ?_)
        · refine lv_iconst (v := 1) hx hb dX1_lastKind_59 (by decide) ?_
          exact J7 _ _ _ _ ((if_neg hc4).symm) hP hD hS (lv_sub hl [0] rfl)
        · refine lv_aload_n hx hb dX1_lastKind_43 rfl (lv_at hl 0 rfl) ?_
          refine va_get (D := D) (ci := 1) (v := .ref taq) (C := RX1) (T := TX1) (N := 2) hx hb hts uX1_lastKind_X1 hown hK hP 0 rfl rfl 1 (by decide) (hts _ kX1_lastKind_1) (fun _ h9 => h9) rfl dX1_lastKind_44 ?_
          refine va_get (D := D) (ci := 3) (v := .ref taqn) (C := RX3) (T := TX3) (N := 1) hx hb hts uX1_lastKind_X3 hown hK hP 3 rfl rfl 0 (by decide) (hts _ kX1_lastKind_2) (fun _ h9 => h9) rfl dX1_lastKind_47 ?_
          refine lv_iconst (v := 0) hx hb dX1_lastKind_50 (by decide) ?_
          refine yk_ild hx hb hK hP 4 0 rfl rfl 0 (by omega) (by decide) dX1_lastKind_51 ?_
          refine lv_if_ne (tgt := 59) hx hb dX1_lastKind_52 (by decide) (fun hc5 => ?_) (fun hc5 => ?_)
          · refine lv_iconst (v := 1) hx hb dX1_lastKind_59 (by decide) ?_
            exact J7 _ _ _ _ (((if_pos hc4).trans (if_neg hc5)).symm) hP hD hS (lv_sub hl [0] rfl)
          · refine lv_iconst (v := 2) hx hb dX1_lastKind_55 (by decide) ?_
            refine lv_goto (tgt := 60) hx hb dX1_lastKind_56 (by decide) ?_
            exact J7 _ _ _ _ (((if_pos hc4).trans (if_pos hc5)).symm) hP hD hS (lv_sub hl [0] rfl)
      · replace hF := hF.trans (if_neg hc3)
        refine lv_iconst (v := 0) hx hb dX1_lastKind_29 (by decide) ?_
        have hF : f_X1_lastKind fu fv = 0 := hF
        rw [hF] at hQ
        exact hQ _ _ _ _ dX1_lastKind_30 hP hS
  · replace hF := hF.trans (if_neg hc1)
    refine lv_iconst (v := 3) hx hb dX1_lastKind_7 (by decide) ?_
    have hF : f_X1_lastKind fu fv = 3 := hF
    rw [hF] at hQ
    exact hQ _ _ _ _ dX1_lastKind_8 hP hS

theorem kX4_follow_0 : Cond.fieldLink RX4 9 "FlowPlane$Fence" "xs" "[I" ∈ wsX4_follow := by decide +kernel
theorem kX4_follow_1 : Cond.fieldLink RX4 15 "FlowPlane$Fence" "ys" "[I" ∈ wsX4_follow := by decide +kernel
theorem kX4_follow_2 : Cond.fieldLink RX4 31 "FlowPlane$Quadratic" "a" "J" ∈ wsX4_follow := by decide +kernel
theorem kX4_follow_3 : Cond.fieldLink RX4 43 "FlowPlane$Quadratic" "b" "J" ∈ wsX4_follow := by decide +kernel
theorem kX4_follow_4 : Cond.fieldLink RX4 49 "FlowPlane$Quadratic" "c" "J" ∈ wsX4_follow := by decide +kernel
theorem uX4_follow_X0 : ∀ w ∈ u_ws RX0 TX0 3, w ∈ wsX4_follow := by decide +kernel
theorem uX4_follow_X4 : ∀ w ∈ u_ws RX4 TX4 3, w ∈ wsX4_follow := by decide +kernel
def f_X4_follow (gu : Nat → Int32) (xs : Nat → Int32) (ys : Nat → Int32) (k : Nat) : Int64 × Int64 × Int64 := ((((f_X3_squaresAt gu (f_X0_stepX xs k) (f_X0_stepY ys k))).toInt64), (((((f_X0_stepX xs k) * (f_X3_byX gu (xs k) (ys k))) + ((f_X0_stepY ys k) * (f_X3_byY gu (xs k) (ys k))))).toInt64), (((f_X3_at gu (xs k) (ys k))).toInt64))
set_option maxHeartbeats 400000000 in
set_option maxRecDepth 100000 in
theorem c_X4_follow (l : Launch) (D : va_G) (cy : Nat → ClassId) (ta : Nat) (oa : Nat) (oan : Nat) (ea : Nat) (eax : Nat) (eay : Nat) (qa : Int64) (qb : Int64) (qc : Int64) (gu : Nat → Int32) (xs : Nat → Int32) (ys : Nat → Int32) (n : Nat) (k : Nat) (hn : n ≤ 8) (hk : k < 8) : yk_Cv l D vwCl (yk_ty cy) yX4_follow wsX4_follow 2 44 [.ref ta, .ref oa, .ref ea, .int (nI k)] [(ta, .inr (4, [.long qa, .long qb, .long qc])), (oa, .inr (3, [.ref oan])), (oan, .inl (cy 0, 6, .inl gu)), (ea, .inr (0, [.ref eax, .ref eay, .int (nI n)])), (eax, .inl (cy 0, 9, .inl xs)), (eay, .inl (cy 0, 9, .inl ys))] [(ta, .inr (4, [.long ((f_X4_follow gu xs ys k).1), .long ((f_X4_follow gu xs ys k).2.1), .long ((f_X4_follow gu xs ys k).2.2)])), (oa, .inr (3, [.ref oan])), (oan, .inl (cy 0, 6, .inl gu)), (ea, .inr (0, [.ref eax, .ref eay, .int (nI n)])), (eax, .inl (cy 0, 9, .inl xs)), (eay, .inl (cy 0, 9, .inl ys))] := by
  refine yk_eV (cc := cX4_follow) (maxL := 8) (by decide) rfl (Nat.le_of_ble_eq_true rfl) ?_
  intro p e R s m args below meth c A Q ls H locs hx hb hml hown hts hRf hRl hA hK hG hP hD hS hl hQ
  have hP : va_P D vwCl [(ta, .inr (4, [.long qa, .long qb, .long qc])), (oa, .inr (3, [.ref oan])), (oan, .inl (cy 0, 6, .inl gu)), (ea, .inr (0, [.ref eax, .ref eay, .int (nI n)])), (eax, .inl (cy 0, 9, .inl xs)), (eay, .inl (cy 0, 9, .inl ys))] H := hP
  have hl : lv_has ls 8 [(0, .ref ta), (1, .ref oa), (2, .ref ea), (3, .int (nI k))] := hl
  have hown : s.vm.findClass RX4 = some m.cls := hown
  have hF : (f_X4_follow gu xs ys k) = (f_X4_follow gu xs ys k) := rfl
  refine lv_aload_n hx hb dX4_follow_0 rfl (lv_at hl 2 rfl) ?_
  refine va_get (D := D) (ci := 0) (v := .ref eax) (C := RX0) (T := TX0) (N := 3) hx hb hts uX4_follow_X0 hown hK hP 3 rfl rfl 0 (by decide) (hts _ kX4_follow_0) (fun _ h9 => h9) rfl dX4_follow_1 ?_
  refine lv_iload_n hx hb dX4_follow_4 rfl (lv_at hl 3 rfl) ?_
  refine yk_ild hx hb hK hP 4 0 rfl rfl k (by omega) (by decide) dX4_follow_5 ?_
  refine lv_istore (lv' := [(4, .int (xs k)), (0, .ref ta), (1, .ref oa), (2, .ref ea), (3, .int (nI k))]) hx hb dX4_follow_6 hl (by decide) rfl (fun ls hl9 => ?_)
  replace hl := hl9
  clear hl9
  refine lv_aload_n hx hb dX4_follow_8 rfl (lv_at hl 3 rfl) ?_
  refine va_get (D := D) (ci := 0) (v := .ref eay) (C := RX0) (T := TX0) (N := 3) hx hb hts uX4_follow_X0 hown hK hP 3 rfl rfl 1 (by decide) (hts _ kX4_follow_1) (fun _ h9 => h9) rfl dX4_follow_9 ?_
  refine lv_iload_n hx hb dX4_follow_12 rfl (lv_at hl 4 rfl) ?_
  refine yk_ild hx hb hK hP 5 0 rfl rfl k (by omega) (by decide) dX4_follow_13 ?_
  refine lv_istore (lv' := [(5, .int (ys k)), (4, .int (xs k)), (0, .ref ta), (1, .ref oa), (2, .ref ea), (3, .int (nI k))]) hx hb dX4_follow_14 hl (by decide) rfl (fun ls hl9 => ?_)
  replace hl := hl9
  clear hl9
  refine lv_aload_n hx hb dX4_follow_16 rfl (lv_at hl 4 rfl) ?_
  refine lv_iload_n hx hb dX4_follow_17 rfl (lv_at hl 5 rfl) ?_
  refine yk_i [3, 4, 5] (va_runV (As := [.int (nI k)]) (rest := []) ⟨hx, hb, hml, hown, hts⟩ (c_X0_stepX l D cy ea eax eay xs ys n k hn hk H.size) (cwV 1 hts gX4_follow_X0_stepX rfl rfl rfl hv_X0_stepX (yk_room hRf hRl rfl rfl)) (yk_pv (q := (RX0, TX0, 3)) hG hA hS hK hP hD [3, 4, 5] (by decide +kernel) rfl rfl rfl) rfl rfl hl.1 rfl (lv_room (Nat.le_of_ble_eq_true rfl)) dX4_follow_18 ⟨Nat.zero_le _, Nat.zero_le _⟩) hP hD hS hA rfl (Eq.trans (b := [ea, eax, eay]) rfl rfl) (fun H locs hP9 hD9 hS9 => ?_)
  replace hP : va_P D vwCl [(ta, .inr (4, [.long qa, .long qb, .long qc])), (oa, .inr (3, [.ref oan])), (oan, .inl (cy 0, 6, .inl gu)), (ea, .inr (0, [.ref eax, .ref eay, .int (nI n)])), (eax, .inl (cy 0, 9, .inl xs)), (eay, .inl (cy 0, 9, .inl ys))] H := hP9
  replace hD : va_D A [(ta, .inr (4, [.long qa, .long qb, .long qc])), (oa, .inr (3, [.ref oan])), (oan, .inl (cy 0, 6, .inl gu)), (ea, .inr (0, [.ref eax, .ref eay, .int (nI n)])), (eax, .inl (cy 0, 9, .inl xs)), (eay, .inl (cy 0, 9, .inl ys))] := hD9
  replace hS := hS9
  clear hP9 hD9 hS9
  refine lv_istore (lv' := [(6, .int (f_X0_stepX xs k)), (5, .int (ys k)), (4, .int (xs k)), (0, .ref ta), (1, .ref oa), (2, .ref ea), (3, .int (nI k))]) hx hb dX4_follow_21 hl (by decide) rfl (fun ls hl9 => ?_)
  replace hl := hl9
  clear hl9
  refine lv_aload_n hx hb dX4_follow_23 rfl (lv_at hl 5 rfl) ?_
  refine lv_iload_n hx hb dX4_follow_24 rfl (lv_at hl 6 rfl) ?_
  refine yk_i [3, 4, 5] (va_runV (As := [.int (nI k)]) (rest := []) ⟨hx, hb, hml, hown, hts⟩ (c_X0_stepY l D cy ea eax eay xs ys n k hn hk H.size) (cwV 1 hts gX4_follow_X0_stepY rfl rfl rfl hv_X0_stepY (yk_room hRf hRl rfl rfl)) (yk_pv (q := (RX0, TX0, 3)) hG hA hS hK hP hD [3, 4, 5] (by decide +kernel) rfl rfl rfl) rfl rfl hl.1 rfl (lv_room (Nat.le_of_ble_eq_true rfl)) dX4_follow_25 ⟨Nat.zero_le _, Nat.zero_le _⟩) hP hD hS hA rfl (Eq.trans (b := [ea, eax, eay]) rfl rfl) (fun H locs hP9 hD9 hS9 => ?_)
  replace hP : va_P D vwCl [(ta, .inr (4, [.long qa, .long qb, .long qc])), (oa, .inr (3, [.ref oan])), (oan, .inl (cy 0, 6, .inl gu)), (ea, .inr (0, [.ref eax, .ref eay, .int (nI n)])), (eax, .inl (cy 0, 9, .inl xs)), (eay, .inl (cy 0, 9, .inl ys))] H := hP9
  replace hD : va_D A [(ta, .inr (4, [.long qa, .long qb, .long qc])), (oa, .inr (3, [.ref oan])), (oan, .inl (cy 0, 6, .inl gu)), (ea, .inr (0, [.ref eax, .ref eay, .int (nI n)])), (eax, .inl (cy 0, 9, .inl xs)), (eay, .inl (cy 0, 9, .inl ys))] := hD9
  replace hS := hS9
  clear hP9 hD9 hS9
  refine lv_istore (lv' := [(7, .int (f_X0_stepY ys k)), (6, .int (f_X0_stepX xs k)), (5, .int (ys k)), (4, .int (xs k)), (0, .ref ta), (1, .ref oa), (2, .ref ea), (3, .int (nI k))]) hx hb dX4_follow_28 hl (by decide) rfl (fun ls hl9 => ?_)
  replace hl := hl9
  clear hl9
  refine lv_aload_n hx hb dX4_follow_30 rfl (lv_at hl 4 rfl) ?_
  refine lv_aload_n hx hb dX4_follow_31 rfl (lv_at hl 5 rfl) ?_
  refine lv_iload hx hb dX4_follow_32 (lv_at hl 1 rfl) ?_
  refine lv_iload hx hb dX4_follow_34 (lv_at hl 0 rfl) ?_
  refine yk_i [1, 2] (va_runV (As := [.int (f_X0_stepX xs k), .int (f_X0_stepY ys k)]) (rest := [.ref ta]) ⟨hx, hb, hml, hown, hts⟩ (c_X3_squaresAt l D cy oa oan gu (f_X0_stepX xs k) (f_X0_stepY ys k) H.size) (cwV 2 hts gX4_follow_X3_squaresAt rfl rfl rfl hv_X3_squaresAt (yk_room hRf hRl rfl rfl)) (yk_pv (q := (RX3, TX3, 1)) hG hA hS hK hP hD [1, 2] (by decide +kernel) rfl rfl rfl) rfl rfl hl.1 rfl (lv_room (Nat.le_of_ble_eq_true rfl)) dX4_follow_36 ⟨Nat.zero_le _, Nat.zero_le _⟩) hP hD hS hA rfl (Eq.trans (b := [oa, oan]) rfl rfl) (fun H locs hP9 hD9 hS9 => ?_)
  replace hP : va_P D vwCl [(ta, .inr (4, [.long qa, .long qb, .long qc])), (oa, .inr (3, [.ref oan])), (oan, .inl (cy 0, 6, .inl gu)), (ea, .inr (0, [.ref eax, .ref eay, .int (nI n)])), (eax, .inl (cy 0, 9, .inl xs)), (eay, .inl (cy 0, 9, .inl ys))] H := hP9
  replace hD : va_D A [(ta, .inr (4, [.long qa, .long qb, .long qc])), (oa, .inr (3, [.ref oan])), (oan, .inl (cy 0, 6, .inl gu)), (ea, .inr (0, [.ref eax, .ref eay, .int (nI n)])), (eax, .inl (cy 0, 9, .inl xs)), (eay, .inl (cy 0, 9, .inl ys))] := hD9
  replace hS := hS9
  clear hP9 hD9 hS9
  refine lv_i2l hx hb dX4_follow_39 rfl ?_
  refine va_put (D := D) (ci := 4) (v := .long (((f_X3_squaresAt gu (f_X0_stepX xs k) (f_X0_stepY ys k))).toInt64)) (ty := .long) (C := RX4) (T := TX4) (N := 3) hx hb hts uX4_follow_X4 tyX4 tyX4_ok nmX4 hown hK hP hD hS 0 rfl rfl 0 (by decide) (hts _ kX4_follow_2) (fun _ h9 => h9) rfl (by decide +kernel) (rfl) (rfl) (Nat.le_of_ble_eq_true rfl) dX4_follow_40 (fun H locs hP9 hD9 hS9 => ?_)
  replace hP : va_P D vwCl [(ta, .inr (4, [.long (((f_X3_squaresAt gu (f_X0_stepX xs k) (f_X0_stepY ys k))).toInt64), .long qb, .long qc])), (oa, .inr (3, [.ref oan])), (oan, .inl (cy 0, 6, .inl gu)), (ea, .inr (0, [.ref eax, .ref eay, .int (nI n)])), (eax, .inl (cy 0, 9, .inl xs)), (eay, .inl (cy 0, 9, .inl ys))] H := hP9
  replace hD : va_D A [(ta, .inr (4, [.long (((f_X3_squaresAt gu (f_X0_stepX xs k) (f_X0_stepY ys k))).toInt64), .long qb, .long qc])), (oa, .inr (3, [.ref oan])), (oan, .inl (cy 0, 6, .inl gu)), (ea, .inr (0, [.ref eax, .ref eay, .int (nI n)])), (eax, .inl (cy 0, 9, .inl xs)), (eay, .inl (cy 0, 9, .inl ys))] := hD9
  replace hS := hS9
  clear hP9 hD9 hS9
  refine lv_aload_n hx hb dX4_follow_43 rfl (lv_at hl 4 rfl) ?_
  refine lv_iload hx hb dX4_follow_44 (lv_at hl 1 rfl) ?_
  refine lv_aload_n hx hb dX4_follow_46 rfl (lv_at hl 5 rfl) ?_
  refine lv_iload hx hb dX4_follow_47 (lv_at hl 3 rfl) ?_
  refine lv_iload hx hb dX4_follow_49 (lv_at hl 2 rfl) ?_
  refine yk_i [1, 2] (va_runV (As := [.int (xs k), .int (ys k)]) (rest := [.int (f_X0_stepX xs k), .ref ta]) ⟨hx, hb, hml, hown, hts⟩ (c_X3_byX l D cy oa oan gu (xs k) (ys k) H.size) (cwV 2 hts gX4_follow_X3_byX rfl rfl rfl hv_X3_byX (yk_room hRf hRl rfl rfl)) (yk_pv (q := (RX3, TX3, 1)) hG hA hS hK hP hD [1, 2] (by decide +kernel) rfl rfl rfl) rfl rfl hl.1 rfl (lv_room (Nat.le_of_ble_eq_true rfl)) dX4_follow_51 ⟨Nat.zero_le _, Nat.zero_le _⟩) hP hD hS hA rfl (Eq.trans (b := [oa, oan]) rfl rfl) (fun H locs hP9 hD9 hS9 => ?_)
  replace hP : va_P D vwCl [(ta, .inr (4, [.long (((f_X3_squaresAt gu (f_X0_stepX xs k) (f_X0_stepY ys k))).toInt64), .long qb, .long qc])), (oa, .inr (3, [.ref oan])), (oan, .inl (cy 0, 6, .inl gu)), (ea, .inr (0, [.ref eax, .ref eay, .int (nI n)])), (eax, .inl (cy 0, 9, .inl xs)), (eay, .inl (cy 0, 9, .inl ys))] H := hP9
  replace hD : va_D A [(ta, .inr (4, [.long (((f_X3_squaresAt gu (f_X0_stepX xs k) (f_X0_stepY ys k))).toInt64), .long qb, .long qc])), (oa, .inr (3, [.ref oan])), (oan, .inl (cy 0, 6, .inl gu)), (ea, .inr (0, [.ref eax, .ref eay, .int (nI n)])), (eax, .inl (cy 0, 9, .inl xs)), (eay, .inl (cy 0, 9, .inl ys))] := hD9
  replace hS := hS9
  clear hP9 hD9 hS9
  refine lv_imul hx hb dX4_follow_54 ?_
  refine lv_iload hx hb dX4_follow_55 (lv_at hl 0 rfl) ?_
  refine lv_aload_n hx hb dX4_follow_57 rfl (lv_at hl 5 rfl) ?_
  refine lv_iload hx hb dX4_follow_58 (lv_at hl 3 rfl) ?_
  refine lv_iload hx hb dX4_follow_60 (lv_at hl 2 rfl) ?_
  refine yk_i [1, 2] (va_runV (As := [.int (xs k), .int (ys k)]) (rest := [.int (f_X0_stepY ys k), .int ((f_X0_stepX xs k) * (f_X3_byX gu (xs k) (ys k))), .ref ta]) ⟨hx, hb, hml, hown, hts⟩ (c_X3_byY l D cy oa oan gu (xs k) (ys k) H.size) (cwV 2 hts gX4_follow_X3_byY rfl rfl rfl hv_X3_byY (yk_room hRf hRl rfl rfl)) (yk_pv (q := (RX3, TX3, 1)) hG hA hS hK hP hD [1, 2] (by decide +kernel) rfl rfl rfl) rfl rfl hl.1 rfl (lv_room (Nat.le_of_ble_eq_true rfl)) dX4_follow_62 ⟨Nat.zero_le _, Nat.zero_le _⟩) hP hD hS hA rfl (Eq.trans (b := [oa, oan]) rfl rfl) (fun H locs hP9 hD9 hS9 => ?_)
  replace hP : va_P D vwCl [(ta, .inr (4, [.long (((f_X3_squaresAt gu (f_X0_stepX xs k) (f_X0_stepY ys k))).toInt64), .long qb, .long qc])), (oa, .inr (3, [.ref oan])), (oan, .inl (cy 0, 6, .inl gu)), (ea, .inr (0, [.ref eax, .ref eay, .int (nI n)])), (eax, .inl (cy 0, 9, .inl xs)), (eay, .inl (cy 0, 9, .inl ys))] H := hP9
  replace hD : va_D A [(ta, .inr (4, [.long (((f_X3_squaresAt gu (f_X0_stepX xs k) (f_X0_stepY ys k))).toInt64), .long qb, .long qc])), (oa, .inr (3, [.ref oan])), (oan, .inl (cy 0, 6, .inl gu)), (ea, .inr (0, [.ref eax, .ref eay, .int (nI n)])), (eax, .inl (cy 0, 9, .inl xs)), (eay, .inl (cy 0, 9, .inl ys))] := hD9
  replace hS := hS9
  clear hP9 hD9 hS9
  refine lv_imul hx hb dX4_follow_65 ?_
  refine lv_iadd hx hb dX4_follow_66 ?_
  refine lv_i2l hx hb dX4_follow_67 rfl ?_
  refine va_put (D := D) (ci := 4) (v := .long (((((f_X0_stepX xs k) * (f_X3_byX gu (xs k) (ys k))) + ((f_X0_stepY ys k) * (f_X3_byY gu (xs k) (ys k))))).toInt64)) (ty := .long) (C := RX4) (T := TX4) (N := 3) hx hb hts uX4_follow_X4 tyX4 tyX4_ok nmX4 hown hK hP hD hS 0 rfl rfl 1 (by decide) (hts _ kX4_follow_3) (fun _ h9 => h9) rfl (by decide +kernel) (rfl) (rfl) (Nat.le_of_ble_eq_true rfl) dX4_follow_68 (fun H locs hP9 hD9 hS9 => ?_)
  replace hP : va_P D vwCl [(ta, .inr (4, [.long (((f_X3_squaresAt gu (f_X0_stepX xs k) (f_X0_stepY ys k))).toInt64), .long (((((f_X0_stepX xs k) * (f_X3_byX gu (xs k) (ys k))) + ((f_X0_stepY ys k) * (f_X3_byY gu (xs k) (ys k))))).toInt64), .long qc])), (oa, .inr (3, [.ref oan])), (oan, .inl (cy 0, 6, .inl gu)), (ea, .inr (0, [.ref eax, .ref eay, .int (nI n)])), (eax, .inl (cy 0, 9, .inl xs)), (eay, .inl (cy 0, 9, .inl ys))] H := hP9
  replace hD : va_D A [(ta, .inr (4, [.long (((f_X3_squaresAt gu (f_X0_stepX xs k) (f_X0_stepY ys k))).toInt64), .long (((((f_X0_stepX xs k) * (f_X3_byX gu (xs k) (ys k))) + ((f_X0_stepY ys k) * (f_X3_byY gu (xs k) (ys k))))).toInt64), .long qc])), (oa, .inr (3, [.ref oan])), (oan, .inl (cy 0, 6, .inl gu)), (ea, .inr (0, [.ref eax, .ref eay, .int (nI n)])), (eax, .inl (cy 0, 9, .inl xs)), (eay, .inl (cy 0, 9, .inl ys))] := hD9
  replace hS := hS9
  clear hP9 hD9 hS9
  refine lv_aload_n hx hb dX4_follow_71 rfl (lv_at hl 4 rfl) ?_
  refine lv_aload_n hx hb dX4_follow_72 rfl (lv_at hl 5 rfl) ?_
  refine lv_iload hx hb dX4_follow_73 (lv_at hl 3 rfl) ?_
  refine lv_iload hx hb dX4_follow_75 (lv_at hl 2 rfl) ?_
  refine yk_i [1, 2] (va_runV (As := [.int (xs k), .int (ys k)]) (rest := [.ref ta]) ⟨hx, hb, hml, hown, hts⟩ (c_X3_at l D cy oa oan gu (xs k) (ys k) H.size) (cwV 2 hts gX4_follow_X3_at rfl rfl rfl hv_X3_at (yk_room hRf hRl rfl rfl)) (yk_pv (q := (RX3, TX3, 1)) hG hA hS hK hP hD [1, 2] (by decide +kernel) rfl rfl rfl) rfl rfl hl.1 rfl (lv_room (Nat.le_of_ble_eq_true rfl)) dX4_follow_77 ⟨Nat.zero_le _, Nat.zero_le _⟩) hP hD hS hA rfl (Eq.trans (b := [oa, oan]) rfl rfl) (fun H locs hP9 hD9 hS9 => ?_)
  replace hP : va_P D vwCl [(ta, .inr (4, [.long (((f_X3_squaresAt gu (f_X0_stepX xs k) (f_X0_stepY ys k))).toInt64), .long (((((f_X0_stepX xs k) * (f_X3_byX gu (xs k) (ys k))) + ((f_X0_stepY ys k) * (f_X3_byY gu (xs k) (ys k))))).toInt64), .long qc])), (oa, .inr (3, [.ref oan])), (oan, .inl (cy 0, 6, .inl gu)), (ea, .inr (0, [.ref eax, .ref eay, .int (nI n)])), (eax, .inl (cy 0, 9, .inl xs)), (eay, .inl (cy 0, 9, .inl ys))] H := hP9
  replace hD : va_D A [(ta, .inr (4, [.long (((f_X3_squaresAt gu (f_X0_stepX xs k) (f_X0_stepY ys k))).toInt64), .long (((((f_X0_stepX xs k) * (f_X3_byX gu (xs k) (ys k))) + ((f_X0_stepY ys k) * (f_X3_byY gu (xs k) (ys k))))).toInt64), .long qc])), (oa, .inr (3, [.ref oan])), (oan, .inl (cy 0, 6, .inl gu)), (ea, .inr (0, [.ref eax, .ref eay, .int (nI n)])), (eax, .inl (cy 0, 9, .inl xs)), (eay, .inl (cy 0, 9, .inl ys))] := hD9
  replace hS := hS9
  clear hP9 hD9 hS9
  refine lv_i2l hx hb dX4_follow_80 rfl ?_
  refine va_put (D := D) (ci := 4) (v := .long (((f_X3_at gu (xs k) (ys k))).toInt64)) (ty := .long) (C := RX4) (T := TX4) (N := 3) hx hb hts uX4_follow_X4 tyX4 tyX4_ok nmX4 hown hK hP hD hS 0 rfl rfl 2 (by decide) (hts _ kX4_follow_4) (fun _ h9 => h9) rfl (by decide +kernel) (rfl) (rfl) (Nat.le_of_ble_eq_true rfl) dX4_follow_81 (fun H locs hP9 hD9 hS9 => ?_)
  replace hP : va_P D vwCl [(ta, .inr (4, [.long (((f_X3_squaresAt gu (f_X0_stepX xs k) (f_X0_stepY ys k))).toInt64), .long (((((f_X0_stepX xs k) * (f_X3_byX gu (xs k) (ys k))) + ((f_X0_stepY ys k) * (f_X3_byY gu (xs k) (ys k))))).toInt64), .long (((f_X3_at gu (xs k) (ys k))).toInt64)])), (oa, .inr (3, [.ref oan])), (oan, .inl (cy 0, 6, .inl gu)), (ea, .inr (0, [.ref eax, .ref eay, .int (nI n)])), (eax, .inl (cy 0, 9, .inl xs)), (eay, .inl (cy 0, 9, .inl ys))] H := hP9
  replace hD : va_D A [(ta, .inr (4, [.long (((f_X3_squaresAt gu (f_X0_stepX xs k) (f_X0_stepY ys k))).toInt64), .long (((((f_X0_stepX xs k) * (f_X3_byX gu (xs k) (ys k))) + ((f_X0_stepY ys k) * (f_X3_byY gu (xs k) (ys k))))).toInt64), .long (((f_X3_at gu (xs k) (ys k))).toInt64)])), (oa, .inr (3, [.ref oan])), (oan, .inl (cy 0, 6, .inl gu)), (ea, .inr (0, [.ref eax, .ref eay, .int (nI n)])), (eax, .inl (cy 0, 9, .inl xs)), (eay, .inl (cy 0, 9, .inl ys))] := hD9
  replace hS := hS9
  clear hP9 hD9 hS9
  have hF : f_X4_follow gu xs ys k = ((((f_X3_squaresAt gu (f_X0_stepX xs k) (f_X0_stepY ys k))).toInt64), (((((f_X0_stepX xs k) * (f_X3_byX gu (xs k) (ys k))) + ((f_X0_stepY ys k) * (f_X3_byY gu (xs k) (ys k))))).toInt64), (((f_X3_at gu (xs k) (ys k))).toInt64)) := hF
  rw [hF] at hQ
  exact hQ _ _ _ _ dX4_follow_84 hP hS

theorem kX4_combine_0 : Cond.fieldLink RX4 31 "FlowPlane$Quadratic" "a" "J" ∈ wsX4_combine := by decide +kernel
theorem kX4_combine_1 : Cond.fieldLink RX4 43 "FlowPlane$Quadratic" "b" "J" ∈ wsX4_combine := by decide +kernel
theorem kX4_combine_2 : Cond.fieldLink RX4 49 "FlowPlane$Quadratic" "c" "J" ∈ wsX4_combine := by decide +kernel
theorem uX4_combine_X4 : ∀ w ∈ u_ws RX4 TX4 3, w ∈ wsX4_combine := by decide +kernel
def f_X4_combine (xa : Int64) (oa1 : Int64) (ob1 : Int64) (oc1 : Int64) (xb : Int64) (ea1 : Int64) (eb1 : Int64) (ec1 : Int64) : Int64 × Int64 × Int64 := (((xa * oa1) + (xb * ea1)), ((xa * ob1) + (xb * eb1)), ((xa * oc1) + (xb * ec1)))
set_option maxHeartbeats 400000000 in
set_option maxRecDepth 100000 in
theorem c_X4_combine (l : Launch) (D : va_G) (cy : Nat → ClassId) (ta : Nat) (oa : Nat) (ea : Nat) (qa : Int64) (qb : Int64) (qc : Int64) (xa : Int64) (oa1 : Int64) (ob1 : Int64) (oc1 : Int64) (xb : Int64) (ea1 : Int64) (eb1 : Int64) (ec1 : Int64) : yk_Cv l D vwCl (yk_ty cy) yX4_combine wsX4_combine 0 0 [.ref ta, .long xa, .ref oa, .long xb, .ref ea] [(ta, .inr (4, [.long qa, .long qb, .long qc])), (oa, .inr (4, [.long oa1, .long ob1, .long oc1])), (ea, .inr (4, [.long ea1, .long eb1, .long ec1]))] [(ta, .inr (4, [.long ((f_X4_combine xa oa1 ob1 oc1 xb ea1 eb1 ec1).1), .long ((f_X4_combine xa oa1 ob1 oc1 xb ea1 eb1 ec1).2.1), .long ((f_X4_combine xa oa1 ob1 oc1 xb ea1 eb1 ec1).2.2)])), (oa, .inr (4, [.long oa1, .long ob1, .long oc1])), (ea, .inr (4, [.long ea1, .long eb1, .long ec1]))] := by
  refine yk_eV (cc := cX4_combine) (maxL := 7) (by decide) rfl (Nat.le_of_ble_eq_true rfl) ?_
  intro p e R s m args below meth c A Q ls H locs hx hb hml hown hts hRf hRl hA hK hG hP hD hS hl hQ
  have hP : va_P D vwCl [(ta, .inr (4, [.long qa, .long qb, .long qc])), (oa, .inr (4, [.long oa1, .long ob1, .long oc1])), (ea, .inr (4, [.long ea1, .long eb1, .long ec1]))] H := hP
  have hl : lv_has ls 7 [(0, .ref ta), (1, .long xa), (3, .ref oa), (4, .long xb), (6, .ref ea)] := hl
  have hown : s.vm.findClass RX4 = some m.cls := hown
  have hF : (f_X4_combine xa oa1 ob1 oc1 xb ea1 eb1 ec1) = (f_X4_combine xa oa1 ob1 oc1 xb ea1 eb1 ec1) := rfl
  refine lv_aload_n hx hb dX4_combine_0 rfl (lv_at hl 0 rfl) ?_
  refine lv_lload_n hx hb dX4_combine_1 rfl (lv_at hl 1 rfl) ?_
  refine lv_aload_n hx hb dX4_combine_2 rfl (lv_at hl 2 rfl) ?_
  refine va_get (D := D) (ci := 4) (v := .long oa1) (C := RX4) (T := TX4) (N := 3) hx hb hts uX4_combine_X4 hown hK hP 1 rfl rfl 0 (by decide) (hts _ kX4_combine_0) (fun _ h9 => h9) rfl dX4_combine_3 ?_
  refine lv_lmul hx hb dX4_combine_6 ?_
  refine lv_lload hx hb dX4_combine_7 (lv_at hl 3 rfl) ?_
  refine lv_aload hx hb dX4_combine_9 (lv_at hl 4 rfl) ?_
  refine va_get (D := D) (ci := 4) (v := .long ea1) (C := RX4) (T := TX4) (N := 3) hx hb hts uX4_combine_X4 hown hK hP 2 rfl rfl 0 (by decide) (hts _ kX4_combine_0) (fun _ h9 => h9) rfl dX4_combine_11 ?_
  refine lv_lmul hx hb dX4_combine_14 ?_
  refine lv_ladd hx hb dX4_combine_15 ?_
  refine va_put (D := D) (ci := 4) (v := .long ((xa * oa1) + (xb * ea1))) (ty := .long) (C := RX4) (T := TX4) (N := 3) hx hb hts uX4_combine_X4 tyX4 tyX4_ok nmX4 hown hK hP hD hS 0 rfl rfl 0 (by decide) (hts _ kX4_combine_0) (fun _ h9 => h9) rfl (by decide +kernel) (rfl) (rfl) (Nat.le_of_ble_eq_true rfl) dX4_combine_16 (fun H locs hP9 hD9 hS9 => ?_)
  replace hP : va_P D vwCl [(ta, .inr (4, [.long ((xa * oa1) + (xb * ea1)), .long qb, .long qc])), (oa, .inr (4, [.long oa1, .long ob1, .long oc1])), (ea, .inr (4, [.long ea1, .long eb1, .long ec1]))] H := hP9
  replace hD : va_D A [(ta, .inr (4, [.long ((xa * oa1) + (xb * ea1)), .long qb, .long qc])), (oa, .inr (4, [.long oa1, .long ob1, .long oc1])), (ea, .inr (4, [.long ea1, .long eb1, .long ec1]))] := hD9
  replace hS := hS9
  clear hP9 hD9 hS9
  refine lv_aload_n hx hb dX4_combine_19 rfl (lv_at hl 0 rfl) ?_
  refine lv_lload_n hx hb dX4_combine_20 rfl (lv_at hl 1 rfl) ?_
  refine lv_aload_n hx hb dX4_combine_21 rfl (lv_at hl 2 rfl) ?_
  refine va_get (D := D) (ci := 4) (v := .long ob1) (C := RX4) (T := TX4) (N := 3) hx hb hts uX4_combine_X4 hown hK hP 1 rfl rfl 1 (by decide) (hts _ kX4_combine_1) (fun _ h9 => h9) rfl dX4_combine_22 ?_
  refine lv_lmul hx hb dX4_combine_25 ?_
  refine lv_lload hx hb dX4_combine_26 (lv_at hl 3 rfl) ?_
  refine lv_aload hx hb dX4_combine_28 (lv_at hl 4 rfl) ?_
  refine va_get (D := D) (ci := 4) (v := .long eb1) (C := RX4) (T := TX4) (N := 3) hx hb hts uX4_combine_X4 hown hK hP 2 rfl rfl 1 (by decide) (hts _ kX4_combine_1) (fun _ h9 => h9) rfl dX4_combine_30 ?_
  refine lv_lmul hx hb dX4_combine_33 ?_
  refine lv_ladd hx hb dX4_combine_34 ?_
  refine va_put (D := D) (ci := 4) (v := .long ((xa * ob1) + (xb * eb1))) (ty := .long) (C := RX4) (T := TX4) (N := 3) hx hb hts uX4_combine_X4 tyX4 tyX4_ok nmX4 hown hK hP hD hS 0 rfl rfl 1 (by decide) (hts _ kX4_combine_1) (fun _ h9 => h9) rfl (by decide +kernel) (rfl) (rfl) (Nat.le_of_ble_eq_true rfl) dX4_combine_35 (fun H locs hP9 hD9 hS9 => ?_)
  replace hP : va_P D vwCl [(ta, .inr (4, [.long ((xa * oa1) + (xb * ea1)), .long ((xa * ob1) + (xb * eb1)), .long qc])), (oa, .inr (4, [.long oa1, .long ob1, .long oc1])), (ea, .inr (4, [.long ea1, .long eb1, .long ec1]))] H := hP9
  replace hD : va_D A [(ta, .inr (4, [.long ((xa * oa1) + (xb * ea1)), .long ((xa * ob1) + (xb * eb1)), .long qc])), (oa, .inr (4, [.long oa1, .long ob1, .long oc1])), (ea, .inr (4, [.long ea1, .long eb1, .long ec1]))] := hD9
  replace hS := hS9
  clear hP9 hD9 hS9
  refine lv_aload_n hx hb dX4_combine_38 rfl (lv_at hl 0 rfl) ?_
  refine lv_lload_n hx hb dX4_combine_39 rfl (lv_at hl 1 rfl) ?_
  refine lv_aload_n hx hb dX4_combine_40 rfl (lv_at hl 2 rfl) ?_
  refine va_get (D := D) (ci := 4) (v := .long oc1) (C := RX4) (T := TX4) (N := 3) hx hb hts uX4_combine_X4 hown hK hP 1 rfl rfl 2 (by decide) (hts _ kX4_combine_2) (fun _ h9 => h9) rfl dX4_combine_41 ?_
  refine lv_lmul hx hb dX4_combine_44 ?_
  refine lv_lload hx hb dX4_combine_45 (lv_at hl 3 rfl) ?_
  refine lv_aload hx hb dX4_combine_47 (lv_at hl 4 rfl) ?_
  refine va_get (D := D) (ci := 4) (v := .long ec1) (C := RX4) (T := TX4) (N := 3) hx hb hts uX4_combine_X4 hown hK hP 2 rfl rfl 2 (by decide) (hts _ kX4_combine_2) (fun _ h9 => h9) rfl dX4_combine_49 ?_
  refine lv_lmul hx hb dX4_combine_52 ?_
  refine lv_ladd hx hb dX4_combine_53 ?_
  refine va_put (D := D) (ci := 4) (v := .long ((xa * oc1) + (xb * ec1))) (ty := .long) (C := RX4) (T := TX4) (N := 3) hx hb hts uX4_combine_X4 tyX4 tyX4_ok nmX4 hown hK hP hD hS 0 rfl rfl 2 (by decide) (hts _ kX4_combine_2) (fun _ h9 => h9) rfl (by decide +kernel) (rfl) (rfl) (Nat.le_of_ble_eq_true rfl) dX4_combine_54 (fun H locs hP9 hD9 hS9 => ?_)
  replace hP : va_P D vwCl [(ta, .inr (4, [.long ((xa * oa1) + (xb * ea1)), .long ((xa * ob1) + (xb * eb1)), .long ((xa * oc1) + (xb * ec1))])), (oa, .inr (4, [.long oa1, .long ob1, .long oc1])), (ea, .inr (4, [.long ea1, .long eb1, .long ec1]))] H := hP9
  replace hD : va_D A [(ta, .inr (4, [.long ((xa * oa1) + (xb * ea1)), .long ((xa * ob1) + (xb * eb1)), .long ((xa * oc1) + (xb * ec1))])), (oa, .inr (4, [.long oa1, .long ob1, .long oc1])), (ea, .inr (4, [.long ea1, .long eb1, .long ec1]))] := hD9
  replace hS := hS9
  clear hP9 hD9 hS9
  have hF : f_X4_combine xa oa1 ob1 oc1 xb ea1 eb1 ec1 = (((xa * oa1) + (xb * ea1)), ((xa * ob1) + (xb * eb1)), ((xa * oc1) + (xb * ec1))) := hF
  rw [hF] at hQ
  exact hQ _ _ _ _ dX4_combine_57 hP hS

theorem kX4_isZero_0 : Cond.fieldLink RX4 31 "FlowPlane$Quadratic" "a" "J" ∈ wsX4_isZero := by decide +kernel
theorem kX4_isZero_1 : Cond.fieldLink RX4 43 "FlowPlane$Quadratic" "b" "J" ∈ wsX4_isZero := by decide +kernel
theorem kX4_isZero_2 : Cond.fieldLink RX4 49 "FlowPlane$Quadratic" "c" "J" ∈ wsX4_isZero := by decide +kernel
theorem uX4_isZero_X4 : ∀ w ∈ u_ws RX4 TX4 3, w ∈ wsX4_isZero := by decide +kernel
def f_X4_isZero (qa : Int64) (qb : Int64) (qc : Int64) : Int32 := (if (lg_cmp qa 0) = 0 then (if (lg_cmp qb 0) = 0 then (if (lg_cmp qc 0) = 0 then 1 else 0) else 0) else 0)
theorem b_X4_isZero (qa : Int64) (qb : Int64) (qc : Int64) : (f_X4_isZero qa qb qc) = 0 ∨ (f_X4_isZero qa qb qc) = 1 := by
  unfold f_X4_isZero; (repeat' split) <;> first | exact Or.inl (by with_reducible rfl) | exact Or.inr (by with_reducible rfl)
set_option maxHeartbeats 400000000 in
set_option maxRecDepth 100000 in
theorem c_X4_isZero (l : Launch) (D : va_G) (cy : Nat → ClassId) (ta : Nat) (qa : Int64) (qb : Int64) (qc : Int64) : yk_Ci l D vwCl (yk_ty cy) yX4_isZero wsX4_isZero 0 0 [.ref ta] [(ta, .inr (4, [.long qa, .long qb, .long qc]))] (f_X4_isZero qa qb qc) [(ta, .inr (4, [.long qa, .long qb, .long qc]))] := by
  refine yk_eI (cc := cX4_isZero) (maxL := 1) (by decide) rfl (Nat.le_of_ble_eq_true rfl) (yk_nb (b_X4_isZero qa qb qc)) ?_
  intro p e R s m args below meth c A Q ls H locs hx hb hml hown hts hRf hRl hA hK hG hP hD hS hl hQ
  have hP : va_P D vwCl [(ta, .inr (4, [.long qa, .long qb, .long qc]))] H := hP
  have hl : lv_has ls 1 [(0, .ref ta)] := hl
  have hown : s.vm.findClass RX4 = some m.cls := hown
  have hF : (f_X4_isZero qa qb qc) = (f_X4_isZero qa qb qc) := rfl
  refine lv_aload_n hx hb dX4_isZero_0 rfl (lv_at hl 0 rfl) ?_
  refine va_get (D := D) (ci := 4) (v := .long qa) (C := RX4) (T := TX4) (N := 3) hx hb hts uX4_isZero_X4 hown hK hP 0 rfl rfl 0 (by decide) (hts _ kX4_isZero_0) (fun _ h9 => h9) rfl dX4_isZero_1 ?_
  refine lv_lconst (v := 0) hx hb dX4_isZero_4 (by decide) ?_
  refine W.lcmp hx hb dX4_isZero_5 ?_
  have J5 : ∀ (v4 : Int32) (H : Heap) (locs : List Loc) (ls : Array Slot), v4 = (if (lg_cmp qa 0) = 0 then (if (lg_cmp qb 0) = 0 then (if (lg_cmp qc 0) = 0 then 1 else 0) else 0) else 0) → va_P D vwCl [(ta, .inr (4, [.long qa, .long qb, .long qc]))] H → va_D A [(ta, .inr (4, [.long qa, .long qb, .long qc]))] → va_S A s.heap H locs → lv_has ls 1 [(0, .ref ta)] → W p l e R s m args below meth c H locs 0 0 Q (F0 m 32 ls [.int v4]) := by
    clear hP hD hS hl
    intro v4 H locs ls ev4
    rw [ev4]
    clear ev4
    intro hP hD hS hl
    have hF : f_X4_isZero qa qb qc = (if (lg_cmp qa 0) = 0 then (if (lg_cmp qb 0) = 0 then (if (lg_cmp qc 0) = 0 then 1 else 0) else 0) else 0) := hF
    rw [hF] at hQ
    exact hQ _ _ _ _ dX4_isZero_32 hP hS
  refine lv_if_ne (tgt := 31) hx hb dX4_isZero_6 (by decide) (fun hc1 => ?_) (fun hc1 => ?_)
  · refine lv_iconst (v := 0) hx hb dX4_isZero_31 (by decide) ?_
    exact J5 _ _ _ _ ((if_neg hc1).symm) hP hD hS (lv_sub hl [0] rfl)
  · refine lv_aload_n hx hb dX4_isZero_9 rfl (lv_at hl 0 rfl) ?_
    refine va_get (D := D) (ci := 4) (v := .long qb) (C := RX4) (T := TX4) (N := 3) hx hb hts uX4_isZero_X4 hown hK hP 0 rfl rfl 1 (by decide) (hts _ kX4_isZero_1) (fun _ h9 => h9) rfl dX4_isZero_10 ?_
    refine lv_lconst (v := 0) hx hb dX4_isZero_13 (by decide) ?_
    refine W.lcmp hx hb dX4_isZero_14 ?_
    refine lv_if_ne (tgt := 31) hx hb dX4_isZero_15 (by decide) (fun hc2 => ?_) (fun hc2 => ?_)
    · refine lv_iconst (v := 0) hx hb dX4_isZero_31 (by decide) ?_
      exact J5 _ _ _ _ (((if_pos hc1).trans (if_neg hc2)).symm) hP hD hS (lv_sub hl [0] rfl)
    · refine lv_aload_n hx hb dX4_isZero_18 rfl (lv_at hl 0 rfl) ?_
      refine va_get (D := D) (ci := 4) (v := .long qc) (C := RX4) (T := TX4) (N := 3) hx hb hts uX4_isZero_X4 hown hK hP 0 rfl rfl 2 (by decide) (hts _ kX4_isZero_2) (fun _ h9 => h9) rfl dX4_isZero_19 ?_
      refine lv_lconst (v := 0) hx hb dX4_isZero_22 (by decide) ?_
      refine W.lcmp hx hb dX4_isZero_23 ?_
      refine lv_if_ne (tgt := 31) hx hb dX4_isZero_24 (by decide) (fun hc3 => ?_) (fun hc3 => ?_)
      · refine lv_iconst (v := 0) hx hb dX4_isZero_31 (by decide) ?_
        exact J5 _ _ _ _ (((if_pos hc1).trans ((if_pos hc2).trans (if_neg hc3))).symm) hP hD hS (lv_sub hl [0] rfl)
      · refine lv_iconst (v := 1) hx hb dX4_isZero_27 (by decide) ?_
        refine lv_goto (tgt := 32) hx hb dX4_isZero_28 (by decide) ?_
        exact J5 _ _ _ _ (((if_pos hc1).trans ((if_pos hc2).trans (if_pos hc3))).symm) hP hD hS (lv_sub hl [0] rfl)

theorem kX4_discriminant_0 : Cond.fieldLink RX4 43 "FlowPlane$Quadratic" "b" "J" ∈ wsX4_discriminant := by decide +kernel
theorem kX4_discriminant_1 : Cond.constantLong RX4 52 4 ∈ wsX4_discriminant := by decide +kernel
theorem kX4_discriminant_2 : Cond.fieldLink RX4 31 "FlowPlane$Quadratic" "a" "J" ∈ wsX4_discriminant := by decide +kernel
theorem kX4_discriminant_3 : Cond.fieldLink RX4 49 "FlowPlane$Quadratic" "c" "J" ∈ wsX4_discriminant := by decide +kernel
theorem uX4_discriminant_X4 : ∀ w ∈ u_ws RX4 TX4 3, w ∈ wsX4_discriminant := by decide +kernel
def f_X4_discriminant (qa : Int64) (qb : Int64) (qc : Int64) : Int64 := ((qb * qb) - ((4 * qa) * qc))
set_option maxHeartbeats 400000000 in
set_option maxRecDepth 100000 in
theorem c_X4_discriminant (l : Launch) (D : va_G) (cy : Nat → ClassId) (ta : Nat) (qa : Int64) (qb : Int64) (qc : Int64) : yk_Cl l D vwCl (yk_ty cy) yX4_discriminant wsX4_discriminant 0 0 [.ref ta] [(ta, .inr (4, [.long qa, .long qb, .long qc]))] (f_X4_discriminant qa qb qc) [(ta, .inr (4, [.long qa, .long qb, .long qc]))] := by
  refine yk_eL (cc := cX4_discriminant) (maxL := 1) (by decide) rfl (Nat.le_of_ble_eq_true rfl) ?_
  intro p e R s m args below meth c A Q ls H locs hx hb hml hown hts hRf hRl hA hK hG hP hD hS hl hQ
  have hP : va_P D vwCl [(ta, .inr (4, [.long qa, .long qb, .long qc]))] H := hP
  have hl : lv_has ls 1 [(0, .ref ta)] := hl
  have hown : s.vm.findClass RX4 = some m.cls := hown
  have hF : (f_X4_discriminant qa qb qc) = (f_X4_discriminant qa qb qc) := rfl
  refine lv_aload_n hx hb dX4_discriminant_0 rfl (lv_at hl 0 rfl) ?_
  refine va_get (D := D) (ci := 4) (v := .long qb) (C := RX4) (T := TX4) (N := 3) hx hb hts uX4_discriminant_X4 hown hK hP 0 rfl rfl 1 (by decide) (hts _ kX4_discriminant_0) (fun _ h9 => h9) rfl dX4_discriminant_1 ?_
  refine lv_aload_n hx hb dX4_discriminant_4 rfl (lv_at hl 0 rfl) ?_
  refine va_get (D := D) (ci := 4) (v := .long qb) (C := RX4) (T := TX4) (N := 3) hx hb hts uX4_discriminant_X4 hown hK hP 0 rfl rfl 1 (by decide) (hts _ kX4_discriminant_0) (fun _ h9 => h9) rfl dX4_discriminant_5 ?_
  refine lv_lmul hx hb dX4_discriminant_8 ?_
  refine lv_ldc2 (v := 4) hx hb hown (hts _ kX4_discriminant_1) dX4_discriminant_9 ?_
  refine lv_aload_n hx hb dX4_discriminant_12 rfl (lv_at hl 0 rfl) ?_
  refine va_get (D := D) (ci := 4) (v := .long qa) (C := RX4) (T := TX4) (N := 3) hx hb hts uX4_discriminant_X4 hown hK hP 0 rfl rfl 0 (by decide) (hts _ kX4_discriminant_2) (fun _ h9 => h9) rfl dX4_discriminant_13 ?_
  refine lv_lmul hx hb dX4_discriminant_16 ?_
  refine lv_aload_n hx hb dX4_discriminant_17 rfl (lv_at hl 0 rfl) ?_
  refine va_get (D := D) (ci := 4) (v := .long qc) (C := RX4) (T := TX4) (N := 3) hx hb hts uX4_discriminant_X4 hown hK hP 0 rfl rfl 2 (by decide) (hts _ kX4_discriminant_3) (fun _ h9 => h9) rfl dX4_discriminant_18 ?_
  refine lv_lmul hx hb dX4_discriminant_21 ?_
  refine lv_lsub hx hb dX4_discriminant_22 ?_
  have hF : f_X4_discriminant qa qb qc = ((qb * qb) - ((4 * qa) * qc)) := hF
  rw [hF] at hQ
  exact hQ _ _ _ _ dX4_discriminant_23 hP hS

theorem kX4_rootCount_0 : Cond.fieldLink RX4 31 "FlowPlane$Quadratic" "a" "J" ∈ wsX4_rootCount := by decide +kernel
theorem kX4_rootCount_1 : Cond.fieldLink RX4 43 "FlowPlane$Quadratic" "b" "J" ∈ wsX4_rootCount := by decide +kernel
theorem uX4_rootCount_X4 : ∀ w ∈ u_ws RX4 TX4 3, w ∈ wsX4_rootCount := by decide +kernel
def f_X4_rootCount (qa : Int64) (qb : Int64) (qc : Int64) : Int32 := (if (lg_cmp qa 0) = 0 then (if (lg_cmp qb 0) = 0 then 0 else 1) else (if (lg_cmp (f_X4_discriminant qa qb qc) 0) = 0 then 1 else (if (lg_cmp (f_X4_discriminant qa qb qc) 0) ≤ 0 then 0 else 2)))
set_option maxHeartbeats 400000000 in
set_option maxRecDepth 100000 in
theorem c_X4_rootCount (l : Launch) (D : va_G) (cy : Nat → ClassId) (ta : Nat) (qa : Int64) (qb : Int64) (qc : Int64) : yk_Ci l D vwCl (yk_ty cy) yX4_rootCount wsX4_rootCount 1 20 [.ref ta] [(ta, .inr (4, [.long qa, .long qb, .long qc]))] (f_X4_rootCount qa qb qc) [(ta, .inr (4, [.long qa, .long qb, .long qc]))] := by
  refine yk_eI (cc := cX4_rootCount) (maxL := 3) (by decide) rfl (Nat.le_of_ble_eq_true rfl) rfl ?_
  intro p e R s m args below meth c A Q ls H locs hx hb hml hown hts hRf hRl hA hK hG hP hD hS hl hQ
  have hP : va_P D vwCl [(ta, .inr (4, [.long qa, .long qb, .long qc]))] H := hP
  have hl : lv_has ls 3 [(0, .ref ta)] := hl
  have hown : s.vm.findClass RX4 = some m.cls := hown
  have hF : (f_X4_rootCount qa qb qc) = (f_X4_rootCount qa qb qc) := rfl
  refine lv_aload_n hx hb dX4_rootCount_0 rfl (lv_at hl 0 rfl) ?_
  refine va_get (D := D) (ci := 4) (v := .long qa) (C := RX4) (T := TX4) (N := 3) hx hb hts uX4_rootCount_X4 hown hK hP 0 rfl rfl 0 (by decide) (hts _ kX4_rootCount_0) (fun _ h9 => h9) rfl dX4_rootCount_1 ?_
  refine lv_lconst (v := 0) hx hb dX4_rootCount_4 (by decide) ?_
  refine W.lcmp hx hb dX4_rootCount_5 ?_
  refine lv_if_ne (tgt := 24) hx hb dX4_rootCount_6 (by decide) (fun hc1 => ?_) (fun hc1 => ?_)
  · replace hF := hF.trans (if_neg hc1)
    refine lv_aload_n hx hb dX4_rootCount_24 rfl (lv_at hl 0 rfl) ?_
    refine yk_l [0] (va_runV (As := []) (rest := []) ⟨hx, hb, hml, hown, hts⟩ (c_X4_discriminant l D cy ta qa qb qc H.size) (cwV 0 hts gX4_rootCount_X4_discriminant rfl rfl rfl hv_X4_discriminant (yk_room hRf hRl rfl rfl)) (yk_pv (q := (RX4, TX4, 3)) hG hA hS hK hP hD [0] (by decide +kernel) rfl rfl rfl) rfl rfl hl.1 rfl (lv_room (Nat.le_of_ble_eq_true rfl)) dX4_rootCount_25 ⟨Nat.zero_le _, Nat.zero_le _⟩) hP hD hS hA rfl (Eq.trans (b := [ta]) rfl rfl) (fun H locs hP9 hD9 hS9 => ?_)
    replace hP : va_P D vwCl [(ta, .inr (4, [.long qa, .long qb, .long qc]))] H := hP9
    replace hD : va_D A [(ta, .inr (4, [.long qa, .long qb, .long qc]))] := hD9
    replace hS := hS9
    clear hP9 hD9 hS9
    refine lv_lstore_n (lv' := [(1, .long (f_X4_discriminant qa qb qc)), (0, .ref ta)]) hx hb dX4_rootCount_28 rfl hl (by decide) rfl (fun ls hl9 => ?_)
    replace hl := hl9
    clear hl9
    refine lv_lload_n hx hb dX4_rootCount_29 rfl (lv_at hl 0 rfl) ?_
    refine lv_lconst (v := 0) hx hb dX4_rootCount_30 (by decide) ?_
    refine W.lcmp hx hb dX4_rootCount_31 ?_
    refine lv_if_ne (tgt := 37) hx hb dX4_rootCount_32 (by decide) (fun hc2 => ?_) (fun hc2 => ?_)
    · replace hF := hF.trans (if_neg hc2)
      refine lv_lload_n hx hb dX4_rootCount_37 rfl (lv_at hl 0 rfl) ?_
      refine lv_lconst (v := 0) hx hb dX4_rootCount_38 (by decide) ?_
      refine W.lcmp hx hb dX4_rootCount_39 ?_
      have J5 : ∀ (v4 : Int32) (H : Heap) (locs : List Loc) (ls : Array Slot), v4 = (if (lg_cmp (f_X4_discriminant qa qb qc) 0) ≤ 0 then 0 else 2) → va_P D vwCl [(ta, .inr (4, [.long qa, .long qb, .long qc]))] H → va_D A [(ta, .inr (4, [.long qa, .long qb, .long qc]))] → va_S A s.heap H locs → lv_has ls 3 [(0, .ref ta), (1, .long (f_X4_discriminant qa qb qc))] → W p l e R s m args below meth c H locs 0 0 Q (F0 m 48 ls [.int v4]) := by
        clear hP hD hS hl
        intro v4 H locs ls ev4
        rw [ev4]
        clear ev4
        intro hP hD hS hl
        have hF : f_X4_rootCount qa qb qc = (if (lg_cmp (f_X4_discriminant qa qb qc) 0) ≤ 0 then 0 else 2) := hF
        rw [hF] at hQ
        exact hQ _ _ _ _ dX4_rootCount_48 hP hS
      refine lv_if_le (tgt := 47) hx hb dX4_rootCount_40 (by decide) (fun hc3 => ?_) (fun hc3 => ?_)
      · refine lv_iconst (v := 0) hx hb dX4_rootCount_47 (by decide) ?_
        exact J5 _ _ _ _ ((if_pos hc3).symm) hP hD hS (lv_sub hl [1, 0] rfl)
      · refine lv_iconst (v := 2) hx hb dX4_rootCount_43 (by decide) ?_
        refine lv_goto (tgt := 48) hx hb dX4_rootCount_44 (by decide) ?_
        exact J5 _ _ _ _ ((if_neg hc3).symm) hP hD hS (lv_sub hl [1, 0] rfl)
    · replace hF := hF.trans (if_pos hc2)
      refine lv_iconst (v := 1) hx hb dX4_rootCount_35 (by decide) ?_
      have hF : f_X4_rootCount qa qb qc = 1 := hF
      rw [hF] at hQ
      exact hQ _ _ _ _ dX4_rootCount_36 hP hS
  · replace hF := hF.trans (if_pos hc1)
    refine lv_aload_n hx hb dX4_rootCount_9 rfl (lv_at hl 0 rfl) ?_
    refine va_get (D := D) (ci := 4) (v := .long qb) (C := RX4) (T := TX4) (N := 3) hx hb hts uX4_rootCount_X4 hown hK hP 0 rfl rfl 1 (by decide) (hts _ kX4_rootCount_1) (fun _ h9 => h9) rfl dX4_rootCount_10 ?_
    refine lv_lconst (v := 0) hx hb dX4_rootCount_13 (by decide) ?_
    refine W.lcmp hx hb dX4_rootCount_14 ?_
    have J8 : ∀ (v7 : Int32) (H : Heap) (locs : List Loc) (ls : Array Slot), v7 = (if (lg_cmp qb 0) = 0 then 0 else 1) → va_P D vwCl [(ta, .inr (4, [.long qa, .long qb, .long qc]))] H → va_D A [(ta, .inr (4, [.long qa, .long qb, .long qc]))] → va_S A s.heap H locs → lv_has ls 3 [(0, .ref ta)] → W p l e R s m args below meth c H locs 0 0 Q (F0 m 23 ls [.int v7]) := by
      clear hP hD hS hl
      intro v7 H locs ls ev7
      rw [ev7]
      clear ev7
      intro hP hD hS hl
      have hF : f_X4_rootCount qa qb qc = (if (lg_cmp qb 0) = 0 then 0 else 1) := hF
      rw [hF] at hQ
      exact hQ _ _ _ _ dX4_rootCount_23 hP hS
    refine lv_if_ne (tgt := 22) hx hb dX4_rootCount_15 (by decide) (fun hc6 => ?_) (fun hc6 => ?_)
    · refine lv_iconst (v := 1) hx hb dX4_rootCount_22 (by decide) ?_
      exact J8 _ _ _ _ ((if_neg hc6).symm) hP hD hS (lv_sub hl [0] rfl)
    · refine lv_iconst (v := 0) hx hb dX4_rootCount_18 (by decide) ?_
      refine lv_goto (tgt := 23) hx hb dX4_rootCount_19 (by decide) ?_
      exact J8 _ _ _ _ ((if_pos hc6).symm) hP hD hS (lv_sub hl [0] rfl)

def f_X4_branch (x : Int32) : Int32 := (if x = 0 then (-1) else 1)
set_option maxHeartbeats 400000000 in
set_option maxRecDepth 100000 in
theorem c_X4_branch (l : Launch) (D : va_G) (cy : Nat → ClassId) (ta : Nat) (qa : Int64) (qb : Int64) (qc : Int64) (x : Int32) : yk_Ci l D vwCl (yk_ty cy) yX4_branch wsX4_branch 0 0 [.ref ta, .int x] [(ta, .inr (4, [.long qa, .long qb, .long qc]))] (f_X4_branch x) [(ta, .inr (4, [.long qa, .long qb, .long qc]))] := by
  refine yk_eI (cc := cX4_branch) (maxL := 2) (by decide) rfl (Nat.le_of_ble_eq_true rfl) rfl ?_
  intro p e R s m args below meth c A Q ls H locs hx hb hml hown hts hRf hRl hA hK hG hP hD hS hl hQ
  have hP : va_P D vwCl [(ta, .inr (4, [.long qa, .long qb, .long qc]))] H := hP
  have hl : lv_has ls 2 [(0, .ref ta), (1, .int x)] := hl
  have hown : s.vm.findClass RX4 = some m.cls := hown
  have hF : (f_X4_branch x) = (f_X4_branch x) := rfl
  refine lv_iload_n hx hb dX4_branch_0 rfl (lv_at hl 1 rfl) ?_
  have J3 : ∀ (v2 : Int32) (H : Heap) (locs : List Loc) (ls : Array Slot), v2 = (if x = 0 then (-1) else 1) → va_P D vwCl [(ta, .inr (4, [.long qa, .long qb, .long qc]))] H → va_D A [(ta, .inr (4, [.long qa, .long qb, .long qc]))] → va_S A s.heap H locs → lv_has ls 2 [(0, .ref ta), (1, .int x)] → W p l e R s m args below meth c H locs 0 0 Q (F0 m 9 ls [.int v2]) := by
    clear hP hD hS hl
    intro v2 H locs ls ev2
    rw [ev2]
    clear ev2
    intro hP hD hS hl
    have hF : f_X4_branch x = (if x = 0 then (-1) else 1) := hF
    rw [hF] at hQ
    exact hQ _ _ _ _ dX4_branch_9 hP hS
  refine lv_if_ne (tgt := 8) hx hb dX4_branch_1 (by decide) (fun hc1 => ?_) (fun hc1 => ?_)
  · refine lv_iconst (v := 1) hx hb dX4_branch_8 (by decide) ?_
    exact J3 _ _ _ _ ((if_neg hc1).symm) hP hD hS (lv_sub hl [0, 1] rfl)
  · refine lv_iconst (v := (-1)) hx hb dX4_branch_4 (by decide) ?_
    refine lv_goto (tgt := 9) hx hb dX4_branch_5 (by decide) ?_
    exact J3 _ _ _ _ ((if_pos hc1).symm) hP hD hS (lv_sub hl [0, 1] rfl)

theorem kX4_signAtRoot_0 : Cond.fieldLink RX4 31 "FlowPlane$Quadratic" "a" "J" ∈ wsX4_signAtRoot := by decide +kernel
theorem kX4_signAtRoot_1 : Cond.fieldLink RX4 43 "FlowPlane$Quadratic" "b" "J" ∈ wsX4_signAtRoot := by decide +kernel
theorem kX4_signAtRoot_2 : Cond.fieldLink RX4 49 "FlowPlane$Quadratic" "c" "J" ∈ wsX4_signAtRoot := by decide +kernel
theorem kX4_signAtRoot_3 : Cond.constantLong RX4 64 2 ∈ wsX4_signAtRoot := by decide +kernel
theorem uX4_signAtRoot_X4 : ∀ w ∈ u_ws RX4 TX4 3, w ∈ wsX4_signAtRoot := by decide +kernel
def f_X4_signAtRoot (qa : Int64) (qb : Int64) (qc : Int64) (x : Int32) (ya : Int64) (yb : Int64) (yc : Int64) : Int32 := (if (lg_cmp qa 0) = 0 then (f_J13_signum_95d88 ((((ya * qc) * qc) - ((yb * qb) * qc)) + ((yc * qb) * qb))) else (if (((f_J13_signum_95d88 (((2 * qa) * ((qa * yc) - (ya * qc))) - (((qa * yb) - (ya * qb)) * qb))) * (if (lg_cmp (f_X4_discriminant qa qb qc) 0) = 0 then 0 else ((f_X4_branch x) * (f_J13_signum_95d88 ((qa * yb) - (ya * qb)))))) : Int32) < 0 then (if (f_J13_signum_95d88 ((((qa * yc) - (ya * qc)) * ((qa * yc) - (ya * qc))) - (((qa * yb) - (ya * qb)) * ((qb * yc) - (yb * qc))))) < 0 then (if (lg_cmp (f_X4_discriminant qa qb qc) 0) = 0 then 0 else ((f_X4_branch x) * (f_J13_signum_95d88 ((qa * yb) - (ya * qb))))) else ((f_J13_signum_95d88 (((2 * qa) * ((qa * yc) - (ya * qc))) - (((qa * yb) - (ya * qb)) * qb))) * (f_J13_signum_95d88 ((((qa * yc) - (ya * qc)) * ((qa * yc) - (ya * qc))) - (((qa * yb) - (ya * qb)) * ((qb * yc) - (yb * qc))))))) else (if (f_J13_signum_95d88 (((2 * qa) * ((qa * yc) - (ya * qc))) - (((qa * yb) - (ya * qb)) * qb))) = 0 then (if (lg_cmp (f_X4_discriminant qa qb qc) 0) = 0 then 0 else ((f_X4_branch x) * (f_J13_signum_95d88 ((qa * yb) - (ya * qb))))) else (f_J13_signum_95d88 (((2 * qa) * ((qa * yc) - (ya * qc))) - (((qa * yb) - (ya * qb)) * qb))))))
set_option maxHeartbeats 400000000 in
set_option maxRecDepth 100000 in
theorem c_X4_signAtRoot (l : Launch) (D : va_G) (cy : Nat → ClassId) (ta : Nat) (qa : Int64) (qb : Int64) (qc : Int64) (x : Int32) (ya : Int64) (yb : Int64) (yc : Int64) : yk_Ci l D vwCl (yk_ty cy) yX4_signAtRoot wsX4_signAtRoot 1 21 [.ref ta, .int x, .long ya, .long yb, .long yc] [(ta, .inr (4, [.long qa, .long qb, .long qc]))] (f_X4_signAtRoot qa qb qc x ya yb yc) [(ta, .inr (4, [.long qa, .long qb, .long qc]))] := by
  refine yk_eI (cc := cX4_signAtRoot) (maxL := 17) (by decide) rfl (Nat.le_of_ble_eq_true rfl) rfl ?_
  intro p e R s m args below meth c A Q ls H locs hx hb hml hown hts hRf hRl hA hK hG hP hD hS hl hQ
  have hP : va_P D vwCl [(ta, .inr (4, [.long qa, .long qb, .long qc]))] H := hP
  have hl : lv_has ls 17 [(0, .ref ta), (1, .int x), (2, .long ya), (4, .long yb), (6, .long yc)] := hl
  have hown : s.vm.findClass RX4 = some m.cls := hown
  have hF : (f_X4_signAtRoot qa qb qc x ya yb yc) = (f_X4_signAtRoot qa qb qc x ya yb yc) := rfl
  refine lv_aload_n hx hb dX4_signAtRoot_0 rfl (lv_at hl 0 rfl) ?_
  refine va_get (D := D) (ci := 4) (v := .long qa) (C := RX4) (T := TX4) (N := 3) hx hb hts uX4_signAtRoot_X4 hown hK hP 0 rfl rfl 0 (by decide) (hts _ kX4_signAtRoot_0) (fun _ h9 => h9) rfl dX4_signAtRoot_1 ?_
  refine lv_lconst (v := 0) hx hb dX4_signAtRoot_4 (by decide) ?_
  refine W.lcmp hx hb dX4_signAtRoot_5 ?_
  refine lv_if_ne (tgt := 50) hx hb dX4_signAtRoot_6 (by decide) (fun hc1 => ?_) (fun hc1 => ?_)
  · replace hF := hF.trans (if_neg hc1)
    refine lv_aload_n hx hb dX4_signAtRoot_50 rfl (lv_at hl 0 rfl) ?_
    refine va_get (D := D) (ci := 4) (v := .long qa) (C := RX4) (T := TX4) (N := 3) hx hb hts uX4_signAtRoot_X4 hown hK hP 0 rfl rfl 0 (by decide) (hts _ kX4_signAtRoot_0) (fun _ h9 => h9) rfl dX4_signAtRoot_51 ?_
    refine lv_lload hx hb dX4_signAtRoot_54 (lv_at hl 3 rfl) ?_
    refine lv_lmul hx hb dX4_signAtRoot_56 ?_
    refine lv_lload_n hx hb dX4_signAtRoot_57 rfl (lv_at hl 2 rfl) ?_
    refine lv_aload_n hx hb dX4_signAtRoot_58 rfl (lv_at hl 0 rfl) ?_
    refine va_get (D := D) (ci := 4) (v := .long qb) (C := RX4) (T := TX4) (N := 3) hx hb hts uX4_signAtRoot_X4 hown hK hP 0 rfl rfl 1 (by decide) (hts _ kX4_signAtRoot_1) (fun _ h9 => h9) rfl dX4_signAtRoot_59 ?_
    refine lv_lmul hx hb dX4_signAtRoot_62 ?_
    refine lv_lsub hx hb dX4_signAtRoot_63 ?_
    refine lv_lstore (lv' := [(8, .long ((qa * yb) - (ya * qb))), (0, .ref ta), (1, .int x), (2, .long ya), (4, .long yb), (6, .long yc)]) hx hb dX4_signAtRoot_64 hl (by decide) rfl (fun ls hl9 => ?_)
    replace hl := hl9
    clear hl9
    refine lv_aload_n hx hb dX4_signAtRoot_66 rfl (lv_at hl 1 rfl) ?_
    refine va_get (D := D) (ci := 4) (v := .long qa) (C := RX4) (T := TX4) (N := 3) hx hb hts uX4_signAtRoot_X4 hown hK hP 0 rfl rfl 0 (by decide) (hts _ kX4_signAtRoot_0) (fun _ h9 => h9) rfl dX4_signAtRoot_67 ?_
    refine lv_lload hx hb dX4_signAtRoot_70 (lv_at hl 5 rfl) ?_
    refine lv_lmul hx hb dX4_signAtRoot_72 ?_
    refine lv_lload_n hx hb dX4_signAtRoot_73 rfl (lv_at hl 3 rfl) ?_
    refine lv_aload_n hx hb dX4_signAtRoot_74 rfl (lv_at hl 1 rfl) ?_
    refine va_get (D := D) (ci := 4) (v := .long qc) (C := RX4) (T := TX4) (N := 3) hx hb hts uX4_signAtRoot_X4 hown hK hP 0 rfl rfl 2 (by decide) (hts _ kX4_signAtRoot_2) (fun _ h9 => h9) rfl dX4_signAtRoot_75 ?_
    refine lv_lmul hx hb dX4_signAtRoot_78 ?_
    refine lv_lsub hx hb dX4_signAtRoot_79 ?_
    refine lv_lstore (lv' := [(10, .long ((qa * yc) - (ya * qc))), (8, .long ((qa * yb) - (ya * qb))), (0, .ref ta), (1, .int x), (2, .long ya), (4, .long yb), (6, .long yc)]) hx hb dX4_signAtRoot_80 hl (by decide) rfl (fun ls hl9 => ?_)
    replace hl := hl9
    clear hl9
    refine lv_aload_n hx hb dX4_signAtRoot_82 rfl (lv_at hl 2 rfl) ?_
    refine va_get (D := D) (ci := 4) (v := .long qb) (C := RX4) (T := TX4) (N := 3) hx hb hts uX4_signAtRoot_X4 hown hK hP 0 rfl rfl 1 (by decide) (hts _ kX4_signAtRoot_1) (fun _ h9 => h9) rfl dX4_signAtRoot_83 ?_
    refine lv_lload hx hb dX4_signAtRoot_86 (lv_at hl 6 rfl) ?_
    refine lv_lmul hx hb dX4_signAtRoot_88 ?_
    refine lv_lload hx hb dX4_signAtRoot_89 (lv_at hl 5 rfl) ?_
    refine lv_aload_n hx hb dX4_signAtRoot_91 rfl (lv_at hl 2 rfl) ?_
    refine va_get (D := D) (ci := 4) (v := .long qc) (C := RX4) (T := TX4) (N := 3) hx hb hts uX4_signAtRoot_X4 hown hK hP 0 rfl rfl 2 (by decide) (hts _ kX4_signAtRoot_2) (fun _ h9 => h9) rfl dX4_signAtRoot_92 ?_
    refine lv_lmul hx hb dX4_signAtRoot_95 ?_
    refine lv_lsub hx hb dX4_signAtRoot_96 ?_
    refine lv_lstore (lv' := [(12, .long ((qb * yc) - (yb * qc))), (10, .long ((qa * yc) - (ya * qc))), (8, .long ((qa * yb) - (ya * qb))), (0, .ref ta), (1, .int x), (2, .long ya), (4, .long yb), (6, .long yc)]) hx hb dX4_signAtRoot_97 hl (by decide) rfl (fun ls hl9 => ?_)
    replace hl := hl9
    clear hl9
    refine lv_ldc2 (v := 2) hx hb hown (hts _ kX4_signAtRoot_3) dX4_signAtRoot_99 ?_
    refine lv_aload_n hx hb dX4_signAtRoot_102 rfl (lv_at hl 3 rfl) ?_
    refine va_get (D := D) (ci := 4) (v := .long qa) (C := RX4) (T := TX4) (N := 3) hx hb hts uX4_signAtRoot_X4 hown hK hP 0 rfl rfl 0 (by decide) (hts _ kX4_signAtRoot_0) (fun _ h9 => h9) rfl dX4_signAtRoot_103 ?_
    refine lv_lmul hx hb dX4_signAtRoot_106 ?_
    refine lv_lload hx hb dX4_signAtRoot_107 (lv_at hl 1 rfl) ?_
    refine lv_lmul hx hb dX4_signAtRoot_109 ?_
    refine lv_lload hx hb dX4_signAtRoot_110 (lv_at hl 2 rfl) ?_
    refine lv_aload_n hx hb dX4_signAtRoot_112 rfl (lv_at hl 3 rfl) ?_
    refine va_get (D := D) (ci := 4) (v := .long qb) (C := RX4) (T := TX4) (N := 3) hx hb hts uX4_signAtRoot_X4 hown hK hP 0 rfl rfl 1 (by decide) (hts _ kX4_signAtRoot_1) (fun _ h9 => h9) rfl dX4_signAtRoot_113 ?_
    refine lv_lmul hx hb dX4_signAtRoot_116 ?_
    refine lv_lsub hx hb dX4_signAtRoot_117 ?_
    refine yk_i [] (va_runS (As := [.long (((2 * qa) * ((qa * yc) - (ya * qc))) - (((qa * yb) - (ya * qb)) * qb))]) (rest := []) ⟨hx, hb, hml, hown, hts⟩ (c_J13_signum_95d88 l D cy (((2 * qa) * ((qa * yc) - (ya * qc))) - (((qa * yb) - (ya * qb)) * qb)) H.size) (va_cwS 1 hts gX4_signAtRoot_J13_signum_95d88 rfl rfl rfl hs_J13_signum_95d88 (yk_room hRf hRl rfl rfl)) (yk_ps hG hA hS hK hP hD [] (by decide +kernel) rfl) rfl rfl hl.1 rfl (lv_room (Nat.le_of_ble_eq_true rfl)) dX4_signAtRoot_118 ⟨Nat.zero_le _, Nat.zero_le _⟩) hP hD hS hA rfl rfl (fun H locs hP9 hD9 hS9 => ?_)
    replace hP : va_P D vwCl [(ta, .inr (4, [.long qa, .long qb, .long qc]))] H := hP9
    replace hD : va_D A [(ta, .inr (4, [.long qa, .long qb, .long qc]))] := hD9
    replace hS := hS9
    clear hP9 hD9 hS9
    refine lv_istore (lv' := [(14, .int (f_J13_signum_95d88 (((2 * qa) * ((qa * yc) - (ya * qc))) - (((qa * yb) - (ya * qb)) * qb)))), (12, .long ((qb * yc) - (yb * qc))), (10, .long ((qa * yc) - (ya * qc))), (8, .long ((qa * yb) - (ya * qb))), (0, .ref ta), (1, .int x), (2, .long ya), (4, .long yb), (6, .long yc)]) hx hb dX4_signAtRoot_121 hl (by decide) rfl (fun ls hl9 => ?_)
    replace hl := hl9
    clear hl9
    refine lv_aload_n hx hb dX4_signAtRoot_123 rfl (lv_at hl 4 rfl) ?_
    refine yk_l [0] (va_runV (As := []) (rest := []) ⟨hx, hb, hml, hown, hts⟩ (c_X4_discriminant l D cy ta qa qb qc H.size) (cwV 0 hts gX4_signAtRoot_X4_discriminant rfl rfl rfl hv_X4_discriminant (yk_room hRf hRl rfl rfl)) (yk_pv (q := (RX4, TX4, 3)) hG hA hS hK hP hD [0] (by decide +kernel) rfl rfl rfl) rfl rfl hl.1 rfl (lv_room (Nat.le_of_ble_eq_true rfl)) dX4_signAtRoot_124 ⟨Nat.zero_le _, Nat.zero_le _⟩) hP hD hS hA rfl (Eq.trans (b := [ta]) rfl rfl) (fun H locs hP9 hD9 hS9 => ?_)
    replace hP : va_P D vwCl [(ta, .inr (4, [.long qa, .long qb, .long qc]))] H := hP9
    replace hD : va_D A [(ta, .inr (4, [.long qa, .long qb, .long qc]))] := hD9
    replace hS := hS9
    clear hP9 hD9 hS9
    refine lv_lconst (v := 0) hx hb dX4_signAtRoot_127 (by decide) ?_
    refine W.lcmp hx hb dX4_signAtRoot_128 ?_
    have J4 : ∀ (v3 : Int32) (H : Heap) (locs : List Loc) (ls : Array Slot), v3 = (if (lg_cmp (f_X4_discriminant qa qb qc) 0) = 0 then 0 else ((f_X4_branch x) * (f_J13_signum_95d88 ((qa * yb) - (ya * qb))))) → va_P D vwCl [(ta, .inr (4, [.long qa, .long qb, .long qc]))] H → va_D A [(ta, .inr (4, [.long qa, .long qb, .long qc]))] → va_S A s.heap H locs → lv_has ls 17 [(0, .ref ta), (1, .int x), (2, .long ya), (4, .long yb), (6, .long yc), (8, .long ((qa * yb) - (ya * qb))), (10, .long ((qa * yc) - (ya * qc))), (12, .long ((qb * yc) - (yb * qc))), (14, .int (f_J13_signum_95d88 (((2 * qa) * ((qa * yc) - (ya * qc))) - (((qa * yb) - (ya * qb)) * qb))))] → W p l e R s m args below meth c H locs 0 0 Q (F0 m 147 ls [.int v3]) := by
      clear hP hD hS hl
      intro v3 H locs ls ev3
      rw [ev3]
      clear ev3
      intro hP hD hS hl
      refine lv_istore (lv' := [(15, .int (if (lg_cmp (f_X4_discriminant qa qb qc) 0) = 0 then 0 else ((f_X4_branch x) * (f_J13_signum_95d88 ((qa * yb) - (ya * qb)))))), (0, .ref ta), (1, .int x), (2, .long ya), (4, .long yb), (6, .long yc), (8, .long ((qa * yb) - (ya * qb))), (10, .long ((qa * yc) - (ya * qc))), (12, .long ((qb * yc) - (yb * qc))), (14, .int (f_J13_signum_95d88 (((2 * qa) * ((qa * yc) - (ya * qc))) - (((qa * yb) - (ya * qb)) * qb))))]) hx hb dX4_signAtRoot_147 hl (by decide) rfl (fun ls hl9 => ?_)
      replace hl := hl9
      clear hl9
      refine lv_iload hx hb dX4_signAtRoot_149 (lv_at hl 9 rfl) ?_
      refine lv_iload hx hb dX4_signAtRoot_151 (lv_at hl 0 rfl) ?_
      refine lv_imul hx hb dX4_signAtRoot_153 ?_
      refine lv_if_lt (tgt := 170) hx hb dX4_signAtRoot_154 (by decide) (fun hc5 => ?_) (fun hc5 => ?_)
      · replace hF := hF.trans (if_pos hc5)
        refine lv_lload hx hb dX4_signAtRoot_170 (lv_at hl 7 rfl) ?_
        refine lv_lload hx hb dX4_signAtRoot_172 (lv_at hl 7 rfl) ?_
        refine lv_lmul hx hb dX4_signAtRoot_174 ?_
        refine lv_lload hx hb dX4_signAtRoot_175 (lv_at hl 6 rfl) ?_
        refine lv_lload hx hb dX4_signAtRoot_177 (lv_at hl 8 rfl) ?_
        refine lv_lmul hx hb dX4_signAtRoot_179 ?_
        refine lv_lsub hx hb dX4_signAtRoot_180 ?_
        refine yk_i [] (va_runS (As := [.long ((((qa * yc) - (ya * qc)) * ((qa * yc) - (ya * qc))) - (((qa * yb) - (ya * qb)) * ((qb * yc) - (yb * qc))))]) (rest := []) ⟨hx, hb, hml, hown, hts⟩ (c_J13_signum_95d88 l D cy ((((qa * yc) - (ya * qc)) * ((qa * yc) - (ya * qc))) - (((qa * yb) - (ya * qb)) * ((qb * yc) - (yb * qc)))) H.size) (va_cwS 1 hts gX4_signAtRoot_J13_signum_95d88 rfl rfl rfl hs_J13_signum_95d88 (yk_room hRf hRl rfl rfl)) (yk_ps hG hA hS hK hP hD [] (by decide +kernel) rfl) rfl rfl hl.1 rfl (lv_room (Nat.le_of_ble_eq_true rfl)) dX4_signAtRoot_181 ⟨Nat.zero_le _, Nat.zero_le _⟩) hP hD hS hA rfl rfl (fun H locs hP9 hD9 hS9 => ?_)
        replace hP : va_P D vwCl [(ta, .inr (4, [.long qa, .long qb, .long qc]))] H := hP9
        replace hD : va_D A [(ta, .inr (4, [.long qa, .long qb, .long qc]))] := hD9
        replace hS := hS9
        clear hP9 hD9 hS9
        refine lv_istore (lv' := [(16, .int (f_J13_signum_95d88 ((((qa * yc) - (ya * qc)) * ((qa * yc) - (ya * qc))) - (((qa * yb) - (ya * qb)) * ((qb * yc) - (yb * qc)))))), (15, .int (if (lg_cmp (f_X4_discriminant qa qb qc) 0) = 0 then 0 else ((f_X4_branch x) * (f_J13_signum_95d88 ((qa * yb) - (ya * qb)))))), (0, .ref ta), (1, .int x), (2, .long ya), (4, .long yb), (6, .long yc), (8, .long ((qa * yb) - (ya * qb))), (10, .long ((qa * yc) - (ya * qc))), (12, .long ((qb * yc) - (yb * qc))), (14, .int (f_J13_signum_95d88 (((2 * qa) * ((qa * yc) - (ya * qc))) - (((qa * yb) - (ya * qb)) * qb))))]) hx hb dX4_signAtRoot_184 hl (by decide) rfl (fun ls hl9 => ?_)
        replace hl := hl9
        clear hl9
        refine lv_iload hx hb dX4_signAtRoot_186 (lv_at hl 0 rfl) ?_
        have J8 : ∀ (v7 : Int32) (H : Heap) (locs : List Loc) (ls : Array Slot), v7 = (if (f_J13_signum_95d88 ((((qa * yc) - (ya * qc)) * ((qa * yc) - (ya * qc))) - (((qa * yb) - (ya * qb)) * ((qb * yc) - (yb * qc))))) < 0 then (if (lg_cmp (f_X4_discriminant qa qb qc) 0) = 0 then 0 else ((f_X4_branch x) * (f_J13_signum_95d88 ((qa * yb) - (ya * qb))))) else ((f_J13_signum_95d88 (((2 * qa) * ((qa * yc) - (ya * qc))) - (((qa * yb) - (ya * qb)) * qb))) * (f_J13_signum_95d88 ((((qa * yc) - (ya * qc)) * ((qa * yc) - (ya * qc))) - (((qa * yb) - (ya * qb)) * ((qb * yc) - (yb * qc))))))) → va_P D vwCl [(ta, .inr (4, [.long qa, .long qb, .long qc]))] H → va_D A [(ta, .inr (4, [.long qa, .long qb, .long qc]))] → va_S A s.heap H locs → lv_has ls 17 [(0, .ref ta), (1, .int x), (2, .long ya), (4, .long yb), (6, .long yc), (8, .long ((qa * yb) - (ya * qb))), (10, .long ((qa * yc) - (ya * qc))), (12, .long ((qb * yc) - (yb * qc))), (14, .int (f_J13_signum_95d88 (((2 * qa) * ((qa * yc) - (ya * qc))) - (((qa * yb) - (ya * qb)) * qb)))), (15, .int (if (lg_cmp (f_X4_discriminant qa qb qc) 0) = 0 then 0 else ((f_X4_branch x) * (f_J13_signum_95d88 ((qa * yb) - (ya * qb)))))), (16, .int (f_J13_signum_95d88 ((((qa * yc) - (ya * qc)) * ((qa * yc) - (ya * qc))) - (((qa * yb) - (ya * qb)) * ((qb * yc) - (yb * qc))))))] → W p l e R s m args below meth c H locs 0 0 Q (F0 m 201 ls [.int v7]) := by
          clear hP hD hS hl
          intro v7 H locs ls ev7
          rw [ev7]
          clear ev7
          intro hP hD hS hl
          have hF : f_X4_signAtRoot qa qb qc x ya yb yc = (if (f_J13_signum_95d88 ((((qa * yc) - (ya * qc)) * ((qa * yc) - (ya * qc))) - (((qa * yb) - (ya * qb)) * ((qb * yc) - (yb * qc))))) < 0 then (if (lg_cmp (f_X4_discriminant qa qb qc) 0) = 0 then 0 else ((f_X4_branch x) * (f_J13_signum_95d88 ((qa * yb) - (ya * qb))))) else ((f_J13_signum_95d88 (((2 * qa) * ((qa * yc) - (ya * qc))) - (((qa * yb) - (ya * qb)) * qb))) * (f_J13_signum_95d88 ((((qa * yc) - (ya * qc)) * ((qa * yc) - (ya * qc))) - (((qa * yb) - (ya * qb)) * ((qb * yc) - (yb * qc))))))) := hF
          rw [hF] at hQ
          exact hQ _ _ _ _ dX4_signAtRoot_201 hP hS
        refine lv_if_lt (tgt := 199) hx hb dX4_signAtRoot_188 (by decide) (fun hc6 => ?_) (fun hc6 => ?_)
        · refine lv_iload hx hb dX4_signAtRoot_199 (lv_at hl 1 rfl) ?_
          exact J8 _ _ _ _ ((if_pos hc6).symm) hP hD hS (lv_sub hl [2, 3, 4, 5, 6, 7, 8, 9, 10, 1, 0] rfl)
        · refine lv_iload hx hb dX4_signAtRoot_191 (lv_at hl 10 rfl) ?_
          refine lv_iload hx hb dX4_signAtRoot_193 (lv_at hl 0 rfl) ?_
          refine lv_imul hx hb dX4_signAtRoot_195 ?_
          refine lv_goto (tgt := 201) hx hb dX4_signAtRoot_196 (by decide) ?_
          exact J8 _ _ _ _ ((if_neg hc6).symm) hP hD hS (lv_sub hl [2, 3, 4, 5, 6, 7, 8, 9, 10, 1, 0] rfl)
      · replace hF := hF.trans (if_neg hc5)
        refine lv_iload hx hb dX4_signAtRoot_157 (lv_at hl 9 rfl) ?_
        have J11 : ∀ (v10 : Int32) (H : Heap) (locs : List Loc) (ls : Array Slot), v10 = (if (f_J13_signum_95d88 (((2 * qa) * ((qa * yc) - (ya * qc))) - (((qa * yb) - (ya * qb)) * qb))) = 0 then (if (lg_cmp (f_X4_discriminant qa qb qc) 0) = 0 then 0 else ((f_X4_branch x) * (f_J13_signum_95d88 ((qa * yb) - (ya * qb))))) else (f_J13_signum_95d88 (((2 * qa) * ((qa * yc) - (ya * qc))) - (((qa * yb) - (ya * qb)) * qb)))) → va_P D vwCl [(ta, .inr (4, [.long qa, .long qb, .long qc]))] H → va_D A [(ta, .inr (4, [.long qa, .long qb, .long qc]))] → va_S A s.heap H locs → lv_has ls 17 [(0, .ref ta), (1, .int x), (2, .long ya), (4, .long yb), (6, .long yc), (8, .long ((qa * yb) - (ya * qb))), (10, .long ((qa * yc) - (ya * qc))), (12, .long ((qb * yc) - (yb * qc))), (14, .int (f_J13_signum_95d88 (((2 * qa) * ((qa * yc) - (ya * qc))) - (((qa * yb) - (ya * qb)) * qb)))), (15, .int (if (lg_cmp (f_X4_discriminant qa qb qc) 0) = 0 then 0 else ((f_X4_branch x) * (f_J13_signum_95d88 ((qa * yb) - (ya * qb))))))] → W p l e R s m args below meth c H locs 0 0 Q (F0 m 169 ls [.int v10]) := by
          clear hP hD hS hl
          intro v10 H locs ls ev10
          rw [ev10]
          clear ev10
          intro hP hD hS hl
          have hF : f_X4_signAtRoot qa qb qc x ya yb yc = (if (f_J13_signum_95d88 (((2 * qa) * ((qa * yc) - (ya * qc))) - (((qa * yb) - (ya * qb)) * qb))) = 0 then (if (lg_cmp (f_X4_discriminant qa qb qc) 0) = 0 then 0 else ((f_X4_branch x) * (f_J13_signum_95d88 ((qa * yb) - (ya * qb))))) else (f_J13_signum_95d88 (((2 * qa) * ((qa * yc) - (ya * qc))) - (((qa * yb) - (ya * qb)) * qb)))) := hF
          rw [hF] at hQ
          exact hQ _ _ _ _ dX4_signAtRoot_169 hP hS
        refine lv_if_eq (tgt := 167) hx hb dX4_signAtRoot_159 (by decide) (fun hc9 => ?_) (fun hc9 => ?_)
        · refine lv_iload hx hb dX4_signAtRoot_167 (lv_at hl 0 rfl) ?_
          exact J11 _ _ _ _ ((if_pos hc9).symm) hP hD hS (lv_sub hl [1, 2, 3, 4, 5, 6, 7, 8, 9, 0] rfl)
        · refine lv_iload hx hb dX4_signAtRoot_162 (lv_at hl 9 rfl) ?_
          refine lv_goto (tgt := 169) hx hb dX4_signAtRoot_164 (by decide) ?_
          exact J11 _ _ _ _ ((if_neg hc9).symm) hP hD hS (lv_sub hl [1, 2, 3, 4, 5, 6, 7, 8, 9, 0] rfl)
    refine lv_if_ne (tgt := 136) hx hb dX4_signAtRoot_129 (by decide) (fun hc2 => ?_) (fun hc2 => ?_)
    · refine lv_aload_n hx hb dX4_signAtRoot_136 rfl (lv_at hl 4 rfl) ?_
      refine lv_iload_n hx hb dX4_signAtRoot_137 rfl (lv_at hl 5 rfl) ?_
      refine yk_i [0] (va_runV (As := [.int x]) (rest := []) ⟨hx, hb, hml, hown, hts⟩ (c_X4_branch l D cy ta qa qb qc x H.size) (cwV 1 hts gX4_signAtRoot_X4_branch rfl rfl rfl hv_X4_branch (yk_room hRf hRl rfl rfl)) (yk_pv (q := (RX4, TX4, 3)) hG hA hS hK hP hD [0] (by decide +kernel) rfl rfl rfl) rfl rfl hl.1 rfl (lv_room (Nat.le_of_ble_eq_true rfl)) dX4_signAtRoot_138 ⟨Nat.zero_le _, Nat.zero_le _⟩) hP hD hS hA rfl (Eq.trans (b := [ta]) rfl rfl) (fun H locs hP9 hD9 hS9 => ?_)
      replace hP : va_P D vwCl [(ta, .inr (4, [.long qa, .long qb, .long qc]))] H := hP9
      replace hD : va_D A [(ta, .inr (4, [.long qa, .long qb, .long qc]))] := hD9
      replace hS := hS9
      clear hP9 hD9 hS9
      refine lv_lload hx hb dX4_signAtRoot_141 (lv_at hl 3 rfl) ?_
      refine yk_i [] (va_runS (As := [.long ((qa * yb) - (ya * qb))]) (rest := [.int (f_X4_branch x)]) ⟨hx, hb, hml, hown, hts⟩ (c_J13_signum_95d88 l D cy ((qa * yb) - (ya * qb)) H.size) (va_cwS 1 hts gX4_signAtRoot_J13_signum_95d88 rfl rfl rfl hs_J13_signum_95d88 (yk_room hRf hRl rfl rfl)) (yk_ps hG hA hS hK hP hD [] (by decide +kernel) rfl) rfl rfl hl.1 rfl (lv_room (Nat.le_of_ble_eq_true rfl)) dX4_signAtRoot_143 ⟨Nat.zero_le _, Nat.zero_le _⟩) hP hD hS hA rfl rfl (fun H locs hP9 hD9 hS9 => ?_)
      replace hP : va_P D vwCl [(ta, .inr (4, [.long qa, .long qb, .long qc]))] H := hP9
      replace hD : va_D A [(ta, .inr (4, [.long qa, .long qb, .long qc]))] := hD9
      replace hS := hS9
      clear hP9 hD9 hS9
      refine lv_imul hx hb dX4_signAtRoot_146 ?_
      exact J4 _ _ _ _ ((if_neg hc2).symm) hP hD hS (lv_sub hl [4, 5, 6, 7, 8, 3, 2, 1, 0] rfl)
    · refine lv_iconst (v := 0) hx hb dX4_signAtRoot_132 (by decide) ?_
      refine lv_goto (tgt := 147) hx hb dX4_signAtRoot_133 (by decide) ?_
      exact J4 _ _ _ _ ((if_pos hc2).symm) hP hD hS (lv_sub hl [4, 5, 6, 7, 8, 3, 2, 1, 0] rfl)
  · replace hF := hF.trans (if_pos hc1)
    refine lv_lload_n hx hb dX4_signAtRoot_9 rfl (lv_at hl 2 rfl) ?_
    refine lv_aload_n hx hb dX4_signAtRoot_10 rfl (lv_at hl 0 rfl) ?_
    refine va_get (D := D) (ci := 4) (v := .long qc) (C := RX4) (T := TX4) (N := 3) hx hb hts uX4_signAtRoot_X4 hown hK hP 0 rfl rfl 2 (by decide) (hts _ kX4_signAtRoot_2) (fun _ h9 => h9) rfl dX4_signAtRoot_11 ?_
    refine lv_lmul hx hb dX4_signAtRoot_14 ?_
    refine lv_aload_n hx hb dX4_signAtRoot_15 rfl (lv_at hl 0 rfl) ?_
    refine va_get (D := D) (ci := 4) (v := .long qc) (C := RX4) (T := TX4) (N := 3) hx hb hts uX4_signAtRoot_X4 hown hK hP 0 rfl rfl 2 (by decide) (hts _ kX4_signAtRoot_2) (fun _ h9 => h9) rfl dX4_signAtRoot_16 ?_
    refine lv_lmul hx hb dX4_signAtRoot_19 ?_
    refine lv_lload hx hb dX4_signAtRoot_20 (lv_at hl 3 rfl) ?_
    refine lv_aload_n hx hb dX4_signAtRoot_22 rfl (lv_at hl 0 rfl) ?_
    refine va_get (D := D) (ci := 4) (v := .long qb) (C := RX4) (T := TX4) (N := 3) hx hb hts uX4_signAtRoot_X4 hown hK hP 0 rfl rfl 1 (by decide) (hts _ kX4_signAtRoot_1) (fun _ h9 => h9) rfl dX4_signAtRoot_23 ?_
    refine lv_lmul hx hb dX4_signAtRoot_26 ?_
    refine lv_aload_n hx hb dX4_signAtRoot_27 rfl (lv_at hl 0 rfl) ?_
    refine va_get (D := D) (ci := 4) (v := .long qc) (C := RX4) (T := TX4) (N := 3) hx hb hts uX4_signAtRoot_X4 hown hK hP 0 rfl rfl 2 (by decide) (hts _ kX4_signAtRoot_2) (fun _ h9 => h9) rfl dX4_signAtRoot_28 ?_
    refine lv_lmul hx hb dX4_signAtRoot_31 ?_
    refine lv_lsub hx hb dX4_signAtRoot_32 ?_
    refine lv_lload hx hb dX4_signAtRoot_33 (lv_at hl 4 rfl) ?_
    refine lv_aload_n hx hb dX4_signAtRoot_35 rfl (lv_at hl 0 rfl) ?_
    refine va_get (D := D) (ci := 4) (v := .long qb) (C := RX4) (T := TX4) (N := 3) hx hb hts uX4_signAtRoot_X4 hown hK hP 0 rfl rfl 1 (by decide) (hts _ kX4_signAtRoot_1) (fun _ h9 => h9) rfl dX4_signAtRoot_36 ?_
    refine lv_lmul hx hb dX4_signAtRoot_39 ?_
    refine lv_aload_n hx hb dX4_signAtRoot_40 rfl (lv_at hl 0 rfl) ?_
    refine va_get (D := D) (ci := 4) (v := .long qb) (C := RX4) (T := TX4) (N := 3) hx hb hts uX4_signAtRoot_X4 hown hK hP 0 rfl rfl 1 (by decide) (hts _ kX4_signAtRoot_1) (fun _ h9 => h9) rfl dX4_signAtRoot_41 ?_
    refine lv_lmul hx hb dX4_signAtRoot_44 ?_
    refine lv_ladd hx hb dX4_signAtRoot_45 ?_
    refine yk_i [] (va_runS (As := [.long ((((ya * qc) * qc) - ((yb * qb) * qc)) + ((yc * qb) * qb))]) (rest := []) ⟨hx, hb, hml, hown, hts⟩ (c_J13_signum_95d88 l D cy ((((ya * qc) * qc) - ((yb * qb) * qc)) + ((yc * qb) * qb)) H.size) (va_cwS 1 hts gX4_signAtRoot_J13_signum_95d88 rfl rfl rfl hs_J13_signum_95d88 (yk_room hRf hRl rfl rfl)) (yk_ps hG hA hS hK hP hD [] (by decide +kernel) rfl) rfl rfl hl.1 rfl (lv_room (Nat.le_of_ble_eq_true rfl)) dX4_signAtRoot_46 ⟨Nat.zero_le _, Nat.zero_le _⟩) hP hD hS hA rfl rfl (fun H locs hP9 hD9 hS9 => ?_)
    replace hP : va_P D vwCl [(ta, .inr (4, [.long qa, .long qb, .long qc]))] H := hP9
    replace hD : va_D A [(ta, .inr (4, [.long qa, .long qb, .long qc]))] := hD9
    replace hS := hS9
    clear hP9 hD9 hS9
    have hF : f_X4_signAtRoot qa qb qc x ya yb yc = (f_J13_signum_95d88 ((((ya * qc) * qc) - ((yb * qb) * qc)) + ((yc * qb) * qb))) := hF
    rw [hF] at hQ
    exact hQ _ _ _ _ dX4_signAtRoot_49 hP hS

theorem kX4_signAtRootOf_0 : Cond.fieldLink RX4 31 "FlowPlane$Quadratic" "a" "J" ∈ wsX4_signAtRootOf := by decide +kernel
theorem kX4_signAtRootOf_1 : Cond.fieldLink RX4 43 "FlowPlane$Quadratic" "b" "J" ∈ wsX4_signAtRootOf := by decide +kernel
theorem kX4_signAtRootOf_2 : Cond.fieldLink RX4 49 "FlowPlane$Quadratic" "c" "J" ∈ wsX4_signAtRootOf := by decide +kernel
theorem uX4_signAtRootOf_X4 : ∀ w ∈ u_ws RX4 TX4 3, w ∈ wsX4_signAtRootOf := by decide +kernel
def f_X4_signAtRootOf (qa : Int64) (qb : Int64) (qc : Int64) (pa : Int64) (pb : Int64) (pd : Int64) (x : Int32) : Int32 := (f_X4_signAtRoot pa pb pd x qa qb qc)
set_option maxHeartbeats 400000000 in
set_option maxRecDepth 100000 in
theorem c_X4_signAtRootOf (l : Launch) (D : va_G) (cy : Nat → ClassId) (ta : Nat) (oa : Nat) (qa : Int64) (qb : Int64) (qc : Int64) (pa : Int64) (pb : Int64) (pd : Int64) (x : Int32) : yk_Ci l D vwCl (yk_ty cy) yX4_signAtRootOf wsX4_signAtRootOf 2 57 [.ref ta, .ref oa, .int x] [(ta, .inr (4, [.long qa, .long qb, .long qc])), (oa, .inr (4, [.long pa, .long pb, .long pd]))] (f_X4_signAtRootOf qa qb qc pa pb pd x) [(ta, .inr (4, [.long qa, .long qb, .long qc])), (oa, .inr (4, [.long pa, .long pb, .long pd]))] := by
  refine yk_eI (cc := cX4_signAtRootOf) (maxL := 3) (by decide) rfl (Nat.le_of_ble_eq_true rfl) rfl ?_
  intro p e R s m args below meth c A Q ls H locs hx hb hml hown hts hRf hRl hA hK hG hP hD hS hl hQ
  have hP : va_P D vwCl [(ta, .inr (4, [.long qa, .long qb, .long qc])), (oa, .inr (4, [.long pa, .long pb, .long pd]))] H := hP
  have hl : lv_has ls 3 [(0, .ref ta), (1, .ref oa), (2, .int x)] := hl
  have hown : s.vm.findClass RX4 = some m.cls := hown
  have hF : (f_X4_signAtRootOf qa qb qc pa pb pd x) = (f_X4_signAtRootOf qa qb qc pa pb pd x) := rfl
  refine lv_aload_n hx hb dX4_signAtRootOf_0 rfl (lv_at hl 1 rfl) ?_
  refine lv_iload_n hx hb dX4_signAtRootOf_1 rfl (lv_at hl 2 rfl) ?_
  refine lv_aload_n hx hb dX4_signAtRootOf_2 rfl (lv_at hl 0 rfl) ?_
  refine va_get (D := D) (ci := 4) (v := .long qa) (C := RX4) (T := TX4) (N := 3) hx hb hts uX4_signAtRootOf_X4 hown hK hP 0 rfl rfl 0 (by decide) (hts _ kX4_signAtRootOf_0) (fun _ h9 => h9) rfl dX4_signAtRootOf_3 ?_
  refine lv_aload_n hx hb dX4_signAtRootOf_6 rfl (lv_at hl 0 rfl) ?_
  refine va_get (D := D) (ci := 4) (v := .long qb) (C := RX4) (T := TX4) (N := 3) hx hb hts uX4_signAtRootOf_X4 hown hK hP 0 rfl rfl 1 (by decide) (hts _ kX4_signAtRootOf_1) (fun _ h9 => h9) rfl dX4_signAtRootOf_7 ?_
  refine lv_aload_n hx hb dX4_signAtRootOf_10 rfl (lv_at hl 0 rfl) ?_
  refine va_get (D := D) (ci := 4) (v := .long qc) (C := RX4) (T := TX4) (N := 3) hx hb hts uX4_signAtRootOf_X4 hown hK hP 0 rfl rfl 2 (by decide) (hts _ kX4_signAtRootOf_2) (fun _ h9 => h9) rfl dX4_signAtRootOf_11 ?_
  refine yk_i [1] (va_runV (As := [.int x, .long qa, .long qb, .long qc]) (rest := []) ⟨hx, hb, hml, hown, hts⟩ (c_X4_signAtRoot l D cy oa pa pb pd x qa qb qc H.size) (cwV 4 hts gX4_signAtRootOf_X4_signAtRoot rfl rfl rfl hv_X4_signAtRoot (yk_room hRf hRl rfl rfl)) (yk_pv (q := (RX4, TX4, 3)) hG hA hS hK hP hD [1] (by decide +kernel) rfl rfl rfl) rfl rfl hl.1 rfl (lv_room (Nat.le_of_ble_eq_true rfl)) dX4_signAtRootOf_14 ⟨Nat.zero_le _, Nat.zero_le _⟩) hP hD hS hA rfl (Eq.trans (b := [oa]) rfl rfl) (fun H locs hP9 hD9 hS9 => ?_)
  replace hP : va_P D vwCl [(ta, .inr (4, [.long qa, .long qb, .long qc])), (oa, .inr (4, [.long pa, .long pb, .long pd]))] H := hP9
  replace hD : va_D A [(ta, .inr (4, [.long qa, .long qb, .long qc])), (oa, .inr (4, [.long pa, .long pb, .long pd]))] := hD9
  replace hS := hS9
  clear hP9 hD9 hS9
  have hF : f_X4_signAtRootOf qa qb qc pa pb pd x = (f_X4_signAtRoot pa pb pd x qa qb qc) := hF
  rw [hF] at hQ
  exact hQ _ _ _ _ dX4_signAtRootOf_17 hP hS

def f_X4_sideOfStart (qa : Int64) (qb : Int64) (qc : Int64) (x : Int32) : Int32 := (f_X4_signAtRoot qa qb qc x 0 1 0)
set_option maxHeartbeats 400000000 in
set_option maxRecDepth 100000 in
theorem c_X4_sideOfStart (l : Launch) (D : va_G) (cy : Nat → ClassId) (ta : Nat) (qa : Int64) (qb : Int64) (qc : Int64) (x : Int32) : yk_Ci l D vwCl (yk_ty cy) yX4_sideOfStart wsX4_sideOfStart 2 57 [.ref ta, .int x] [(ta, .inr (4, [.long qa, .long qb, .long qc]))] (f_X4_sideOfStart qa qb qc x) [(ta, .inr (4, [.long qa, .long qb, .long qc]))] := by
  refine yk_eI (cc := cX4_sideOfStart) (maxL := 2) (by decide) rfl (Nat.le_of_ble_eq_true rfl) rfl ?_
  intro p e R s m args below meth c A Q ls H locs hx hb hml hown hts hRf hRl hA hK hG hP hD hS hl hQ
  have hP : va_P D vwCl [(ta, .inr (4, [.long qa, .long qb, .long qc]))] H := hP
  have hl : lv_has ls 2 [(0, .ref ta), (1, .int x)] := hl
  have hown : s.vm.findClass RX4 = some m.cls := hown
  have hF : (f_X4_sideOfStart qa qb qc x) = (f_X4_sideOfStart qa qb qc x) := rfl
  refine lv_aload_n hx hb dX4_sideOfStart_0 rfl (lv_at hl 0 rfl) ?_
  refine lv_iload_n hx hb dX4_sideOfStart_1 rfl (lv_at hl 1 rfl) ?_
  refine lv_lconst (v := 0) hx hb dX4_sideOfStart_2 (by decide) ?_
  refine lv_lconst (v := 1) hx hb dX4_sideOfStart_3 (by decide) ?_
  refine lv_lconst (v := 0) hx hb dX4_sideOfStart_4 (by decide) ?_
  refine yk_i [0] (va_runV (As := [.int x, .long 0, .long 1, .long 0]) (rest := []) ⟨hx, hb, hml, hown, hts⟩ (c_X4_signAtRoot l D cy ta qa qb qc x 0 1 0 H.size) (cwV 4 hts gX4_sideOfStart_X4_signAtRoot rfl rfl rfl hv_X4_signAtRoot (yk_room hRf hRl rfl rfl)) (yk_pv (q := (RX4, TX4, 3)) hG hA hS hK hP hD [0] (by decide +kernel) rfl rfl rfl) rfl rfl hl.1 rfl (lv_room (Nat.le_of_ble_eq_true rfl)) dX4_sideOfStart_5 ⟨Nat.zero_le _, Nat.zero_le _⟩) hP hD hS hA rfl (Eq.trans (b := [ta]) rfl rfl) (fun H locs hP9 hD9 hS9 => ?_)
  replace hP : va_P D vwCl [(ta, .inr (4, [.long qa, .long qb, .long qc]))] H := hP9
  replace hD : va_D A [(ta, .inr (4, [.long qa, .long qb, .long qc]))] := hD9
  replace hS := hS9
  clear hP9 hD9 hS9
  have hF : f_X4_sideOfStart qa qb qc x = (f_X4_signAtRoot qa qb qc x 0 1 0) := hF
  rw [hF] at hQ
  exact hQ _ _ _ _ dX4_sideOfStart_8 hP hS

theorem kX4_sideOfEnd_0 : Cond.constantLong RX4 73 (-1) ∈ wsX4_sideOfEnd := by decide +kernel
def f_X4_sideOfEnd (qa : Int64) (qb : Int64) (qc : Int64) (x : Int32) : Int32 := (f_X4_signAtRoot qa qb qc x 0 1 (-1))
set_option maxHeartbeats 400000000 in
set_option maxRecDepth 100000 in
theorem c_X4_sideOfEnd (l : Launch) (D : va_G) (cy : Nat → ClassId) (ta : Nat) (qa : Int64) (qb : Int64) (qc : Int64) (x : Int32) : yk_Ci l D vwCl (yk_ty cy) yX4_sideOfEnd wsX4_sideOfEnd 2 57 [.ref ta, .int x] [(ta, .inr (4, [.long qa, .long qb, .long qc]))] (f_X4_sideOfEnd qa qb qc x) [(ta, .inr (4, [.long qa, .long qb, .long qc]))] := by
  refine yk_eI (cc := cX4_sideOfEnd) (maxL := 2) (by decide) rfl (Nat.le_of_ble_eq_true rfl) rfl ?_
  intro p e R s m args below meth c A Q ls H locs hx hb hml hown hts hRf hRl hA hK hG hP hD hS hl hQ
  have hP : va_P D vwCl [(ta, .inr (4, [.long qa, .long qb, .long qc]))] H := hP
  have hl : lv_has ls 2 [(0, .ref ta), (1, .int x)] := hl
  have hown : s.vm.findClass RX4 = some m.cls := hown
  have hF : (f_X4_sideOfEnd qa qb qc x) = (f_X4_sideOfEnd qa qb qc x) := rfl
  refine lv_aload_n hx hb dX4_sideOfEnd_0 rfl (lv_at hl 0 rfl) ?_
  refine lv_iload_n hx hb dX4_sideOfEnd_1 rfl (lv_at hl 1 rfl) ?_
  refine lv_lconst (v := 0) hx hb dX4_sideOfEnd_2 (by decide) ?_
  refine lv_lconst (v := 1) hx hb dX4_sideOfEnd_3 (by decide) ?_
  refine lv_ldc2 (v := (-1)) hx hb hown (hts _ kX4_sideOfEnd_0) dX4_sideOfEnd_4 ?_
  refine yk_i [0] (va_runV (As := [.int x, .long 0, .long 1, .long (-1)]) (rest := []) ⟨hx, hb, hml, hown, hts⟩ (c_X4_signAtRoot l D cy ta qa qb qc x 0 1 (-1) H.size) (cwV 4 hts gX4_sideOfEnd_X4_signAtRoot rfl rfl rfl hv_X4_signAtRoot (yk_room hRf hRl rfl rfl)) (yk_pv (q := (RX4, TX4, 3)) hG hA hS hK hP hD [0] (by decide +kernel) rfl rfl rfl) rfl rfl hl.1 rfl (lv_room (Nat.le_of_ble_eq_true rfl)) dX4_sideOfEnd_7 ⟨Nat.zero_le _, Nat.zero_le _⟩) hP hD hS hA rfl (Eq.trans (b := [ta]) rfl rfl) (fun H locs hP9 hD9 hS9 => ?_)
  replace hP : va_P D vwCl [(ta, .inr (4, [.long qa, .long qb, .long qc]))] H := hP9
  replace hD : va_D A [(ta, .inr (4, [.long qa, .long qb, .long qc]))] := hD9
  replace hS := hS9
  clear hP9 hD9 hS9
  have hF : f_X4_sideOfEnd qa qb qc x = (f_X4_signAtRoot qa qb qc x 0 1 (-1)) := hF
  rw [hF] at hQ
  exact hQ _ _ _ _ dX4_sideOfEnd_10 hP hS

def f_X4_isOnPiece (qa : Int64) (qb : Int64) (qc : Int64) (x : Int32) : Int32 := (if (f_X4_sideOfStart qa qb qc x) < 0 then 0 else (if 0 < (f_X4_sideOfEnd qa qb qc x) then 0 else 1))
theorem b_X4_isOnPiece (qa : Int64) (qb : Int64) (qc : Int64) (x : Int32) : (f_X4_isOnPiece qa qb qc x) = 0 ∨ (f_X4_isOnPiece qa qb qc x) = 1 := by
  unfold f_X4_isOnPiece; (repeat' split) <;> first | exact Or.inl (by with_reducible rfl) | exact Or.inr (by with_reducible rfl)
set_option maxHeartbeats 400000000 in
set_option maxRecDepth 100000 in
theorem c_X4_isOnPiece (l : Launch) (D : va_G) (cy : Nat → ClassId) (ta : Nat) (qa : Int64) (qb : Int64) (qc : Int64) (x : Int32) : yk_Ci l D vwCl (yk_ty cy) yX4_isOnPiece wsX4_isOnPiece 3 78 [.ref ta, .int x] [(ta, .inr (4, [.long qa, .long qb, .long qc]))] (f_X4_isOnPiece qa qb qc x) [(ta, .inr (4, [.long qa, .long qb, .long qc]))] := by
  refine yk_eI (cc := cX4_isOnPiece) (maxL := 2) (by decide) rfl (Nat.le_of_ble_eq_true rfl) (yk_nb (b_X4_isOnPiece qa qb qc x)) ?_
  intro p e R s m args below meth c A Q ls H locs hx hb hml hown hts hRf hRl hA hK hG hP hD hS hl hQ
  have hP : va_P D vwCl [(ta, .inr (4, [.long qa, .long qb, .long qc]))] H := hP
  have hl : lv_has ls 2 [(0, .ref ta), (1, .int x)] := hl
  have hown : s.vm.findClass RX4 = some m.cls := hown
  have hF : (f_X4_isOnPiece qa qb qc x) = (f_X4_isOnPiece qa qb qc x) := rfl
  refine lv_aload_n hx hb dX4_isOnPiece_0 rfl (lv_at hl 0 rfl) ?_
  refine lv_iload_n hx hb dX4_isOnPiece_1 rfl (lv_at hl 1 rfl) ?_
  refine yk_i [0] (va_runV (As := [.int x]) (rest := []) ⟨hx, hb, hml, hown, hts⟩ (c_X4_sideOfStart l D cy ta qa qb qc x H.size) (cwV 1 hts gX4_isOnPiece_X4_sideOfStart rfl rfl rfl hv_X4_sideOfStart (yk_room hRf hRl rfl rfl)) (yk_pv (q := (RX4, TX4, 3)) hG hA hS hK hP hD [0] (by decide +kernel) rfl rfl rfl) rfl rfl hl.1 rfl (lv_room (Nat.le_of_ble_eq_true rfl)) dX4_isOnPiece_2 ⟨Nat.zero_le _, Nat.zero_le _⟩) hP hD hS hA rfl (Eq.trans (b := [ta]) rfl rfl) (fun H locs hP9 hD9 hS9 => ?_)
  replace hP : va_P D vwCl [(ta, .inr (4, [.long qa, .long qb, .long qc]))] H := hP9
  replace hD : va_D A [(ta, .inr (4, [.long qa, .long qb, .long qc]))] := hD9
  replace hS := hS9
  clear hP9 hD9 hS9
  have J4 : ∀ (v3 : Int32) (H : Heap) (locs : List Loc) (ls : Array Slot), v3 = (if (f_X4_sideOfStart qa qb qc x) < 0 then 0 else (if 0 < (f_X4_sideOfEnd qa qb qc x) then 0 else 1)) → va_P D vwCl [(ta, .inr (4, [.long qa, .long qb, .long qc]))] H → va_D A [(ta, .inr (4, [.long qa, .long qb, .long qc]))] → va_S A s.heap H locs → lv_has ls 2 [(0, .ref ta), (1, .int x)] → W p l e R s m args below meth c H locs 0 0 Q (F0 m 21 ls [.int v3]) := by
    clear hP hD hS hl
    intro v3 H locs ls ev3
    rw [ev3]
    clear ev3
    intro hP hD hS hl
    have hF : f_X4_isOnPiece qa qb qc x = (if (f_X4_sideOfStart qa qb qc x) < 0 then 0 else (if 0 < (f_X4_sideOfEnd qa qb qc x) then 0 else 1)) := hF
    rw [hF] at hQ
    exact hQ _ _ _ _ dX4_isOnPiece_21 hP hS
  refine lv_if_lt (tgt := 20) hx hb dX4_isOnPiece_5 (by decide) (fun hc1 => ?_) (fun hc1 => ?_)
  · refine lv_iconst (v := 0) hx hb dX4_isOnPiece_20 (by decide) ?_
    exact J4 _ _ _ _ ((if_pos hc1).symm) hP hD hS (lv_sub hl [0, 1] rfl)
  · refine lv_aload_n hx hb dX4_isOnPiece_8 rfl (lv_at hl 0 rfl) ?_
    refine lv_iload_n hx hb dX4_isOnPiece_9 rfl (lv_at hl 1 rfl) ?_
    refine yk_i [0] (va_runV (As := [.int x]) (rest := []) ⟨hx, hb, hml, hown, hts⟩ (c_X4_sideOfEnd l D cy ta qa qb qc x H.size) (cwV 1 hts gX4_isOnPiece_X4_sideOfEnd rfl rfl rfl hv_X4_sideOfEnd (yk_room hRf hRl rfl rfl)) (yk_pv (q := (RX4, TX4, 3)) hG hA hS hK hP hD [0] (by decide +kernel) rfl rfl rfl) rfl rfl hl.1 rfl (lv_room (Nat.le_of_ble_eq_true rfl)) dX4_isOnPiece_10 ⟨Nat.zero_le _, Nat.zero_le _⟩) hP hD hS hA rfl (Eq.trans (b := [ta]) rfl rfl) (fun H locs hP9 hD9 hS9 => ?_)
    replace hP : va_P D vwCl [(ta, .inr (4, [.long qa, .long qb, .long qc]))] H := hP9
    replace hD : va_D A [(ta, .inr (4, [.long qa, .long qb, .long qc]))] := hD9
    replace hS := hS9
    clear hP9 hD9 hS9
    refine lv_if_gt (tgt := 20) hx hb dX4_isOnPiece_13 (by decide) (fun hc2 => ?_) (fun hc2 => ?_)
    · refine lv_iconst (v := 0) hx hb dX4_isOnPiece_20 (by decide) ?_
      exact J4 _ _ _ _ (((if_neg hc1).trans (if_pos hc2)).symm) hP hD hS (lv_sub hl [0, 1] rfl)
    · refine lv_iconst (v := 1) hx hb dX4_isOnPiece_16 (by decide) ?_
      refine lv_goto (tgt := 21) hx hb dX4_isOnPiece_17 (by decide) ?_
      exact J4 _ _ _ _ (((if_neg hc1).trans (if_neg hc2)).symm) hP hD hS (lv_sub hl [0, 1] rfl)

theorem r_X4_rootCount (qa qb qc : Int64) : f_X4_rootCount qa qb qc = 0 ∨ f_X4_rootCount qa qb qc = 1 ∨ f_X4_rootCount qa qb qc = 2 := by
  unfold f_X4_rootCount
  (repeat' split) <;> first | exact Or.inl rfl | exact Or.inr (Or.inl rfl) | exact Or.inr (Or.inr rfl)
theorem yk_n2 {x : Int32} (h : x = 0 ∨ x = 1 ∨ x = 2) : x = nI x.toNatClampNeg := by rcases h with rfl | rfl | rfl <;> rfl
theorem yk_n2b {x : Int32} (h : x = 0 ∨ x = 1 ∨ x = 2) : x.toNatClampNeg ≤ 2 := by rcases h with rfl | rfl | rfl <;> decide

def l_X4_zerosOnPiece_18 (qa : Int64) (qb : Int64) (qc : Int64) : Nat → Nat → Int32 → Int32
  | 0, ki, z1_18 => z1_18
  | fu_X4_zerosOnPiece_18 + 1, ki, z1_18 => (if (nI ((f_X4_rootCount qa qb qc).toNatClampNeg)) ≤ (nI ki) then z1_18 else (l_X4_zerosOnPiece_18 qa qb qc fu_X4_zerosOnPiece_18 (ki + 1) (if (f_X4_isOnPiece qa qb qc (nI ki)) = 0 then z1_18 else (z1_18 + 1))))
def f_X4_zerosOnPiece (qa : Int64) (qb : Int64) (qc : Int64) : Int32 := (if (f_X4_isZero qa qb qc) = 0 then (l_X4_zerosOnPiece_18 qa qb qc (((f_X4_rootCount qa qb qc).toNatClampNeg) + 1) 0 0) else 3)
set_option maxHeartbeats 400000000 in
set_option maxRecDepth 100000 in
theorem c_X4_zerosOnPiece (l : Launch) (D : va_G) (cy : Nat → ClassId) (ta : Nat) (qa : Int64) (qb : Int64) (qc : Int64) : yk_Ci l D vwCl (yk_ty cy) yX4_zerosOnPiece wsX4_zerosOnPiece 4 99 [.ref ta] [(ta, .inr (4, [.long qa, .long qb, .long qc]))] (f_X4_zerosOnPiece qa qb qc) [(ta, .inr (4, [.long qa, .long qb, .long qc]))] := by
  refine yk_eI (cc := cX4_zerosOnPiece) (maxL := 4) (by decide) rfl (Nat.le_of_ble_eq_true rfl) rfl ?_
  intro p e R s m args below meth c A Q ls H locs hx hb hml hown hts hRf hRl hA hK hG hP hD hS hl hQ
  have hP : va_P D vwCl [(ta, .inr (4, [.long qa, .long qb, .long qc]))] H := hP
  have hl : lv_has ls 4 [(0, .ref ta)] := hl
  have hown : s.vm.findClass RX4 = some m.cls := hown
  have hF : (f_X4_zerosOnPiece qa qb qc) = (f_X4_zerosOnPiece qa qb qc) := rfl
  refine lv_aload_n hx hb dX4_zerosOnPiece_0 rfl (lv_at hl 0 rfl) ?_
  refine yk_i [0] (va_runV (As := []) (rest := []) ⟨hx, hb, hml, hown, hts⟩ (c_X4_isZero l D cy ta qa qb qc H.size) (cwV 0 hts gX4_zerosOnPiece_X4_isZero rfl rfl rfl hv_X4_isZero (yk_room hRf hRl rfl rfl)) (yk_pv (q := (RX4, TX4, 3)) hG hA hS hK hP hD [0] (by decide +kernel) rfl rfl rfl) rfl rfl hl.1 rfl (lv_room (Nat.le_of_ble_eq_true rfl)) dX4_zerosOnPiece_1 ⟨Nat.zero_le _, Nat.zero_le _⟩) hP hD hS hA rfl (Eq.trans (b := [ta]) rfl rfl) (fun H locs hP9 hD9 hS9 => ?_)
  replace hP : va_P D vwCl [(ta, .inr (4, [.long qa, .long qb, .long qc]))] H := hP9
  replace hD : va_D A [(ta, .inr (4, [.long qa, .long qb, .long qc]))] := hD9
  replace hS := hS9
  clear hP9 hD9 hS9
  refine lv_if_eq (tgt := 9) hx hb dX4_zerosOnPiece_4 (by decide) (fun hc1 => ?_) (fun hc1 => ?_)
  · replace hF := hF.trans (if_pos hc1)
    refine lv_iconst (v := 0) hx hb dX4_zerosOnPiece_9 (by decide) ?_
    refine lv_istore_n (lv' := [(1, .int 0), (0, .ref ta)]) hx hb dX4_zerosOnPiece_10 rfl hl (by decide) rfl (fun ls hl9 => ?_)
    replace hl := hl9
    clear hl9
    refine lv_aload_n hx hb dX4_zerosOnPiece_11 rfl (lv_at hl 1 rfl) ?_
    refine yk_i [0] (va_runV (As := []) (rest := []) ⟨hx, hb, hml, hown, hts⟩ (c_X4_rootCount l D cy ta qa qb qc H.size) (cwV 0 hts gX4_zerosOnPiece_X4_rootCount rfl rfl rfl hv_X4_rootCount (yk_room hRf hRl rfl rfl)) (yk_pv (q := (RX4, TX4, 3)) hG hA hS hK hP hD [0] (by decide +kernel) rfl rfl rfl) rfl rfl hl.1 rfl (lv_room (Nat.le_of_ble_eq_true rfl)) dX4_zerosOnPiece_12 ⟨Nat.zero_le _, Nat.zero_le _⟩) hP hD hS hA rfl (Eq.trans (b := [ta]) rfl rfl) (fun H locs hP9 hD9 hS9 => ?_)
    replace hP : va_P D vwCl [(ta, .inr (4, [.long qa, .long qb, .long qc]))] H := hP9
    replace hD : va_D A [(ta, .inr (4, [.long qa, .long qb, .long qc]))] := hD9
    replace hS := hS9
    clear hP9 hD9 hS9
    refine yk_ti (y := nI ((f_X4_rootCount qa qb qc).toNatClampNeg)) (yk_n2 (r_X4_rootCount qa qb qc)) ?_
    refine lv_istore_n (lv' := [(2, .int (nI ((f_X4_rootCount qa qb qc).toNatClampNeg))), (1, .int 0), (0, .ref ta)]) hx hb dX4_zerosOnPiece_15 rfl hl (by decide) rfl (fun ls hl9 => ?_)
    replace hl := hl9
    clear hl9
    refine lv_iconst (v := 0) hx hb dX4_zerosOnPiece_16 (by decide) ?_
    refine lv_istore_n (lv' := [(3, .int 0), (2, .int (nI ((f_X4_rootCount qa qb qc).toNatClampNeg))), (1, .int 0), (0, .ref ta)]) hx hb dX4_zerosOnPiece_17 rfl hl (by decide) rfl (fun ls hl9 => ?_)
    replace hl := hl9
    clear hl9
    have J6 : ∀ (H : Heap) (locs : List Loc) (ls : Array Slot), va_P D vwCl [(ta, .inr (4, [.long qa, .long qb, .long qc]))] H → va_D A [(ta, .inr (4, [.long qa, .long qb, .long qc]))] → va_S A s.heap H locs → lv_has ls 4 [(0, .ref ta), (1, .int (l_X4_zerosOnPiece_18 qa qb qc (((f_X4_rootCount qa qb qc).toNatClampNeg) + 1) 0 0)), (2, .int (nI ((f_X4_rootCount qa qb qc).toNatClampNeg)))] → W p l e R s m args below meth c H locs 0 0 Q (F0 m 40 ls []) := by
      clear hP hD hS hl
      intro H locs ls hP hD hS hl
      refine lv_iload_n hx hb dX4_zerosOnPiece_40 rfl (lv_at hl 1 rfl) ?_
      have hF : f_X4_zerosOnPiece qa qb qc = (l_X4_zerosOnPiece_18 qa qb qc (((f_X4_rootCount qa qb qc).toNatClampNeg) + 1) 0 0) := hF
      rw [hF] at hQ
      exact hQ _ _ _ _ dX4_zerosOnPiece_41 hP hS
    have L18 : ∀ (M9 n18 ki : Nat) (z1_18 : Int32) (H : Heap) (locs : List Loc) (ls : Array Slot), n18 < M9 → ki + n18 = (f_X4_rootCount qa qb qc).toNatClampNeg → (l_X4_zerosOnPiece_18 qa qb qc (((f_X4_rootCount qa qb qc).toNatClampNeg) + 1) 0 0) = (l_X4_zerosOnPiece_18 qa qb qc (n18 + 1) ki z1_18) → va_P D vwCl [(ta, .inr (4, [.long qa, .long qb, .long qc]))] H → va_D A [(ta, .inr (4, [.long qa, .long qb, .long qc]))] → va_S A s.heap H locs → lv_has ls 4 [(0, .ref ta), (1, .int z1_18), (2, .int (nI ((f_X4_rootCount qa qb qc).toNatClampNeg))), (3, .int (nI ki))] → W p l e R s m args below meth c H locs 0 0 Q (F0 m 18 ls []) := by
      clear hP hD hS hl
      intro M9
      induction M9 with
      | zero => intro n18 ki _ _ _ _ hn; exact absurd hn (Nat.not_lt_zero _)
      | succ M9 ih18 =>
        intro n18 ki z1_18 H locs ls hn18 hk18 hV18 hP hD hS hl
        refine lv_iload_n hx hb dX4_zerosOnPiece_18 rfl (lv_at hl 3 rfl) ?_
        refine lv_iload_n hx hb dX4_zerosOnPiece_19 rfl (lv_at hl 2 rfl) ?_
        refine lv_icmp_ge (tgt := 40) hx hb dX4_zerosOnPiece_20 (by decide) (fun hc2 => ?_) (fun hc2 => ?_)
        · replace hV18 := hV18.trans (if_pos hc2)
          have hV18 : (l_X4_zerosOnPiece_18 qa qb qc (((f_X4_rootCount qa qb qc).toNatClampNeg) + 1) 0 0) = z1_18 := hV18
          have J6 := J6
          rw [hV18] at J6
          exact J6 _ _ _ hP hD hS (lv_sub hl [0, 1, 2] rfl)
        · replace hV18 := hV18.trans (if_neg hc2)
          have hlt18 : ki < (f_X4_rootCount qa qb qc).toNatClampNeg := yk_lt hk18 (Nat.lt_of_le_of_lt (yk_n2b (r_X4_rootCount qa qb qc)) (by decide)) hc2
          refine lv_aload_n hx hb dX4_zerosOnPiece_23 rfl (lv_at hl 0 rfl) ?_
          refine lv_iload_n hx hb dX4_zerosOnPiece_24 rfl (lv_at hl 3 rfl) ?_
          refine yk_i [0] (va_runV (As := [.int (nI ki)]) (rest := []) ⟨hx, hb, hml, hown, hts⟩ (c_X4_isOnPiece l D cy ta qa qb qc (nI ki) H.size) (cwV 1 hts gX4_zerosOnPiece_X4_isOnPiece rfl rfl rfl hv_X4_isOnPiece (yk_room hRf hRl rfl rfl)) (yk_pv (q := (RX4, TX4, 3)) hG hA hS hK hP hD [0] (by decide +kernel) rfl rfl rfl) rfl rfl hl.1 rfl (lv_room (Nat.le_of_ble_eq_true rfl)) dX4_zerosOnPiece_25 ⟨Nat.zero_le _, Nat.zero_le _⟩) hP hD hS hA rfl (Eq.trans (b := [ta]) rfl rfl) (fun H locs hP9 hD9 hS9 => ?_)
          replace hP : va_P D vwCl [(ta, .inr (4, [.long qa, .long qb, .long qc]))] H := hP9
          replace hD : va_D A [(ta, .inr (4, [.long qa, .long qb, .long qc]))] := hD9
          replace hS := hS9
          clear hP9 hD9 hS9
          have J5 : ∀ (v4 : Int32) (H : Heap) (locs : List Loc) (ls : Array Slot), v4 = (if (f_X4_isOnPiece qa qb qc (nI ki)) = 0 then z1_18 else (z1_18 + 1)) → va_P D vwCl [(ta, .inr (4, [.long qa, .long qb, .long qc]))] H → va_D A [(ta, .inr (4, [.long qa, .long qb, .long qc]))] → va_S A s.heap H locs → lv_has ls 4 [(0, .ref ta), (1, .int v4), (2, .int (nI ((f_X4_rootCount qa qb qc).toNatClampNeg))), (3, .int (nI ki))] → W p l e R s m args below meth c H locs 0 0 Q (F0 m 34 ls []) := by
            clear hP hD hS hl
            intro v4 H locs ls ev4
            rw [ev4]
            clear ev4
            intro hP hD hS hl
            refine lv_iinc (v := nI (ki + 1)) (lv' := [(3, .int (nI (ki + 1))), (0, .ref ta), (1, .int (if (f_X4_isOnPiece qa qb qc (nI ki)) = 0 then z1_18 else (z1_18 + 1))), (2, .int (nI ((f_X4_rootCount qa qb qc).toNatClampNeg)))]) hx hb dX4_zerosOnPiece_34 hl (k := 3) rfl (yk_inc ki) (by decide) rfl (fun ls hl9 => ?_)
            replace hl := hl9
            clear hl9
            refine lv_goto (tgt := 18) hx hb dX4_zerosOnPiece_37 (by decide) ?_
            obtain ⟨n9, rfl⟩ : ∃ n9, n18 = n9 + 1 := ⟨n18 - 1, by omega⟩
            exact ih18 n9 (ki + 1) (if (f_X4_isOnPiece qa qb qc (nI ki)) = 0 then z1_18 else (z1_18 + 1)) _ _ _ (by omega) (by omega)  hV18 hP hD hS (lv_sub hl [1, 2, 3, 0] rfl)
          refine lv_if_eq (tgt := 34) hx hb dX4_zerosOnPiece_28 (by decide) (fun hc3 => ?_) (fun hc3 => ?_)
          · exact J5 _ _ _ _ ((if_pos hc3).symm) hP hD hS (lv_sub hl [0, 1, 2, 3] rfl)
          · refine lv_iinc (v := (z1_18 + 1)) (lv' := [(1, .int (z1_18 + 1)), (0, .ref ta), (2, .int (nI ((f_X4_rootCount qa qb qc).toNatClampNeg))), (3, .int (nI ki))]) hx hb dX4_zerosOnPiece_31 hl (k := 1) rfl (yk_incg _) (by decide) rfl (fun ls hl9 => ?_)
            replace hl := hl9
            clear hl9
            exact J5 _ _ _ _ ((if_neg hc3).symm) hP hD hS (lv_sub hl [1, 0, 2, 3] rfl)
    exact L18 (((f_X4_rootCount qa qb qc).toNatClampNeg) + 1) ((f_X4_rootCount qa qb qc).toNatClampNeg) 0 0 _ _ _ (Nat.lt_succ_self _) (by omega)  rfl hP hD hS (lv_sub hl [3, 2, 1, 0] rfl)
  · replace hF := hF.trans (if_neg hc1)
    refine lv_iconst (v := 3) hx hb dX4_zerosOnPiece_7 (by decide) ?_
    have hF : f_X4_zerosOnPiece qa qb qc = 3 := hF
    rw [hF] at hQ
    exact hQ _ _ _ _ dX4_zerosOnPiece_8 hP hS

def l_X4_meetsZeroOf_27 (qa : Int64) (qb : Int64) (qc : Int64) (pa : Int64) (pb : Int64) (pd : Int64) : Nat → Nat → Int32
  | 0, ki => 0
  | fu_X4_meetsZeroOf_27 + 1, ki => (if (nI ((f_X4_rootCount qa qb qc).toNatClampNeg)) ≤ (nI ki) then 0 else (if (f_X4_isOnPiece qa qb qc (nI ki)) = 0 then (l_X4_meetsZeroOf_27 qa qb qc pa pb pd fu_X4_meetsZeroOf_27 (ki + 1)) else (if (f_X4_signAtRootOf pa pb pd qa qb qc (nI ki)) = 0 then 1 else (l_X4_meetsZeroOf_27 qa qb qc pa pb pd fu_X4_meetsZeroOf_27 (ki + 1)))))
def f_X4_meetsZeroOf (qa : Int64) (qb : Int64) (qc : Int64) (pa : Int64) (pb : Int64) (pd : Int64) : Int32 := (if (f_X4_isZero qa qb qc) = 0 then (l_X4_meetsZeroOf_27 qa qb qc pa pb pd (((f_X4_rootCount qa qb qc).toNatClampNeg) + 1) 0) else (if (f_X4_zerosOnPiece pa pb pd) ≤ 0 then 0 else 1))
theorem bl_X4_meetsZeroOf_27 (qa : Int64) (qb : Int64) (qc : Int64) (pa : Int64) (pb : Int64) (pd : Int64) : ∀ (fz : Nat) (q0 : Nat), (l_X4_meetsZeroOf_27 qa qb qc pa pb pd fz q0) = 0 ∨ (l_X4_meetsZeroOf_27 qa qb qc pa pb pd fz q0) = 1
  | 0, _ => Or.inl rfl
  | fz + 1, _ => by
    unfold l_X4_meetsZeroOf_27
    (repeat' split) <;> first | exact Or.inl (by with_reducible rfl) | exact Or.inr (by with_reducible rfl) | exact bl_X4_meetsZeroOf_27 _ _ _ _ _ _ fz _ | with_reducible exact b_X4_isZero _ _ _ | with_reducible exact b_X4_isOnPiece _ _ _ _
theorem b_X4_meetsZeroOf (qa : Int64) (qb : Int64) (qc : Int64) (pa : Int64) (pb : Int64) (pd : Int64) : (f_X4_meetsZeroOf qa qb qc pa pb pd) = 0 ∨ (f_X4_meetsZeroOf qa qb qc pa pb pd) = 1 := by
  unfold f_X4_meetsZeroOf; (repeat' split) <;> first | exact Or.inl (by with_reducible rfl) | exact Or.inr (by with_reducible rfl) | with_reducible exact b_X4_isZero _ _ _ | with_reducible exact b_X4_isOnPiece _ _ _ _ | with_reducible exact bl_X4_meetsZeroOf_27 _ _ _ _ _ _ _ _
set_option maxHeartbeats 400000000 in
set_option maxRecDepth 100000 in
theorem c_X4_meetsZeroOf (l : Launch) (D : va_G) (cy : Nat → ClassId) (ta : Nat) (oa : Nat) (qa : Int64) (qb : Int64) (qc : Int64) (pa : Int64) (pb : Int64) (pd : Int64) : yk_Ci l D vwCl (yk_ty cy) yX4_meetsZeroOf wsX4_meetsZeroOf 5 122 [.ref ta, .ref oa] [(ta, .inr (4, [.long qa, .long qb, .long qc])), (oa, .inr (4, [.long pa, .long pb, .long pd]))] (f_X4_meetsZeroOf qa qb qc pa pb pd) [(ta, .inr (4, [.long qa, .long qb, .long qc])), (oa, .inr (4, [.long pa, .long pb, .long pd]))] := by
  refine yk_eI (cc := cX4_meetsZeroOf) (maxL := 4) (by decide) rfl (Nat.le_of_ble_eq_true rfl) (yk_nb (b_X4_meetsZeroOf qa qb qc pa pb pd)) ?_
  intro p e R s m args below meth c A Q ls H locs hx hb hml hown hts hRf hRl hA hK hG hP hD hS hl hQ
  have hP : va_P D vwCl [(ta, .inr (4, [.long qa, .long qb, .long qc])), (oa, .inr (4, [.long pa, .long pb, .long pd]))] H := hP
  have hl : lv_has ls 4 [(0, .ref ta), (1, .ref oa)] := hl
  have hown : s.vm.findClass RX4 = some m.cls := hown
  have hF : (f_X4_meetsZeroOf qa qb qc pa pb pd) = (f_X4_meetsZeroOf qa qb qc pa pb pd) := rfl
  refine lv_aload_n hx hb dX4_meetsZeroOf_0 rfl (lv_at hl 0 rfl) ?_
  refine yk_i [0] (va_runV (As := []) (rest := []) ⟨hx, hb, hml, hown, hts⟩ (c_X4_isZero l D cy ta qa qb qc H.size) (cwV 0 hts gX4_meetsZeroOf_X4_isZero rfl rfl rfl hv_X4_isZero (yk_room hRf hRl rfl rfl)) (yk_pv (q := (RX4, TX4, 3)) hG hA hS hK hP hD [0] (by decide +kernel) rfl rfl rfl) rfl rfl hl.1 rfl (lv_room (Nat.le_of_ble_eq_true rfl)) dX4_meetsZeroOf_1 ⟨Nat.zero_le _, Nat.zero_le _⟩) hP hD hS hA rfl (Eq.trans (b := [ta]) rfl rfl) (fun H locs hP9 hD9 hS9 => ?_)
  replace hP : va_P D vwCl [(ta, .inr (4, [.long qa, .long qb, .long qc])), (oa, .inr (4, [.long pa, .long pb, .long pd]))] H := hP9
  replace hD : va_D A [(ta, .inr (4, [.long qa, .long qb, .long qc])), (oa, .inr (4, [.long pa, .long pb, .long pd]))] := hD9
  replace hS := hS9
  clear hP9 hD9 hS9
  refine lv_if_eq (tgt := 20) hx hb dX4_meetsZeroOf_4 (by decide) (fun hc1 => ?_) (fun hc1 => ?_)
  · replace hF := hF.trans (if_pos hc1)
    refine lv_aload_n hx hb dX4_meetsZeroOf_20 rfl (lv_at hl 0 rfl) ?_
    refine yk_i [0] (va_runV (As := []) (rest := []) ⟨hx, hb, hml, hown, hts⟩ (c_X4_rootCount l D cy ta qa qb qc H.size) (cwV 0 hts gX4_meetsZeroOf_X4_rootCount rfl rfl rfl hv_X4_rootCount (yk_room hRf hRl rfl rfl)) (yk_pv (q := (RX4, TX4, 3)) hG hA hS hK hP hD [0] (by decide +kernel) rfl rfl rfl) rfl rfl hl.1 rfl (lv_room (Nat.le_of_ble_eq_true rfl)) dX4_meetsZeroOf_21 ⟨Nat.zero_le _, Nat.zero_le _⟩) hP hD hS hA rfl (Eq.trans (b := [ta]) rfl rfl) (fun H locs hP9 hD9 hS9 => ?_)
    replace hP : va_P D vwCl [(ta, .inr (4, [.long qa, .long qb, .long qc])), (oa, .inr (4, [.long pa, .long pb, .long pd]))] H := hP9
    replace hD : va_D A [(ta, .inr (4, [.long qa, .long qb, .long qc])), (oa, .inr (4, [.long pa, .long pb, .long pd]))] := hD9
    replace hS := hS9
    clear hP9 hD9 hS9
    refine yk_ti (y := nI ((f_X4_rootCount qa qb qc).toNatClampNeg)) (yk_n2 (r_X4_rootCount qa qb qc)) ?_
    refine lv_istore_n (lv' := [(2, .int (nI ((f_X4_rootCount qa qb qc).toNatClampNeg))), (0, .ref ta), (1, .ref oa)]) hx hb dX4_meetsZeroOf_24 rfl hl (by decide) rfl (fun ls hl9 => ?_)
    replace hl := hl9
    clear hl9
    refine lv_iconst (v := 0) hx hb dX4_meetsZeroOf_25 (by decide) ?_
    refine lv_istore_n (lv' := [(3, .int 0), (2, .int (nI ((f_X4_rootCount qa qb qc).toNatClampNeg))), (0, .ref ta), (1, .ref oa)]) hx hb dX4_meetsZeroOf_26 rfl hl (by decide) rfl (fun ls hl9 => ?_)
    replace hl := hl9
    clear hl9
    have L27 : ∀ (M9 n27 ki : Nat) (H : Heap) (locs : List Loc) (ls : Array Slot), n27 < M9 → ki + n27 = (f_X4_rootCount qa qb qc).toNatClampNeg → f_X4_meetsZeroOf qa qb qc pa pb pd = (l_X4_meetsZeroOf_27 qa qb qc pa pb pd (n27 + 1) ki) → va_P D vwCl [(ta, .inr (4, [.long qa, .long qb, .long qc])), (oa, .inr (4, [.long pa, .long pb, .long pd]))] H → va_D A [(ta, .inr (4, [.long qa, .long qb, .long qc])), (oa, .inr (4, [.long pa, .long pb, .long pd]))] → va_S A s.heap H locs → lv_has ls 4 [(0, .ref ta), (1, .ref oa), (2, .int (nI ((f_X4_rootCount qa qb qc).toNatClampNeg))), (3, .int (nI ki))] → W p l e R s m args below meth c H locs 0 0 Q (F0 m 27 ls []) := by
      clear hP hD hS hl hF
      intro M9
      induction M9 with
      | zero => intro n27 ki _ _ _ hn; exact absurd hn (Nat.not_lt_zero _)
      | succ M9 ih27 =>
        intro n27 ki H locs ls hn27 hk27 hF hP hD hS hl
        refine lv_iload_n hx hb dX4_meetsZeroOf_27 rfl (lv_at hl 3 rfl) ?_
        refine lv_iload_n hx hb dX4_meetsZeroOf_28 rfl (lv_at hl 2 rfl) ?_
        refine lv_icmp_ge (tgt := 57) hx hb dX4_meetsZeroOf_29 (by decide) (fun hc2 => ?_) (fun hc2 => ?_)
        · replace hF := hF.trans (if_pos hc2)
          refine lv_iconst (v := 0) hx hb dX4_meetsZeroOf_57 (by decide) ?_
          have hF : f_X4_meetsZeroOf qa qb qc pa pb pd = 0 := hF
          rw [hF] at hQ
          exact hQ _ _ _ _ dX4_meetsZeroOf_58 hP hS
        · replace hF := hF.trans (if_neg hc2)
          have hlt27 : ki < (f_X4_rootCount qa qb qc).toNatClampNeg := yk_lt hk27 (Nat.lt_of_le_of_lt (yk_n2b (r_X4_rootCount qa qb qc)) (by decide)) hc2
          refine lv_aload_n hx hb dX4_meetsZeroOf_32 rfl (lv_at hl 0 rfl) ?_
          refine lv_iload_n hx hb dX4_meetsZeroOf_33 rfl (lv_at hl 3 rfl) ?_
          refine yk_i [0] (va_runV (As := [.int (nI ki)]) (rest := []) ⟨hx, hb, hml, hown, hts⟩ (c_X4_isOnPiece l D cy ta qa qb qc (nI ki) H.size) (cwV 1 hts gX4_meetsZeroOf_X4_isOnPiece rfl rfl rfl hv_X4_isOnPiece (yk_room hRf hRl rfl rfl)) (yk_pv (q := (RX4, TX4, 3)) hG hA hS hK hP hD [0] (by decide +kernel) rfl rfl rfl) rfl rfl hl.1 rfl (lv_room (Nat.le_of_ble_eq_true rfl)) dX4_meetsZeroOf_34 ⟨Nat.zero_le _, Nat.zero_le _⟩) hP hD hS hA rfl (Eq.trans (b := [ta]) rfl rfl) (fun H locs hP9 hD9 hS9 => ?_)
          replace hP : va_P D vwCl [(ta, .inr (4, [.long qa, .long qb, .long qc])), (oa, .inr (4, [.long pa, .long pb, .long pd]))] H := hP9
          replace hD : va_D A [(ta, .inr (4, [.long qa, .long qb, .long qc])), (oa, .inr (4, [.long pa, .long pb, .long pd]))] := hD9
          replace hS := hS9
          clear hP9 hD9 hS9
          refine lv_if_eq (tgt := 51) hx hb dX4_meetsZeroOf_37 (by decide) (fun hc3 => ?_) (fun hc3 => ?_)
          · replace hF := hF.trans (if_pos hc3)
            refine lv_iinc (v := nI (ki + 1)) (lv' := [(3, .int (nI (ki + 1))), (0, .ref ta), (1, .ref oa), (2, .int (nI ((f_X4_rootCount qa qb qc).toNatClampNeg)))]) hx hb dX4_meetsZeroOf_51 hl (k := 3) rfl (yk_inc ki) (by decide) rfl (fun ls hl9 => ?_)
            replace hl := hl9
            clear hl9
            refine lv_goto (tgt := 27) hx hb dX4_meetsZeroOf_54 (by decide) ?_
            obtain ⟨n9, rfl⟩ : ∃ n9, n27 = n9 + 1 := ⟨n27 - 1, by omega⟩
            exact ih27 n9 (ki + 1) _ _ _ (by omega) (by omega)  hF hP hD hS (lv_sub hl [1, 2, 3, 0] rfl)
          · replace hF := hF.trans (if_neg hc3)
            refine lv_aload_n hx hb dX4_meetsZeroOf_40 rfl (lv_at hl 1 rfl) ?_
            refine lv_aload_n hx hb dX4_meetsZeroOf_41 rfl (lv_at hl 0 rfl) ?_
            refine lv_iload_n hx hb dX4_meetsZeroOf_42 rfl (lv_at hl 3 rfl) ?_
            refine yk_i [1, 0] (va_runV (As := [.ref ta, .int (nI ki)]) (rest := []) ⟨hx, hb, hml, hown, hts⟩ (c_X4_signAtRootOf l D cy oa ta pa pb pd qa qb qc (nI ki) H.size) (cwV 2 hts gX4_meetsZeroOf_X4_signAtRootOf rfl rfl rfl hv_X4_signAtRootOf (yk_room hRf hRl rfl rfl)) (yk_pv (q := (RX4, TX4, 3)) hG hA hS hK hP hD [1, 0] (by decide +kernel) rfl rfl rfl) rfl rfl hl.1 rfl (lv_room (Nat.le_of_ble_eq_true rfl)) dX4_meetsZeroOf_43 ⟨Nat.zero_le _, Nat.zero_le _⟩) hP hD hS hA rfl (Eq.trans (b := [oa, ta]) rfl rfl) (fun H locs hP9 hD9 hS9 => ?_)
            replace hP : va_P D vwCl [(ta, .inr (4, [.long qa, .long qb, .long qc])), (oa, .inr (4, [.long pa, .long pb, .long pd]))] H := hP9
            replace hD : va_D A [(ta, .inr (4, [.long qa, .long qb, .long qc])), (oa, .inr (4, [.long pa, .long pb, .long pd]))] := hD9
            replace hS := hS9
            clear hP9 hD9 hS9
            refine lv_if_ne (tgt := 51) hx hb dX4_meetsZeroOf_46 (by decide) (fun hc4 => ?_) (fun hc4 => ?_)
            · replace hF := hF.trans (if_neg hc4)
              refine lv_iinc (v := nI (ki + 1)) (lv' := [(3, .int (nI (ki + 1))), (0, .ref ta), (1, .ref oa), (2, .int (nI ((f_X4_rootCount qa qb qc).toNatClampNeg)))]) hx hb dX4_meetsZeroOf_51 hl (k := 3) rfl (yk_inc ki) (by decide) rfl (fun ls hl9 => ?_)
              replace hl := hl9
              clear hl9
              refine lv_goto (tgt := 27) hx hb dX4_meetsZeroOf_54 (by decide) ?_
              obtain ⟨n9, rfl⟩ : ∃ n9, n27 = n9 + 1 := ⟨n27 - 1, by omega⟩
              exact ih27 n9 (ki + 1) _ _ _ (by omega) (by omega)  hF hP hD hS (lv_sub hl [1, 2, 3, 0] rfl)
            · replace hF := hF.trans (if_pos hc4)
              refine lv_iconst (v := 1) hx hb dX4_meetsZeroOf_49 (by decide) ?_
              have hF : f_X4_meetsZeroOf qa qb qc pa pb pd = 1 := hF
              rw [hF] at hQ
              exact hQ _ _ _ _ dX4_meetsZeroOf_50 hP hS
    exact L27 (((f_X4_rootCount qa qb qc).toNatClampNeg) + 1) ((f_X4_rootCount qa qb qc).toNatClampNeg) 0  _ _ _ (Nat.lt_succ_self _) (by omega)  hF hP hD hS (lv_sub hl [2, 3, 1, 0] rfl)
  · replace hF := hF.trans (if_neg hc1)
    refine lv_aload_n hx hb dX4_meetsZeroOf_7 rfl (lv_at hl 1 rfl) ?_
    refine yk_i [1] (va_runV (As := []) (rest := []) ⟨hx, hb, hml, hown, hts⟩ (c_X4_zerosOnPiece l D cy oa pa pb pd H.size) (cwV 0 hts gX4_meetsZeroOf_X4_zerosOnPiece rfl rfl rfl hv_X4_zerosOnPiece (yk_room hRf hRl rfl rfl)) (yk_pv (q := (RX4, TX4, 3)) hG hA hS hK hP hD [1] (by decide +kernel) rfl rfl rfl) rfl rfl hl.1 rfl (lv_room (Nat.le_of_ble_eq_true rfl)) dX4_meetsZeroOf_8 ⟨Nat.zero_le _, Nat.zero_le _⟩) hP hD hS hA rfl (Eq.trans (b := [oa]) rfl rfl) (fun H locs hP9 hD9 hS9 => ?_)
    replace hP : va_P D vwCl [(ta, .inr (4, [.long qa, .long qb, .long qc])), (oa, .inr (4, [.long pa, .long pb, .long pd]))] H := hP9
    replace hD : va_D A [(ta, .inr (4, [.long qa, .long qb, .long qc])), (oa, .inr (4, [.long pa, .long pb, .long pd]))] := hD9
    replace hS := hS9
    clear hP9 hD9 hS9
    have J7 : ∀ (v6 : Int32) (H : Heap) (locs : List Loc) (ls : Array Slot), v6 = (if (f_X4_zerosOnPiece pa pb pd) ≤ 0 then 0 else 1) → va_P D vwCl [(ta, .inr (4, [.long qa, .long qb, .long qc])), (oa, .inr (4, [.long pa, .long pb, .long pd]))] H → va_D A [(ta, .inr (4, [.long qa, .long qb, .long qc])), (oa, .inr (4, [.long pa, .long pb, .long pd]))] → va_S A s.heap H locs → lv_has ls 4 [(0, .ref ta), (1, .ref oa)] → W p l e R s m args below meth c H locs 0 0 Q (F0 m 19 ls [.int v6]) := by
      clear hP hD hS hl
      intro v6 H locs ls ev6
      rw [ev6]
      clear ev6
      intro hP hD hS hl
      have hF : f_X4_meetsZeroOf qa qb qc pa pb pd = (if (f_X4_zerosOnPiece pa pb pd) ≤ 0 then 0 else 1) := hF
      rw [hF] at hQ
      exact hQ _ _ _ _ dX4_meetsZeroOf_19 hP hS
    refine lv_if_le (tgt := 18) hx hb dX4_meetsZeroOf_11 (by decide) (fun hc5 => ?_) (fun hc5 => ?_)
    · refine lv_iconst (v := 0) hx hb dX4_meetsZeroOf_18 (by decide) ?_
      exact J7 _ _ _ _ ((if_pos hc5).symm) hP hD hS (lv_sub hl [0, 1] rfl)
    · refine lv_iconst (v := 1) hx hb dX4_meetsZeroOf_14 (by decide) ?_
      refine lv_goto (tgt := 19) hx hb dX4_meetsZeroOf_15 (by decide) ?_
      exact J7 _ _ _ _ ((if_neg hc5).symm) hP hD hS (lv_sub hl [0, 1] rfl)

theorem kX4_signAfterRoot_0 : Cond.fieldLink RX4 31 "FlowPlane$Quadratic" "a" "J" ∈ wsX4_signAfterRoot := by decide +kernel
theorem kX4_signAfterRoot_1 : Cond.fieldLink RX4 43 "FlowPlane$Quadratic" "b" "J" ∈ wsX4_signAfterRoot := by decide +kernel
theorem uX4_signAfterRoot_X4 : ∀ w ∈ u_ws RX4 TX4 3, w ∈ wsX4_signAfterRoot := by decide +kernel
def f_X4_signAfterRoot (qa : Int64) (qb : Int64) (qc : Int64) (x : Int32) : Int32 := (if (lg_cmp qa 0) = 0 then (f_J13_signum_95d88 qb) else (if (lg_cmp (f_X4_discriminant qa qb qc) 0) = 0 then (f_J13_signum_95d88 qa) else (f_X4_branch x)))
set_option maxHeartbeats 400000000 in
set_option maxRecDepth 100000 in
theorem c_X4_signAfterRoot (l : Launch) (D : va_G) (cy : Nat → ClassId) (ta : Nat) (qa : Int64) (qb : Int64) (qc : Int64) (x : Int32) : yk_Ci l D vwCl (yk_ty cy) yX4_signAfterRoot wsX4_signAfterRoot 1 21 [.ref ta, .int x] [(ta, .inr (4, [.long qa, .long qb, .long qc]))] (f_X4_signAfterRoot qa qb qc x) [(ta, .inr (4, [.long qa, .long qb, .long qc]))] := by
  refine yk_eI (cc := cX4_signAfterRoot) (maxL := 2) (by decide) rfl (Nat.le_of_ble_eq_true rfl) rfl ?_
  intro p e R s m args below meth c A Q ls H locs hx hb hml hown hts hRf hRl hA hK hG hP hD hS hl hQ
  have hP : va_P D vwCl [(ta, .inr (4, [.long qa, .long qb, .long qc]))] H := hP
  have hl : lv_has ls 2 [(0, .ref ta), (1, .int x)] := hl
  have hown : s.vm.findClass RX4 = some m.cls := hown
  have hF : (f_X4_signAfterRoot qa qb qc x) = (f_X4_signAfterRoot qa qb qc x) := rfl
  refine lv_aload_n hx hb dX4_signAfterRoot_0 rfl (lv_at hl 0 rfl) ?_
  refine va_get (D := D) (ci := 4) (v := .long qa) (C := RX4) (T := TX4) (N := 3) hx hb hts uX4_signAfterRoot_X4 hown hK hP 0 rfl rfl 0 (by decide) (hts _ kX4_signAfterRoot_0) (fun _ h9 => h9) rfl dX4_signAfterRoot_1 ?_
  refine lv_lconst (v := 0) hx hb dX4_signAfterRoot_4 (by decide) ?_
  refine W.lcmp hx hb dX4_signAfterRoot_5 ?_
  refine lv_if_ne (tgt := 17) hx hb dX4_signAfterRoot_6 (by decide) (fun hc1 => ?_) (fun hc1 => ?_)
  · replace hF := hF.trans (if_neg hc1)
    refine lv_aload_n hx hb dX4_signAfterRoot_17 rfl (lv_at hl 0 rfl) ?_
    refine yk_l [0] (va_runV (As := []) (rest := []) ⟨hx, hb, hml, hown, hts⟩ (c_X4_discriminant l D cy ta qa qb qc H.size) (cwV 0 hts gX4_signAfterRoot_X4_discriminant rfl rfl rfl hv_X4_discriminant (yk_room hRf hRl rfl rfl)) (yk_pv (q := (RX4, TX4, 3)) hG hA hS hK hP hD [0] (by decide +kernel) rfl rfl rfl) rfl rfl hl.1 rfl (lv_room (Nat.le_of_ble_eq_true rfl)) dX4_signAfterRoot_18 ⟨Nat.zero_le _, Nat.zero_le _⟩) hP hD hS hA rfl (Eq.trans (b := [ta]) rfl rfl) (fun H locs hP9 hD9 hS9 => ?_)
    replace hP : va_P D vwCl [(ta, .inr (4, [.long qa, .long qb, .long qc]))] H := hP9
    replace hD : va_D A [(ta, .inr (4, [.long qa, .long qb, .long qc]))] := hD9
    replace hS := hS9
    clear hP9 hD9 hS9
    refine lv_lconst (v := 0) hx hb dX4_signAfterRoot_21 (by decide) ?_
    refine W.lcmp hx hb dX4_signAfterRoot_22 ?_
    have J4 : ∀ (v3 : Int32) (H : Heap) (locs : List Loc) (ls : Array Slot), v3 = (if (lg_cmp (f_X4_discriminant qa qb qc) 0) = 0 then (f_J13_signum_95d88 qa) else (f_X4_branch x)) → va_P D vwCl [(ta, .inr (4, [.long qa, .long qb, .long qc]))] H → va_D A [(ta, .inr (4, [.long qa, .long qb, .long qc]))] → va_S A s.heap H locs → lv_has ls 2 [(0, .ref ta), (1, .int x)] → W p l e R s m args below meth c H locs 0 0 Q (F0 m 41 ls [.int v3]) := by
      clear hP hD hS hl
      intro v3 H locs ls ev3
      rw [ev3]
      clear ev3
      intro hP hD hS hl
      have hF : f_X4_signAfterRoot qa qb qc x = (if (lg_cmp (f_X4_discriminant qa qb qc) 0) = 0 then (f_J13_signum_95d88 qa) else (f_X4_branch x)) := hF
      rw [hF] at hQ
      exact hQ _ _ _ _ dX4_signAfterRoot_41 hP hS
    refine lv_if_ne (tgt := 36) hx hb dX4_signAfterRoot_23 (by decide) (fun hc2 => ?_) (fun hc2 => ?_)
    · refine lv_aload_n hx hb dX4_signAfterRoot_36 rfl (lv_at hl 0 rfl) ?_
      refine lv_iload_n hx hb dX4_signAfterRoot_37 rfl (lv_at hl 1 rfl) ?_
      refine yk_i [0] (va_runV (As := [.int x]) (rest := []) ⟨hx, hb, hml, hown, hts⟩ (c_X4_branch l D cy ta qa qb qc x H.size) (cwV 1 hts gX4_signAfterRoot_X4_branch rfl rfl rfl hv_X4_branch (yk_room hRf hRl rfl rfl)) (yk_pv (q := (RX4, TX4, 3)) hG hA hS hK hP hD [0] (by decide +kernel) rfl rfl rfl) rfl rfl hl.1 rfl (lv_room (Nat.le_of_ble_eq_true rfl)) dX4_signAfterRoot_38 ⟨Nat.zero_le _, Nat.zero_le _⟩) hP hD hS hA rfl (Eq.trans (b := [ta]) rfl rfl) (fun H locs hP9 hD9 hS9 => ?_)
      replace hP : va_P D vwCl [(ta, .inr (4, [.long qa, .long qb, .long qc]))] H := hP9
      replace hD : va_D A [(ta, .inr (4, [.long qa, .long qb, .long qc]))] := hD9
      replace hS := hS9
      clear hP9 hD9 hS9
      exact J4 _ _ _ _ ((if_neg hc2).symm) hP hD hS (lv_sub hl [0, 1] rfl)
    · refine lv_aload_n hx hb dX4_signAfterRoot_26 rfl (lv_at hl 0 rfl) ?_
      refine va_get (D := D) (ci := 4) (v := .long qa) (C := RX4) (T := TX4) (N := 3) hx hb hts uX4_signAfterRoot_X4 hown hK hP 0 rfl rfl 0 (by decide) (hts _ kX4_signAfterRoot_0) (fun _ h9 => h9) rfl dX4_signAfterRoot_27 ?_
      refine yk_i [] (va_runS (As := [.long qa]) (rest := []) ⟨hx, hb, hml, hown, hts⟩ (c_J13_signum_95d88 l D cy qa H.size) (va_cwS 1 hts gX4_signAfterRoot_J13_signum_95d88 rfl rfl rfl hs_J13_signum_95d88 (yk_room hRf hRl rfl rfl)) (yk_ps hG hA hS hK hP hD [] (by decide +kernel) rfl) rfl rfl hl.1 rfl (lv_room (Nat.le_of_ble_eq_true rfl)) dX4_signAfterRoot_30 ⟨Nat.zero_le _, Nat.zero_le _⟩) hP hD hS hA rfl rfl (fun H locs hP9 hD9 hS9 => ?_)
      replace hP : va_P D vwCl [(ta, .inr (4, [.long qa, .long qb, .long qc]))] H := hP9
      replace hD : va_D A [(ta, .inr (4, [.long qa, .long qb, .long qc]))] := hD9
      replace hS := hS9
      clear hP9 hD9 hS9
      refine lv_goto (tgt := 41) hx hb dX4_signAfterRoot_33 (by decide) ?_
      exact J4 _ _ _ _ ((if_pos hc2).symm) hP hD hS (lv_sub hl [0, 1] rfl)
  · replace hF := hF.trans (if_pos hc1)
    refine lv_aload_n hx hb dX4_signAfterRoot_9 rfl (lv_at hl 0 rfl) ?_
    refine va_get (D := D) (ci := 4) (v := .long qb) (C := RX4) (T := TX4) (N := 3) hx hb hts uX4_signAfterRoot_X4 hown hK hP 0 rfl rfl 1 (by decide) (hts _ kX4_signAfterRoot_1) (fun _ h9 => h9) rfl dX4_signAfterRoot_10 ?_
    refine yk_i [] (va_runS (As := [.long qb]) (rest := []) ⟨hx, hb, hml, hown, hts⟩ (c_J13_signum_95d88 l D cy qb H.size) (va_cwS 1 hts gX4_signAfterRoot_J13_signum_95d88 rfl rfl rfl hs_J13_signum_95d88 (yk_room hRf hRl rfl rfl)) (yk_ps hG hA hS hK hP hD [] (by decide +kernel) rfl) rfl rfl hl.1 rfl (lv_room (Nat.le_of_ble_eq_true rfl)) dX4_signAfterRoot_13 ⟨Nat.zero_le _, Nat.zero_le _⟩) hP hD hS hA rfl rfl (fun H locs hP9 hD9 hS9 => ?_)
    replace hP : va_P D vwCl [(ta, .inr (4, [.long qa, .long qb, .long qc]))] H := hP9
    replace hD : va_D A [(ta, .inr (4, [.long qa, .long qb, .long qc]))] := hD9
    replace hS := hS9
    clear hP9 hD9 hS9
    have hF : f_X4_signAfterRoot qa qb qc x = (f_J13_signum_95d88 qb) := hF
    rw [hF] at hQ
    exact hQ _ _ _ _ dX4_signAfterRoot_16 hP hS

theorem kX4_signBeforeRoot_0 : Cond.fieldLink RX4 31 "FlowPlane$Quadratic" "a" "J" ∈ wsX4_signBeforeRoot := by decide +kernel
theorem uX4_signBeforeRoot_X4 : ∀ w ∈ u_ws RX4 TX4 3, w ∈ wsX4_signBeforeRoot := by decide +kernel
def f_X4_signBeforeRoot (qa : Int64) (qb : Int64) (qc : Int64) (x : Int32) : Int32 := (if ((if (lg_cmp qa 0) = 0 then 0 else (if (lg_cmp (f_X4_discriminant qa qb qc) 0) = 0 then 1 else 0)) : Int32) = 0 then (-(f_X4_signAfterRoot qa qb qc x)) else (f_X4_signAfterRoot qa qb qc x))
set_option maxHeartbeats 400000000 in
set_option maxRecDepth 100000 in
theorem c_X4_signBeforeRoot (l : Launch) (D : va_G) (cy : Nat → ClassId) (ta : Nat) (qa : Int64) (qb : Int64) (qc : Int64) (x : Int32) : yk_Ci l D vwCl (yk_ty cy) yX4_signBeforeRoot wsX4_signBeforeRoot 2 42 [.ref ta, .int x] [(ta, .inr (4, [.long qa, .long qb, .long qc]))] (f_X4_signBeforeRoot qa qb qc x) [(ta, .inr (4, [.long qa, .long qb, .long qc]))] := by
  refine yk_eI (cc := cX4_signBeforeRoot) (maxL := 3) (by decide) rfl (Nat.le_of_ble_eq_true rfl) rfl ?_
  intro p e R s m args below meth c A Q ls H locs hx hb hml hown hts hRf hRl hA hK hG hP hD hS hl hQ
  have hP : va_P D vwCl [(ta, .inr (4, [.long qa, .long qb, .long qc]))] H := hP
  have hl : lv_has ls 3 [(0, .ref ta), (1, .int x)] := hl
  have hown : s.vm.findClass RX4 = some m.cls := hown
  have hF : (f_X4_signBeforeRoot qa qb qc x) = (f_X4_signBeforeRoot qa qb qc x) := rfl
  refine lv_aload_n hx hb dX4_signBeforeRoot_0 rfl (lv_at hl 0 rfl) ?_
  refine va_get (D := D) (ci := 4) (v := .long qa) (C := RX4) (T := TX4) (N := 3) hx hb hts uX4_signBeforeRoot_X4 hown hK hP 0 rfl rfl 0 (by decide) (hts _ kX4_signBeforeRoot_0) (fun _ h9 => h9) rfl dX4_signBeforeRoot_1 ?_
  refine lv_lconst (v := 0) hx hb dX4_signBeforeRoot_4 (by decide) ?_
  refine W.lcmp hx hb dX4_signBeforeRoot_5 ?_
  have J4 : ∀ (v3 : Int32) (H : Heap) (locs : List Loc) (ls : Array Slot), v3 = (if (lg_cmp qa 0) = 0 then 0 else (if (lg_cmp (f_X4_discriminant qa qb qc) 0) = 0 then 1 else 0)) → va_P D vwCl [(ta, .inr (4, [.long qa, .long qb, .long qc]))] H → va_D A [(ta, .inr (4, [.long qa, .long qb, .long qc]))] → va_S A s.heap H locs → lv_has ls 3 [(0, .ref ta), (1, .int x)] → W p l e R s m args below meth c H locs 0 0 Q (F0 m 23 ls [.int v3]) := by
    clear hP hD hS hl
    intro v3 H locs ls ev3
    rw [ev3]
    clear ev3
    intro hP hD hS hl
    refine lv_istore_n (lv' := [(2, .int (if (lg_cmp qa 0) = 0 then 0 else (if (lg_cmp (f_X4_discriminant qa qb qc) 0) = 0 then 1 else 0))), (0, .ref ta), (1, .int x)]) hx hb dX4_signBeforeRoot_23 rfl hl (by decide) rfl (fun ls hl9 => ?_)
    replace hl := hl9
    clear hl9
    refine lv_iload_n hx hb dX4_signBeforeRoot_24 rfl (lv_at hl 0 rfl) ?_
    have J7 : ∀ (v6 : Int32) (H : Heap) (locs : List Loc) (ls : Array Slot), v6 = (if ((if (lg_cmp qa 0) = 0 then 0 else (if (lg_cmp (f_X4_discriminant qa qb qc) 0) = 0 then 1 else 0)) : Int32) = 0 then (-(f_X4_signAfterRoot qa qb qc x)) else (f_X4_signAfterRoot qa qb qc x)) → va_P D vwCl [(ta, .inr (4, [.long qa, .long qb, .long qc]))] H → va_D A [(ta, .inr (4, [.long qa, .long qb, .long qc]))] → va_S A s.heap H locs → lv_has ls 3 [(0, .ref ta), (1, .int x), (2, .int (if (lg_cmp qa 0) = 0 then 0 else (if (lg_cmp (f_X4_discriminant qa qb qc) 0) = 0 then 1 else 0)))] → W p l e R s m args below meth c H locs 0 0 Q (F0 m 42 ls [.int v6]) := by
      clear hP hD hS hl
      intro v6 H locs ls ev6
      rw [ev6]
      clear ev6
      intro hP hD hS hl
      have hF : f_X4_signBeforeRoot qa qb qc x = (if ((if (lg_cmp qa 0) = 0 then 0 else (if (lg_cmp (f_X4_discriminant qa qb qc) 0) = 0 then 1 else 0)) : Int32) = 0 then (-(f_X4_signAfterRoot qa qb qc x)) else (f_X4_signAfterRoot qa qb qc x)) := hF
      rw [hF] at hQ
      exact hQ _ _ _ _ dX4_signBeforeRoot_42 hP hS
    refine lv_if_eq (tgt := 36) hx hb dX4_signBeforeRoot_25 (by decide) (fun hc5 => ?_) (fun hc5 => ?_)
    · refine lv_aload_n hx hb dX4_signBeforeRoot_36 rfl (lv_at hl 1 rfl) ?_
      refine lv_iload_n hx hb dX4_signBeforeRoot_37 rfl (lv_at hl 2 rfl) ?_
      refine yk_i [0] (va_runV (As := [.int x]) (rest := []) ⟨hx, hb, hml, hown, hts⟩ (c_X4_signAfterRoot l D cy ta qa qb qc x H.size) (cwV 1 hts gX4_signBeforeRoot_X4_signAfterRoot rfl rfl rfl hv_X4_signAfterRoot (yk_room hRf hRl rfl rfl)) (yk_pv (q := (RX4, TX4, 3)) hG hA hS hK hP hD [0] (by decide +kernel) rfl rfl rfl) rfl rfl hl.1 rfl (lv_room (Nat.le_of_ble_eq_true rfl)) dX4_signBeforeRoot_38 ⟨Nat.zero_le _, Nat.zero_le _⟩) hP hD hS hA rfl (Eq.trans (b := [ta]) rfl rfl) (fun H locs hP9 hD9 hS9 => ?_)
      replace hP : va_P D vwCl [(ta, .inr (4, [.long qa, .long qb, .long qc]))] H := hP9
      replace hD : va_D A [(ta, .inr (4, [.long qa, .long qb, .long qc]))] := hD9
      replace hS := hS9
      clear hP9 hD9 hS9
      refine lv_ineg hx hb dX4_signBeforeRoot_41 ?_
      exact J7 _ _ _ _ ((if_pos hc5).symm) hP hD hS (lv_sub hl [1, 2, 0] rfl)
    · refine lv_aload_n hx hb dX4_signBeforeRoot_28 rfl (lv_at hl 1 rfl) ?_
      refine lv_iload_n hx hb dX4_signBeforeRoot_29 rfl (lv_at hl 2 rfl) ?_
      refine yk_i [0] (va_runV (As := [.int x]) (rest := []) ⟨hx, hb, hml, hown, hts⟩ (c_X4_signAfterRoot l D cy ta qa qb qc x H.size) (cwV 1 hts gX4_signBeforeRoot_X4_signAfterRoot rfl rfl rfl hv_X4_signAfterRoot (yk_room hRf hRl rfl rfl)) (yk_pv (q := (RX4, TX4, 3)) hG hA hS hK hP hD [0] (by decide +kernel) rfl rfl rfl) rfl rfl hl.1 rfl (lv_room (Nat.le_of_ble_eq_true rfl)) dX4_signBeforeRoot_30 ⟨Nat.zero_le _, Nat.zero_le _⟩) hP hD hS hA rfl (Eq.trans (b := [ta]) rfl rfl) (fun H locs hP9 hD9 hS9 => ?_)
      replace hP : va_P D vwCl [(ta, .inr (4, [.long qa, .long qb, .long qc]))] H := hP9
      replace hD : va_D A [(ta, .inr (4, [.long qa, .long qb, .long qc]))] := hD9
      replace hS := hS9
      clear hP9 hD9 hS9
      refine lv_goto (tgt := 42) hx hb dX4_signBeforeRoot_33 (by decide) ?_
      exact J7 _ _ _ _ ((if_neg hc5).symm) hP hD hS (lv_sub hl [1, 2, 0] rfl)
  refine lv_if_eq (tgt := 22) hx hb dX4_signBeforeRoot_6 (by decide) (fun hc1 => ?_) (fun hc1 => ?_)
  · refine lv_iconst (v := 0) hx hb dX4_signBeforeRoot_22 (by decide) ?_
    exact J4 _ _ _ _ ((if_pos hc1).symm) hP hD hS (lv_sub hl [0, 1] rfl)
  · refine lv_aload_n hx hb dX4_signBeforeRoot_9 rfl (lv_at hl 0 rfl) ?_
    refine yk_l [0] (va_runV (As := []) (rest := []) ⟨hx, hb, hml, hown, hts⟩ (c_X4_discriminant l D cy ta qa qb qc H.size) (cwV 0 hts gX4_signBeforeRoot_X4_discriminant rfl rfl rfl hv_X4_discriminant (yk_room hRf hRl rfl rfl)) (yk_pv (q := (RX4, TX4, 3)) hG hA hS hK hP hD [0] (by decide +kernel) rfl rfl rfl) rfl rfl hl.1 rfl (lv_room (Nat.le_of_ble_eq_true rfl)) dX4_signBeforeRoot_10 ⟨Nat.zero_le _, Nat.zero_le _⟩) hP hD hS hA rfl (Eq.trans (b := [ta]) rfl rfl) (fun H locs hP9 hD9 hS9 => ?_)
    replace hP : va_P D vwCl [(ta, .inr (4, [.long qa, .long qb, .long qc]))] H := hP9
    replace hD : va_D A [(ta, .inr (4, [.long qa, .long qb, .long qc]))] := hD9
    replace hS := hS9
    clear hP9 hD9 hS9
    refine lv_lconst (v := 0) hx hb dX4_signBeforeRoot_13 (by decide) ?_
    refine W.lcmp hx hb dX4_signBeforeRoot_14 ?_
    refine lv_if_ne (tgt := 22) hx hb dX4_signBeforeRoot_15 (by decide) (fun hc2 => ?_) (fun hc2 => ?_)
    · refine lv_iconst (v := 0) hx hb dX4_signBeforeRoot_22 (by decide) ?_
      exact J4 _ _ _ _ (((if_neg hc1).trans (if_neg hc2)).symm) hP hD hS (lv_sub hl [0, 1] rfl)
    · refine lv_iconst (v := 1) hx hb dX4_signBeforeRoot_18 (by decide) ?_
      refine lv_goto (tgt := 23) hx hb dX4_signBeforeRoot_19 (by decide) ?_
      exact J4 _ _ _ _ (((if_neg hc1).trans (if_pos hc2)).symm) hP hD hS (lv_sub hl [0, 1] rfl)

def l_X4_upwardCrossings_10 (qa : Int64) (qb : Int64) (qc : Int64) (pa : Int64) (pb : Int64) (pd : Int64) : Nat → Nat → Int32 → Int32
  | 0, ki, z2_10 => z2_10
  | fu_X4_upwardCrossings_10 + 1, ki, z2_10 => (if (nI ((f_X4_rootCount qa qb qc).toNatClampNeg)) ≤ (nI ki) then z2_10 else (l_X4_upwardCrossings_10 qa qb qc pa pb pd fu_X4_upwardCrossings_10 (ki + 1) (if (f_X4_isOnPiece qa qb qc (nI ki)) = 0 then z2_10 else (if 0 < (f_X4_signAtRootOf pa pb pd qa qb qc (nI ki)) then (if 0 ≤ (f_X4_sideOfEnd qa qb qc (nI ki)) then (if (f_X4_sideOfStart qa qb qc (nI ki)) ≤ 0 then z2_10 else (if 0 ≤ (f_X4_signBeforeRoot qa qb qc (nI ki)) then z2_10 else (z2_10 + 1))) else (if 0 ≤ (f_X4_signAfterRoot qa qb qc (nI ki)) then (if (f_X4_sideOfStart qa qb qc (nI ki)) ≤ 0 then z2_10 else (if 0 ≤ (f_X4_signBeforeRoot qa qb qc (nI ki)) then z2_10 else (z2_10 + 1))) else ((if (f_X4_sideOfStart qa qb qc (nI ki)) ≤ 0 then z2_10 else (if 0 ≤ (f_X4_signBeforeRoot qa qb qc (nI ki)) then z2_10 else (z2_10 + 1))) - 1))) else z2_10))))
def f_X4_upwardCrossings (qa : Int64) (qb : Int64) (qc : Int64) (pa : Int64) (pb : Int64) (pd : Int64) : Int32 := (l_X4_upwardCrossings_10 qa qb qc pa pb pd (((f_X4_rootCount qa qb qc).toNatClampNeg) + 1) 0 0)
set_option maxHeartbeats 400000000 in
set_option maxRecDepth 100000 in
theorem c_X4_upwardCrossings (l : Launch) (D : va_G) (cy : Nat → ClassId) (ta : Nat) (oa : Nat) (qa : Int64) (qb : Int64) (qc : Int64) (pa : Int64) (pb : Int64) (pd : Int64) : yk_Ci l D vwCl (yk_ty cy) yX4_upwardCrossings wsX4_upwardCrossings 4 99 [.ref ta, .ref oa] [(ta, .inr (4, [.long qa, .long qb, .long qc])), (oa, .inr (4, [.long pa, .long pb, .long pd]))] (f_X4_upwardCrossings qa qb qc pa pb pd) [(ta, .inr (4, [.long qa, .long qb, .long qc])), (oa, .inr (4, [.long pa, .long pb, .long pd]))] := by
  refine yk_eI (cc := cX4_upwardCrossings) (maxL := 5) (by decide) rfl (Nat.le_of_ble_eq_true rfl) rfl ?_
  intro p e R s m args below meth c A Q ls H locs hx hb hml hown hts hRf hRl hA hK hG hP hD hS hl hQ
  have hP : va_P D vwCl [(ta, .inr (4, [.long qa, .long qb, .long qc])), (oa, .inr (4, [.long pa, .long pb, .long pd]))] H := hP
  have hl : lv_has ls 5 [(0, .ref ta), (1, .ref oa)] := hl
  have hown : s.vm.findClass RX4 = some m.cls := hown
  have hF : (f_X4_upwardCrossings qa qb qc pa pb pd) = (f_X4_upwardCrossings qa qb qc pa pb pd) := rfl
  refine lv_iconst (v := 0) hx hb dX4_upwardCrossings_0 (by decide) ?_
  refine lv_istore_n (lv' := [(2, .int 0), (0, .ref ta), (1, .ref oa)]) hx hb dX4_upwardCrossings_1 rfl hl (by decide) rfl (fun ls hl9 => ?_)
  replace hl := hl9
  clear hl9
  refine lv_aload_n hx hb dX4_upwardCrossings_2 rfl (lv_at hl 1 rfl) ?_
  refine yk_i [0] (va_runV (As := []) (rest := []) ⟨hx, hb, hml, hown, hts⟩ (c_X4_rootCount l D cy ta qa qb qc H.size) (cwV 0 hts gX4_upwardCrossings_X4_rootCount rfl rfl rfl hv_X4_rootCount (yk_room hRf hRl rfl rfl)) (yk_pv (q := (RX4, TX4, 3)) hG hA hS hK hP hD [0] (by decide +kernel) rfl rfl rfl) rfl rfl hl.1 rfl (lv_room (Nat.le_of_ble_eq_true rfl)) dX4_upwardCrossings_3 ⟨Nat.zero_le _, Nat.zero_le _⟩) hP hD hS hA rfl (Eq.trans (b := [ta]) rfl rfl) (fun H locs hP9 hD9 hS9 => ?_)
  replace hP : va_P D vwCl [(ta, .inr (4, [.long qa, .long qb, .long qc])), (oa, .inr (4, [.long pa, .long pb, .long pd]))] H := hP9
  replace hD : va_D A [(ta, .inr (4, [.long qa, .long qb, .long qc])), (oa, .inr (4, [.long pa, .long pb, .long pd]))] := hD9
  replace hS := hS9
  clear hP9 hD9 hS9
  refine yk_ti (y := nI ((f_X4_rootCount qa qb qc).toNatClampNeg)) (yk_n2 (r_X4_rootCount qa qb qc)) ?_
  refine lv_istore_n (lv' := [(3, .int (nI ((f_X4_rootCount qa qb qc).toNatClampNeg))), (2, .int 0), (0, .ref ta), (1, .ref oa)]) hx hb dX4_upwardCrossings_6 rfl hl (by decide) rfl (fun ls hl9 => ?_)
  replace hl := hl9
  clear hl9
  refine lv_iconst (v := 0) hx hb dX4_upwardCrossings_7 (by decide) ?_
  refine lv_istore (lv' := [(4, .int 0), (3, .int (nI ((f_X4_rootCount qa qb qc).toNatClampNeg))), (2, .int 0), (0, .ref ta), (1, .ref oa)]) hx hb dX4_upwardCrossings_8 hl (by decide) rfl (fun ls hl9 => ?_)
  replace hl := hl9
  clear hl9
  have J12 : ∀ (H : Heap) (locs : List Loc) (ls : Array Slot), va_P D vwCl [(ta, .inr (4, [.long qa, .long qb, .long qc])), (oa, .inr (4, [.long pa, .long pb, .long pd]))] H → va_D A [(ta, .inr (4, [.long qa, .long qb, .long qc])), (oa, .inr (4, [.long pa, .long pb, .long pd]))] → va_S A s.heap H locs → lv_has ls 5 [(0, .ref ta), (1, .ref oa), (2, .int (l_X4_upwardCrossings_10 qa qb qc pa pb pd (((f_X4_rootCount qa qb qc).toNatClampNeg) + 1) 0 0)), (3, .int (nI ((f_X4_rootCount qa qb qc).toNatClampNeg)))] → W p l e R s m args below meth c H locs 0 0 Q (F0 m 86 ls []) := by
    clear hP hD hS hl
    intro H locs ls hP hD hS hl
    refine lv_iload_n hx hb dX4_upwardCrossings_86 rfl (lv_at hl 2 rfl) ?_
    have hF : f_X4_upwardCrossings qa qb qc pa pb pd = (l_X4_upwardCrossings_10 qa qb qc pa pb pd (((f_X4_rootCount qa qb qc).toNatClampNeg) + 1) 0 0) := hF
    rw [hF] at hQ
    exact hQ _ _ _ _ dX4_upwardCrossings_87 hP hS
  have L10 : ∀ (M9 n10 ki : Nat) (z2_10 : Int32) (H : Heap) (locs : List Loc) (ls : Array Slot), n10 < M9 → ki + n10 = (f_X4_rootCount qa qb qc).toNatClampNeg → (l_X4_upwardCrossings_10 qa qb qc pa pb pd (((f_X4_rootCount qa qb qc).toNatClampNeg) + 1) 0 0) = (l_X4_upwardCrossings_10 qa qb qc pa pb pd (n10 + 1) ki z2_10) → va_P D vwCl [(ta, .inr (4, [.long qa, .long qb, .long qc])), (oa, .inr (4, [.long pa, .long pb, .long pd]))] H → va_D A [(ta, .inr (4, [.long qa, .long qb, .long qc])), (oa, .inr (4, [.long pa, .long pb, .long pd]))] → va_S A s.heap H locs → lv_has ls 5 [(0, .ref ta), (1, .ref oa), (2, .int z2_10), (3, .int (nI ((f_X4_rootCount qa qb qc).toNatClampNeg))), (4, .int (nI ki))] → W p l e R s m args below meth c H locs 0 0 Q (F0 m 10 ls []) := by
    clear hP hD hS hl
    intro M9
    induction M9 with
    | zero => intro n10 ki _ _ _ _ hn; exact absurd hn (Nat.not_lt_zero _)
    | succ M9 ih10 =>
      intro n10 ki z2_10 H locs ls hn10 hk10 hV10 hP hD hS hl
      refine lv_iload hx hb dX4_upwardCrossings_10 (lv_at hl 4 rfl) ?_
      refine lv_iload_n hx hb dX4_upwardCrossings_12 rfl (lv_at hl 3 rfl) ?_
      refine lv_icmp_ge (tgt := 86) hx hb dX4_upwardCrossings_13 (by decide) (fun hc1 => ?_) (fun hc1 => ?_)
      · replace hV10 := hV10.trans (if_pos hc1)
        have hV10 : (l_X4_upwardCrossings_10 qa qb qc pa pb pd (((f_X4_rootCount qa qb qc).toNatClampNeg) + 1) 0 0) = z2_10 := hV10
        have J12 := J12
        rw [hV10] at J12
        exact J12 _ _ _ hP hD hS (lv_sub hl [0, 1, 2, 3] rfl)
      · replace hV10 := hV10.trans (if_neg hc1)
        have hlt10 : ki < (f_X4_rootCount qa qb qc).toNatClampNeg := yk_lt hk10 (Nat.lt_of_le_of_lt (yk_n2b (r_X4_rootCount qa qb qc)) (by decide)) hc1
        refine lv_aload_n hx hb dX4_upwardCrossings_16 rfl (lv_at hl 0 rfl) ?_
        refine lv_iload hx hb dX4_upwardCrossings_17 (lv_at hl 4 rfl) ?_
        refine yk_i [0] (va_runV (As := [.int (nI ki)]) (rest := []) ⟨hx, hb, hml, hown, hts⟩ (c_X4_isOnPiece l D cy ta qa qb qc (nI ki) H.size) (cwV 1 hts gX4_upwardCrossings_X4_isOnPiece rfl rfl rfl hv_X4_isOnPiece (yk_room hRf hRl rfl rfl)) (yk_pv (q := (RX4, TX4, 3)) hG hA hS hK hP hD [0] (by decide +kernel) rfl rfl rfl) rfl rfl hl.1 rfl (lv_room (Nat.le_of_ble_eq_true rfl)) dX4_upwardCrossings_19 ⟨Nat.zero_le _, Nat.zero_le _⟩) hP hD hS hA rfl (Eq.trans (b := [ta]) rfl rfl) (fun H locs hP9 hD9 hS9 => ?_)
        replace hP : va_P D vwCl [(ta, .inr (4, [.long qa, .long qb, .long qc])), (oa, .inr (4, [.long pa, .long pb, .long pd]))] H := hP9
        replace hD : va_D A [(ta, .inr (4, [.long qa, .long qb, .long qc])), (oa, .inr (4, [.long pa, .long pb, .long pd]))] := hD9
        replace hS := hS9
        clear hP9 hD9 hS9
        have J11 : ∀ (v10 : Int32) (H : Heap) (locs : List Loc) (ls : Array Slot), v10 = (if (f_X4_isOnPiece qa qb qc (nI ki)) = 0 then z2_10 else (if 0 < (f_X4_signAtRootOf pa pb pd qa qb qc (nI ki)) then (if 0 ≤ (f_X4_sideOfEnd qa qb qc (nI ki)) then (if (f_X4_sideOfStart qa qb qc (nI ki)) ≤ 0 then z2_10 else (if 0 ≤ (f_X4_signBeforeRoot qa qb qc (nI ki)) then z2_10 else (z2_10 + 1))) else (if 0 ≤ (f_X4_signAfterRoot qa qb qc (nI ki)) then (if (f_X4_sideOfStart qa qb qc (nI ki)) ≤ 0 then z2_10 else (if 0 ≤ (f_X4_signBeforeRoot qa qb qc (nI ki)) then z2_10 else (z2_10 + 1))) else ((if (f_X4_sideOfStart qa qb qc (nI ki)) ≤ 0 then z2_10 else (if 0 ≤ (f_X4_signBeforeRoot qa qb qc (nI ki)) then z2_10 else (z2_10 + 1))) - 1))) else z2_10)) → va_P D vwCl [(ta, .inr (4, [.long qa, .long qb, .long qc])), (oa, .inr (4, [.long pa, .long pb, .long pd]))] H → va_D A [(ta, .inr (4, [.long qa, .long qb, .long qc])), (oa, .inr (4, [.long pa, .long pb, .long pd]))] → va_S A s.heap H locs → lv_has ls 5 [(0, .ref ta), (1, .ref oa), (2, .int v10), (3, .int (nI ((f_X4_rootCount qa qb qc).toNatClampNeg))), (4, .int (nI ki))] → W p l e R s m args below meth c H locs 0 0 Q (F0 m 80 ls []) := by
          clear hP hD hS hl
          intro v10 H locs ls ev10
          rw [ev10]
          clear ev10
          intro hP hD hS hl
          refine lv_iinc (v := nI (ki + 1)) (lv' := [(4, .int (nI (ki + 1))), (0, .ref ta), (1, .ref oa), (2, .int (if (f_X4_isOnPiece qa qb qc (nI ki)) = 0 then z2_10 else (if 0 < (f_X4_signAtRootOf pa pb pd qa qb qc (nI ki)) then (if 0 ≤ (f_X4_sideOfEnd qa qb qc (nI ki)) then (if (f_X4_sideOfStart qa qb qc (nI ki)) ≤ 0 then z2_10 else (if 0 ≤ (f_X4_signBeforeRoot qa qb qc (nI ki)) then z2_10 else (z2_10 + 1))) else (if 0 ≤ (f_X4_signAfterRoot qa qb qc (nI ki)) then (if (f_X4_sideOfStart qa qb qc (nI ki)) ≤ 0 then z2_10 else (if 0 ≤ (f_X4_signBeforeRoot qa qb qc (nI ki)) then z2_10 else (z2_10 + 1))) else ((if (f_X4_sideOfStart qa qb qc (nI ki)) ≤ 0 then z2_10 else (if 0 ≤ (f_X4_signBeforeRoot qa qb qc (nI ki)) then z2_10 else (z2_10 + 1))) - 1))) else z2_10))), (3, .int (nI ((f_X4_rootCount qa qb qc).toNatClampNeg)))]) hx hb dX4_upwardCrossings_80 hl (k := 4) rfl (yk_inc ki) (by decide) rfl (fun ls hl9 => ?_)
          replace hl := hl9
          clear hl9
          refine lv_goto (tgt := 10) hx hb dX4_upwardCrossings_83 (by decide) ?_
          obtain ⟨n9, rfl⟩ : ∃ n9, n10 = n9 + 1 := ⟨n10 - 1, by omega⟩
          exact ih10 n9 (ki + 1) (if (f_X4_isOnPiece qa qb qc (nI ki)) = 0 then z2_10 else (if 0 < (f_X4_signAtRootOf pa pb pd qa qb qc (nI ki)) then (if 0 ≤ (f_X4_sideOfEnd qa qb qc (nI ki)) then (if (f_X4_sideOfStart qa qb qc (nI ki)) ≤ 0 then z2_10 else (if 0 ≤ (f_X4_signBeforeRoot qa qb qc (nI ki)) then z2_10 else (z2_10 + 1))) else (if 0 ≤ (f_X4_signAfterRoot qa qb qc (nI ki)) then (if (f_X4_sideOfStart qa qb qc (nI ki)) ≤ 0 then z2_10 else (if 0 ≤ (f_X4_signBeforeRoot qa qb qc (nI ki)) then z2_10 else (z2_10 + 1))) else ((if (f_X4_sideOfStart qa qb qc (nI ki)) ≤ 0 then z2_10 else (if 0 ≤ (f_X4_signBeforeRoot qa qb qc (nI ki)) then z2_10 else (z2_10 + 1))) - 1))) else z2_10)) _ _ _ (by omega) (by omega)  hV10 hP hD hS (lv_sub hl [1, 2, 3, 4, 0] rfl)
        refine lv_if_eq (tgt := 80) hx hb dX4_upwardCrossings_22 (by decide) (fun hc2 => ?_) (fun hc2 => ?_)
        · exact J11 _ _ _ _ ((if_pos hc2).symm) hP hD hS (lv_sub hl [0, 1, 2, 3, 4] rfl)
        · refine lv_aload_n hx hb dX4_upwardCrossings_25 rfl (lv_at hl 1 rfl) ?_
          refine lv_aload_n hx hb dX4_upwardCrossings_26 rfl (lv_at hl 0 rfl) ?_
          refine lv_iload hx hb dX4_upwardCrossings_27 (lv_at hl 4 rfl) ?_
          refine yk_i [1, 0] (va_runV (As := [.ref ta, .int (nI ki)]) (rest := []) ⟨hx, hb, hml, hown, hts⟩ (c_X4_signAtRootOf l D cy oa ta pa pb pd qa qb qc (nI ki) H.size) (cwV 2 hts gX4_upwardCrossings_X4_signAtRootOf rfl rfl rfl hv_X4_signAtRootOf (yk_room hRf hRl rfl rfl)) (yk_pv (q := (RX4, TX4, 3)) hG hA hS hK hP hD [1, 0] (by decide +kernel) rfl rfl rfl) rfl rfl hl.1 rfl (lv_room (Nat.le_of_ble_eq_true rfl)) dX4_upwardCrossings_29 ⟨Nat.zero_le _, Nat.zero_le _⟩) hP hD hS hA rfl (Eq.trans (b := [oa, ta]) rfl rfl) (fun H locs hP9 hD9 hS9 => ?_)
          replace hP : va_P D vwCl [(ta, .inr (4, [.long qa, .long qb, .long qc])), (oa, .inr (4, [.long pa, .long pb, .long pd]))] H := hP9
          replace hD : va_D A [(ta, .inr (4, [.long qa, .long qb, .long qc])), (oa, .inr (4, [.long pa, .long pb, .long pd]))] := hD9
          replace hS := hS9
          clear hP9 hD9 hS9
          refine lv_if_gt (tgt := 38) hx hb dX4_upwardCrossings_32 (by decide) (fun hc3 => ?_) (fun hc3 => ?_)
          · refine lv_aload_n hx hb dX4_upwardCrossings_38 rfl (lv_at hl 0 rfl) ?_
            refine lv_iload hx hb dX4_upwardCrossings_39 (lv_at hl 4 rfl) ?_
            refine yk_i [0] (va_runV (As := [.int (nI ki)]) (rest := []) ⟨hx, hb, hml, hown, hts⟩ (c_X4_sideOfStart l D cy ta qa qb qc (nI ki) H.size) (cwV 1 hts gX4_upwardCrossings_X4_sideOfStart rfl rfl rfl hv_X4_sideOfStart (yk_room hRf hRl rfl rfl)) (yk_pv (q := (RX4, TX4, 3)) hG hA hS hK hP hD [0] (by decide +kernel) rfl rfl rfl) rfl rfl hl.1 rfl (lv_room (Nat.le_of_ble_eq_true rfl)) dX4_upwardCrossings_41 ⟨Nat.zero_le _, Nat.zero_le _⟩) hP hD hS hA rfl (Eq.trans (b := [ta]) rfl rfl) (fun H locs hP9 hD9 hS9 => ?_)
            replace hP : va_P D vwCl [(ta, .inr (4, [.long qa, .long qb, .long qc])), (oa, .inr (4, [.long pa, .long pb, .long pd]))] H := hP9
            replace hD : va_D A [(ta, .inr (4, [.long qa, .long qb, .long qc])), (oa, .inr (4, [.long pa, .long pb, .long pd]))] := hD9
            replace hS := hS9
            clear hP9 hD9 hS9
            have J7 : ∀ (v6 : Int32) (H : Heap) (locs : List Loc) (ls : Array Slot), v6 = (if (f_X4_sideOfStart qa qb qc (nI ki)) ≤ 0 then z2_10 else (if 0 ≤ (f_X4_signBeforeRoot qa qb qc (nI ki)) then z2_10 else (z2_10 + 1))) → va_P D vwCl [(ta, .inr (4, [.long qa, .long qb, .long qc])), (oa, .inr (4, [.long pa, .long pb, .long pd]))] H → va_D A [(ta, .inr (4, [.long qa, .long qb, .long qc])), (oa, .inr (4, [.long pa, .long pb, .long pd]))] → va_S A s.heap H locs → lv_has ls 5 [(0, .ref ta), (1, .ref oa), (2, .int v6), (3, .int (nI ((f_X4_rootCount qa qb qc).toNatClampNeg))), (4, .int (nI ki))] → W p l e R s m args below meth c H locs 0 0 Q (F0 m 59 ls []) := by
              clear hP hD hS hl
              intro v6 H locs ls ev6
              rw [ev6]
              clear ev6
              intro hP hD hS hl
              refine lv_aload_n hx hb dX4_upwardCrossings_59 rfl (lv_at hl 0 rfl) ?_
              refine lv_iload hx hb dX4_upwardCrossings_60 (lv_at hl 4 rfl) ?_
              refine yk_i [0] (va_runV (As := [.int (nI ki)]) (rest := []) ⟨hx, hb, hml, hown, hts⟩ (c_X4_sideOfEnd l D cy ta qa qb qc (nI ki) H.size) (cwV 1 hts gX4_upwardCrossings_X4_sideOfEnd rfl rfl rfl hv_X4_sideOfEnd (yk_room hRf hRl rfl rfl)) (yk_pv (q := (RX4, TX4, 3)) hG hA hS hK hP hD [0] (by decide +kernel) rfl rfl rfl) rfl rfl hl.1 rfl (lv_room (Nat.le_of_ble_eq_true rfl)) dX4_upwardCrossings_62 ⟨Nat.zero_le _, Nat.zero_le _⟩) hP hD hS hA rfl (Eq.trans (b := [ta]) rfl rfl) (fun H locs hP9 hD9 hS9 => ?_)
              replace hP : va_P D vwCl [(ta, .inr (4, [.long qa, .long qb, .long qc])), (oa, .inr (4, [.long pa, .long pb, .long pd]))] H := hP9
              replace hD : va_D A [(ta, .inr (4, [.long qa, .long qb, .long qc])), (oa, .inr (4, [.long pa, .long pb, .long pd]))] := hD9
              replace hS := hS9
              clear hP9 hD9 hS9
              refine lv_if_ge (tgt := 80) hx hb dX4_upwardCrossings_65 (by decide) (fun hc8 => ?_) (fun hc8 => ?_)
              · exact J11 _ _ _ _ (((if_neg hc2).trans ((if_pos hc3).trans (if_pos hc8))).symm) hP hD hS (lv_sub hl [0, 1, 2, 3, 4] rfl)
              · refine lv_aload_n hx hb dX4_upwardCrossings_68 rfl (lv_at hl 0 rfl) ?_
                refine lv_iload hx hb dX4_upwardCrossings_69 (lv_at hl 4 rfl) ?_
                refine yk_i [0] (va_runV (As := [.int (nI ki)]) (rest := []) ⟨hx, hb, hml, hown, hts⟩ (c_X4_signAfterRoot l D cy ta qa qb qc (nI ki) H.size) (cwV 1 hts gX4_upwardCrossings_X4_signAfterRoot rfl rfl rfl hv_X4_signAfterRoot (yk_room hRf hRl rfl rfl)) (yk_pv (q := (RX4, TX4, 3)) hG hA hS hK hP hD [0] (by decide +kernel) rfl rfl rfl) rfl rfl hl.1 rfl (lv_room (Nat.le_of_ble_eq_true rfl)) dX4_upwardCrossings_71 ⟨Nat.zero_le _, Nat.zero_le _⟩) hP hD hS hA rfl (Eq.trans (b := [ta]) rfl rfl) (fun H locs hP9 hD9 hS9 => ?_)
                replace hP : va_P D vwCl [(ta, .inr (4, [.long qa, .long qb, .long qc])), (oa, .inr (4, [.long pa, .long pb, .long pd]))] H := hP9
                replace hD : va_D A [(ta, .inr (4, [.long qa, .long qb, .long qc])), (oa, .inr (4, [.long pa, .long pb, .long pd]))] := hD9
                replace hS := hS9
                clear hP9 hD9 hS9
                refine lv_if_ge (tgt := 80) hx hb dX4_upwardCrossings_74 (by decide) (fun hc9 => ?_) (fun hc9 => ?_)
                · exact J11 _ _ _ _ (((if_neg hc2).trans ((if_pos hc3).trans ((if_neg hc8).trans (if_pos hc9)))).symm) hP hD hS (lv_sub hl [0, 1, 2, 3, 4] rfl)
                · refine lv_iinc (v := ((if (f_X4_sideOfStart qa qb qc (nI ki)) ≤ 0 then z2_10 else (if 0 ≤ (f_X4_signBeforeRoot qa qb qc (nI ki)) then z2_10 else (z2_10 + 1))) - 1)) (lv' := [(2, .int ((if (f_X4_sideOfStart qa qb qc (nI ki)) ≤ 0 then z2_10 else (if 0 ≤ (f_X4_signBeforeRoot qa qb qc (nI ki)) then z2_10 else (z2_10 + 1))) - 1)), (0, .ref ta), (1, .ref oa), (3, .int (nI ((f_X4_rootCount qa qb qc).toNatClampNeg))), (4, .int (nI ki))]) hx hb dX4_upwardCrossings_77 hl (k := 2) rfl (yk_decg _) (by decide) rfl (fun ls hl9 => ?_)
                  replace hl := hl9
                  clear hl9
                  exact J11 _ _ _ _ (((if_neg hc2).trans ((if_pos hc3).trans ((if_neg hc8).trans (if_neg hc9)))).symm) hP hD hS (lv_sub hl [1, 2, 0, 3, 4] rfl)
            refine lv_if_le (tgt := 59) hx hb dX4_upwardCrossings_44 (by decide) (fun hc4 => ?_) (fun hc4 => ?_)
            · exact J7 _ _ _ _ ((if_pos hc4).symm) hP hD hS (lv_sub hl [0, 1, 2, 3, 4] rfl)
            · refine lv_aload_n hx hb dX4_upwardCrossings_47 rfl (lv_at hl 0 rfl) ?_
              refine lv_iload hx hb dX4_upwardCrossings_48 (lv_at hl 4 rfl) ?_
              refine yk_i [0] (va_runV (As := [.int (nI ki)]) (rest := []) ⟨hx, hb, hml, hown, hts⟩ (c_X4_signBeforeRoot l D cy ta qa qb qc (nI ki) H.size) (cwV 1 hts gX4_upwardCrossings_X4_signBeforeRoot rfl rfl rfl hv_X4_signBeforeRoot (yk_room hRf hRl rfl rfl)) (yk_pv (q := (RX4, TX4, 3)) hG hA hS hK hP hD [0] (by decide +kernel) rfl rfl rfl) rfl rfl hl.1 rfl (lv_room (Nat.le_of_ble_eq_true rfl)) dX4_upwardCrossings_50 ⟨Nat.zero_le _, Nat.zero_le _⟩) hP hD hS hA rfl (Eq.trans (b := [ta]) rfl rfl) (fun H locs hP9 hD9 hS9 => ?_)
              replace hP : va_P D vwCl [(ta, .inr (4, [.long qa, .long qb, .long qc])), (oa, .inr (4, [.long pa, .long pb, .long pd]))] H := hP9
              replace hD : va_D A [(ta, .inr (4, [.long qa, .long qb, .long qc])), (oa, .inr (4, [.long pa, .long pb, .long pd]))] := hD9
              replace hS := hS9
              clear hP9 hD9 hS9
              refine lv_if_ge (tgt := 59) hx hb dX4_upwardCrossings_53 (by decide) (fun hc5 => ?_) (fun hc5 => ?_)
              · exact J7 _ _ _ _ (((if_neg hc4).trans (if_pos hc5)).symm) hP hD hS (lv_sub hl [0, 1, 2, 3, 4] rfl)
              · refine lv_iinc (v := (z2_10 + 1)) (lv' := [(2, .int (z2_10 + 1)), (0, .ref ta), (1, .ref oa), (3, .int (nI ((f_X4_rootCount qa qb qc).toNatClampNeg))), (4, .int (nI ki))]) hx hb dX4_upwardCrossings_56 hl (k := 2) rfl (yk_incg _) (by decide) rfl (fun ls hl9 => ?_)
                replace hl := hl9
                clear hl9
                exact J7 _ _ _ _ (((if_neg hc4).trans (if_neg hc5)).symm) hP hD hS (lv_sub hl [1, 2, 0, 3, 4] rfl)
          · refine lv_goto (tgt := 80) hx hb dX4_upwardCrossings_35 (by decide) ?_
            exact J11 _ _ _ _ (((if_neg hc2).trans (if_neg hc3)).symm) hP hD hS (lv_sub hl [0, 1, 2, 3, 4] rfl)
  exact L10 (((f_X4_rootCount qa qb qc).toNatClampNeg) + 1) ((f_X4_rootCount qa qb qc).toNatClampNeg) 0 0 _ _ _ (Nat.lt_succ_self _) (by omega)  rfl hP hD hS (lv_sub hl [3, 4, 2, 1, 0] rfl)

theorem kX5_isMissing_0 : Cond.fieldLink RX5 15 "FlowPlane$Sheet" "bits" "I" ∈ wsX5_isMissing := by decide +kernel
theorem uX5_isMissing_X5 : ∀ w ∈ u_ws RX5 TX5 3, w ∈ wsX5_isMissing := by decide +kernel
def f_X5_isMissing (bi : Int32) : Int32 := (if bi = 0 then 1 else 0)
theorem b_X5_isMissing (bi : Int32) : (f_X5_isMissing bi) = 0 ∨ (f_X5_isMissing bi) = 1 := by
  unfold f_X5_isMissing; (repeat' split) <;> first | exact Or.inl (by with_reducible rfl) | exact Or.inr (by with_reducible rfl)
set_option maxHeartbeats 400000000 in
set_option maxRecDepth 100000 in
theorem c_X5_isMissing (l : Launch) (D : va_G) (cy : Nat → ClassId) (ta : Nat) (tan : Nat) (fu : Nat → Int32) (bi : Int32) (n : Nat) : yk_Ci l D vwCl (yk_ty cy) yX5_isMissing wsX5_isMissing 0 0 [.ref ta] [(ta, .inr (5, [.ref tan, .int bi, .int (nI n)])), (tan, .inl (cy 0, 16, .inl fu))] (f_X5_isMissing bi) [(ta, .inr (5, [.ref tan, .int bi, .int (nI n)])), (tan, .inl (cy 0, 16, .inl fu))] := by
  refine yk_eI (cc := cX5_isMissing) (maxL := 1) (by decide) rfl (Nat.le_of_ble_eq_true rfl) (yk_nb (b_X5_isMissing bi)) ?_
  intro p e R s m args below meth c A Q ls H locs hx hb hml hown hts hRf hRl hA hK hG hP hD hS hl hQ
  have hP : va_P D vwCl [(ta, .inr (5, [.ref tan, .int bi, .int (nI n)])), (tan, .inl (cy 0, 16, .inl fu))] H := hP
  have hl : lv_has ls 1 [(0, .ref ta)] := hl
  have hown : s.vm.findClass RX5 = some m.cls := hown
  have hF : (f_X5_isMissing bi) = (f_X5_isMissing bi) := rfl
  refine lv_aload_n hx hb dX5_isMissing_0 rfl (lv_at hl 0 rfl) ?_
  refine va_get (D := D) (ci := 5) (v := .int bi) (C := RX5) (T := TX5) (N := 3) hx hb hts uX5_isMissing_X5 hown hK hP 0 rfl rfl 1 (by decide) (hts _ kX5_isMissing_0) (fun _ h9 => h9) rfl dX5_isMissing_1 ?_
  have J3 : ∀ (v2 : Int32) (H : Heap) (locs : List Loc) (ls : Array Slot), v2 = (if bi = 0 then 1 else 0) → va_P D vwCl [(ta, .inr (5, [.ref tan, .int bi, .int (nI n)])), (tan, .inl (cy 0, 16, .inl fu))] H → va_D A [(ta, .inr (5, [.ref tan, .int bi, .int (nI n)])), (tan, .inl (cy 0, 16, .inl fu))] → va_S A s.heap H locs → lv_has ls 1 [(0, .ref ta)] → W p l e R s m args below meth c H locs 0 0 Q (F0 m 12 ls [.int v2]) := by
    clear hP hD hS hl
    intro v2 H locs ls ev2
    rw [ev2]
    clear ev2
    intro hP hD hS hl
    have hF : f_X5_isMissing bi = (if bi = 0 then 1 else 0) := hF
    rw [hF] at hQ
    exact hQ _ _ _ _ dX5_isMissing_12 hP hS
  refine lv_if_ne (tgt := 11) hx hb dX5_isMissing_4 (by decide) (fun hc1 => ?_) (fun hc1 => ?_)
  · refine lv_iconst (v := 0) hx hb dX5_isMissing_11 (by decide) ?_
    exact J3 _ _ _ _ ((if_neg hc1).symm) hP hD hS (lv_sub hl [0] rfl)
  · refine lv_iconst (v := 1) hx hb dX5_isMissing_7 (by decide) ?_
    refine lv_goto (tgt := 12) hx hb dX5_isMissing_8 (by decide) ?_
    exact J3 _ _ _ _ ((if_pos hc1).symm) hP hD hS (lv_sub hl [0] rfl)

theorem kX5_begin_0 : Cond.fieldLink RX5 15 "FlowPlane$Sheet" "bits" "I" ∈ wsX5_begin := by decide +kernel
theorem kX5_begin_1 : Cond.fieldLink RX5 19 "FlowPlane$Sheet" "size" "I" ∈ wsX5_begin := by decide +kernel
theorem kX5_begin_2 : Cond.fieldLink RX5 9 "FlowPlane$Sheet" "numbers" "[I" ∈ wsX5_begin := by decide +kernel
theorem uX5_begin_X5 : ∀ w ∈ u_ws RX5 TX5 3, w ∈ wsX5_begin := by decide +kernel
def l_X5_begin_12 (fu : Nat → Int32) (x : Int32) (k : Nat) : Nat → Nat → (Nat → Int32) → (Nat → Int32)
  | 0, ki, zTn_12 => zTn_12
  | fu_X5_begin_12 + 1, ki, zTn_12 => (if 16 ≤ (nI ki) then zTn_12 else (l_X5_begin_12 fu x k fu_X5_begin_12 (ki + 1) (upd zTn_12 ki 0)))
def f_X5_begin (fu : Nat → Int32) (x : Int32) (k : Nat) : Int32 × Nat × (Nat → Int32) := (x, k, (l_X5_begin_12 fu x k (16 + 1) 0 fu))
set_option maxHeartbeats 400000000 in
set_option maxRecDepth 100000 in
theorem c_X5_begin (l : Launch) (D : va_G) (cy : Nat → ClassId) (ta : Nat) (tan : Nat) (fu : Nat → Int32) (bi : Int32) (n : Nat) (x : Int32) (k : Nat) : yk_Cv l D vwCl (yk_ty cy) yX5_begin wsX5_begin 0 0 [.ref ta, .int x, .int (nI k)] [(ta, .inr (5, [.ref tan, .int bi, .int (nI n)])), (tan, .inl (cy 0, 16, .inl fu))] [(ta, .inr (5, [.ref tan, .int ((f_X5_begin fu x k).1), .int (nI ((f_X5_begin fu x k).2.1))])), (tan, .inl (cy 0, 16, .inl ((f_X5_begin fu x k).2.2)))] := by
  refine yk_eV (cc := cX5_begin) (maxL := 4) (by decide) rfl (Nat.le_of_ble_eq_true rfl) ?_
  intro p e R s m args below meth c A Q ls H locs hx hb hml hown hts hRf hRl hA hK hG hP hD hS hl hQ
  have hP : va_P D vwCl [(ta, .inr (5, [.ref tan, .int bi, .int (nI n)])), (tan, .inl (cy 0, 16, .inl fu))] H := hP
  have hl : lv_has ls 4 [(0, .ref ta), (1, .int x), (2, .int (nI k))] := hl
  have hown : s.vm.findClass RX5 = some m.cls := hown
  have hF : (f_X5_begin fu x k) = (f_X5_begin fu x k) := rfl
  refine lv_aload_n hx hb dX5_begin_0 rfl (lv_at hl 0 rfl) ?_
  refine lv_iload_n hx hb dX5_begin_1 rfl (lv_at hl 1 rfl) ?_
  refine va_put (D := D) (ci := 5) (v := .int x) (ty := .int) (C := RX5) (T := TX5) (N := 3) hx hb hts uX5_begin_X5 tyX5 tyX5_ok nmX5 hown hK hP hD hS 0 rfl rfl 1 (by decide) (hts _ kX5_begin_0) (fun _ h9 => h9) rfl (by decide +kernel) (rfl) (rfl) (Nat.le_of_ble_eq_true rfl) dX5_begin_2 (fun H locs hP9 hD9 hS9 => ?_)
  replace hP : va_P D vwCl [(ta, .inr (5, [.ref tan, .int x, .int (nI n)])), (tan, .inl (cy 0, 16, .inl fu))] H := hP9
  replace hD : va_D A [(ta, .inr (5, [.ref tan, .int x, .int (nI n)])), (tan, .inl (cy 0, 16, .inl fu))] := hD9
  replace hS := hS9
  clear hP9 hD9 hS9
  refine lv_aload_n hx hb dX5_begin_5 rfl (lv_at hl 0 rfl) ?_
  refine lv_iload_n hx hb dX5_begin_6 rfl (lv_at hl 2 rfl) ?_
  refine va_put (D := D) (ci := 5) (v := .int (nI k)) (ty := .int) (C := RX5) (T := TX5) (N := 3) hx hb hts uX5_begin_X5 tyX5 tyX5_ok nmX5 hown hK hP hD hS 0 rfl rfl 2 (by decide) (hts _ kX5_begin_1) (fun _ h9 => h9) rfl (by decide +kernel) (rfl) (rfl) (Nat.le_of_ble_eq_true rfl) dX5_begin_7 (fun H locs hP9 hD9 hS9 => ?_)
  replace hP : va_P D vwCl [(ta, .inr (5, [.ref tan, .int x, .int (nI k)])), (tan, .inl (cy 0, 16, .inl fu))] H := hP9
  replace hD : va_D A [(ta, .inr (5, [.ref tan, .int x, .int (nI k)])), (tan, .inl (cy 0, 16, .inl fu))] := hD9
  replace hS := hS9
  clear hP9 hD9 hS9
  refine lv_iconst (v := 0) hx hb dX5_begin_10 (by decide) ?_
  refine lv_istore_n (lv' := [(3, .int 0), (0, .ref ta), (1, .int x), (2, .int (nI k))]) hx hb dX5_begin_11 rfl hl (by decide) rfl (fun ls hl9 => ?_)
  replace hl := hl9
  clear hl9
  have J3 : ∀ (H : Heap) (locs : List Loc) (ls : Array Slot), va_P D vwCl [(ta, .inr (5, [.ref tan, .int x, .int (nI k)])), (tan, .inl (cy 0, 16, .inl (l_X5_begin_12 fu x k (16 + 1) 0 fu)))] H → va_D A [(ta, .inr (5, [.ref tan, .int x, .int (nI k)])), (tan, .inl (cy 0, 16, .inl (l_X5_begin_12 fu x k (16 + 1) 0 fu)))] → va_S A s.heap H locs → lv_has ls 4 [(0, .ref ta), (1, .int x), (2, .int (nI k))] → W p l e R s m args below meth c H locs 0 0 Q (F0 m 31 ls []) := by
    clear hP hD hS hl
    intro H locs ls hP hD hS hl
    have hF : f_X5_begin fu x k = (x, k, (l_X5_begin_12 fu x k (16 + 1) 0 fu)) := hF
    rw [hF] at hQ
    exact hQ _ _ _ _ dX5_begin_31 hP hS
  have L12 : ∀ (M9 n12 ki : Nat) (zTn_12 : Nat → Int32) (H : Heap) (locs : List Loc) (ls : Array Slot), n12 < M9 → ki + n12 = 16 → (l_X5_begin_12 fu x k (16 + 1) 0 fu) = (l_X5_begin_12 fu x k (n12 + 1) ki zTn_12) → va_P D vwCl [(ta, .inr (5, [.ref tan, .int x, .int (nI k)])), (tan, .inl (cy 0, 16, .inl zTn_12))] H → va_D A [(ta, .inr (5, [.ref tan, .int x, .int (nI k)])), (tan, .inl (cy 0, 16, .inl zTn_12))] → va_S A s.heap H locs → lv_has ls 4 [(0, .ref ta), (1, .int x), (2, .int (nI k)), (3, .int (nI ki))] → W p l e R s m args below meth c H locs 0 0 Q (F0 m 12 ls []) := by
    clear hP hD hS hl
    intro M9
    induction M9 with
    | zero => intro n12 ki _ _ _ _ hn; exact absurd hn (Nat.not_lt_zero _)
    | succ M9 ih12 =>
      intro n12 ki zTn_12 H locs ls hn12 hk12 hV12 hP hD hS hl
      refine lv_iload_n hx hb dX5_begin_12 rfl (lv_at hl 3 rfl) ?_
      refine lv_bipush (v := 16) hx hb dX5_begin_13 (by decide) ?_
      refine lv_icmp_ge (tgt := 31) hx hb dX5_begin_15 (by decide) (fun hc2 => ?_) (fun hc2 => ?_)
      · replace hV12 := hV12.trans (if_pos hc2)
        have hV12 : (l_X5_begin_12 fu x k (16 + 1) 0 fu) = zTn_12 := hV12
        have J3 := J3
        rw [hV12] at J3
        exact J3 _ _ _ hP hD hS (lv_sub hl [0, 1, 2] rfl)
      · replace hV12 := hV12.trans (if_neg hc2)
        have hlt12 : ki < 16 := yk_lt hk12 (by omega) hc2
        refine lv_aload_n hx hb dX5_begin_18 rfl (lv_at hl 0 rfl) ?_
        refine va_get (D := D) (ci := 5) (v := .ref tan) (C := RX5) (T := TX5) (N := 3) hx hb hts uX5_begin_X5 hown hK hP 0 rfl rfl 0 (by decide) (hts _ kX5_begin_2) (fun _ h9 => h9) rfl dX5_begin_19 ?_
        refine lv_iload_n hx hb dX5_begin_22 rfl (lv_at hl 3 rfl) ?_
        refine lv_iconst (v := 0) hx hb dX5_begin_23 (by decide) ?_
        refine yk_ist hx hb hK hP hD hS 1 0 rfl rfl ki (by omega) (by decide) dX5_begin_24 (fun H locs hP9 hD9 hS9 => ?_)
        replace hP : va_P D vwCl [(ta, .inr (5, [.ref tan, .int x, .int (nI k)])), (tan, .inl (cy 0, 16, .inl (upd zTn_12 ki 0)))] H := hP9
        replace hD : va_D A [(ta, .inr (5, [.ref tan, .int x, .int (nI k)])), (tan, .inl (cy 0, 16, .inl (upd zTn_12 ki 0)))] := hD9
        replace hS := hS9
        clear hP9 hD9 hS9
        refine lv_iinc (v := nI (ki + 1)) (lv' := [(3, .int (nI (ki + 1))), (0, .ref ta), (1, .int x), (2, .int (nI k))]) hx hb dX5_begin_25 hl (k := 3) rfl (yk_inc ki) (by decide) rfl (fun ls hl9 => ?_)
        replace hl := hl9
        clear hl9
        refine lv_goto (tgt := 12) hx hb dX5_begin_28 (by decide) ?_
        obtain ⟨n9, rfl⟩ : ∃ n9, n12 = n9 + 1 := ⟨n12 - 1, by omega⟩
        exact ih12 n9 (ki + 1) (upd zTn_12 ki 0) _ _ _ (by omega) (by omega)  hV12 hP hD hS (lv_sub hl [1, 2, 3, 0] rfl)
  exact L12 (16 + 1) 16 0 fu _ _ _ (Nat.lt_succ_self _) (by omega)  rfl hP hD hS (lv_sub hl [1, 2, 3, 0] rfl)

theorem kX5_lowestBits_0 : Cond.fieldLink RX5 15 "FlowPlane$Sheet" "bits" "I" ∈ wsX5_lowestBits := by decide +kernel
theorem uX5_lowestBits_X5 : ∀ w ∈ u_ws RX5 TX5 3, w ∈ wsX5_lowestBits := by decide +kernel
def f_X5_lowestBits (bi : Int32) (x : Int32) : Int32 := (if bi = 8 then ((x).toInt8.toInt32) else (if bi = 16 then (x).toInt16.toInt32 else x))
set_option maxHeartbeats 400000000 in
set_option maxRecDepth 100000 in
theorem c_X5_lowestBits (l : Launch) (D : va_G) (cy : Nat → ClassId) (ta : Nat) (tan : Nat) (fu : Nat → Int32) (bi : Int32) (n : Nat) (x : Int32) : yk_Ci l D vwCl (yk_ty cy) yX5_lowestBits wsX5_lowestBits 0 0 [.ref ta, .int x] [(ta, .inr (5, [.ref tan, .int bi, .int (nI n)])), (tan, .inl (cy 0, 16, .inl fu))] (f_X5_lowestBits bi x) [(ta, .inr (5, [.ref tan, .int bi, .int (nI n)])), (tan, .inl (cy 0, 16, .inl fu))] := by
  refine yk_eI (cc := cX5_lowestBits) (maxL := 2) (by decide) rfl (Nat.le_of_ble_eq_true rfl) rfl ?_
  intro p e R s m args below meth c A Q ls H locs hx hb hml hown hts hRf hRl hA hK hG hP hD hS hl hQ
  have hP : va_P D vwCl [(ta, .inr (5, [.ref tan, .int bi, .int (nI n)])), (tan, .inl (cy 0, 16, .inl fu))] H := hP
  have hl : lv_has ls 2 [(0, .ref ta), (1, .int x)] := hl
  have hown : s.vm.findClass RX5 = some m.cls := hown
  have hF : (f_X5_lowestBits bi x) = (f_X5_lowestBits bi x) := rfl
  refine lv_aload_n hx hb dX5_lowestBits_0 rfl (lv_at hl 0 rfl) ?_
  refine va_get (D := D) (ci := 5) (v := .int bi) (C := RX5) (T := TX5) (N := 3) hx hb hts uX5_lowestBits_X5 hown hK hP 0 rfl rfl 1 (by decide) (hts _ kX5_lowestBits_0) (fun _ h9 => h9) rfl dX5_lowestBits_1 ?_
  refine lv_bipush (v := 8) hx hb dX5_lowestBits_4 (by decide) ?_
  refine lv_icmp_ne (tgt := 12) hx hb dX5_lowestBits_6 (by decide) (fun hc1 => ?_) (fun hc1 => ?_)
  · replace hF := hF.trans (if_neg hc1)
    refine lv_aload_n hx hb dX5_lowestBits_12 rfl (lv_at hl 0 rfl) ?_
    refine va_get (D := D) (ci := 5) (v := .int bi) (C := RX5) (T := TX5) (N := 3) hx hb hts uX5_lowestBits_X5 hown hK hP 0 rfl rfl 1 (by decide) (hts _ kX5_lowestBits_0) (fun _ h9 => h9) rfl dX5_lowestBits_13 ?_
    refine lv_bipush (v := 16) hx hb dX5_lowestBits_16 (by decide) ?_
    have J4 : ∀ (v3 : Int32) (H : Heap) (locs : List Loc) (ls : Array Slot), v3 = (if bi = 16 then (x).toInt16.toInt32 else x) → va_P D vwCl [(ta, .inr (5, [.ref tan, .int bi, .int (nI n)])), (tan, .inl (cy 0, 16, .inl fu))] H → va_D A [(ta, .inr (5, [.ref tan, .int bi, .int (nI n)])), (tan, .inl (cy 0, 16, .inl fu))] → va_S A s.heap H locs → lv_has ls 2 [(0, .ref ta), (1, .int x)] → W p l e R s m args below meth c H locs 0 0 Q (F0 m 27 ls [.int v3]) := by
      clear hP hD hS hl
      intro v3 H locs ls ev3
      rw [ev3]
      clear ev3
      intro hP hD hS hl
      have hF : f_X5_lowestBits bi x = (if bi = 16 then (x).toInt16.toInt32 else x) := hF
      rw [hF] at hQ
      exact hQ _ _ _ _ dX5_lowestBits_27 hP hS
    refine lv_icmp_ne (tgt := 26) hx hb dX5_lowestBits_18 (by decide) (fun hc2 => ?_) (fun hc2 => ?_)
    · refine lv_iload_n hx hb dX5_lowestBits_26 rfl (lv_at hl 1 rfl) ?_
      exact J4 _ _ _ _ ((if_neg hc2).symm) hP hD hS (lv_sub hl [0, 1] rfl)
    · refine lv_iload_n hx hb dX5_lowestBits_21 rfl (lv_at hl 1 rfl) ?_
      refine lv_i2s hx hb dX5_lowestBits_22 rfl ?_
      refine lv_goto (tgt := 27) hx hb dX5_lowestBits_23 (by decide) ?_
      exact J4 _ _ _ _ ((if_pos hc2).symm) hP hD hS (lv_sub hl [0, 1] rfl)
  · replace hF := hF.trans (if_pos hc1)
    refine lv_iload_n hx hb dX5_lowestBits_9 rfl (lv_at hl 1 rfl) ?_
    refine lv_i2b hx hb dX5_lowestBits_10 rfl ?_
    have hF : f_X5_lowestBits bi x = ((x).toInt8.toInt32) := hF
    rw [hF] at hQ
    exact hQ _ _ _ _ dX5_lowestBits_11 hP hS

theorem kX5_hasRange_0 : Cond.fieldLink RX5 19 "FlowPlane$Sheet" "size" "I" ∈ wsX5_hasRange := by decide +kernel
theorem uX5_hasRange_X5 : ∀ w ∈ u_ws RX5 TX5 3, w ∈ wsX5_hasRange := by decide +kernel
def f_X5_hasRange (n : Nat) (x : Int32) (y : Int32) : Int32 := (if x < 0 then 0 else (if y < 0 then 0 else (if (nI n) < y then 0 else (if ((nI n) - y) < x then 0 else 1))))
theorem b_X5_hasRange (n : Nat) (x : Int32) (y : Int32) : (f_X5_hasRange n x y) = 0 ∨ (f_X5_hasRange n x y) = 1 := by
  unfold f_X5_hasRange; (repeat' split) <;> first | exact Or.inl (by with_reducible rfl) | exact Or.inr (by with_reducible rfl)
set_option maxHeartbeats 400000000 in
set_option maxRecDepth 100000 in
theorem c_X5_hasRange (l : Launch) (D : va_G) (cy : Nat → ClassId) (ta : Nat) (tan : Nat) (fu : Nat → Int32) (bi : Int32) (n : Nat) (x : Int32) (y : Int32) (hn : n ≤ 16) : yk_Ci l D vwCl (yk_ty cy) yX5_hasRange wsX5_hasRange 0 0 [.ref ta, .int x, .int y] [(ta, .inr (5, [.ref tan, .int bi, .int (nI n)])), (tan, .inl (cy 0, 16, .inl fu))] (f_X5_hasRange n x y) [(ta, .inr (5, [.ref tan, .int bi, .int (nI n)])), (tan, .inl (cy 0, 16, .inl fu))] := by
  refine yk_eI (cc := cX5_hasRange) (maxL := 3) (by decide) rfl (Nat.le_of_ble_eq_true rfl) (yk_nb (b_X5_hasRange n x y)) ?_
  intro p e R s m args below meth c A Q ls H locs hx hb hml hown hts hRf hRl hA hK hG hP hD hS hl hQ
  have hP : va_P D vwCl [(ta, .inr (5, [.ref tan, .int bi, .int (nI n)])), (tan, .inl (cy 0, 16, .inl fu))] H := hP
  have hl : lv_has ls 3 [(0, .ref ta), (1, .int x), (2, .int y)] := hl
  have hown : s.vm.findClass RX5 = some m.cls := hown
  have hF : (f_X5_hasRange n x y) = (f_X5_hasRange n x y) := rfl
  refine lv_iload_n hx hb dX5_hasRange_0 rfl (lv_at hl 1 rfl) ?_
  have J6 : ∀ (v5 : Int32) (H : Heap) (locs : List Loc) (ls : Array Slot), v5 = (if x < 0 then 0 else (if y < 0 then 0 else (if (nI n) < y then 0 else (if ((nI n) - y) < x then 0 else 1)))) → va_P D vwCl [(ta, .inr (5, [.ref tan, .int bi, .int (nI n)])), (tan, .inl (cy 0, 16, .inl fu))] H → va_D A [(ta, .inr (5, [.ref tan, .int bi, .int (nI n)])), (tan, .inl (cy 0, 16, .inl fu))] → va_S A s.heap H locs → lv_has ls 3 [(0, .ref ta), (1, .int x), (2, .int y)] → W p l e R s m args below meth c H locs 0 0 Q (F0 m 31 ls [.int v5]) := by
    clear hP hD hS hl
    intro v5 H locs ls ev5
    rw [ev5]
    clear ev5
    intro hP hD hS hl
    have hF : f_X5_hasRange n x y = (if x < 0 then 0 else (if y < 0 then 0 else (if (nI n) < y then 0 else (if ((nI n) - y) < x then 0 else 1)))) := hF
    rw [hF] at hQ
    exact hQ _ _ _ _ dX5_hasRange_31 hP hS
  refine lv_if_lt (tgt := 30) hx hb dX5_hasRange_1 (by decide) (fun hc1 => ?_) (fun hc1 => ?_)
  · refine lv_iconst (v := 0) hx hb dX5_hasRange_30 (by decide) ?_
    exact J6 _ _ _ _ ((if_pos hc1).symm) hP hD hS (lv_sub hl [0, 1, 2] rfl)
  · refine lv_iload_n hx hb dX5_hasRange_4 rfl (lv_at hl 2 rfl) ?_
    refine lv_if_lt (tgt := 30) hx hb dX5_hasRange_5 (by decide) (fun hc2 => ?_) (fun hc2 => ?_)
    · refine lv_iconst (v := 0) hx hb dX5_hasRange_30 (by decide) ?_
      exact J6 _ _ _ _ (((if_neg hc1).trans (if_pos hc2)).symm) hP hD hS (lv_sub hl [0, 1, 2] rfl)
    · refine lv_iload_n hx hb dX5_hasRange_8 rfl (lv_at hl 2 rfl) ?_
      refine lv_aload_n hx hb dX5_hasRange_9 rfl (lv_at hl 0 rfl) ?_
      refine va_get (D := D) (ci := 5) (v := .int (nI n)) (C := RX5) (T := TX5) (N := 3) hx hb hts uX5_hasRange_X5 hown hK hP 0 rfl rfl 2 (by decide) (hts _ kX5_hasRange_0) (fun _ h9 => h9) rfl dX5_hasRange_10 ?_
      refine lv_icmp_gt (tgt := 30) hx hb dX5_hasRange_13 (by decide) (fun hc3 => ?_) (fun hc3 => ?_)
      · refine lv_iconst (v := 0) hx hb dX5_hasRange_30 (by decide) ?_
        exact J6 _ _ _ _ (((if_neg hc1).trans ((if_neg hc2).trans (if_pos hc3))).symm) hP hD hS (lv_sub hl [0, 1, 2] rfl)
      · refine lv_iload_n hx hb dX5_hasRange_16 rfl (lv_at hl 1 rfl) ?_
        refine lv_aload_n hx hb dX5_hasRange_17 rfl (lv_at hl 0 rfl) ?_
        refine va_get (D := D) (ci := 5) (v := .int (nI n)) (C := RX5) (T := TX5) (N := 3) hx hb hts uX5_hasRange_X5 hown hK hP 0 rfl rfl 2 (by decide) (hts _ kX5_hasRange_0) (fun _ h9 => h9) rfl dX5_hasRange_18 ?_
        refine lv_iload_n hx hb dX5_hasRange_21 rfl (lv_at hl 2 rfl) ?_
        refine lv_isub hx hb dX5_hasRange_22 ?_
        refine lv_icmp_gt (tgt := 30) hx hb dX5_hasRange_23 (by decide) (fun hc4 => ?_) (fun hc4 => ?_)
        · refine lv_iconst (v := 0) hx hb dX5_hasRange_30 (by decide) ?_
          exact J6 _ _ _ _ (((if_neg hc1).trans ((if_neg hc2).trans ((if_neg hc3).trans (if_pos hc4)))).symm) hP hD hS (lv_sub hl [0, 1, 2] rfl)
        · refine lv_iconst (v := 1) hx hb dX5_hasRange_26 (by decide) ?_
          refine lv_goto (tgt := 31) hx hb dX5_hasRange_27 (by decide) ?_
          exact J6 _ _ _ _ (((if_neg hc1).trans ((if_neg hc2).trans ((if_neg hc3).trans (if_neg hc4)))).symm) hP hD hS (lv_sub hl [0, 1, 2] rfl)
