theorem hv_X7_isWithin : yX7_isWithin.cls = RX7 ∧ yX7_isWithin.cls ≠ "java/lang/invoke/MethodHandle" ∧ yX7_isWithin.cls ≠ "java/lang/invoke/VarHandle" ∧ (parseMethodDescriptor yX7_isWithin.desc).map (fun d => d.parameters.length) = some 2 := by decide +kernel
theorem hs_X7_isWithin : yX7_isWithin.cls ≠ "java/lang/invoke/MethodHandle" ∧ yX7_isWithin.cls ≠ "java/lang/invoke/VarHandle" ∧ (parseMethodDescriptor yX7_isWithin.desc).map (fun d => d.parameters.length) = some 2 := by decide +kernel
theorem hv_X3_squaresAt : yX3_squaresAt.cls = RX3 ∧ yX3_squaresAt.cls ≠ "java/lang/invoke/MethodHandle" ∧ yX3_squaresAt.cls ≠ "java/lang/invoke/VarHandle" ∧ (parseMethodDescriptor yX3_squaresAt.desc).map (fun d => d.parameters.length) = some 2 := by decide +kernel
theorem hs_X3_squaresAt : yX3_squaresAt.cls ≠ "java/lang/invoke/MethodHandle" ∧ yX3_squaresAt.cls ≠ "java/lang/invoke/VarHandle" ∧ (parseMethodDescriptor yX3_squaresAt.desc).map (fun d => d.parameters.length) = some 2 := by decide +kernel
def f_J13_signum_95d88 (x : Int64) : Int32 := ((((x >>> ((63 : Int32).toInt64 &&& 63)) ||| ((((-x)).toUInt64 >>> ((63 : Int32).toInt64.toUInt64 &&& Int64.toUInt64 63)).toInt64))).toInt32)
set_option maxHeartbeats 400000000 in
set_option maxRecDepth 100000 in
theorem c_J13_signum_95d88 (l : Launch) (D : va_G) (cy : Nat → ClassId) (x : Int64) : yk_Ci l D vwCl (yk_ty cy) yJ13_signum_95d88 wsJ13_signum_95d88 0 0 [.long x] [] (f_J13_signum_95d88 x) [] := by
  refine yk_eI (cc := cJ13_signum_95d88) (maxL := 2) (by decide) rfl (Nat.le_of_ble_eq_true rfl) rfl ?_
  intro p e R s m args below meth c A Q ls H locs hx hb hml hown hts hRf hRl hA hK hG hP hD hS hl hQ
  have hP : va_P D vwCl [] H := hP
  have hl : lv_has ls 2 [(0, .long x)] := hl
  have hown : s.vm.findClass RJ13 = some m.cls := hown
  have hF : (f_J13_signum_95d88 x) = (f_J13_signum_95d88 x) := rfl
  refine lv_lload_n hx hb dJ13_signum_95d88_0 rfl (lv_at hl 0 rfl) ?_
  refine lv_bipush (v := 63) hx hb dJ13_signum_95d88_1 (by decide) ?_
  refine lv_lshr hx hb dJ13_signum_95d88_3 rfl ?_
  refine lv_lload_n hx hb dJ13_signum_95d88_4 rfl (lv_at hl 0 rfl) ?_
  refine lv_lneg hx hb dJ13_signum_95d88_5 ?_
  refine lv_bipush (v := 63) hx hb dJ13_signum_95d88_6 (by decide) ?_
  refine lv_lushr hx hb dJ13_signum_95d88_8 rfl ?_
  refine lv_lor hx hb dJ13_signum_95d88_9 ?_
  refine lv_l2i hx hb dJ13_signum_95d88_10 rfl ?_
  have hF : f_J13_signum_95d88 x = ((((x >>> ((63 : Int32).toInt64 &&& 63)) ||| ((((-x)).toUInt64 >>> ((63 : Int32).toInt64.toUInt64 &&& Int64.toUInt64 63)).toInt64))).toInt32) := hF
  rw [hF] at hQ
  exact hQ _ _ _ _ dJ13_signum_95d88_11 hP hS

def f_X7_isWithin (x : Int32) (most : Int32) : Int32 := (if x < (-most) then 0 else (if most < x then 0 else 1))
theorem b_X7_isWithin (x : Int32) (most : Int32) : (f_X7_isWithin x most) = 0 ∨ (f_X7_isWithin x most) = 1 := by
  unfold f_X7_isWithin; (repeat' split) <;> first | exact Or.inl (by with_reducible rfl) | exact Or.inr (by with_reducible rfl)
set_option maxHeartbeats 400000000 in
set_option maxRecDepth 100000 in
theorem c_X7_isWithin (l : Launch) (D : va_G) (cy : Nat → ClassId) (x : Int32) (most : Int32) : yk_Ci l D vwCl (yk_ty cy) yX7_isWithin wsX7_isWithin 0 0 [.int x, .int most] [] (f_X7_isWithin x most) [] := by
  refine yk_eI (cc := cX7_isWithin) (maxL := 2) (by decide) rfl (Nat.le_of_ble_eq_true rfl) (yk_nb (b_X7_isWithin x most)) ?_
  intro p e R s m args below meth c A Q ls H locs hx hb hml hown hts hRf hRl hA hK hG hP hD hS hl hQ
  have hP : va_P D vwCl [] H := hP
  have hl : lv_has ls 2 [(0, .int x), (1, .int most)] := hl
  have hown : s.vm.findClass RX7 = some m.cls := hown
  have hF : (f_X7_isWithin x most) = (f_X7_isWithin x most) := rfl
  refine lv_iload_n hx hb dX7_isWithin_0 rfl (lv_at hl 0 rfl) ?_
  refine lv_iload_n hx hb dX7_isWithin_1 rfl (lv_at hl 1 rfl) ?_
  refine lv_ineg hx hb dX7_isWithin_2 ?_
  have J4 : ∀ (v3 : Int32) (H : Heap) (locs : List Loc) (ls : Array Slot), v3 = (if x < (-most) then 0 else (if most < x then 0 else 1)) → va_P D vwCl [] H → va_D A [] → va_S A s.heap H locs → lv_has ls 2 [(0, .int x), (1, .int most)] → W p l e R s m args below meth c H locs 0 0 Q (F0 m 16 ls [.int v3]) := by
    clear hP hD hS hl
    intro v3 H locs ls ev3
    rw [ev3]
    clear ev3
    intro hP hD hS hl
    have hF : f_X7_isWithin x most = (if x < (-most) then 0 else (if most < x then 0 else 1)) := hF
    rw [hF] at hQ
    exact hQ _ _ _ _ dX7_isWithin_16 hP hS
  refine lv_icmp_lt (tgt := 15) hx hb dX7_isWithin_3 (by decide) (fun hc1 => ?_) (fun hc1 => ?_)
  · refine lv_iconst (v := 0) hx hb dX7_isWithin_15 (by decide) ?_
    exact J4 _ _ _ _ ((if_pos hc1).symm) hP hD hS (lv_sub hl [0, 1] rfl)
  · refine lv_iload_n hx hb dX7_isWithin_6 rfl (lv_at hl 0 rfl) ?_
    refine lv_iload_n hx hb dX7_isWithin_7 rfl (lv_at hl 1 rfl) ?_
    refine lv_icmp_gt (tgt := 15) hx hb dX7_isWithin_8 (by decide) (fun hc2 => ?_) (fun hc2 => ?_)
    · refine lv_iconst (v := 0) hx hb dX7_isWithin_15 (by decide) ?_
      exact J4 _ _ _ _ (((if_neg hc1).trans (if_pos hc2)).symm) hP hD hS (lv_sub hl [0, 1] rfl)
    · refine lv_iconst (v := 1) hx hb dX7_isWithin_11 (by decide) ?_
      refine lv_goto (tgt := 16) hx hb dX7_isWithin_12 (by decide) ?_
      exact J4 _ _ _ _ (((if_neg hc1).trans (if_neg hc2)).symm) hP hD hS (lv_sub hl [0, 1] rfl)

def f_X7_isPlace (x : Int32) (y : Int32) : Int32 := (if (f_X7_isWithin x 6) = 0 then 0 else (if (f_X7_isWithin y 6) = 0 then 0 else 1))
theorem b_X7_isPlace (x : Int32) (y : Int32) : (f_X7_isPlace x y) = 0 ∨ (f_X7_isPlace x y) = 1 := by
  unfold f_X7_isPlace; (repeat' split) <;> first | exact Or.inl (by with_reducible rfl) | exact Or.inr (by with_reducible rfl) | with_reducible exact b_X7_isWithin _ _
set_option maxHeartbeats 400000000 in
set_option maxRecDepth 100000 in
theorem c_X7_isPlace (l : Launch) (D : va_G) (cy : Nat → ClassId) (x : Int32) (y : Int32) : yk_Ci l D vwCl (yk_ty cy) yX7_isPlace wsX7_isPlace 1 21 [.int x, .int y] [] (f_X7_isPlace x y) [] := by
  refine yk_eI (cc := cX7_isPlace) (maxL := 2) (by decide) rfl (Nat.le_of_ble_eq_true rfl) (yk_nb (b_X7_isPlace x y)) ?_
  intro p e R s m args below meth c A Q ls H locs hx hb hml hown hts hRf hRl hA hK hG hP hD hS hl hQ
  have hP : va_P D vwCl [] H := hP
  have hl : lv_has ls 2 [(0, .int x), (1, .int y)] := hl
  have hown : s.vm.findClass RX7 = some m.cls := hown
  have hF : (f_X7_isPlace x y) = (f_X7_isPlace x y) := rfl
  refine lv_iload_n hx hb dX7_isPlace_0 rfl (lv_at hl 0 rfl) ?_
  refine lv_bipush (v := 6) hx hb dX7_isPlace_1 (by decide) ?_
  refine yk_i [] (va_runS (As := [.int x, .int 6]) (rest := []) ⟨hx, hb, hml, hown, hts⟩ (c_X7_isWithin l D cy x 6 H.size) (va_cwS 2 hts gX7_isPlace_X7_isWithin rfl rfl rfl hs_X7_isWithin (yk_room hRf hRl rfl rfl)) (yk_ps hG hA hS hK hP hD [] (by decide +kernel) rfl) rfl rfl hl.1 rfl (lv_room (Nat.le_of_ble_eq_true rfl)) dX7_isPlace_3 ⟨Nat.zero_le _, Nat.zero_le _⟩) hP hD hS hA rfl rfl (fun H locs hP9 hD9 hS9 => ?_)
  replace hP : va_P D vwCl [] H := hP9
  replace hD : va_D A [] := hD9
  replace hS := hS9
  clear hP9 hD9 hS9
  have J4 : ∀ (v3 : Int32) (H : Heap) (locs : List Loc) (ls : Array Slot), v3 = (if (f_X7_isWithin x 6) = 0 then 0 else (if (f_X7_isWithin y 6) = 0 then 0 else 1)) → va_P D vwCl [] H → va_D A [] → va_S A s.heap H locs → lv_has ls 2 [(0, .int x), (1, .int y)] → W p l e R s m args below meth c H locs 0 0 Q (F0 m 23 ls [.int v3]) := by
    clear hP hD hS hl
    intro v3 H locs ls ev3
    rw [ev3]
    clear ev3
    intro hP hD hS hl
    have hF : f_X7_isPlace x y = (if (f_X7_isWithin x 6) = 0 then 0 else (if (f_X7_isWithin y 6) = 0 then 0 else 1)) := hF
    rw [hF] at hQ
    exact hQ _ _ _ _ dX7_isPlace_23 hP hS
  refine lv_if_eq (tgt := 22) hx hb dX7_isPlace_6 (by decide) (fun hc1 => ?_) (fun hc1 => ?_)
  · refine lv_iconst (v := 0) hx hb dX7_isPlace_22 (by decide) ?_
    exact J4 _ _ _ _ ((if_pos hc1).symm) hP hD hS (lv_sub hl [0, 1] rfl)
  · refine lv_iload_n hx hb dX7_isPlace_9 rfl (lv_at hl 1 rfl) ?_
    refine lv_bipush (v := 6) hx hb dX7_isPlace_10 (by decide) ?_
    refine yk_i [] (va_runS (As := [.int y, .int 6]) (rest := []) ⟨hx, hb, hml, hown, hts⟩ (c_X7_isWithin l D cy y 6 H.size) (va_cwS 2 hts gX7_isPlace_X7_isWithin rfl rfl rfl hs_X7_isWithin (yk_room hRf hRl rfl rfl)) (yk_ps hG hA hS hK hP hD [] (by decide +kernel) rfl) rfl rfl hl.1 rfl (lv_room (Nat.le_of_ble_eq_true rfl)) dX7_isPlace_12 ⟨Nat.zero_le _, Nat.zero_le _⟩) hP hD hS hA rfl rfl (fun H locs hP9 hD9 hS9 => ?_)
    replace hP : va_P D vwCl [] H := hP9
    replace hD : va_D A [] := hD9
    replace hS := hS9
    clear hP9 hD9 hS9
    refine lv_if_eq (tgt := 22) hx hb dX7_isPlace_15 (by decide) (fun hc2 => ?_) (fun hc2 => ?_)
    · refine lv_iconst (v := 0) hx hb dX7_isPlace_22 (by decide) ?_
      exact J4 _ _ _ _ (((if_neg hc1).trans (if_pos hc2)).symm) hP hD hS (lv_sub hl [0, 1] rfl)
    · refine lv_iconst (v := 1) hx hb dX7_isPlace_18 (by decide) ?_
      refine lv_goto (tgt := 23) hx hb dX7_isPlace_19 (by decide) ?_
      exact J4 _ _ _ _ (((if_neg hc1).trans (if_neg hc2)).symm) hP hD hS (lv_sub hl [0, 1] rfl)

def f_X7_isSum (xa : Int32) (xb : Int32) (xc : Int32) (xd : Int32) (xe : Int32) : Int32 := (if (f_X7_isWithin xa 9) = 0 then 0 else (if (f_X7_isWithin xb 9) = 0 then 0 else (if (f_X7_isWithin xc 9) = 0 then 0 else (if (f_X7_isWithin xd 9) = 0 then 0 else (if (f_X7_isWithin xe 9) = 0 then 0 else 1)))))
theorem b_X7_isSum (xa : Int32) (xb : Int32) (xc : Int32) (xd : Int32) (xe : Int32) : (f_X7_isSum xa xb xc xd xe) = 0 ∨ (f_X7_isSum xa xb xc xd xe) = 1 := by
  unfold f_X7_isSum; (repeat' split) <;> first | exact Or.inl (by with_reducible rfl) | exact Or.inr (by with_reducible rfl) | with_reducible exact b_X7_isWithin _ _
set_option maxHeartbeats 400000000 in
set_option maxRecDepth 100000 in
theorem c_X7_isSum (l : Launch) (D : va_G) (cy : Nat → ClassId) (xa : Int32) (xb : Int32) (xc : Int32) (xd : Int32) (xe : Int32) : yk_Ci l D vwCl (yk_ty cy) yX7_isSum wsX7_isSum 1 21 [.int xa, .int xb, .int xc, .int xd, .int xe] [] (f_X7_isSum xa xb xc xd xe) [] := by
  refine yk_eI (cc := cX7_isSum) (maxL := 5) (by decide) rfl (Nat.le_of_ble_eq_true rfl) (yk_nb (b_X7_isSum xa xb xc xd xe)) ?_
  intro p e R s m args below meth c A Q ls H locs hx hb hml hown hts hRf hRl hA hK hG hP hD hS hl hQ
  have hP : va_P D vwCl [] H := hP
  have hl : lv_has ls 5 [(0, .int xa), (1, .int xb), (2, .int xc), (3, .int xd), (4, .int xe)] := hl
  have hown : s.vm.findClass RX7 = some m.cls := hown
  have hF : (f_X7_isSum xa xb xc xd xe) = (f_X7_isSum xa xb xc xd xe) := rfl
  refine lv_iload_n hx hb dX7_isSum_0 rfl (lv_at hl 0 rfl) ?_
  refine lv_bipush (v := 9) hx hb dX7_isSum_1 (by decide) ?_
  refine yk_i [] (va_runS (As := [.int xa, .int 9]) (rest := []) ⟨hx, hb, hml, hown, hts⟩ (c_X7_isWithin l D cy xa 9 H.size) (va_cwS 2 hts gX7_isSum_X7_isWithin rfl rfl rfl hs_X7_isWithin (yk_room hRf hRl rfl rfl)) (yk_ps hG hA hS hK hP hD [] (by decide +kernel) rfl) rfl rfl hl.1 rfl (lv_room (Nat.le_of_ble_eq_true rfl)) dX7_isSum_3 ⟨Nat.zero_le _, Nat.zero_le _⟩) hP hD hS hA rfl rfl (fun H locs hP9 hD9 hS9 => ?_)
  replace hP : va_P D vwCl [] H := hP9
  replace hD : va_D A [] := hD9
  replace hS := hS9
  clear hP9 hD9 hS9
  have J7 : ∀ (v6 : Int32) (H : Heap) (locs : List Loc) (ls : Array Slot), v6 = (if (f_X7_isWithin xa 9) = 0 then 0 else (if (f_X7_isWithin xb 9) = 0 then 0 else (if (f_X7_isWithin xc 9) = 0 then 0 else (if (f_X7_isWithin xd 9) = 0 then 0 else (if (f_X7_isWithin xe 9) = 0 then 0 else 1))))) → va_P D vwCl [] H → va_D A [] → va_S A s.heap H locs → lv_has ls 5 [(0, .int xa), (1, .int xb), (2, .int xc), (3, .int xd), (4, .int xe)] → W p l e R s m args below meth c H locs 0 0 Q (F0 m 51 ls [.int v6]) := by
    clear hP hD hS hl
    intro v6 H locs ls ev6
    rw [ev6]
    clear ev6
    intro hP hD hS hl
    have hF : f_X7_isSum xa xb xc xd xe = (if (f_X7_isWithin xa 9) = 0 then 0 else (if (f_X7_isWithin xb 9) = 0 then 0 else (if (f_X7_isWithin xc 9) = 0 then 0 else (if (f_X7_isWithin xd 9) = 0 then 0 else (if (f_X7_isWithin xe 9) = 0 then 0 else 1))))) := hF
    rw [hF] at hQ
    exact hQ _ _ _ _ dX7_isSum_51 hP hS
  refine lv_if_eq (tgt := 50) hx hb dX7_isSum_6 (by decide) (fun hc1 => ?_) (fun hc1 => ?_)
  · refine lv_iconst (v := 0) hx hb dX7_isSum_50 (by decide) ?_
    exact J7 _ _ _ _ ((if_pos hc1).symm) hP hD hS (lv_sub hl [0, 1, 2, 3, 4] rfl)
  · refine lv_iload_n hx hb dX7_isSum_9 rfl (lv_at hl 1 rfl) ?_
    refine lv_bipush (v := 9) hx hb dX7_isSum_10 (by decide) ?_
    refine yk_i [] (va_runS (As := [.int xb, .int 9]) (rest := []) ⟨hx, hb, hml, hown, hts⟩ (c_X7_isWithin l D cy xb 9 H.size) (va_cwS 2 hts gX7_isSum_X7_isWithin rfl rfl rfl hs_X7_isWithin (yk_room hRf hRl rfl rfl)) (yk_ps hG hA hS hK hP hD [] (by decide +kernel) rfl) rfl rfl hl.1 rfl (lv_room (Nat.le_of_ble_eq_true rfl)) dX7_isSum_12 ⟨Nat.zero_le _, Nat.zero_le _⟩) hP hD hS hA rfl rfl (fun H locs hP9 hD9 hS9 => ?_)
    replace hP : va_P D vwCl [] H := hP9
    replace hD : va_D A [] := hD9
    replace hS := hS9
    clear hP9 hD9 hS9
    refine lv_if_eq (tgt := 50) hx hb dX7_isSum_15 (by decide) (fun hc2 => ?_) (fun hc2 => ?_)
    · refine lv_iconst (v := 0) hx hb dX7_isSum_50 (by decide) ?_
      exact J7 _ _ _ _ (((if_neg hc1).trans (if_pos hc2)).symm) hP hD hS (lv_sub hl [0, 1, 2, 3, 4] rfl)
    · refine lv_iload_n hx hb dX7_isSum_18 rfl (lv_at hl 2 rfl) ?_
      refine lv_bipush (v := 9) hx hb dX7_isSum_19 (by decide) ?_
      refine yk_i [] (va_runS (As := [.int xc, .int 9]) (rest := []) ⟨hx, hb, hml, hown, hts⟩ (c_X7_isWithin l D cy xc 9 H.size) (va_cwS 2 hts gX7_isSum_X7_isWithin rfl rfl rfl hs_X7_isWithin (yk_room hRf hRl rfl rfl)) (yk_ps hG hA hS hK hP hD [] (by decide +kernel) rfl) rfl rfl hl.1 rfl (lv_room (Nat.le_of_ble_eq_true rfl)) dX7_isSum_21 ⟨Nat.zero_le _, Nat.zero_le _⟩) hP hD hS hA rfl rfl (fun H locs hP9 hD9 hS9 => ?_)
      replace hP : va_P D vwCl [] H := hP9
      replace hD : va_D A [] := hD9
      replace hS := hS9
      clear hP9 hD9 hS9
      refine lv_if_eq (tgt := 50) hx hb dX7_isSum_24 (by decide) (fun hc3 => ?_) (fun hc3 => ?_)
      · refine lv_iconst (v := 0) hx hb dX7_isSum_50 (by decide) ?_
        exact J7 _ _ _ _ (((if_neg hc1).trans ((if_neg hc2).trans (if_pos hc3))).symm) hP hD hS (lv_sub hl [0, 1, 2, 3, 4] rfl)
      · refine lv_iload_n hx hb dX7_isSum_27 rfl (lv_at hl 3 rfl) ?_
        refine lv_bipush (v := 9) hx hb dX7_isSum_28 (by decide) ?_
        refine yk_i [] (va_runS (As := [.int xd, .int 9]) (rest := []) ⟨hx, hb, hml, hown, hts⟩ (c_X7_isWithin l D cy xd 9 H.size) (va_cwS 2 hts gX7_isSum_X7_isWithin rfl rfl rfl hs_X7_isWithin (yk_room hRf hRl rfl rfl)) (yk_ps hG hA hS hK hP hD [] (by decide +kernel) rfl) rfl rfl hl.1 rfl (lv_room (Nat.le_of_ble_eq_true rfl)) dX7_isSum_30 ⟨Nat.zero_le _, Nat.zero_le _⟩) hP hD hS hA rfl rfl (fun H locs hP9 hD9 hS9 => ?_)
        replace hP : va_P D vwCl [] H := hP9
        replace hD : va_D A [] := hD9
        replace hS := hS9
        clear hP9 hD9 hS9
        refine lv_if_eq (tgt := 50) hx hb dX7_isSum_33 (by decide) (fun hc4 => ?_) (fun hc4 => ?_)
        · refine lv_iconst (v := 0) hx hb dX7_isSum_50 (by decide) ?_
          exact J7 _ _ _ _ (((if_neg hc1).trans ((if_neg hc2).trans ((if_neg hc3).trans (if_pos hc4)))).symm) hP hD hS (lv_sub hl [0, 1, 2, 3, 4] rfl)
        · refine lv_iload hx hb dX7_isSum_36 (lv_at hl 4 rfl) ?_
          refine lv_bipush (v := 9) hx hb dX7_isSum_38 (by decide) ?_
          refine yk_i [] (va_runS (As := [.int xe, .int 9]) (rest := []) ⟨hx, hb, hml, hown, hts⟩ (c_X7_isWithin l D cy xe 9 H.size) (va_cwS 2 hts gX7_isSum_X7_isWithin rfl rfl rfl hs_X7_isWithin (yk_room hRf hRl rfl rfl)) (yk_ps hG hA hS hK hP hD [] (by decide +kernel) rfl) rfl rfl hl.1 rfl (lv_room (Nat.le_of_ble_eq_true rfl)) dX7_isSum_40 ⟨Nat.zero_le _, Nat.zero_le _⟩) hP hD hS hA rfl rfl (fun H locs hP9 hD9 hS9 => ?_)
          replace hP : va_P D vwCl [] H := hP9
          replace hD : va_D A [] := hD9
          replace hS := hS9
          clear hP9 hD9 hS9
          refine lv_if_eq (tgt := 50) hx hb dX7_isSum_43 (by decide) (fun hc5 => ?_) (fun hc5 => ?_)
          · refine lv_iconst (v := 0) hx hb dX7_isSum_50 (by decide) ?_
            exact J7 _ _ _ _ (((if_neg hc1).trans ((if_neg hc2).trans ((if_neg hc3).trans ((if_neg hc4).trans (if_pos hc5))))).symm) hP hD hS (lv_sub hl [0, 1, 2, 3, 4] rfl)
          · refine lv_iconst (v := 1) hx hb dX7_isSum_46 (by decide) ?_
            refine lv_goto (tgt := 51) hx hb dX7_isSum_47 (by decide) ?_
            exact J7 _ _ _ _ (((if_neg hc1).trans ((if_neg hc2).trans ((if_neg hc3).trans ((if_neg hc4).trans (if_neg hc5))))).symm) hP hD hS (lv_sub hl [0, 1, 2, 3, 4] rfl)

def f_X7_isNumberIndex (x : Int32) : Int32 := (if x < 0 then 0 else (if 6 ≤ x then 0 else 1))
theorem b_X7_isNumberIndex (x : Int32) : (f_X7_isNumberIndex x) = 0 ∨ (f_X7_isNumberIndex x) = 1 := by
  unfold f_X7_isNumberIndex; (repeat' split) <;> first | exact Or.inl (by with_reducible rfl) | exact Or.inr (by with_reducible rfl)
set_option maxHeartbeats 400000000 in
set_option maxRecDepth 100000 in
theorem c_X7_isNumberIndex (l : Launch) (D : va_G) (cy : Nat → ClassId) (x : Int32) : yk_Ci l D vwCl (yk_ty cy) yX7_isNumberIndex wsX7_isNumberIndex 0 0 [.int x] [] (f_X7_isNumberIndex x) [] := by
  refine yk_eI (cc := cX7_isNumberIndex) (maxL := 1) (by decide) rfl (Nat.le_of_ble_eq_true rfl) (yk_nb (b_X7_isNumberIndex x)) ?_
  intro p e R s m args below meth c A Q ls H locs hx hb hml hown hts hRf hRl hA hK hG hP hD hS hl hQ
  have hP : va_P D vwCl [] H := hP
  have hl : lv_has ls 1 [(0, .int x)] := hl
  have hown : s.vm.findClass RX7 = some m.cls := hown
  have hF : (f_X7_isNumberIndex x) = (f_X7_isNumberIndex x) := rfl
  refine lv_iload_n hx hb dX7_isNumberIndex_0 rfl (lv_at hl 0 rfl) ?_
  have J4 : ∀ (v3 : Int32) (H : Heap) (locs : List Loc) (ls : Array Slot), v3 = (if x < 0 then 0 else (if 6 ≤ x then 0 else 1)) → va_P D vwCl [] H → va_D A [] → va_S A s.heap H locs → lv_has ls 1 [(0, .int x)] → W p l e R s m args below meth c H locs 0 0 Q (F0 m 15 ls [.int v3]) := by
    clear hP hD hS hl
    intro v3 H locs ls ev3
    rw [ev3]
    clear ev3
    intro hP hD hS hl
    have hF : f_X7_isNumberIndex x = (if x < 0 then 0 else (if 6 ≤ x then 0 else 1)) := hF
    rw [hF] at hQ
    exact hQ _ _ _ _ dX7_isNumberIndex_15 hP hS
  refine lv_if_lt (tgt := 14) hx hb dX7_isNumberIndex_1 (by decide) (fun hc1 => ?_) (fun hc1 => ?_)
  · refine lv_iconst (v := 0) hx hb dX7_isNumberIndex_14 (by decide) ?_
    exact J4 _ _ _ _ ((if_pos hc1).symm) hP hD hS (lv_sub hl [0] rfl)
  · refine lv_iload_n hx hb dX7_isNumberIndex_4 rfl (lv_at hl 0 rfl) ?_
    refine lv_bipush (v := 6) hx hb dX7_isNumberIndex_5 (by decide) ?_
    refine lv_icmp_ge (tgt := 14) hx hb dX7_isNumberIndex_7 (by decide) (fun hc2 => ?_) (fun hc2 => ?_)
    · refine lv_iconst (v := 0) hx hb dX7_isNumberIndex_14 (by decide) ?_
      exact J4 _ _ _ _ (((if_neg hc1).trans (if_pos hc2)).symm) hP hD hS (lv_sub hl [0] rfl)
    · refine lv_iconst (v := 1) hx hb dX7_isNumberIndex_10 (by decide) ?_
      refine lv_goto (tgt := 15) hx hb dX7_isNumberIndex_11 (by decide) ?_
      exact J4 _ _ _ _ (((if_neg hc1).trans (if_neg hc2)).symm) hP hD hS (lv_sub hl [0] rfl)

def f_X7_isSlot (x : Int32) : Int32 := (if x < 0 then 0 else (if 4 ≤ x then 0 else 1))
theorem b_X7_isSlot (x : Int32) : (f_X7_isSlot x) = 0 ∨ (f_X7_isSlot x) = 1 := by
  unfold f_X7_isSlot; (repeat' split) <;> first | exact Or.inl (by with_reducible rfl) | exact Or.inr (by with_reducible rfl)
set_option maxHeartbeats 400000000 in
set_option maxRecDepth 100000 in
theorem c_X7_isSlot (l : Launch) (D : va_G) (cy : Nat → ClassId) (x : Int32) : yk_Ci l D vwCl (yk_ty cy) yX7_isSlot wsX7_isSlot 0 0 [.int x] [] (f_X7_isSlot x) [] := by
  refine yk_eI (cc := cX7_isSlot) (maxL := 1) (by decide) rfl (Nat.le_of_ble_eq_true rfl) (yk_nb (b_X7_isSlot x)) ?_
  intro p e R s m args below meth c A Q ls H locs hx hb hml hown hts hRf hRl hA hK hG hP hD hS hl hQ
  have hP : va_P D vwCl [] H := hP
  have hl : lv_has ls 1 [(0, .int x)] := hl
  have hown : s.vm.findClass RX7 = some m.cls := hown
  have hF : (f_X7_isSlot x) = (f_X7_isSlot x) := rfl
  refine lv_iload_n hx hb dX7_isSlot_0 rfl (lv_at hl 0 rfl) ?_
  have J4 : ∀ (v3 : Int32) (H : Heap) (locs : List Loc) (ls : Array Slot), v3 = (if x < 0 then 0 else (if 4 ≤ x then 0 else 1)) → va_P D vwCl [] H → va_D A [] → va_S A s.heap H locs → lv_has ls 1 [(0, .int x)] → W p l e R s m args below meth c H locs 0 0 Q (F0 m 14 ls [.int v3]) := by
    clear hP hD hS hl
    intro v3 H locs ls ev3
    rw [ev3]
    clear ev3
    intro hP hD hS hl
    have hF : f_X7_isSlot x = (if x < 0 then 0 else (if 4 ≤ x then 0 else 1)) := hF
    rw [hF] at hQ
    exact hQ _ _ _ _ dX7_isSlot_14 hP hS
  refine lv_if_lt (tgt := 13) hx hb dX7_isSlot_1 (by decide) (fun hc1 => ?_) (fun hc1 => ?_)
  · refine lv_iconst (v := 0) hx hb dX7_isSlot_13 (by decide) ?_
    exact J4 _ _ _ _ ((if_pos hc1).symm) hP hD hS (lv_sub hl [0] rfl)
  · refine lv_iload_n hx hb dX7_isSlot_4 rfl (lv_at hl 0 rfl) ?_
    refine lv_iconst (v := 4) hx hb dX7_isSlot_5 (by decide) ?_
    refine lv_icmp_ge (tgt := 13) hx hb dX7_isSlot_6 (by decide) (fun hc2 => ?_) (fun hc2 => ?_)
    · refine lv_iconst (v := 0) hx hb dX7_isSlot_13 (by decide) ?_
      exact J4 _ _ _ _ (((if_neg hc1).trans (if_pos hc2)).symm) hP hD hS (lv_sub hl [0] rfl)
    · refine lv_iconst (v := 1) hx hb dX7_isSlot_9 (by decide) ?_
      refine lv_goto (tgt := 14) hx hb dX7_isSlot_10 (by decide) ?_
      exact J4 _ _ _ _ (((if_neg hc1).trans (if_neg hc2)).symm) hP hD hS (lv_sub hl [0] rfl)

def f_X7_isSheet (x : Int32) : Int32 := (if x < 0 then 0 else (if 4 ≤ x then 0 else 1))
theorem b_X7_isSheet (x : Int32) : (f_X7_isSheet x) = 0 ∨ (f_X7_isSheet x) = 1 := by
  unfold f_X7_isSheet; (repeat' split) <;> first | exact Or.inl (by with_reducible rfl) | exact Or.inr (by with_reducible rfl)
set_option maxHeartbeats 400000000 in
set_option maxRecDepth 100000 in
theorem c_X7_isSheet (l : Launch) (D : va_G) (cy : Nat → ClassId) (x : Int32) : yk_Ci l D vwCl (yk_ty cy) yX7_isSheet wsX7_isSheet 0 0 [.int x] [] (f_X7_isSheet x) [] := by
  refine yk_eI (cc := cX7_isSheet) (maxL := 1) (by decide) rfl (Nat.le_of_ble_eq_true rfl) (yk_nb (b_X7_isSheet x)) ?_
  intro p e R s m args below meth c A Q ls H locs hx hb hml hown hts hRf hRl hA hK hG hP hD hS hl hQ
  have hP : va_P D vwCl [] H := hP
  have hl : lv_has ls 1 [(0, .int x)] := hl
  have hown : s.vm.findClass RX7 = some m.cls := hown
  have hF : (f_X7_isSheet x) = (f_X7_isSheet x) := rfl
  refine lv_iload_n hx hb dX7_isSheet_0 rfl (lv_at hl 0 rfl) ?_
  have J4 : ∀ (v3 : Int32) (H : Heap) (locs : List Loc) (ls : Array Slot), v3 = (if x < 0 then 0 else (if 4 ≤ x then 0 else 1)) → va_P D vwCl [] H → va_D A [] → va_S A s.heap H locs → lv_has ls 1 [(0, .int x)] → W p l e R s m args below meth c H locs 0 0 Q (F0 m 14 ls [.int v3]) := by
    clear hP hD hS hl
    intro v3 H locs ls ev3
    rw [ev3]
    clear ev3
    intro hP hD hS hl
    have hF : f_X7_isSheet x = (if x < 0 then 0 else (if 4 ≤ x then 0 else 1)) := hF
    rw [hF] at hQ
    exact hQ _ _ _ _ dX7_isSheet_14 hP hS
  refine lv_if_lt (tgt := 13) hx hb dX7_isSheet_1 (by decide) (fun hc1 => ?_) (fun hc1 => ?_)
  · refine lv_iconst (v := 0) hx hb dX7_isSheet_13 (by decide) ?_
    exact J4 _ _ _ _ ((if_pos hc1).symm) hP hD hS (lv_sub hl [0] rfl)
  · refine lv_iload_n hx hb dX7_isSheet_4 rfl (lv_at hl 0 rfl) ?_
    refine lv_iconst (v := 4) hx hb dX7_isSheet_5 (by decide) ?_
    refine lv_icmp_ge (tgt := 13) hx hb dX7_isSheet_6 (by decide) (fun hc2 => ?_) (fun hc2 => ?_)
    · refine lv_iconst (v := 0) hx hb dX7_isSheet_13 (by decide) ?_
      exact J4 _ _ _ _ (((if_neg hc1).trans (if_pos hc2)).symm) hP hD hS (lv_sub hl [0] rfl)
    · refine lv_iconst (v := 1) hx hb dX7_isSheet_9 (by decide) ?_
      refine lv_goto (tgt := 14) hx hb dX7_isSheet_10 (by decide) ?_
      exact J4 _ _ _ _ (((if_neg hc1).trans (if_neg hc2)).symm) hP hD hS (lv_sub hl [0] rfl)

def f_X7_isBits (x : Int32) : Int32 := (if x = 0 then 1 else (if x = 8 then 1 else (if x = 16 then 1 else (if x = 32 then 1 else 0))))
theorem b_X7_isBits (x : Int32) : (f_X7_isBits x) = 0 ∨ (f_X7_isBits x) = 1 := by
  unfold f_X7_isBits; (repeat' split) <;> first | exact Or.inl (by with_reducible rfl) | exact Or.inr (by with_reducible rfl)
set_option maxHeartbeats 400000000 in
set_option maxRecDepth 100000 in
theorem c_X7_isBits (l : Launch) (D : va_G) (cy : Nat → ClassId) (x : Int32) : yk_Ci l D vwCl (yk_ty cy) yX7_isBits wsX7_isBits 0 0 [.int x] [] (f_X7_isBits x) [] := by
  refine yk_eI (cc := cX7_isBits) (maxL := 1) (by decide) rfl (Nat.le_of_ble_eq_true rfl) (yk_nb (b_X7_isBits x)) ?_
  intro p e R s m args below meth c A Q ls H locs hx hb hml hown hts hRf hRl hA hK hG hP hD hS hl hQ
  have hP : va_P D vwCl [] H := hP
  have hl : lv_has ls 1 [(0, .int x)] := hl
  have hown : s.vm.findClass RX7 = some m.cls := hown
  have hF : (f_X7_isBits x) = (f_X7_isBits x) := rfl
  refine lv_iload_n hx hb dX7_isBits_0 rfl (lv_at hl 0 rfl) ?_
  have J6 : ∀ (v5 : Int32) (H : Heap) (locs : List Loc) (ls : Array Slot), v5 = (if x = 0 then 1 else (if x = 8 then 1 else (if x = 16 then 1 else (if x = 32 then 1 else 0)))) → va_P D vwCl [] H → va_D A [] → va_S A s.heap H locs → lv_has ls 1 [(0, .int x)] → W p l e R s m args below meth c H locs 0 0 Q (F0 m 27 ls [.int v5]) := by
    clear hP hD hS hl
    intro v5 H locs ls ev5
    rw [ev5]
    clear ev5
    intro hP hD hS hl
    have hF : f_X7_isBits x = (if x = 0 then 1 else (if x = 8 then 1 else (if x = 16 then 1 else (if x = 32 then 1 else 0)))) := hF
    rw [hF] at hQ
    exact hQ _ _ _ _ dX7_isBits_27 hP hS
  refine lv_if_eq (tgt := 22) hx hb dX7_isBits_1 (by decide) (fun hc1 => ?_) (fun hc1 => ?_)
  · refine lv_iconst (v := 1) hx hb dX7_isBits_22 (by decide) ?_
    refine lv_goto (tgt := 27) hx hb dX7_isBits_23 (by decide) ?_
    exact J6 _ _ _ _ ((if_pos hc1).symm) hP hD hS (lv_sub hl [0] rfl)
  · refine lv_iload_n hx hb dX7_isBits_4 rfl (lv_at hl 0 rfl) ?_
    refine lv_bipush (v := 8) hx hb dX7_isBits_5 (by decide) ?_
    refine lv_icmp_eq (tgt := 22) hx hb dX7_isBits_7 (by decide) (fun hc2 => ?_) (fun hc2 => ?_)
    · refine lv_iconst (v := 1) hx hb dX7_isBits_22 (by decide) ?_
      refine lv_goto (tgt := 27) hx hb dX7_isBits_23 (by decide) ?_
      exact J6 _ _ _ _ (((if_neg hc1).trans (if_pos hc2)).symm) hP hD hS (lv_sub hl [0] rfl)
    · refine lv_iload_n hx hb dX7_isBits_10 rfl (lv_at hl 0 rfl) ?_
      refine lv_bipush (v := 16) hx hb dX7_isBits_11 (by decide) ?_
      refine lv_icmp_eq (tgt := 22) hx hb dX7_isBits_13 (by decide) (fun hc3 => ?_) (fun hc3 => ?_)
      · refine lv_iconst (v := 1) hx hb dX7_isBits_22 (by decide) ?_
        refine lv_goto (tgt := 27) hx hb dX7_isBits_23 (by decide) ?_
        exact J6 _ _ _ _ (((if_neg hc1).trans ((if_neg hc2).trans (if_pos hc3))).symm) hP hD hS (lv_sub hl [0] rfl)
      · refine lv_iload_n hx hb dX7_isBits_16 rfl (lv_at hl 0 rfl) ?_
        refine lv_bipush (v := 32) hx hb dX7_isBits_17 (by decide) ?_
        refine lv_icmp_ne (tgt := 26) hx hb dX7_isBits_19 (by decide) (fun hc4 => ?_) (fun hc4 => ?_)
        · refine lv_iconst (v := 0) hx hb dX7_isBits_26 (by decide) ?_
          exact J6 _ _ _ _ (((if_neg hc1).trans ((if_neg hc2).trans ((if_neg hc3).trans (if_neg hc4)))).symm) hP hD hS (lv_sub hl [0] rfl)
        · refine lv_iconst (v := 1) hx hb dX7_isBits_22 (by decide) ?_
          refine lv_goto (tgt := 27) hx hb dX7_isBits_23 (by decide) ?_
          exact J6 _ _ _ _ (((if_neg hc1).trans ((if_neg hc2).trans ((if_neg hc3).trans (if_pos hc4)))).symm) hP hD hS (lv_sub hl [0] rfl)

def f_X7_oneIf (x : Int32) : Int32 := (if x = 0 then 0 else 1)
set_option maxHeartbeats 400000000 in
set_option maxRecDepth 100000 in
theorem c_X7_oneIf (l : Launch) (D : va_G) (cy : Nat → ClassId) (x : Int32) : yk_Ci l D vwCl (yk_ty cy) yX7_oneIf wsX7_oneIf 0 0 [.int x] [] (f_X7_oneIf x) [] := by
  refine yk_eI (cc := cX7_oneIf) (maxL := 1) (by decide) rfl (Nat.le_of_ble_eq_true rfl) rfl ?_
  intro p e R s m args below meth c A Q ls H locs hx hb hml hown hts hRf hRl hA hK hG hP hD hS hl hQ
  have hP : va_P D vwCl [] H := hP
  have hl : lv_has ls 1 [(0, .int x)] := hl
  have hown : s.vm.findClass RX7 = some m.cls := hown
  have hF : (f_X7_oneIf x) = (f_X7_oneIf x) := rfl
  refine lv_iload_n hx hb dX7_oneIf_0 rfl (lv_at hl 0 rfl) ?_
  have J3 : ∀ (v2 : Int32) (H : Heap) (locs : List Loc) (ls : Array Slot), v2 = (if x = 0 then 0 else 1) → va_P D vwCl [] H → va_D A [] → va_S A s.heap H locs → lv_has ls 1 [(0, .int x)] → W p l e R s m args below meth c H locs 0 0 Q (F0 m 9 ls [.int v2]) := by
    clear hP hD hS hl
    intro v2 H locs ls ev2
    rw [ev2]
    clear ev2
    intro hP hD hS hl
    have hF : f_X7_oneIf x = (if x = 0 then 0 else 1) := hF
    rw [hF] at hQ
    exact hQ _ _ _ _ dX7_oneIf_9 hP hS
  refine lv_if_eq (tgt := 8) hx hb dX7_oneIf_1 (by decide) (fun hc1 => ?_) (fun hc1 => ?_)
  · refine lv_iconst (v := 0) hx hb dX7_oneIf_8 (by decide) ?_
    exact J3 _ _ _ _ ((if_pos hc1).symm) hP hD hS (lv_sub hl [0] rfl)
  · refine lv_iconst (v := 1) hx hb dX7_oneIf_4 (by decide) ?_
    refine lv_goto (tgt := 9) hx hb dX7_oneIf_5 (by decide) ?_
    exact J3 _ _ _ _ ((if_neg hc1).symm) hP hD hS (lv_sub hl [0] rfl)

def f_X7_linesOfCubic (xa : Int32) (xb : Int32) (xc : Int32) (xd : Int32) : Int32 := (if xa = 0 then (if xb = 0 then (if xc = 0 then (if xd = 0 then 4 else (if (((((((xb * xb) * xc) * xc) - ((((4 * xa) * xc) * xc) * xc)) - ((((4 * xb) * xb) * xb) * xd)) - ((((27 * xa) * xa) * xd) * xd)) + ((((18 * xa) * xb) * xc) * xd)) = 0 then (if ((if (xb * xb) = ((3 * xa) * xc) then (if (xc * xc) = ((3 * xb) * xd) then (if (xb * xc) = ((9 * xa) * xd) then 1 else 0) else 0) else 0) : Int32) = 0 then 2 else 1) else (if (((((((xb * xb) * xc) * xc) - ((((4 * xa) * xc) * xc) * xc)) - ((((4 * xb) * xb) * xb) * xd)) - ((((27 * xa) * xa) * xd) * xd)) + ((((18 * xa) * xb) * xc) * xd)) ≤ 0 then 1 else 3))) else (if (((((((xb * xb) * xc) * xc) - ((((4 * xa) * xc) * xc) * xc)) - ((((4 * xb) * xb) * xb) * xd)) - ((((27 * xa) * xa) * xd) * xd)) + ((((18 * xa) * xb) * xc) * xd)) = 0 then (if ((if (xb * xb) = ((3 * xa) * xc) then (if (xc * xc) = ((3 * xb) * xd) then (if (xb * xc) = ((9 * xa) * xd) then 1 else 0) else 0) else 0) : Int32) = 0 then 2 else 1) else (if (((((((xb * xb) * xc) * xc) - ((((4 * xa) * xc) * xc) * xc)) - ((((4 * xb) * xb) * xb) * xd)) - ((((27 * xa) * xa) * xd) * xd)) + ((((18 * xa) * xb) * xc) * xd)) ≤ 0 then 1 else 3))) else (if (((((((xb * xb) * xc) * xc) - ((((4 * xa) * xc) * xc) * xc)) - ((((4 * xb) * xb) * xb) * xd)) - ((((27 * xa) * xa) * xd) * xd)) + ((((18 * xa) * xb) * xc) * xd)) = 0 then (if ((if (xb * xb) = ((3 * xa) * xc) then (if (xc * xc) = ((3 * xb) * xd) then (if (xb * xc) = ((9 * xa) * xd) then 1 else 0) else 0) else 0) : Int32) = 0 then 2 else 1) else (if (((((((xb * xb) * xc) * xc) - ((((4 * xa) * xc) * xc) * xc)) - ((((4 * xb) * xb) * xb) * xd)) - ((((27 * xa) * xa) * xd) * xd)) + ((((18 * xa) * xb) * xc) * xd)) ≤ 0 then 1 else 3))) else (if (((((((xb * xb) * xc) * xc) - ((((4 * xa) * xc) * xc) * xc)) - ((((4 * xb) * xb) * xb) * xd)) - ((((27 * xa) * xa) * xd) * xd)) + ((((18 * xa) * xb) * xc) * xd)) = 0 then (if ((if (xb * xb) = ((3 * xa) * xc) then (if (xc * xc) = ((3 * xb) * xd) then (if (xb * xc) = ((9 * xa) * xd) then 1 else 0) else 0) else 0) : Int32) = 0 then 2 else 1) else (if (((((((xb * xb) * xc) * xc) - ((((4 * xa) * xc) * xc) * xc)) - ((((4 * xb) * xb) * xb) * xd)) - ((((27 * xa) * xa) * xd) * xd)) + ((((18 * xa) * xb) * xc) * xd)) ≤ 0 then 1 else 3)))
set_option maxHeartbeats 400000000 in
set_option maxRecDepth 100000 in
theorem c_X7_linesOfCubic (l : Launch) (D : va_G) (cy : Nat → ClassId) (xa : Int32) (xb : Int32) (xc : Int32) (xd : Int32) : yk_Ci l D vwCl (yk_ty cy) yX7_linesOfCubic wsX7_linesOfCubic 0 0 [.int xa, .int xb, .int xc, .int xd] [] (f_X7_linesOfCubic xa xb xc xd) [] := by
  refine yk_eI (cc := cX7_linesOfCubic) (maxL := 6) (by decide) rfl (Nat.le_of_ble_eq_true rfl) rfl ?_
  intro p e R s m args below meth c A Q ls H locs hx hb hml hown hts hRf hRl hA hK hG hP hD hS hl hQ
  have hP : va_P D vwCl [] H := hP
  have hl : lv_has ls 6 [(0, .int xa), (1, .int xb), (2, .int xc), (3, .int xd)] := hl
  have hown : s.vm.findClass RX7 = some m.cls := hown
  have hF : (f_X7_linesOfCubic xa xb xc xd) = (f_X7_linesOfCubic xa xb xc xd) := rfl
  refine lv_iload_n hx hb dX7_linesOfCubic_0 rfl (lv_at hl 0 rfl) ?_
  refine lv_if_ne (tgt := 18) hx hb dX7_linesOfCubic_1 (by decide) (fun hc1 => ?_) (fun hc1 => ?_)
  · replace hF := hF.trans (if_neg hc1)
    refine lv_iload_n hx hb dX7_linesOfCubic_18 rfl (lv_at hl 1 rfl) ?_
    refine lv_iload_n hx hb dX7_linesOfCubic_19 rfl (lv_at hl 1 rfl) ?_
    refine lv_imul hx hb dX7_linesOfCubic_20 ?_
    refine lv_iload_n hx hb dX7_linesOfCubic_21 rfl (lv_at hl 2 rfl) ?_
    refine lv_imul hx hb dX7_linesOfCubic_22 ?_
    refine lv_iload_n hx hb dX7_linesOfCubic_23 rfl (lv_at hl 2 rfl) ?_
    refine lv_imul hx hb dX7_linesOfCubic_24 ?_
    refine lv_iconst (v := 4) hx hb dX7_linesOfCubic_25 (by decide) ?_
    refine lv_iload_n hx hb dX7_linesOfCubic_26 rfl (lv_at hl 0 rfl) ?_
    refine lv_imul hx hb dX7_linesOfCubic_27 ?_
    refine lv_iload_n hx hb dX7_linesOfCubic_28 rfl (lv_at hl 2 rfl) ?_
    refine lv_imul hx hb dX7_linesOfCubic_29 ?_
    refine lv_iload_n hx hb dX7_linesOfCubic_30 rfl (lv_at hl 2 rfl) ?_
    refine lv_imul hx hb dX7_linesOfCubic_31 ?_
    refine lv_iload_n hx hb dX7_linesOfCubic_32 rfl (lv_at hl 2 rfl) ?_
    refine lv_imul hx hb dX7_linesOfCubic_33 ?_
    refine lv_isub hx hb dX7_linesOfCubic_34 ?_
    refine lv_iconst (v := 4) hx hb dX7_linesOfCubic_35 (by decide) ?_
    refine lv_iload_n hx hb dX7_linesOfCubic_36 rfl (lv_at hl 1 rfl) ?_
    refine lv_imul hx hb dX7_linesOfCubic_37 ?_
    refine lv_iload_n hx hb dX7_linesOfCubic_38 rfl (lv_at hl 1 rfl) ?_
    refine lv_imul hx hb dX7_linesOfCubic_39 ?_
    refine lv_iload_n hx hb dX7_linesOfCubic_40 rfl (lv_at hl 1 rfl) ?_
    refine lv_imul hx hb dX7_linesOfCubic_41 ?_
    refine lv_iload_n hx hb dX7_linesOfCubic_42 rfl (lv_at hl 3 rfl) ?_
    refine lv_imul hx hb dX7_linesOfCubic_43 ?_
    refine lv_isub hx hb dX7_linesOfCubic_44 ?_
    refine lv_bipush (v := 27) hx hb dX7_linesOfCubic_45 (by decide) ?_
    refine lv_iload_n hx hb dX7_linesOfCubic_47 rfl (lv_at hl 0 rfl) ?_
    refine lv_imul hx hb dX7_linesOfCubic_48 ?_
    refine lv_iload_n hx hb dX7_linesOfCubic_49 rfl (lv_at hl 0 rfl) ?_
    refine lv_imul hx hb dX7_linesOfCubic_50 ?_
    refine lv_iload_n hx hb dX7_linesOfCubic_51 rfl (lv_at hl 3 rfl) ?_
    refine lv_imul hx hb dX7_linesOfCubic_52 ?_
    refine lv_iload_n hx hb dX7_linesOfCubic_53 rfl (lv_at hl 3 rfl) ?_
    refine lv_imul hx hb dX7_linesOfCubic_54 ?_
    refine lv_isub hx hb dX7_linesOfCubic_55 ?_
    refine lv_bipush (v := 18) hx hb dX7_linesOfCubic_56 (by decide) ?_
    refine lv_iload_n hx hb dX7_linesOfCubic_58 rfl (lv_at hl 0 rfl) ?_
    refine lv_imul hx hb dX7_linesOfCubic_59 ?_
    refine lv_iload_n hx hb dX7_linesOfCubic_60 rfl (lv_at hl 1 rfl) ?_
    refine lv_imul hx hb dX7_linesOfCubic_61 ?_
    refine lv_iload_n hx hb dX7_linesOfCubic_62 rfl (lv_at hl 2 rfl) ?_
    refine lv_imul hx hb dX7_linesOfCubic_63 ?_
    refine lv_iload_n hx hb dX7_linesOfCubic_64 rfl (lv_at hl 3 rfl) ?_
    refine lv_imul hx hb dX7_linesOfCubic_65 ?_
    refine lv_iadd hx hb dX7_linesOfCubic_66 ?_
    refine lv_istore (lv' := [(4, .int (((((((xb * xb) * xc) * xc) - ((((4 * xa) * xc) * xc) * xc)) - ((((4 * xb) * xb) * xb) * xd)) - ((((27 * xa) * xa) * xd) * xd)) + ((((18 * xa) * xb) * xc) * xd))), (0, .int xa), (1, .int xb), (2, .int xc), (3, .int xd)]) hx hb dX7_linesOfCubic_67 hl (by decide) rfl (fun ls hl9 => ?_)
    replace hl := hl9
    clear hl9
    refine lv_iload hx hb dX7_linesOfCubic_69 (lv_at hl 0 rfl) ?_
    refine lv_if_eq (tgt := 85) hx hb dX7_linesOfCubic_71 (by decide) (fun hc2 => ?_) (fun hc2 => ?_)
    · replace hF := hF.trans (if_pos hc2)
      refine lv_iload_n hx hb dX7_linesOfCubic_85 rfl (lv_at hl 2 rfl) ?_
      refine lv_iload_n hx hb dX7_linesOfCubic_86 rfl (lv_at hl 2 rfl) ?_
      refine lv_imul hx hb dX7_linesOfCubic_87 ?_
      refine lv_iconst (v := 3) hx hb dX7_linesOfCubic_88 (by decide) ?_
      refine lv_iload_n hx hb dX7_linesOfCubic_89 rfl (lv_at hl 1 rfl) ?_
      refine lv_imul hx hb dX7_linesOfCubic_90 ?_
      refine lv_iload_n hx hb dX7_linesOfCubic_91 rfl (lv_at hl 3 rfl) ?_
      refine lv_imul hx hb dX7_linesOfCubic_92 ?_
      have J7 : ∀ (v6 : Int32) (H : Heap) (locs : List Loc) (ls : Array Slot), v6 = (if (xb * xb) = ((3 * xa) * xc) then (if (xc * xc) = ((3 * xb) * xd) then (if (xb * xc) = ((9 * xa) * xd) then 1 else 0) else 0) else 0) → va_P D vwCl [] H → va_D A [] → va_S A s.heap H locs → lv_has ls 6 [(0, .int xa), (1, .int xb), (2, .int xc), (3, .int xd), (4, .int (((((((xb * xb) * xc) * xc) - ((((4 * xa) * xc) * xc) * xc)) - ((((4 * xb) * xb) * xb) * xd)) - ((((27 * xa) * xa) * xd) * xd)) + ((((18 * xa) * xb) * xc) * xd)))] → W p l e R s m args below meth c H locs 0 0 Q (F0 m 124 ls [.int v6]) := by
        clear hP hD hS hl
        intro v6 H locs ls ev6
        rw [ev6]
        clear ev6
        intro hP hD hS hl
        refine lv_istore (lv' := [(5, .int (if (xb * xb) = ((3 * xa) * xc) then (if (xc * xc) = ((3 * xb) * xd) then (if (xb * xc) = ((9 * xa) * xd) then 1 else 0) else 0) else 0)), (0, .int xa), (1, .int xb), (2, .int xc), (3, .int xd), (4, .int (((((((xb * xb) * xc) * xc) - ((((4 * xa) * xc) * xc) * xc)) - ((((4 * xb) * xb) * xb) * xd)) - ((((27 * xa) * xa) * xd) * xd)) + ((((18 * xa) * xb) * xc) * xd)))]) hx hb dX7_linesOfCubic_124 hl (by decide) rfl (fun ls hl9 => ?_)
        replace hl := hl9
        clear hl9
        refine lv_iload hx hb dX7_linesOfCubic_126 (lv_at hl 0 rfl) ?_
        have J10 : ∀ (v9 : Int32) (H : Heap) (locs : List Loc) (ls : Array Slot), v9 = (if ((if (xb * xb) = ((3 * xa) * xc) then (if (xc * xc) = ((3 * xb) * xd) then (if (xb * xc) = ((9 * xa) * xd) then 1 else 0) else 0) else 0) : Int32) = 0 then 2 else 1) → va_P D vwCl [] H → va_D A [] → va_S A s.heap H locs → lv_has ls 6 [(0, .int xa), (1, .int xb), (2, .int xc), (3, .int xd), (4, .int (((((((xb * xb) * xc) * xc) - ((((4 * xa) * xc) * xc) * xc)) - ((((4 * xb) * xb) * xb) * xd)) - ((((27 * xa) * xa) * xd) * xd)) + ((((18 * xa) * xb) * xc) * xd))), (5, .int (if (xb * xb) = ((3 * xa) * xc) then (if (xc * xc) = ((3 * xb) * xd) then (if (xb * xc) = ((9 * xa) * xd) then 1 else 0) else 0) else 0))] → W p l e R s m args below meth c H locs 0 0 Q (F0 m 136 ls [.int v9]) := by
          clear hP hD hS hl
          intro v9 H locs ls ev9
          rw [ev9]
          clear ev9
          intro hP hD hS hl
          have hF : f_X7_linesOfCubic xa xb xc xd = (if ((if (xb * xb) = ((3 * xa) * xc) then (if (xc * xc) = ((3 * xb) * xd) then (if (xb * xc) = ((9 * xa) * xd) then 1 else 0) else 0) else 0) : Int32) = 0 then 2 else 1) := hF
          rw [hF] at hQ
          exact hQ _ _ _ _ dX7_linesOfCubic_136 hP hS
        refine lv_if_eq (tgt := 135) hx hb dX7_linesOfCubic_128 (by decide) (fun hc8 => ?_) (fun hc8 => ?_)
        · refine lv_iconst (v := 2) hx hb dX7_linesOfCubic_135 (by decide) ?_
          exact J10 _ _ _ _ ((if_pos hc8).symm) hP hD hS (lv_sub hl [1, 2, 3, 4, 5, 0] rfl)
        · refine lv_iconst (v := 1) hx hb dX7_linesOfCubic_131 (by decide) ?_
          refine lv_goto (tgt := 136) hx hb dX7_linesOfCubic_132 (by decide) ?_
          exact J10 _ _ _ _ ((if_neg hc8).symm) hP hD hS (lv_sub hl [1, 2, 3, 4, 5, 0] rfl)
      refine lv_icmp_ne (tgt := 123) hx hb dX7_linesOfCubic_93 (by decide) (fun hc3 => ?_) (fun hc3 => ?_)
      · refine lv_iconst (v := 0) hx hb dX7_linesOfCubic_123 (by decide) ?_
        exact J7 _ _ _ _ ((if_neg hc3).symm) hP hD hS (lv_sub hl [1, 2, 3, 4, 0] rfl)
      · refine lv_iload_n hx hb dX7_linesOfCubic_96 rfl (lv_at hl 3 rfl) ?_
        refine lv_iload_n hx hb dX7_linesOfCubic_97 rfl (lv_at hl 3 rfl) ?_
        refine lv_imul hx hb dX7_linesOfCubic_98 ?_
        refine lv_iconst (v := 3) hx hb dX7_linesOfCubic_99 (by decide) ?_
        refine lv_iload_n hx hb dX7_linesOfCubic_100 rfl (lv_at hl 2 rfl) ?_
        refine lv_imul hx hb dX7_linesOfCubic_101 ?_
        refine lv_iload_n hx hb dX7_linesOfCubic_102 rfl (lv_at hl 4 rfl) ?_
        refine lv_imul hx hb dX7_linesOfCubic_103 ?_
        refine lv_icmp_ne (tgt := 123) hx hb dX7_linesOfCubic_104 (by decide) (fun hc4 => ?_) (fun hc4 => ?_)
        · refine lv_iconst (v := 0) hx hb dX7_linesOfCubic_123 (by decide) ?_
          exact J7 _ _ _ _ (((if_pos hc3).trans (if_neg hc4)).symm) hP hD hS (lv_sub hl [1, 2, 3, 4, 0] rfl)
        · refine lv_iload_n hx hb dX7_linesOfCubic_107 rfl (lv_at hl 2 rfl) ?_
          refine lv_iload_n hx hb dX7_linesOfCubic_108 rfl (lv_at hl 3 rfl) ?_
          refine lv_imul hx hb dX7_linesOfCubic_109 ?_
          refine lv_bipush (v := 9) hx hb dX7_linesOfCubic_110 (by decide) ?_
          refine lv_iload_n hx hb dX7_linesOfCubic_112 rfl (lv_at hl 1 rfl) ?_
          refine lv_imul hx hb dX7_linesOfCubic_113 ?_
          refine lv_iload_n hx hb dX7_linesOfCubic_114 rfl (lv_at hl 4 rfl) ?_
          refine lv_imul hx hb dX7_linesOfCubic_115 ?_
          refine lv_icmp_ne (tgt := 123) hx hb dX7_linesOfCubic_116 (by decide) (fun hc5 => ?_) (fun hc5 => ?_)
          · refine lv_iconst (v := 0) hx hb dX7_linesOfCubic_123 (by decide) ?_
            exact J7 _ _ _ _ (((if_pos hc3).trans ((if_pos hc4).trans (if_neg hc5))).symm) hP hD hS (lv_sub hl [1, 2, 3, 4, 0] rfl)
          · refine lv_iconst (v := 1) hx hb dX7_linesOfCubic_119 (by decide) ?_
            refine lv_goto (tgt := 124) hx hb dX7_linesOfCubic_120 (by decide) ?_
            exact J7 _ _ _ _ (((if_pos hc3).trans ((if_pos hc4).trans (if_pos hc5))).symm) hP hD hS (lv_sub hl [1, 2, 3, 4, 0] rfl)
    · replace hF := hF.trans (if_neg hc2)
      refine lv_iload hx hb dX7_linesOfCubic_74 (lv_at hl 0 rfl) ?_
      have J13 : ∀ (v12 : Int32) (H : Heap) (locs : List Loc) (ls : Array Slot), v12 = (if (((((((xb * xb) * xc) * xc) - ((((4 * xa) * xc) * xc) * xc)) - ((((4 * xb) * xb) * xb) * xd)) - ((((27 * xa) * xa) * xd) * xd)) + ((((18 * xa) * xb) * xc) * xd)) ≤ 0 then 1 else 3) → va_P D vwCl [] H → va_D A [] → va_S A s.heap H locs → lv_has ls 6 [(0, .int xa), (1, .int xb), (2, .int xc), (3, .int xd), (4, .int (((((((xb * xb) * xc) * xc) - ((((4 * xa) * xc) * xc) * xc)) - ((((4 * xb) * xb) * xb) * xd)) - ((((27 * xa) * xa) * xd) * xd)) + ((((18 * xa) * xb) * xc) * xd)))] → W p l e R s m args below meth c H locs 0 0 Q (F0 m 84 ls [.int v12]) := by
        clear hP hD hS hl
        intro v12 H locs ls ev12
        rw [ev12]
        clear ev12
        intro hP hD hS hl
        have hF : f_X7_linesOfCubic xa xb xc xd = (if (((((((xb * xb) * xc) * xc) - ((((4 * xa) * xc) * xc) * xc)) - ((((4 * xb) * xb) * xb) * xd)) - ((((27 * xa) * xa) * xd) * xd)) + ((((18 * xa) * xb) * xc) * xd)) ≤ 0 then 1 else 3) := hF
        rw [hF] at hQ
        exact hQ _ _ _ _ dX7_linesOfCubic_84 hP hS
      refine lv_if_le (tgt := 83) hx hb dX7_linesOfCubic_76 (by decide) (fun hc11 => ?_) (fun hc11 => ?_)
      · refine lv_iconst (v := 1) hx hb dX7_linesOfCubic_83 (by decide) ?_
        exact J13 _ _ _ _ ((if_pos hc11).symm) hP hD hS (lv_sub hl [1, 2, 3, 4, 0] rfl)
      · refine lv_iconst (v := 3) hx hb dX7_linesOfCubic_79 (by decide) ?_
        refine lv_goto (tgt := 84) hx hb dX7_linesOfCubic_80 (by decide) ?_
        exact J13 _ _ _ _ ((if_neg hc11).symm) hP hD hS (lv_sub hl [1, 2, 3, 4, 0] rfl)
  · replace hF := hF.trans (if_pos hc1)
    refine lv_iload_n hx hb dX7_linesOfCubic_4 rfl (lv_at hl 1 rfl) ?_
    refine lv_if_ne (tgt := 18) hx hb dX7_linesOfCubic_5 (by decide) (fun hc14 => ?_) (fun hc14 => ?_)
    · replace hF := hF.trans (if_neg hc14)
      refine lv_iload_n hx hb dX7_linesOfCubic_18 rfl (lv_at hl 1 rfl) ?_
      refine lv_iload_n hx hb dX7_linesOfCubic_19 rfl (lv_at hl 1 rfl) ?_
      refine lv_imul hx hb dX7_linesOfCubic_20 ?_
      refine lv_iload_n hx hb dX7_linesOfCubic_21 rfl (lv_at hl 2 rfl) ?_
      refine lv_imul hx hb dX7_linesOfCubic_22 ?_
      refine lv_iload_n hx hb dX7_linesOfCubic_23 rfl (lv_at hl 2 rfl) ?_
      refine lv_imul hx hb dX7_linesOfCubic_24 ?_
      refine lv_iconst (v := 4) hx hb dX7_linesOfCubic_25 (by decide) ?_
      refine lv_iload_n hx hb dX7_linesOfCubic_26 rfl (lv_at hl 0 rfl) ?_
      refine lv_imul hx hb dX7_linesOfCubic_27 ?_
      refine lv_iload_n hx hb dX7_linesOfCubic_28 rfl (lv_at hl 2 rfl) ?_
      refine lv_imul hx hb dX7_linesOfCubic_29 ?_
      refine lv_iload_n hx hb dX7_linesOfCubic_30 rfl (lv_at hl 2 rfl) ?_
      refine lv_imul hx hb dX7_linesOfCubic_31 ?_
      refine lv_iload_n hx hb dX7_linesOfCubic_32 rfl (lv_at hl 2 rfl) ?_
      refine lv_imul hx hb dX7_linesOfCubic_33 ?_
      refine lv_isub hx hb dX7_linesOfCubic_34 ?_
      refine lv_iconst (v := 4) hx hb dX7_linesOfCubic_35 (by decide) ?_
      refine lv_iload_n hx hb dX7_linesOfCubic_36 rfl (lv_at hl 1 rfl) ?_
      refine lv_imul hx hb dX7_linesOfCubic_37 ?_
      refine lv_iload_n hx hb dX7_linesOfCubic_38 rfl (lv_at hl 1 rfl) ?_
      refine lv_imul hx hb dX7_linesOfCubic_39 ?_
      refine lv_iload_n hx hb dX7_linesOfCubic_40 rfl (lv_at hl 1 rfl) ?_
      refine lv_imul hx hb dX7_linesOfCubic_41 ?_
      refine lv_iload_n hx hb dX7_linesOfCubic_42 rfl (lv_at hl 3 rfl) ?_
      refine lv_imul hx hb dX7_linesOfCubic_43 ?_
      refine lv_isub hx hb dX7_linesOfCubic_44 ?_
      refine lv_bipush (v := 27) hx hb dX7_linesOfCubic_45 (by decide) ?_
      refine lv_iload_n hx hb dX7_linesOfCubic_47 rfl (lv_at hl 0 rfl) ?_
      refine lv_imul hx hb dX7_linesOfCubic_48 ?_
      refine lv_iload_n hx hb dX7_linesOfCubic_49 rfl (lv_at hl 0 rfl) ?_
      refine lv_imul hx hb dX7_linesOfCubic_50 ?_
      refine lv_iload_n hx hb dX7_linesOfCubic_51 rfl (lv_at hl 3 rfl) ?_
      refine lv_imul hx hb dX7_linesOfCubic_52 ?_
      refine lv_iload_n hx hb dX7_linesOfCubic_53 rfl (lv_at hl 3 rfl) ?_
      refine lv_imul hx hb dX7_linesOfCubic_54 ?_
      refine lv_isub hx hb dX7_linesOfCubic_55 ?_
      refine lv_bipush (v := 18) hx hb dX7_linesOfCubic_56 (by decide) ?_
      refine lv_iload_n hx hb dX7_linesOfCubic_58 rfl (lv_at hl 0 rfl) ?_
      refine lv_imul hx hb dX7_linesOfCubic_59 ?_
      refine lv_iload_n hx hb dX7_linesOfCubic_60 rfl (lv_at hl 1 rfl) ?_
      refine lv_imul hx hb dX7_linesOfCubic_61 ?_
      refine lv_iload_n hx hb dX7_linesOfCubic_62 rfl (lv_at hl 2 rfl) ?_
      refine lv_imul hx hb dX7_linesOfCubic_63 ?_
      refine lv_iload_n hx hb dX7_linesOfCubic_64 rfl (lv_at hl 3 rfl) ?_
      refine lv_imul hx hb dX7_linesOfCubic_65 ?_
      refine lv_iadd hx hb dX7_linesOfCubic_66 ?_
      refine lv_istore (lv' := [(4, .int (((((((xb * xb) * xc) * xc) - ((((4 * xa) * xc) * xc) * xc)) - ((((4 * xb) * xb) * xb) * xd)) - ((((27 * xa) * xa) * xd) * xd)) + ((((18 * xa) * xb) * xc) * xd))), (0, .int xa), (1, .int xb), (2, .int xc), (3, .int xd)]) hx hb dX7_linesOfCubic_67 hl (by decide) rfl (fun ls hl9 => ?_)
      replace hl := hl9
      clear hl9
      refine lv_iload hx hb dX7_linesOfCubic_69 (lv_at hl 0 rfl) ?_
      refine lv_if_eq (tgt := 85) hx hb dX7_linesOfCubic_71 (by decide) (fun hc15 => ?_) (fun hc15 => ?_)
      · replace hF := hF.trans (if_pos hc15)
        refine lv_iload_n hx hb dX7_linesOfCubic_85 rfl (lv_at hl 2 rfl) ?_
        refine lv_iload_n hx hb dX7_linesOfCubic_86 rfl (lv_at hl 2 rfl) ?_
        refine lv_imul hx hb dX7_linesOfCubic_87 ?_
        refine lv_iconst (v := 3) hx hb dX7_linesOfCubic_88 (by decide) ?_
        refine lv_iload_n hx hb dX7_linesOfCubic_89 rfl (lv_at hl 1 rfl) ?_
        refine lv_imul hx hb dX7_linesOfCubic_90 ?_
        refine lv_iload_n hx hb dX7_linesOfCubic_91 rfl (lv_at hl 3 rfl) ?_
        refine lv_imul hx hb dX7_linesOfCubic_92 ?_
        have J20 : ∀ (v19 : Int32) (H : Heap) (locs : List Loc) (ls : Array Slot), v19 = (if (xb * xb) = ((3 * xa) * xc) then (if (xc * xc) = ((3 * xb) * xd) then (if (xb * xc) = ((9 * xa) * xd) then 1 else 0) else 0) else 0) → va_P D vwCl [] H → va_D A [] → va_S A s.heap H locs → lv_has ls 6 [(0, .int xa), (1, .int xb), (2, .int xc), (3, .int xd), (4, .int (((((((xb * xb) * xc) * xc) - ((((4 * xa) * xc) * xc) * xc)) - ((((4 * xb) * xb) * xb) * xd)) - ((((27 * xa) * xa) * xd) * xd)) + ((((18 * xa) * xb) * xc) * xd)))] → W p l e R s m args below meth c H locs 0 0 Q (F0 m 124 ls [.int v19]) := by
          clear hP hD hS hl
          intro v19 H locs ls ev19
          rw [ev19]
          clear ev19
          intro hP hD hS hl
          refine lv_istore (lv' := [(5, .int (if (xb * xb) = ((3 * xa) * xc) then (if (xc * xc) = ((3 * xb) * xd) then (if (xb * xc) = ((9 * xa) * xd) then 1 else 0) else 0) else 0)), (0, .int xa), (1, .int xb), (2, .int xc), (3, .int xd), (4, .int (((((((xb * xb) * xc) * xc) - ((((4 * xa) * xc) * xc) * xc)) - ((((4 * xb) * xb) * xb) * xd)) - ((((27 * xa) * xa) * xd) * xd)) + ((((18 * xa) * xb) * xc) * xd)))]) hx hb dX7_linesOfCubic_124 hl (by decide) rfl (fun ls hl9 => ?_)
          replace hl := hl9
          clear hl9
          refine lv_iload hx hb dX7_linesOfCubic_126 (lv_at hl 0 rfl) ?_
          have J23 : ∀ (v22 : Int32) (H : Heap) (locs : List Loc) (ls : Array Slot), v22 = (if ((if (xb * xb) = ((3 * xa) * xc) then (if (xc * xc) = ((3 * xb) * xd) then (if (xb * xc) = ((9 * xa) * xd) then 1 else 0) else 0) else 0) : Int32) = 0 then 2 else 1) → va_P D vwCl [] H → va_D A [] → va_S A s.heap H locs → lv_has ls 6 [(0, .int xa), (1, .int xb), (2, .int xc), (3, .int xd), (4, .int (((((((xb * xb) * xc) * xc) - ((((4 * xa) * xc) * xc) * xc)) - ((((4 * xb) * xb) * xb) * xd)) - ((((27 * xa) * xa) * xd) * xd)) + ((((18 * xa) * xb) * xc) * xd))), (5, .int (if (xb * xb) = ((3 * xa) * xc) then (if (xc * xc) = ((3 * xb) * xd) then (if (xb * xc) = ((9 * xa) * xd) then 1 else 0) else 0) else 0))] → W p l e R s m args below meth c H locs 0 0 Q (F0 m 136 ls [.int v22]) := by
            clear hP hD hS hl
            intro v22 H locs ls ev22
            rw [ev22]
            clear ev22
            intro hP hD hS hl
            have hF : f_X7_linesOfCubic xa xb xc xd = (if ((if (xb * xb) = ((3 * xa) * xc) then (if (xc * xc) = ((3 * xb) * xd) then (if (xb * xc) = ((9 * xa) * xd) then 1 else 0) else 0) else 0) : Int32) = 0 then 2 else 1) := hF
            rw [hF] at hQ
            exact hQ _ _ _ _ dX7_linesOfCubic_136 hP hS
          refine lv_if_eq (tgt := 135) hx hb dX7_linesOfCubic_128 (by decide) (fun hc21 => ?_) (fun hc21 => ?_)
          · refine lv_iconst (v := 2) hx hb dX7_linesOfCubic_135 (by decide) ?_
            exact J23 _ _ _ _ ((if_pos hc21).symm) hP hD hS (lv_sub hl [1, 2, 3, 4, 5, 0] rfl)
          · refine lv_iconst (v := 1) hx hb dX7_linesOfCubic_131 (by decide) ?_
            refine lv_goto (tgt := 136) hx hb dX7_linesOfCubic_132 (by decide) ?_
            exact J23 _ _ _ _ ((if_neg hc21).symm) hP hD hS (lv_sub hl [1, 2, 3, 4, 5, 0] rfl)
        refine lv_icmp_ne (tgt := 123) hx hb dX7_linesOfCubic_93 (by decide) (fun hc16 => ?_) (fun hc16 => ?_)
        · refine lv_iconst (v := 0) hx hb dX7_linesOfCubic_123 (by decide) ?_
          exact J20 _ _ _ _ ((if_neg hc16).symm) hP hD hS (lv_sub hl [1, 2, 3, 4, 0] rfl)
        · refine lv_iload_n hx hb dX7_linesOfCubic_96 rfl (lv_at hl 3 rfl) ?_
          refine lv_iload_n hx hb dX7_linesOfCubic_97 rfl (lv_at hl 3 rfl) ?_
          refine lv_imul hx hb dX7_linesOfCubic_98 ?_
          refine lv_iconst (v := 3) hx hb dX7_linesOfCubic_99 (by decide) ?_
          refine lv_iload_n hx hb dX7_linesOfCubic_100 rfl (lv_at hl 2 rfl) ?_
          refine lv_imul hx hb dX7_linesOfCubic_101 ?_
          refine lv_iload_n hx hb dX7_linesOfCubic_102 rfl (lv_at hl 4 rfl) ?_
          refine lv_imul hx hb dX7_linesOfCubic_103 ?_
          refine lv_icmp_ne (tgt := 123) hx hb dX7_linesOfCubic_104 (by decide) (fun hc17 => ?_) (fun hc17 => ?_)
          · refine lv_iconst (v := 0) hx hb dX7_linesOfCubic_123 (by decide) ?_
            exact J20 _ _ _ _ (((if_pos hc16).trans (if_neg hc17)).symm) hP hD hS (lv_sub hl [1, 2, 3, 4, 0] rfl)
          · refine lv_iload_n hx hb dX7_linesOfCubic_107 rfl (lv_at hl 2 rfl) ?_
            refine lv_iload_n hx hb dX7_linesOfCubic_108 rfl (lv_at hl 3 rfl) ?_
            refine lv_imul hx hb dX7_linesOfCubic_109 ?_
            refine lv_bipush (v := 9) hx hb dX7_linesOfCubic_110 (by decide) ?_
            refine lv_iload_n hx hb dX7_linesOfCubic_112 rfl (lv_at hl 1 rfl) ?_
            refine lv_imul hx hb dX7_linesOfCubic_113 ?_
            refine lv_iload_n hx hb dX7_linesOfCubic_114 rfl (lv_at hl 4 rfl) ?_
            refine lv_imul hx hb dX7_linesOfCubic_115 ?_
            refine lv_icmp_ne (tgt := 123) hx hb dX7_linesOfCubic_116 (by decide) (fun hc18 => ?_) (fun hc18 => ?_)
            · refine lv_iconst (v := 0) hx hb dX7_linesOfCubic_123 (by decide) ?_
              exact J20 _ _ _ _ (((if_pos hc16).trans ((if_pos hc17).trans (if_neg hc18))).symm) hP hD hS (lv_sub hl [1, 2, 3, 4, 0] rfl)
            · refine lv_iconst (v := 1) hx hb dX7_linesOfCubic_119 (by decide) ?_
              refine lv_goto (tgt := 124) hx hb dX7_linesOfCubic_120 (by decide) ?_
              exact J20 _ _ _ _ (((if_pos hc16).trans ((if_pos hc17).trans (if_pos hc18))).symm) hP hD hS (lv_sub hl [1, 2, 3, 4, 0] rfl)
      · replace hF := hF.trans (if_neg hc15)
        refine lv_iload hx hb dX7_linesOfCubic_74 (lv_at hl 0 rfl) ?_
        have J26 : ∀ (v25 : Int32) (H : Heap) (locs : List Loc) (ls : Array Slot), v25 = (if (((((((xb * xb) * xc) * xc) - ((((4 * xa) * xc) * xc) * xc)) - ((((4 * xb) * xb) * xb) * xd)) - ((((27 * xa) * xa) * xd) * xd)) + ((((18 * xa) * xb) * xc) * xd)) ≤ 0 then 1 else 3) → va_P D vwCl [] H → va_D A [] → va_S A s.heap H locs → lv_has ls 6 [(0, .int xa), (1, .int xb), (2, .int xc), (3, .int xd), (4, .int (((((((xb * xb) * xc) * xc) - ((((4 * xa) * xc) * xc) * xc)) - ((((4 * xb) * xb) * xb) * xd)) - ((((27 * xa) * xa) * xd) * xd)) + ((((18 * xa) * xb) * xc) * xd)))] → W p l e R s m args below meth c H locs 0 0 Q (F0 m 84 ls [.int v25]) := by
          clear hP hD hS hl
          intro v25 H locs ls ev25
          rw [ev25]
          clear ev25
          intro hP hD hS hl
          have hF : f_X7_linesOfCubic xa xb xc xd = (if (((((((xb * xb) * xc) * xc) - ((((4 * xa) * xc) * xc) * xc)) - ((((4 * xb) * xb) * xb) * xd)) - ((((27 * xa) * xa) * xd) * xd)) + ((((18 * xa) * xb) * xc) * xd)) ≤ 0 then 1 else 3) := hF
          rw [hF] at hQ
          exact hQ _ _ _ _ dX7_linesOfCubic_84 hP hS
        refine lv_if_le (tgt := 83) hx hb dX7_linesOfCubic_76 (by decide) (fun hc24 => ?_) (fun hc24 => ?_)
        · refine lv_iconst (v := 1) hx hb dX7_linesOfCubic_83 (by decide) ?_
          exact J26 _ _ _ _ ((if_pos hc24).symm) hP hD hS (lv_sub hl [1, 2, 3, 4, 0] rfl)
        · refine lv_iconst (v := 3) hx hb dX7_linesOfCubic_79 (by decide) ?_
          refine lv_goto (tgt := 84) hx hb dX7_linesOfCubic_80 (by decide) ?_
          exact J26 _ _ _ _ ((if_neg hc24).symm) hP hD hS (lv_sub hl [1, 2, 3, 4, 0] rfl)
    · replace hF := hF.trans (if_pos hc14)
      refine lv_iload_n hx hb dX7_linesOfCubic_8 rfl (lv_at hl 2 rfl) ?_
      refine lv_if_ne (tgt := 18) hx hb dX7_linesOfCubic_9 (by decide) (fun hc27 => ?_) (fun hc27 => ?_)
      · replace hF := hF.trans (if_neg hc27)
        refine lv_iload_n hx hb dX7_linesOfCubic_18 rfl (lv_at hl 1 rfl) ?_
        refine lv_iload_n hx hb dX7_linesOfCubic_19 rfl (lv_at hl 1 rfl) ?_
        refine lv_imul hx hb dX7_linesOfCubic_20 ?_
        refine lv_iload_n hx hb dX7_linesOfCubic_21 rfl (lv_at hl 2 rfl) ?_
        refine lv_imul hx hb dX7_linesOfCubic_22 ?_
        refine lv_iload_n hx hb dX7_linesOfCubic_23 rfl (lv_at hl 2 rfl) ?_
        refine lv_imul hx hb dX7_linesOfCubic_24 ?_
        refine lv_iconst (v := 4) hx hb dX7_linesOfCubic_25 (by decide) ?_
        refine lv_iload_n hx hb dX7_linesOfCubic_26 rfl (lv_at hl 0 rfl) ?_
        refine lv_imul hx hb dX7_linesOfCubic_27 ?_
        refine lv_iload_n hx hb dX7_linesOfCubic_28 rfl (lv_at hl 2 rfl) ?_
        refine lv_imul hx hb dX7_linesOfCubic_29 ?_
        refine lv_iload_n hx hb dX7_linesOfCubic_30 rfl (lv_at hl 2 rfl) ?_
        refine lv_imul hx hb dX7_linesOfCubic_31 ?_
        refine lv_iload_n hx hb dX7_linesOfCubic_32 rfl (lv_at hl 2 rfl) ?_
        refine lv_imul hx hb dX7_linesOfCubic_33 ?_
        refine lv_isub hx hb dX7_linesOfCubic_34 ?_
        refine lv_iconst (v := 4) hx hb dX7_linesOfCubic_35 (by decide) ?_
        refine lv_iload_n hx hb dX7_linesOfCubic_36 rfl (lv_at hl 1 rfl) ?_
        refine lv_imul hx hb dX7_linesOfCubic_37 ?_
        refine lv_iload_n hx hb dX7_linesOfCubic_38 rfl (lv_at hl 1 rfl) ?_
        refine lv_imul hx hb dX7_linesOfCubic_39 ?_
        refine lv_iload_n hx hb dX7_linesOfCubic_40 rfl (lv_at hl 1 rfl) ?_
        refine lv_imul hx hb dX7_linesOfCubic_41 ?_
        refine lv_iload_n hx hb dX7_linesOfCubic_42 rfl (lv_at hl 3 rfl) ?_
        refine lv_imul hx hb dX7_linesOfCubic_43 ?_
        refine lv_isub hx hb dX7_linesOfCubic_44 ?_
        refine lv_bipush (v := 27) hx hb dX7_linesOfCubic_45 (by decide) ?_
        refine lv_iload_n hx hb dX7_linesOfCubic_47 rfl (lv_at hl 0 rfl) ?_
        refine lv_imul hx hb dX7_linesOfCubic_48 ?_
        refine lv_iload_n hx hb dX7_linesOfCubic_49 rfl (lv_at hl 0 rfl) ?_
        refine lv_imul hx hb dX7_linesOfCubic_50 ?_
        refine lv_iload_n hx hb dX7_linesOfCubic_51 rfl (lv_at hl 3 rfl) ?_
        refine lv_imul hx hb dX7_linesOfCubic_52 ?_
        refine lv_iload_n hx hb dX7_linesOfCubic_53 rfl (lv_at hl 3 rfl) ?_
        refine lv_imul hx hb dX7_linesOfCubic_54 ?_
        refine lv_isub hx hb dX7_linesOfCubic_55 ?_
        refine lv_bipush (v := 18) hx hb dX7_linesOfCubic_56 (by decide) ?_
        refine lv_iload_n hx hb dX7_linesOfCubic_58 rfl (lv_at hl 0 rfl) ?_
        refine lv_imul hx hb dX7_linesOfCubic_59 ?_
        refine lv_iload_n hx hb dX7_linesOfCubic_60 rfl (lv_at hl 1 rfl) ?_
        refine lv_imul hx hb dX7_linesOfCubic_61 ?_
        refine lv_iload_n hx hb dX7_linesOfCubic_62 rfl (lv_at hl 2 rfl) ?_
        refine lv_imul hx hb dX7_linesOfCubic_63 ?_
        refine lv_iload_n hx hb dX7_linesOfCubic_64 rfl (lv_at hl 3 rfl) ?_
        refine lv_imul hx hb dX7_linesOfCubic_65 ?_
        refine lv_iadd hx hb dX7_linesOfCubic_66 ?_
        refine lv_istore (lv' := [(4, .int (((((((xb * xb) * xc) * xc) - ((((4 * xa) * xc) * xc) * xc)) - ((((4 * xb) * xb) * xb) * xd)) - ((((27 * xa) * xa) * xd) * xd)) + ((((18 * xa) * xb) * xc) * xd))), (0, .int xa), (1, .int xb), (2, .int xc), (3, .int xd)]) hx hb dX7_linesOfCubic_67 hl (by decide) rfl (fun ls hl9 => ?_)
        replace hl := hl9
        clear hl9
        refine lv_iload hx hb dX7_linesOfCubic_69 (lv_at hl 0 rfl) ?_
        refine lv_if_eq (tgt := 85) hx hb dX7_linesOfCubic_71 (by decide) (fun hc28 => ?_) (fun hc28 => ?_)
        · replace hF := hF.trans (if_pos hc28)
          refine lv_iload_n hx hb dX7_linesOfCubic_85 rfl (lv_at hl 2 rfl) ?_
          refine lv_iload_n hx hb dX7_linesOfCubic_86 rfl (lv_at hl 2 rfl) ?_
          refine lv_imul hx hb dX7_linesOfCubic_87 ?_
          refine lv_iconst (v := 3) hx hb dX7_linesOfCubic_88 (by decide) ?_
          refine lv_iload_n hx hb dX7_linesOfCubic_89 rfl (lv_at hl 1 rfl) ?_
          refine lv_imul hx hb dX7_linesOfCubic_90 ?_
          refine lv_iload_n hx hb dX7_linesOfCubic_91 rfl (lv_at hl 3 rfl) ?_
          refine lv_imul hx hb dX7_linesOfCubic_92 ?_
          have J33 : ∀ (v32 : Int32) (H : Heap) (locs : List Loc) (ls : Array Slot), v32 = (if (xb * xb) = ((3 * xa) * xc) then (if (xc * xc) = ((3 * xb) * xd) then (if (xb * xc) = ((9 * xa) * xd) then 1 else 0) else 0) else 0) → va_P D vwCl [] H → va_D A [] → va_S A s.heap H locs → lv_has ls 6 [(0, .int xa), (1, .int xb), (2, .int xc), (3, .int xd), (4, .int (((((((xb * xb) * xc) * xc) - ((((4 * xa) * xc) * xc) * xc)) - ((((4 * xb) * xb) * xb) * xd)) - ((((27 * xa) * xa) * xd) * xd)) + ((((18 * xa) * xb) * xc) * xd)))] → W p l e R s m args below meth c H locs 0 0 Q (F0 m 124 ls [.int v32]) := by
            clear hP hD hS hl
            intro v32 H locs ls ev32
            rw [ev32]
            clear ev32
            intro hP hD hS hl
            refine lv_istore (lv' := [(5, .int (if (xb * xb) = ((3 * xa) * xc) then (if (xc * xc) = ((3 * xb) * xd) then (if (xb * xc) = ((9 * xa) * xd) then 1 else 0) else 0) else 0)), (0, .int xa), (1, .int xb), (2, .int xc), (3, .int xd), (4, .int (((((((xb * xb) * xc) * xc) - ((((4 * xa) * xc) * xc) * xc)) - ((((4 * xb) * xb) * xb) * xd)) - ((((27 * xa) * xa) * xd) * xd)) + ((((18 * xa) * xb) * xc) * xd)))]) hx hb dX7_linesOfCubic_124 hl (by decide) rfl (fun ls hl9 => ?_)
            replace hl := hl9
            clear hl9
            refine lv_iload hx hb dX7_linesOfCubic_126 (lv_at hl 0 rfl) ?_
            have J36 : ∀ (v35 : Int32) (H : Heap) (locs : List Loc) (ls : Array Slot), v35 = (if ((if (xb * xb) = ((3 * xa) * xc) then (if (xc * xc) = ((3 * xb) * xd) then (if (xb * xc) = ((9 * xa) * xd) then 1 else 0) else 0) else 0) : Int32) = 0 then 2 else 1) → va_P D vwCl [] H → va_D A [] → va_S A s.heap H locs → lv_has ls 6 [(0, .int xa), (1, .int xb), (2, .int xc), (3, .int xd), (4, .int (((((((xb * xb) * xc) * xc) - ((((4 * xa) * xc) * xc) * xc)) - ((((4 * xb) * xb) * xb) * xd)) - ((((27 * xa) * xa) * xd) * xd)) + ((((18 * xa) * xb) * xc) * xd))), (5, .int (if (xb * xb) = ((3 * xa) * xc) then (if (xc * xc) = ((3 * xb) * xd) then (if (xb * xc) = ((9 * xa) * xd) then 1 else 0) else 0) else 0))] → W p l e R s m args below meth c H locs 0 0 Q (F0 m 136 ls [.int v35]) := by
              clear hP hD hS hl
              intro v35 H locs ls ev35
              rw [ev35]
              clear ev35
              intro hP hD hS hl
              have hF : f_X7_linesOfCubic xa xb xc xd = (if ((if (xb * xb) = ((3 * xa) * xc) then (if (xc * xc) = ((3 * xb) * xd) then (if (xb * xc) = ((9 * xa) * xd) then 1 else 0) else 0) else 0) : Int32) = 0 then 2 else 1) := hF
              rw [hF] at hQ
              exact hQ _ _ _ _ dX7_linesOfCubic_136 hP hS
            refine lv_if_eq (tgt := 135) hx hb dX7_linesOfCubic_128 (by decide) (fun hc34 => ?_) (fun hc34 => ?_)
            · refine lv_iconst (v := 2) hx hb dX7_linesOfCubic_135 (by decide) ?_
              exact J36 _ _ _ _ ((if_pos hc34).symm) hP hD hS (lv_sub hl [1, 2, 3, 4, 5, 0] rfl)
            · refine lv_iconst (v := 1) hx hb dX7_linesOfCubic_131 (by decide) ?_
              refine lv_goto (tgt := 136) hx hb dX7_linesOfCubic_132 (by decide) ?_
              exact J36 _ _ _ _ ((if_neg hc34).symm) hP hD hS (lv_sub hl [1, 2, 3, 4, 5, 0] rfl)
          refine lv_icmp_ne (tgt := 123) hx hb dX7_linesOfCubic_93 (by decide) (fun hc29 => ?_) (fun hc29 => ?_)
          · refine lv_iconst (v := 0) hx hb dX7_linesOfCubic_123 (by decide) ?_
            exact J33 _ _ _ _ ((if_neg hc29).symm) hP hD hS (lv_sub hl [1, 2, 3, 4, 0] rfl)
          · refine lv_iload_n hx hb dX7_linesOfCubic_96 rfl (lv_at hl 3 rfl) ?_
            refine lv_iload_n hx hb dX7_linesOfCubic_97 rfl (lv_at hl 3 rfl) ?_
            refine lv_imul hx hb dX7_linesOfCubic_98 ?_
            refine lv_iconst (v := 3) hx hb dX7_linesOfCubic_99 (by decide) ?_
            refine lv_iload_n hx hb dX7_linesOfCubic_100 rfl (lv_at hl 2 rfl) ?_
            refine lv_imul hx hb dX7_linesOfCubic_101 ?_
            refine lv_iload_n hx hb dX7_linesOfCubic_102 rfl (lv_at hl 4 rfl) ?_
            refine lv_imul hx hb dX7_linesOfCubic_103 ?_
            refine lv_icmp_ne (tgt := 123) hx hb dX7_linesOfCubic_104 (by decide) (fun hc30 => ?_) (fun hc30 => ?_)
            · refine lv_iconst (v := 0) hx hb dX7_linesOfCubic_123 (by decide) ?_
              exact J33 _ _ _ _ (((if_pos hc29).trans (if_neg hc30)).symm) hP hD hS (lv_sub hl [1, 2, 3, 4, 0] rfl)
            · refine lv_iload_n hx hb dX7_linesOfCubic_107 rfl (lv_at hl 2 rfl) ?_
              refine lv_iload_n hx hb dX7_linesOfCubic_108 rfl (lv_at hl 3 rfl) ?_
              refine lv_imul hx hb dX7_linesOfCubic_109 ?_
              refine lv_bipush (v := 9) hx hb dX7_linesOfCubic_110 (by decide) ?_
              refine lv_iload_n hx hb dX7_linesOfCubic_112 rfl (lv_at hl 1 rfl) ?_
              refine lv_imul hx hb dX7_linesOfCubic_113 ?_
              refine lv_iload_n hx hb dX7_linesOfCubic_114 rfl (lv_at hl 4 rfl) ?_
              refine lv_imul hx hb dX7_linesOfCubic_115 ?_
              refine lv_icmp_ne (tgt := 123) hx hb dX7_linesOfCubic_116 (by decide) (fun hc31 => ?_) (fun hc31 => ?_)
              · refine lv_iconst (v := 0) hx hb dX7_linesOfCubic_123 (by decide) ?_
                exact J33 _ _ _ _ (((if_pos hc29).trans ((if_pos hc30).trans (if_neg hc31))).symm) hP hD hS (lv_sub hl [1, 2, 3, 4, 0] rfl)
              · refine lv_iconst (v := 1) hx hb dX7_linesOfCubic_119 (by decide) ?_
                refine lv_goto (tgt := 124) hx hb dX7_linesOfCubic_120 (by decide) ?_
                exact J33 _ _ _ _ (((if_pos hc29).trans ((if_pos hc30).trans (if_pos hc31))).symm) hP hD hS (lv_sub hl [1, 2, 3, 4, 0] rfl)
        · replace hF := hF.trans (if_neg hc28)
          refine lv_iload hx hb dX7_linesOfCubic_74 (lv_at hl 0 rfl) ?_
          have J39 : ∀ (v38 : Int32) (H : Heap) (locs : List Loc) (ls : Array Slot), v38 = (if (((((((xb * xb) * xc) * xc) - ((((4 * xa) * xc) * xc) * xc)) - ((((4 * xb) * xb) * xb) * xd)) - ((((27 * xa) * xa) * xd) * xd)) + ((((18 * xa) * xb) * xc) * xd)) ≤ 0 then 1 else 3) → va_P D vwCl [] H → va_D A [] → va_S A s.heap H locs → lv_has ls 6 [(0, .int xa), (1, .int xb), (2, .int xc), (3, .int xd), (4, .int (((((((xb * xb) * xc) * xc) - ((((4 * xa) * xc) * xc) * xc)) - ((((4 * xb) * xb) * xb) * xd)) - ((((27 * xa) * xa) * xd) * xd)) + ((((18 * xa) * xb) * xc) * xd)))] → W p l e R s m args below meth c H locs 0 0 Q (F0 m 84 ls [.int v38]) := by
            clear hP hD hS hl
            intro v38 H locs ls ev38
            rw [ev38]
            clear ev38
            intro hP hD hS hl
            have hF : f_X7_linesOfCubic xa xb xc xd = (if (((((((xb * xb) * xc) * xc) - ((((4 * xa) * xc) * xc) * xc)) - ((((4 * xb) * xb) * xb) * xd)) - ((((27 * xa) * xa) * xd) * xd)) + ((((18 * xa) * xb) * xc) * xd)) ≤ 0 then 1 else 3) := hF
            rw [hF] at hQ
            exact hQ _ _ _ _ dX7_linesOfCubic_84 hP hS
          refine lv_if_le (tgt := 83) hx hb dX7_linesOfCubic_76 (by decide) (fun hc37 => ?_) (fun hc37 => ?_)
          · refine lv_iconst (v := 1) hx hb dX7_linesOfCubic_83 (by decide) ?_
            exact J39 _ _ _ _ ((if_pos hc37).symm) hP hD hS (lv_sub hl [1, 2, 3, 4, 0] rfl)
          · refine lv_iconst (v := 3) hx hb dX7_linesOfCubic_79 (by decide) ?_
            refine lv_goto (tgt := 84) hx hb dX7_linesOfCubic_80 (by decide) ?_
            exact J39 _ _ _ _ ((if_neg hc37).symm) hP hD hS (lv_sub hl [1, 2, 3, 4, 0] rfl)
      · replace hF := hF.trans (if_pos hc27)
        refine lv_iload_n hx hb dX7_linesOfCubic_12 rfl (lv_at hl 3 rfl) ?_
        refine lv_if_ne (tgt := 18) hx hb dX7_linesOfCubic_13 (by decide) (fun hc40 => ?_) (fun hc40 => ?_)
        · replace hF := hF.trans (if_neg hc40)
          refine lv_iload_n hx hb dX7_linesOfCubic_18 rfl (lv_at hl 1 rfl) ?_
          refine lv_iload_n hx hb dX7_linesOfCubic_19 rfl (lv_at hl 1 rfl) ?_
          refine lv_imul hx hb dX7_linesOfCubic_20 ?_
          refine lv_iload_n hx hb dX7_linesOfCubic_21 rfl (lv_at hl 2 rfl) ?_
          refine lv_imul hx hb dX7_linesOfCubic_22 ?_
          refine lv_iload_n hx hb dX7_linesOfCubic_23 rfl (lv_at hl 2 rfl) ?_
          refine lv_imul hx hb dX7_linesOfCubic_24 ?_
          refine lv_iconst (v := 4) hx hb dX7_linesOfCubic_25 (by decide) ?_
          refine lv_iload_n hx hb dX7_linesOfCubic_26 rfl (lv_at hl 0 rfl) ?_
          refine lv_imul hx hb dX7_linesOfCubic_27 ?_
          refine lv_iload_n hx hb dX7_linesOfCubic_28 rfl (lv_at hl 2 rfl) ?_
          refine lv_imul hx hb dX7_linesOfCubic_29 ?_
          refine lv_iload_n hx hb dX7_linesOfCubic_30 rfl (lv_at hl 2 rfl) ?_
          refine lv_imul hx hb dX7_linesOfCubic_31 ?_
          refine lv_iload_n hx hb dX7_linesOfCubic_32 rfl (lv_at hl 2 rfl) ?_
          refine lv_imul hx hb dX7_linesOfCubic_33 ?_
          refine lv_isub hx hb dX7_linesOfCubic_34 ?_
          refine lv_iconst (v := 4) hx hb dX7_linesOfCubic_35 (by decide) ?_
          refine lv_iload_n hx hb dX7_linesOfCubic_36 rfl (lv_at hl 1 rfl) ?_
          refine lv_imul hx hb dX7_linesOfCubic_37 ?_
          refine lv_iload_n hx hb dX7_linesOfCubic_38 rfl (lv_at hl 1 rfl) ?_
          refine lv_imul hx hb dX7_linesOfCubic_39 ?_
          refine lv_iload_n hx hb dX7_linesOfCubic_40 rfl (lv_at hl 1 rfl) ?_
          refine lv_imul hx hb dX7_linesOfCubic_41 ?_
          refine lv_iload_n hx hb dX7_linesOfCubic_42 rfl (lv_at hl 3 rfl) ?_
          refine lv_imul hx hb dX7_linesOfCubic_43 ?_
          refine lv_isub hx hb dX7_linesOfCubic_44 ?_
          refine lv_bipush (v := 27) hx hb dX7_linesOfCubic_45 (by decide) ?_
          refine lv_iload_n hx hb dX7_linesOfCubic_47 rfl (lv_at hl 0 rfl) ?_
          refine lv_imul hx hb dX7_linesOfCubic_48 ?_
          refine lv_iload_n hx hb dX7_linesOfCubic_49 rfl (lv_at hl 0 rfl) ?_
          refine lv_imul hx hb dX7_linesOfCubic_50 ?_
          refine lv_iload_n hx hb dX7_linesOfCubic_51 rfl (lv_at hl 3 rfl) ?_
          refine lv_imul hx hb dX7_linesOfCubic_52 ?_
          refine lv_iload_n hx hb dX7_linesOfCubic_53 rfl (lv_at hl 3 rfl) ?_
          refine lv_imul hx hb dX7_linesOfCubic_54 ?_
          refine lv_isub hx hb dX7_linesOfCubic_55 ?_
          refine lv_bipush (v := 18) hx hb dX7_linesOfCubic_56 (by decide) ?_
          refine lv_iload_n hx hb dX7_linesOfCubic_58 rfl (lv_at hl 0 rfl) ?_
          refine lv_imul hx hb dX7_linesOfCubic_59 ?_
          refine lv_iload_n hx hb dX7_linesOfCubic_60 rfl (lv_at hl 1 rfl) ?_
          refine lv_imul hx hb dX7_linesOfCubic_61 ?_
          refine lv_iload_n hx hb dX7_linesOfCubic_62 rfl (lv_at hl 2 rfl) ?_
          refine lv_imul hx hb dX7_linesOfCubic_63 ?_
          refine lv_iload_n hx hb dX7_linesOfCubic_64 rfl (lv_at hl 3 rfl) ?_
          refine lv_imul hx hb dX7_linesOfCubic_65 ?_
          refine lv_iadd hx hb dX7_linesOfCubic_66 ?_
          refine lv_istore (lv' := [(4, .int (((((((xb * xb) * xc) * xc) - ((((4 * xa) * xc) * xc) * xc)) - ((((4 * xb) * xb) * xb) * xd)) - ((((27 * xa) * xa) * xd) * xd)) + ((((18 * xa) * xb) * xc) * xd))), (0, .int xa), (1, .int xb), (2, .int xc), (3, .int xd)]) hx hb dX7_linesOfCubic_67 hl (by decide) rfl (fun ls hl9 => ?_)
          replace hl := hl9
          clear hl9
          refine lv_iload hx hb dX7_linesOfCubic_69 (lv_at hl 0 rfl) ?_
          refine lv_if_eq (tgt := 85) hx hb dX7_linesOfCubic_71 (by decide) (fun hc41 => ?_) (fun hc41 => ?_)
          · replace hF := hF.trans (if_pos hc41)
            refine lv_iload_n hx hb dX7_linesOfCubic_85 rfl (lv_at hl 2 rfl) ?_
            refine lv_iload_n hx hb dX7_linesOfCubic_86 rfl (lv_at hl 2 rfl) ?_
            refine lv_imul hx hb dX7_linesOfCubic_87 ?_
            refine lv_iconst (v := 3) hx hb dX7_linesOfCubic_88 (by decide) ?_
            refine lv_iload_n hx hb dX7_linesOfCubic_89 rfl (lv_at hl 1 rfl) ?_
            refine lv_imul hx hb dX7_linesOfCubic_90 ?_
            refine lv_iload_n hx hb dX7_linesOfCubic_91 rfl (lv_at hl 3 rfl) ?_
            refine lv_imul hx hb dX7_linesOfCubic_92 ?_
            have J46 : ∀ (v45 : Int32) (H : Heap) (locs : List Loc) (ls : Array Slot), v45 = (if (xb * xb) = ((3 * xa) * xc) then (if (xc * xc) = ((3 * xb) * xd) then (if (xb * xc) = ((9 * xa) * xd) then 1 else 0) else 0) else 0) → va_P D vwCl [] H → va_D A [] → va_S A s.heap H locs → lv_has ls 6 [(0, .int xa), (1, .int xb), (2, .int xc), (3, .int xd), (4, .int (((((((xb * xb) * xc) * xc) - ((((4 * xa) * xc) * xc) * xc)) - ((((4 * xb) * xb) * xb) * xd)) - ((((27 * xa) * xa) * xd) * xd)) + ((((18 * xa) * xb) * xc) * xd)))] → W p l e R s m args below meth c H locs 0 0 Q (F0 m 124 ls [.int v45]) := by
              clear hP hD hS hl
              intro v45 H locs ls ev45
              rw [ev45]
              clear ev45
              intro hP hD hS hl
              refine lv_istore (lv' := [(5, .int (if (xb * xb) = ((3 * xa) * xc) then (if (xc * xc) = ((3 * xb) * xd) then (if (xb * xc) = ((9 * xa) * xd) then 1 else 0) else 0) else 0)), (0, .int xa), (1, .int xb), (2, .int xc), (3, .int xd), (4, .int (((((((xb * xb) * xc) * xc) - ((((4 * xa) * xc) * xc) * xc)) - ((((4 * xb) * xb) * xb) * xd)) - ((((27 * xa) * xa) * xd) * xd)) + ((((18 * xa) * xb) * xc) * xd)))]) hx hb dX7_linesOfCubic_124 hl (by decide) rfl (fun ls hl9 => ?_)
              replace hl := hl9
              clear hl9
              refine lv_iload hx hb dX7_linesOfCubic_126 (lv_at hl 0 rfl) ?_
              have J49 : ∀ (v48 : Int32) (H : Heap) (locs : List Loc) (ls : Array Slot), v48 = (if ((if (xb * xb) = ((3 * xa) * xc) then (if (xc * xc) = ((3 * xb) * xd) then (if (xb * xc) = ((9 * xa) * xd) then 1 else 0) else 0) else 0) : Int32) = 0 then 2 else 1) → va_P D vwCl [] H → va_D A [] → va_S A s.heap H locs → lv_has ls 6 [(0, .int xa), (1, .int xb), (2, .int xc), (3, .int xd), (4, .int (((((((xb * xb) * xc) * xc) - ((((4 * xa) * xc) * xc) * xc)) - ((((4 * xb) * xb) * xb) * xd)) - ((((27 * xa) * xa) * xd) * xd)) + ((((18 * xa) * xb) * xc) * xd))), (5, .int (if (xb * xb) = ((3 * xa) * xc) then (if (xc * xc) = ((3 * xb) * xd) then (if (xb * xc) = ((9 * xa) * xd) then 1 else 0) else 0) else 0))] → W p l e R s m args below meth c H locs 0 0 Q (F0 m 136 ls [.int v48]) := by
                clear hP hD hS hl
                intro v48 H locs ls ev48
                rw [ev48]
                clear ev48
                intro hP hD hS hl
                have hF : f_X7_linesOfCubic xa xb xc xd = (if ((if (xb * xb) = ((3 * xa) * xc) then (if (xc * xc) = ((3 * xb) * xd) then (if (xb * xc) = ((9 * xa) * xd) then 1 else 0) else 0) else 0) : Int32) = 0 then 2 else 1) := hF
                rw [hF] at hQ
                exact hQ _ _ _ _ dX7_linesOfCubic_136 hP hS
              refine lv_if_eq (tgt := 135) hx hb dX7_linesOfCubic_128 (by decide) (fun hc47 => ?_) (fun hc47 => ?_)
              · refine lv_iconst (v := 2) hx hb dX7_linesOfCubic_135 (by decide) ?_
                exact J49 _ _ _ _ ((if_pos hc47).symm) hP hD hS (lv_sub hl [1, 2, 3, 4, 5, 0] rfl)
              · refine lv_iconst (v := 1) hx hb dX7_linesOfCubic_131 (by decide) ?_
                refine lv_goto (tgt := 136) hx hb dX7_linesOfCubic_132 (by decide) ?_
                exact J49 _ _ _ _ ((if_neg hc47).symm) hP hD hS (lv_sub hl [1, 2, 3, 4, 5, 0] rfl)
            refine lv_icmp_ne (tgt := 123) hx hb dX7_linesOfCubic_93 (by decide) (fun hc42 => ?_) (fun hc42 => ?_)
            · refine lv_iconst (v := 0) hx hb dX7_linesOfCubic_123 (by decide) ?_
              exact J46 _ _ _ _ ((if_neg hc42).symm) hP hD hS (lv_sub hl [1, 2, 3, 4, 0] rfl)
            · refine lv_iload_n hx hb dX7_linesOfCubic_96 rfl (lv_at hl 3 rfl) ?_
              refine lv_iload_n hx hb dX7_linesOfCubic_97 rfl (lv_at hl 3 rfl) ?_
              refine lv_imul hx hb dX7_linesOfCubic_98 ?_
              refine lv_iconst (v := 3) hx hb dX7_linesOfCubic_99 (by decide) ?_
              refine lv_iload_n hx hb dX7_linesOfCubic_100 rfl (lv_at hl 2 rfl) ?_
              refine lv_imul hx hb dX7_linesOfCubic_101 ?_
              refine lv_iload_n hx hb dX7_linesOfCubic_102 rfl (lv_at hl 4 rfl) ?_
              refine lv_imul hx hb dX7_linesOfCubic_103 ?_
              refine lv_icmp_ne (tgt := 123) hx hb dX7_linesOfCubic_104 (by decide) (fun hc43 => ?_) (fun hc43 => ?_)
              · refine lv_iconst (v := 0) hx hb dX7_linesOfCubic_123 (by decide) ?_
                exact J46 _ _ _ _ (((if_pos hc42).trans (if_neg hc43)).symm) hP hD hS (lv_sub hl [1, 2, 3, 4, 0] rfl)
              · refine lv_iload_n hx hb dX7_linesOfCubic_107 rfl (lv_at hl 2 rfl) ?_
                refine lv_iload_n hx hb dX7_linesOfCubic_108 rfl (lv_at hl 3 rfl) ?_
                refine lv_imul hx hb dX7_linesOfCubic_109 ?_
                refine lv_bipush (v := 9) hx hb dX7_linesOfCubic_110 (by decide) ?_
                refine lv_iload_n hx hb dX7_linesOfCubic_112 rfl (lv_at hl 1 rfl) ?_
                refine lv_imul hx hb dX7_linesOfCubic_113 ?_
                refine lv_iload_n hx hb dX7_linesOfCubic_114 rfl (lv_at hl 4 rfl) ?_
                refine lv_imul hx hb dX7_linesOfCubic_115 ?_
                refine lv_icmp_ne (tgt := 123) hx hb dX7_linesOfCubic_116 (by decide) (fun hc44 => ?_) (fun hc44 => ?_)
                · refine lv_iconst (v := 0) hx hb dX7_linesOfCubic_123 (by decide) ?_
                  exact J46 _ _ _ _ (((if_pos hc42).trans ((if_pos hc43).trans (if_neg hc44))).symm) hP hD hS (lv_sub hl [1, 2, 3, 4, 0] rfl)
                · refine lv_iconst (v := 1) hx hb dX7_linesOfCubic_119 (by decide) ?_
                  refine lv_goto (tgt := 124) hx hb dX7_linesOfCubic_120 (by decide) ?_
                  exact J46 _ _ _ _ (((if_pos hc42).trans ((if_pos hc43).trans (if_pos hc44))).symm) hP hD hS (lv_sub hl [1, 2, 3, 4, 0] rfl)
          · replace hF := hF.trans (if_neg hc41)
            refine lv_iload hx hb dX7_linesOfCubic_74 (lv_at hl 0 rfl) ?_
            have J52 : ∀ (v51 : Int32) (H : Heap) (locs : List Loc) (ls : Array Slot), v51 = (if (((((((xb * xb) * xc) * xc) - ((((4 * xa) * xc) * xc) * xc)) - ((((4 * xb) * xb) * xb) * xd)) - ((((27 * xa) * xa) * xd) * xd)) + ((((18 * xa) * xb) * xc) * xd)) ≤ 0 then 1 else 3) → va_P D vwCl [] H → va_D A [] → va_S A s.heap H locs → lv_has ls 6 [(0, .int xa), (1, .int xb), (2, .int xc), (3, .int xd), (4, .int (((((((xb * xb) * xc) * xc) - ((((4 * xa) * xc) * xc) * xc)) - ((((4 * xb) * xb) * xb) * xd)) - ((((27 * xa) * xa) * xd) * xd)) + ((((18 * xa) * xb) * xc) * xd)))] → W p l e R s m args below meth c H locs 0 0 Q (F0 m 84 ls [.int v51]) := by
              clear hP hD hS hl
              intro v51 H locs ls ev51
              rw [ev51]
              clear ev51
              intro hP hD hS hl
              have hF : f_X7_linesOfCubic xa xb xc xd = (if (((((((xb * xb) * xc) * xc) - ((((4 * xa) * xc) * xc) * xc)) - ((((4 * xb) * xb) * xb) * xd)) - ((((27 * xa) * xa) * xd) * xd)) + ((((18 * xa) * xb) * xc) * xd)) ≤ 0 then 1 else 3) := hF
              rw [hF] at hQ
              exact hQ _ _ _ _ dX7_linesOfCubic_84 hP hS
            refine lv_if_le (tgt := 83) hx hb dX7_linesOfCubic_76 (by decide) (fun hc50 => ?_) (fun hc50 => ?_)
            · refine lv_iconst (v := 1) hx hb dX7_linesOfCubic_83 (by decide) ?_
              exact J52 _ _ _ _ ((if_pos hc50).symm) hP hD hS (lv_sub hl [1, 2, 3, 4, 0] rfl)
            · refine lv_iconst (v := 3) hx hb dX7_linesOfCubic_79 (by decide) ?_
              refine lv_goto (tgt := 84) hx hb dX7_linesOfCubic_80 (by decide) ?_
              exact J52 _ _ _ _ ((if_neg hc50).symm) hP hD hS (lv_sub hl [1, 2, 3, 4, 0] rfl)
        · replace hF := hF.trans (if_pos hc40)
          refine lv_iconst (v := 4) hx hb dX7_linesOfCubic_16 (by decide) ?_
          have hF : f_X7_linesOfCubic xa xb xc xd = 4 := hF
          rw [hF] at hQ
          exact hQ _ _ _ _ dX7_linesOfCubic_17 hP hS

theorem kX3_squaresAt_0 : Cond.fieldLink RX3 9 "FlowPlane$Polynomial" "numbers" "[I" ∈ wsX3_squaresAt := by decide +kernel
theorem uX3_squaresAt_X3 : ∀ w ∈ u_ws RX3 TX3 1, w ∈ wsX3_squaresAt := by decide +kernel
def f_X3_squaresAt (fu : Nat → Int32) (x : Int32) (y : Int32) : Int32 := (((((fu 3) * x) * x) + (((fu 4) * x) * y)) + (((fu 5) * y) * y))
set_option maxHeartbeats 400000000 in
set_option maxRecDepth 100000 in
theorem c_X3_squaresAt (l : Launch) (D : va_G) (cy : Nat → ClassId) (ta : Nat) (tan : Nat) (fu : Nat → Int32) (x : Int32) (y : Int32) : yk_Ci l D vwCl (yk_ty cy) yX3_squaresAt wsX3_squaresAt 0 0 [.ref ta, .int x, .int y] [(ta, .inr (3, [.ref tan])), (tan, .inl (cy 0, 6, .inl fu))] (f_X3_squaresAt fu x y) [(ta, .inr (3, [.ref tan])), (tan, .inl (cy 0, 6, .inl fu))] := by
  refine yk_eI (cc := cX3_squaresAt) (maxL := 3) (by decide) rfl (Nat.le_of_ble_eq_true rfl) rfl ?_
  intro p e R s m args below meth c A Q ls H locs hx hb hml hown hts hRf hRl hA hK hG hP hD hS hl hQ
  have hP : va_P D vwCl [(ta, .inr (3, [.ref tan])), (tan, .inl (cy 0, 6, .inl fu))] H := hP
  have hl : lv_has ls 3 [(0, .ref ta), (1, .int x), (2, .int y)] := hl
  have hown : s.vm.findClass RX3 = some m.cls := hown
  have hF : (f_X3_squaresAt fu x y) = (f_X3_squaresAt fu x y) := rfl
  refine lv_aload_n hx hb dX3_squaresAt_0 rfl (lv_at hl 0 rfl) ?_
  refine va_get (D := D) (ci := 3) (v := .ref tan) (C := RX3) (T := TX3) (N := 1) hx hb hts uX3_squaresAt_X3 hown hK hP 0 rfl rfl 0 (by decide) (hts _ kX3_squaresAt_0) (fun _ h9 => h9) rfl dX3_squaresAt_1 ?_
  refine lv_iconst (v := 3) hx hb dX3_squaresAt_4 (by decide) ?_
  refine yk_ild hx hb hK hP 1 0 rfl rfl 3 (by omega) (by decide) dX3_squaresAt_5 ?_
  refine lv_iload_n hx hb dX3_squaresAt_6 rfl (lv_at hl 1 rfl) ?_
  refine lv_imul hx hb dX3_squaresAt_7 ?_
  refine lv_iload_n hx hb dX3_squaresAt_8 rfl (lv_at hl 1 rfl) ?_
  refine lv_imul hx hb dX3_squaresAt_9 ?_
  refine lv_aload_n hx hb dX3_squaresAt_10 rfl (lv_at hl 0 rfl) ?_
  refine va_get (D := D) (ci := 3) (v := .ref tan) (C := RX3) (T := TX3) (N := 1) hx hb hts uX3_squaresAt_X3 hown hK hP 0 rfl rfl 0 (by decide) (hts _ kX3_squaresAt_0) (fun _ h9 => h9) rfl dX3_squaresAt_11 ?_
  refine lv_iconst (v := 4) hx hb dX3_squaresAt_14 (by decide) ?_
  refine yk_ild hx hb hK hP 1 0 rfl rfl 4 (by omega) (by decide) dX3_squaresAt_15 ?_
  refine lv_iload_n hx hb dX3_squaresAt_16 rfl (lv_at hl 1 rfl) ?_
  refine lv_imul hx hb dX3_squaresAt_17 ?_
  refine lv_iload_n hx hb dX3_squaresAt_18 rfl (lv_at hl 2 rfl) ?_
  refine lv_imul hx hb dX3_squaresAt_19 ?_
  refine lv_iadd hx hb dX3_squaresAt_20 ?_
  refine lv_aload_n hx hb dX3_squaresAt_21 rfl (lv_at hl 0 rfl) ?_
  refine va_get (D := D) (ci := 3) (v := .ref tan) (C := RX3) (T := TX3) (N := 1) hx hb hts uX3_squaresAt_X3 hown hK hP 0 rfl rfl 0 (by decide) (hts _ kX3_squaresAt_0) (fun _ h9 => h9) rfl dX3_squaresAt_22 ?_
  refine lv_iconst (v := 5) hx hb dX3_squaresAt_25 (by decide) ?_
  refine yk_ild hx hb hK hP 1 0 rfl rfl 5 (by omega) (by decide) dX3_squaresAt_26 ?_
  refine lv_iload_n hx hb dX3_squaresAt_27 rfl (lv_at hl 2 rfl) ?_
  refine lv_imul hx hb dX3_squaresAt_28 ?_
  refine lv_iload_n hx hb dX3_squaresAt_29 rfl (lv_at hl 2 rfl) ?_
  refine lv_imul hx hb dX3_squaresAt_30 ?_
  refine lv_iadd hx hb dX3_squaresAt_31 ?_
  have hF : f_X3_squaresAt fu x y = (((((fu 3) * x) * x) + (((fu 4) * x) * y)) + (((fu 5) * y) * y)) := hF
  rw [hF] at hQ
  exact hQ _ _ _ _ dX3_squaresAt_32 hP hS

theorem kX3_at_0 : Cond.fieldLink RX3 9 "FlowPlane$Polynomial" "numbers" "[I" ∈ wsX3_at := by decide +kernel
theorem uX3_at_X3 : ∀ w ∈ u_ws RX3 TX3 1, w ∈ wsX3_at := by decide +kernel
def f_X3_at (fu : Nat → Int32) (x : Int32) (y : Int32) : Int32 := ((((fu 0) + ((fu 1) * x)) + ((fu 2) * y)) + (f_X3_squaresAt fu x y))
set_option maxHeartbeats 400000000 in
set_option maxRecDepth 100000 in
theorem c_X3_at (l : Launch) (D : va_G) (cy : Nat → ClassId) (ta : Nat) (tan : Nat) (fu : Nat → Int32) (x : Int32) (y : Int32) : yk_Ci l D vwCl (yk_ty cy) yX3_at wsX3_at 1 22 [.ref ta, .int x, .int y] [(ta, .inr (3, [.ref tan])), (tan, .inl (cy 0, 6, .inl fu))] (f_X3_at fu x y) [(ta, .inr (3, [.ref tan])), (tan, .inl (cy 0, 6, .inl fu))] := by
  refine yk_eI (cc := cX3_at) (maxL := 3) (by decide) rfl (Nat.le_of_ble_eq_true rfl) rfl ?_
  intro p e R s m args below meth c A Q ls H locs hx hb hml hown hts hRf hRl hA hK hG hP hD hS hl hQ
  have hP : va_P D vwCl [(ta, .inr (3, [.ref tan])), (tan, .inl (cy 0, 6, .inl fu))] H := hP
  have hl : lv_has ls 3 [(0, .ref ta), (1, .int x), (2, .int y)] := hl
  have hown : s.vm.findClass RX3 = some m.cls := hown
  have hF : (f_X3_at fu x y) = (f_X3_at fu x y) := rfl
  refine lv_aload_n hx hb dX3_at_0 rfl (lv_at hl 0 rfl) ?_
  refine va_get (D := D) (ci := 3) (v := .ref tan) (C := RX3) (T := TX3) (N := 1) hx hb hts uX3_at_X3 hown hK hP 0 rfl rfl 0 (by decide) (hts _ kX3_at_0) (fun _ h9 => h9) rfl dX3_at_1 ?_
  refine lv_iconst (v := 0) hx hb dX3_at_4 (by decide) ?_
  refine yk_ild hx hb hK hP 1 0 rfl rfl 0 (by omega) (by decide) dX3_at_5 ?_
  refine lv_aload_n hx hb dX3_at_6 rfl (lv_at hl 0 rfl) ?_
  refine va_get (D := D) (ci := 3) (v := .ref tan) (C := RX3) (T := TX3) (N := 1) hx hb hts uX3_at_X3 hown hK hP 0 rfl rfl 0 (by decide) (hts _ kX3_at_0) (fun _ h9 => h9) rfl dX3_at_7 ?_
  refine lv_iconst (v := 1) hx hb dX3_at_10 (by decide) ?_
  refine yk_ild hx hb hK hP 1 0 rfl rfl 1 (by omega) (by decide) dX3_at_11 ?_
  refine lv_iload_n hx hb dX3_at_12 rfl (lv_at hl 1 rfl) ?_
  refine lv_imul hx hb dX3_at_13 ?_
  refine lv_iadd hx hb dX3_at_14 ?_
  refine lv_aload_n hx hb dX3_at_15 rfl (lv_at hl 0 rfl) ?_
  refine va_get (D := D) (ci := 3) (v := .ref tan) (C := RX3) (T := TX3) (N := 1) hx hb hts uX3_at_X3 hown hK hP 0 rfl rfl 0 (by decide) (hts _ kX3_at_0) (fun _ h9 => h9) rfl dX3_at_16 ?_
  refine lv_iconst (v := 2) hx hb dX3_at_19 (by decide) ?_
  refine yk_ild hx hb hK hP 1 0 rfl rfl 2 (by omega) (by decide) dX3_at_20 ?_
  refine lv_iload_n hx hb dX3_at_21 rfl (lv_at hl 2 rfl) ?_
  refine lv_imul hx hb dX3_at_22 ?_
  refine lv_iadd hx hb dX3_at_23 ?_
  refine lv_aload_n hx hb dX3_at_24 rfl (lv_at hl 0 rfl) ?_
  refine lv_iload_n hx hb dX3_at_25 rfl (lv_at hl 1 rfl) ?_
  refine lv_iload_n hx hb dX3_at_26 rfl (lv_at hl 2 rfl) ?_
  refine yk_i [0, 1] (va_runV (As := [.int x, .int y]) (rest := [.int (((fu 0) + ((fu 1) * x)) + ((fu 2) * y))]) ⟨hx, hb, hml, hown, hts⟩ (c_X3_squaresAt l D cy ta tan fu x y H.size) (cwV 2 hts gX3_at_X3_squaresAt rfl rfl rfl hv_X3_squaresAt (yk_room hRf hRl rfl rfl)) (yk_pv (q := (RX3, TX3, 1)) hG hA hS hK hP hD [0, 1] (by decide +kernel) rfl rfl rfl) rfl rfl hl.1 rfl (lv_room (Nat.le_of_ble_eq_true rfl)) dX3_at_27 ⟨Nat.zero_le _, Nat.zero_le _⟩) hP hD hS hA rfl (Eq.trans (b := [ta, tan]) rfl rfl) (fun H locs hP9 hD9 hS9 => ?_)
  replace hP : va_P D vwCl [(ta, .inr (3, [.ref tan])), (tan, .inl (cy 0, 6, .inl fu))] H := hP9
  replace hD : va_D A [(ta, .inr (3, [.ref tan])), (tan, .inl (cy 0, 6, .inl fu))] := hD9
  replace hS := hS9
  clear hP9 hD9 hS9
  refine lv_iadd hx hb dX3_at_30 ?_
  have hF : f_X3_at fu x y = ((((fu 0) + ((fu 1) * x)) + ((fu 2) * y)) + (f_X3_squaresAt fu x y)) := hF
  rw [hF] at hQ
  exact hQ _ _ _ _ dX3_at_31 hP hS

theorem kX3_byX_0 : Cond.fieldLink RX3 9 "FlowPlane$Polynomial" "numbers" "[I" ∈ wsX3_byX := by decide +kernel
theorem uX3_byX_X3 : ∀ w ∈ u_ws RX3 TX3 1, w ∈ wsX3_byX := by decide +kernel
def f_X3_byX (fu : Nat → Int32) (x : Int32) (y : Int32) : Int32 := (((fu 1) + ((2 * (fu 3)) * x)) + ((fu 4) * y))
set_option maxHeartbeats 400000000 in
set_option maxRecDepth 100000 in
theorem c_X3_byX (l : Launch) (D : va_G) (cy : Nat → ClassId) (ta : Nat) (tan : Nat) (fu : Nat → Int32) (x : Int32) (y : Int32) : yk_Ci l D vwCl (yk_ty cy) yX3_byX wsX3_byX 0 0 [.ref ta, .int x, .int y] [(ta, .inr (3, [.ref tan])), (tan, .inl (cy 0, 6, .inl fu))] (f_X3_byX fu x y) [(ta, .inr (3, [.ref tan])), (tan, .inl (cy 0, 6, .inl fu))] := by
  refine yk_eI (cc := cX3_byX) (maxL := 3) (by decide) rfl (Nat.le_of_ble_eq_true rfl) rfl ?_
  intro p e R s m args below meth c A Q ls H locs hx hb hml hown hts hRf hRl hA hK hG hP hD hS hl hQ
  have hP : va_P D vwCl [(ta, .inr (3, [.ref tan])), (tan, .inl (cy 0, 6, .inl fu))] H := hP
  have hl : lv_has ls 3 [(0, .ref ta), (1, .int x), (2, .int y)] := hl
  have hown : s.vm.findClass RX3 = some m.cls := hown
  have hF : (f_X3_byX fu x y) = (f_X3_byX fu x y) := rfl
  refine lv_aload_n hx hb dX3_byX_0 rfl (lv_at hl 0 rfl) ?_
  refine va_get (D := D) (ci := 3) (v := .ref tan) (C := RX3) (T := TX3) (N := 1) hx hb hts uX3_byX_X3 hown hK hP 0 rfl rfl 0 (by decide) (hts _ kX3_byX_0) (fun _ h9 => h9) rfl dX3_byX_1 ?_
  refine lv_iconst (v := 1) hx hb dX3_byX_4 (by decide) ?_
  refine yk_ild hx hb hK hP 1 0 rfl rfl 1 (by omega) (by decide) dX3_byX_5 ?_
  refine lv_iconst (v := 2) hx hb dX3_byX_6 (by decide) ?_
  refine lv_aload_n hx hb dX3_byX_7 rfl (lv_at hl 0 rfl) ?_
  refine va_get (D := D) (ci := 3) (v := .ref tan) (C := RX3) (T := TX3) (N := 1) hx hb hts uX3_byX_X3 hown hK hP 0 rfl rfl 0 (by decide) (hts _ kX3_byX_0) (fun _ h9 => h9) rfl dX3_byX_8 ?_
  refine lv_iconst (v := 3) hx hb dX3_byX_11 (by decide) ?_
  refine yk_ild hx hb hK hP 1 0 rfl rfl 3 (by omega) (by decide) dX3_byX_12 ?_
  refine lv_imul hx hb dX3_byX_13 ?_
  refine lv_iload_n hx hb dX3_byX_14 rfl (lv_at hl 1 rfl) ?_
  refine lv_imul hx hb dX3_byX_15 ?_
  refine lv_iadd hx hb dX3_byX_16 ?_
  refine lv_aload_n hx hb dX3_byX_17 rfl (lv_at hl 0 rfl) ?_
  refine va_get (D := D) (ci := 3) (v := .ref tan) (C := RX3) (T := TX3) (N := 1) hx hb hts uX3_byX_X3 hown hK hP 0 rfl rfl 0 (by decide) (hts _ kX3_byX_0) (fun _ h9 => h9) rfl dX3_byX_18 ?_
  refine lv_iconst (v := 4) hx hb dX3_byX_21 (by decide) ?_
  refine yk_ild hx hb hK hP 1 0 rfl rfl 4 (by omega) (by decide) dX3_byX_22 ?_
  refine lv_iload_n hx hb dX3_byX_23 rfl (lv_at hl 2 rfl) ?_
  refine lv_imul hx hb dX3_byX_24 ?_
  refine lv_iadd hx hb dX3_byX_25 ?_
  have hF : f_X3_byX fu x y = (((fu 1) + ((2 * (fu 3)) * x)) + ((fu 4) * y)) := hF
  rw [hF] at hQ
  exact hQ _ _ _ _ dX3_byX_26 hP hS

theorem kX3_byY_0 : Cond.fieldLink RX3 9 "FlowPlane$Polynomial" "numbers" "[I" ∈ wsX3_byY := by decide +kernel
theorem uX3_byY_X3 : ∀ w ∈ u_ws RX3 TX3 1, w ∈ wsX3_byY := by decide +kernel
def f_X3_byY (fu : Nat → Int32) (x : Int32) (y : Int32) : Int32 := (((fu 2) + ((fu 4) * x)) + ((2 * (fu 5)) * y))
set_option maxHeartbeats 400000000 in
set_option maxRecDepth 100000 in
theorem c_X3_byY (l : Launch) (D : va_G) (cy : Nat → ClassId) (ta : Nat) (tan : Nat) (fu : Nat → Int32) (x : Int32) (y : Int32) : yk_Ci l D vwCl (yk_ty cy) yX3_byY wsX3_byY 0 0 [.ref ta, .int x, .int y] [(ta, .inr (3, [.ref tan])), (tan, .inl (cy 0, 6, .inl fu))] (f_X3_byY fu x y) [(ta, .inr (3, [.ref tan])), (tan, .inl (cy 0, 6, .inl fu))] := by
  refine yk_eI (cc := cX3_byY) (maxL := 3) (by decide) rfl (Nat.le_of_ble_eq_true rfl) rfl ?_
  intro p e R s m args below meth c A Q ls H locs hx hb hml hown hts hRf hRl hA hK hG hP hD hS hl hQ
  have hP : va_P D vwCl [(ta, .inr (3, [.ref tan])), (tan, .inl (cy 0, 6, .inl fu))] H := hP
  have hl : lv_has ls 3 [(0, .ref ta), (1, .int x), (2, .int y)] := hl
  have hown : s.vm.findClass RX3 = some m.cls := hown
  have hF : (f_X3_byY fu x y) = (f_X3_byY fu x y) := rfl
  refine lv_aload_n hx hb dX3_byY_0 rfl (lv_at hl 0 rfl) ?_
  refine va_get (D := D) (ci := 3) (v := .ref tan) (C := RX3) (T := TX3) (N := 1) hx hb hts uX3_byY_X3 hown hK hP 0 rfl rfl 0 (by decide) (hts _ kX3_byY_0) (fun _ h9 => h9) rfl dX3_byY_1 ?_
  refine lv_iconst (v := 2) hx hb dX3_byY_4 (by decide) ?_
  refine yk_ild hx hb hK hP 1 0 rfl rfl 2 (by omega) (by decide) dX3_byY_5 ?_
  refine lv_aload_n hx hb dX3_byY_6 rfl (lv_at hl 0 rfl) ?_
  refine va_get (D := D) (ci := 3) (v := .ref tan) (C := RX3) (T := TX3) (N := 1) hx hb hts uX3_byY_X3 hown hK hP 0 rfl rfl 0 (by decide) (hts _ kX3_byY_0) (fun _ h9 => h9) rfl dX3_byY_7 ?_
  refine lv_iconst (v := 4) hx hb dX3_byY_10 (by decide) ?_
  refine yk_ild hx hb hK hP 1 0 rfl rfl 4 (by omega) (by decide) dX3_byY_11 ?_
  refine lv_iload_n hx hb dX3_byY_12 rfl (lv_at hl 1 rfl) ?_
  refine lv_imul hx hb dX3_byY_13 ?_
  refine lv_iadd hx hb dX3_byY_14 ?_
  refine lv_iconst (v := 2) hx hb dX3_byY_15 (by decide) ?_
  refine lv_aload_n hx hb dX3_byY_16 rfl (lv_at hl 0 rfl) ?_
  refine va_get (D := D) (ci := 3) (v := .ref tan) (C := RX3) (T := TX3) (N := 1) hx hb hts uX3_byY_X3 hown hK hP 0 rfl rfl 0 (by decide) (hts _ kX3_byY_0) (fun _ h9 => h9) rfl dX3_byY_17 ?_
  refine lv_iconst (v := 5) hx hb dX3_byY_20 (by decide) ?_
  refine yk_ild hx hb hK hP 1 0 rfl rfl 5 (by omega) (by decide) dX3_byY_21 ?_
  refine lv_imul hx hb dX3_byY_22 ?_
  refine lv_iload_n hx hb dX3_byY_23 rfl (lv_at hl 2 rfl) ?_
  refine lv_imul hx hb dX3_byY_24 ?_
  refine lv_iadd hx hb dX3_byY_25 ?_
  have hF : f_X3_byY fu x y = (((fu 2) + ((fu 4) * x)) + ((2 * (fu 5)) * y)) := hF
  rw [hF] at hQ
  exact hQ _ _ _ _ dX3_byY_26 hP hS

theorem kX3_hasSquares_0 : Cond.fieldLink RX3 9 "FlowPlane$Polynomial" "numbers" "[I" ∈ wsX3_hasSquares := by decide +kernel
theorem uX3_hasSquares_X3 : ∀ w ∈ u_ws RX3 TX3 1, w ∈ wsX3_hasSquares := by decide +kernel
def f_X3_hasSquares (fu : Nat → Int32) : Int32 := (if (fu 3) = 0 then (if (fu 4) = 0 then (if (fu 5) = 0 then 0 else 1) else 1) else 1)
theorem b_X3_hasSquares (fu : Nat → Int32) : (f_X3_hasSquares fu) = 0 ∨ (f_X3_hasSquares fu) = 1 := by
  unfold f_X3_hasSquares; (repeat' split) <;> first | exact Or.inl (by with_reducible rfl) | exact Or.inr (by with_reducible rfl)
set_option maxHeartbeats 400000000 in
set_option maxRecDepth 100000 in
theorem c_X3_hasSquares (l : Launch) (D : va_G) (cy : Nat → ClassId) (ta : Nat) (tan : Nat) (fu : Nat → Int32) : yk_Ci l D vwCl (yk_ty cy) yX3_hasSquares wsX3_hasSquares 0 0 [.ref ta] [(ta, .inr (3, [.ref tan])), (tan, .inl (cy 0, 6, .inl fu))] (f_X3_hasSquares fu) [(ta, .inr (3, [.ref tan])), (tan, .inl (cy 0, 6, .inl fu))] := by
  refine yk_eI (cc := cX3_hasSquares) (maxL := 1) (by decide) rfl (Nat.le_of_ble_eq_true rfl) (yk_nb (b_X3_hasSquares fu)) ?_
  intro p e R s m args below meth c A Q ls H locs hx hb hml hown hts hRf hRl hA hK hG hP hD hS hl hQ
  have hP : va_P D vwCl [(ta, .inr (3, [.ref tan])), (tan, .inl (cy 0, 6, .inl fu))] H := hP
  have hl : lv_has ls 1 [(0, .ref ta)] := hl
  have hown : s.vm.findClass RX3 = some m.cls := hown
  have hF : (f_X3_hasSquares fu) = (f_X3_hasSquares fu) := rfl
  refine lv_aload_n hx hb dX3_hasSquares_0 rfl (lv_at hl 0 rfl) ?_
  refine va_get (D := D) (ci := 3) (v := .ref tan) (C := RX3) (T := TX3) (N := 1) hx hb hts uX3_hasSquares_X3 hown hK hP 0 rfl rfl 0 (by decide) (hts _ kX3_hasSquares_0) (fun _ h9 => h9) rfl dX3_hasSquares_1 ?_
  refine lv_iconst (v := 3) hx hb dX3_hasSquares_4 (by decide) ?_
  refine yk_ild hx hb hK hP 1 0 rfl rfl 3 (by omega) (by decide) dX3_hasSquares_5 ?_
  have J5 : ∀ (v4 : Int32) (H : Heap) (locs : List Loc) (ls : Array Slot), v4 = (if (fu 3) = 0 then (if (fu 4) = 0 then (if (fu 5) = 0 then 0 else 1) else 1) else 1) → va_P D vwCl [(ta, .inr (3, [.ref tan])), (tan, .inl (cy 0, 6, .inl fu))] H → va_D A [(ta, .inr (3, [.ref tan])), (tan, .inl (cy 0, 6, .inl fu))] → va_S A s.heap H locs → lv_has ls 1 [(0, .ref ta)] → W p l e R s m args below meth c H locs 0 0 Q (F0 m 32 ls [.int v4]) := by
    clear hP hD hS hl
    intro v4 H locs ls ev4
    rw [ev4]
    clear ev4
    intro hP hD hS hl
    have hF : f_X3_hasSquares fu = (if (fu 3) = 0 then (if (fu 4) = 0 then (if (fu 5) = 0 then 0 else 1) else 1) else 1) := hF
    rw [hF] at hQ
    exact hQ _ _ _ _ dX3_hasSquares_32 hP hS
  refine lv_if_ne (tgt := 27) hx hb dX3_hasSquares_6 (by decide) (fun hc1 => ?_) (fun hc1 => ?_)
  · refine lv_iconst (v := 1) hx hb dX3_hasSquares_27 (by decide) ?_
    refine lv_goto (tgt := 32) hx hb dX3_hasSquares_28 (by decide) ?_
    exact J5 _ _ _ _ ((if_neg hc1).symm) hP hD hS (lv_sub hl [0] rfl)
  · refine lv_aload_n hx hb dX3_hasSquares_9 rfl (lv_at hl 0 rfl) ?_
    refine va_get (D := D) (ci := 3) (v := .ref tan) (C := RX3) (T := TX3) (N := 1) hx hb hts uX3_hasSquares_X3 hown hK hP 0 rfl rfl 0 (by decide) (hts _ kX3_hasSquares_0) (fun _ h9 => h9) rfl dX3_hasSquares_10 ?_
    refine lv_iconst (v := 4) hx hb dX3_hasSquares_13 (by decide) ?_
    refine yk_ild hx hb hK hP 1 0 rfl rfl 4 (by omega) (by decide) dX3_hasSquares_14 ?_
    refine lv_if_ne (tgt := 27) hx hb dX3_hasSquares_15 (by decide) (fun hc2 => ?_) (fun hc2 => ?_)
    · refine lv_iconst (v := 1) hx hb dX3_hasSquares_27 (by decide) ?_
      refine lv_goto (tgt := 32) hx hb dX3_hasSquares_28 (by decide) ?_
      exact J5 _ _ _ _ (((if_pos hc1).trans (if_neg hc2)).symm) hP hD hS (lv_sub hl [0] rfl)
    · refine lv_aload_n hx hb dX3_hasSquares_18 rfl (lv_at hl 0 rfl) ?_
      refine va_get (D := D) (ci := 3) (v := .ref tan) (C := RX3) (T := TX3) (N := 1) hx hb hts uX3_hasSquares_X3 hown hK hP 0 rfl rfl 0 (by decide) (hts _ kX3_hasSquares_0) (fun _ h9 => h9) rfl dX3_hasSquares_19 ?_
      refine lv_iconst (v := 5) hx hb dX3_hasSquares_22 (by decide) ?_
      refine yk_ild hx hb hK hP 1 0 rfl rfl 5 (by omega) (by decide) dX3_hasSquares_23 ?_
      refine lv_if_eq (tgt := 31) hx hb dX3_hasSquares_24 (by decide) (fun hc3 => ?_) (fun hc3 => ?_)
      · refine lv_iconst (v := 0) hx hb dX3_hasSquares_31 (by decide) ?_
        exact J5 _ _ _ _ (((if_pos hc1).trans ((if_pos hc2).trans (if_pos hc3))).symm) hP hD hS (lv_sub hl [0] rfl)
      · refine lv_iconst (v := 1) hx hb dX3_hasSquares_27 (by decide) ?_
        refine lv_goto (tgt := 32) hx hb dX3_hasSquares_28 (by decide) ?_
        exact J5 _ _ _ _ (((if_pos hc1).trans ((if_pos hc2).trans (if_neg hc3))).symm) hP hD hS (lv_sub hl [0] rfl)
