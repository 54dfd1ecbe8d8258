def yk_cat : List Nat → (Nat → Nat) → Nat → Nat
  | [], t, i => t i
  | a :: _, _, 0 => a
  | _ :: l, t, i + 1 => yk_cat l t i
theorem yk_if5 (f g : Nat → Nat) (h0 : f 0 = g 0) (h1 : f 1 = g 1) (h2 : f 2 = g 2) (h3 : f 3 = g 3) (h4 : f 4 = g 4) : (fun i : Nat => if i < 5 then some (f i) else none) = fun i : Nat => if i < 5 then some (g i) else none := by
  funext i
  match i with
  | 0 => rw [h0]
  | 1 => rw [h1]
  | 2 => rw [h2]
  | 3 => rw [h3]
  | 4 => rw [h4]
  | n + 5 => rw [if_neg (by omega), if_neg (by omega)]
theorem yk_pmP {D : va_G} {cl : List vw_C} {ws wc : va_W} {H : Heap} (isC : List Nat) (hC : isC.map (fun i => ws[i]?) = wc.map some) (hP : va_P D cl ws H) : va_P D cl wc H := by
  intro k q hq
  have h1 : (isC.map (fun i => ws[i]?))[k]? = some (some q) := by rw [hC, List.getElem?_map, hq]; rfl
  rw [List.getElem?_map] at h1
  cases hi : isC[k]? with
  | none => rw [hi] at h1; cases h1
  | some i => rw [hi] at h1; exact hP i q (Option.some.inj h1)
theorem yk_pmD {A : Nat → Prop} {ws wc : va_W} (isC : List Nat) (hn : va_nd isC = true) (hC : isC.map (fun i => ws[i]?) = wc.map some) (hD : va_D A ws) : va_D A wc := hD.sub isC hn hC
theorem kX3_init_0 : Cond.methodLink RX3 3 Lib.objectInit ∈ wsX3_init := by decide +kernel
theorem kX3_init_1 : Cond.instanceMethod Lib.objectInit ∈ wsX3_init := by decide +kernel
theorem kX3_init_2 : Cond.code Lib.objectInit ⟨#[0xb1]⟩ 1 none ∈ wsX3_init := by decide +kernel
theorem kX3_init_3 : Cond.arrayClass .int ∈ wsX3_init := by decide +kernel
theorem kX3_init_4 : Cond.fieldLink RX3 9 "FlowPlane$Polynomial" "numbers" "[I" ∈ wsX3_init := by decide +kernel
theorem uX3_init_X3 : ∀ w ∈ u_ws RX3 TX3 1, w ∈ wsX3_init := by decide +kernel
theorem hs_X3_init : yX3_init.cls ≠ "java/lang/invoke/MethodHandle" ∧ yX3_init.cls ≠ "java/lang/invoke/VarHandle" ∧ (parseMethodDescriptor yX3_init.desc).map (fun d => d.parameters.length) = some 0 := by decide +kernel
def w1_X3 (cy : Nat → ClassId) (ta : Nat) (u : Nat → Nat) : va_W := ((ta, .inr (3, [.ref (u 0)])) :: ((u 0), .inl (cy 0, 6, .inl (fun _ => 0))) :: [])
set_option maxHeartbeats 400000000 in
set_option maxRecDepth 100000 in
theorem c_X3_init (l : Launch) (D : va_G) (cy : Nat → ClassId) (ta : Nat) : yk_Cn l D vwCl (yk_ty cy) yX3_init wsX3_init 1 13 1 6 [.ref ta] [(ta, .inr (3, [.null]))] (w1_X3 cy ta) := by
  refine yk_eN (cc := cX3_init) (maxL := 1) (by decide) rfl rfl (Nat.le_of_ble_eq_true rfl) ?_
  intro p e R s m args below meth c A Q ls H locs hx hb hml hown hin hts hRf hRl hRc hRs hA hK hG hN hP hD hS hl hQ
  have hP : va_P D vwCl [(ta, .inr (3, [.null]))] H := hP
  have hl : lv_has ls 1 [(0, .ref ta)] := hl
  have hown : s.vm.findClass RX3 = some m.cls := hown
  refine lv_aload_n hx hb dX3_init_0 rfl (lv_at hl 0 rfl) ?_
  refine W.objInit hx hb hown (hts _ kX3_init_0) (hts _ kX3_init_1) (hts _ kX3_init_2) rfl (hl.1.trans hml.symm) rfl dX3_init_1 (by rw [hRf]; exact Nat.le_of_ble_eq_true rfl) (by rw [hRl]; exact Nat.le_of_ble_eq_true rfl) ?_
  show W p l e R s m args below meth c H locs 0 0 Q (F0 m 4 ls [])
  refine lv_aload_n hx hb dX3_init_4 rfl (lv_at hl 0 rfl) ?_
  refine lv_bipush (v := 6) hx hb dX3_init_5 (by decide) ?_
  refine yk_newA (t0 := 0) (atype := .int) (ty := .int) (N' := 6) (cells' := 1) (slots' := 6) (a0 := (6, .inl (fun _ => 0))) hx hb (hts _ kX3_init_3) rfl (fun _ h9 => h9) hK rfl hP hD hS hA (fun c9 => yk_zi c9 6) (by decide) rfl (Nat.le_of_ble_eq_true rfl) (by rw [hRc]; exact Nat.le_of_ble_eq_true rfl) (by rw [hRs]; exact Nat.le_of_ble_eq_true rfl) rfl rfl dX3_init_7 (fun a1 H hP9 hD9 hS9 => ?_)
  replace hP : va_P D vwCl ((ta, .inr (3, [.null])) :: (a1, .inl (cy 0, 6, .inl (fun _ => 0))) :: []) H := hP9
  replace hD : va_D A ((ta, .inr (3, [.null])) :: (a1, .inl (cy 0, 6, .inl (fun _ => 0))) :: []) := hD9
  replace hS := hS9
  clear hP9 hD9 hS9
  refine va_putF (D := D) (ci := 3) (v := .ref a1) (ty := (.array .int)) (C := RX3) (T := TX3) (N := 1) hx hb hts uX3_init_X3 tyX3 tyX3_ok nmX3 hown hK hP hD hS 0 rfl rfl 0 (by decide) (hts _ kX3_init_4) (fun _ h9 => h9) rfl hin rfl (by decide +kernel) (rfl) (rfl) (Nat.le_of_ble_eq_true rfl) dX3_init_9 (fun H locs hP9 hD9 hS9 => ?_)
  replace hP : va_P D vwCl ((ta, .inr (3, [.ref a1])) :: (a1, .inl (cy 0, 6, .inl (fun _ => 0))) :: []) H := hP9
  replace hD : va_D A ((ta, .inr (3, [.ref a1])) :: (a1, .inl (cy 0, 6, .inl (fun _ => 0))) :: []) := hD9
  replace hS := hS9
  clear hP9 hD9 hS9
  exact hQ _ _ _ _ (yk_cat (a1 :: []) (fun i => 0)) dX3_init_12 hP hD hS
theorem kX1_init_0 : Cond.methodLink RX1 3 Lib.objectInit ∈ wsX1_init := by decide +kernel
theorem kX1_init_1 : Cond.instanceMethod Lib.objectInit ∈ wsX1_init := by decide +kernel
theorem kX1_init_2 : Cond.code Lib.objectInit ⟨#[0xb1]⟩ 1 none ∈ wsX1_init := by decide +kernel
theorem kX1_init_3 : Cond.classLink RX1 9 RX3 ∈ wsX1_init := by decide +kernel
theorem kX1_init_4 : Cond.instantiable RX3 1 ∈ wsX1_init := by decide +kernel
theorem kX1_init_5 : Cond.initialized RX3 ∈ wsX1_init := by decide +kernel
theorem kX1_init_6 : Cond.instanceMethod yX3_init ∈ wsX1_init := by decide +kernel
theorem kX1_init_7 : Cond.fieldLink RX1 12 "FlowPlane$Flow" "p" "LFlowPlane$Polynomial;" ∈ wsX1_init := by decide +kernel
theorem kX1_init_8 : Cond.fieldLink RX1 18 "FlowPlane$Flow" "q" "LFlowPlane$Polynomial;" ∈ wsX1_init := by decide +kernel
theorem uX1_init_X3 : ∀ w ∈ u_ws RX3 TX3 1, w ∈ wsX1_init := by decide +kernel
theorem uX1_init_X1 : ∀ w ∈ u_ws RX1 TX1 2, w ∈ wsX1_init := by decide +kernel
theorem hs_X1_init : yX1_init.cls ≠ "java/lang/invoke/MethodHandle" ∧ yX1_init.cls ≠ "java/lang/invoke/VarHandle" ∧ (parseMethodDescriptor yX1_init.desc).map (fun d => d.parameters.length) = some 0 := by decide +kernel
def w1_X1 (cy : Nat → ClassId) (ta : Nat) (u : Nat → Nat) : va_W := ((ta, .inr (1, [.ref (u 0), .ref (u 2)])) :: ((u 0), .inr (3, [.ref (u 1)])) :: ((u 1), .inl (cy 0, 6, .inl (fun _ => 0))) :: ((u 2), .inr (3, [.ref (u 3)])) :: ((u 3), .inl (cy 0, 6, .inl (fun _ => 0))) :: [])
set_option maxHeartbeats 400000000 in
set_option maxRecDepth 100000 in
theorem c_X1_init (l : Launch) (D : va_G) (cy : Nat → ClassId) (ta : Nat) : yk_Cn l D vwCl (yk_ty cy) yX1_init wsX1_init 2 33 4 14 [.ref ta] [(ta, .inr (1, [.null, .null]))] (w1_X1 cy ta) := by
  refine yk_eN (cc := cX1_init) (maxL := 1) (by decide) rfl rfl (Nat.le_of_ble_eq_true rfl) ?_
  intro p e R s m args below meth c A Q ls H locs hx hb hml hown hin hts hRf hRl hRc hRs hA hK hG hN hP hD hS hl hQ
  have hP : va_P D vwCl [(ta, .inr (1, [.null, .null]))] H := hP
  have hl : lv_has ls 1 [(0, .ref ta)] := hl
  have hown : s.vm.findClass RX1 = some m.cls := hown
  refine lv_aload_n hx hb dX1_init_0 rfl (lv_at hl 0 rfl) ?_
  refine W.objInit hx hb hown (hts _ kX1_init_0) (hts _ kX1_init_1) (hts _ kX1_init_2) rfl (hl.1.trans hml.symm) rfl dX1_init_1 (by rw [hRf]; exact Nat.le_of_ble_eq_true rfl) (by rw [hRl]; exact Nat.le_of_ble_eq_true rfl) ?_
  show W p l e R s m args below meth c H locs 0 0 Q (F0 m 4 ls [])
  refine lv_aload_n hx hb dX1_init_4 rfl (lv_at hl 0 rfl) ?_
  refine yk_newO (cells' := 1) (slots' := 1) (ci := 3) (C := RX3) (T := TX3) (N := 1) (fs := [.null]) hx hb hts uX1_init_X3 tyX3 tyX3_ok hown (hts _ kX1_init_3) (hts _ kX1_init_4) (hts _ kX1_init_5) hK hP hD hS hA rfl (by intro j9 hj9; match j9, hj9 with | 0, _ => rfl) (by rw [hRc]; exact Nat.le_of_ble_eq_true rfl) (by rw [hRs]; exact Nat.le_of_ble_eq_true rfl) rfl rfl dX1_init_5 (fun a1 H hP9 hD9 hS9 => ?_)
  replace hP : va_P D vwCl ((ta, .inr (1, [.null, .null])) :: (a1, .inr (3, [.null])) :: []) H := hP9
  replace hD : va_D A ((ta, .inr (1, [.null, .null])) :: (a1, .inr (3, [.null])) :: []) := hD9
  replace hS := hS9
  clear hP9 hD9 hS9
  refine lv_dup hx hb dX1_init_8 rfl ?_
  refine yk_n (X := ((ta, .inr (1, [.null, .null])) :: [])) (x := (a1, .inr (3, [.null]))) (W1 := w1_X3 cy a1) (cells' := 2) (slots' := 7) (va_runIN (As := []) (rest := [.ref a1, .ref ta]) ⟨hx, hb, hml, hown, hts⟩ (c_X3_init l D cy a1 H.size) ⟨va_cnB 0 hts gX1_init_X3_init_n11 rfl rfl rfl hN.2.1 (hts _ kX1_init_5) hs_X3_init (yk_room hRf hRl rfl rfl), rfl, (hts _ kX1_init_6)⟩ (yk_psN (X := ((ta, .inr (1, [.null, .null])) :: [])) (x := (a1, .inr (3, [.null]))) hN hG hA hS hK hP hD) rfl rfl hl.1 rfl (lv_room (Nat.le_of_ble_eq_true rfl)) dX1_init_9 ⟨by rw [hRc]; exact Nat.le_of_ble_eq_true rfl, by rw [hRs]; exact Nat.le_of_ble_eq_true rfl⟩) hP hD hS hA rfl rfl (fun u2 H locs hP9 hD9 hS9 => ?_)
  replace hP : va_P D vwCl ((ta, .inr (1, [.null, .null])) :: (a1, .inr (3, [.ref (u2 0)])) :: ((u2 0), .inl (cy 0, 6, .inl (fun _ => 0))) :: []) H := hP9
  replace hD : va_D A ((ta, .inr (1, [.null, .null])) :: (a1, .inr (3, [.ref (u2 0)])) :: ((u2 0), .inl (cy 0, 6, .inl (fun _ => 0))) :: []) := hD9
  replace hS := hS9
  clear hP9 hD9 hS9
  refine va_putF (D := D) (ci := 1) (v := .ref a1) (ty := (.object "FlowPlane$Polynomial")) (C := RX1) (T := TX1) (N := 2) hx hb hts uX1_init_X1 tyX1 tyX1_ok nmX1 hown hK hP hD hS 0 rfl rfl 0 (by decide) (hts _ kX1_init_7) (fun _ h9 => h9) rfl hin rfl (by decide +kernel) (rfl) (rfl) (Nat.le_of_ble_eq_true rfl) dX1_init_12 (fun H locs hP9 hD9 hS9 => ?_)
  replace hP : va_P D vwCl ((ta, .inr (1, [.ref a1, .null])) :: (a1, .inr (3, [.ref (u2 0)])) :: ((u2 0), .inl (cy 0, 6, .inl (fun _ => 0))) :: []) H := hP9
  replace hD : va_D A ((ta, .inr (1, [.ref a1, .null])) :: (a1, .inr (3, [.ref (u2 0)])) :: ((u2 0), .inl (cy 0, 6, .inl (fun _ => 0))) :: []) := hD9
  replace hS := hS9
  clear hP9 hD9 hS9
  refine lv_aload_n hx hb dX1_init_15 rfl (lv_at hl 0 rfl) ?_
  refine yk_newO (cells' := 3) (slots' := 8) (ci := 3) (C := RX3) (T := TX3) (N := 1) (fs := [.null]) hx hb hts uX1_init_X3 tyX3 tyX3_ok hown (hts _ kX1_init_3) (hts _ kX1_init_4) (hts _ kX1_init_5) hK hP hD hS hA rfl (by intro j9 hj9; match j9, hj9 with | 0, _ => rfl) (by rw [hRc]; exact Nat.le_of_ble_eq_true rfl) (by rw [hRs]; exact Nat.le_of_ble_eq_true rfl) rfl rfl dX1_init_16 (fun a3 H hP9 hD9 hS9 => ?_)
  replace hP : va_P D vwCl ((ta, .inr (1, [.ref a1, .null])) :: (a1, .inr (3, [.ref (u2 0)])) :: ((u2 0), .inl (cy 0, 6, .inl (fun _ => 0))) :: (a3, .inr (3, [.null])) :: []) H := hP9
  replace hD : va_D A ((ta, .inr (1, [.ref a1, .null])) :: (a1, .inr (3, [.ref (u2 0)])) :: ((u2 0), .inl (cy 0, 6, .inl (fun _ => 0))) :: (a3, .inr (3, [.null])) :: []) := hD9
  replace hS := hS9
  clear hP9 hD9 hS9
  refine lv_dup hx hb dX1_init_19 rfl ?_
  refine yk_n (X := ((ta, .inr (1, [.ref a1, .null])) :: (a1, .inr (3, [.ref (u2 0)])) :: ((u2 0), .inl (cy 0, 6, .inl (fun _ => 0))) :: [])) (x := (a3, .inr (3, [.null]))) (W1 := w1_X3 cy a3) (cells' := 4) (slots' := 14) (va_runIN (As := []) (rest := [.ref a3, .ref ta]) ⟨hx, hb, hml, hown, hts⟩ (c_X3_init l D cy a3 H.size) ⟨va_cnB 0 hts gX1_init_X3_init_n11 rfl rfl rfl hN.2.1 (hts _ kX1_init_5) hs_X3_init (yk_room hRf hRl rfl rfl), rfl, (hts _ kX1_init_6)⟩ (yk_psN (X := ((ta, .inr (1, [.ref a1, .null])) :: (a1, .inr (3, [.ref (u2 0)])) :: ((u2 0), .inl (cy 0, 6, .inl (fun _ => 0))) :: [])) (x := (a3, .inr (3, [.null]))) hN hG hA hS hK hP hD) rfl rfl hl.1 rfl (lv_room (Nat.le_of_ble_eq_true rfl)) dX1_init_20 ⟨by rw [hRc]; exact Nat.le_of_ble_eq_true rfl, by rw [hRs]; exact Nat.le_of_ble_eq_true rfl⟩) hP hD hS hA rfl rfl (fun u4 H locs hP9 hD9 hS9 => ?_)
  replace hP : va_P D vwCl ((ta, .inr (1, [.ref a1, .null])) :: (a1, .inr (3, [.ref (u2 0)])) :: ((u2 0), .inl (cy 0, 6, .inl (fun _ => 0))) :: (a3, .inr (3, [.ref (u4 0)])) :: ((u4 0), .inl (cy 0, 6, .inl (fun _ => 0))) :: []) H := hP9
  replace hD : va_D A ((ta, .inr (1, [.ref a1, .null])) :: (a1, .inr (3, [.ref (u2 0)])) :: ((u2 0), .inl (cy 0, 6, .inl (fun _ => 0))) :: (a3, .inr (3, [.ref (u4 0)])) :: ((u4 0), .inl (cy 0, 6, .inl (fun _ => 0))) :: []) := hD9
  replace hS := hS9
  clear hP9 hD9 hS9
  refine va_putF (D := D) (ci := 1) (v := .ref a3) (ty := (.object "FlowPlane$Polynomial")) (C := RX1) (T := TX1) (N := 2) hx hb hts uX1_init_X1 tyX1 tyX1_ok nmX1 hown hK hP hD hS 0 rfl rfl 1 (by decide) (hts _ kX1_init_8) (fun _ h9 => h9) rfl hin rfl (by decide +kernel) (rfl) (rfl) (Nat.le_of_ble_eq_true rfl) dX1_init_23 (fun H locs hP9 hD9 hS9 => ?_)
  replace hP : va_P D vwCl ((ta, .inr (1, [.ref a1, .ref a3])) :: (a1, .inr (3, [.ref (u2 0)])) :: ((u2 0), .inl (cy 0, 6, .inl (fun _ => 0))) :: (a3, .inr (3, [.ref (u4 0)])) :: ((u4 0), .inl (cy 0, 6, .inl (fun _ => 0))) :: []) H := hP9
  replace hD : va_D A ((ta, .inr (1, [.ref a1, .ref a3])) :: (a1, .inr (3, [.ref (u2 0)])) :: ((u2 0), .inl (cy 0, 6, .inl (fun _ => 0))) :: (a3, .inr (3, [.ref (u4 0)])) :: ((u4 0), .inl (cy 0, 6, .inl (fun _ => 0))) :: []) := hD9
  replace hS := hS9
  clear hP9 hD9 hS9
  exact hQ _ _ _ _ (yk_cat (a1 :: (u2 0) :: a3 :: (u4 0) :: []) (fun i => 0)) dX1_init_26 hP hD hS
theorem kX0_init_0 : Cond.methodLink RX0 3 Lib.objectInit ∈ wsX0_init := by decide +kernel
theorem kX0_init_1 : Cond.instanceMethod Lib.objectInit ∈ wsX0_init := by decide +kernel
theorem kX0_init_2 : Cond.code Lib.objectInit ⟨#[0xb1]⟩ 1 none ∈ wsX0_init := by decide +kernel
theorem kX0_init_3 : Cond.arrayClass .int ∈ wsX0_init := by decide +kernel
theorem kX0_init_4 : Cond.fieldLink RX0 9 "FlowPlane$Fence" "xs" "[I" ∈ wsX0_init := by decide +kernel
theorem kX0_init_5 : Cond.fieldLink RX0 15 "FlowPlane$Fence" "ys" "[I" ∈ wsX0_init := by decide +kernel
theorem kX0_init_6 : Cond.fieldLink RX0 18 "FlowPlane$Fence" "count" "I" ∈ wsX0_init := by decide +kernel
theorem uX0_init_X0 : ∀ w ∈ u_ws RX0 TX0 3, w ∈ wsX0_init := by decide +kernel
theorem hs_X0_init : yX0_init.cls ≠ "java/lang/invoke/MethodHandle" ∧ yX0_init.cls ≠ "java/lang/invoke/VarHandle" ∧ (parseMethodDescriptor yX0_init.desc).map (fun d => d.parameters.length) = some 0 := by decide +kernel
def w1_X0 (cy : Nat → ClassId) (ta : Nat) (u : Nat → Nat) : va_W := ((ta, .inr (0, [.ref (u 0), .ref (u 1), .int 0])) :: ((u 0), .inl (cy 0, 9, .inl (fun _ => 0))) :: ((u 1), .inl (cy 0, 9, .inl (fun _ => 0))) :: [])
set_option maxHeartbeats 400000000 in
set_option maxRecDepth 100000 in
theorem c_X0_init (l : Launch) (D : va_G) (cy : Nat → ClassId) (ta : Nat) : yk_Cn l D vwCl (yk_ty cy) yX0_init wsX0_init 1 13 2 18 [.ref ta] [(ta, .inr (0, [.null, .null, .int 0]))] (w1_X0 cy ta) := by
  refine yk_eN (cc := cX0_init) (maxL := 1) (by decide) rfl rfl (Nat.le_of_ble_eq_true rfl) ?_
  intro p e R s m args below meth c A Q ls H locs hx hb hml hown hin hts hRf hRl hRc hRs hA hK hG hN hP hD hS hl hQ
  have hP : va_P D vwCl [(ta, .inr (0, [.null, .null, .int 0]))] H := hP
  have hl : lv_has ls 1 [(0, .ref ta)] := hl
  have hown : s.vm.findClass RX0 = some m.cls := hown
  refine lv_aload_n hx hb dX0_init_0 rfl (lv_at hl 0 rfl) ?_
  refine W.objInit hx hb hown (hts _ kX0_init_0) (hts _ kX0_init_1) (hts _ kX0_init_2) rfl (hl.1.trans hml.symm) rfl dX0_init_1 (by rw [hRf]; exact Nat.le_of_ble_eq_true rfl) (by rw [hRl]; exact Nat.le_of_ble_eq_true rfl) ?_
  show W p l e R s m args below meth c H locs 0 0 Q (F0 m 4 ls [])
  refine lv_aload_n hx hb dX0_init_4 rfl (lv_at hl 0 rfl) ?_
  refine lv_bipush (v := 9) hx hb dX0_init_5 (by decide) ?_
  refine yk_newA (t0 := 0) (atype := .int) (ty := .int) (N' := 9) (cells' := 1) (slots' := 9) (a0 := (9, .inl (fun _ => 0))) hx hb (hts _ kX0_init_3) rfl (fun _ h9 => h9) hK rfl hP hD hS hA (fun c9 => yk_zi c9 9) (by decide) rfl (Nat.le_of_ble_eq_true rfl) (by rw [hRc]; exact Nat.le_of_ble_eq_true rfl) (by rw [hRs]; exact Nat.le_of_ble_eq_true rfl) rfl rfl dX0_init_7 (fun a1 H hP9 hD9 hS9 => ?_)
  replace hP : va_P D vwCl ((ta, .inr (0, [.null, .null, .int 0])) :: (a1, .inl (cy 0, 9, .inl (fun _ => 0))) :: []) H := hP9
  replace hD : va_D A ((ta, .inr (0, [.null, .null, .int 0])) :: (a1, .inl (cy 0, 9, .inl (fun _ => 0))) :: []) := hD9
  replace hS := hS9
  clear hP9 hD9 hS9
  refine va_putF (D := D) (ci := 0) (v := .ref a1) (ty := (.array .int)) (C := RX0) (T := TX0) (N := 3) hx hb hts uX0_init_X0 tyX0 tyX0_ok nmX0 hown hK hP hD hS 0 rfl rfl 0 (by decide) (hts _ kX0_init_4) (fun _ h9 => h9) rfl hin rfl (by decide +kernel) (rfl) (rfl) (Nat.le_of_ble_eq_true rfl) dX0_init_9 (fun H locs hP9 hD9 hS9 => ?_)
  replace hP : va_P D vwCl ((ta, .inr (0, [.ref a1, .null, .int 0])) :: (a1, .inl (cy 0, 9, .inl (fun _ => 0))) :: []) H := hP9
  replace hD : va_D A ((ta, .inr (0, [.ref a1, .null, .int 0])) :: (a1, .inl (cy 0, 9, .inl (fun _ => 0))) :: []) := hD9
  replace hS := hS9
  clear hP9 hD9 hS9
  refine lv_aload_n hx hb dX0_init_12 rfl (lv_at hl 0 rfl) ?_
  refine lv_bipush (v := 9) hx hb dX0_init_13 (by decide) ?_
  refine yk_newA (t0 := 0) (atype := .int) (ty := .int) (N' := 9) (cells' := 2) (slots' := 18) (a0 := (9, .inl (fun _ => 0))) hx hb (hts _ kX0_init_3) rfl (fun _ h9 => h9) hK rfl hP hD hS hA (fun c9 => yk_zi c9 9) (by decide) rfl (Nat.le_of_ble_eq_true rfl) (by rw [hRc]; exact Nat.le_of_ble_eq_true rfl) (by rw [hRs]; exact Nat.le_of_ble_eq_true rfl) rfl rfl dX0_init_15 (fun a2 H hP9 hD9 hS9 => ?_)
  replace hP : va_P D vwCl ((ta, .inr (0, [.ref a1, .null, .int 0])) :: (a1, .inl (cy 0, 9, .inl (fun _ => 0))) :: (a2, .inl (cy 0, 9, .inl (fun _ => 0))) :: []) H := hP9
  replace hD : va_D A ((ta, .inr (0, [.ref a1, .null, .int 0])) :: (a1, .inl (cy 0, 9, .inl (fun _ => 0))) :: (a2, .inl (cy 0, 9, .inl (fun _ => 0))) :: []) := hD9
  replace hS := hS9
  clear hP9 hD9 hS9
  refine va_putF (D := D) (ci := 0) (v := .ref a2) (ty := (.array .int)) (C := RX0) (T := TX0) (N := 3) hx hb hts uX0_init_X0 tyX0 tyX0_ok nmX0 hown hK hP hD hS 0 rfl rfl 1 (by decide) (hts _ kX0_init_5) (fun _ h9 => h9) rfl hin rfl (by decide +kernel) (rfl) (rfl) (Nat.le_of_ble_eq_true rfl) dX0_init_17 (fun H locs hP9 hD9 hS9 => ?_)
  replace hP : va_P D vwCl ((ta, .inr (0, [.ref a1, .ref a2, .int 0])) :: (a1, .inl (cy 0, 9, .inl (fun _ => 0))) :: (a2, .inl (cy 0, 9, .inl (fun _ => 0))) :: []) H := hP9
  replace hD : va_D A ((ta, .inr (0, [.ref a1, .ref a2, .int 0])) :: (a1, .inl (cy 0, 9, .inl (fun _ => 0))) :: (a2, .inl (cy 0, 9, .inl (fun _ => 0))) :: []) := hD9
  replace hS := hS9
  clear hP9 hD9 hS9
  refine lv_aload_n hx hb dX0_init_20 rfl (lv_at hl 0 rfl) ?_
  refine lv_iconst (v := 0) hx hb dX0_init_21 (by decide) ?_
  refine va_put (D := D) (ci := 0) (v := .int 0) (ty := .int) (C := RX0) (T := TX0) (N := 3) hx hb hts uX0_init_X0 tyX0 tyX0_ok nmX0 hown hK hP hD hS 0 rfl rfl 2 (by decide) (hts _ kX0_init_6) (fun _ h9 => h9) rfl (by decide +kernel) (rfl) (rfl) (Nat.le_of_ble_eq_true rfl) dX0_init_22 (fun H locs hP9 hD9 hS9 => ?_)
  replace hP : va_P D vwCl ((ta, .inr (0, [.ref a1, .ref a2, .int 0])) :: (a1, .inl (cy 0, 9, .inl (fun _ => 0))) :: (a2, .inl (cy 0, 9, .inl (fun _ => 0))) :: []) H := hP9
  replace hD : va_D A ((ta, .inr (0, [.ref a1, .ref a2, .int 0])) :: (a1, .inl (cy 0, 9, .inl (fun _ => 0))) :: (a2, .inl (cy 0, 9, .inl (fun _ => 0))) :: []) := hD9
  replace hS := hS9
  clear hP9 hD9 hS9
  exact hQ _ _ _ _ (yk_cat (a1 :: a2 :: []) (fun i => 0)) dX0_init_25 hP hD hS
theorem kX2_init_0 : Cond.methodLink RX2 5 Lib.objectInit ∈ wsX2_init := by decide +kernel
theorem kX2_init_1 : Cond.instanceMethod Lib.objectInit ∈ wsX2_init := by decide +kernel
theorem kX2_init_2 : Cond.code Lib.objectInit ⟨#[0xb1]⟩ 1 none ∈ wsX2_init := by decide +kernel
theorem kX2_init_3 : Cond.classLink RX2 11 ("[" ++ (FieldType.array .int).toString) ∈ wsX2_init := by decide +kernel
theorem kX2_init_4 : Cond.arrayClass .int ∈ wsX2_init := by decide +kernel
theorem kX2_init_5 : Cond.fieldLink RX2 13 "FlowPlane$Past" "rows" "[[I" ∈ wsX2_init := by decide +kernel
theorem kX2_init_6 : Cond.fieldLink RX2 16 "FlowPlane$Past" "count" "I" ∈ wsX2_init := by decide +kernel
theorem kX2_init_7 : Cond.fieldLink RX2 20 "FlowPlane$Past" "latest" "I" ∈ wsX2_init := by decide +kernel
theorem uX2_init_X2 : ∀ w ∈ u_ws RX2 TX2 3, w ∈ wsX2_init := by decide +kernel
theorem hs_X2_init : yX2_init.cls ≠ "java/lang/invoke/MethodHandle" ∧ yX2_init.cls ≠ "java/lang/invoke/VarHandle" ∧ (parseMethodDescriptor yX2_init.desc).map (fun d => d.parameters.length) = some 0 := by decide +kernel
def w1_X2 (cy : Nat → ClassId) (ta : Nat) (u : Nat → Nat) : va_W := ((ta, .inr (2, [.ref (u 0), .int 0, .int 24])) :: ((u 0), .inl (cy 5, 25, .inr (.inr (.inr (.inr (fun i => if i < 25 then some (u (i + 1)) else none)))))) :: ((u 1), .inl (cy 0, 31, .inl (fun _ => 0))) :: ((u 2), .inl (cy 0, 31, .inl (fun _ => 0))) :: ((u 3), .inl (cy 0, 31, .inl (fun _ => 0))) :: ((u 4), .inl (cy 0, 31, .inl (fun _ => 0))) :: ((u 5), .inl (cy 0, 31, .inl (fun _ => 0))) :: ((u 6), .inl (cy 0, 31, .inl (fun _ => 0))) :: ((u 7), .inl (cy 0, 31, .inl (fun _ => 0))) :: ((u 8), .inl (cy 0, 31, .inl (fun _ => 0))) :: ((u 9), .inl (cy 0, 31, .inl (fun _ => 0))) :: ((u 10), .inl (cy 0, 31, .inl (fun _ => 0))) :: ((u 11), .inl (cy 0, 31, .inl (fun _ => 0))) :: ((u 12), .inl (cy 0, 31, .inl (fun _ => 0))) :: ((u 13), .inl (cy 0, 31, .inl (fun _ => 0))) :: ((u 14), .inl (cy 0, 31, .inl (fun _ => 0))) :: ((u 15), .inl (cy 0, 31, .inl (fun _ => 0))) :: ((u 16), .inl (cy 0, 31, .inl (fun _ => 0))) :: ((u 17), .inl (cy 0, 31, .inl (fun _ => 0))) :: ((u 18), .inl (cy 0, 31, .inl (fun _ => 0))) :: ((u 19), .inl (cy 0, 31, .inl (fun _ => 0))) :: ((u 20), .inl (cy 0, 31, .inl (fun _ => 0))) :: ((u 21), .inl (cy 0, 31, .inl (fun _ => 0))) :: ((u 22), .inl (cy 0, 31, .inl (fun _ => 0))) :: ((u 23), .inl (cy 0, 31, .inl (fun _ => 0))) :: ((u 24), .inl (cy 0, 31, .inl (fun _ => 0))) :: ((u 25), .inl (cy 0, 31, .inl (fun _ => 0))) :: [])
set_option maxHeartbeats 400000000 in
set_option maxRecDepth 100000 in
theorem c_X2_init (l : Launch) (D : va_G) (cy : Nat → ClassId) (ta : Nat) : yk_Cn l D vwCl (yk_ty cy) yX2_init wsX2_init 1 13 26 800 [.ref ta] [(ta, .inr (2, [.null, .int 0, .int 0]))] (w1_X2 cy ta) := by
  refine yk_eN (cc := cX2_init) (maxL := 1) (by decide) rfl rfl (Nat.le_of_ble_eq_true rfl) ?_
  intro p e R s m args below meth c A Q ls H locs hx hb hml hown hin hts hRf hRl hRc hRs hA hK hG hN hP hD hS hl hQ
  have hP : va_P D vwCl [(ta, .inr (2, [.null, .int 0, .int 0]))] H := hP
  have hl : lv_has ls 1 [(0, .ref ta)] := hl
  have hown : s.vm.findClass RX2 = some m.cls := hown
  refine lv_aload_n hx hb dX2_init_0 rfl (lv_at hl 0 rfl) ?_
  refine W.objInit hx hb hown (hts _ kX2_init_0) (hts _ kX2_init_1) (hts _ kX2_init_2) rfl (hl.1.trans hml.symm) rfl dX2_init_1 (by rw [hRf]; exact Nat.le_of_ble_eq_true rfl) (by rw [hRl]; exact Nat.le_of_ble_eq_true rfl) ?_
  show W p l e R s m args below meth c H locs 0 0 Q (F0 m 4 ls [])
  refine lv_aload_n hx hb dX2_init_4 rfl (lv_at hl 0 rfl) ?_
  refine lv_bipush (v := 25) hx hb dX2_init_5 (by decide) ?_
  refine lv_bipush (v := 31) hx hb dX2_init_7 (by decide) ?_
  refine yk_mna (t0 := 5) (t1 := 0) (ty := .int) (N' := 25) (K' := 31) (cells' := 26) (slots' := 800) (z := (31, .inl (fun _ => 0))) hx hb hown (hts _ kX2_init_3) hN.2.2.2.2.2.2.2.2.2.1 (hts _ kX2_init_4) (fun _ h9 => h9) hK rfl rfl hP hD hS hA (by decide) (by decide) rfl rfl (Nat.le_of_ble_eq_true rfl) (Nat.le_of_ble_eq_true rfl) (Nat.le_of_ble_eq_true rfl) rfl rfl (by rw [hRc]; exact Nat.le_of_ble_eq_true rfl) (by rw [hRs]; exact Nat.le_of_ble_eq_true rfl) rfl rfl (fun c9 => yk_mi c9 31) dX2_init_9 (fun a1 r1 H hP9 hD9 hS9 => ?_)
  replace hP : va_P D vwCl ((ta, .inr (2, [.null, .int 0, .int 0])) :: (a1, .inl (cy 5, 25, .inr (.inr (.inr (.inr (fun i => if i < 25 then some (r1 i) else none)))))) :: ((r1 0), .inl (cy 0, 31, .inl (fun _ => 0))) :: ((r1 1), .inl (cy 0, 31, .inl (fun _ => 0))) :: ((r1 2), .inl (cy 0, 31, .inl (fun _ => 0))) :: ((r1 3), .inl (cy 0, 31, .inl (fun _ => 0))) :: ((r1 4), .inl (cy 0, 31, .inl (fun _ => 0))) :: ((r1 5), .inl (cy 0, 31, .inl (fun _ => 0))) :: ((r1 6), .inl (cy 0, 31, .inl (fun _ => 0))) :: ((r1 7), .inl (cy 0, 31, .inl (fun _ => 0))) :: ((r1 8), .inl (cy 0, 31, .inl (fun _ => 0))) :: ((r1 9), .inl (cy 0, 31, .inl (fun _ => 0))) :: ((r1 10), .inl (cy 0, 31, .inl (fun _ => 0))) :: ((r1 11), .inl (cy 0, 31, .inl (fun _ => 0))) :: ((r1 12), .inl (cy 0, 31, .inl (fun _ => 0))) :: ((r1 13), .inl (cy 0, 31, .inl (fun _ => 0))) :: ((r1 14), .inl (cy 0, 31, .inl (fun _ => 0))) :: ((r1 15), .inl (cy 0, 31, .inl (fun _ => 0))) :: ((r1 16), .inl (cy 0, 31, .inl (fun _ => 0))) :: ((r1 17), .inl (cy 0, 31, .inl (fun _ => 0))) :: ((r1 18), .inl (cy 0, 31, .inl (fun _ => 0))) :: ((r1 19), .inl (cy 0, 31, .inl (fun _ => 0))) :: ((r1 20), .inl (cy 0, 31, .inl (fun _ => 0))) :: ((r1 21), .inl (cy 0, 31, .inl (fun _ => 0))) :: ((r1 22), .inl (cy 0, 31, .inl (fun _ => 0))) :: ((r1 23), .inl (cy 0, 31, .inl (fun _ => 0))) :: ((r1 24), .inl (cy 0, 31, .inl (fun _ => 0))) :: []) H := hP9
  replace hD : va_D A ((ta, .inr (2, [.null, .int 0, .int 0])) :: (a1, .inl (cy 5, 25, .inr (.inr (.inr (.inr (fun i => if i < 25 then some (r1 i) else none)))))) :: ((r1 0), .inl (cy 0, 31, .inl (fun _ => 0))) :: ((r1 1), .inl (cy 0, 31, .inl (fun _ => 0))) :: ((r1 2), .inl (cy 0, 31, .inl (fun _ => 0))) :: ((r1 3), .inl (cy 0, 31, .inl (fun _ => 0))) :: ((r1 4), .inl (cy 0, 31, .inl (fun _ => 0))) :: ((r1 5), .inl (cy 0, 31, .inl (fun _ => 0))) :: ((r1 6), .inl (cy 0, 31, .inl (fun _ => 0))) :: ((r1 7), .inl (cy 0, 31, .inl (fun _ => 0))) :: ((r1 8), .inl (cy 0, 31, .inl (fun _ => 0))) :: ((r1 9), .inl (cy 0, 31, .inl (fun _ => 0))) :: ((r1 10), .inl (cy 0, 31, .inl (fun _ => 0))) :: ((r1 11), .inl (cy 0, 31, .inl (fun _ => 0))) :: ((r1 12), .inl (cy 0, 31, .inl (fun _ => 0))) :: ((r1 13), .inl (cy 0, 31, .inl (fun _ => 0))) :: ((r1 14), .inl (cy 0, 31, .inl (fun _ => 0))) :: ((r1 15), .inl (cy 0, 31, .inl (fun _ => 0))) :: ((r1 16), .inl (cy 0, 31, .inl (fun _ => 0))) :: ((r1 17), .inl (cy 0, 31, .inl (fun _ => 0))) :: ((r1 18), .inl (cy 0, 31, .inl (fun _ => 0))) :: ((r1 19), .inl (cy 0, 31, .inl (fun _ => 0))) :: ((r1 20), .inl (cy 0, 31, .inl (fun _ => 0))) :: ((r1 21), .inl (cy 0, 31, .inl (fun _ => 0))) :: ((r1 22), .inl (cy 0, 31, .inl (fun _ => 0))) :: ((r1 23), .inl (cy 0, 31, .inl (fun _ => 0))) :: ((r1 24), .inl (cy 0, 31, .inl (fun _ => 0))) :: []) := hD9
  replace hS := hS9
  clear hP9 hD9 hS9
  refine va_putF (D := D) (ci := 2) (v := .ref a1) (ty := (.array (.array .int))) (C := RX2) (T := TX2) (N := 3) hx hb hts uX2_init_X2 tyX2 tyX2_ok nmX2 hown hK hP hD hS 0 rfl rfl 0 (by decide) (hts _ kX2_init_5) (fun _ h9 => h9) rfl hin rfl (by decide +kernel) (rfl) (rfl) (Nat.le_of_ble_eq_true rfl) dX2_init_13 (fun H locs hP9 hD9 hS9 => ?_)
  replace hP : va_P D vwCl ((ta, .inr (2, [.ref a1, .int 0, .int 0])) :: (a1, .inl (cy 5, 25, .inr (.inr (.inr (.inr (fun i => if i < 25 then some (r1 i) else none)))))) :: ((r1 0), .inl (cy 0, 31, .inl (fun _ => 0))) :: ((r1 1), .inl (cy 0, 31, .inl (fun _ => 0))) :: ((r1 2), .inl (cy 0, 31, .inl (fun _ => 0))) :: ((r1 3), .inl (cy 0, 31, .inl (fun _ => 0))) :: ((r1 4), .inl (cy 0, 31, .inl (fun _ => 0))) :: ((r1 5), .inl (cy 0, 31, .inl (fun _ => 0))) :: ((r1 6), .inl (cy 0, 31, .inl (fun _ => 0))) :: ((r1 7), .inl (cy 0, 31, .inl (fun _ => 0))) :: ((r1 8), .inl (cy 0, 31, .inl (fun _ => 0))) :: ((r1 9), .inl (cy 0, 31, .inl (fun _ => 0))) :: ((r1 10), .inl (cy 0, 31, .inl (fun _ => 0))) :: ((r1 11), .inl (cy 0, 31, .inl (fun _ => 0))) :: ((r1 12), .inl (cy 0, 31, .inl (fun _ => 0))) :: ((r1 13), .inl (cy 0, 31, .inl (fun _ => 0))) :: ((r1 14), .inl (cy 0, 31, .inl (fun _ => 0))) :: ((r1 15), .inl (cy 0, 31, .inl (fun _ => 0))) :: ((r1 16), .inl (cy 0, 31, .inl (fun _ => 0))) :: ((r1 17), .inl (cy 0, 31, .inl (fun _ => 0))) :: ((r1 18), .inl (cy 0, 31, .inl (fun _ => 0))) :: ((r1 19), .inl (cy 0, 31, .inl (fun _ => 0))) :: ((r1 20), .inl (cy 0, 31, .inl (fun _ => 0))) :: ((r1 21), .inl (cy 0, 31, .inl (fun _ => 0))) :: ((r1 22), .inl (cy 0, 31, .inl (fun _ => 0))) :: ((r1 23), .inl (cy 0, 31, .inl (fun _ => 0))) :: ((r1 24), .inl (cy 0, 31, .inl (fun _ => 0))) :: []) H := hP9
  replace hD : va_D A ((ta, .inr (2, [.ref a1, .int 0, .int 0])) :: (a1, .inl (cy 5, 25, .inr (.inr (.inr (.inr (fun i => if i < 25 then some (r1 i) else none)))))) :: ((r1 0), .inl (cy 0, 31, .inl (fun _ => 0))) :: ((r1 1), .inl (cy 0, 31, .inl (fun _ => 0))) :: ((r1 2), .inl (cy 0, 31, .inl (fun _ => 0))) :: ((r1 3), .inl (cy 0, 31, .inl (fun _ => 0))) :: ((r1 4), .inl (cy 0, 31, .inl (fun _ => 0))) :: ((r1 5), .inl (cy 0, 31, .inl (fun _ => 0))) :: ((r1 6), .inl (cy 0, 31, .inl (fun _ => 0))) :: ((r1 7), .inl (cy 0, 31, .inl (fun _ => 0))) :: ((r1 8), .inl (cy 0, 31, .inl (fun _ => 0))) :: ((r1 9), .inl (cy 0, 31, .inl (fun _ => 0))) :: ((r1 10), .inl (cy 0, 31, .inl (fun _ => 0))) :: ((r1 11), .inl (cy 0, 31, .inl (fun _ => 0))) :: ((r1 12), .inl (cy 0, 31, .inl (fun _ => 0))) :: ((r1 13), .inl (cy 0, 31, .inl (fun _ => 0))) :: ((r1 14), .inl (cy 0, 31, .inl (fun _ => 0))) :: ((r1 15), .inl (cy 0, 31, .inl (fun _ => 0))) :: ((r1 16), .inl (cy 0, 31, .inl (fun _ => 0))) :: ((r1 17), .inl (cy 0, 31, .inl (fun _ => 0))) :: ((r1 18), .inl (cy 0, 31, .inl (fun _ => 0))) :: ((r1 19), .inl (cy 0, 31, .inl (fun _ => 0))) :: ((r1 20), .inl (cy 0, 31, .inl (fun _ => 0))) :: ((r1 21), .inl (cy 0, 31, .inl (fun _ => 0))) :: ((r1 22), .inl (cy 0, 31, .inl (fun _ => 0))) :: ((r1 23), .inl (cy 0, 31, .inl (fun _ => 0))) :: ((r1 24), .inl (cy 0, 31, .inl (fun _ => 0))) :: []) := hD9
  replace hS := hS9
  clear hP9 hD9 hS9
  refine lv_aload_n hx hb dX2_init_16 rfl (lv_at hl 0 rfl) ?_
  refine lv_iconst (v := 0) hx hb dX2_init_17 (by decide) ?_
  refine va_put (D := D) (ci := 2) (v := .int 0) (ty := .int) (C := RX2) (T := TX2) (N := 3) hx hb hts uX2_init_X2 tyX2 tyX2_ok nmX2 hown hK hP hD hS 0 rfl rfl 1 (by decide) (hts _ kX2_init_6) (fun _ h9 => h9) rfl (by decide +kernel) (rfl) (rfl) (Nat.le_of_ble_eq_true rfl) dX2_init_18 (fun H locs hP9 hD9 hS9 => ?_)
  replace hP : va_P D vwCl ((ta, .inr (2, [.ref a1, .int 0, .int 0])) :: (a1, .inl (cy 5, 25, .inr (.inr (.inr (.inr (fun i => if i < 25 then some (r1 i) else none)))))) :: ((r1 0), .inl (cy 0, 31, .inl (fun _ => 0))) :: ((r1 1), .inl (cy 0, 31, .inl (fun _ => 0))) :: ((r1 2), .inl (cy 0, 31, .inl (fun _ => 0))) :: ((r1 3), .inl (cy 0, 31, .inl (fun _ => 0))) :: ((r1 4), .inl (cy 0, 31, .inl (fun _ => 0))) :: ((r1 5), .inl (cy 0, 31, .inl (fun _ => 0))) :: ((r1 6), .inl (cy 0, 31, .inl (fun _ => 0))) :: ((r1 7), .inl (cy 0, 31, .inl (fun _ => 0))) :: ((r1 8), .inl (cy 0, 31, .inl (fun _ => 0))) :: ((r1 9), .inl (cy 0, 31, .inl (fun _ => 0))) :: ((r1 10), .inl (cy 0, 31, .inl (fun _ => 0))) :: ((r1 11), .inl (cy 0, 31, .inl (fun _ => 0))) :: ((r1 12), .inl (cy 0, 31, .inl (fun _ => 0))) :: ((r1 13), .inl (cy 0, 31, .inl (fun _ => 0))) :: ((r1 14), .inl (cy 0, 31, .inl (fun _ => 0))) :: ((r1 15), .inl (cy 0, 31, .inl (fun _ => 0))) :: ((r1 16), .inl (cy 0, 31, .inl (fun _ => 0))) :: ((r1 17), .inl (cy 0, 31, .inl (fun _ => 0))) :: ((r1 18), .inl (cy 0, 31, .inl (fun _ => 0))) :: ((r1 19), .inl (cy 0, 31, .inl (fun _ => 0))) :: ((r1 20), .inl (cy 0, 31, .inl (fun _ => 0))) :: ((r1 21), .inl (cy 0, 31, .inl (fun _ => 0))) :: ((r1 22), .inl (cy 0, 31, .inl (fun _ => 0))) :: ((r1 23), .inl (cy 0, 31, .inl (fun _ => 0))) :: ((r1 24), .inl (cy 0, 31, .inl (fun _ => 0))) :: []) H := hP9
  replace hD : va_D A ((ta, .inr (2, [.ref a1, .int 0, .int 0])) :: (a1, .inl (cy 5, 25, .inr (.inr (.inr (.inr (fun i => if i < 25 then some (r1 i) else none)))))) :: ((r1 0), .inl (cy 0, 31, .inl (fun _ => 0))) :: ((r1 1), .inl (cy 0, 31, .inl (fun _ => 0))) :: ((r1 2), .inl (cy 0, 31, .inl (fun _ => 0))) :: ((r1 3), .inl (cy 0, 31, .inl (fun _ => 0))) :: ((r1 4), .inl (cy 0, 31, .inl (fun _ => 0))) :: ((r1 5), .inl (cy 0, 31, .inl (fun _ => 0))) :: ((r1 6), .inl (cy 0, 31, .inl (fun _ => 0))) :: ((r1 7), .inl (cy 0, 31, .inl (fun _ => 0))) :: ((r1 8), .inl (cy 0, 31, .inl (fun _ => 0))) :: ((r1 9), .inl (cy 0, 31, .inl (fun _ => 0))) :: ((r1 10), .inl (cy 0, 31, .inl (fun _ => 0))) :: ((r1 11), .inl (cy 0, 31, .inl (fun _ => 0))) :: ((r1 12), .inl (cy 0, 31, .inl (fun _ => 0))) :: ((r1 13), .inl (cy 0, 31, .inl (fun _ => 0))) :: ((r1 14), .inl (cy 0, 31, .inl (fun _ => 0))) :: ((r1 15), .inl (cy 0, 31, .inl (fun _ => 0))) :: ((r1 16), .inl (cy 0, 31, .inl (fun _ => 0))) :: ((r1 17), .inl (cy 0, 31, .inl (fun _ => 0))) :: ((r1 18), .inl (cy 0, 31, .inl (fun _ => 0))) :: ((r1 19), .inl (cy 0, 31, .inl (fun _ => 0))) :: ((r1 20), .inl (cy 0, 31, .inl (fun _ => 0))) :: ((r1 21), .inl (cy 0, 31, .inl (fun _ => 0))) :: ((r1 22), .inl (cy 0, 31, .inl (fun _ => 0))) :: ((r1 23), .inl (cy 0, 31, .inl (fun _ => 0))) :: ((r1 24), .inl (cy 0, 31, .inl (fun _ => 0))) :: []) := hD9
  replace hS := hS9
  clear hP9 hD9 hS9
  refine lv_aload_n hx hb dX2_init_21 rfl (lv_at hl 0 rfl) ?_
  refine lv_bipush (v := 24) hx hb dX2_init_22 (by decide) ?_
  refine va_put (D := D) (ci := 2) (v := .int 24) (ty := .int) (C := RX2) (T := TX2) (N := 3) hx hb hts uX2_init_X2 tyX2 tyX2_ok nmX2 hown hK hP hD hS 0 rfl rfl 2 (by decide) (hts _ kX2_init_7) (fun _ h9 => h9) rfl (by decide +kernel) (rfl) (rfl) (Nat.le_of_ble_eq_true rfl) dX2_init_24 (fun H locs hP9 hD9 hS9 => ?_)
  replace hP : va_P D vwCl ((ta, .inr (2, [.ref a1, .int 0, .int 24])) :: (a1, .inl (cy 5, 25, .inr (.inr (.inr (.inr (fun i => if i < 25 then some (r1 i) else none)))))) :: ((r1 0), .inl (cy 0, 31, .inl (fun _ => 0))) :: ((r1 1), .inl (cy 0, 31, .inl (fun _ => 0))) :: ((r1 2), .inl (cy 0, 31, .inl (fun _ => 0))) :: ((r1 3), .inl (cy 0, 31, .inl (fun _ => 0))) :: ((r1 4), .inl (cy 0, 31, .inl (fun _ => 0))) :: ((r1 5), .inl (cy 0, 31, .inl (fun _ => 0))) :: ((r1 6), .inl (cy 0, 31, .inl (fun _ => 0))) :: ((r1 7), .inl (cy 0, 31, .inl (fun _ => 0))) :: ((r1 8), .inl (cy 0, 31, .inl (fun _ => 0))) :: ((r1 9), .inl (cy 0, 31, .inl (fun _ => 0))) :: ((r1 10), .inl (cy 0, 31, .inl (fun _ => 0))) :: ((r1 11), .inl (cy 0, 31, .inl (fun _ => 0))) :: ((r1 12), .inl (cy 0, 31, .inl (fun _ => 0))) :: ((r1 13), .inl (cy 0, 31, .inl (fun _ => 0))) :: ((r1 14), .inl (cy 0, 31, .inl (fun _ => 0))) :: ((r1 15), .inl (cy 0, 31, .inl (fun _ => 0))) :: ((r1 16), .inl (cy 0, 31, .inl (fun _ => 0))) :: ((r1 17), .inl (cy 0, 31, .inl (fun _ => 0))) :: ((r1 18), .inl (cy 0, 31, .inl (fun _ => 0))) :: ((r1 19), .inl (cy 0, 31, .inl (fun _ => 0))) :: ((r1 20), .inl (cy 0, 31, .inl (fun _ => 0))) :: ((r1 21), .inl (cy 0, 31, .inl (fun _ => 0))) :: ((r1 22), .inl (cy 0, 31, .inl (fun _ => 0))) :: ((r1 23), .inl (cy 0, 31, .inl (fun _ => 0))) :: ((r1 24), .inl (cy 0, 31, .inl (fun _ => 0))) :: []) H := hP9
  replace hD : va_D A ((ta, .inr (2, [.ref a1, .int 0, .int 24])) :: (a1, .inl (cy 5, 25, .inr (.inr (.inr (.inr (fun i => if i < 25 then some (r1 i) else none)))))) :: ((r1 0), .inl (cy 0, 31, .inl (fun _ => 0))) :: ((r1 1), .inl (cy 0, 31, .inl (fun _ => 0))) :: ((r1 2), .inl (cy 0, 31, .inl (fun _ => 0))) :: ((r1 3), .inl (cy 0, 31, .inl (fun _ => 0))) :: ((r1 4), .inl (cy 0, 31, .inl (fun _ => 0))) :: ((r1 5), .inl (cy 0, 31, .inl (fun _ => 0))) :: ((r1 6), .inl (cy 0, 31, .inl (fun _ => 0))) :: ((r1 7), .inl (cy 0, 31, .inl (fun _ => 0))) :: ((r1 8), .inl (cy 0, 31, .inl (fun _ => 0))) :: ((r1 9), .inl (cy 0, 31, .inl (fun _ => 0))) :: ((r1 10), .inl (cy 0, 31, .inl (fun _ => 0))) :: ((r1 11), .inl (cy 0, 31, .inl (fun _ => 0))) :: ((r1 12), .inl (cy 0, 31, .inl (fun _ => 0))) :: ((r1 13), .inl (cy 0, 31, .inl (fun _ => 0))) :: ((r1 14), .inl (cy 0, 31, .inl (fun _ => 0))) :: ((r1 15), .inl (cy 0, 31, .inl (fun _ => 0))) :: ((r1 16), .inl (cy 0, 31, .inl (fun _ => 0))) :: ((r1 17), .inl (cy 0, 31, .inl (fun _ => 0))) :: ((r1 18), .inl (cy 0, 31, .inl (fun _ => 0))) :: ((r1 19), .inl (cy 0, 31, .inl (fun _ => 0))) :: ((r1 20), .inl (cy 0, 31, .inl (fun _ => 0))) :: ((r1 21), .inl (cy 0, 31, .inl (fun _ => 0))) :: ((r1 22), .inl (cy 0, 31, .inl (fun _ => 0))) :: ((r1 23), .inl (cy 0, 31, .inl (fun _ => 0))) :: ((r1 24), .inl (cy 0, 31, .inl (fun _ => 0))) :: []) := hD9
  replace hS := hS9
  clear hP9 hD9 hS9
  exact hQ _ _ _ _ (yk_cat (a1 :: []) (fun i => r1 i)) dX2_init_27 hP hD hS
theorem kX4_init_0 : Cond.methodLink RX4 3 Lib.objectInit ∈ wsX4_init := by decide +kernel
theorem kX4_init_1 : Cond.instanceMethod Lib.objectInit ∈ wsX4_init := by decide +kernel
theorem kX4_init_2 : Cond.code Lib.objectInit ⟨#[0xb1]⟩ 1 none ∈ wsX4_init := by decide +kernel
theorem hs_X4_init : yX4_init.cls ≠ "java/lang/invoke/MethodHandle" ∧ yX4_init.cls ≠ "java/lang/invoke/VarHandle" ∧ (parseMethodDescriptor yX4_init.desc).map (fun d => d.parameters.length) = some 0 := by decide +kernel
def w1_X4 (cy : Nat → ClassId) (ta : Nat) (u : Nat → Nat) : va_W := ((ta, .inr (4, [.long 0, .long 0, .long 0])) :: [])
set_option maxHeartbeats 400000000 in
set_option maxRecDepth 100000 in
theorem c_X4_init (l : Launch) (D : va_G) (cy : Nat → ClassId) (ta : Nat) : yk_Cn l D vwCl (yk_ty cy) yX4_init wsX4_init 1 13 0 0 [.ref ta] [(ta, .inr (4, [.long 0, .long 0, .long 0]))] (w1_X4 cy ta) := by
  refine yk_eN (cc := cX4_init) (maxL := 1) (by decide) rfl rfl (Nat.le_of_ble_eq_true rfl) ?_
  intro p e R s m args below meth c A Q ls H locs hx hb hml hown hin hts hRf hRl hRc hRs hA hK hG hN hP hD hS hl hQ
  have hP : va_P D vwCl [(ta, .inr (4, [.long 0, .long 0, .long 0]))] H := hP
  have hl : lv_has ls 1 [(0, .ref ta)] := hl
  have hown : s.vm.findClass RX4 = some m.cls := hown
  refine lv_aload_n hx hb dX4_init_0 rfl (lv_at hl 0 rfl) ?_
  refine W.objInit hx hb hown (hts _ kX4_init_0) (hts _ kX4_init_1) (hts _ kX4_init_2) rfl (hl.1.trans hml.symm) rfl dX4_init_1 (by rw [hRf]; exact Nat.le_of_ble_eq_true rfl) (by rw [hRl]; exact Nat.le_of_ble_eq_true rfl) ?_
  show W p l e R s m args below meth c H locs 0 0 Q (F0 m 4 ls [])
  exact hQ _ _ _ _ (yk_cat ([]) (fun i => 0)) dX4_init_4 hP hD hS
theorem kX5_init_0 : Cond.methodLink RX5 3 Lib.objectInit ∈ wsX5_init := by decide +kernel
theorem kX5_init_1 : Cond.instanceMethod Lib.objectInit ∈ wsX5_init := by decide +kernel
theorem kX5_init_2 : Cond.code Lib.objectInit ⟨#[0xb1]⟩ 1 none ∈ wsX5_init := by decide +kernel
theorem kX5_init_3 : Cond.arrayClass .int ∈ wsX5_init := by decide +kernel
theorem kX5_init_4 : Cond.fieldLink RX5 9 "FlowPlane$Sheet" "numbers" "[I" ∈ wsX5_init := by decide +kernel
theorem kX5_init_5 : Cond.fieldLink RX5 15 "FlowPlane$Sheet" "bits" "I" ∈ wsX5_init := by decide +kernel
theorem kX5_init_6 : Cond.fieldLink RX5 19 "FlowPlane$Sheet" "size" "I" ∈ wsX5_init := by decide +kernel
theorem uX5_init_X5 : ∀ w ∈ u_ws RX5 TX5 3, w ∈ wsX5_init := by decide +kernel
theorem hs_X5_init : yX5_init.cls ≠ "java/lang/invoke/MethodHandle" ∧ yX5_init.cls ≠ "java/lang/invoke/VarHandle" ∧ (parseMethodDescriptor yX5_init.desc).map (fun d => d.parameters.length) = some 0 := by decide +kernel
def w1_X5 (cy : Nat → ClassId) (ta : Nat) (u : Nat → Nat) : va_W := ((ta, .inr (5, [.ref (u 0), .int 0, .int 0])) :: ((u 0), .inl (cy 0, 16, .inl (fun _ => 0))) :: [])
set_option maxHeartbeats 400000000 in
set_option maxRecDepth 100000 in
theorem c_X5_init (l : Launch) (D : va_G) (cy : Nat → ClassId) (ta : Nat) : yk_Cn l D vwCl (yk_ty cy) yX5_init wsX5_init 1 13 1 16 [.ref ta] [(ta, .inr (5, [.null, .int 0, .int 0]))] (w1_X5 cy ta) := by
  refine yk_eN (cc := cX5_init) (maxL := 1) (by decide) rfl rfl (Nat.le_of_ble_eq_true rfl) ?_
  intro p e R s m args below meth c A Q ls H locs hx hb hml hown hin hts hRf hRl hRc hRs hA hK hG hN hP hD hS hl hQ
  have hP : va_P D vwCl [(ta, .inr (5, [.null, .int 0, .int 0]))] H := hP
  have hl : lv_has ls 1 [(0, .ref ta)] := hl
  have hown : s.vm.findClass RX5 = some m.cls := hown
  refine lv_aload_n hx hb dX5_init_0 rfl (lv_at hl 0 rfl) ?_
  refine W.objInit hx hb hown (hts _ kX5_init_0) (hts _ kX5_init_1) (hts _ kX5_init_2) rfl (hl.1.trans hml.symm) rfl dX5_init_1 (by rw [hRf]; exact Nat.le_of_ble_eq_true rfl) (by rw [hRl]; exact Nat.le_of_ble_eq_true rfl) ?_
  show W p l e R s m args below meth c H locs 0 0 Q (F0 m 4 ls [])
  refine lv_aload_n hx hb dX5_init_4 rfl (lv_at hl 0 rfl) ?_
  refine lv_bipush (v := 16) hx hb dX5_init_5 (by decide) ?_
  refine yk_newA (t0 := 0) (atype := .int) (ty := .int) (N' := 16) (cells' := 1) (slots' := 16) (a0 := (16, .inl (fun _ => 0))) hx hb (hts _ kX5_init_3) rfl (fun _ h9 => h9) hK rfl hP hD hS hA (fun c9 => yk_zi c9 16) (by decide) rfl (Nat.le_of_ble_eq_true rfl) (by rw [hRc]; exact Nat.le_of_ble_eq_true rfl) (by rw [hRs]; exact Nat.le_of_ble_eq_true rfl) rfl rfl dX5_init_7 (fun a1 H hP9 hD9 hS9 => ?_)
  replace hP : va_P D vwCl ((ta, .inr (5, [.null, .int 0, .int 0])) :: (a1, .inl (cy 0, 16, .inl (fun _ => 0))) :: []) H := hP9
  replace hD : va_D A ((ta, .inr (5, [.null, .int 0, .int 0])) :: (a1, .inl (cy 0, 16, .inl (fun _ => 0))) :: []) := hD9
  replace hS := hS9
  clear hP9 hD9 hS9
  refine va_putF (D := D) (ci := 5) (v := .ref a1) (ty := (.array .int)) (C := RX5) (T := TX5) (N := 3) hx hb hts uX5_init_X5 tyX5 tyX5_ok nmX5 hown hK hP hD hS 0 rfl rfl 0 (by decide) (hts _ kX5_init_4) (fun _ h9 => h9) rfl hin rfl (by decide +kernel) (rfl) (rfl) (Nat.le_of_ble_eq_true rfl) dX5_init_9 (fun H locs hP9 hD9 hS9 => ?_)
  replace hP : va_P D vwCl ((ta, .inr (5, [.ref a1, .int 0, .int 0])) :: (a1, .inl (cy 0, 16, .inl (fun _ => 0))) :: []) H := hP9
  replace hD : va_D A ((ta, .inr (5, [.ref a1, .int 0, .int 0])) :: (a1, .inl (cy 0, 16, .inl (fun _ => 0))) :: []) := hD9
  replace hS := hS9
  clear hP9 hD9 hS9
  refine lv_aload_n hx hb dX5_init_12 rfl (lv_at hl 0 rfl) ?_
  refine lv_iconst (v := 0) hx hb dX5_init_13 (by decide) ?_
  refine va_put (D := D) (ci := 5) (v := .int 0) (ty := .int) (C := RX5) (T := TX5) (N := 3) hx hb hts uX5_init_X5 tyX5 tyX5_ok nmX5 hown hK hP hD hS 0 rfl rfl 1 (by decide) (hts _ kX5_init_5) (fun _ h9 => h9) rfl (by decide +kernel) (rfl) (rfl) (Nat.le_of_ble_eq_true rfl) dX5_init_14 (fun H locs hP9 hD9 hS9 => ?_)
  replace hP : va_P D vwCl ((ta, .inr (5, [.ref a1, .int 0, .int 0])) :: (a1, .inl (cy 0, 16, .inl (fun _ => 0))) :: []) H := hP9
  replace hD : va_D A ((ta, .inr (5, [.ref a1, .int 0, .int 0])) :: (a1, .inl (cy 0, 16, .inl (fun _ => 0))) :: []) := hD9
  replace hS := hS9
  clear hP9 hD9 hS9
  refine lv_aload_n hx hb dX5_init_17 rfl (lv_at hl 0 rfl) ?_
  refine lv_iconst (v := 0) hx hb dX5_init_18 (by decide) ?_
  refine va_put (D := D) (ci := 5) (v := .int 0) (ty := .int) (C := RX5) (T := TX5) (N := 3) hx hb hts uX5_init_X5 tyX5 tyX5_ok nmX5 hown hK hP hD hS 0 rfl rfl 2 (by decide) (hts _ kX5_init_6) (fun _ h9 => h9) rfl (by decide +kernel) (rfl) (rfl) (Nat.le_of_ble_eq_true rfl) dX5_init_19 (fun H locs hP9 hD9 hS9 => ?_)
  replace hP : va_P D vwCl ((ta, .inr (5, [.ref a1, .int 0, .int 0])) :: (a1, .inl (cy 0, 16, .inl (fun _ => 0))) :: []) H := hP9
  replace hD : va_D A ((ta, .inr (5, [.ref a1, .int 0, .int 0])) :: (a1, .inl (cy 0, 16, .inl (fun _ => 0))) :: []) := hD9
  replace hS := hS9
  clear hP9 hD9 hS9
  exact hQ _ _ _ _ (yk_cat (a1 :: []) (fun i => 0)) dX5_init_22 hP hD hS
theorem kX6_init_0 : Cond.methodLink RX6 3 Lib.objectInit ∈ wsX6_init := by decide +kernel
theorem kX6_init_1 : Cond.instanceMethod Lib.objectInit ∈ wsX6_init := by decide +kernel
theorem kX6_init_2 : Cond.code Lib.objectInit ⟨#[0xb1]⟩ 1 none ∈ wsX6_init := by decide +kernel
theorem kX6_init_3 : Cond.classLink RX6 9 ("[" ++ (FieldType.array .long).toString) ∈ wsX6_init := by decide +kernel
theorem kX6_init_4 : Cond.arrayClass .long ∈ wsX6_init := by decide +kernel
theorem kX6_init_5 : Cond.fieldLink RX6 11 "FlowPlane$Table" "rows" "[[J" ∈ wsX6_init := by decide +kernel
theorem uX6_init_X6 : ∀ w ∈ u_ws RX6 TX6 1, w ∈ wsX6_init := by decide +kernel
theorem hs_X6_init : yX6_init.cls ≠ "java/lang/invoke/MethodHandle" ∧ yX6_init.cls ≠ "java/lang/invoke/VarHandle" ∧ (parseMethodDescriptor yX6_init.desc).map (fun d => d.parameters.length) = some 0 := by decide +kernel
def w1_X6 (cy : Nat → ClassId) (ta : Nat) (u : Nat → Nat) : va_W := ((ta, .inr (6, [.ref (u 0)])) :: ((u 0), .inl (cy 6, 5, .inr (.inr (.inr (.inr (fun i => if i < 5 then some (u (i + 1)) else none)))))) :: ((u 1), .inl (cy 1, 10, .inr (.inl (fun _ => 0)))) :: ((u 2), .inl (cy 1, 10, .inr (.inl (fun _ => 0)))) :: ((u 3), .inl (cy 1, 10, .inr (.inl (fun _ => 0)))) :: ((u 4), .inl (cy 1, 10, .inr (.inl (fun _ => 0)))) :: ((u 5), .inl (cy 1, 10, .inr (.inl (fun _ => 0)))) :: [])
set_option maxHeartbeats 400000000 in
set_option maxRecDepth 100000 in
theorem c_X6_init (l : Launch) (D : va_G) (cy : Nat → ClassId) (ta : Nat) : yk_Cn l D vwCl (yk_ty cy) yX6_init wsX6_init 1 13 6 55 [.ref ta] [(ta, .inr (6, [.null]))] (w1_X6 cy ta) := by
  refine yk_eN (cc := cX6_init) (maxL := 1) (by decide) rfl rfl (Nat.le_of_ble_eq_true rfl) ?_
  intro p e R s m args below meth c A Q ls H locs hx hb hml hown hin hts hRf hRl hRc hRs hA hK hG hN hP hD hS hl hQ
  have hP : va_P D vwCl [(ta, .inr (6, [.null]))] H := hP
  have hl : lv_has ls 1 [(0, .ref ta)] := hl
  have hown : s.vm.findClass RX6 = some m.cls := hown
  refine lv_aload_n hx hb dX6_init_0 rfl (lv_at hl 0 rfl) ?_
  refine W.objInit hx hb hown (hts _ kX6_init_0) (hts _ kX6_init_1) (hts _ kX6_init_2) rfl (hl.1.trans hml.symm) rfl dX6_init_1 (by rw [hRf]; exact Nat.le_of_ble_eq_true rfl) (by rw [hRl]; exact Nat.le_of_ble_eq_true rfl) ?_
  show W p l e R s m args below meth c H locs 0 0 Q (F0 m 4 ls [])
  refine lv_aload_n hx hb dX6_init_4 rfl (lv_at hl 0 rfl) ?_
  refine lv_iconst (v := 5) hx hb dX6_init_5 (by decide) ?_
  refine lv_bipush (v := 10) hx hb dX6_init_6 (by decide) ?_
  refine yk_mna (t0 := 6) (t1 := 1) (ty := .long) (N' := 5) (K' := 10) (cells' := 6) (slots' := 55) (z := (10, .inr (.inl (fun _ => 0)))) hx hb hown (hts _ kX6_init_3) hN.2.2.2.2.2.2.2.2.2.2 (hts _ kX6_init_4) (fun _ h9 => h9) hK rfl rfl hP hD hS hA (by decide) (by decide) rfl rfl (Nat.le_of_ble_eq_true rfl) (Nat.le_of_ble_eq_true rfl) (Nat.le_of_ble_eq_true rfl) rfl rfl (by rw [hRc]; exact Nat.le_of_ble_eq_true rfl) (by rw [hRs]; exact Nat.le_of_ble_eq_true rfl) rfl rfl (fun c9 => yk_mj c9 10) dX6_init_8 (fun a1 r1 H hP9 hD9 hS9 => ?_)
  replace hP : va_P D vwCl ((ta, .inr (6, [.null])) :: (a1, .inl (cy 6, 5, .inr (.inr (.inr (.inr (fun i => if i < 5 then some (r1 i) else none)))))) :: ((r1 0), .inl (cy 1, 10, .inr (.inl (fun _ => 0)))) :: ((r1 1), .inl (cy 1, 10, .inr (.inl (fun _ => 0)))) :: ((r1 2), .inl (cy 1, 10, .inr (.inl (fun _ => 0)))) :: ((r1 3), .inl (cy 1, 10, .inr (.inl (fun _ => 0)))) :: ((r1 4), .inl (cy 1, 10, .inr (.inl (fun _ => 0)))) :: []) H := hP9
  replace hD : va_D A ((ta, .inr (6, [.null])) :: (a1, .inl (cy 6, 5, .inr (.inr (.inr (.inr (fun i => if i < 5 then some (r1 i) else none)))))) :: ((r1 0), .inl (cy 1, 10, .inr (.inl (fun _ => 0)))) :: ((r1 1), .inl (cy 1, 10, .inr (.inl (fun _ => 0)))) :: ((r1 2), .inl (cy 1, 10, .inr (.inl (fun _ => 0)))) :: ((r1 3), .inl (cy 1, 10, .inr (.inl (fun _ => 0)))) :: ((r1 4), .inl (cy 1, 10, .inr (.inl (fun _ => 0)))) :: []) := hD9
  replace hS := hS9
  clear hP9 hD9 hS9
  refine va_putF (D := D) (ci := 6) (v := .ref a1) (ty := (.array (.array .long))) (C := RX6) (T := TX6) (N := 1) hx hb hts uX6_init_X6 tyX6 tyX6_ok nmX6 hown hK hP hD hS 0 rfl rfl 0 (by decide) (hts _ kX6_init_5) (fun _ h9 => h9) rfl hin rfl (by decide +kernel) (rfl) (rfl) (Nat.le_of_ble_eq_true rfl) dX6_init_12 (fun H locs hP9 hD9 hS9 => ?_)
  replace hP : va_P D vwCl ((ta, .inr (6, [.ref a1])) :: (a1, .inl (cy 6, 5, .inr (.inr (.inr (.inr (fun i => if i < 5 then some (r1 i) else none)))))) :: ((r1 0), .inl (cy 1, 10, .inr (.inl (fun _ => 0)))) :: ((r1 1), .inl (cy 1, 10, .inr (.inl (fun _ => 0)))) :: ((r1 2), .inl (cy 1, 10, .inr (.inl (fun _ => 0)))) :: ((r1 3), .inl (cy 1, 10, .inr (.inl (fun _ => 0)))) :: ((r1 4), .inl (cy 1, 10, .inr (.inl (fun _ => 0)))) :: []) H := hP9
  replace hD : va_D A ((ta, .inr (6, [.ref a1])) :: (a1, .inl (cy 6, 5, .inr (.inr (.inr (.inr (fun i => if i < 5 then some (r1 i) else none)))))) :: ((r1 0), .inl (cy 1, 10, .inr (.inl (fun _ => 0)))) :: ((r1 1), .inl (cy 1, 10, .inr (.inl (fun _ => 0)))) :: ((r1 2), .inl (cy 1, 10, .inr (.inl (fun _ => 0)))) :: ((r1 3), .inl (cy 1, 10, .inr (.inl (fun _ => 0)))) :: ((r1 4), .inl (cy 1, 10, .inr (.inl (fun _ => 0)))) :: []) := hD9
  replace hS := hS9
  clear hP9 hD9 hS9
  exact hQ _ _ _ _ (yk_cat (a1 :: []) (fun i => r1 i)) dX6_init_15 hP hD hS
theorem kX8_init_0 : Cond.methodLink RX8 1 Lib.objectInit ∈ wsX8_init := by decide +kernel
theorem kX8_init_1 : Cond.instanceMethod Lib.objectInit ∈ wsX8_init := by decide +kernel
theorem kX8_init_2 : Cond.code Lib.objectInit ⟨#[0xb1]⟩ 1 none ∈ wsX8_init := by decide +kernel
theorem kX8_init_3 : Cond.arrayClass .int ∈ wsX8_init := by decide +kernel
theorem kX8_init_4 : Cond.fieldLink RX8 7 "FlowPlaneModel" "now" "[I" ∈ wsX8_init := by decide +kernel
theorem kX8_init_5 : Cond.fieldLink RX8 13 "FlowPlaneModel" "undone" "[I" ∈ wsX8_init := by decide +kernel
theorem kX8_init_6 : Cond.fieldLink RX8 16 "FlowPlaneModel" "slots" "[I" ∈ wsX8_init := by decide +kernel
theorem kX8_init_7 : Cond.fieldLink RX8 19 "FlowPlaneModel" "slotKind" "[I" ∈ wsX8_init := by decide +kernel
theorem kX8_init_8 : Cond.arrayClass .boolean ∈ wsX8_init := by decide +kernel
theorem kX8_init_9 : Cond.fieldLink RX8 22 "FlowPlaneModel" "hasSlot" "[Z" ∈ wsX8_init := by decide +kernel
theorem kX8_init_10 : Cond.fieldLink RX8 26 "FlowPlaneModel" "sheetBits" "[I" ∈ wsX8_init := by decide +kernel
theorem kX8_init_11 : Cond.fieldLink RX8 29 "FlowPlaneModel" "sheetSize" "[I" ∈ wsX8_init := by decide +kernel
theorem kX8_init_12 : Cond.fieldLink RX8 32 "FlowPlaneModel" "sheets" "[I" ∈ wsX8_init := by decide +kernel
theorem kX8_init_13 : Cond.fieldLink RX8 35 "FlowPlaneModel" "fresh" "[I" ∈ wsX8_init := by decide +kernel
theorem kX8_init_14 : Cond.fieldLink RX8 38 "FlowPlaneModel" "rootWhich" "[I" ∈ wsX8_init := by decide +kernel
theorem kX8_init_15 : Cond.fieldLink RX8 41 "FlowPlaneModel" "signs" "[I" ∈ wsX8_init := by decide +kernel
theorem kX8_init_16 : Cond.fieldLink RX8 44 "FlowPlaneModel" "atNought" "[I" ∈ wsX8_init := by decide +kernel
theorem kX8_init_17 : Cond.arrayClass .long ∈ wsX8_init := by decide +kernel
theorem kX8_init_18 : Cond.fieldLink RX8 47 "FlowPlaneModel" "change" "[J" ∈ wsX8_init := by decide +kernel
theorem kX8_init_19 : Cond.fieldLink RX8 51 "FlowPlaneModel" "table" "[J" ∈ wsX8_init := by decide +kernel
theorem kX8_init_20 : Cond.fieldLink RX8 54 "FlowPlaneModel" "carried" "[I" ∈ wsX8_init := by decide +kernel
theorem uX8_init_X8 : ∀ w ∈ u_ws RX8 TX8 23, w ∈ wsX8_init := by decide +kernel
theorem hs_X8_init : yX8_init.cls ≠ "java/lang/invoke/MethodHandle" ∧ yX8_init.cls ≠ "java/lang/invoke/VarHandle" ∧ (parseMethodDescriptor yX8_init.desc).map (fun d => d.parameters.length) = some 0 := by decide +kernel
def w1_X8 (cy : Nat → ClassId) (ta : Nat) (u : Nat → Nat) : va_W := ((ta, .inr (8, [.ref (u 0), .ref (u 1), .ref (u 2), .ref (u 3), .ref (u 4), .ref (u 5), .ref (u 6), .ref (u 7), .int 0, .int 0, .ref (u 8), .long 0, .long 0, .long 0, .int 0, .ref (u 9), .int 0, .ref (u 10), .ref (u 11), .int 0, .ref (u 12), .ref (u 13), .ref (u 14)])) :: ((u 0), .inl (cy 0, 29, .inl (fun _ => 0))) :: ((u 1), .inl (cy 0, 725, .inl (fun _ => 0))) :: ((u 2), .inl (cy 0, 48, .inl (fun _ => 0))) :: ((u 3), .inl (cy 0, 4, .inl (fun _ => 0))) :: ((u 4), .inl (cy 2, 4, .inl (fun _ => 0))) :: ((u 5), .inl (cy 0, 4, .inl (fun _ => 0))) :: ((u 6), .inl (cy 0, 4, .inl (fun _ => 0))) :: ((u 7), .inl (cy 0, 64, .inl (fun _ => 0))) :: ((u 8), .inl (cy 0, 12, .inl (fun _ => 0))) :: ((u 9), .inl (cy 0, 2, .inl (fun _ => 0))) :: ((u 10), .inl (cy 0, 64, .inl (fun _ => 0))) :: ((u 11), .inl (cy 0, 64, .inl (fun _ => 0))) :: ((u 12), .inl (cy 1, 10, .inr (.inl (fun _ => 0)))) :: ((u 13), .inl (cy 1, 50, .inr (.inl (fun _ => 0)))) :: ((u 14), .inl (cy 0, 16, .inl (fun _ => 0))) :: [])
set_option maxHeartbeats 400000000 in
set_option maxRecDepth 100000 in
theorem c_X8_init (l : Launch) (D : va_G) (cy : Nat → ClassId) (ta : Nat) : yk_Cn l D vwCl (yk_ty cy) yX8_init wsX8_init 1 13 15 1100 [.ref ta] [(ta, .inr (8, [.null, .null, .null, .null, .null, .null, .null, .null, .int 0, .int 0, .null, .long 0, .long 0, .long 0, .int 0, .null, .int 0, .null, .null, .int 0, .null, .null, .null]))] (w1_X8 cy ta) := by
  refine yk_eN (cc := cX8_init) (maxL := 1) (by decide) rfl rfl (Nat.le_of_ble_eq_true rfl) ?_
  intro p e R s m args below meth c A Q ls H locs hx hb hml hown hin hts hRf hRl hRc hRs hA hK hG hN hP hD hS hl hQ
  have hP : va_P D vwCl [(ta, .inr (8, [.null, .null, .null, .null, .null, .null, .null, .null, .int 0, .int 0, .null, .long 0, .long 0, .long 0, .int 0, .null, .int 0, .null, .null, .int 0, .null, .null, .null]))] H := hP
  have hl : lv_has ls 1 [(0, .ref ta)] := hl
  have hown : s.vm.findClass RX8 = some m.cls := hown
  refine lv_aload_n hx hb dX8_init_0 rfl (lv_at hl 0 rfl) ?_
  refine W.objInit hx hb hown (hts _ kX8_init_0) (hts _ kX8_init_1) (hts _ kX8_init_2) rfl (hl.1.trans hml.symm) rfl dX8_init_1 (by rw [hRf]; exact Nat.le_of_ble_eq_true rfl) (by rw [hRl]; exact Nat.le_of_ble_eq_true rfl) ?_
  show W p l e R s m args below meth c H locs 0 0 Q (F0 m 4 ls [])
  refine lv_aload_n hx hb dX8_init_4 rfl (lv_at hl 0 rfl) ?_
  refine lv_bipush (v := 29) hx hb dX8_init_5 (by decide) ?_
  refine yk_newA (t0 := 0) (atype := .int) (ty := .int) (N' := 29) (cells' := 1) (slots' := 29) (a0 := (29, .inl (fun _ => 0))) hx hb (hts _ kX8_init_3) rfl (fun _ h9 => h9) hK rfl hP hD hS hA (fun c9 => yk_zi c9 29) (by decide) rfl (Nat.le_of_ble_eq_true rfl) (by rw [hRc]; exact Nat.le_of_ble_eq_true rfl) (by rw [hRs]; exact Nat.le_of_ble_eq_true rfl) rfl rfl dX8_init_7 (fun a1 H hP9 hD9 hS9 => ?_)
  replace hP : va_P D vwCl ((ta, .inr (8, [.null, .null, .null, .null, .null, .null, .null, .null, .int 0, .int 0, .null, .long 0, .long 0, .long 0, .int 0, .null, .int 0, .null, .null, .int 0, .null, .null, .null])) :: (a1, .inl (cy 0, 29, .inl (fun _ => 0))) :: []) H := hP9
  replace hD : va_D A ((ta, .inr (8, [.null, .null, .null, .null, .null, .null, .null, .null, .int 0, .int 0, .null, .long 0, .long 0, .long 0, .int 0, .null, .int 0, .null, .null, .int 0, .null, .null, .null])) :: (a1, .inl (cy 0, 29, .inl (fun _ => 0))) :: []) := hD9
  replace hS := hS9
  clear hP9 hD9 hS9
  refine va_putF (D := D) (ci := 8) (v := .ref a1) (ty := (.array .int)) (C := RX8) (T := TX8) (N := 23) hx hb hts uX8_init_X8 tyX8 tyX8_ok nmX8 hown hK hP hD hS 0 rfl rfl 0 (by decide) (hts _ kX8_init_4) (fun _ h9 => h9) rfl hin rfl (by decide +kernel) (rfl) (rfl) (Nat.le_of_ble_eq_true rfl) dX8_init_9 (fun H locs hP9 hD9 hS9 => ?_)
  replace hP : va_P D vwCl ((ta, .inr (8, [.ref a1, .null, .null, .null, .null, .null, .null, .null, .int 0, .int 0, .null, .long 0, .long 0, .long 0, .int 0, .null, .int 0, .null, .null, .int 0, .null, .null, .null])) :: (a1, .inl (cy 0, 29, .inl (fun _ => 0))) :: []) H := hP9
  replace hD : va_D A ((ta, .inr (8, [.ref a1, .null, .null, .null, .null, .null, .null, .null, .int 0, .int 0, .null, .long 0, .long 0, .long 0, .int 0, .null, .int 0, .null, .null, .int 0, .null, .null, .null])) :: (a1, .inl (cy 0, 29, .inl (fun _ => 0))) :: []) := hD9
  replace hS := hS9
  clear hP9 hD9 hS9
  refine lv_aload_n hx hb dX8_init_12 rfl (lv_at hl 0 rfl) ?_
  refine lv_sipush (v := 725) hx hb dX8_init_13 (by decide) ?_
  refine yk_newA (t0 := 0) (atype := .int) (ty := .int) (N' := 725) (cells' := 2) (slots' := 754) (a0 := (725, .inl (fun _ => 0))) hx hb (hts _ kX8_init_3) rfl (fun _ h9 => h9) hK rfl hP hD hS hA (fun c9 => yk_zi c9 725) (by decide) rfl (Nat.le_of_ble_eq_true rfl) (by rw [hRc]; exact Nat.le_of_ble_eq_true rfl) (by rw [hRs]; exact Nat.le_of_ble_eq_true rfl) rfl rfl dX8_init_16 (fun a2 H hP9 hD9 hS9 => ?_)
  replace hP : va_P D vwCl ((ta, .inr (8, [.ref a1, .null, .null, .null, .null, .null, .null, .null, .int 0, .int 0, .null, .long 0, .long 0, .long 0, .int 0, .null, .int 0, .null, .null, .int 0, .null, .null, .null])) :: (a1, .inl (cy 0, 29, .inl (fun _ => 0))) :: (a2, .inl (cy 0, 725, .inl (fun _ => 0))) :: []) H := hP9
  replace hD : va_D A ((ta, .inr (8, [.ref a1, .null, .null, .null, .null, .null, .null, .null, .int 0, .int 0, .null, .long 0, .long 0, .long 0, .int 0, .null, .int 0, .null, .null, .int 0, .null, .null, .null])) :: (a1, .inl (cy 0, 29, .inl (fun _ => 0))) :: (a2, .inl (cy 0, 725, .inl (fun _ => 0))) :: []) := hD9
  replace hS := hS9
  clear hP9 hD9 hS9
  refine va_putF (D := D) (ci := 8) (v := .ref a2) (ty := (.array .int)) (C := RX8) (T := TX8) (N := 23) hx hb hts uX8_init_X8 tyX8 tyX8_ok nmX8 hown hK hP hD hS 0 rfl rfl 1 (by decide) (hts _ kX8_init_5) (fun _ h9 => h9) rfl hin rfl (by decide +kernel) (rfl) (rfl) (Nat.le_of_ble_eq_true rfl) dX8_init_18 (fun H locs hP9 hD9 hS9 => ?_)
  replace hP : va_P D vwCl ((ta, .inr (8, [.ref a1, .ref a2, .null, .null, .null, .null, .null, .null, .int 0, .int 0, .null, .long 0, .long 0, .long 0, .int 0, .null, .int 0, .null, .null, .int 0, .null, .null, .null])) :: (a1, .inl (cy 0, 29, .inl (fun _ => 0))) :: (a2, .inl (cy 0, 725, .inl (fun _ => 0))) :: []) H := hP9
  replace hD : va_D A ((ta, .inr (8, [.ref a1, .ref a2, .null, .null, .null, .null, .null, .null, .int 0, .int 0, .null, .long 0, .long 0, .long 0, .int 0, .null, .int 0, .null, .null, .int 0, .null, .null, .null])) :: (a1, .inl (cy 0, 29, .inl (fun _ => 0))) :: (a2, .inl (cy 0, 725, .inl (fun _ => 0))) :: []) := hD9
  replace hS := hS9
  clear hP9 hD9 hS9
  refine lv_aload_n hx hb dX8_init_21 rfl (lv_at hl 0 rfl) ?_
  refine lv_bipush (v := 48) hx hb dX8_init_22 (by decide) ?_
  refine yk_newA (t0 := 0) (atype := .int) (ty := .int) (N' := 48) (cells' := 3) (slots' := 802) (a0 := (48, .inl (fun _ => 0))) hx hb (hts _ kX8_init_3) rfl (fun _ h9 => h9) hK rfl hP hD hS hA (fun c9 => yk_zi c9 48) (by decide) rfl (Nat.le_of_ble_eq_true rfl) (by rw [hRc]; exact Nat.le_of_ble_eq_true rfl) (by rw [hRs]; exact Nat.le_of_ble_eq_true rfl) rfl rfl dX8_init_24 (fun a3 H hP9 hD9 hS9 => ?_)
  replace hP : va_P D vwCl ((ta, .inr (8, [.ref a1, .ref a2, .null, .null, .null, .null, .null, .null, .int 0, .int 0, .null, .long 0, .long 0, .long 0, .int 0, .null, .int 0, .null, .null, .int 0, .null, .null, .null])) :: (a1, .inl (cy 0, 29, .inl (fun _ => 0))) :: (a2, .inl (cy 0, 725, .inl (fun _ => 0))) :: (a3, .inl (cy 0, 48, .inl (fun _ => 0))) :: []) H := hP9
  replace hD : va_D A ((ta, .inr (8, [.ref a1, .ref a2, .null, .null, .null, .null, .null, .null, .int 0, .int 0, .null, .long 0, .long 0, .long 0, .int 0, .null, .int 0, .null, .null, .int 0, .null, .null, .null])) :: (a1, .inl (cy 0, 29, .inl (fun _ => 0))) :: (a2, .inl (cy 0, 725, .inl (fun _ => 0))) :: (a3, .inl (cy 0, 48, .inl (fun _ => 0))) :: []) := hD9
  replace hS := hS9
  clear hP9 hD9 hS9
  refine va_putF (D := D) (ci := 8) (v := .ref a3) (ty := (.array .int)) (C := RX8) (T := TX8) (N := 23) hx hb hts uX8_init_X8 tyX8 tyX8_ok nmX8 hown hK hP hD hS 0 rfl rfl 2 (by decide) (hts _ kX8_init_6) (fun _ h9 => h9) rfl hin rfl (by decide +kernel) (rfl) (rfl) (Nat.le_of_ble_eq_true rfl) dX8_init_26 (fun H locs hP9 hD9 hS9 => ?_)
  replace hP : va_P D vwCl ((ta, .inr (8, [.ref a1, .ref a2, .ref a3, .null, .null, .null, .null, .null, .int 0, .int 0, .null, .long 0, .long 0, .long 0, .int 0, .null, .int 0, .null, .null, .int 0, .null, .null, .null])) :: (a1, .inl (cy 0, 29, .inl (fun _ => 0))) :: (a2, .inl (cy 0, 725, .inl (fun _ => 0))) :: (a3, .inl (cy 0, 48, .inl (fun _ => 0))) :: []) H := hP9
  replace hD : va_D A ((ta, .inr (8, [.ref a1, .ref a2, .ref a3, .null, .null, .null, .null, .null, .int 0, .int 0, .null, .long 0, .long 0, .long 0, .int 0, .null, .int 0, .null, .null, .int 0, .null, .null, .null])) :: (a1, .inl (cy 0, 29, .inl (fun _ => 0))) :: (a2, .inl (cy 0, 725, .inl (fun _ => 0))) :: (a3, .inl (cy 0, 48, .inl (fun _ => 0))) :: []) := hD9
  replace hS := hS9
  clear hP9 hD9 hS9
  refine lv_aload_n hx hb dX8_init_29 rfl (lv_at hl 0 rfl) ?_
  refine lv_iconst (v := 4) hx hb dX8_init_30 (by decide) ?_
  refine yk_newA (t0 := 0) (atype := .int) (ty := .int) (N' := 4) (cells' := 4) (slots' := 806) (a0 := (4, .inl (fun _ => 0))) hx hb (hts _ kX8_init_3) rfl (fun _ h9 => h9) hK rfl hP hD hS hA (fun c9 => yk_zi c9 4) (by decide) rfl (Nat.le_of_ble_eq_true rfl) (by rw [hRc]; exact Nat.le_of_ble_eq_true rfl) (by rw [hRs]; exact Nat.le_of_ble_eq_true rfl) rfl rfl dX8_init_31 (fun a4 H hP9 hD9 hS9 => ?_)
  replace hP : va_P D vwCl ((ta, .inr (8, [.ref a1, .ref a2, .ref a3, .null, .null, .null, .null, .null, .int 0, .int 0, .null, .long 0, .long 0, .long 0, .int 0, .null, .int 0, .null, .null, .int 0, .null, .null, .null])) :: (a1, .inl (cy 0, 29, .inl (fun _ => 0))) :: (a2, .inl (cy 0, 725, .inl (fun _ => 0))) :: (a3, .inl (cy 0, 48, .inl (fun _ => 0))) :: (a4, .inl (cy 0, 4, .inl (fun _ => 0))) :: []) H := hP9
  replace hD : va_D A ((ta, .inr (8, [.ref a1, .ref a2, .ref a3, .null, .null, .null, .null, .null, .int 0, .int 0, .null, .long 0, .long 0, .long 0, .int 0, .null, .int 0, .null, .null, .int 0, .null, .null, .null])) :: (a1, .inl (cy 0, 29, .inl (fun _ => 0))) :: (a2, .inl (cy 0, 725, .inl (fun _ => 0))) :: (a3, .inl (cy 0, 48, .inl (fun _ => 0))) :: (a4, .inl (cy 0, 4, .inl (fun _ => 0))) :: []) := hD9
  replace hS := hS9
  clear hP9 hD9 hS9
  refine va_putF (D := D) (ci := 8) (v := .ref a4) (ty := (.array .int)) (C := RX8) (T := TX8) (N := 23) hx hb hts uX8_init_X8 tyX8 tyX8_ok nmX8 hown hK hP hD hS 0 rfl rfl 3 (by decide) (hts _ kX8_init_7) (fun _ h9 => h9) rfl hin rfl (by decide +kernel) (rfl) (rfl) (Nat.le_of_ble_eq_true rfl) dX8_init_33 (fun H locs hP9 hD9 hS9 => ?_)
  replace hP : va_P D vwCl ((ta, .inr (8, [.ref a1, .ref a2, .ref a3, .ref a4, .null, .null, .null, .null, .int 0, .int 0, .null, .long 0, .long 0, .long 0, .int 0, .null, .int 0, .null, .null, .int 0, .null, .null, .null])) :: (a1, .inl (cy 0, 29, .inl (fun _ => 0))) :: (a2, .inl (cy 0, 725, .inl (fun _ => 0))) :: (a3, .inl (cy 0, 48, .inl (fun _ => 0))) :: (a4, .inl (cy 0, 4, .inl (fun _ => 0))) :: []) H := hP9
  replace hD : va_D A ((ta, .inr (8, [.ref a1, .ref a2, .ref a3, .ref a4, .null, .null, .null, .null, .int 0, .int 0, .null, .long 0, .long 0, .long 0, .int 0, .null, .int 0, .null, .null, .int 0, .null, .null, .null])) :: (a1, .inl (cy 0, 29, .inl (fun _ => 0))) :: (a2, .inl (cy 0, 725, .inl (fun _ => 0))) :: (a3, .inl (cy 0, 48, .inl (fun _ => 0))) :: (a4, .inl (cy 0, 4, .inl (fun _ => 0))) :: []) := hD9
  replace hS := hS9
  clear hP9 hD9 hS9
  refine lv_aload_n hx hb dX8_init_36 rfl (lv_at hl 0 rfl) ?_
  refine lv_iconst (v := 4) hx hb dX8_init_37 (by decide) ?_
  refine yk_newA (t0 := 2) (atype := .boolean) (ty := .boolean) (N' := 4) (cells' := 5) (slots' := 810) (a0 := (4, .inl (fun _ => 0))) hx hb (hts _ kX8_init_8) rfl (fun _ h9 => h9) hK rfl hP hD hS hA (fun c9 => yk_zz c9 4) (by decide) rfl (Nat.le_of_ble_eq_true rfl) (by rw [hRc]; exact Nat.le_of_ble_eq_true rfl) (by rw [hRs]; exact Nat.le_of_ble_eq_true rfl) rfl rfl dX8_init_38 (fun a5 H hP9 hD9 hS9 => ?_)
  replace hP : va_P D vwCl ((ta, .inr (8, [.ref a1, .ref a2, .ref a3, .ref a4, .null, .null, .null, .null, .int 0, .int 0, .null, .long 0, .long 0, .long 0, .int 0, .null, .int 0, .null, .null, .int 0, .null, .null, .null])) :: (a1, .inl (cy 0, 29, .inl (fun _ => 0))) :: (a2, .inl (cy 0, 725, .inl (fun _ => 0))) :: (a3, .inl (cy 0, 48, .inl (fun _ => 0))) :: (a4, .inl (cy 0, 4, .inl (fun _ => 0))) :: (a5, .inl (cy 2, 4, .inl (fun _ => 0))) :: []) H := hP9
  replace hD : va_D A ((ta, .inr (8, [.ref a1, .ref a2, .ref a3, .ref a4, .null, .null, .null, .null, .int 0, .int 0, .null, .long 0, .long 0, .long 0, .int 0, .null, .int 0, .null, .null, .int 0, .null, .null, .null])) :: (a1, .inl (cy 0, 29, .inl (fun _ => 0))) :: (a2, .inl (cy 0, 725, .inl (fun _ => 0))) :: (a3, .inl (cy 0, 48, .inl (fun _ => 0))) :: (a4, .inl (cy 0, 4, .inl (fun _ => 0))) :: (a5, .inl (cy 2, 4, .inl (fun _ => 0))) :: []) := hD9
  replace hS := hS9
  clear hP9 hD9 hS9
  refine va_putF (D := D) (ci := 8) (v := .ref a5) (ty := (.array .boolean)) (C := RX8) (T := TX8) (N := 23) hx hb hts uX8_init_X8 tyX8 tyX8_ok nmX8 hown hK hP hD hS 0 rfl rfl 4 (by decide) (hts _ kX8_init_9) (fun _ h9 => h9) rfl hin rfl (by decide +kernel) (rfl) (rfl) (Nat.le_of_ble_eq_true rfl) dX8_init_40 (fun H locs hP9 hD9 hS9 => ?_)
  replace hP : va_P D vwCl ((ta, .inr (8, [.ref a1, .ref a2, .ref a3, .ref a4, .ref a5, .null, .null, .null, .int 0, .int 0, .null, .long 0, .long 0, .long 0, .int 0, .null, .int 0, .null, .null, .int 0, .null, .null, .null])) :: (a1, .inl (cy 0, 29, .inl (fun _ => 0))) :: (a2, .inl (cy 0, 725, .inl (fun _ => 0))) :: (a3, .inl (cy 0, 48, .inl (fun _ => 0))) :: (a4, .inl (cy 0, 4, .inl (fun _ => 0))) :: (a5, .inl (cy 2, 4, .inl (fun _ => 0))) :: []) H := hP9
  replace hD : va_D A ((ta, .inr (8, [.ref a1, .ref a2, .ref a3, .ref a4, .ref a5, .null, .null, .null, .int 0, .int 0, .null, .long 0, .long 0, .long 0, .int 0, .null, .int 0, .null, .null, .int 0, .null, .null, .null])) :: (a1, .inl (cy 0, 29, .inl (fun _ => 0))) :: (a2, .inl (cy 0, 725, .inl (fun _ => 0))) :: (a3, .inl (cy 0, 48, .inl (fun _ => 0))) :: (a4, .inl (cy 0, 4, .inl (fun _ => 0))) :: (a5, .inl (cy 2, 4, .inl (fun _ => 0))) :: []) := hD9
  replace hS := hS9
  clear hP9 hD9 hS9
  refine lv_aload_n hx hb dX8_init_43 rfl (lv_at hl 0 rfl) ?_
  refine lv_iconst (v := 4) hx hb dX8_init_44 (by decide) ?_
  refine yk_newA (t0 := 0) (atype := .int) (ty := .int) (N' := 4) (cells' := 6) (slots' := 814) (a0 := (4, .inl (fun _ => 0))) hx hb (hts _ kX8_init_3) rfl (fun _ h9 => h9) hK rfl hP hD hS hA (fun c9 => yk_zi c9 4) (by decide) rfl (Nat.le_of_ble_eq_true rfl) (by rw [hRc]; exact Nat.le_of_ble_eq_true rfl) (by rw [hRs]; exact Nat.le_of_ble_eq_true rfl) rfl rfl dX8_init_45 (fun a6 H hP9 hD9 hS9 => ?_)
  replace hP : va_P D vwCl ((ta, .inr (8, [.ref a1, .ref a2, .ref a3, .ref a4, .ref a5, .null, .null, .null, .int 0, .int 0, .null, .long 0, .long 0, .long 0, .int 0, .null, .int 0, .null, .null, .int 0, .null, .null, .null])) :: (a1, .inl (cy 0, 29, .inl (fun _ => 0))) :: (a2, .inl (cy 0, 725, .inl (fun _ => 0))) :: (a3, .inl (cy 0, 48, .inl (fun _ => 0))) :: (a4, .inl (cy 0, 4, .inl (fun _ => 0))) :: (a5, .inl (cy 2, 4, .inl (fun _ => 0))) :: (a6, .inl (cy 0, 4, .inl (fun _ => 0))) :: []) H := hP9
  replace hD : va_D A ((ta, .inr (8, [.ref a1, .ref a2, .ref a3, .ref a4, .ref a5, .null, .null, .null, .int 0, .int 0, .null, .long 0, .long 0, .long 0, .int 0, .null, .int 0, .null, .null, .int 0, .null, .null, .null])) :: (a1, .inl (cy 0, 29, .inl (fun _ => 0))) :: (a2, .inl (cy 0, 725, .inl (fun _ => 0))) :: (a3, .inl (cy 0, 48, .inl (fun _ => 0))) :: (a4, .inl (cy 0, 4, .inl (fun _ => 0))) :: (a5, .inl (cy 2, 4, .inl (fun _ => 0))) :: (a6, .inl (cy 0, 4, .inl (fun _ => 0))) :: []) := hD9
  replace hS := hS9
  clear hP9 hD9 hS9
  refine va_putF (D := D) (ci := 8) (v := .ref a6) (ty := (.array .int)) (C := RX8) (T := TX8) (N := 23) hx hb hts uX8_init_X8 tyX8 tyX8_ok nmX8 hown hK hP hD hS 0 rfl rfl 5 (by decide) (hts _ kX8_init_10) (fun _ h9 => h9) rfl hin rfl (by decide +kernel) (rfl) (rfl) (Nat.le_of_ble_eq_true rfl) dX8_init_47 (fun H locs hP9 hD9 hS9 => ?_)
  replace hP : va_P D vwCl ((ta, .inr (8, [.ref a1, .ref a2, .ref a3, .ref a4, .ref a5, .ref a6, .null, .null, .int 0, .int 0, .null, .long 0, .long 0, .long 0, .int 0, .null, .int 0, .null, .null, .int 0, .null, .null, .null])) :: (a1, .inl (cy 0, 29, .inl (fun _ => 0))) :: (a2, .inl (cy 0, 725, .inl (fun _ => 0))) :: (a3, .inl (cy 0, 48, .inl (fun _ => 0))) :: (a4, .inl (cy 0, 4, .inl (fun _ => 0))) :: (a5, .inl (cy 2, 4, .inl (fun _ => 0))) :: (a6, .inl (cy 0, 4, .inl (fun _ => 0))) :: []) H := hP9
  replace hD : va_D A ((ta, .inr (8, [.ref a1, .ref a2, .ref a3, .ref a4, .ref a5, .ref a6, .null, .null, .int 0, .int 0, .null, .long 0, .long 0, .long 0, .int 0, .null, .int 0, .null, .null, .int 0, .null, .null, .null])) :: (a1, .inl (cy 0, 29, .inl (fun _ => 0))) :: (a2, .inl (cy 0, 725, .inl (fun _ => 0))) :: (a3, .inl (cy 0, 48, .inl (fun _ => 0))) :: (a4, .inl (cy 0, 4, .inl (fun _ => 0))) :: (a5, .inl (cy 2, 4, .inl (fun _ => 0))) :: (a6, .inl (cy 0, 4, .inl (fun _ => 0))) :: []) := hD9
  replace hS := hS9
  clear hP9 hD9 hS9
  refine lv_aload_n hx hb dX8_init_50 rfl (lv_at hl 0 rfl) ?_
  refine lv_iconst (v := 4) hx hb dX8_init_51 (by decide) ?_
  refine yk_newA (t0 := 0) (atype := .int) (ty := .int) (N' := 4) (cells' := 7) (slots' := 818) (a0 := (4, .inl (fun _ => 0))) hx hb (hts _ kX8_init_3) rfl (fun _ h9 => h9) hK rfl hP hD hS hA (fun c9 => yk_zi c9 4) (by decide) rfl (Nat.le_of_ble_eq_true rfl) (by rw [hRc]; exact Nat.le_of_ble_eq_true rfl) (by rw [hRs]; exact Nat.le_of_ble_eq_true rfl) rfl rfl dX8_init_52 (fun a7 H hP9 hD9 hS9 => ?_)
  replace hP : va_P D vwCl ((ta, .inr (8, [.ref a1, .ref a2, .ref a3, .ref a4, .ref a5, .ref a6, .null, .null, .int 0, .int 0, .null, .long 0, .long 0, .long 0, .int 0, .null, .int 0, .null, .null, .int 0, .null, .null, .null])) :: (a1, .inl (cy 0, 29, .inl (fun _ => 0))) :: (a2, .inl (cy 0, 725, .inl (fun _ => 0))) :: (a3, .inl (cy 0, 48, .inl (fun _ => 0))) :: (a4, .inl (cy 0, 4, .inl (fun _ => 0))) :: (a5, .inl (cy 2, 4, .inl (fun _ => 0))) :: (a6, .inl (cy 0, 4, .inl (fun _ => 0))) :: (a7, .inl (cy 0, 4, .inl (fun _ => 0))) :: []) H := hP9
  replace hD : va_D A ((ta, .inr (8, [.ref a1, .ref a2, .ref a3, .ref a4, .ref a5, .ref a6, .null, .null, .int 0, .int 0, .null, .long 0, .long 0, .long 0, .int 0, .null, .int 0, .null, .null, .int 0, .null, .null, .null])) :: (a1, .inl (cy 0, 29, .inl (fun _ => 0))) :: (a2, .inl (cy 0, 725, .inl (fun _ => 0))) :: (a3, .inl (cy 0, 48, .inl (fun _ => 0))) :: (a4, .inl (cy 0, 4, .inl (fun _ => 0))) :: (a5, .inl (cy 2, 4, .inl (fun _ => 0))) :: (a6, .inl (cy 0, 4, .inl (fun _ => 0))) :: (a7, .inl (cy 0, 4, .inl (fun _ => 0))) :: []) := hD9
  replace hS := hS9
  clear hP9 hD9 hS9
  refine va_putF (D := D) (ci := 8) (v := .ref a7) (ty := (.array .int)) (C := RX8) (T := TX8) (N := 23) hx hb hts uX8_init_X8 tyX8 tyX8_ok nmX8 hown hK hP hD hS 0 rfl rfl 6 (by decide) (hts _ kX8_init_11) (fun _ h9 => h9) rfl hin rfl (by decide +kernel) (rfl) (rfl) (Nat.le_of_ble_eq_true rfl) dX8_init_54 (fun H locs hP9 hD9 hS9 => ?_)
  replace hP : va_P D vwCl ((ta, .inr (8, [.ref a1, .ref a2, .ref a3, .ref a4, .ref a5, .ref a6, .ref a7, .null, .int 0, .int 0, .null, .long 0, .long 0, .long 0, .int 0, .null, .int 0, .null, .null, .int 0, .null, .null, .null])) :: (a1, .inl (cy 0, 29, .inl (fun _ => 0))) :: (a2, .inl (cy 0, 725, .inl (fun _ => 0))) :: (a3, .inl (cy 0, 48, .inl (fun _ => 0))) :: (a4, .inl (cy 0, 4, .inl (fun _ => 0))) :: (a5, .inl (cy 2, 4, .inl (fun _ => 0))) :: (a6, .inl (cy 0, 4, .inl (fun _ => 0))) :: (a7, .inl (cy 0, 4, .inl (fun _ => 0))) :: []) H := hP9
  replace hD : va_D A ((ta, .inr (8, [.ref a1, .ref a2, .ref a3, .ref a4, .ref a5, .ref a6, .ref a7, .null, .int 0, .int 0, .null, .long 0, .long 0, .long 0, .int 0, .null, .int 0, .null, .null, .int 0, .null, .null, .null])) :: (a1, .inl (cy 0, 29, .inl (fun _ => 0))) :: (a2, .inl (cy 0, 725, .inl (fun _ => 0))) :: (a3, .inl (cy 0, 48, .inl (fun _ => 0))) :: (a4, .inl (cy 0, 4, .inl (fun _ => 0))) :: (a5, .inl (cy 2, 4, .inl (fun _ => 0))) :: (a6, .inl (cy 0, 4, .inl (fun _ => 0))) :: (a7, .inl (cy 0, 4, .inl (fun _ => 0))) :: []) := hD9
  replace hS := hS9
  clear hP9 hD9 hS9
  refine lv_aload_n hx hb dX8_init_57 rfl (lv_at hl 0 rfl) ?_
  refine lv_bipush (v := 64) hx hb dX8_init_58 (by decide) ?_
  refine yk_newA (t0 := 0) (atype := .int) (ty := .int) (N' := 64) (cells' := 8) (slots' := 882) (a0 := (64, .inl (fun _ => 0))) hx hb (hts _ kX8_init_3) rfl (fun _ h9 => h9) hK rfl hP hD hS hA (fun c9 => yk_zi c9 64) (by decide) rfl (Nat.le_of_ble_eq_true rfl) (by rw [hRc]; exact Nat.le_of_ble_eq_true rfl) (by rw [hRs]; exact Nat.le_of_ble_eq_true rfl) rfl rfl dX8_init_60 (fun a8 H hP9 hD9 hS9 => ?_)
  replace hP : va_P D vwCl ((ta, .inr (8, [.ref a1, .ref a2, .ref a3, .ref a4, .ref a5, .ref a6, .ref a7, .null, .int 0, .int 0, .null, .long 0, .long 0, .long 0, .int 0, .null, .int 0, .null, .null, .int 0, .null, .null, .null])) :: (a1, .inl (cy 0, 29, .inl (fun _ => 0))) :: (a2, .inl (cy 0, 725, .inl (fun _ => 0))) :: (a3, .inl (cy 0, 48, .inl (fun _ => 0))) :: (a4, .inl (cy 0, 4, .inl (fun _ => 0))) :: (a5, .inl (cy 2, 4, .inl (fun _ => 0))) :: (a6, .inl (cy 0, 4, .inl (fun _ => 0))) :: (a7, .inl (cy 0, 4, .inl (fun _ => 0))) :: (a8, .inl (cy 0, 64, .inl (fun _ => 0))) :: []) H := hP9
  replace hD : va_D A ((ta, .inr (8, [.ref a1, .ref a2, .ref a3, .ref a4, .ref a5, .ref a6, .ref a7, .null, .int 0, .int 0, .null, .long 0, .long 0, .long 0, .int 0, .null, .int 0, .null, .null, .int 0, .null, .null, .null])) :: (a1, .inl (cy 0, 29, .inl (fun _ => 0))) :: (a2, .inl (cy 0, 725, .inl (fun _ => 0))) :: (a3, .inl (cy 0, 48, .inl (fun _ => 0))) :: (a4, .inl (cy 0, 4, .inl (fun _ => 0))) :: (a5, .inl (cy 2, 4, .inl (fun _ => 0))) :: (a6, .inl (cy 0, 4, .inl (fun _ => 0))) :: (a7, .inl (cy 0, 4, .inl (fun _ => 0))) :: (a8, .inl (cy 0, 64, .inl (fun _ => 0))) :: []) := hD9
  replace hS := hS9
  clear hP9 hD9 hS9
  refine va_putF (D := D) (ci := 8) (v := .ref a8) (ty := (.array .int)) (C := RX8) (T := TX8) (N := 23) hx hb hts uX8_init_X8 tyX8 tyX8_ok nmX8 hown hK hP hD hS 0 rfl rfl 7 (by decide) (hts _ kX8_init_12) (fun _ h9 => h9) rfl hin rfl (by decide +kernel) (rfl) (rfl) (Nat.le_of_ble_eq_true rfl) dX8_init_62 (fun H locs hP9 hD9 hS9 => ?_)
  replace hP : va_P D vwCl ((ta, .inr (8, [.ref a1, .ref a2, .ref a3, .ref a4, .ref a5, .ref a6, .ref a7, .ref a8, .int 0, .int 0, .null, .long 0, .long 0, .long 0, .int 0, .null, .int 0, .null, .null, .int 0, .null, .null, .null])) :: (a1, .inl (cy 0, 29, .inl (fun _ => 0))) :: (a2, .inl (cy 0, 725, .inl (fun _ => 0))) :: (a3, .inl (cy 0, 48, .inl (fun _ => 0))) :: (a4, .inl (cy 0, 4, .inl (fun _ => 0))) :: (a5, .inl (cy 2, 4, .inl (fun _ => 0))) :: (a6, .inl (cy 0, 4, .inl (fun _ => 0))) :: (a7, .inl (cy 0, 4, .inl (fun _ => 0))) :: (a8, .inl (cy 0, 64, .inl (fun _ => 0))) :: []) H := hP9
  replace hD : va_D A ((ta, .inr (8, [.ref a1, .ref a2, .ref a3, .ref a4, .ref a5, .ref a6, .ref a7, .ref a8, .int 0, .int 0, .null, .long 0, .long 0, .long 0, .int 0, .null, .int 0, .null, .null, .int 0, .null, .null, .null])) :: (a1, .inl (cy 0, 29, .inl (fun _ => 0))) :: (a2, .inl (cy 0, 725, .inl (fun _ => 0))) :: (a3, .inl (cy 0, 48, .inl (fun _ => 0))) :: (a4, .inl (cy 0, 4, .inl (fun _ => 0))) :: (a5, .inl (cy 2, 4, .inl (fun _ => 0))) :: (a6, .inl (cy 0, 4, .inl (fun _ => 0))) :: (a7, .inl (cy 0, 4, .inl (fun _ => 0))) :: (a8, .inl (cy 0, 64, .inl (fun _ => 0))) :: []) := hD9
  replace hS := hS9
  clear hP9 hD9 hS9
  refine lv_aload_n hx hb dX8_init_65 rfl (lv_at hl 0 rfl) ?_
  refine lv_bipush (v := 12) hx hb dX8_init_66 (by decide) ?_
  refine yk_newA (t0 := 0) (atype := .int) (ty := .int) (N' := 12) (cells' := 9) (slots' := 894) (a0 := (12, .inl (fun _ => 0))) hx hb (hts _ kX8_init_3) rfl (fun _ h9 => h9) hK rfl hP hD hS hA (fun c9 => yk_zi c9 12) (by decide) rfl (Nat.le_of_ble_eq_true rfl) (by rw [hRc]; exact Nat.le_of_ble_eq_true rfl) (by rw [hRs]; exact Nat.le_of_ble_eq_true rfl) rfl rfl dX8_init_68 (fun a9 H hP9 hD9 hS9 => ?_)
  replace hP : va_P D vwCl ((ta, .inr (8, [.ref a1, .ref a2, .ref a3, .ref a4, .ref a5, .ref a6, .ref a7, .ref a8, .int 0, .int 0, .null, .long 0, .long 0, .long 0, .int 0, .null, .int 0, .null, .null, .int 0, .null, .null, .null])) :: (a1, .inl (cy 0, 29, .inl (fun _ => 0))) :: (a2, .inl (cy 0, 725, .inl (fun _ => 0))) :: (a3, .inl (cy 0, 48, .inl (fun _ => 0))) :: (a4, .inl (cy 0, 4, .inl (fun _ => 0))) :: (a5, .inl (cy 2, 4, .inl (fun _ => 0))) :: (a6, .inl (cy 0, 4, .inl (fun _ => 0))) :: (a7, .inl (cy 0, 4, .inl (fun _ => 0))) :: (a8, .inl (cy 0, 64, .inl (fun _ => 0))) :: (a9, .inl (cy 0, 12, .inl (fun _ => 0))) :: []) H := hP9
  replace hD : va_D A ((ta, .inr (8, [.ref a1, .ref a2, .ref a3, .ref a4, .ref a5, .ref a6, .ref a7, .ref a8, .int 0, .int 0, .null, .long 0, .long 0, .long 0, .int 0, .null, .int 0, .null, .null, .int 0, .null, .null, .null])) :: (a1, .inl (cy 0, 29, .inl (fun _ => 0))) :: (a2, .inl (cy 0, 725, .inl (fun _ => 0))) :: (a3, .inl (cy 0, 48, .inl (fun _ => 0))) :: (a4, .inl (cy 0, 4, .inl (fun _ => 0))) :: (a5, .inl (cy 2, 4, .inl (fun _ => 0))) :: (a6, .inl (cy 0, 4, .inl (fun _ => 0))) :: (a7, .inl (cy 0, 4, .inl (fun _ => 0))) :: (a8, .inl (cy 0, 64, .inl (fun _ => 0))) :: (a9, .inl (cy 0, 12, .inl (fun _ => 0))) :: []) := hD9
  replace hS := hS9
  clear hP9 hD9 hS9
  refine va_putF (D := D) (ci := 8) (v := .ref a9) (ty := (.array .int)) (C := RX8) (T := TX8) (N := 23) hx hb hts uX8_init_X8 tyX8 tyX8_ok nmX8 hown hK hP hD hS 0 rfl rfl 10 (by decide) (hts _ kX8_init_13) (fun _ h9 => h9) rfl hin rfl (by decide +kernel) (rfl) (rfl) (Nat.le_of_ble_eq_true rfl) dX8_init_70 (fun H locs hP9 hD9 hS9 => ?_)
  replace hP : va_P D vwCl ((ta, .inr (8, [.ref a1, .ref a2, .ref a3, .ref a4, .ref a5, .ref a6, .ref a7, .ref a8, .int 0, .int 0, .ref a9, .long 0, .long 0, .long 0, .int 0, .null, .int 0, .null, .null, .int 0, .null, .null, .null])) :: (a1, .inl (cy 0, 29, .inl (fun _ => 0))) :: (a2, .inl (cy 0, 725, .inl (fun _ => 0))) :: (a3, .inl (cy 0, 48, .inl (fun _ => 0))) :: (a4, .inl (cy 0, 4, .inl (fun _ => 0))) :: (a5, .inl (cy 2, 4, .inl (fun _ => 0))) :: (a6, .inl (cy 0, 4, .inl (fun _ => 0))) :: (a7, .inl (cy 0, 4, .inl (fun _ => 0))) :: (a8, .inl (cy 0, 64, .inl (fun _ => 0))) :: (a9, .inl (cy 0, 12, .inl (fun _ => 0))) :: []) H := hP9
  replace hD : va_D A ((ta, .inr (8, [.ref a1, .ref a2, .ref a3, .ref a4, .ref a5, .ref a6, .ref a7, .ref a8, .int 0, .int 0, .ref a9, .long 0, .long 0, .long 0, .int 0, .null, .int 0, .null, .null, .int 0, .null, .null, .null])) :: (a1, .inl (cy 0, 29, .inl (fun _ => 0))) :: (a2, .inl (cy 0, 725, .inl (fun _ => 0))) :: (a3, .inl (cy 0, 48, .inl (fun _ => 0))) :: (a4, .inl (cy 0, 4, .inl (fun _ => 0))) :: (a5, .inl (cy 2, 4, .inl (fun _ => 0))) :: (a6, .inl (cy 0, 4, .inl (fun _ => 0))) :: (a7, .inl (cy 0, 4, .inl (fun _ => 0))) :: (a8, .inl (cy 0, 64, .inl (fun _ => 0))) :: (a9, .inl (cy 0, 12, .inl (fun _ => 0))) :: []) := hD9
  replace hS := hS9
  clear hP9 hD9 hS9
  refine lv_aload_n hx hb dX8_init_73 rfl (lv_at hl 0 rfl) ?_
  refine lv_iconst (v := 2) hx hb dX8_init_74 (by decide) ?_
  refine yk_newA (t0 := 0) (atype := .int) (ty := .int) (N' := 2) (cells' := 10) (slots' := 896) (a0 := (2, .inl (fun _ => 0))) hx hb (hts _ kX8_init_3) rfl (fun _ h9 => h9) hK rfl hP hD hS hA (fun c9 => yk_zi c9 2) (by decide) rfl (Nat.le_of_ble_eq_true rfl) (by rw [hRc]; exact Nat.le_of_ble_eq_true rfl) (by rw [hRs]; exact Nat.le_of_ble_eq_true rfl) rfl rfl dX8_init_75 (fun a10 H hP9 hD9 hS9 => ?_)
  replace hP : va_P D vwCl ((ta, .inr (8, [.ref a1, .ref a2, .ref a3, .ref a4, .ref a5, .ref a6, .ref a7, .ref a8, .int 0, .int 0, .ref a9, .long 0, .long 0, .long 0, .int 0, .null, .int 0, .null, .null, .int 0, .null, .null, .null])) :: (a1, .inl (cy 0, 29, .inl (fun _ => 0))) :: (a2, .inl (cy 0, 725, .inl (fun _ => 0))) :: (a3, .inl (cy 0, 48, .inl (fun _ => 0))) :: (a4, .inl (cy 0, 4, .inl (fun _ => 0))) :: (a5, .inl (cy 2, 4, .inl (fun _ => 0))) :: (a6, .inl (cy 0, 4, .inl (fun _ => 0))) :: (a7, .inl (cy 0, 4, .inl (fun _ => 0))) :: (a8, .inl (cy 0, 64, .inl (fun _ => 0))) :: (a9, .inl (cy 0, 12, .inl (fun _ => 0))) :: (a10, .inl (cy 0, 2, .inl (fun _ => 0))) :: []) H := hP9
  replace hD : va_D A ((ta, .inr (8, [.ref a1, .ref a2, .ref a3, .ref a4, .ref a5, .ref a6, .ref a7, .ref a8, .int 0, .int 0, .ref a9, .long 0, .long 0, .long 0, .int 0, .null, .int 0, .null, .null, .int 0, .null, .null, .null])) :: (a1, .inl (cy 0, 29, .inl (fun _ => 0))) :: (a2, .inl (cy 0, 725, .inl (fun _ => 0))) :: (a3, .inl (cy 0, 48, .inl (fun _ => 0))) :: (a4, .inl (cy 0, 4, .inl (fun _ => 0))) :: (a5, .inl (cy 2, 4, .inl (fun _ => 0))) :: (a6, .inl (cy 0, 4, .inl (fun _ => 0))) :: (a7, .inl (cy 0, 4, .inl (fun _ => 0))) :: (a8, .inl (cy 0, 64, .inl (fun _ => 0))) :: (a9, .inl (cy 0, 12, .inl (fun _ => 0))) :: (a10, .inl (cy 0, 2, .inl (fun _ => 0))) :: []) := hD9
  replace hS := hS9
  clear hP9 hD9 hS9
  refine va_putF (D := D) (ci := 8) (v := .ref a10) (ty := (.array .int)) (C := RX8) (T := TX8) (N := 23) hx hb hts uX8_init_X8 tyX8 tyX8_ok nmX8 hown hK hP hD hS 0 rfl rfl 15 (by decide) (hts _ kX8_init_14) (fun _ h9 => h9) rfl hin rfl (by decide +kernel) (rfl) (rfl) (Nat.le_of_ble_eq_true rfl) dX8_init_77 (fun H locs hP9 hD9 hS9 => ?_)
  replace hP : va_P D vwCl ((ta, .inr (8, [.ref a1, .ref a2, .ref a3, .ref a4, .ref a5, .ref a6, .ref a7, .ref a8, .int 0, .int 0, .ref a9, .long 0, .long 0, .long 0, .int 0, .ref a10, .int 0, .null, .null, .int 0, .null, .null, .null])) :: (a1, .inl (cy 0, 29, .inl (fun _ => 0))) :: (a2, .inl (cy 0, 725, .inl (fun _ => 0))) :: (a3, .inl (cy 0, 48, .inl (fun _ => 0))) :: (a4, .inl (cy 0, 4, .inl (fun _ => 0))) :: (a5, .inl (cy 2, 4, .inl (fun _ => 0))) :: (a6, .inl (cy 0, 4, .inl (fun _ => 0))) :: (a7, .inl (cy 0, 4, .inl (fun _ => 0))) :: (a8, .inl (cy 0, 64, .inl (fun _ => 0))) :: (a9, .inl (cy 0, 12, .inl (fun _ => 0))) :: (a10, .inl (cy 0, 2, .inl (fun _ => 0))) :: []) H := hP9
  replace hD : va_D A ((ta, .inr (8, [.ref a1, .ref a2, .ref a3, .ref a4, .ref a5, .ref a6, .ref a7, .ref a8, .int 0, .int 0, .ref a9, .long 0, .long 0, .long 0, .int 0, .ref a10, .int 0, .null, .null, .int 0, .null, .null, .null])) :: (a1, .inl (cy 0, 29, .inl (fun _ => 0))) :: (a2, .inl (cy 0, 725, .inl (fun _ => 0))) :: (a3, .inl (cy 0, 48, .inl (fun _ => 0))) :: (a4, .inl (cy 0, 4, .inl (fun _ => 0))) :: (a5, .inl (cy 2, 4, .inl (fun _ => 0))) :: (a6, .inl (cy 0, 4, .inl (fun _ => 0))) :: (a7, .inl (cy 0, 4, .inl (fun _ => 0))) :: (a8, .inl (cy 0, 64, .inl (fun _ => 0))) :: (a9, .inl (cy 0, 12, .inl (fun _ => 0))) :: (a10, .inl (cy 0, 2, .inl (fun _ => 0))) :: []) := hD9
  replace hS := hS9
  clear hP9 hD9 hS9
  refine lv_aload_n hx hb dX8_init_80 rfl (lv_at hl 0 rfl) ?_
  refine lv_bipush (v := 64) hx hb dX8_init_81 (by decide) ?_
  refine yk_newA (t0 := 0) (atype := .int) (ty := .int) (N' := 64) (cells' := 11) (slots' := 960) (a0 := (64, .inl (fun _ => 0))) hx hb (hts _ kX8_init_3) rfl (fun _ h9 => h9) hK rfl hP hD hS hA (fun c9 => yk_zi c9 64) (by decide) rfl (Nat.le_of_ble_eq_true rfl) (by rw [hRc]; exact Nat.le_of_ble_eq_true rfl) (by rw [hRs]; exact Nat.le_of_ble_eq_true rfl) rfl rfl dX8_init_83 (fun a11 H hP9 hD9 hS9 => ?_)
  replace hP : va_P D vwCl ((ta, .inr (8, [.ref a1, .ref a2, .ref a3, .ref a4, .ref a5, .ref a6, .ref a7, .ref a8, .int 0, .int 0, .ref a9, .long 0, .long 0, .long 0, .int 0, .ref a10, .int 0, .null, .null, .int 0, .null, .null, .null])) :: (a1, .inl (cy 0, 29, .inl (fun _ => 0))) :: (a2, .inl (cy 0, 725, .inl (fun _ => 0))) :: (a3, .inl (cy 0, 48, .inl (fun _ => 0))) :: (a4, .inl (cy 0, 4, .inl (fun _ => 0))) :: (a5, .inl (cy 2, 4, .inl (fun _ => 0))) :: (a6, .inl (cy 0, 4, .inl (fun _ => 0))) :: (a7, .inl (cy 0, 4, .inl (fun _ => 0))) :: (a8, .inl (cy 0, 64, .inl (fun _ => 0))) :: (a9, .inl (cy 0, 12, .inl (fun _ => 0))) :: (a10, .inl (cy 0, 2, .inl (fun _ => 0))) :: (a11, .inl (cy 0, 64, .inl (fun _ => 0))) :: []) H := hP9
  replace hD : va_D A ((ta, .inr (8, [.ref a1, .ref a2, .ref a3, .ref a4, .ref a5, .ref a6, .ref a7, .ref a8, .int 0, .int 0, .ref a9, .long 0, .long 0, .long 0, .int 0, .ref a10, .int 0, .null, .null, .int 0, .null, .null, .null])) :: (a1, .inl (cy 0, 29, .inl (fun _ => 0))) :: (a2, .inl (cy 0, 725, .inl (fun _ => 0))) :: (a3, .inl (cy 0, 48, .inl (fun _ => 0))) :: (a4, .inl (cy 0, 4, .inl (fun _ => 0))) :: (a5, .inl (cy 2, 4, .inl (fun _ => 0))) :: (a6, .inl (cy 0, 4, .inl (fun _ => 0))) :: (a7, .inl (cy 0, 4, .inl (fun _ => 0))) :: (a8, .inl (cy 0, 64, .inl (fun _ => 0))) :: (a9, .inl (cy 0, 12, .inl (fun _ => 0))) :: (a10, .inl (cy 0, 2, .inl (fun _ => 0))) :: (a11, .inl (cy 0, 64, .inl (fun _ => 0))) :: []) := hD9
  replace hS := hS9
  clear hP9 hD9 hS9
  refine va_putF (D := D) (ci := 8) (v := .ref a11) (ty := (.array .int)) (C := RX8) (T := TX8) (N := 23) hx hb hts uX8_init_X8 tyX8 tyX8_ok nmX8 hown hK hP hD hS 0 rfl rfl 17 (by decide) (hts _ kX8_init_15) (fun _ h9 => h9) rfl hin rfl (by decide +kernel) (rfl) (rfl) (Nat.le_of_ble_eq_true rfl) dX8_init_85 (fun H locs hP9 hD9 hS9 => ?_)
  replace hP : va_P D vwCl ((ta, .inr (8, [.ref a1, .ref a2, .ref a3, .ref a4, .ref a5, .ref a6, .ref a7, .ref a8, .int 0, .int 0, .ref a9, .long 0, .long 0, .long 0, .int 0, .ref a10, .int 0, .ref a11, .null, .int 0, .null, .null, .null])) :: (a1, .inl (cy 0, 29, .inl (fun _ => 0))) :: (a2, .inl (cy 0, 725, .inl (fun _ => 0))) :: (a3, .inl (cy 0, 48, .inl (fun _ => 0))) :: (a4, .inl (cy 0, 4, .inl (fun _ => 0))) :: (a5, .inl (cy 2, 4, .inl (fun _ => 0))) :: (a6, .inl (cy 0, 4, .inl (fun _ => 0))) :: (a7, .inl (cy 0, 4, .inl (fun _ => 0))) :: (a8, .inl (cy 0, 64, .inl (fun _ => 0))) :: (a9, .inl (cy 0, 12, .inl (fun _ => 0))) :: (a10, .inl (cy 0, 2, .inl (fun _ => 0))) :: (a11, .inl (cy 0, 64, .inl (fun _ => 0))) :: []) H := hP9
  replace hD : va_D A ((ta, .inr (8, [.ref a1, .ref a2, .ref a3, .ref a4, .ref a5, .ref a6, .ref a7, .ref a8, .int 0, .int 0, .ref a9, .long 0, .long 0, .long 0, .int 0, .ref a10, .int 0, .ref a11, .null, .int 0, .null, .null, .null])) :: (a1, .inl (cy 0, 29, .inl (fun _ => 0))) :: (a2, .inl (cy 0, 725, .inl (fun _ => 0))) :: (a3, .inl (cy 0, 48, .inl (fun _ => 0))) :: (a4, .inl (cy 0, 4, .inl (fun _ => 0))) :: (a5, .inl (cy 2, 4, .inl (fun _ => 0))) :: (a6, .inl (cy 0, 4, .inl (fun _ => 0))) :: (a7, .inl (cy 0, 4, .inl (fun _ => 0))) :: (a8, .inl (cy 0, 64, .inl (fun _ => 0))) :: (a9, .inl (cy 0, 12, .inl (fun _ => 0))) :: (a10, .inl (cy 0, 2, .inl (fun _ => 0))) :: (a11, .inl (cy 0, 64, .inl (fun _ => 0))) :: []) := hD9
  replace hS := hS9
  clear hP9 hD9 hS9
  refine lv_aload_n hx hb dX8_init_88 rfl (lv_at hl 0 rfl) ?_
  refine lv_bipush (v := 64) hx hb dX8_init_89 (by decide) ?_
  refine yk_newA (t0 := 0) (atype := .int) (ty := .int) (N' := 64) (cells' := 12) (slots' := 1024) (a0 := (64, .inl (fun _ => 0))) hx hb (hts _ kX8_init_3) rfl (fun _ h9 => h9) hK rfl hP hD hS hA (fun c9 => yk_zi c9 64) (by decide) rfl (Nat.le_of_ble_eq_true rfl) (by rw [hRc]; exact Nat.le_of_ble_eq_true rfl) (by rw [hRs]; exact Nat.le_of_ble_eq_true rfl) rfl rfl dX8_init_91 (fun a12 H hP9 hD9 hS9 => ?_)
  replace hP : va_P D vwCl ((ta, .inr (8, [.ref a1, .ref a2, .ref a3, .ref a4, .ref a5, .ref a6, .ref a7, .ref a8, .int 0, .int 0, .ref a9, .long 0, .long 0, .long 0, .int 0, .ref a10, .int 0, .ref a11, .null, .int 0, .null, .null, .null])) :: (a1, .inl (cy 0, 29, .inl (fun _ => 0))) :: (a2, .inl (cy 0, 725, .inl (fun _ => 0))) :: (a3, .inl (cy 0, 48, .inl (fun _ => 0))) :: (a4, .inl (cy 0, 4, .inl (fun _ => 0))) :: (a5, .inl (cy 2, 4, .inl (fun _ => 0))) :: (a6, .inl (cy 0, 4, .inl (fun _ => 0))) :: (a7, .inl (cy 0, 4, .inl (fun _ => 0))) :: (a8, .inl (cy 0, 64, .inl (fun _ => 0))) :: (a9, .inl (cy 0, 12, .inl (fun _ => 0))) :: (a10, .inl (cy 0, 2, .inl (fun _ => 0))) :: (a11, .inl (cy 0, 64, .inl (fun _ => 0))) :: (a12, .inl (cy 0, 64, .inl (fun _ => 0))) :: []) H := hP9
  replace hD : va_D A ((ta, .inr (8, [.ref a1, .ref a2, .ref a3, .ref a4, .ref a5, .ref a6, .ref a7, .ref a8, .int 0, .int 0, .ref a9, .long 0, .long 0, .long 0, .int 0, .ref a10, .int 0, .ref a11, .null, .int 0, .null, .null, .null])) :: (a1, .inl (cy 0, 29, .inl (fun _ => 0))) :: (a2, .inl (cy 0, 725, .inl (fun _ => 0))) :: (a3, .inl (cy 0, 48, .inl (fun _ => 0))) :: (a4, .inl (cy 0, 4, .inl (fun _ => 0))) :: (a5, .inl (cy 2, 4, .inl (fun _ => 0))) :: (a6, .inl (cy 0, 4, .inl (fun _ => 0))) :: (a7, .inl (cy 0, 4, .inl (fun _ => 0))) :: (a8, .inl (cy 0, 64, .inl (fun _ => 0))) :: (a9, .inl (cy 0, 12, .inl (fun _ => 0))) :: (a10, .inl (cy 0, 2, .inl (fun _ => 0))) :: (a11, .inl (cy 0, 64, .inl (fun _ => 0))) :: (a12, .inl (cy 0, 64, .inl (fun _ => 0))) :: []) := hD9
  replace hS := hS9
  clear hP9 hD9 hS9
  refine va_putF (D := D) (ci := 8) (v := .ref a12) (ty := (.array .int)) (C := RX8) (T := TX8) (N := 23) hx hb hts uX8_init_X8 tyX8 tyX8_ok nmX8 hown hK hP hD hS 0 rfl rfl 18 (by decide) (hts _ kX8_init_16) (fun _ h9 => h9) rfl hin rfl (by decide +kernel) (rfl) (rfl) (Nat.le_of_ble_eq_true rfl) dX8_init_93 (fun H locs hP9 hD9 hS9 => ?_)
  replace hP : va_P D vwCl ((ta, .inr (8, [.ref a1, .ref a2, .ref a3, .ref a4, .ref a5, .ref a6, .ref a7, .ref a8, .int 0, .int 0, .ref a9, .long 0, .long 0, .long 0, .int 0, .ref a10, .int 0, .ref a11, .ref a12, .int 0, .null, .null, .null])) :: (a1, .inl (cy 0, 29, .inl (fun _ => 0))) :: (a2, .inl (cy 0, 725, .inl (fun _ => 0))) :: (a3, .inl (cy 0, 48, .inl (fun _ => 0))) :: (a4, .inl (cy 0, 4, .inl (fun _ => 0))) :: (a5, .inl (cy 2, 4, .inl (fun _ => 0))) :: (a6, .inl (cy 0, 4, .inl (fun _ => 0))) :: (a7, .inl (cy 0, 4, .inl (fun _ => 0))) :: (a8, .inl (cy 0, 64, .inl (fun _ => 0))) :: (a9, .inl (cy 0, 12, .inl (fun _ => 0))) :: (a10, .inl (cy 0, 2, .inl (fun _ => 0))) :: (a11, .inl (cy 0, 64, .inl (fun _ => 0))) :: (a12, .inl (cy 0, 64, .inl (fun _ => 0))) :: []) H := hP9
  replace hD : va_D A ((ta, .inr (8, [.ref a1, .ref a2, .ref a3, .ref a4, .ref a5, .ref a6, .ref a7, .ref a8, .int 0, .int 0, .ref a9, .long 0, .long 0, .long 0, .int 0, .ref a10, .int 0, .ref a11, .ref a12, .int 0, .null, .null, .null])) :: (a1, .inl (cy 0, 29, .inl (fun _ => 0))) :: (a2, .inl (cy 0, 725, .inl (fun _ => 0))) :: (a3, .inl (cy 0, 48, .inl (fun _ => 0))) :: (a4, .inl (cy 0, 4, .inl (fun _ => 0))) :: (a5, .inl (cy 2, 4, .inl (fun _ => 0))) :: (a6, .inl (cy 0, 4, .inl (fun _ => 0))) :: (a7, .inl (cy 0, 4, .inl (fun _ => 0))) :: (a8, .inl (cy 0, 64, .inl (fun _ => 0))) :: (a9, .inl (cy 0, 12, .inl (fun _ => 0))) :: (a10, .inl (cy 0, 2, .inl (fun _ => 0))) :: (a11, .inl (cy 0, 64, .inl (fun _ => 0))) :: (a12, .inl (cy 0, 64, .inl (fun _ => 0))) :: []) := hD9
  replace hS := hS9
  clear hP9 hD9 hS9
  refine lv_aload_n hx hb dX8_init_96 rfl (lv_at hl 0 rfl) ?_
  refine lv_bipush (v := 10) hx hb dX8_init_97 (by decide) ?_
  refine yk_newA (t0 := 1) (atype := .long) (ty := .long) (N' := 10) (cells' := 13) (slots' := 1034) (a0 := (10, .inr (.inl (fun _ => 0)))) hx hb (hts _ kX8_init_17) rfl (fun _ h9 => h9) hK rfl hP hD hS hA (fun c9 => yk_zl c9 10) (by decide) rfl (Nat.le_of_ble_eq_true rfl) (by rw [hRc]; exact Nat.le_of_ble_eq_true rfl) (by rw [hRs]; exact Nat.le_of_ble_eq_true rfl) rfl rfl dX8_init_99 (fun a13 H hP9 hD9 hS9 => ?_)
  replace hP : va_P D vwCl ((ta, .inr (8, [.ref a1, .ref a2, .ref a3, .ref a4, .ref a5, .ref a6, .ref a7, .ref a8, .int 0, .int 0, .ref a9, .long 0, .long 0, .long 0, .int 0, .ref a10, .int 0, .ref a11, .ref a12, .int 0, .null, .null, .null])) :: (a1, .inl (cy 0, 29, .inl (fun _ => 0))) :: (a2, .inl (cy 0, 725, .inl (fun _ => 0))) :: (a3, .inl (cy 0, 48, .inl (fun _ => 0))) :: (a4, .inl (cy 0, 4, .inl (fun _ => 0))) :: (a5, .inl (cy 2, 4, .inl (fun _ => 0))) :: (a6, .inl (cy 0, 4, .inl (fun _ => 0))) :: (a7, .inl (cy 0, 4, .inl (fun _ => 0))) :: (a8, .inl (cy 0, 64, .inl (fun _ => 0))) :: (a9, .inl (cy 0, 12, .inl (fun _ => 0))) :: (a10, .inl (cy 0, 2, .inl (fun _ => 0))) :: (a11, .inl (cy 0, 64, .inl (fun _ => 0))) :: (a12, .inl (cy 0, 64, .inl (fun _ => 0))) :: (a13, .inl (cy 1, 10, .inr (.inl (fun _ => 0)))) :: []) H := hP9
  replace hD : va_D A ((ta, .inr (8, [.ref a1, .ref a2, .ref a3, .ref a4, .ref a5, .ref a6, .ref a7, .ref a8, .int 0, .int 0, .ref a9, .long 0, .long 0, .long 0, .int 0, .ref a10, .int 0, .ref a11, .ref a12, .int 0, .null, .null, .null])) :: (a1, .inl (cy 0, 29, .inl (fun _ => 0))) :: (a2, .inl (cy 0, 725, .inl (fun _ => 0))) :: (a3, .inl (cy 0, 48, .inl (fun _ => 0))) :: (a4, .inl (cy 0, 4, .inl (fun _ => 0))) :: (a5, .inl (cy 2, 4, .inl (fun _ => 0))) :: (a6, .inl (cy 0, 4, .inl (fun _ => 0))) :: (a7, .inl (cy 0, 4, .inl (fun _ => 0))) :: (a8, .inl (cy 0, 64, .inl (fun _ => 0))) :: (a9, .inl (cy 0, 12, .inl (fun _ => 0))) :: (a10, .inl (cy 0, 2, .inl (fun _ => 0))) :: (a11, .inl (cy 0, 64, .inl (fun _ => 0))) :: (a12, .inl (cy 0, 64, .inl (fun _ => 0))) :: (a13, .inl (cy 1, 10, .inr (.inl (fun _ => 0)))) :: []) := hD9
  replace hS := hS9
  clear hP9 hD9 hS9
  refine va_putF (D := D) (ci := 8) (v := .ref a13) (ty := (.array .long)) (C := RX8) (T := TX8) (N := 23) hx hb hts uX8_init_X8 tyX8 tyX8_ok nmX8 hown hK hP hD hS 0 rfl rfl 20 (by decide) (hts _ kX8_init_18) (fun _ h9 => h9) rfl hin rfl (by decide +kernel) (rfl) (rfl) (Nat.le_of_ble_eq_true rfl) dX8_init_101 (fun H locs hP9 hD9 hS9 => ?_)
  replace hP : va_P D vwCl ((ta, .inr (8, [.ref a1, .ref a2, .ref a3, .ref a4, .ref a5, .ref a6, .ref a7, .ref a8, .int 0, .int 0, .ref a9, .long 0, .long 0, .long 0, .int 0, .ref a10, .int 0, .ref a11, .ref a12, .int 0, .ref a13, .null, .null])) :: (a1, .inl (cy 0, 29, .inl (fun _ => 0))) :: (a2, .inl (cy 0, 725, .inl (fun _ => 0))) :: (a3, .inl (cy 0, 48, .inl (fun _ => 0))) :: (a4, .inl (cy 0, 4, .inl (fun _ => 0))) :: (a5, .inl (cy 2, 4, .inl (fun _ => 0))) :: (a6, .inl (cy 0, 4, .inl (fun _ => 0))) :: (a7, .inl (cy 0, 4, .inl (fun _ => 0))) :: (a8, .inl (cy 0, 64, .inl (fun _ => 0))) :: (a9, .inl (cy 0, 12, .inl (fun _ => 0))) :: (a10, .inl (cy 0, 2, .inl (fun _ => 0))) :: (a11, .inl (cy 0, 64, .inl (fun _ => 0))) :: (a12, .inl (cy 0, 64, .inl (fun _ => 0))) :: (a13, .inl (cy 1, 10, .inr (.inl (fun _ => 0)))) :: []) H := hP9
  replace hD : va_D A ((ta, .inr (8, [.ref a1, .ref a2, .ref a3, .ref a4, .ref a5, .ref a6, .ref a7, .ref a8, .int 0, .int 0, .ref a9, .long 0, .long 0, .long 0, .int 0, .ref a10, .int 0, .ref a11, .ref a12, .int 0, .ref a13, .null, .null])) :: (a1, .inl (cy 0, 29, .inl (fun _ => 0))) :: (a2, .inl (cy 0, 725, .inl (fun _ => 0))) :: (a3, .inl (cy 0, 48, .inl (fun _ => 0))) :: (a4, .inl (cy 0, 4, .inl (fun _ => 0))) :: (a5, .inl (cy 2, 4, .inl (fun _ => 0))) :: (a6, .inl (cy 0, 4, .inl (fun _ => 0))) :: (a7, .inl (cy 0, 4, .inl (fun _ => 0))) :: (a8, .inl (cy 0, 64, .inl (fun _ => 0))) :: (a9, .inl (cy 0, 12, .inl (fun _ => 0))) :: (a10, .inl (cy 0, 2, .inl (fun _ => 0))) :: (a11, .inl (cy 0, 64, .inl (fun _ => 0))) :: (a12, .inl (cy 0, 64, .inl (fun _ => 0))) :: (a13, .inl (cy 1, 10, .inr (.inl (fun _ => 0)))) :: []) := hD9
  replace hS := hS9
  clear hP9 hD9 hS9
  refine lv_aload_n hx hb dX8_init_104 rfl (lv_at hl 0 rfl) ?_
  refine lv_bipush (v := 50) hx hb dX8_init_105 (by decide) ?_
  refine yk_newA (t0 := 1) (atype := .long) (ty := .long) (N' := 50) (cells' := 14) (slots' := 1084) (a0 := (50, .inr (.inl (fun _ => 0)))) hx hb (hts _ kX8_init_17) rfl (fun _ h9 => h9) hK rfl hP hD hS hA (fun c9 => yk_zl c9 50) (by decide) rfl (Nat.le_of_ble_eq_true rfl) (by rw [hRc]; exact Nat.le_of_ble_eq_true rfl) (by rw [hRs]; exact Nat.le_of_ble_eq_true rfl) rfl rfl dX8_init_107 (fun a14 H hP9 hD9 hS9 => ?_)
  replace hP : va_P D vwCl ((ta, .inr (8, [.ref a1, .ref a2, .ref a3, .ref a4, .ref a5, .ref a6, .ref a7, .ref a8, .int 0, .int 0, .ref a9, .long 0, .long 0, .long 0, .int 0, .ref a10, .int 0, .ref a11, .ref a12, .int 0, .ref a13, .null, .null])) :: (a1, .inl (cy 0, 29, .inl (fun _ => 0))) :: (a2, .inl (cy 0, 725, .inl (fun _ => 0))) :: (a3, .inl (cy 0, 48, .inl (fun _ => 0))) :: (a4, .inl (cy 0, 4, .inl (fun _ => 0))) :: (a5, .inl (cy 2, 4, .inl (fun _ => 0))) :: (a6, .inl (cy 0, 4, .inl (fun _ => 0))) :: (a7, .inl (cy 0, 4, .inl (fun _ => 0))) :: (a8, .inl (cy 0, 64, .inl (fun _ => 0))) :: (a9, .inl (cy 0, 12, .inl (fun _ => 0))) :: (a10, .inl (cy 0, 2, .inl (fun _ => 0))) :: (a11, .inl (cy 0, 64, .inl (fun _ => 0))) :: (a12, .inl (cy 0, 64, .inl (fun _ => 0))) :: (a13, .inl (cy 1, 10, .inr (.inl (fun _ => 0)))) :: (a14, .inl (cy 1, 50, .inr (.inl (fun _ => 0)))) :: []) H := hP9
  replace hD : va_D A ((ta, .inr (8, [.ref a1, .ref a2, .ref a3, .ref a4, .ref a5, .ref a6, .ref a7, .ref a8, .int 0, .int 0, .ref a9, .long 0, .long 0, .long 0, .int 0, .ref a10, .int 0, .ref a11, .ref a12, .int 0, .ref a13, .null, .null])) :: (a1, .inl (cy 0, 29, .inl (fun _ => 0))) :: (a2, .inl (cy 0, 725, .inl (fun _ => 0))) :: (a3, .inl (cy 0, 48, .inl (fun _ => 0))) :: (a4, .inl (cy 0, 4, .inl (fun _ => 0))) :: (a5, .inl (cy 2, 4, .inl (fun _ => 0))) :: (a6, .inl (cy 0, 4, .inl (fun _ => 0))) :: (a7, .inl (cy 0, 4, .inl (fun _ => 0))) :: (a8, .inl (cy 0, 64, .inl (fun _ => 0))) :: (a9, .inl (cy 0, 12, .inl (fun _ => 0))) :: (a10, .inl (cy 0, 2, .inl (fun _ => 0))) :: (a11, .inl (cy 0, 64, .inl (fun _ => 0))) :: (a12, .inl (cy 0, 64, .inl (fun _ => 0))) :: (a13, .inl (cy 1, 10, .inr (.inl (fun _ => 0)))) :: (a14, .inl (cy 1, 50, .inr (.inl (fun _ => 0)))) :: []) := hD9
  replace hS := hS9
  clear hP9 hD9 hS9
  refine va_putF (D := D) (ci := 8) (v := .ref a14) (ty := (.array .long)) (C := RX8) (T := TX8) (N := 23) hx hb hts uX8_init_X8 tyX8 tyX8_ok nmX8 hown hK hP hD hS 0 rfl rfl 21 (by decide) (hts _ kX8_init_19) (fun _ h9 => h9) rfl hin rfl (by decide +kernel) (rfl) (rfl) (Nat.le_of_ble_eq_true rfl) dX8_init_109 (fun H locs hP9 hD9 hS9 => ?_)
  replace hP : va_P D vwCl ((ta, .inr (8, [.ref a1, .ref a2, .ref a3, .ref a4, .ref a5, .ref a6, .ref a7, .ref a8, .int 0, .int 0, .ref a9, .long 0, .long 0, .long 0, .int 0, .ref a10, .int 0, .ref a11, .ref a12, .int 0, .ref a13, .ref a14, .null])) :: (a1, .inl (cy 0, 29, .inl (fun _ => 0))) :: (a2, .inl (cy 0, 725, .inl (fun _ => 0))) :: (a3, .inl (cy 0, 48, .inl (fun _ => 0))) :: (a4, .inl (cy 0, 4, .inl (fun _ => 0))) :: (a5, .inl (cy 2, 4, .inl (fun _ => 0))) :: (a6, .inl (cy 0, 4, .inl (fun _ => 0))) :: (a7, .inl (cy 0, 4, .inl (fun _ => 0))) :: (a8, .inl (cy 0, 64, .inl (fun _ => 0))) :: (a9, .inl (cy 0, 12, .inl (fun _ => 0))) :: (a10, .inl (cy 0, 2, .inl (fun _ => 0))) :: (a11, .inl (cy 0, 64, .inl (fun _ => 0))) :: (a12, .inl (cy 0, 64, .inl (fun _ => 0))) :: (a13, .inl (cy 1, 10, .inr (.inl (fun _ => 0)))) :: (a14, .inl (cy 1, 50, .inr (.inl (fun _ => 0)))) :: []) H := hP9
  replace hD : va_D A ((ta, .inr (8, [.ref a1, .ref a2, .ref a3, .ref a4, .ref a5, .ref a6, .ref a7, .ref a8, .int 0, .int 0, .ref a9, .long 0, .long 0, .long 0, .int 0, .ref a10, .int 0, .ref a11, .ref a12, .int 0, .ref a13, .ref a14, .null])) :: (a1, .inl (cy 0, 29, .inl (fun _ => 0))) :: (a2, .inl (cy 0, 725, .inl (fun _ => 0))) :: (a3, .inl (cy 0, 48, .inl (fun _ => 0))) :: (a4, .inl (cy 0, 4, .inl (fun _ => 0))) :: (a5, .inl (cy 2, 4, .inl (fun _ => 0))) :: (a6, .inl (cy 0, 4, .inl (fun _ => 0))) :: (a7, .inl (cy 0, 4, .inl (fun _ => 0))) :: (a8, .inl (cy 0, 64, .inl (fun _ => 0))) :: (a9, .inl (cy 0, 12, .inl (fun _ => 0))) :: (a10, .inl (cy 0, 2, .inl (fun _ => 0))) :: (a11, .inl (cy 0, 64, .inl (fun _ => 0))) :: (a12, .inl (cy 0, 64, .inl (fun _ => 0))) :: (a13, .inl (cy 1, 10, .inr (.inl (fun _ => 0)))) :: (a14, .inl (cy 1, 50, .inr (.inl (fun _ => 0)))) :: []) := hD9
  replace hS := hS9
  clear hP9 hD9 hS9
  refine lv_aload_n hx hb dX8_init_112 rfl (lv_at hl 0 rfl) ?_
  refine lv_bipush (v := 16) hx hb dX8_init_113 (by decide) ?_
  refine yk_newA (t0 := 0) (atype := .int) (ty := .int) (N' := 16) (cells' := 15) (slots' := 1100) (a0 := (16, .inl (fun _ => 0))) hx hb (hts _ kX8_init_3) rfl (fun _ h9 => h9) hK rfl hP hD hS hA (fun c9 => yk_zi c9 16) (by decide) rfl (Nat.le_of_ble_eq_true rfl) (by rw [hRc]; exact Nat.le_of_ble_eq_true rfl) (by rw [hRs]; exact Nat.le_of_ble_eq_true rfl) rfl rfl dX8_init_115 (fun a15 H hP9 hD9 hS9 => ?_)
  replace hP : va_P D vwCl ((ta, .inr (8, [.ref a1, .ref a2, .ref a3, .ref a4, .ref a5, .ref a6, .ref a7, .ref a8, .int 0, .int 0, .ref a9, .long 0, .long 0, .long 0, .int 0, .ref a10, .int 0, .ref a11, .ref a12, .int 0, .ref a13, .ref a14, .null])) :: (a1, .inl (cy 0, 29, .inl (fun _ => 0))) :: (a2, .inl (cy 0, 725, .inl (fun _ => 0))) :: (a3, .inl (cy 0, 48, .inl (fun _ => 0))) :: (a4, .inl (cy 0, 4, .inl (fun _ => 0))) :: (a5, .inl (cy 2, 4, .inl (fun _ => 0))) :: (a6, .inl (cy 0, 4, .inl (fun _ => 0))) :: (a7, .inl (cy 0, 4, .inl (fun _ => 0))) :: (a8, .inl (cy 0, 64, .inl (fun _ => 0))) :: (a9, .inl (cy 0, 12, .inl (fun _ => 0))) :: (a10, .inl (cy 0, 2, .inl (fun _ => 0))) :: (a11, .inl (cy 0, 64, .inl (fun _ => 0))) :: (a12, .inl (cy 0, 64, .inl (fun _ => 0))) :: (a13, .inl (cy 1, 10, .inr (.inl (fun _ => 0)))) :: (a14, .inl (cy 1, 50, .inr (.inl (fun _ => 0)))) :: (a15, .inl (cy 0, 16, .inl (fun _ => 0))) :: []) H := hP9
  replace hD : va_D A ((ta, .inr (8, [.ref a1, .ref a2, .ref a3, .ref a4, .ref a5, .ref a6, .ref a7, .ref a8, .int 0, .int 0, .ref a9, .long 0, .long 0, .long 0, .int 0, .ref a10, .int 0, .ref a11, .ref a12, .int 0, .ref a13, .ref a14, .null])) :: (a1, .inl (cy 0, 29, .inl (fun _ => 0))) :: (a2, .inl (cy 0, 725, .inl (fun _ => 0))) :: (a3, .inl (cy 0, 48, .inl (fun _ => 0))) :: (a4, .inl (cy 0, 4, .inl (fun _ => 0))) :: (a5, .inl (cy 2, 4, .inl (fun _ => 0))) :: (a6, .inl (cy 0, 4, .inl (fun _ => 0))) :: (a7, .inl (cy 0, 4, .inl (fun _ => 0))) :: (a8, .inl (cy 0, 64, .inl (fun _ => 0))) :: (a9, .inl (cy 0, 12, .inl (fun _ => 0))) :: (a10, .inl (cy 0, 2, .inl (fun _ => 0))) :: (a11, .inl (cy 0, 64, .inl (fun _ => 0))) :: (a12, .inl (cy 0, 64, .inl (fun _ => 0))) :: (a13, .inl (cy 1, 10, .inr (.inl (fun _ => 0)))) :: (a14, .inl (cy 1, 50, .inr (.inl (fun _ => 0)))) :: (a15, .inl (cy 0, 16, .inl (fun _ => 0))) :: []) := hD9
  replace hS := hS9
  clear hP9 hD9 hS9
  refine va_putF (D := D) (ci := 8) (v := .ref a15) (ty := (.array .int)) (C := RX8) (T := TX8) (N := 23) hx hb hts uX8_init_X8 tyX8 tyX8_ok nmX8 hown hK hP hD hS 0 rfl rfl 22 (by decide) (hts _ kX8_init_20) (fun _ h9 => h9) rfl hin rfl (by decide +kernel) (rfl) (rfl) (Nat.le_of_ble_eq_true rfl) dX8_init_117 (fun H locs hP9 hD9 hS9 => ?_)
  replace hP : va_P D vwCl ((ta, .inr (8, [.ref a1, .ref a2, .ref a3, .ref a4, .ref a5, .ref a6, .ref a7, .ref a8, .int 0, .int 0, .ref a9, .long 0, .long 0, .long 0, .int 0, .ref a10, .int 0, .ref a11, .ref a12, .int 0, .ref a13, .ref a14, .ref a15])) :: (a1, .inl (cy 0, 29, .inl (fun _ => 0))) :: (a2, .inl (cy 0, 725, .inl (fun _ => 0))) :: (a3, .inl (cy 0, 48, .inl (fun _ => 0))) :: (a4, .inl (cy 0, 4, .inl (fun _ => 0))) :: (a5, .inl (cy 2, 4, .inl (fun _ => 0))) :: (a6, .inl (cy 0, 4, .inl (fun _ => 0))) :: (a7, .inl (cy 0, 4, .inl (fun _ => 0))) :: (a8, .inl (cy 0, 64, .inl (fun _ => 0))) :: (a9, .inl (cy 0, 12, .inl (fun _ => 0))) :: (a10, .inl (cy 0, 2, .inl (fun _ => 0))) :: (a11, .inl (cy 0, 64, .inl (fun _ => 0))) :: (a12, .inl (cy 0, 64, .inl (fun _ => 0))) :: (a13, .inl (cy 1, 10, .inr (.inl (fun _ => 0)))) :: (a14, .inl (cy 1, 50, .inr (.inl (fun _ => 0)))) :: (a15, .inl (cy 0, 16, .inl (fun _ => 0))) :: []) H := hP9
  replace hD : va_D A ((ta, .inr (8, [.ref a1, .ref a2, .ref a3, .ref a4, .ref a5, .ref a6, .ref a7, .ref a8, .int 0, .int 0, .ref a9, .long 0, .long 0, .long 0, .int 0, .ref a10, .int 0, .ref a11, .ref a12, .int 0, .ref a13, .ref a14, .ref a15])) :: (a1, .inl (cy 0, 29, .inl (fun _ => 0))) :: (a2, .inl (cy 0, 725, .inl (fun _ => 0))) :: (a3, .inl (cy 0, 48, .inl (fun _ => 0))) :: (a4, .inl (cy 0, 4, .inl (fun _ => 0))) :: (a5, .inl (cy 2, 4, .inl (fun _ => 0))) :: (a6, .inl (cy 0, 4, .inl (fun _ => 0))) :: (a7, .inl (cy 0, 4, .inl (fun _ => 0))) :: (a8, .inl (cy 0, 64, .inl (fun _ => 0))) :: (a9, .inl (cy 0, 12, .inl (fun _ => 0))) :: (a10, .inl (cy 0, 2, .inl (fun _ => 0))) :: (a11, .inl (cy 0, 64, .inl (fun _ => 0))) :: (a12, .inl (cy 0, 64, .inl (fun _ => 0))) :: (a13, .inl (cy 1, 10, .inr (.inl (fun _ => 0)))) :: (a14, .inl (cy 1, 50, .inr (.inl (fun _ => 0)))) :: (a15, .inl (cy 0, 16, .inl (fun _ => 0))) :: []) := hD9
  replace hS := hS9
  clear hP9 hD9 hS9
  exact hQ _ _ _ _ (yk_cat (a1 :: a2 :: a3 :: a4 :: a5 :: a6 :: a7 :: a8 :: a9 :: a10 :: a11 :: a12 :: a13 :: a14 :: a15 :: []) (fun i => 0)) dX8_init_120 hP hD hS
