theorem hv_X4_meetsZeroOf : yX4_meetsZeroOf.cls = RX4 ∧ yX4_meetsZeroOf.cls ≠ "java/lang/invoke/MethodHandle" ∧ yX4_meetsZeroOf.cls ≠ "java/lang/invoke/VarHandle" ∧ (parseMethodDescriptor yX4_meetsZeroOf.desc).map (fun d => d.parameters.length) = some 1 := by decide +kernel
theorem hs_X4_meetsZeroOf : yX4_meetsZeroOf.cls ≠ "java/lang/invoke/MethodHandle" ∧ yX4_meetsZeroOf.cls ≠ "java/lang/invoke/VarHandle" ∧ (parseMethodDescriptor yX4_meetsZeroOf.desc).map (fun d => d.parameters.length) = some 1 := by decide +kernel
theorem hv_X4_upwardCrossings : yX4_upwardCrossings.cls = RX4 ∧ yX4_upwardCrossings.cls ≠ "java/lang/invoke/MethodHandle" ∧ yX4_upwardCrossings.cls ≠ "java/lang/invoke/VarHandle" ∧ (parseMethodDescriptor yX4_upwardCrossings.desc).map (fun d => d.parameters.length) = some 1 := by decide +kernel
theorem hs_X4_upwardCrossings : yX4_upwardCrossings.cls ≠ "java/lang/invoke/MethodHandle" ∧ yX4_upwardCrossings.cls ≠ "java/lang/invoke/VarHandle" ∧ (parseMethodDescriptor yX4_upwardCrossings.desc).map (fun d => d.parameters.length) = some 1 := by decide +kernel
theorem hv_X7_isSum : yX7_isSum.cls = RX7 ∧ yX7_isSum.cls ≠ "java/lang/invoke/MethodHandle" ∧ yX7_isSum.cls ≠ "java/lang/invoke/VarHandle" ∧ (parseMethodDescriptor yX7_isSum.desc).map (fun d => d.parameters.length) = some 5 := by decide +kernel
theorem hs_X7_isSum : yX7_isSum.cls ≠ "java/lang/invoke/MethodHandle" ∧ yX7_isSum.cls ≠ "java/lang/invoke/VarHandle" ∧ (parseMethodDescriptor yX7_isSum.desc).map (fun d => d.parameters.length) = some 5 := by decide +kernel
theorem hv_X7_clearChange : yX7_clearChange.cls = RX7 ∧ yX7_clearChange.cls ≠ "java/lang/invoke/MethodHandle" ∧ yX7_clearChange.cls ≠ "java/lang/invoke/VarHandle" ∧ (parseMethodDescriptor yX7_clearChange.desc).map (fun d => d.parameters.length) = some 0 := by decide +kernel
theorem hs_X7_clearChange : yX7_clearChange.cls ≠ "java/lang/invoke/MethodHandle" ∧ yX7_clearChange.cls ≠ "java/lang/invoke/VarHandle" ∧ (parseMethodDescriptor yX7_clearChange.desc).map (fun d => d.parameters.length) = some 0 := by decide +kernel
theorem hv_X7_addChange : yX7_addChange.cls = RX7 ∧ yX7_addChange.cls ≠ "java/lang/invoke/MethodHandle" ∧ yX7_addChange.cls ≠ "java/lang/invoke/VarHandle" ∧ (parseMethodDescriptor yX7_addChange.desc).map (fun d => d.parameters.length) = some 4 := by decide +kernel
theorem hs_X7_addChange : yX7_addChange.cls ≠ "java/lang/invoke/MethodHandle" ∧ yX7_addChange.cls ≠ "java/lang/invoke/VarHandle" ∧ (parseMethodDescriptor yX7_addChange.desc).map (fun d => d.parameters.length) = some 4 := by decide +kernel
theorem kX7_held_0 : Cond.fieldLink RX7 22 "FlowPlane" "fence" "LFlowPlane$Fence;" ∈ wsX7_held := by decide +kernel
theorem kX7_held_1 : Cond.fieldLink RX7 160 "FlowPlane$Fence" "count" "I" ∈ wsX7_held := by decide +kernel
theorem kX7_held_2 : Cond.constant RX7 182 (-1000004) ∈ wsX7_held := by decide +kernel
theorem uX7_held_X7 : ∀ w ∈ u_ws RX7 TX7 13, w ∈ wsX7_held := by decide +kernel
theorem uX7_held_X0 : ∀ w ∈ u_ws RX0 TX0 3, w ∈ wsX7_held := by decide +kernel
def l_X7_held_29 (fu : Nat → Int32) (fv : Nat → Int32) (xs : Nat → Int32) (ys : Nat → Int32) (n : Nat) (ax : Int64) (bx : Int64) (cx : Int64) (ay : Int64) (by_ : Int64) (cy_ : Int64) (aw : Int64) (bw : Int64) (cw : Int64) (fi : Int32) (bq : Int32) : Nat → Nat → Int64 → Int64 → Int64 → Int64 → Int64 → Int64 → Int64 → Int64 → Int64 → Int32 × Int32 × Int64 × Int64 × Int64 × Int64 × Int64 × Int64 × Int64 × Int64 × Int64
  | 0, ki, zQL_0_29, zQL_1_29, zQL_2_29, zQX_0_29, zQX_1_29, zQX_2_29, zQY_0_29, zQY_1_29, zQY_2_29 => (0, fi, ax, bx, cx, ay, by_, cy_, aw, bw, cw)
  | fu_X7_held_29 + 1, ki, zQL_0_29, zQL_1_29, zQL_2_29, zQX_0_29, zQX_1_29, zQX_2_29, zQY_0_29, zQY_1_29, zQY_2_29 => (if (nI n) ≤ (nI ki) then (1, fi, zQX_0_29, zQX_1_29, zQX_2_29, zQY_0_29, zQY_1_29, zQY_2_29, zQL_0_29, zQL_1_29, zQL_2_29) else (if ((f_X7_signAcross fu fv xs ys ki).1) = (if bq = 0 then 1 else (-1)) then (l_X7_held_29 fu fv xs ys n ax bx cx ay by_ cy_ aw bw cw fi bq fu_X7_held_29 (ki + 1) ((f_X7_signAcross fu fv xs ys ki).2.2.2.2.2.2.2.1) ((f_X7_signAcross fu fv xs ys ki).2.2.2.2.2.2.2.2.1) ((f_X7_signAcross fu fv xs ys ki).2.2.2.2.2.2.2.2.2) ((f_X7_signAcross fu fv xs ys ki).2.1) ((f_X7_signAcross fu fv xs ys ki).2.2.1) ((f_X7_signAcross fu fv xs ys ki).2.2.2.1) ((f_X7_signAcross fu fv xs ys ki).2.2.2.2.1) ((f_X7_signAcross fu fv xs ys ki).2.2.2.2.2.1) ((f_X7_signAcross fu fv xs ys ki).2.2.2.2.2.2.1)) else (0, fi, ((f_X7_signAcross fu fv xs ys ki).2.1), ((f_X7_signAcross fu fv xs ys ki).2.2.1), ((f_X7_signAcross fu fv xs ys ki).2.2.2.1), ((f_X7_signAcross fu fv xs ys ki).2.2.2.2.1), ((f_X7_signAcross fu fv xs ys ki).2.2.2.2.2.1), ((f_X7_signAcross fu fv xs ys ki).2.2.2.2.2.2.1), ((f_X7_signAcross fu fv xs ys ki).2.2.2.2.2.2.2.1), ((f_X7_signAcross fu fv xs ys ki).2.2.2.2.2.2.2.2.1), ((f_X7_signAcross fu fv xs ys ki).2.2.2.2.2.2.2.2.2))))
def f_X7_held (fu : Nat → Int32) (fv : Nat → Int32) (xs : Nat → Int32) (ys : Nat → Int32) (n : Nat) (ax : Int64) (bx : Int64) (cx : Int64) (ay : Int64) (by_ : Int64) (cy_ : Int64) (aw : Int64) (bw : Int64) (cw : Int64) (fi : Int32) (bq : Int32) : Int32 × Int32 × Int64 × Int64 × Int64 × Int64 × Int64 × Int64 × Int64 × Int64 × Int64 := (if (f_X0_isLeft xs ys n) = 0 then (((f_X7_finding fi (-1000004)).1), ((f_X7_finding fi (-1000004)).2), ax, bx, cx, ay, by_, cy_, aw, bw, cw) else (l_X7_held_29 fu fv xs ys n ax bx cx ay by_ cy_ aw bw cw fi bq (n + 1) 0 aw bw cw ax bx cx ay by_ cy_))
set_option maxHeartbeats 400000000 in
set_option maxRecDepth 100000 in
theorem c_X7_held (l : Launch) (D : va_G) (cy : Nat → ClassId) (ta : Nat) (fa : Nat) (fap : Nat) (fapn : Nat) (faq : Nat) (faqn : Nat) (ea : Nat) (eax : Nat) (eay : Nat) (qxa : Nat) (qya : Nat) (qla : Nat) (a_draft : Nat) (a_past : Nat) (a_slots : Nat) (a_slotKinds : Nat) (a_sheets : Nat) (a_change : Nat) (a_table : Nat) (fu : Nat → Int32) (fv : Nat → Int32) (xs : Nat → Int32) (ys : Nat → Int32) (n : Nat) (ax : Int64) (bx : Int64) (cx : Int64) (ay : Int64) (by_ : Int64) (cy_ : Int64) (aw : Int64) (bw : Int64) (cw : Int64) (fi : Int32) (bq : Int32) (hn : n ≤ 8) : yk_Ci l D vwCl (yk_ty cy) yX7_held wsX7_held 6 143 [.ref ta, .int bq] [(ta, .inr (7, [.ref fa, .ref a_draft, .ref ea, .ref a_past, .ref a_slots, .ref a_slotKinds, .ref a_sheets, .ref qxa, .ref qya, .ref qla, .ref a_change, .ref a_table, .int fi])), (fa, .inr (1, [.ref fap, .ref faq])), (fap, .inr (3, [.ref fapn])), (fapn, .inl (cy 0, 6, .inl fu)), (faq, .inr (3, [.ref faqn])), (faqn, .inl (cy 0, 6, .inl fv)), (ea, .inr (0, [.ref eax, .ref eay, .int (nI n)])), (eax, .inl (cy 0, 9, .inl xs)), (eay, .inl (cy 0, 9, .inl ys)), (qxa, .inr (4, [.long ax, .long bx, .long cx])), (qya, .inr (4, [.long ay, .long by_, .long cy_])), (qla, .inr (4, [.long aw, .long bw, .long cw]))] ((f_X7_held fu fv xs ys n ax bx cx ay by_ cy_ aw bw cw fi bq).1) [(ta, .inr (7, [.ref fa, .ref a_draft, .ref ea, .ref a_past, .ref a_slots, .ref a_slotKinds, .ref a_sheets, .ref qxa, .ref qya, .ref qla, .ref a_change, .ref a_table, .int ((f_X7_held fu fv xs ys n ax bx cx ay by_ cy_ aw bw cw fi bq).2.1)])), (fa, .inr (1, [.ref fap, .ref faq])), (fap, .inr (3, [.ref fapn])), (fapn, .inl (cy 0, 6, .inl fu)), (faq, .inr (3, [.ref faqn])), (faqn, .inl (cy 0, 6, .inl fv)), (ea, .inr (0, [.ref eax, .ref eay, .int (nI n)])), (eax, .inl (cy 0, 9, .inl xs)), (eay, .inl (cy 0, 9, .inl ys)), (qxa, .inr (4, [.long ((f_X7_held fu fv xs ys n ax bx cx ay by_ cy_ aw bw cw fi bq).2.2.1), .long ((f_X7_held fu fv xs ys n ax bx cx ay by_ cy_ aw bw cw fi bq).2.2.2.1), .long ((f_X7_held fu fv xs ys n ax bx cx ay by_ cy_ aw bw cw fi bq).2.2.2.2.1)])), (qya, .inr (4, [.long ((f_X7_held fu fv xs ys n ax bx cx ay by_ cy_ aw bw cw fi bq).2.2.2.2.2.1), .long ((f_X7_held fu fv xs ys n ax bx cx ay by_ cy_ aw bw cw fi bq).2.2.2.2.2.2.1), .long ((f_X7_held fu fv xs ys n ax bx cx ay by_ cy_ aw bw cw fi bq).2.2.2.2.2.2.2.1)])), (qla, .inr (4, [.long ((f_X7_held fu fv xs ys n ax bx cx ay by_ cy_ aw bw cw fi bq).2.2.2.2.2.2.2.2.1), .long ((f_X7_held fu fv xs ys n ax bx cx ay by_ cy_ aw bw cw fi bq).2.2.2.2.2.2.2.2.2.1), .long ((f_X7_held fu fv xs ys n ax bx cx ay by_ cy_ aw bw cw fi bq).2.2.2.2.2.2.2.2.2.2)]))] := by
  refine yk_eI (cc := cX7_held) (maxL := 4) (by decide) rfl (Nat.le_of_ble_eq_true rfl) rfl ?_
  intro p e R s m args below meth c A Q ls H locs hx hb hml hown hts hRf hRl hA hK hG hP hD hS hl hQ
  have hP : va_P D vwCl [(ta, .inr (7, [.ref fa, .ref a_draft, .ref ea, .ref a_past, .ref a_slots, .ref a_slotKinds, .ref a_sheets, .ref qxa, .ref qya, .ref qla, .ref a_change, .ref a_table, .int fi])), (fa, .inr (1, [.ref fap, .ref faq])), (fap, .inr (3, [.ref fapn])), (fapn, .inl (cy 0, 6, .inl fu)), (faq, .inr (3, [.ref faqn])), (faqn, .inl (cy 0, 6, .inl fv)), (ea, .inr (0, [.ref eax, .ref eay, .int (nI n)])), (eax, .inl (cy 0, 9, .inl xs)), (eay, .inl (cy 0, 9, .inl ys)), (qxa, .inr (4, [.long ax, .long bx, .long cx])), (qya, .inr (4, [.long ay, .long by_, .long cy_])), (qla, .inr (4, [.long aw, .long bw, .long cw]))] H := hP
  have hl : lv_has ls 4 [(0, .ref ta), (1, .int bq)] := hl
  have hown : s.vm.findClass RX7 = some m.cls := hown
  have hF : (f_X7_held fu fv xs ys n ax bx cx ay by_ cy_ aw bw cw fi bq) = (f_X7_held fu fv xs ys n ax bx cx ay by_ cy_ aw bw cw fi bq) := rfl
  refine lv_aload_n hx hb dX7_held_0 rfl (lv_at hl 0 rfl) ?_
  refine va_get (D := D) (ci := 7) (v := .ref ea) (C := RX7) (T := TX7) (N := 13) hx hb hts uX7_held_X7 hown hK hP 0 rfl rfl 2 (by decide) (hts _ kX7_held_0) (fun _ h9 => h9) rfl dX7_held_1 ?_
  refine yk_i [6, 7, 8] (va_runV (As := []) (rest := []) ⟨hx, hb, hml, hown, hts⟩ (c_X0_isLeft l D cy ea eax eay xs ys n hn H.size) (cwV 0 hts gX7_held_X0_isLeft rfl rfl rfl hv_X0_isLeft (yk_room hRf hRl rfl rfl)) (yk_pv (q := (RX0, TX0, 3)) hG hA hS hK hP hD [6, 7, 8] (by decide +kernel) rfl rfl rfl) rfl rfl hl.1 rfl (lv_room (Nat.le_of_ble_eq_true rfl)) dX7_held_4 ⟨Nat.zero_le _, Nat.zero_le _⟩) hP hD hS hA rfl (Eq.trans (b := [ea, eax, eay]) rfl rfl) (fun H locs hP9 hD9 hS9 => ?_)
  replace hP : va_P D vwCl [(ta, .inr (7, [.ref fa, .ref a_draft, .ref ea, .ref a_past, .ref a_slots, .ref a_slotKinds, .ref a_sheets, .ref qxa, .ref qya, .ref qla, .ref a_change, .ref a_table, .int fi])), (fa, .inr (1, [.ref fap, .ref faq])), (fap, .inr (3, [.ref fapn])), (fapn, .inl (cy 0, 6, .inl fu)), (faq, .inr (3, [.ref faqn])), (faqn, .inl (cy 0, 6, .inl fv)), (ea, .inr (0, [.ref eax, .ref eay, .int (nI n)])), (eax, .inl (cy 0, 9, .inl xs)), (eay, .inl (cy 0, 9, .inl ys)), (qxa, .inr (4, [.long ax, .long bx, .long cx])), (qya, .inr (4, [.long ay, .long by_, .long cy_])), (qla, .inr (4, [.long aw, .long bw, .long cw]))] H := hP9
  replace hD : va_D A [(ta, .inr (7, [.ref fa, .ref a_draft, .ref ea, .ref a_past, .ref a_slots, .ref a_slotKinds, .ref a_sheets, .ref qxa, .ref qya, .ref qla, .ref a_change, .ref a_table, .int fi])), (fa, .inr (1, [.ref fap, .ref faq])), (fap, .inr (3, [.ref fapn])), (fapn, .inl (cy 0, 6, .inl fu)), (faq, .inr (3, [.ref faqn])), (faqn, .inl (cy 0, 6, .inl fv)), (ea, .inr (0, [.ref eax, .ref eay, .int (nI n)])), (eax, .inl (cy 0, 9, .inl xs)), (eay, .inl (cy 0, 9, .inl ys)), (qxa, .inr (4, [.long ax, .long bx, .long cx])), (qya, .inr (4, [.long ay, .long by_, .long cy_])), (qla, .inr (4, [.long aw, .long bw, .long cw]))] := hD9
  replace hS := hS9
  clear hP9 hD9 hS9
  refine lv_if_ne (tgt := 17) hx hb dX7_held_7 (by decide) (fun hc1 => ?_) (fun hc1 => ?_)
  · replace hF := hF.trans (if_neg hc1)
    refine lv_iload_n hx hb dX7_held_17 rfl (lv_at hl 1 rfl) ?_
    have J4 : ∀ (v3 : Int32) (H : Heap) (locs : List Loc) (ls : Array Slot), v3 = (if bq = 0 then 1 else (-1)) → va_P D vwCl [(ta, .inr (7, [.ref fa, .ref a_draft, .ref ea, .ref a_past, .ref a_slots, .ref a_slotKinds, .ref a_sheets, .ref qxa, .ref qya, .ref qla, .ref a_change, .ref a_table, .int fi])), (fa, .inr (1, [.ref fap, .ref faq])), (fap, .inr (3, [.ref fapn])), (fapn, .inl (cy 0, 6, .inl fu)), (faq, .inr (3, [.ref faqn])), (faqn, .inl (cy 0, 6, .inl fv)), (ea, .inr (0, [.ref eax, .ref eay, .int (nI n)])), (eax, .inl (cy 0, 9, .inl xs)), (eay, .inl (cy 0, 9, .inl ys)), (qxa, .inr (4, [.long ax, .long bx, .long cx])), (qya, .inr (4, [.long ay, .long by_, .long cy_])), (qla, .inr (4, [.long aw, .long bw, .long cw]))] H → va_D A [(ta, .inr (7, [.ref fa, .ref a_draft, .ref ea, .ref a_past, .ref a_slots, .ref a_slotKinds, .ref a_sheets, .ref qxa, .ref qya, .ref qla, .ref a_change, .ref a_table, .int fi])), (fa, .inr (1, [.ref fap, .ref faq])), (fap, .inr (3, [.ref fapn])), (fapn, .inl (cy 0, 6, .inl fu)), (faq, .inr (3, [.ref faqn])), (faqn, .inl (cy 0, 6, .inl fv)), (ea, .inr (0, [.ref eax, .ref eay, .int (nI n)])), (eax, .inl (cy 0, 9, .inl xs)), (eay, .inl (cy 0, 9, .inl ys)), (qxa, .inr (4, [.long ax, .long bx, .long cx])), (qya, .inr (4, [.long ay, .long by_, .long cy_])), (qla, .inr (4, [.long aw, .long bw, .long cw]))] → va_S A s.heap H locs → lv_has ls 4 [(0, .ref ta), (1, .int bq)] → W p l e R s m args below meth c H locs 0 0 Q (F0 m 26 ls [.int v3]) := by
      clear hP hD hS hl
      intro v3 H locs ls ev3
      rw [ev3]
      clear ev3
      intro hP hD hS hl
      refine lv_istore_n (lv' := [(2, .int (if bq = 0 then 1 else (-1))), (0, .ref ta), (1, .int bq)]) hx hb dX7_held_26 rfl hl (by decide) rfl (fun ls hl9 => ?_)
      replace hl := hl9
      clear hl9
      refine lv_iconst (v := 0) hx hb dX7_held_27 (by decide) ?_
      refine lv_istore_n (lv' := [(3, .int 0), (2, .int (if bq = 0 then 1 else (-1))), (0, .ref ta), (1, .int bq)]) hx hb dX7_held_28 rfl hl (by decide) rfl (fun ls hl9 => ?_)
      replace hl := hl9
      clear hl9
      have L29 : ∀ (M9 n29 ki : Nat) (zQL_0_29 : Int64) (zQL_1_29 : Int64) (zQL_2_29 : Int64) (zQX_0_29 : Int64) (zQX_1_29 : Int64) (zQX_2_29 : Int64) (zQY_0_29 : Int64) (zQY_1_29 : Int64) (zQY_2_29 : Int64) (H : Heap) (locs : List Loc) (ls : Array Slot), n29 < M9 → ki + n29 = n → f_X7_held fu fv xs ys n ax bx cx ay by_ cy_ aw bw cw fi bq = (l_X7_held_29 fu fv xs ys n ax bx cx ay by_ cy_ aw bw cw fi bq (n29 + 1) ki zQL_0_29 zQL_1_29 zQL_2_29 zQX_0_29 zQX_1_29 zQX_2_29 zQY_0_29 zQY_1_29 zQY_2_29) → va_P D vwCl [(ta, .inr (7, [.ref fa, .ref a_draft, .ref ea, .ref a_past, .ref a_slots, .ref a_slotKinds, .ref a_sheets, .ref qxa, .ref qya, .ref qla, .ref a_change, .ref a_table, .int fi])), (fa, .inr (1, [.ref fap, .ref faq])), (fap, .inr (3, [.ref fapn])), (fapn, .inl (cy 0, 6, .inl fu)), (faq, .inr (3, [.ref faqn])), (faqn, .inl (cy 0, 6, .inl fv)), (ea, .inr (0, [.ref eax, .ref eay, .int (nI n)])), (eax, .inl (cy 0, 9, .inl xs)), (eay, .inl (cy 0, 9, .inl ys)), (qxa, .inr (4, [.long zQX_0_29, .long zQX_1_29, .long zQX_2_29])), (qya, .inr (4, [.long zQY_0_29, .long zQY_1_29, .long zQY_2_29])), (qla, .inr (4, [.long zQL_0_29, .long zQL_1_29, .long zQL_2_29]))] H → va_D A [(ta, .inr (7, [.ref fa, .ref a_draft, .ref ea, .ref a_past, .ref a_slots, .ref a_slotKinds, .ref a_sheets, .ref qxa, .ref qya, .ref qla, .ref a_change, .ref a_table, .int fi])), (fa, .inr (1, [.ref fap, .ref faq])), (fap, .inr (3, [.ref fapn])), (fapn, .inl (cy 0, 6, .inl fu)), (faq, .inr (3, [.ref faqn])), (faqn, .inl (cy 0, 6, .inl fv)), (ea, .inr (0, [.ref eax, .ref eay, .int (nI n)])), (eax, .inl (cy 0, 9, .inl xs)), (eay, .inl (cy 0, 9, .inl ys)), (qxa, .inr (4, [.long zQX_0_29, .long zQX_1_29, .long zQX_2_29])), (qya, .inr (4, [.long zQY_0_29, .long zQY_1_29, .long zQY_2_29])), (qla, .inr (4, [.long zQL_0_29, .long zQL_1_29, .long zQL_2_29]))] → va_S A s.heap H locs → lv_has ls 4 [(0, .ref ta), (1, .int bq), (2, .int (if bq = 0 then 1 else (-1))), (3, .int (nI ki))] → W p l e R s m args below meth c H locs 0 0 Q (F0 m 29 ls []) := by
        clear hP hD hS hl hF
        intro M9
        induction M9 with
        | zero => intro n29 ki _ _ _ _ _ _ _ _ _ _ _ _ hn; exact absurd hn (Nat.not_lt_zero _)
        | succ M9 ih29 =>
          intro n29 ki zQL_0_29 zQL_1_29 zQL_2_29 zQX_0_29 zQX_1_29 zQX_2_29 zQY_0_29 zQY_1_29 zQY_2_29 H locs ls hn29 hk29 hF hP hD hS hl
          refine lv_iload_n hx hb dX7_held_29 rfl (lv_at hl 3 rfl) ?_
          refine lv_aload_n hx hb dX7_held_30 rfl (lv_at hl 0 rfl) ?_
          refine va_get (D := D) (ci := 7) (v := .ref ea) (C := RX7) (T := TX7) (N := 13) hx hb hts uX7_held_X7 hown hK hP 0 rfl rfl 2 (by decide) (hts _ kX7_held_0) (fun _ h9 => h9) rfl dX7_held_31 ?_
          refine va_get (D := D) (ci := 0) (v := .int (nI n)) (C := RX0) (T := TX0) (N := 3) hx hb hts uX7_held_X0 hown hK hP 6 rfl rfl 2 (by decide) (hts _ kX7_held_1) (fun _ h9 => h9) rfl dX7_held_34 ?_
          refine lv_icmp_ge (tgt := 57) hx hb dX7_held_37 (by decide) (fun hc7 => ?_) (fun hc7 => ?_)
          · replace hF := hF.trans (if_pos hc7)
            refine lv_iconst (v := 1) hx hb dX7_held_57 (by decide) ?_
            have hF : f_X7_held fu fv xs ys n ax bx cx ay by_ cy_ aw bw cw fi bq = (1, fi, zQX_0_29, zQX_1_29, zQX_2_29, zQY_0_29, zQY_1_29, zQY_2_29, zQL_0_29, zQL_1_29, zQL_2_29) := hF
            have hf0 := yk_fst hF
            have hg0 := yk_snd hF
            have hf1 := yk_fst hg0
            have hg1 := yk_snd hg0
            have hf2 := yk_fst hg1
            have hg2 := yk_snd hg1
            have hf3 := yk_fst hg2
            have hg3 := yk_snd hg2
            have hf4 := yk_fst hg3
            have hg4 := yk_snd hg3
            have hf5 := yk_fst hg4
            have hg5 := yk_snd hg4
            have hf6 := yk_fst hg5
            have hg6 := yk_snd hg5
            have hf7 := yk_fst hg6
            have hg7 := yk_snd hg6
            have hf8 := yk_fst hg7
            have hg8 := yk_snd hg7
            have hf9 := yk_fst hg8
            have hg9 := yk_snd hg8
            rw [hf0, hf1, hf2, hf3, hf4, hf5, hf6, hf7, hf8, hf9, hg9] at hQ
            exact hQ _ _ _ _ dX7_held_58 hP hS
          · replace hF := hF.trans (if_neg hc7)
            have hlt29 : ki < n := yk_lt hk29 (by omega) hc7
            refine lv_aload_n hx hb dX7_held_40 rfl (lv_at hl 0 rfl) ?_
            refine lv_iload_n hx hb dX7_held_41 rfl (lv_at hl 3 rfl) ?_
            refine yk_i [0, 1, 2, 3, 4, 5, 6, 7, 8, 9, 10, 11] (va_runV (As := [.int (nI ki)]) (rest := []) ⟨hx, hb, hml, hown, hts⟩ (c_X7_signAcross l D cy ta fa fap fapn faq faqn ea eax eay qxa qya qla a_draft a_past a_slots a_slotKinds a_sheets a_change a_table fu fv xs ys n zQX_0_29 zQX_1_29 zQX_2_29 zQY_0_29 zQY_1_29 zQY_2_29 zQL_0_29 zQL_1_29 zQL_2_29 fi ki hn (by omega) H.size) (cwV 1 hts gX7_held_X7_signAcross rfl rfl rfl hv_X7_signAcross (yk_room hRf hRl rfl rfl)) (yk_pv (q := (RX7, TX7, 13)) hG hA hS hK hP hD [0, 1, 2, 3, 4, 5, 6, 7, 8, 9, 10, 11] (by decide +kernel) rfl rfl rfl) rfl rfl hl.1 rfl (lv_room (Nat.le_of_ble_eq_true rfl)) dX7_held_42 ⟨Nat.zero_le _, Nat.zero_le _⟩) hP hD hS hA rfl (Eq.trans (b := [ta, fa, fap, fapn, faq, faqn, ea, eax, eay, qxa, qya, qla]) rfl rfl) (fun H locs hP9 hD9 hS9 => ?_)
            replace hP : va_P D vwCl [(ta, .inr (7, [.ref fa, .ref a_draft, .ref ea, .ref a_past, .ref a_slots, .ref a_slotKinds, .ref a_sheets, .ref qxa, .ref qya, .ref qla, .ref a_change, .ref a_table, .int fi])), (fa, .inr (1, [.ref fap, .ref faq])), (fap, .inr (3, [.ref fapn])), (fapn, .inl (cy 0, 6, .inl fu)), (faq, .inr (3, [.ref faqn])), (faqn, .inl (cy 0, 6, .inl fv)), (ea, .inr (0, [.ref eax, .ref eay, .int (nI n)])), (eax, .inl (cy 0, 9, .inl xs)), (eay, .inl (cy 0, 9, .inl ys)), (qxa, .inr (4, [.long ((f_X7_signAcross fu fv xs ys ki).2.1), .long ((f_X7_signAcross fu fv xs ys ki).2.2.1), .long ((f_X7_signAcross fu fv xs ys ki).2.2.2.1)])), (qya, .inr (4, [.long ((f_X7_signAcross fu fv xs ys ki).2.2.2.2.1), .long ((f_X7_signAcross fu fv xs ys ki).2.2.2.2.2.1), .long ((f_X7_signAcross fu fv xs ys ki).2.2.2.2.2.2.1)])), (qla, .inr (4, [.long ((f_X7_signAcross fu fv xs ys ki).2.2.2.2.2.2.2.1), .long ((f_X7_signAcross fu fv xs ys ki).2.2.2.2.2.2.2.2.1), .long ((f_X7_signAcross fu fv xs ys ki).2.2.2.2.2.2.2.2.2)]))] H := hP9
            replace hD : va_D A [(ta, .inr (7, [.ref fa, .ref a_draft, .ref ea, .ref a_past, .ref a_slots, .ref a_slotKinds, .ref a_sheets, .ref qxa, .ref qya, .ref qla, .ref a_change, .ref a_table, .int fi])), (fa, .inr (1, [.ref fap, .ref faq])), (fap, .inr (3, [.ref fapn])), (fapn, .inl (cy 0, 6, .inl fu)), (faq, .inr (3, [.ref faqn])), (faqn, .inl (cy 0, 6, .inl fv)), (ea, .inr (0, [.ref eax, .ref eay, .int (nI n)])), (eax, .inl (cy 0, 9, .inl xs)), (eay, .inl (cy 0, 9, .inl ys)), (qxa, .inr (4, [.long ((f_X7_signAcross fu fv xs ys ki).2.1), .long ((f_X7_signAcross fu fv xs ys ki).2.2.1), .long ((f_X7_signAcross fu fv xs ys ki).2.2.2.1)])), (qya, .inr (4, [.long ((f_X7_signAcross fu fv xs ys ki).2.2.2.2.1), .long ((f_X7_signAcross fu fv xs ys ki).2.2.2.2.2.1), .long ((f_X7_signAcross fu fv xs ys ki).2.2.2.2.2.2.1)])), (qla, .inr (4, [.long ((f_X7_signAcross fu fv xs ys ki).2.2.2.2.2.2.2.1), .long ((f_X7_signAcross fu fv xs ys ki).2.2.2.2.2.2.2.2.1), .long ((f_X7_signAcross fu fv xs ys ki).2.2.2.2.2.2.2.2.2)]))] := hD9
            replace hS := hS9
            clear hP9 hD9 hS9
            refine lv_iload_n hx hb dX7_held_45 rfl (lv_at hl 2 rfl) ?_
            refine lv_icmp_eq (tgt := 51) hx hb dX7_held_46 (by decide) (fun hc8 => ?_) (fun hc8 => ?_)
            · replace hF := hF.trans (if_pos hc8)
              refine lv_iinc (v := nI (ki + 1)) (lv' := [(3, .int (nI (ki + 1))), (0, .ref ta), (1, .int bq), (2, .int (if bq = 0 then 1 else (-1)))]) hx hb dX7_held_51 hl (k := 3) rfl (yk_inc ki) (by decide) rfl (fun ls hl9 => ?_)
              replace hl := hl9
              clear hl9
              refine lv_goto (tgt := 29) hx hb dX7_held_54 (by decide) ?_
              obtain ⟨n9, rfl⟩ : ∃ n9, n29 = n9 + 1 := ⟨n29 - 1, by omega⟩
              exact ih29 n9 (ki + 1) ((f_X7_signAcross fu fv xs ys ki).2.2.2.2.2.2.2.1) ((f_X7_signAcross fu fv xs ys ki).2.2.2.2.2.2.2.2.1) ((f_X7_signAcross fu fv xs ys ki).2.2.2.2.2.2.2.2.2) ((f_X7_signAcross fu fv xs ys ki).2.1) ((f_X7_signAcross fu fv xs ys ki).2.2.1) ((f_X7_signAcross fu fv xs ys ki).2.2.2.1) ((f_X7_signAcross fu fv xs ys ki).2.2.2.2.1) ((f_X7_signAcross fu fv xs ys ki).2.2.2.2.2.1) ((f_X7_signAcross fu fv xs ys ki).2.2.2.2.2.2.1) _ _ _ (by omega) (by omega)  hF hP hD hS (lv_sub hl [1, 2, 3, 0] rfl)
            · replace hF := hF.trans (if_neg hc8)
              refine lv_iconst (v := 0) hx hb dX7_held_49 (by decide) ?_
              have hF : f_X7_held fu fv xs ys n ax bx cx ay by_ cy_ aw bw cw fi bq = (0, fi, ((f_X7_signAcross fu fv xs ys ki).2.1), ((f_X7_signAcross fu fv xs ys ki).2.2.1), ((f_X7_signAcross fu fv xs ys ki).2.2.2.1), ((f_X7_signAcross fu fv xs ys ki).2.2.2.2.1), ((f_X7_signAcross fu fv xs ys ki).2.2.2.2.2.1), ((f_X7_signAcross fu fv xs ys ki).2.2.2.2.2.2.1), ((f_X7_signAcross fu fv xs ys ki).2.2.2.2.2.2.2.1), ((f_X7_signAcross fu fv xs ys ki).2.2.2.2.2.2.2.2.1), ((f_X7_signAcross fu fv xs ys ki).2.2.2.2.2.2.2.2.2)) := hF
              have hf0 := yk_fst hF
              have hg0 := yk_snd hF
              have hf1 := yk_fst hg0
              have hg1 := yk_snd hg0
              have hf2 := yk_fst hg1
              have hg2 := yk_snd hg1
              have hf3 := yk_fst hg2
              have hg3 := yk_snd hg2
              have hf4 := yk_fst hg3
              have hg4 := yk_snd hg3
              have hf5 := yk_fst hg4
              have hg5 := yk_snd hg4
              have hf6 := yk_fst hg5
              have hg6 := yk_snd hg5
              have hf7 := yk_fst hg6
              have hg7 := yk_snd hg6
              have hf8 := yk_fst hg7
              have hg8 := yk_snd hg7
              have hf9 := yk_fst hg8
              have hg9 := yk_snd hg8
              rw [hf0, hf1, hf2, hf3, hf4, hf5, hf6, hf7, hf8, hf9, hg9] at hQ
              exact hQ _ _ _ _ dX7_held_50 hP hS
      exact L29 (n + 1) n 0 aw bw cw ax bx cx ay by_ cy_ _ _ _ (Nat.lt_succ_self _) (by omega)  hF hP hD hS (lv_sub hl [2, 3, 1, 0] rfl)
    refine lv_if_eq (tgt := 25) hx hb dX7_held_18 (by decide) (fun hc2 => ?_) (fun hc2 => ?_)
    · refine lv_iconst (v := 1) hx hb dX7_held_25 (by decide) ?_
      exact J4 _ _ _ _ ((if_pos hc2).symm) hP hD hS (lv_sub hl [0, 1] rfl)
    · refine lv_iconst (v := (-1)) hx hb dX7_held_21 (by decide) ?_
      refine lv_goto (tgt := 26) hx hb dX7_held_22 (by decide) ?_
      exact J4 _ _ _ _ ((if_neg hc2).symm) hP hD hS (lv_sub hl [0, 1] rfl)
  · replace hF := hF.trans (if_pos hc1)
    refine lv_aload_n hx hb dX7_held_10 rfl (lv_at hl 0 rfl) ?_
    refine lv_ldc (v := (-1000004)) hx hb hown (hts _ kX7_held_2) dX7_held_11 ?_
    refine yk_i [0] (va_runV (As := [.int (-1000004)]) (rest := []) ⟨hx, hb, hml, hown, hts⟩ (c_X7_finding l D cy ta fa a_draft ea a_past a_slots a_slotKinds a_sheets qxa qya qla a_change a_table fi (-1000004) H.size) (cwV 1 hts gX7_held_X7_finding rfl rfl rfl hv_X7_finding (yk_room hRf hRl rfl rfl)) (yk_pv (q := (RX7, TX7, 13)) hG hA hS hK hP hD [0] (by decide +kernel) rfl rfl rfl) rfl rfl hl.1 rfl (lv_room (Nat.le_of_ble_eq_true rfl)) dX7_held_13 ⟨Nat.zero_le _, Nat.zero_le _⟩) hP hD hS hA rfl (Eq.trans (b := [ta]) rfl rfl) (fun H locs hP9 hD9 hS9 => ?_)
    replace hP : va_P D vwCl [(ta, .inr (7, [.ref fa, .ref a_draft, .ref ea, .ref a_past, .ref a_slots, .ref a_slotKinds, .ref a_sheets, .ref qxa, .ref qya, .ref qla, .ref a_change, .ref a_table, .int ((f_X7_finding fi (-1000004)).2)])), (fa, .inr (1, [.ref fap, .ref faq])), (fap, .inr (3, [.ref fapn])), (fapn, .inl (cy 0, 6, .inl fu)), (faq, .inr (3, [.ref faqn])), (faqn, .inl (cy 0, 6, .inl fv)), (ea, .inr (0, [.ref eax, .ref eay, .int (nI n)])), (eax, .inl (cy 0, 9, .inl xs)), (eay, .inl (cy 0, 9, .inl ys)), (qxa, .inr (4, [.long ax, .long bx, .long cx])), (qya, .inr (4, [.long ay, .long by_, .long cy_])), (qla, .inr (4, [.long aw, .long bw, .long cw]))] H := hP9
    replace hD : va_D A [(ta, .inr (7, [.ref fa, .ref a_draft, .ref ea, .ref a_past, .ref a_slots, .ref a_slotKinds, .ref a_sheets, .ref qxa, .ref qya, .ref qla, .ref a_change, .ref a_table, .int ((f_X7_finding fi (-1000004)).2)])), (fa, .inr (1, [.ref fap, .ref faq])), (fap, .inr (3, [.ref fapn])), (fapn, .inl (cy 0, 6, .inl fu)), (faq, .inr (3, [.ref faqn])), (faqn, .inl (cy 0, 6, .inl fv)), (ea, .inr (0, [.ref eax, .ref eay, .int (nI n)])), (eax, .inl (cy 0, 9, .inl xs)), (eay, .inl (cy 0, 9, .inl ys)), (qxa, .inr (4, [.long ax, .long bx, .long cx])), (qya, .inr (4, [.long ay, .long by_, .long cy_])), (qla, .inr (4, [.long aw, .long bw, .long cw]))] := hD9
    replace hS := hS9
    clear hP9 hD9 hS9
    have hF : f_X7_held fu fv xs ys n ax bx cx ay by_ cy_ aw bw cw fi bq = (((f_X7_finding fi (-1000004)).1), ((f_X7_finding fi (-1000004)).2), ax, bx, cx, ay, by_, cy_, aw, bw, cw) := hF
    have hf0 := yk_fst hF
    have hg0 := yk_snd hF
    have hf1 := yk_fst hg0
    have hg1 := yk_snd hg0
    have hf2 := yk_fst hg1
    have hg2 := yk_snd hg1
    have hf3 := yk_fst hg2
    have hg3 := yk_snd hg2
    have hf4 := yk_fst hg3
    have hg4 := yk_snd hg3
    have hf5 := yk_fst hg4
    have hg5 := yk_snd hg4
    have hf6 := yk_fst hg5
    have hg6 := yk_snd hg5
    have hf7 := yk_fst hg6
    have hg7 := yk_snd hg6
    have hf8 := yk_fst hg7
    have hg8 := yk_snd hg7
    have hf9 := yk_fst hg8
    have hg9 := yk_snd hg8
    rw [hf0, hf1, hf2, hf3, hf4, hf5, hf6, hf7, hf8, hf9, hg9] at hQ
    exact hQ _ _ _ _ dX7_held_16 hP hS

theorem kX7_wind_0 : Cond.fieldLink RX7 22 "FlowPlane" "fence" "LFlowPlane$Fence;" ∈ wsX7_wind := by decide +kernel
theorem kX7_wind_1 : Cond.fieldLink RX7 160 "FlowPlane$Fence" "count" "I" ∈ wsX7_wind := by decide +kernel
theorem kX7_wind_2 : Cond.fieldLink RX7 55 "FlowPlane" "speedY" "LFlowPlane$Quadratic;" ∈ wsX7_wind := by decide +kernel
theorem kX7_wind_3 : Cond.fieldLink RX7 51 "FlowPlane" "speedX" "LFlowPlane$Quadratic;" ∈ wsX7_wind := by decide +kernel
theorem kX7_wind_4 : Cond.constant RX7 206 (-1000007) ∈ wsX7_wind := by decide +kernel
theorem kX7_wind_5 : Cond.constant RX7 146 (-1000006) ∈ wsX7_wind := by decide +kernel
theorem uX7_wind_X7 : ∀ w ∈ u_ws RX7 TX7 13, w ∈ wsX7_wind := by decide +kernel
theorem uX7_wind_X0 : ∀ w ∈ u_ws RX0 TX0 3, w ∈ wsX7_wind := by decide +kernel
def l_X7_wind_22 (fu : Nat → Int32) (fv : Nat → Int32) (xs : Nat → Int32) (ys : Nat → Int32) (n : Nat) (ax : Int64) (bx : Int64) (cx : Int64) (ay : Int64) (by_ : Int64) (cy_ : Int64) (fi : Int32) : Nat → Nat → Int32 → Int64 → Int64 → Int64 → Int64 → Int64 → Int64 → Int32 × Int32 × Int64 × Int64 × Int64 × Int64 × Int64 × Int64
  | 0, ki, z1_22, zQX_0_22, zQX_1_22, zQX_2_22, zQY_0_22, zQY_1_22, zQY_2_22 => (0, fi, ax, bx, cx, ay, by_, cy_)
  | fu_X7_wind_22 + 1, ki, z1_22, zQX_0_22, zQX_1_22, zQX_2_22, zQY_0_22, zQY_1_22, zQY_2_22 => (if (nI n) ≤ (nI ki) then (z1_22, fi, zQX_0_22, zQX_1_22, zQX_2_22, zQY_0_22, zQY_1_22, zQY_2_22) else (if (f_X4_meetsZeroOf ((f_X7_followSpeeds fu fv xs ys ki).2.2.2.1) ((f_X7_followSpeeds fu fv xs ys ki).2.2.2.2.1) ((f_X7_followSpeeds fu fv xs ys ki).2.2.2.2.2) ((f_X7_followSpeeds fu fv xs ys ki).1) ((f_X7_followSpeeds fu fv xs ys ki).2.1) ((f_X7_followSpeeds fu fv xs ys ki).2.2.1)) = 0 then (l_X7_wind_22 fu fv xs ys n ax bx cx ay by_ cy_ fi fu_X7_wind_22 (ki + 1) (z1_22 + (f_X4_upwardCrossings ((f_X7_followSpeeds fu fv xs ys ki).2.2.2.1) ((f_X7_followSpeeds fu fv xs ys ki).2.2.2.2.1) ((f_X7_followSpeeds fu fv xs ys ki).2.2.2.2.2) ((f_X7_followSpeeds fu fv xs ys ki).1) ((f_X7_followSpeeds fu fv xs ys ki).2.1) ((f_X7_followSpeeds fu fv xs ys ki).2.2.1))) ((f_X7_followSpeeds fu fv xs ys ki).1) ((f_X7_followSpeeds fu fv xs ys ki).2.1) ((f_X7_followSpeeds fu fv xs ys ki).2.2.1) ((f_X7_followSpeeds fu fv xs ys ki).2.2.2.1) ((f_X7_followSpeeds fu fv xs ys ki).2.2.2.2.1) ((f_X7_followSpeeds fu fv xs ys ki).2.2.2.2.2)) else (((f_X7_finding fi (-1000007)).1), ((f_X7_finding fi (-1000007)).2), ((f_X7_followSpeeds fu fv xs ys ki).1), ((f_X7_followSpeeds fu fv xs ys ki).2.1), ((f_X7_followSpeeds fu fv xs ys ki).2.2.1), ((f_X7_followSpeeds fu fv xs ys ki).2.2.2.1), ((f_X7_followSpeeds fu fv xs ys ki).2.2.2.2.1), ((f_X7_followSpeeds fu fv xs ys ki).2.2.2.2.2))))
def f_X7_wind (fu : Nat → Int32) (fv : Nat → Int32) (xs : Nat → Int32) (ys : Nat → Int32) (n : Nat) (ax : Int64) (bx : Int64) (cx : Int64) (ay : Int64) (by_ : Int64) (cy_ : Int64) (fi : Int32) : Int32 × Int32 × Int64 × Int64 × Int64 × Int64 × Int64 × Int64 := (if 2 ≤ (nI n) then (l_X7_wind_22 fu fv xs ys n ax bx cx ay by_ cy_ fi (n + 1) 0 0 ax bx cx ay by_ cy_) else (((f_X7_finding fi (-1000006)).1), ((f_X7_finding fi (-1000006)).2), ax, bx, cx, ay, by_, cy_))
set_option maxHeartbeats 400000000 in
set_option maxRecDepth 100000 in
theorem c_X7_wind (l : Launch) (D : va_G) (cy : Nat → ClassId) (ta : Nat) (fa : Nat) (fap : Nat) (fapn : Nat) (faq : Nat) (faqn : Nat) (ea : Nat) (eax : Nat) (eay : Nat) (qxa : Nat) (qya : Nat) (a_draft : Nat) (a_past : Nat) (a_slots : Nat) (a_slotKinds : Nat) (a_sheets : Nat) (a_leftward : Nat) (a_change : Nat) (a_table : Nat) (fu : Nat → Int32) (fv : Nat → Int32) (xs : Nat → Int32) (ys : Nat → Int32) (n : Nat) (ax : Int64) (bx : Int64) (cx : Int64) (ay : Int64) (by_ : Int64) (cy_ : Int64) (fi : Int32) (hn : n ≤ 8) : yk_Ci l D vwCl (yk_ty cy) yX7_wind wsX7_wind 6 145 [.ref ta] [(ta, .inr (7, [.ref fa, .ref a_draft, .ref ea, .ref a_past, .ref a_slots, .ref a_slotKinds, .ref a_sheets, .ref qxa, .ref qya, .ref a_leftward, .ref a_change, .ref a_table, .int fi])), (fa, .inr (1, [.ref fap, .ref faq])), (fap, .inr (3, [.ref fapn])), (fapn, .inl (cy 0, 6, .inl fu)), (faq, .inr (3, [.ref faqn])), (faqn, .inl (cy 0, 6, .inl fv)), (ea, .inr (0, [.ref eax, .ref eay, .int (nI n)])), (eax, .inl (cy 0, 9, .inl xs)), (eay, .inl (cy 0, 9, .inl ys)), (qxa, .inr (4, [.long ax, .long bx, .long cx])), (qya, .inr (4, [.long ay, .long by_, .long cy_]))] ((f_X7_wind fu fv xs ys n ax bx cx ay by_ cy_ fi).1) [(ta, .inr (7, [.ref fa, .ref a_draft, .ref ea, .ref a_past, .ref a_slots, .ref a_slotKinds, .ref a_sheets, .ref qxa, .ref qya, .ref a_leftward, .ref a_change, .ref a_table, .int ((f_X7_wind fu fv xs ys n ax bx cx ay by_ cy_ fi).2.1)])), (fa, .inr (1, [.ref fap, .ref faq])), (fap, .inr (3, [.ref fapn])), (fapn, .inl (cy 0, 6, .inl fu)), (faq, .inr (3, [.ref faqn])), (faqn, .inl (cy 0, 6, .inl fv)), (ea, .inr (0, [.ref eax, .ref eay, .int (nI n)])), (eax, .inl (cy 0, 9, .inl xs)), (eay, .inl (cy 0, 9, .inl ys)), (qxa, .inr (4, [.long ((f_X7_wind fu fv xs ys n ax bx cx ay by_ cy_ fi).2.2.1), .long ((f_X7_wind fu fv xs ys n ax bx cx ay by_ cy_ fi).2.2.2.1), .long ((f_X7_wind fu fv xs ys n ax bx cx ay by_ cy_ fi).2.2.2.2.1)])), (qya, .inr (4, [.long ((f_X7_wind fu fv xs ys n ax bx cx ay by_ cy_ fi).2.2.2.2.2.1), .long ((f_X7_wind fu fv xs ys n ax bx cx ay by_ cy_ fi).2.2.2.2.2.2.1), .long ((f_X7_wind fu fv xs ys n ax bx cx ay by_ cy_ fi).2.2.2.2.2.2.2)]))] := by
  refine yk_eI (cc := cX7_wind) (maxL := 3) (by decide) rfl (Nat.le_of_ble_eq_true rfl) rfl ?_
  intro p e R s m args below meth c A Q ls H locs hx hb hml hown hts hRf hRl hA hK hG hP hD hS hl hQ
  have hP : va_P D vwCl [(ta, .inr (7, [.ref fa, .ref a_draft, .ref ea, .ref a_past, .ref a_slots, .ref a_slotKinds, .ref a_sheets, .ref qxa, .ref qya, .ref a_leftward, .ref a_change, .ref a_table, .int fi])), (fa, .inr (1, [.ref fap, .ref faq])), (fap, .inr (3, [.ref fapn])), (fapn, .inl (cy 0, 6, .inl fu)), (faq, .inr (3, [.ref faqn])), (faqn, .inl (cy 0, 6, .inl fv)), (ea, .inr (0, [.ref eax, .ref eay, .int (nI n)])), (eax, .inl (cy 0, 9, .inl xs)), (eay, .inl (cy 0, 9, .inl ys)), (qxa, .inr (4, [.long ax, .long bx, .long cx])), (qya, .inr (4, [.long ay, .long by_, .long cy_]))] H := hP
  have hl : lv_has ls 3 [(0, .ref ta)] := hl
  have hown : s.vm.findClass RX7 = some m.cls := hown
  have hF : (f_X7_wind fu fv xs ys n ax bx cx ay by_ cy_ fi) = (f_X7_wind fu fv xs ys n ax bx cx ay by_ cy_ fi) := rfl
  refine lv_aload_n hx hb dX7_wind_0 rfl (lv_at hl 0 rfl) ?_
  refine va_get (D := D) (ci := 7) (v := .ref ea) (C := RX7) (T := TX7) (N := 13) hx hb hts uX7_wind_X7 hown hK hP 0 rfl rfl 2 (by decide) (hts _ kX7_wind_0) (fun _ h9 => h9) rfl dX7_wind_1 ?_
  refine va_get (D := D) (ci := 0) (v := .int (nI n)) (C := RX0) (T := TX0) (N := 3) hx hb hts uX7_wind_X0 hown hK hP 6 rfl rfl 2 (by decide) (hts _ kX7_wind_1) (fun _ h9 => h9) rfl dX7_wind_4 ?_
  refine lv_iconst (v := 2) hx hb dX7_wind_7 (by decide) ?_
  refine lv_icmp_ge (tgt := 18) hx hb dX7_wind_8 (by decide) (fun hc1 => ?_) (fun hc1 => ?_)
  · replace hF := hF.trans (if_pos hc1)
    refine lv_iconst (v := 0) hx hb dX7_wind_18 (by decide) ?_
    refine lv_istore_n (lv' := [(1, .int 0), (0, .ref ta)]) hx hb dX7_wind_19 rfl hl (by decide) rfl (fun ls hl9 => ?_)
    replace hl := hl9
    clear hl9
    refine lv_iconst (v := 0) hx hb dX7_wind_20 (by decide) ?_
    refine lv_istore_n (lv' := [(2, .int 0), (1, .int 0), (0, .ref ta)]) hx hb dX7_wind_21 rfl hl (by decide) rfl (fun ls hl9 => ?_)
    replace hl := hl9
    clear hl9
    have L22 : ∀ (M9 n22 ki : Nat) (z1_22 : Int32) (zQX_0_22 : Int64) (zQX_1_22 : Int64) (zQX_2_22 : Int64) (zQY_0_22 : Int64) (zQY_1_22 : Int64) (zQY_2_22 : Int64) (H : Heap) (locs : List Loc) (ls : Array Slot), n22 < M9 → ki + n22 = n → f_X7_wind fu fv xs ys n ax bx cx ay by_ cy_ fi = (l_X7_wind_22 fu fv xs ys n ax bx cx ay by_ cy_ fi (n22 + 1) ki z1_22 zQX_0_22 zQX_1_22 zQX_2_22 zQY_0_22 zQY_1_22 zQY_2_22) → va_P D vwCl [(ta, .inr (7, [.ref fa, .ref a_draft, .ref ea, .ref a_past, .ref a_slots, .ref a_slotKinds, .ref a_sheets, .ref qxa, .ref qya, .ref a_leftward, .ref a_change, .ref a_table, .int fi])), (fa, .inr (1, [.ref fap, .ref faq])), (fap, .inr (3, [.ref fapn])), (fapn, .inl (cy 0, 6, .inl fu)), (faq, .inr (3, [.ref faqn])), (faqn, .inl (cy 0, 6, .inl fv)), (ea, .inr (0, [.ref eax, .ref eay, .int (nI n)])), (eax, .inl (cy 0, 9, .inl xs)), (eay, .inl (cy 0, 9, .inl ys)), (qxa, .inr (4, [.long zQX_0_22, .long zQX_1_22, .long zQX_2_22])), (qya, .inr (4, [.long zQY_0_22, .long zQY_1_22, .long zQY_2_22]))] H → va_D A [(ta, .inr (7, [.ref fa, .ref a_draft, .ref ea, .ref a_past, .ref a_slots, .ref a_slotKinds, .ref a_sheets, .ref qxa, .ref qya, .ref a_leftward, .ref a_change, .ref a_table, .int fi])), (fa, .inr (1, [.ref fap, .ref faq])), (fap, .inr (3, [.ref fapn])), (fapn, .inl (cy 0, 6, .inl fu)), (faq, .inr (3, [.ref faqn])), (faqn, .inl (cy 0, 6, .inl fv)), (ea, .inr (0, [.ref eax, .ref eay, .int (nI n)])), (eax, .inl (cy 0, 9, .inl xs)), (eay, .inl (cy 0, 9, .inl ys)), (qxa, .inr (4, [.long zQX_0_22, .long zQX_1_22, .long zQX_2_22])), (qya, .inr (4, [.long zQY_0_22, .long zQY_1_22, .long zQY_2_22]))] → va_S A s.heap H locs → lv_has ls 3 [(0, .ref ta), (1, .int z1_22), (2, .int (nI ki))] → W p l e R s m args below meth c H locs 0 0 Q (F0 m 22 ls []) := by
      clear hP hD hS hl hF
      intro M9
      induction M9 with
      | zero => intro n22 ki _ _ _ _ _ _ _ _ _ _ hn; exact absurd hn (Nat.not_lt_zero _)
      | succ M9 ih22 =>
        intro n22 ki z1_22 zQX_0_22 zQX_1_22 zQX_2_22 zQY_0_22 zQY_1_22 zQY_2_22 H locs ls hn22 hk22 hF hP hD hS hl
        refine lv_iload_n hx hb dX7_wind_22 rfl (lv_at hl 2 rfl) ?_
        refine lv_aload_n hx hb dX7_wind_23 rfl (lv_at hl 0 rfl) ?_
        refine va_get (D := D) (ci := 7) (v := .ref ea) (C := RX7) (T := TX7) (N := 13) hx hb hts uX7_wind_X7 hown hK hP 0 rfl rfl 2 (by decide) (hts _ kX7_wind_0) (fun _ h9 => h9) rfl dX7_wind_24 ?_
        refine va_get (D := D) (ci := 0) (v := .int (nI n)) (C := RX0) (T := TX0) (N := 3) hx hb hts uX7_wind_X0 hown hK hP 6 rfl rfl 2 (by decide) (hts _ kX7_wind_1) (fun _ h9 => h9) rfl dX7_wind_27 ?_
        refine lv_icmp_ge (tgt := 79) hx hb dX7_wind_30 (by decide) (fun hc4 => ?_) (fun hc4 => ?_)
        · replace hF := hF.trans (if_pos hc4)
          refine lv_iload_n hx hb dX7_wind_79 rfl (lv_at hl 1 rfl) ?_
          have hF : f_X7_wind fu fv xs ys n ax bx cx ay by_ cy_ fi = (z1_22, fi, zQX_0_22, zQX_1_22, zQX_2_22, zQY_0_22, zQY_1_22, zQY_2_22) := hF
          have hf0 := yk_fst hF
          have hg0 := yk_snd hF
          have hf1 := yk_fst hg0
          have hg1 := yk_snd hg0
          have hf2 := yk_fst hg1
          have hg2 := yk_snd hg1
          have hf3 := yk_fst hg2
          have hg3 := yk_snd hg2
          have hf4 := yk_fst hg3
          have hg4 := yk_snd hg3
          have hf5 := yk_fst hg4
          have hg5 := yk_snd hg4
          have hf6 := yk_fst hg5
          have hg6 := yk_snd hg5
          rw [hf0, hf1, hf2, hf3, hf4, hf5, hf6, hg6] at hQ
          exact hQ _ _ _ _ dX7_wind_80 hP hS
        · replace hF := hF.trans (if_neg hc4)
          have hlt22 : ki < n := yk_lt hk22 (by omega) hc4
          refine lv_aload_n hx hb dX7_wind_33 rfl (lv_at hl 0 rfl) ?_
          refine lv_iload_n hx hb dX7_wind_34 rfl (lv_at hl 2 rfl) ?_
          refine yk_v [0, 1, 2, 3, 4, 5, 6, 7, 8, 9, 10] (va_runV (As := [.int (nI ki)]) (rest := []) ⟨hx, hb, hml, hown, hts⟩ (c_X7_followSpeeds l D cy ta fa fap fapn faq faqn ea eax eay qxa qya a_draft a_past a_slots a_slotKinds a_sheets a_leftward a_change a_table fu fv xs ys n zQX_0_22 zQX_1_22 zQX_2_22 zQY_0_22 zQY_1_22 zQY_2_22 fi ki hn (by omega) H.size) (cwV 1 hts gX7_wind_X7_followSpeeds rfl rfl rfl hv_X7_followSpeeds (yk_room hRf hRl rfl rfl)) (yk_pv (q := (RX7, TX7, 13)) hG hA hS hK hP hD [0, 1, 2, 3, 4, 5, 6, 7, 8, 9, 10] (by decide +kernel) rfl rfl rfl) rfl rfl hl.1 rfl (lv_room (Nat.le_of_ble_eq_true rfl)) dX7_wind_35 ⟨Nat.zero_le _, Nat.zero_le _⟩) hP hD hS hA rfl (Eq.trans (b := [ta, fa, fap, fapn, faq, faqn, ea, eax, eay, qxa, qya]) rfl rfl) (fun H locs hP9 hD9 hS9 => ?_)
          replace hP : va_P D vwCl [(ta, .inr (7, [.ref fa, .ref a_draft, .ref ea, .ref a_past, .ref a_slots, .ref a_slotKinds, .ref a_sheets, .ref qxa, .ref qya, .ref a_leftward, .ref a_change, .ref a_table, .int fi])), (fa, .inr (1, [.ref fap, .ref faq])), (fap, .inr (3, [.ref fapn])), (fapn, .inl (cy 0, 6, .inl fu)), (faq, .inr (3, [.ref faqn])), (faqn, .inl (cy 0, 6, .inl fv)), (ea, .inr (0, [.ref eax, .ref eay, .int (nI n)])), (eax, .inl (cy 0, 9, .inl xs)), (eay, .inl (cy 0, 9, .inl ys)), (qxa, .inr (4, [.long ((f_X7_followSpeeds fu fv xs ys ki).1), .long ((f_X7_followSpeeds fu fv xs ys ki).2.1), .long ((f_X7_followSpeeds fu fv xs ys ki).2.2.1)])), (qya, .inr (4, [.long ((f_X7_followSpeeds fu fv xs ys ki).2.2.2.1), .long ((f_X7_followSpeeds fu fv xs ys ki).2.2.2.2.1), .long ((f_X7_followSpeeds fu fv xs ys ki).2.2.2.2.2)]))] H := hP9
          replace hD : va_D A [(ta, .inr (7, [.ref fa, .ref a_draft, .ref ea, .ref a_past, .ref a_slots, .ref a_slotKinds, .ref a_sheets, .ref qxa, .ref qya, .ref a_leftward, .ref a_change, .ref a_table, .int fi])), (fa, .inr (1, [.ref fap, .ref faq])), (fap, .inr (3, [.ref fapn])), (fapn, .inl (cy 0, 6, .inl fu)), (faq, .inr (3, [.ref faqn])), (faqn, .inl (cy 0, 6, .inl fv)), (ea, .inr (0, [.ref eax, .ref eay, .int (nI n)])), (eax, .inl (cy 0, 9, .inl xs)), (eay, .inl (cy 0, 9, .inl ys)), (qxa, .inr (4, [.long ((f_X7_followSpeeds fu fv xs ys ki).1), .long ((f_X7_followSpeeds fu fv xs ys ki).2.1), .long ((f_X7_followSpeeds fu fv xs ys ki).2.2.1)])), (qya, .inr (4, [.long ((f_X7_followSpeeds fu fv xs ys ki).2.2.2.1), .long ((f_X7_followSpeeds fu fv xs ys ki).2.2.2.2.1), .long ((f_X7_followSpeeds fu fv xs ys ki).2.2.2.2.2)]))] := hD9
          replace hS := hS9
          clear hP9 hD9 hS9
          refine lv_aload_n hx hb dX7_wind_38 rfl (lv_at hl 0 rfl) ?_
          refine va_get (D := D) (ci := 7) (v := .ref qya) (C := RX7) (T := TX7) (N := 13) hx hb hts uX7_wind_X7 hown hK hP 0 rfl rfl 8 (by decide) (hts _ kX7_wind_2) (fun _ h9 => h9) rfl dX7_wind_39 ?_
          refine lv_aload_n hx hb dX7_wind_42 rfl (lv_at hl 0 rfl) ?_
          refine va_get (D := D) (ci := 7) (v := .ref qxa) (C := RX7) (T := TX7) (N := 13) hx hb hts uX7_wind_X7 hown hK hP 0 rfl rfl 7 (by decide) (hts _ kX7_wind_3) (fun _ h9 => h9) rfl dX7_wind_43 ?_
          refine yk_i [10, 9] (va_runV (As := [.ref qxa]) (rest := []) ⟨hx, hb, hml, hown, hts⟩ (c_X4_meetsZeroOf l D cy qya qxa ((f_X7_followSpeeds fu fv xs ys ki).2.2.2.1) ((f_X7_followSpeeds fu fv xs ys ki).2.2.2.2.1) ((f_X7_followSpeeds fu fv xs ys ki).2.2.2.2.2) ((f_X7_followSpeeds fu fv xs ys ki).1) ((f_X7_followSpeeds fu fv xs ys ki).2.1) ((f_X7_followSpeeds fu fv xs ys ki).2.2.1) H.size) (cwV 1 hts gX7_wind_X4_meetsZeroOf rfl rfl rfl hv_X4_meetsZeroOf (yk_room hRf hRl rfl rfl)) (yk_pv (q := (RX4, TX4, 3)) hG hA hS hK hP hD [10, 9] (by decide +kernel) rfl rfl rfl) rfl rfl hl.1 rfl (lv_room (Nat.le_of_ble_eq_true rfl)) dX7_wind_46 ⟨Nat.zero_le _, Nat.zero_le _⟩) hP hD hS hA rfl (Eq.trans (b := [qya, qxa]) rfl rfl) (fun H locs hP9 hD9 hS9 => ?_)
          replace hP : va_P D vwCl [(ta, .inr (7, [.ref fa, .ref a_draft, .ref ea, .ref a_past, .ref a_slots, .ref a_slotKinds, .ref a_sheets, .ref qxa, .ref qya, .ref a_leftward, .ref a_change, .ref a_table, .int fi])), (fa, .inr (1, [.ref fap, .ref faq])), (fap, .inr (3, [.ref fapn])), (fapn, .inl (cy 0, 6, .inl fu)), (faq, .inr (3, [.ref faqn])), (faqn, .inl (cy 0, 6, .inl fv)), (ea, .inr (0, [.ref eax, .ref eay, .int (nI n)])), (eax, .inl (cy 0, 9, .inl xs)), (eay, .inl (cy 0, 9, .inl ys)), (qxa, .inr (4, [.long ((f_X7_followSpeeds fu fv xs ys ki).1), .long ((f_X7_followSpeeds fu fv xs ys ki).2.1), .long ((f_X7_followSpeeds fu fv xs ys ki).2.2.1)])), (qya, .inr (4, [.long ((f_X7_followSpeeds fu fv xs ys ki).2.2.2.1), .long ((f_X7_followSpeeds fu fv xs ys ki).2.2.2.2.1), .long ((f_X7_followSpeeds fu fv xs ys ki).2.2.2.2.2)]))] H := hP9
          replace hD : va_D A [(ta, .inr (7, [.ref fa, .ref a_draft, .ref ea, .ref a_past, .ref a_slots, .ref a_slotKinds, .ref a_sheets, .ref qxa, .ref qya, .ref a_leftward, .ref a_change, .ref a_table, .int fi])), (fa, .inr (1, [.ref fap, .ref faq])), (fap, .inr (3, [.ref fapn])), (fapn, .inl (cy 0, 6, .inl fu)), (faq, .inr (3, [.ref faqn])), (faqn, .inl (cy 0, 6, .inl fv)), (ea, .inr (0, [.ref eax, .ref eay, .int (nI n)])), (eax, .inl (cy 0, 9, .inl xs)), (eay, .inl (cy 0, 9, .inl ys)), (qxa, .inr (4, [.long ((f_X7_followSpeeds fu fv xs ys ki).1), .long ((f_X7_followSpeeds fu fv xs ys ki).2.1), .long ((f_X7_followSpeeds fu fv xs ys ki).2.2.1)])), (qya, .inr (4, [.long ((f_X7_followSpeeds fu fv xs ys ki).2.2.2.1), .long ((f_X7_followSpeeds fu fv xs ys ki).2.2.2.2.1), .long ((f_X7_followSpeeds fu fv xs ys ki).2.2.2.2.2)]))] := hD9
          replace hS := hS9
          clear hP9 hD9 hS9
          refine lv_if_eq (tgt := 59) hx hb dX7_wind_49 (by decide) (fun hc5 => ?_) (fun hc5 => ?_)
          · replace hF := hF.trans (if_pos hc5)
            refine lv_iload_n hx hb dX7_wind_59 rfl (lv_at hl 1 rfl) ?_
            refine lv_aload_n hx hb dX7_wind_60 rfl (lv_at hl 0 rfl) ?_
            refine va_get (D := D) (ci := 7) (v := .ref qya) (C := RX7) (T := TX7) (N := 13) hx hb hts uX7_wind_X7 hown hK hP 0 rfl rfl 8 (by decide) (hts _ kX7_wind_2) (fun _ h9 => h9) rfl dX7_wind_61 ?_
            refine lv_aload_n hx hb dX7_wind_64 rfl (lv_at hl 0 rfl) ?_
            refine va_get (D := D) (ci := 7) (v := .ref qxa) (C := RX7) (T := TX7) (N := 13) hx hb hts uX7_wind_X7 hown hK hP 0 rfl rfl 7 (by decide) (hts _ kX7_wind_3) (fun _ h9 => h9) rfl dX7_wind_65 ?_
            refine yk_i [10, 9] (va_runV (As := [.ref qxa]) (rest := [.int z1_22]) ⟨hx, hb, hml, hown, hts⟩ (c_X4_upwardCrossings l D cy qya qxa ((f_X7_followSpeeds fu fv xs ys ki).2.2.2.1) ((f_X7_followSpeeds fu fv xs ys ki).2.2.2.2.1) ((f_X7_followSpeeds fu fv xs ys ki).2.2.2.2.2) ((f_X7_followSpeeds fu fv xs ys ki).1) ((f_X7_followSpeeds fu fv xs ys ki).2.1) ((f_X7_followSpeeds fu fv xs ys ki).2.2.1) H.size) (cwV 1 hts gX7_wind_X4_upwardCrossings rfl rfl rfl hv_X4_upwardCrossings (yk_room hRf hRl rfl rfl)) (yk_pv (q := (RX4, TX4, 3)) hG hA hS hK hP hD [10, 9] (by decide +kernel) rfl rfl rfl) rfl rfl hl.1 rfl (lv_room (Nat.le_of_ble_eq_true rfl)) dX7_wind_68 ⟨Nat.zero_le _, Nat.zero_le _⟩) hP hD hS hA rfl (Eq.trans (b := [qya, qxa]) rfl rfl) (fun H locs hP9 hD9 hS9 => ?_)
            replace hP : va_P D vwCl [(ta, .inr (7, [.ref fa, .ref a_draft, .ref ea, .ref a_past, .ref a_slots, .ref a_slotKinds, .ref a_sheets, .ref qxa, .ref qya, .ref a_leftward, .ref a_change, .ref a_table, .int fi])), (fa, .inr (1, [.ref fap, .ref faq])), (fap, .inr (3, [.ref fapn])), (fapn, .inl (cy 0, 6, .inl fu)), (faq, .inr (3, [.ref faqn])), (faqn, .inl (cy 0, 6, .inl fv)), (ea, .inr (0, [.ref eax, .ref eay, .int (nI n)])), (eax, .inl (cy 0, 9, .inl xs)), (eay, .inl (cy 0, 9, .inl ys)), (qxa, .inr (4, [.long ((f_X7_followSpeeds fu fv xs ys ki).1), .long ((f_X7_followSpeeds fu fv xs ys ki).2.1), .long ((f_X7_followSpeeds fu fv xs ys ki).2.2.1)])), (qya, .inr (4, [.long ((f_X7_followSpeeds fu fv xs ys ki).2.2.2.1), .long ((f_X7_followSpeeds fu fv xs ys ki).2.2.2.2.1), .long ((f_X7_followSpeeds fu fv xs ys ki).2.2.2.2.2)]))] H := hP9
            replace hD : va_D A [(ta, .inr (7, [.ref fa, .ref a_draft, .ref ea, .ref a_past, .ref a_slots, .ref a_slotKinds, .ref a_sheets, .ref qxa, .ref qya, .ref a_leftward, .ref a_change, .ref a_table, .int fi])), (fa, .inr (1, [.ref fap, .ref faq])), (fap, .inr (3, [.ref fapn])), (fapn, .inl (cy 0, 6, .inl fu)), (faq, .inr (3, [.ref faqn])), (faqn, .inl (cy 0, 6, .inl fv)), (ea, .inr (0, [.ref eax, .ref eay, .int (nI n)])), (eax, .inl (cy 0, 9, .inl xs)), (eay, .inl (cy 0, 9, .inl ys)), (qxa, .inr (4, [.long ((f_X7_followSpeeds fu fv xs ys ki).1), .long ((f_X7_followSpeeds fu fv xs ys ki).2.1), .long ((f_X7_followSpeeds fu fv xs ys ki).2.2.1)])), (qya, .inr (4, [.long ((f_X7_followSpeeds fu fv xs ys ki).2.2.2.1), .long ((f_X7_followSpeeds fu fv xs ys ki).2.2.2.2.1), .long ((f_X7_followSpeeds fu fv xs ys ki).2.2.2.2.2)]))] := hD9
            replace hS := hS9
            clear hP9 hD9 hS9
            refine lv_iadd hx hb dX7_wind_71 ?_
            refine lv_istore_n (lv' := [(1, .int (z1_22 + (f_X4_upwardCrossings ((f_X7_followSpeeds fu fv xs ys ki).2.2.2.1) ((f_X7_followSpeeds fu fv xs ys ki).2.2.2.2.1) ((f_X7_followSpeeds fu fv xs ys ki).2.2.2.2.2) ((f_X7_followSpeeds fu fv xs ys ki).1) ((f_X7_followSpeeds fu fv xs ys ki).2.1) ((f_X7_followSpeeds fu fv xs ys ki).2.2.1)))), (0, .ref ta), (2, .int (nI ki))]) hx hb dX7_wind_72 rfl hl (by decide) rfl (fun ls hl9 => ?_)
            replace hl := hl9
            clear hl9
            refine lv_iinc (v := nI (ki + 1)) (lv' := [(2, .int (nI (ki + 1))), (1, .int (z1_22 + (f_X4_upwardCrossings ((f_X7_followSpeeds fu fv xs ys ki).2.2.2.1) ((f_X7_followSpeeds fu fv xs ys ki).2.2.2.2.1) ((f_X7_followSpeeds fu fv xs ys ki).2.2.2.2.2) ((f_X7_followSpeeds fu fv xs ys ki).1) ((f_X7_followSpeeds fu fv xs ys ki).2.1) ((f_X7_followSpeeds fu fv xs ys ki).2.2.1)))), (0, .ref ta)]) hx hb dX7_wind_73 hl (k := 2) rfl (yk_inc ki) (by decide) rfl (fun ls hl9 => ?_)
            replace hl := hl9
            clear hl9
            refine lv_goto (tgt := 22) hx hb dX7_wind_76 (by decide) ?_
            obtain ⟨n9, rfl⟩ : ∃ n9, n22 = n9 + 1 := ⟨n22 - 1, by omega⟩
            exact ih22 n9 (ki + 1) (z1_22 + (f_X4_upwardCrossings ((f_X7_followSpeeds fu fv xs ys ki).2.2.2.1) ((f_X7_followSpeeds fu fv xs ys ki).2.2.2.2.1) ((f_X7_followSpeeds fu fv xs ys ki).2.2.2.2.2) ((f_X7_followSpeeds fu fv xs ys ki).1) ((f_X7_followSpeeds fu fv xs ys ki).2.1) ((f_X7_followSpeeds fu fv xs ys ki).2.2.1))) ((f_X7_followSpeeds fu fv xs ys ki).1) ((f_X7_followSpeeds fu fv xs ys ki).2.1) ((f_X7_followSpeeds fu fv xs ys ki).2.2.1) ((f_X7_followSpeeds fu fv xs ys ki).2.2.2.1) ((f_X7_followSpeeds fu fv xs ys ki).2.2.2.2.1) ((f_X7_followSpeeds fu fv xs ys ki).2.2.2.2.2) _ _ _ (by omega) (by omega)  hF hP hD hS (lv_sub hl [2, 1, 0] rfl)
          · replace hF := hF.trans (if_neg hc5)
            refine lv_aload_n hx hb dX7_wind_52 rfl (lv_at hl 0 rfl) ?_
            refine lv_ldc (v := (-1000007)) hx hb hown (hts _ kX7_wind_4) dX7_wind_53 ?_
            refine yk_i [0] (va_runV (As := [.int (-1000007)]) (rest := []) ⟨hx, hb, hml, hown, hts⟩ (c_X7_finding l D cy ta fa a_draft ea a_past a_slots a_slotKinds a_sheets qxa qya a_leftward a_change a_table fi (-1000007) H.size) (cwV 1 hts gX7_wind_X7_finding rfl rfl rfl hv_X7_finding (yk_room hRf hRl rfl rfl)) (yk_pv (q := (RX7, TX7, 13)) hG hA hS hK hP hD [0] (by decide +kernel) rfl rfl rfl) rfl rfl hl.1 rfl (lv_room (Nat.le_of_ble_eq_true rfl)) dX7_wind_55 ⟨Nat.zero_le _, Nat.zero_le _⟩) hP hD hS hA rfl (Eq.trans (b := [ta]) rfl rfl) (fun H locs hP9 hD9 hS9 => ?_)
            replace hP : va_P D vwCl [(ta, .inr (7, [.ref fa, .ref a_draft, .ref ea, .ref a_past, .ref a_slots, .ref a_slotKinds, .ref a_sheets, .ref qxa, .ref qya, .ref a_leftward, .ref a_change, .ref a_table, .int ((f_X7_finding fi (-1000007)).2)])), (fa, .inr (1, [.ref fap, .ref faq])), (fap, .inr (3, [.ref fapn])), (fapn, .inl (cy 0, 6, .inl fu)), (faq, .inr (3, [.ref faqn])), (faqn, .inl (cy 0, 6, .inl fv)), (ea, .inr (0, [.ref eax, .ref eay, .int (nI n)])), (eax, .inl (cy 0, 9, .inl xs)), (eay, .inl (cy 0, 9, .inl ys)), (qxa, .inr (4, [.long ((f_X7_followSpeeds fu fv xs ys ki).1), .long ((f_X7_followSpeeds fu fv xs ys ki).2.1), .long ((f_X7_followSpeeds fu fv xs ys ki).2.2.1)])), (qya, .inr (4, [.long ((f_X7_followSpeeds fu fv xs ys ki).2.2.2.1), .long ((f_X7_followSpeeds fu fv xs ys ki).2.2.2.2.1), .long ((f_X7_followSpeeds fu fv xs ys ki).2.2.2.2.2)]))] H := hP9
            replace hD : va_D A [(ta, .inr (7, [.ref fa, .ref a_draft, .ref ea, .ref a_past, .ref a_slots, .ref a_slotKinds, .ref a_sheets, .ref qxa, .ref qya, .ref a_leftward, .ref a_change, .ref a_table, .int ((f_X7_finding fi (-1000007)).2)])), (fa, .inr (1, [.ref fap, .ref faq])), (fap, .inr (3, [.ref fapn])), (fapn, .inl (cy 0, 6, .inl fu)), (faq, .inr (3, [.ref faqn])), (faqn, .inl (cy 0, 6, .inl fv)), (ea, .inr (0, [.ref eax, .ref eay, .int (nI n)])), (eax, .inl (cy 0, 9, .inl xs)), (eay, .inl (cy 0, 9, .inl ys)), (qxa, .inr (4, [.long ((f_X7_followSpeeds fu fv xs ys ki).1), .long ((f_X7_followSpeeds fu fv xs ys ki).2.1), .long ((f_X7_followSpeeds fu fv xs ys ki).2.2.1)])), (qya, .inr (4, [.long ((f_X7_followSpeeds fu fv xs ys ki).2.2.2.1), .long ((f_X7_followSpeeds fu fv xs ys ki).2.2.2.2.1), .long ((f_X7_followSpeeds fu fv xs ys ki).2.2.2.2.2)]))] := hD9
            replace hS := hS9
            clear hP9 hD9 hS9
            have hF : f_X7_wind fu fv xs ys n ax bx cx ay by_ cy_ fi = (((f_X7_finding fi (-1000007)).1), ((f_X7_finding fi (-1000007)).2), ((f_X7_followSpeeds fu fv xs ys ki).1), ((f_X7_followSpeeds fu fv xs ys ki).2.1), ((f_X7_followSpeeds fu fv xs ys ki).2.2.1), ((f_X7_followSpeeds fu fv xs ys ki).2.2.2.1), ((f_X7_followSpeeds fu fv xs ys ki).2.2.2.2.1), ((f_X7_followSpeeds fu fv xs ys ki).2.2.2.2.2)) := hF
            have hf0 := yk_fst hF
            have hg0 := yk_snd hF
            have hf1 := yk_fst hg0
            have hg1 := yk_snd hg0
            have hf2 := yk_fst hg1
            have hg2 := yk_snd hg1
            have hf3 := yk_fst hg2
            have hg3 := yk_snd hg2
            have hf4 := yk_fst hg3
            have hg4 := yk_snd hg3
            have hf5 := yk_fst hg4
            have hg5 := yk_snd hg4
            have hf6 := yk_fst hg5
            have hg6 := yk_snd hg5
            rw [hf0, hf1, hf2, hf3, hf4, hf5, hf6, hg6] at hQ
            exact hQ _ _ _ _ dX7_wind_58 hP hS
    exact L22 (n + 1) n 0 0 ax bx cx ay by_ cy_ _ _ _ (Nat.lt_succ_self _) (by omega)  hF hP hD hS (lv_sub hl [2, 1, 0] rfl)
  · replace hF := hF.trans (if_neg hc1)
    refine lv_aload_n hx hb dX7_wind_11 rfl (lv_at hl 0 rfl) ?_
    refine lv_ldc (v := (-1000006)) hx hb hown (hts _ kX7_wind_5) dX7_wind_12 ?_
    refine yk_i [0] (va_runV (As := [.int (-1000006)]) (rest := []) ⟨hx, hb, hml, hown, hts⟩ (c_X7_finding l D cy ta fa a_draft ea a_past a_slots a_slotKinds a_sheets qxa qya a_leftward a_change a_table fi (-1000006) H.size) (cwV 1 hts gX7_wind_X7_finding rfl rfl rfl hv_X7_finding (yk_room hRf hRl rfl rfl)) (yk_pv (q := (RX7, TX7, 13)) hG hA hS hK hP hD [0] (by decide +kernel) rfl rfl rfl) rfl rfl hl.1 rfl (lv_room (Nat.le_of_ble_eq_true rfl)) dX7_wind_14 ⟨Nat.zero_le _, Nat.zero_le _⟩) hP hD hS hA rfl (Eq.trans (b := [ta]) rfl rfl) (fun H locs hP9 hD9 hS9 => ?_)
    replace hP : va_P D vwCl [(ta, .inr (7, [.ref fa, .ref a_draft, .ref ea, .ref a_past, .ref a_slots, .ref a_slotKinds, .ref a_sheets, .ref qxa, .ref qya, .ref a_leftward, .ref a_change, .ref a_table, .int ((f_X7_finding fi (-1000006)).2)])), (fa, .inr (1, [.ref fap, .ref faq])), (fap, .inr (3, [.ref fapn])), (fapn, .inl (cy 0, 6, .inl fu)), (faq, .inr (3, [.ref faqn])), (faqn, .inl (cy 0, 6, .inl fv)), (ea, .inr (0, [.ref eax, .ref eay, .int (nI n)])), (eax, .inl (cy 0, 9, .inl xs)), (eay, .inl (cy 0, 9, .inl ys)), (qxa, .inr (4, [.long ax, .long bx, .long cx])), (qya, .inr (4, [.long ay, .long by_, .long cy_]))] H := hP9
    replace hD : va_D A [(ta, .inr (7, [.ref fa, .ref a_draft, .ref ea, .ref a_past, .ref a_slots, .ref a_slotKinds, .ref a_sheets, .ref qxa, .ref qya, .ref a_leftward, .ref a_change, .ref a_table, .int ((f_X7_finding fi (-1000006)).2)])), (fa, .inr (1, [.ref fap, .ref faq])), (fap, .inr (3, [.ref fapn])), (fapn, .inl (cy 0, 6, .inl fu)), (faq, .inr (3, [.ref faqn])), (faqn, .inl (cy 0, 6, .inl fv)), (ea, .inr (0, [.ref eax, .ref eay, .int (nI n)])), (eax, .inl (cy 0, 9, .inl xs)), (eay, .inl (cy 0, 9, .inl ys)), (qxa, .inr (4, [.long ax, .long bx, .long cx])), (qya, .inr (4, [.long ay, .long by_, .long cy_]))] := hD9
    replace hS := hS9
    clear hP9 hD9 hS9
    have hF : f_X7_wind fu fv xs ys n ax bx cx ay by_ cy_ fi = (((f_X7_finding fi (-1000006)).1), ((f_X7_finding fi (-1000006)).2), ax, bx, cx, ay, by_, cy_) := hF
    have hf0 := yk_fst hF
    have hg0 := yk_snd hF
    have hf1 := yk_fst hg0
    have hg1 := yk_snd hg0
    have hf2 := yk_fst hg1
    have hg2 := yk_snd hg1
    have hf3 := yk_fst hg2
    have hg3 := yk_snd hg2
    have hf4 := yk_fst hg3
    have hg4 := yk_snd hg3
    have hf5 := yk_fst hg4
    have hg5 := yk_snd hg4
    have hf6 := yk_fst hg5
    have hg6 := yk_snd hg5
    rw [hf0, hf1, hf2, hf3, hf4, hf5, hf6, hg6] at hQ
    exact hQ _ _ _ _ dX7_wind_17 hP hS

theorem kX7_indexes_0 : Cond.fieldLink RX7 22 "FlowPlane" "fence" "LFlowPlane$Fence;" ∈ wsX7_indexes := by decide +kernel
theorem kX7_indexes_1 : Cond.fieldLink RX7 10 "FlowPlane" "flow" "LFlowPlane$Flow;" ∈ wsX7_indexes := by decide +kernel
theorem kX7_indexes_2 : Cond.constant RX7 146 (-1000006) ∈ wsX7_indexes := by decide +kernel
theorem kX7_indexes_3 : Cond.constant RX7 182 (-1000004) ∈ wsX7_indexes := by decide +kernel
theorem uX7_indexes_X7 : ∀ w ∈ u_ws RX7 TX7 13, w ∈ wsX7_indexes := by decide +kernel
def l_X7_indexes_31 (fu : Nat → Int32) (fv : Nat → Int32) (xs : Nat → Int32) (ys : Nat → Int32) (n : Nat) (fi : Int32) (ki : Nat) (z1_22 : Int32) (kc : Nat → Int32 → Int32 × Int32) : Nat → Nat → Int32 → Int32 × Int32
  | 0, kj, z1_31 => (0, fi)
  | fu_X7_indexes_31 + 1, kj, z1_31 => (if 6 < (nI kj - 6) then (kc (ki + 1) z1_31) else (if (f_X1_isRest fu fv (nI ki - 6) (nI kj - 6)) = 0 then (l_X7_indexes_31 fu fv xs ys n fi ki z1_22 kc fu_X7_indexes_31 (kj + 1) z1_31) else (if (f_X0_whereIs xs ys n (nI ki - 6) (nI kj - 6)) = 2 then (if (f_X1_sortAt fu fv (nI ki - 6) (nI kj - 6)) = 5 then (((f_X7_finding fi (-1000006)).1), ((f_X7_finding fi (-1000006)).2)) else (l_X7_indexes_31 fu fv xs ys n fi ki z1_22 kc fu_X7_indexes_31 (kj + 1) (z1_31 + (if (f_X1_sortAt fu fv (nI ki - 6) (nI kj - 6)) = 1 then (-1) else 1)))) else (l_X7_indexes_31 fu fv xs ys n fi ki z1_22 kc fu_X7_indexes_31 (kj + 1) z1_31))))
def l_X7_indexes_22 (fu : Nat → Int32) (fv : Nat → Int32) (xs : Nat → Int32) (ys : Nat → Int32) (n : Nat) (fi : Int32) : Nat → Nat → Int32 → Int32 × Int32
  | 0, ki, z1_22 => (0, fi)
  | fu_X7_indexes_22 + 1, ki, z1_22 => (if 6 < (nI ki - 6) then (z1_22, fi) else (l_X7_indexes_31 fu fv xs ys n fi ki z1_22 (fun ki' z1_22' => l_X7_indexes_22 fu fv xs ys n fi fu_X7_indexes_22 (ki') (z1_22')) (13 + 1) 0 z1_22))
def f_X7_indexes (fu : Nat → Int32) (fv : Nat → Int32) (xs : Nat → Int32) (ys : Nat → Int32) (n : Nat) (fi : Int32) : Int32 × Int32 := (if (f_X0_isSimple xs ys n) = 0 then (((f_X7_finding fi (-1000004)).1), ((f_X7_finding fi (-1000004)).2)) else (l_X7_indexes_22 fu fv xs ys n fi (13 + 1) 0 0))
set_option maxHeartbeats 400000000 in
set_option maxRecDepth 100000 in
theorem c_X7_indexes (l : Launch) (D : va_G) (cy : Nat → ClassId) (ta : Nat) (fa : Nat) (fap : Nat) (fapn : Nat) (faq : Nat) (faqn : Nat) (ea : Nat) (eax : Nat) (eay : Nat) (a_draft : Nat) (a_past : Nat) (a_slots : Nat) (a_slotKinds : Nat) (a_sheets : Nat) (a_speedX : Nat) (a_speedY : Nat) (a_leftward : Nat) (a_change : Nat) (a_table : Nat) (fu : Nat → Int32) (fv : Nat → Int32) (xs : Nat → Int32) (ys : Nat → Int32) (n : Nat) (fi : Int32) (hn : n ≤ 8) : yk_Ci l D vwCl (yk_ty cy) yX7_indexes wsX7_indexes 5 112 [.ref ta] [(ta, .inr (7, [.ref fa, .ref a_draft, .ref ea, .ref a_past, .ref a_slots, .ref a_slotKinds, .ref a_sheets, .ref a_speedX, .ref a_speedY, .ref a_leftward, .ref a_change, .ref a_table, .int fi])), (fa, .inr (1, [.ref fap, .ref faq])), (fap, .inr (3, [.ref fapn])), (fapn, .inl (cy 0, 6, .inl fu)), (faq, .inr (3, [.ref faqn])), (faqn, .inl (cy 0, 6, .inl fv)), (ea, .inr (0, [.ref eax, .ref eay, .int (nI n)])), (eax, .inl (cy 0, 9, .inl xs)), (eay, .inl (cy 0, 9, .inl ys))] ((f_X7_indexes fu fv xs ys n fi).1) [(ta, .inr (7, [.ref fa, .ref a_draft, .ref ea, .ref a_past, .ref a_slots, .ref a_slotKinds, .ref a_sheets, .ref a_speedX, .ref a_speedY, .ref a_leftward, .ref a_change, .ref a_table, .int ((f_X7_indexes fu fv xs ys n fi).2)])), (fa, .inr (1, [.ref fap, .ref faq])), (fap, .inr (3, [.ref fapn])), (fapn, .inl (cy 0, 6, .inl fu)), (faq, .inr (3, [.ref faqn])), (faqn, .inl (cy 0, 6, .inl fv)), (ea, .inr (0, [.ref eax, .ref eay, .int (nI n)])), (eax, .inl (cy 0, 9, .inl xs)), (eay, .inl (cy 0, 9, .inl ys))] := by
  refine yk_eI (cc := cX7_indexes) (maxL := 5) (by decide) rfl (Nat.le_of_ble_eq_true rfl) rfl ?_
  intro p e R s m args below meth c A Q ls H locs hx hb hml hown hts hRf hRl hA hK hG hP hD hS hl hQ
  have hP : va_P D vwCl [(ta, .inr (7, [.ref fa, .ref a_draft, .ref ea, .ref a_past, .ref a_slots, .ref a_slotKinds, .ref a_sheets, .ref a_speedX, .ref a_speedY, .ref a_leftward, .ref a_change, .ref a_table, .int fi])), (fa, .inr (1, [.ref fap, .ref faq])), (fap, .inr (3, [.ref fapn])), (fapn, .inl (cy 0, 6, .inl fu)), (faq, .inr (3, [.ref faqn])), (faqn, .inl (cy 0, 6, .inl fv)), (ea, .inr (0, [.ref eax, .ref eay, .int (nI n)])), (eax, .inl (cy 0, 9, .inl xs)), (eay, .inl (cy 0, 9, .inl ys))] H := hP
  have hl : lv_has ls 5 [(0, .ref ta)] := hl
  have hown : s.vm.findClass RX7 = some m.cls := hown
  have hF : (f_X7_indexes fu fv xs ys n fi) = (f_X7_indexes fu fv xs ys n fi) := rfl
  refine lv_aload_n hx hb dX7_indexes_0 rfl (lv_at hl 0 rfl) ?_
  refine va_get (D := D) (ci := 7) (v := .ref ea) (C := RX7) (T := TX7) (N := 13) hx hb hts uX7_indexes_X7 hown hK hP 0 rfl rfl 2 (by decide) (hts _ kX7_indexes_0) (fun _ h9 => h9) rfl dX7_indexes_1 ?_
  refine yk_i [6, 7, 8] (va_runV (As := []) (rest := []) ⟨hx, hb, hml, hown, hts⟩ (c_X0_isSimple l D cy ea eax eay xs ys n hn H.size) (cwV 0 hts gX7_indexes_X0_isSimple rfl rfl rfl hv_X0_isSimple (yk_room hRf hRl rfl rfl)) (yk_pv (q := (RX0, TX0, 3)) hG hA hS hK hP hD [6, 7, 8] (by decide +kernel) rfl rfl rfl) rfl rfl hl.1 rfl (lv_room (Nat.le_of_ble_eq_true rfl)) dX7_indexes_4 ⟨Nat.zero_le _, Nat.zero_le _⟩) hP hD hS hA rfl (Eq.trans (b := [ea, eax, eay]) rfl rfl) (fun H locs hP9 hD9 hS9 => ?_)
  replace hP : va_P D vwCl [(ta, .inr (7, [.ref fa, .ref a_draft, .ref ea, .ref a_past, .ref a_slots, .ref a_slotKinds, .ref a_sheets, .ref a_speedX, .ref a_speedY, .ref a_leftward, .ref a_change, .ref a_table, .int fi])), (fa, .inr (1, [.ref fap, .ref faq])), (fap, .inr (3, [.ref fapn])), (fapn, .inl (cy 0, 6, .inl fu)), (faq, .inr (3, [.ref faqn])), (faqn, .inl (cy 0, 6, .inl fv)), (ea, .inr (0, [.ref eax, .ref eay, .int (nI n)])), (eax, .inl (cy 0, 9, .inl xs)), (eay, .inl (cy 0, 9, .inl ys))] H := hP9
  replace hD : va_D A [(ta, .inr (7, [.ref fa, .ref a_draft, .ref ea, .ref a_past, .ref a_slots, .ref a_slotKinds, .ref a_sheets, .ref a_speedX, .ref a_speedY, .ref a_leftward, .ref a_change, .ref a_table, .int fi])), (fa, .inr (1, [.ref fap, .ref faq])), (fap, .inr (3, [.ref fapn])), (fapn, .inl (cy 0, 6, .inl fu)), (faq, .inr (3, [.ref faqn])), (faqn, .inl (cy 0, 6, .inl fv)), (ea, .inr (0, [.ref eax, .ref eay, .int (nI n)])), (eax, .inl (cy 0, 9, .inl xs)), (eay, .inl (cy 0, 9, .inl ys))] := hD9
  replace hS := hS9
  clear hP9 hD9 hS9
  refine lv_if_ne (tgt := 17) hx hb dX7_indexes_7 (by decide) (fun hc1 => ?_) (fun hc1 => ?_)
  · replace hF := hF.trans (if_neg hc1)
    refine lv_iconst (v := 0) hx hb dX7_indexes_17 (by decide) ?_
    refine lv_istore_n (lv' := [(1, .int 0), (0, .ref ta)]) hx hb dX7_indexes_18 rfl hl (by decide) rfl (fun ls hl9 => ?_)
    replace hl := hl9
    clear hl9
    refine lv_bipush (v := (-6)) hx hb dX7_indexes_19 (by decide) ?_
    refine lv_istore_n (lv' := [(2, .int (-6)), (1, .int 0), (0, .ref ta)]) hx hb dX7_indexes_21 rfl hl (by decide) rfl (fun ls hl9 => ?_)
    replace hl := hl9
    clear hl9
    have L22 : ∀ (M9 n22 ki : Nat) (z1_22 : Int32) (H : Heap) (locs : List Loc) (ls : Array Slot), n22 < M9 → ki + n22 = 13 → f_X7_indexes fu fv xs ys n fi = (l_X7_indexes_22 fu fv xs ys n fi (n22 + 1) ki z1_22) → va_P D vwCl [(ta, .inr (7, [.ref fa, .ref a_draft, .ref ea, .ref a_past, .ref a_slots, .ref a_slotKinds, .ref a_sheets, .ref a_speedX, .ref a_speedY, .ref a_leftward, .ref a_change, .ref a_table, .int fi])), (fa, .inr (1, [.ref fap, .ref faq])), (fap, .inr (3, [.ref fapn])), (fapn, .inl (cy 0, 6, .inl fu)), (faq, .inr (3, [.ref faqn])), (faqn, .inl (cy 0, 6, .inl fv)), (ea, .inr (0, [.ref eax, .ref eay, .int (nI n)])), (eax, .inl (cy 0, 9, .inl xs)), (eay, .inl (cy 0, 9, .inl ys))] H → va_D A [(ta, .inr (7, [.ref fa, .ref a_draft, .ref ea, .ref a_past, .ref a_slots, .ref a_slotKinds, .ref a_sheets, .ref a_speedX, .ref a_speedY, .ref a_leftward, .ref a_change, .ref a_table, .int fi])), (fa, .inr (1, [.ref fap, .ref faq])), (fap, .inr (3, [.ref fapn])), (fapn, .inl (cy 0, 6, .inl fu)), (faq, .inr (3, [.ref faqn])), (faqn, .inl (cy 0, 6, .inl fv)), (ea, .inr (0, [.ref eax, .ref eay, .int (nI n)])), (eax, .inl (cy 0, 9, .inl xs)), (eay, .inl (cy 0, 9, .inl ys))] → va_S A s.heap H locs → lv_has ls 5 [(0, .ref ta), (1, .int z1_22), (2, .int (nI ki - 6))] → W p l e R s m args below meth c H locs 0 0 Q (F0 m 22 ls []) := by
      clear hP hD hS hl hF
      intro M9
      induction M9 with
      | zero => intro n22 ki _ _ _ _ hn; exact absurd hn (Nat.not_lt_zero _)
      | succ M9 ih22 =>
        intro n22 ki z1_22 H locs ls hn22 hk22 hF hP hD hS hl
        refine lv_iload_n hx hb dX7_indexes_22 rfl (lv_at hl 2 rfl) ?_
        refine lv_bipush (v := 6) hx hb dX7_indexes_23 (by decide) ?_
        refine lv_icmp_gt (tgt := 115) hx hb dX7_indexes_25 (by decide) (fun hc2 => ?_) (fun hc2 => ?_)
        · replace hF := hF.trans (if_pos hc2)
          refine lv_iload_n hx hb dX7_indexes_115 rfl (lv_at hl 1 rfl) ?_
          have hF : f_X7_indexes fu fv xs ys n fi = (z1_22, fi) := hF
          have hf0 := yk_fst hF
          have hg0 := yk_snd hF
          rw [hf0, hg0] at hQ
          exact hQ _ _ _ _ dX7_indexes_116 hP hS
        · replace hF := hF.trans (if_neg hc2)
          have hlt22 : ki < 13 := yk_lt6 hk22 hc2
          refine lv_bipush (v := (-6)) hx hb dX7_indexes_28 (by decide) ?_
          refine lv_istore_n (lv' := [(3, .int (-6)), (0, .ref ta), (1, .int z1_22), (2, .int (nI ki - 6))]) hx hb dX7_indexes_30 rfl hl (by decide) rfl (fun ls hl9 => ?_)
          replace hl := hl9
          clear hl9
          have L31 : ∀ (M9 n31 kj : Nat) (z1_31 : Int32) (H : Heap) (locs : List Loc) (ls : Array Slot), n31 < M9 → kj + n31 = 13 → f_X7_indexes fu fv xs ys n fi = (l_X7_indexes_31 fu fv xs ys n fi ki z1_22 (fun ki' z1_22' => l_X7_indexes_22 fu fv xs ys n fi n22 ki' z1_22') (n31 + 1) kj z1_31) → va_P D vwCl [(ta, .inr (7, [.ref fa, .ref a_draft, .ref ea, .ref a_past, .ref a_slots, .ref a_slotKinds, .ref a_sheets, .ref a_speedX, .ref a_speedY, .ref a_leftward, .ref a_change, .ref a_table, .int fi])), (fa, .inr (1, [.ref fap, .ref faq])), (fap, .inr (3, [.ref fapn])), (fapn, .inl (cy 0, 6, .inl fu)), (faq, .inr (3, [.ref faqn])), (faqn, .inl (cy 0, 6, .inl fv)), (ea, .inr (0, [.ref eax, .ref eay, .int (nI n)])), (eax, .inl (cy 0, 9, .inl xs)), (eay, .inl (cy 0, 9, .inl ys))] H → va_D A [(ta, .inr (7, [.ref fa, .ref a_draft, .ref ea, .ref a_past, .ref a_slots, .ref a_slotKinds, .ref a_sheets, .ref a_speedX, .ref a_speedY, .ref a_leftward, .ref a_change, .ref a_table, .int fi])), (fa, .inr (1, [.ref fap, .ref faq])), (fap, .inr (3, [.ref fapn])), (fapn, .inl (cy 0, 6, .inl fu)), (faq, .inr (3, [.ref faqn])), (faqn, .inl (cy 0, 6, .inl fv)), (ea, .inr (0, [.ref eax, .ref eay, .int (nI n)])), (eax, .inl (cy 0, 9, .inl xs)), (eay, .inl (cy 0, 9, .inl ys))] → va_S A s.heap H locs → lv_has ls 5 [(0, .ref ta), (1, .int z1_31), (2, .int (nI ki - 6)), (3, .int (nI kj - 6))] → W p l e R s m args below meth c H locs 0 0 Q (F0 m 31 ls []) := by
            clear hP hD hS hl hF
            intro M9
            induction M9 with
            | zero => intro n31 kj _ _ _ _ hn; exact absurd hn (Nat.not_lt_zero _)
            | succ M9 ih31 =>
              intro n31 kj z1_31 H locs ls hn31 hk31 hF hP hD hS hl
              refine lv_iload_n hx hb dX7_indexes_31 rfl (lv_at hl 3 rfl) ?_
              refine lv_bipush (v := 6) hx hb dX7_indexes_32 (by decide) ?_
              refine lv_icmp_gt (tgt := 109) hx hb dX7_indexes_34 (by decide) (fun hc3 => ?_) (fun hc3 => ?_)
              · replace hF := hF.trans (if_pos hc3)
                refine lv_iinc (v := ((nI ki - 6) + 1)) (lv' := [(2, .int ((nI ki - 6) + 1)), (0, .ref ta), (1, .int z1_31), (3, .int (nI kj - 6))]) hx hb dX7_indexes_109 hl (k := 2) rfl (yk_incg _) (by decide) rfl (fun ls hl9 => ?_)
                replace hl := hl9
                clear hl9
                refine lv_goto (tgt := 22) hx hb dX7_indexes_112 (by decide) ?_
                obtain ⟨n9, rfl⟩ : ∃ n9, n22 = n9 + 1 := ⟨n22 - 1, by omega⟩
                rw [yk_off ki 6] at hl
                exact ih22 n9 (ki + 1) z1_31 _ _ _ (by omega) (by omega)  hF hP hD hS (lv_sub hl [1, 2, 0] rfl)
              · replace hF := hF.trans (if_neg hc3)
                have hlt31 : kj < 13 := yk_lt6 hk31 hc3
                refine lv_aload_n hx hb dX7_indexes_37 rfl (lv_at hl 0 rfl) ?_
                refine va_get (D := D) (ci := 7) (v := .ref fa) (C := RX7) (T := TX7) (N := 13) hx hb hts uX7_indexes_X7 hown hK hP 0 rfl rfl 0 (by decide) (hts _ kX7_indexes_1) (fun _ h9 => h9) rfl dX7_indexes_38 ?_
                refine lv_iload_n hx hb dX7_indexes_41 rfl (lv_at hl 2 rfl) ?_
                refine lv_iload_n hx hb dX7_indexes_42 rfl (lv_at hl 3 rfl) ?_
                refine yk_i [1, 2, 3, 4, 5] (va_runV (As := [.int (nI ki - 6), .int (nI kj - 6)]) (rest := []) ⟨hx, hb, hml, hown, hts⟩ (c_X1_isRest l D cy fa fap fapn faq faqn fu fv (nI ki - 6) (nI kj - 6) H.size) (cwV 2 hts gX7_indexes_X1_isRest rfl rfl rfl hv_X1_isRest (yk_room hRf hRl rfl rfl)) (yk_pv (q := (RX1, TX1, 2)) hG hA hS hK hP hD [1, 2, 3, 4, 5] (by decide +kernel) rfl rfl rfl) rfl rfl hl.1 rfl (lv_room (Nat.le_of_ble_eq_true rfl)) dX7_indexes_43 ⟨Nat.zero_le _, Nat.zero_le _⟩) hP hD hS hA rfl (Eq.trans (b := [fa, fap, fapn, faq, faqn]) rfl rfl) (fun H locs hP9 hD9 hS9 => ?_)
                replace hP : va_P D vwCl [(ta, .inr (7, [.ref fa, .ref a_draft, .ref ea, .ref a_past, .ref a_slots, .ref a_slotKinds, .ref a_sheets, .ref a_speedX, .ref a_speedY, .ref a_leftward, .ref a_change, .ref a_table, .int fi])), (fa, .inr (1, [.ref fap, .ref faq])), (fap, .inr (3, [.ref fapn])), (fapn, .inl (cy 0, 6, .inl fu)), (faq, .inr (3, [.ref faqn])), (faqn, .inl (cy 0, 6, .inl fv)), (ea, .inr (0, [.ref eax, .ref eay, .int (nI n)])), (eax, .inl (cy 0, 9, .inl xs)), (eay, .inl (cy 0, 9, .inl ys))] H := hP9
                replace hD : va_D A [(ta, .inr (7, [.ref fa, .ref a_draft, .ref ea, .ref a_past, .ref a_slots, .ref a_slotKinds, .ref a_sheets, .ref a_speedX, .ref a_speedY, .ref a_leftward, .ref a_change, .ref a_table, .int fi])), (fa, .inr (1, [.ref fap, .ref faq])), (fap, .inr (3, [.ref fapn])), (fapn, .inl (cy 0, 6, .inl fu)), (faq, .inr (3, [.ref faqn])), (faqn, .inl (cy 0, 6, .inl fv)), (ea, .inr (0, [.ref eax, .ref eay, .int (nI n)])), (eax, .inl (cy 0, 9, .inl xs)), (eay, .inl (cy 0, 9, .inl ys))] := hD9
                replace hS := hS9
                clear hP9 hD9 hS9
                refine lv_if_eq (tgt := 103) hx hb dX7_indexes_46 (by decide) (fun hc4 => ?_) (fun hc4 => ?_)
                · replace hF := hF.trans (if_pos hc4)
                  refine lv_iinc (v := ((nI kj - 6) + 1)) (lv' := [(3, .int ((nI kj - 6) + 1)), (0, .ref ta), (1, .int z1_31), (2, .int (nI ki - 6))]) hx hb dX7_indexes_103 hl (k := 3) rfl (yk_incg _) (by decide) rfl (fun ls hl9 => ?_)
                  replace hl := hl9
                  clear hl9
                  refine lv_goto (tgt := 31) hx hb dX7_indexes_106 (by decide) ?_
                  obtain ⟨n9, rfl⟩ : ∃ n9, n31 = n9 + 1 := ⟨n31 - 1, by omega⟩
                  rw [yk_off kj 6] at hl
                  exact ih31 n9 (kj + 1) z1_31 _ _ _ (by omega) (by omega)  hF hP hD hS (lv_sub hl [1, 2, 3, 0] rfl)
                · replace hF := hF.trans (if_neg hc4)
                  refine lv_aload_n hx hb dX7_indexes_49 rfl (lv_at hl 0 rfl) ?_
                  refine va_get (D := D) (ci := 7) (v := .ref ea) (C := RX7) (T := TX7) (N := 13) hx hb hts uX7_indexes_X7 hown hK hP 0 rfl rfl 2 (by decide) (hts _ kX7_indexes_0) (fun _ h9 => h9) rfl dX7_indexes_50 ?_
                  refine lv_iload_n hx hb dX7_indexes_53 rfl (lv_at hl 2 rfl) ?_
                  refine lv_iload_n hx hb dX7_indexes_54 rfl (lv_at hl 3 rfl) ?_
                  refine yk_i [6, 7, 8] (va_runV (As := [.int (nI ki - 6), .int (nI kj - 6)]) (rest := []) ⟨hx, hb, hml, hown, hts⟩ (c_X0_whereIs l D cy ea eax eay xs ys n (nI ki - 6) (nI kj - 6) hn H.size) (cwV 2 hts gX7_indexes_X0_whereIs rfl rfl rfl hv_X0_whereIs (yk_room hRf hRl rfl rfl)) (yk_pv (q := (RX0, TX0, 3)) hG hA hS hK hP hD [6, 7, 8] (by decide +kernel) rfl rfl rfl) rfl rfl hl.1 rfl (lv_room (Nat.le_of_ble_eq_true rfl)) dX7_indexes_55 ⟨Nat.zero_le _, Nat.zero_le _⟩) hP hD hS hA rfl (Eq.trans (b := [ea, eax, eay]) rfl rfl) (fun H locs hP9 hD9 hS9 => ?_)
                  replace hP : va_P D vwCl [(ta, .inr (7, [.ref fa, .ref a_draft, .ref ea, .ref a_past, .ref a_slots, .ref a_slotKinds, .ref a_sheets, .ref a_speedX, .ref a_speedY, .ref a_leftward, .ref a_change, .ref a_table, .int fi])), (fa, .inr (1, [.ref fap, .ref faq])), (fap, .inr (3, [.ref fapn])), (fapn, .inl (cy 0, 6, .inl fu)), (faq, .inr (3, [.ref faqn])), (faqn, .inl (cy 0, 6, .inl fv)), (ea, .inr (0, [.ref eax, .ref eay, .int (nI n)])), (eax, .inl (cy 0, 9, .inl xs)), (eay, .inl (cy 0, 9, .inl ys))] H := hP9
                  replace hD : va_D A [(ta, .inr (7, [.ref fa, .ref a_draft, .ref ea, .ref a_past, .ref a_slots, .ref a_slotKinds, .ref a_sheets, .ref a_speedX, .ref a_speedY, .ref a_leftward, .ref a_change, .ref a_table, .int fi])), (fa, .inr (1, [.ref fap, .ref faq])), (fap, .inr (3, [.ref fapn])), (fapn, .inl (cy 0, 6, .inl fu)), (faq, .inr (3, [.ref faqn])), (faqn, .inl (cy 0, 6, .inl fv)), (ea, .inr (0, [.ref eax, .ref eay, .int (nI n)])), (eax, .inl (cy 0, 9, .inl xs)), (eay, .inl (cy 0, 9, .inl ys))] := hD9
                  replace hS := hS9
                  clear hP9 hD9 hS9
                  refine lv_iconst (v := 2) hx hb dX7_indexes_58 (by decide) ?_
                  refine lv_icmp_eq (tgt := 65) hx hb dX7_indexes_59 (by decide) (fun hc5 => ?_) (fun hc5 => ?_)
                  · replace hF := hF.trans (if_pos hc5)
                    refine lv_aload_n hx hb dX7_indexes_65 rfl (lv_at hl 0 rfl) ?_
                    refine va_get (D := D) (ci := 7) (v := .ref fa) (C := RX7) (T := TX7) (N := 13) hx hb hts uX7_indexes_X7 hown hK hP 0 rfl rfl 0 (by decide) (hts _ kX7_indexes_1) (fun _ h9 => h9) rfl dX7_indexes_66 ?_
                    refine lv_iload_n hx hb dX7_indexes_69 rfl (lv_at hl 2 rfl) ?_
                    refine lv_iload_n hx hb dX7_indexes_70 rfl (lv_at hl 3 rfl) ?_
                    refine yk_i [1, 2, 3, 4, 5] (va_runV (As := [.int (nI ki - 6), .int (nI kj - 6)]) (rest := []) ⟨hx, hb, hml, hown, hts⟩ (c_X1_sortAt l D cy fa fap fapn faq faqn fu fv (nI ki - 6) (nI kj - 6) H.size) (cwV 2 hts gX7_indexes_X1_sortAt rfl rfl rfl hv_X1_sortAt (yk_room hRf hRl rfl rfl)) (yk_pv (q := (RX1, TX1, 2)) hG hA hS hK hP hD [1, 2, 3, 4, 5] (by decide +kernel) rfl rfl rfl) rfl rfl hl.1 rfl (lv_room (Nat.le_of_ble_eq_true rfl)) dX7_indexes_71 ⟨Nat.zero_le _, Nat.zero_le _⟩) hP hD hS hA rfl (Eq.trans (b := [fa, fap, fapn, faq, faqn]) rfl rfl) (fun H locs hP9 hD9 hS9 => ?_)
                    replace hP : va_P D vwCl [(ta, .inr (7, [.ref fa, .ref a_draft, .ref ea, .ref a_past, .ref a_slots, .ref a_slotKinds, .ref a_sheets, .ref a_speedX, .ref a_speedY, .ref a_leftward, .ref a_change, .ref a_table, .int fi])), (fa, .inr (1, [.ref fap, .ref faq])), (fap, .inr (3, [.ref fapn])), (fapn, .inl (cy 0, 6, .inl fu)), (faq, .inr (3, [.ref faqn])), (faqn, .inl (cy 0, 6, .inl fv)), (ea, .inr (0, [.ref eax, .ref eay, .int (nI n)])), (eax, .inl (cy 0, 9, .inl xs)), (eay, .inl (cy 0, 9, .inl ys))] H := hP9
                    replace hD : va_D A [(ta, .inr (7, [.ref fa, .ref a_draft, .ref ea, .ref a_past, .ref a_slots, .ref a_slotKinds, .ref a_sheets, .ref a_speedX, .ref a_speedY, .ref a_leftward, .ref a_change, .ref a_table, .int fi])), (fa, .inr (1, [.ref fap, .ref faq])), (fap, .inr (3, [.ref fapn])), (fapn, .inl (cy 0, 6, .inl fu)), (faq, .inr (3, [.ref faqn])), (faqn, .inl (cy 0, 6, .inl fv)), (ea, .inr (0, [.ref eax, .ref eay, .int (nI n)])), (eax, .inl (cy 0, 9, .inl xs)), (eay, .inl (cy 0, 9, .inl ys))] := hD9
                    replace hS := hS9
                    clear hP9 hD9 hS9
                    refine lv_istore (lv' := [(4, .int (f_X1_sortAt fu fv (nI ki - 6) (nI kj - 6))), (0, .ref ta), (1, .int z1_31), (2, .int (nI ki - 6)), (3, .int (nI kj - 6))]) hx hb dX7_indexes_74 hl (by decide) rfl (fun ls hl9 => ?_)
                    replace hl := hl9
                    clear hl9
                    refine lv_iload hx hb dX7_indexes_76 (lv_at hl 0 rfl) ?_
                    refine lv_iconst (v := 5) hx hb dX7_indexes_78 (by decide) ?_
                    refine lv_icmp_ne (tgt := 89) hx hb dX7_indexes_79 (by decide) (fun hc6 => ?_) (fun hc6 => ?_)
                    · replace hF := hF.trans (if_neg hc6)
                      refine lv_iload_n hx hb dX7_indexes_89 rfl (lv_at hl 2 rfl) ?_
                      refine lv_iload hx hb dX7_indexes_90 (lv_at hl 0 rfl) ?_
                      refine lv_iconst (v := 1) hx hb dX7_indexes_92 (by decide) ?_
                      have J9 : ∀ (v8 : Int32) (H : Heap) (locs : List Loc) (ls : Array Slot), v8 = (if (f_X1_sortAt fu fv (nI ki - 6) (nI kj - 6)) = 1 then (-1) else 1) → va_P D vwCl [(ta, .inr (7, [.ref fa, .ref a_draft, .ref ea, .ref a_past, .ref a_slots, .ref a_slotKinds, .ref a_sheets, .ref a_speedX, .ref a_speedY, .ref a_leftward, .ref a_change, .ref a_table, .int fi])), (fa, .inr (1, [.ref fap, .ref faq])), (fap, .inr (3, [.ref fapn])), (fapn, .inl (cy 0, 6, .inl fu)), (faq, .inr (3, [.ref faqn])), (faqn, .inl (cy 0, 6, .inl fv)), (ea, .inr (0, [.ref eax, .ref eay, .int (nI n)])), (eax, .inl (cy 0, 9, .inl xs)), (eay, .inl (cy 0, 9, .inl ys))] H → va_D A [(ta, .inr (7, [.ref fa, .ref a_draft, .ref ea, .ref a_past, .ref a_slots, .ref a_slotKinds, .ref a_sheets, .ref a_speedX, .ref a_speedY, .ref a_leftward, .ref a_change, .ref a_table, .int fi])), (fa, .inr (1, [.ref fap, .ref faq])), (fap, .inr (3, [.ref fapn])), (fapn, .inl (cy 0, 6, .inl fu)), (faq, .inr (3, [.ref faqn])), (faqn, .inl (cy 0, 6, .inl fv)), (ea, .inr (0, [.ref eax, .ref eay, .int (nI n)])), (eax, .inl (cy 0, 9, .inl xs)), (eay, .inl (cy 0, 9, .inl ys))] → va_S A s.heap H locs → lv_has ls 5 [(0, .ref ta), (1, .int z1_31), (2, .int (nI ki - 6)), (3, .int (nI kj - 6)), (4, .int (f_X1_sortAt fu fv (nI ki - 6) (nI kj - 6)))] → W p l e R s m args below meth c H locs 0 0 Q (F0 m 101 ls [.int v8, .int z1_31]) := by
                        clear hP hD hS hl
                        intro v8 H locs ls ev8
                        rw [ev8]
                        clear ev8
                        intro hP hD hS hl
                        refine lv_iadd hx hb dX7_indexes_101 ?_
                        refine lv_istore_n (lv' := [(1, .int (z1_31 + (if (f_X1_sortAt fu fv (nI ki - 6) (nI kj - 6)) = 1 then (-1) else 1))), (0, .ref ta), (2, .int (nI ki - 6)), (3, .int (nI kj - 6)), (4, .int (f_X1_sortAt fu fv (nI ki - 6) (nI kj - 6)))]) hx hb dX7_indexes_102 rfl hl (by decide) rfl (fun ls hl9 => ?_)
                        replace hl := hl9
                        clear hl9
                        refine lv_iinc (v := ((nI kj - 6) + 1)) (lv' := [(3, .int ((nI kj - 6) + 1)), (1, .int (z1_31 + (if (f_X1_sortAt fu fv (nI ki - 6) (nI kj - 6)) = 1 then (-1) else 1))), (0, .ref ta), (2, .int (nI ki - 6)), (4, .int (f_X1_sortAt fu fv (nI ki - 6) (nI kj - 6)))]) hx hb dX7_indexes_103 hl (k := 3) rfl (yk_incg _) (by decide) rfl (fun ls hl9 => ?_)
                        replace hl := hl9
                        clear hl9
                        refine lv_goto (tgt := 31) hx hb dX7_indexes_106 (by decide) ?_
                        obtain ⟨n9, rfl⟩ : ∃ n9, n31 = n9 + 1 := ⟨n31 - 1, by omega⟩
                        rw [yk_off kj 6] at hl
                        exact ih31 n9 (kj + 1) (z1_31 + (if (f_X1_sortAt fu fv (nI ki - 6) (nI kj - 6)) = 1 then (-1) else 1)) _ _ _ (by omega) (by omega)  hF hP hD hS (lv_sub hl [2, 1, 3, 0] rfl)
                      refine lv_icmp_ne (tgt := 100) hx hb dX7_indexes_93 (by decide) (fun hc7 => ?_) (fun hc7 => ?_)
                      · refine lv_iconst (v := 1) hx hb dX7_indexes_100 (by decide) ?_
                        exact J9 _ _ _ _ ((if_neg hc7).symm) hP hD hS (lv_sub hl [1, 2, 3, 4, 0] rfl)
                      · refine lv_iconst (v := (-1)) hx hb dX7_indexes_96 (by decide) ?_
                        refine lv_goto (tgt := 101) hx hb dX7_indexes_97 (by decide) ?_
                        exact J9 _ _ _ _ ((if_pos hc7).symm) hP hD hS (lv_sub hl [1, 2, 3, 4, 0] rfl)
                    · replace hF := hF.trans (if_pos hc6)
                      refine lv_aload_n hx hb dX7_indexes_82 rfl (lv_at hl 1 rfl) ?_
                      refine lv_ldc (v := (-1000006)) hx hb hown (hts _ kX7_indexes_2) dX7_indexes_83 ?_
                      refine yk_i [0] (va_runV (As := [.int (-1000006)]) (rest := []) ⟨hx, hb, hml, hown, hts⟩ (c_X7_finding l D cy ta fa a_draft ea a_past a_slots a_slotKinds a_sheets a_speedX a_speedY a_leftward a_change a_table fi (-1000006) H.size) (cwV 1 hts gX7_indexes_X7_finding rfl rfl rfl hv_X7_finding (yk_room hRf hRl rfl rfl)) (yk_pv (q := (RX7, TX7, 13)) hG hA hS hK hP hD [0] (by decide +kernel) rfl rfl rfl) rfl rfl hl.1 rfl (lv_room (Nat.le_of_ble_eq_true rfl)) dX7_indexes_85 ⟨Nat.zero_le _, Nat.zero_le _⟩) hP hD hS hA rfl (Eq.trans (b := [ta]) rfl rfl) (fun H locs hP9 hD9 hS9 => ?_)
                      replace hP : va_P D vwCl [(ta, .inr (7, [.ref fa, .ref a_draft, .ref ea, .ref a_past, .ref a_slots, .ref a_slotKinds, .ref a_sheets, .ref a_speedX, .ref a_speedY, .ref a_leftward, .ref a_change, .ref a_table, .int ((f_X7_finding fi (-1000006)).2)])), (fa, .inr (1, [.ref fap, .ref faq])), (fap, .inr (3, [.ref fapn])), (fapn, .inl (cy 0, 6, .inl fu)), (faq, .inr (3, [.ref faqn])), (faqn, .inl (cy 0, 6, .inl fv)), (ea, .inr (0, [.ref eax, .ref eay, .int (nI n)])), (eax, .inl (cy 0, 9, .inl xs)), (eay, .inl (cy 0, 9, .inl ys))] H := hP9
                      replace hD : va_D A [(ta, .inr (7, [.ref fa, .ref a_draft, .ref ea, .ref a_past, .ref a_slots, .ref a_slotKinds, .ref a_sheets, .ref a_speedX, .ref a_speedY, .ref a_leftward, .ref a_change, .ref a_table, .int ((f_X7_finding fi (-1000006)).2)])), (fa, .inr (1, [.ref fap, .ref faq])), (fap, .inr (3, [.ref fapn])), (fapn, .inl (cy 0, 6, .inl fu)), (faq, .inr (3, [.ref faqn])), (faqn, .inl (cy 0, 6, .inl fv)), (ea, .inr (0, [.ref eax, .ref eay, .int (nI n)])), (eax, .inl (cy 0, 9, .inl xs)), (eay, .inl (cy 0, 9, .inl ys))] := hD9
                      replace hS := hS9
                      clear hP9 hD9 hS9
                      have hF : f_X7_indexes fu fv xs ys n fi = (((f_X7_finding fi (-1000006)).1), ((f_X7_finding fi (-1000006)).2)) := hF
                      have hf0 := yk_fst hF
                      have hg0 := yk_snd hF
                      rw [hf0, hg0] at hQ
                      exact hQ _ _ _ _ dX7_indexes_88 hP hS
                  · replace hF := hF.trans (if_neg hc5)
                    refine lv_goto (tgt := 103) hx hb dX7_indexes_62 (by decide) ?_
                    refine lv_iinc (v := ((nI kj - 6) + 1)) (lv' := [(3, .int ((nI kj - 6) + 1)), (0, .ref ta), (1, .int z1_31), (2, .int (nI ki - 6))]) hx hb dX7_indexes_103 hl (k := 3) rfl (yk_incg _) (by decide) rfl (fun ls hl9 => ?_)
                    replace hl := hl9
                    clear hl9
                    refine lv_goto (tgt := 31) hx hb dX7_indexes_106 (by decide) ?_
                    obtain ⟨n9, rfl⟩ : ∃ n9, n31 = n9 + 1 := ⟨n31 - 1, by omega⟩
                    rw [yk_off kj 6] at hl
                    exact ih31 n9 (kj + 1) z1_31 _ _ _ (by omega) (by omega)  hF hP hD hS (lv_sub hl [1, 2, 3, 0] rfl)
          rw [show (-6 : Int32) = nI 0 - 6 from rfl] at hl
          exact L31 (13 + 1) 13 0 z1_22 _ _ _ (Nat.lt_succ_self _) (by omega)  hF hP hD hS (lv_sub hl [1, 2, 3, 0] rfl)
    rw [show (-6 : Int32) = nI 0 - 6 from rfl] at hl
    exact L22 (13 + 1) 13 0 0 _ _ _ (Nat.lt_succ_self _) (by omega)  hF hP hD hS (lv_sub hl [2, 1, 0] rfl)
  · replace hF := hF.trans (if_pos hc1)
    refine lv_aload_n hx hb dX7_indexes_10 rfl (lv_at hl 0 rfl) ?_
    refine lv_ldc (v := (-1000004)) hx hb hown (hts _ kX7_indexes_3) dX7_indexes_11 ?_
    refine yk_i [0] (va_runV (As := [.int (-1000004)]) (rest := []) ⟨hx, hb, hml, hown, hts⟩ (c_X7_finding l D cy ta fa a_draft ea a_past a_slots a_slotKinds a_sheets a_speedX a_speedY a_leftward a_change a_table fi (-1000004) H.size) (cwV 1 hts gX7_indexes_X7_finding rfl rfl rfl hv_X7_finding (yk_room hRf hRl rfl rfl)) (yk_pv (q := (RX7, TX7, 13)) hG hA hS hK hP hD [0] (by decide +kernel) rfl rfl rfl) rfl rfl hl.1 rfl (lv_room (Nat.le_of_ble_eq_true rfl)) dX7_indexes_13 ⟨Nat.zero_le _, Nat.zero_le _⟩) hP hD hS hA rfl (Eq.trans (b := [ta]) rfl rfl) (fun H locs hP9 hD9 hS9 => ?_)
    replace hP : va_P D vwCl [(ta, .inr (7, [.ref fa, .ref a_draft, .ref ea, .ref a_past, .ref a_slots, .ref a_slotKinds, .ref a_sheets, .ref a_speedX, .ref a_speedY, .ref a_leftward, .ref a_change, .ref a_table, .int ((f_X7_finding fi (-1000004)).2)])), (fa, .inr (1, [.ref fap, .ref faq])), (fap, .inr (3, [.ref fapn])), (fapn, .inl (cy 0, 6, .inl fu)), (faq, .inr (3, [.ref faqn])), (faqn, .inl (cy 0, 6, .inl fv)), (ea, .inr (0, [.ref eax, .ref eay, .int (nI n)])), (eax, .inl (cy 0, 9, .inl xs)), (eay, .inl (cy 0, 9, .inl ys))] H := hP9
    replace hD : va_D A [(ta, .inr (7, [.ref fa, .ref a_draft, .ref ea, .ref a_past, .ref a_slots, .ref a_slotKinds, .ref a_sheets, .ref a_speedX, .ref a_speedY, .ref a_leftward, .ref a_change, .ref a_table, .int ((f_X7_finding fi (-1000004)).2)])), (fa, .inr (1, [.ref fap, .ref faq])), (fap, .inr (3, [.ref fapn])), (fapn, .inl (cy 0, 6, .inl fu)), (faq, .inr (3, [.ref faqn])), (faqn, .inl (cy 0, 6, .inl fv)), (ea, .inr (0, [.ref eax, .ref eay, .int (nI n)])), (eax, .inl (cy 0, 9, .inl xs)), (eay, .inl (cy 0, 9, .inl ys))] := hD9
    replace hS := hS9
    clear hP9 hD9 hS9
    have hF : f_X7_indexes fu fv xs ys n fi = (((f_X7_finding fi (-1000004)).1), ((f_X7_finding fi (-1000004)).2)) := hF
    have hf0 := yk_fst hF
    have hg0 := yk_snd hF
    rw [hf0, hg0] at hQ
    exact hQ _ _ _ _ dX7_indexes_16 hP hS

theorem kX7_clearChange_0 : Cond.fieldLink RX7 61 "FlowPlane" "change" "[I" ∈ wsX7_clearChange := by decide +kernel
theorem uX7_clearChange_X7 : ∀ w ∈ u_ws RX7 TX7 13, w ∈ wsX7_clearChange := by decide +kernel
def l_X7_clearChange_2 (ch : Nat → Int32) : Nat → Nat → (Nat → Int32) → (Nat → Int32)
  | 0, ki, zC_2 => zC_2
  | fu_X7_clearChange_2 + 1, ki, zC_2 => (if 10 ≤ (nI ki) then zC_2 else (l_X7_clearChange_2 ch fu_X7_clearChange_2 (ki + 1) (upd zC_2 ki 0)))
def f_X7_clearChange (ch : Nat → Int32) : (Nat → Int32) := (l_X7_clearChange_2 ch (10 + 1) 0 ch)
set_option maxHeartbeats 400000000 in
set_option maxRecDepth 100000 in
theorem c_X7_clearChange (l : Launch) (D : va_G) (cy : Nat → ClassId) (ta : Nat) (ca : Nat) (a_flow : Nat) (a_draft : Nat) (a_fence : Nat) (a_past : Nat) (a_slots : Nat) (a_slotKinds : Nat) (a_sheets : Nat) (a_speedX : Nat) (a_speedY : Nat) (a_leftward : Nat) (a_table : Nat) (ch : Nat → Int32) (fi : Int32) : yk_Cv l D vwCl (yk_ty cy) yX7_clearChange wsX7_clearChange 0 0 [.ref ta] [(ta, .inr (7, [.ref a_flow, .ref a_draft, .ref a_fence, .ref a_past, .ref a_slots, .ref a_slotKinds, .ref a_sheets, .ref a_speedX, .ref a_speedY, .ref a_leftward, .ref ca, .ref a_table, .int fi])), (ca, .inl (cy 0, 10, .inl ch))] [(ta, .inr (7, [.ref a_flow, .ref a_draft, .ref a_fence, .ref a_past, .ref a_slots, .ref a_slotKinds, .ref a_sheets, .ref a_speedX, .ref a_speedY, .ref a_leftward, .ref ca, .ref a_table, .int fi])), (ca, .inl (cy 0, 10, .inl (f_X7_clearChange ch)))] := by
  refine yk_eV (cc := cX7_clearChange) (maxL := 2) (by decide) rfl (Nat.le_of_ble_eq_true rfl) ?_
  intro p e R s m args below meth c A Q ls H locs hx hb hml hown hts hRf hRl hA hK hG hP hD hS hl hQ
  have hP : va_P D vwCl [(ta, .inr (7, [.ref a_flow, .ref a_draft, .ref a_fence, .ref a_past, .ref a_slots, .ref a_slotKinds, .ref a_sheets, .ref a_speedX, .ref a_speedY, .ref a_leftward, .ref ca, .ref a_table, .int fi])), (ca, .inl (cy 0, 10, .inl ch))] H := hP
  have hl : lv_has ls 2 [(0, .ref ta)] := hl
  have hown : s.vm.findClass RX7 = some m.cls := hown
  have hF : (f_X7_clearChange ch) = (f_X7_clearChange ch) := rfl
  refine lv_iconst (v := 0) hx hb dX7_clearChange_0 (by decide) ?_
  refine lv_istore_n (lv' := [(1, .int 0), (0, .ref ta)]) hx hb dX7_clearChange_1 rfl hl (by decide) rfl (fun ls hl9 => ?_)
  replace hl := hl9
  clear hl9
  have J3 : ∀ (H : Heap) (locs : List Loc) (ls : Array Slot), va_P D vwCl [(ta, .inr (7, [.ref a_flow, .ref a_draft, .ref a_fence, .ref a_past, .ref a_slots, .ref a_slotKinds, .ref a_sheets, .ref a_speedX, .ref a_speedY, .ref a_leftward, .ref ca, .ref a_table, .int fi])), (ca, .inl (cy 0, 10, .inl (l_X7_clearChange_2 ch (10 + 1) 0 ch)))] H → va_D A [(ta, .inr (7, [.ref a_flow, .ref a_draft, .ref a_fence, .ref a_past, .ref a_slots, .ref a_slotKinds, .ref a_sheets, .ref a_speedX, .ref a_speedY, .ref a_leftward, .ref ca, .ref a_table, .int fi])), (ca, .inl (cy 0, 10, .inl (l_X7_clearChange_2 ch (10 + 1) 0 ch)))] → va_S A s.heap H locs → lv_has ls 2 [(0, .ref ta)] → W p l e R s m args below meth c H locs 0 0 Q (F0 m 21 ls []) := by
    clear hP hD hS hl
    intro H locs ls hP hD hS hl
    have hF : f_X7_clearChange ch = (l_X7_clearChange_2 ch (10 + 1) 0 ch) := hF
    rw [hF] at hQ
    exact hQ _ _ _ _ dX7_clearChange_21 hP hS
  have L2 : ∀ (M9 n2 ki : Nat) (zC_2 : Nat → Int32) (H : Heap) (locs : List Loc) (ls : Array Slot), n2 < M9 → ki + n2 = 10 → (l_X7_clearChange_2 ch (10 + 1) 0 ch) = (l_X7_clearChange_2 ch (n2 + 1) ki zC_2) → va_P D vwCl [(ta, .inr (7, [.ref a_flow, .ref a_draft, .ref a_fence, .ref a_past, .ref a_slots, .ref a_slotKinds, .ref a_sheets, .ref a_speedX, .ref a_speedY, .ref a_leftward, .ref ca, .ref a_table, .int fi])), (ca, .inl (cy 0, 10, .inl zC_2))] H → va_D A [(ta, .inr (7, [.ref a_flow, .ref a_draft, .ref a_fence, .ref a_past, .ref a_slots, .ref a_slotKinds, .ref a_sheets, .ref a_speedX, .ref a_speedY, .ref a_leftward, .ref ca, .ref a_table, .int fi])), (ca, .inl (cy 0, 10, .inl zC_2))] → va_S A s.heap H locs → lv_has ls 2 [(0, .ref ta), (1, .int (nI ki))] → W p l e R s m args below meth c H locs 0 0 Q (F0 m 2 ls []) := by
    clear hP hD hS hl
    intro M9
    induction M9 with
    | zero => intro n2 ki _ _ _ _ hn; exact absurd hn (Nat.not_lt_zero _)
    | succ M9 ih2 =>
      intro n2 ki zC_2 H locs ls hn2 hk2 hV2 hP hD hS hl
      refine lv_iload_n hx hb dX7_clearChange_2 rfl (lv_at hl 1 rfl) ?_
      refine lv_bipush (v := 10) hx hb dX7_clearChange_3 (by decide) ?_
      refine lv_icmp_ge (tgt := 21) hx hb dX7_clearChange_5 (by decide) (fun hc2 => ?_) (fun hc2 => ?_)
      · replace hV2 := hV2.trans (if_pos hc2)
        have hV2 : (l_X7_clearChange_2 ch (10 + 1) 0 ch) = zC_2 := hV2
        have J3 := J3
        rw [hV2] at J3
        exact J3 _ _ _ hP hD hS (lv_sub hl [0] rfl)
      · replace hV2 := hV2.trans (if_neg hc2)
        have hlt2 : ki < 10 := yk_lt hk2 (by omega) hc2
        refine lv_aload_n hx hb dX7_clearChange_8 rfl (lv_at hl 0 rfl) ?_
        refine va_get (D := D) (ci := 7) (v := .ref ca) (C := RX7) (T := TX7) (N := 13) hx hb hts uX7_clearChange_X7 hown hK hP 0 rfl rfl 10 (by decide) (hts _ kX7_clearChange_0) (fun _ h9 => h9) rfl dX7_clearChange_9 ?_
        refine lv_iload_n hx hb dX7_clearChange_12 rfl (lv_at hl 1 rfl) ?_
        refine lv_iconst (v := 0) hx hb dX7_clearChange_13 (by decide) ?_
        refine yk_ist hx hb hK hP hD hS 1 0 rfl rfl ki (by omega) (by decide) dX7_clearChange_14 (fun H locs hP9 hD9 hS9 => ?_)
        replace hP : va_P D vwCl [(ta, .inr (7, [.ref a_flow, .ref a_draft, .ref a_fence, .ref a_past, .ref a_slots, .ref a_slotKinds, .ref a_sheets, .ref a_speedX, .ref a_speedY, .ref a_leftward, .ref ca, .ref a_table, .int fi])), (ca, .inl (cy 0, 10, .inl (upd zC_2 ki 0)))] H := hP9
        replace hD : va_D A [(ta, .inr (7, [.ref a_flow, .ref a_draft, .ref a_fence, .ref a_past, .ref a_slots, .ref a_slotKinds, .ref a_sheets, .ref a_speedX, .ref a_speedY, .ref a_leftward, .ref ca, .ref a_table, .int fi])), (ca, .inl (cy 0, 10, .inl (upd zC_2 ki 0)))] := hD9
        replace hS := hS9
        clear hP9 hD9 hS9
        refine lv_iinc (v := nI (ki + 1)) (lv' := [(1, .int (nI (ki + 1))), (0, .ref ta)]) hx hb dX7_clearChange_15 hl (k := 1) rfl (yk_inc ki) (by decide) rfl (fun ls hl9 => ?_)
        replace hl := hl9
        clear hl9
        refine lv_goto (tgt := 2) hx hb dX7_clearChange_18 (by decide) ?_
        obtain ⟨n9, rfl⟩ : ∃ n9, n2 = n9 + 1 := ⟨n2 - 1, by omega⟩
        exact ih2 n9 (ki + 1) (upd zC_2 ki 0) _ _ _ (by omega) (by omega)  hV2 hP hD hS (lv_sub hl [1, 0] rfl)
  exact L2 (10 + 1) 10 0 ch _ _ _ (Nat.lt_succ_self _) (by omega)  rfl hP hD hS (lv_sub hl [1, 0] rfl)

theorem kX7_addChange_0 : Cond.fieldLink RX7 96 "FlowPlane$Polynomial" "numbers" "[I" ∈ wsX7_addChange := by decide +kernel
theorem kX7_addChange_1 : Cond.fieldLink RX7 61 "FlowPlane" "change" "[I" ∈ wsX7_addChange := by decide +kernel
theorem kX7_addChange_2 : Cond.fieldLink RX7 326 "FlowPlane" "TIMES_X" "[I" ∈ wsX7_addChange := by decide +kernel
theorem kX7_addChange_3 : Cond.fieldLink RX7 329 "FlowPlane" "TIMES_Y" "[I" ∈ wsX7_addChange := by decide +kernel
theorem uX7_addChange_X3 : ∀ w ∈ u_ws RX3 TX3 1, w ∈ wsX7_addChange := by decide +kernel
theorem uX7_addChange_X7 : ∀ w ∈ u_ws RX7 TX7 13, w ∈ wsX7_addChange := by decide +kernel
def l_X7_addChange_3 (ch : Nat → Int32) (gu : Nat → Int32) (px : Int32) (py : Int32) (pz : Int32) : Nat → Nat → (Nat → Int32) → (Nat → Int32)
  | 0, ki, zC_3 => zC_3
  | fu_X7_addChange_3 + 1, ki, zC_3 => (if 6 ≤ (nI ki) then zC_3 else (l_X7_addChange_3 ch gu px py pz fu_X7_addChange_3 (ki + 1) (upd (upd (upd zC_3 ki ((zC_3 ki) + (px * (gu ki)))) (yk_TX ki) (((upd zC_3 ki ((zC_3 ki) + (px * (gu ki)))) (yk_TX ki)) + (py * (gu ki)))) (yk_TY ki) (((upd (upd zC_3 ki ((zC_3 ki) + (px * (gu ki)))) (yk_TX ki) (((upd zC_3 ki ((zC_3 ki) + (px * (gu ki)))) (yk_TX ki)) + (py * (gu ki)))) (yk_TY ki)) + (pz * (gu ki))))))
def f_X7_addChange (ch : Nat → Int32) (gu : Nat → Int32) (px : Int32) (py : Int32) (pz : Int32) : (Nat → Int32) := (l_X7_addChange_3 ch gu px py pz (6 + 1) 0 ch)
set_option maxHeartbeats 400000000 in
set_option maxRecDepth 100000 in
theorem c_X7_addChange (l : Launch) (D : va_G) (cy : Nat → ClassId) (ta : Nat) (ca : Nat) (oa : Nat) (oan : Nat) (a_flow : Nat) (a_draft : Nat) (a_fence : Nat) (a_past : Nat) (a_slots : Nat) (a_slotKinds : Nat) (a_sheets : Nat) (a_speedX : Nat) (a_speedY : Nat) (a_leftward : Nat) (a_table : Nat) (ch : Nat → Int32) (fi : Int32) (gu : Nat → Int32) (px : Int32) (py : Int32) (pz : Int32) : yk_Cv l D vwCl (yk_ty cy) yX7_addChange wsX7_addChange 0 0 [.ref ta, .ref oa, .int px, .int py, .int pz] [(ta, .inr (7, [.ref a_flow, .ref a_draft, .ref a_fence, .ref a_past, .ref a_slots, .ref a_slotKinds, .ref a_sheets, .ref a_speedX, .ref a_speedY, .ref a_leftward, .ref ca, .ref a_table, .int fi])), (ca, .inl (cy 0, 10, .inl ch)), (oa, .inr (3, [.ref oan])), (oan, .inl (cy 0, 6, .inl gu))] [(ta, .inr (7, [.ref a_flow, .ref a_draft, .ref a_fence, .ref a_past, .ref a_slots, .ref a_slotKinds, .ref a_sheets, .ref a_speedX, .ref a_speedY, .ref a_leftward, .ref ca, .ref a_table, .int fi])), (ca, .inl (cy 0, 10, .inl (f_X7_addChange ch gu px py pz))), (oa, .inr (3, [.ref oan])), (oan, .inl (cy 0, 6, .inl gu))] := by
  refine yk_eV (cc := cX7_addChange) (maxL := 7) (by decide) rfl (Nat.le_of_ble_eq_true rfl) ?_
  intro p e R s m args below meth c A Q ls H locs hx hb hml hown hts hRf hRl hA hK hG hP hD hS hl hQ
  have hP : va_P D vwCl [(ta, .inr (7, [.ref a_flow, .ref a_draft, .ref a_fence, .ref a_past, .ref a_slots, .ref a_slotKinds, .ref a_sheets, .ref a_speedX, .ref a_speedY, .ref a_leftward, .ref ca, .ref a_table, .int fi])), (ca, .inl (cy 0, 10, .inl ch)), (oa, .inr (3, [.ref oan])), (oan, .inl (cy 0, 6, .inl gu))] H := hP
  have hl : lv_has ls 7 [(0, .ref ta), (1, .ref oa), (2, .int px), (3, .int py), (4, .int pz)] := hl
  have hown : s.vm.findClass RX7 = some m.cls := hown
  obtain ⟨⟨tq1, hZ1, hT1⟩, ⟨tq2, hZ2, hT2⟩, ⟨tq3, hZ3, hT3⟩, hNw⟩ := id hG
  have hF : (f_X7_addChange ch gu px py pz) = (f_X7_addChange ch gu px py pz) := rfl
  refine lv_iconst (v := 0) hx hb dX7_addChange_0 (by decide) ?_
  refine lv_istore (lv' := [(5, .int 0), (0, .ref ta), (1, .ref oa), (2, .int px), (3, .int py), (4, .int pz)]) hx hb dX7_addChange_1 hl (by decide) rfl (fun ls hl9 => ?_)
  replace hl := hl9
  clear hl9
  have J3 : ∀ (H : Heap) (locs : List Loc) (ls : Array Slot), va_P D vwCl [(ta, .inr (7, [.ref a_flow, .ref a_draft, .ref a_fence, .ref a_past, .ref a_slots, .ref a_slotKinds, .ref a_sheets, .ref a_speedX, .ref a_speedY, .ref a_leftward, .ref ca, .ref a_table, .int fi])), (ca, .inl (cy 0, 10, .inl (l_X7_addChange_3 ch gu px py pz (6 + 1) 0 ch))), (oa, .inr (3, [.ref oan])), (oan, .inl (cy 0, 6, .inl gu))] H → va_D A [(ta, .inr (7, [.ref a_flow, .ref a_draft, .ref a_fence, .ref a_past, .ref a_slots, .ref a_slotKinds, .ref a_sheets, .ref a_speedX, .ref a_speedY, .ref a_leftward, .ref ca, .ref a_table, .int fi])), (ca, .inl (cy 0, 10, .inl (l_X7_addChange_3 ch gu px py pz (6 + 1) 0 ch))), (oa, .inr (3, [.ref oan])), (oan, .inl (cy 0, 6, .inl gu))] → va_S A s.heap H locs → lv_has ls 7 [(0, .ref ta), (1, .ref oa), (2, .int px), (3, .int py), (4, .int pz)] → W p l e R s m args below meth c H locs 0 0 Q (F0 m 76 ls []) := by
    clear hP hD hS hl
    intro H locs ls hP hD hS hl
    have hF : f_X7_addChange ch gu px py pz = (l_X7_addChange_3 ch gu px py pz (6 + 1) 0 ch) := hF
    rw [hF] at hQ
    exact hQ _ _ _ _ dX7_addChange_76 hP hS
  have L3 : ∀ (M9 n3 ki : Nat) (zC_3 : Nat → Int32) (H : Heap) (locs : List Loc) (ls : Array Slot), n3 < M9 → ki + n3 = 6 → (l_X7_addChange_3 ch gu px py pz (6 + 1) 0 ch) = (l_X7_addChange_3 ch gu px py pz (n3 + 1) ki zC_3) → va_P D vwCl [(ta, .inr (7, [.ref a_flow, .ref a_draft, .ref a_fence, .ref a_past, .ref a_slots, .ref a_slotKinds, .ref a_sheets, .ref a_speedX, .ref a_speedY, .ref a_leftward, .ref ca, .ref a_table, .int fi])), (ca, .inl (cy 0, 10, .inl zC_3)), (oa, .inr (3, [.ref oan])), (oan, .inl (cy 0, 6, .inl gu))] H → va_D A [(ta, .inr (7, [.ref a_flow, .ref a_draft, .ref a_fence, .ref a_past, .ref a_slots, .ref a_slotKinds, .ref a_sheets, .ref a_speedX, .ref a_speedY, .ref a_leftward, .ref ca, .ref a_table, .int fi])), (ca, .inl (cy 0, 10, .inl zC_3)), (oa, .inr (3, [.ref oan])), (oan, .inl (cy 0, 6, .inl gu))] → va_S A s.heap H locs → lv_has ls 7 [(0, .ref ta), (1, .ref oa), (2, .int px), (3, .int py), (4, .int pz), (5, .int (nI ki))] → W p l e R s m args below meth c H locs 0 0 Q (F0 m 3 ls []) := by
    clear hP hD hS hl
    intro M9
    induction M9 with
    | zero => intro n3 ki _ _ _ _ hn; exact absurd hn (Nat.not_lt_zero _)
    | succ M9 ih3 =>
      intro n3 ki zC_3 H locs ls hn3 hk3 hV3 hP hD hS hl
      refine lv_iload hx hb dX7_addChange_3 (lv_at hl 5 rfl) ?_
      refine lv_bipush (v := 6) hx hb dX7_addChange_5 (by decide) ?_
      refine lv_icmp_ge (tgt := 76) hx hb dX7_addChange_7 (by decide) (fun hc2 => ?_) (fun hc2 => ?_)
      · replace hV3 := hV3.trans (if_pos hc2)
        have hV3 : (l_X7_addChange_3 ch gu px py pz (6 + 1) 0 ch) = zC_3 := hV3
        have J3 := J3
        rw [hV3] at J3
        exact J3 _ _ _ hP hD hS (lv_sub hl [0, 1, 2, 3, 4] rfl)
      · replace hV3 := hV3.trans (if_neg hc2)
        have hlt3 : ki < 6 := yk_lt hk3 (by omega) hc2
        refine lv_aload_n hx hb dX7_addChange_10 rfl (lv_at hl 1 rfl) ?_
        refine va_get (D := D) (ci := 3) (v := .ref oan) (C := RX3) (T := TX3) (N := 1) hx hb hts uX7_addChange_X3 hown hK hP 2 rfl rfl 0 (by decide) (hts _ kX7_addChange_0) (fun _ h9 => h9) rfl dX7_addChange_11 ?_
        refine lv_iload hx hb dX7_addChange_14 (lv_at hl 5 rfl) ?_
        refine yk_ild hx hb hK hP 3 0 rfl rfl ki (by omega) (by decide) dX7_addChange_16 ?_
        refine lv_istore (lv' := [(6, .int (gu ki)), (0, .ref ta), (1, .ref oa), (2, .int px), (3, .int py), (4, .int pz), (5, .int (nI ki))]) hx hb dX7_addChange_17 hl (by decide) rfl (fun ls hl9 => ?_)
        replace hl := hl9
        clear hl9
        refine lv_aload_n hx hb dX7_addChange_19 rfl (lv_at hl 1 rfl) ?_
        refine va_get (D := D) (ci := 7) (v := .ref ca) (C := RX7) (T := TX7) (N := 13) hx hb hts uX7_addChange_X7 hown hK hP 0 rfl rfl 10 (by decide) (hts _ kX7_addChange_1) (fun _ h9 => h9) rfl dX7_addChange_20 ?_
        refine lv_iload hx hb dX7_addChange_23 (lv_at hl 6 rfl) ?_
        refine lv_dup2_11 hx hb dX7_addChange_25 rfl rfl ?_
        refine yk_ild hx hb hK hP 1 0 rfl rfl ki (by omega) (by decide) dX7_addChange_26 ?_
        refine lv_iload_n hx hb dX7_addChange_27 rfl (lv_at hl 3 rfl) ?_
        refine lv_iload hx hb dX7_addChange_28 (lv_at hl 0 rfl) ?_
        refine lv_imul hx hb dX7_addChange_30 ?_
        refine lv_iadd hx hb dX7_addChange_31 ?_
        refine yk_ist hx hb hK hP hD hS 1 0 rfl rfl ki (by omega) (by decide) dX7_addChange_32 (fun H locs hP9 hD9 hS9 => ?_)
        replace hP : va_P D vwCl [(ta, .inr (7, [.ref a_flow, .ref a_draft, .ref a_fence, .ref a_past, .ref a_slots, .ref a_slotKinds, .ref a_sheets, .ref a_speedX, .ref a_speedY, .ref a_leftward, .ref ca, .ref a_table, .int fi])), (ca, .inl (cy 0, 10, .inl (upd zC_3 ki ((zC_3 ki) + (px * (gu ki)))))), (oa, .inr (3, [.ref oan])), (oan, .inl (cy 0, 6, .inl gu))] H := hP9
        replace hD : va_D A [(ta, .inr (7, [.ref a_flow, .ref a_draft, .ref a_fence, .ref a_past, .ref a_slots, .ref a_slotKinds, .ref a_sheets, .ref a_speedX, .ref a_speedY, .ref a_leftward, .ref ca, .ref a_table, .int fi])), (ca, .inl (cy 0, 10, .inl (upd zC_3 ki ((zC_3 ki) + (px * (gu ki)))))), (oa, .inr (3, [.ref oan])), (oan, .inl (cy 0, 6, .inl gu))] := hD9
        replace hS := hS9
        clear hP9 hD9 hS9
        refine lv_aload_n hx hb dX7_addChange_33 rfl (lv_at hl 1 rfl) ?_
        refine va_get (D := D) (ci := 7) (v := .ref ca) (C := RX7) (T := TX7) (N := 13) hx hb hts uX7_addChange_X7 hown hK hP 0 rfl rfl 10 (by decide) (hts _ kX7_addChange_1) (fun _ h9 => h9) rfl dX7_addChange_34 ?_
        refine va_gets hx hb hZ1 hS hown (hts _ kX7_addChange_2) (fun _ h9 => h9) dX7_addChange_37 ?_
        refine lv_iload hx hb dX7_addChange_40 (lv_at hl 6 rfl) ?_
        refine yk_tld hx hb hT1 hS ki (by omega) (by decide) (yk_tx (by omega)) dX7_addChange_42 ?_
        refine lv_dup2_11 hx hb dX7_addChange_43 rfl rfl ?_
        refine yk_ild hx hb hK hP 1 0 rfl rfl (yk_TX ki) (yk_txb hlt3) (by decide) dX7_addChange_44 ?_
        refine lv_iload_n hx hb dX7_addChange_45 rfl (lv_at hl 4 rfl) ?_
        refine lv_iload hx hb dX7_addChange_46 (lv_at hl 0 rfl) ?_
        refine lv_imul hx hb dX7_addChange_48 ?_
        refine lv_iadd hx hb dX7_addChange_49 ?_
        refine yk_ist hx hb hK hP hD hS 1 0 rfl rfl (yk_TX ki) (yk_txb hlt3) (by decide) dX7_addChange_50 (fun H locs hP9 hD9 hS9 => ?_)
        replace hP : va_P D vwCl [(ta, .inr (7, [.ref a_flow, .ref a_draft, .ref a_fence, .ref a_past, .ref a_slots, .ref a_slotKinds, .ref a_sheets, .ref a_speedX, .ref a_speedY, .ref a_leftward, .ref ca, .ref a_table, .int fi])), (ca, .inl (cy 0, 10, .inl (upd (upd zC_3 ki ((zC_3 ki) + (px * (gu ki)))) (yk_TX ki) (((upd zC_3 ki ((zC_3 ki) + (px * (gu ki)))) (yk_TX ki)) + (py * (gu ki)))))), (oa, .inr (3, [.ref oan])), (oan, .inl (cy 0, 6, .inl gu))] H := hP9
        replace hD : va_D A [(ta, .inr (7, [.ref a_flow, .ref a_draft, .ref a_fence, .ref a_past, .ref a_slots, .ref a_slotKinds, .ref a_sheets, .ref a_speedX, .ref a_speedY, .ref a_leftward, .ref ca, .ref a_table, .int fi])), (ca, .inl (cy 0, 10, .inl (upd (upd zC_3 ki ((zC_3 ki) + (px * (gu ki)))) (yk_TX ki) (((upd zC_3 ki ((zC_3 ki) + (px * (gu ki)))) (yk_TX ki)) + (py * (gu ki)))))), (oa, .inr (3, [.ref oan])), (oan, .inl (cy 0, 6, .inl gu))] := hD9
        replace hS := hS9
        clear hP9 hD9 hS9
        refine lv_aload_n hx hb dX7_addChange_51 rfl (lv_at hl 1 rfl) ?_
        refine va_get (D := D) (ci := 7) (v := .ref ca) (C := RX7) (T := TX7) (N := 13) hx hb hts uX7_addChange_X7 hown hK hP 0 rfl rfl 10 (by decide) (hts _ kX7_addChange_1) (fun _ h9 => h9) rfl dX7_addChange_52 ?_
        refine va_gets hx hb hZ2 hS hown (hts _ kX7_addChange_3) (fun _ h9 => h9) dX7_addChange_55 ?_
        refine lv_iload hx hb dX7_addChange_58 (lv_at hl 6 rfl) ?_
        refine yk_tld hx hb hT2 hS ki (by omega) (by decide) (yk_ty' (by omega)) dX7_addChange_60 ?_
        refine lv_dup2_11 hx hb dX7_addChange_61 rfl rfl ?_
        refine yk_ild hx hb hK hP 1 0 rfl rfl (yk_TY ki) (yk_tyb hlt3) (by decide) dX7_addChange_62 ?_
        refine lv_iload hx hb dX7_addChange_63 (lv_at hl 5 rfl) ?_
        refine lv_iload hx hb dX7_addChange_65 (lv_at hl 0 rfl) ?_
        refine lv_imul hx hb dX7_addChange_67 ?_
        refine lv_iadd hx hb dX7_addChange_68 ?_
        refine yk_ist hx hb hK hP hD hS 1 0 rfl rfl (yk_TY ki) (yk_tyb hlt3) (by decide) dX7_addChange_69 (fun H locs hP9 hD9 hS9 => ?_)
        replace hP : va_P D vwCl [(ta, .inr (7, [.ref a_flow, .ref a_draft, .ref a_fence, .ref a_past, .ref a_slots, .ref a_slotKinds, .ref a_sheets, .ref a_speedX, .ref a_speedY, .ref a_leftward, .ref ca, .ref a_table, .int fi])), (ca, .inl (cy 0, 10, .inl (upd (upd (upd zC_3 ki ((zC_3 ki) + (px * (gu ki)))) (yk_TX ki) (((upd zC_3 ki ((zC_3 ki) + (px * (gu ki)))) (yk_TX ki)) + (py * (gu ki)))) (yk_TY ki) (((upd (upd zC_3 ki ((zC_3 ki) + (px * (gu ki)))) (yk_TX ki) (((upd zC_3 ki ((zC_3 ki) + (px * (gu ki)))) (yk_TX ki)) + (py * (gu ki)))) (yk_TY ki)) + (pz * (gu ki)))))), (oa, .inr (3, [.ref oan])), (oan, .inl (cy 0, 6, .inl gu))] H := hP9
        replace hD : va_D A [(ta, .inr (7, [.ref a_flow, .ref a_draft, .ref a_fence, .ref a_past, .ref a_slots, .ref a_slotKinds, .ref a_sheets, .ref a_speedX, .ref a_speedY, .ref a_leftward, .ref ca, .ref a_table, .int fi])), (ca, .inl (cy 0, 10, .inl (upd (upd (upd zC_3 ki ((zC_3 ki) + (px * (gu ki)))) (yk_TX ki) (((upd zC_3 ki ((zC_3 ki) + (px * (gu ki)))) (yk_TX ki)) + (py * (gu ki)))) (yk_TY ki) (((upd (upd zC_3 ki ((zC_3 ki) + (px * (gu ki)))) (yk_TX ki) (((upd zC_3 ki ((zC_3 ki) + (px * (gu ki)))) (yk_TX ki)) + (py * (gu ki)))) (yk_TY ki)) + (pz * (gu ki)))))), (oa, .inr (3, [.ref oan])), (oan, .inl (cy 0, 6, .inl gu))] := hD9
        replace hS := hS9
        clear hP9 hD9 hS9
        refine lv_iinc (v := nI (ki + 1)) (lv' := [(5, .int (nI (ki + 1))), (6, .int (gu ki)), (0, .ref ta), (1, .ref oa), (2, .int px), (3, .int py), (4, .int pz)]) hx hb dX7_addChange_70 hl (k := 6) rfl (yk_inc ki) (by decide) rfl (fun ls hl9 => ?_)
        replace hl := hl9
        clear hl9
        refine lv_goto (tgt := 3) hx hb dX7_addChange_73 (by decide) ?_
        obtain ⟨n9, rfl⟩ : ∃ n9, n3 = n9 + 1 := ⟨n3 - 1, by omega⟩
        exact ih3 n9 (ki + 1) (upd (upd (upd zC_3 ki ((zC_3 ki) + (px * (gu ki)))) (yk_TX ki) (((upd zC_3 ki ((zC_3 ki) + (px * (gu ki)))) (yk_TX ki)) + (py * (gu ki)))) (yk_TY ki) (((upd (upd zC_3 ki ((zC_3 ki) + (px * (gu ki)))) (yk_TX ki) (((upd zC_3 ki ((zC_3 ki) + (px * (gu ki)))) (yk_TX ki)) + (py * (gu ki)))) (yk_TY ki)) + (pz * (gu ki)))) _ _ _ (by omega) (by omega)  hV3 hP hD hS (lv_sub hl [2, 3, 4, 5, 6, 0] rfl)
  exact L3 (6 + 1) 6 0 ch _ _ _ (Nat.lt_succ_self _) (by omega)  rfl hP hD hS (lv_sub hl [1, 2, 3, 4, 5, 0] rfl)

theorem kX7_along_0 : Cond.constant RX7 83 (-1000001) ∈ wsX7_along := by decide +kernel
theorem kX7_along_1 : Cond.fieldLink RX7 10 "FlowPlane" "flow" "LFlowPlane$Flow;" ∈ wsX7_along := by decide +kernel
theorem kX7_along_2 : Cond.fieldLink RX7 117 "FlowPlane$Flow" "p" "LFlowPlane$Polynomial;" ∈ wsX7_along := by decide +kernel
theorem kX7_along_3 : Cond.fieldLink RX7 125 "FlowPlane$Flow" "q" "LFlowPlane$Polynomial;" ∈ wsX7_along := by decide +kernel
theorem kX7_along_4 : Cond.fieldLink RX7 61 "FlowPlane" "change" "[I" ∈ wsX7_along := by decide +kernel
theorem uX7_along_X7 : ∀ w ∈ u_ws RX7 TX7 13, w ∈ wsX7_along := by decide +kernel
theorem uX7_along_X1 : ∀ w ∈ u_ws RX1 TX1 2, w ∈ wsX7_along := by decide +kernel
def f_X7_along (fu : Nat → Int32) (fv : Nat → Int32) (ch : Nat → Int32) (fi : Int32) (pa : Int32) (pb : Int32) (pc_ : Int32) (pd : Int32) (pe : Int32) (pm : Int32) : Int32 × Int32 × (Nat → Int32) := (if (f_X7_isSum pa pb pc_ pd pe) = 0 then (((f_X7_finding fi (-1000001)).1), ((f_X7_finding fi (-1000001)).2), ch) else (if pm < 0 then (((f_X7_finding fi (-1000001)).1), ((f_X7_finding fi (-1000001)).2), ch) else (if pm < 10 then (((f_X7_addChange (f_X7_addChange (f_X7_clearChange ch) fu pa (2 * pc_) pd) fv pb pd (2 * pe)) pm.toNatClampNeg), fi, (f_X7_addChange (f_X7_addChange (f_X7_clearChange ch) fu pa (2 * pc_) pd) fv pb pd (2 * pe))) else (((f_X7_finding fi (-1000001)).1), ((f_X7_finding fi (-1000001)).2), ch))))
set_option maxHeartbeats 400000000 in
set_option maxRecDepth 100000 in
theorem c_X7_along (l : Launch) (D : va_G) (cy : Nat → ClassId) (ta : Nat) (fa : Nat) (fap : Nat) (fapn : Nat) (faq : Nat) (faqn : Nat) (ca : Nat) (a_draft : Nat) (a_fence : Nat) (a_past : Nat) (a_slots : Nat) (a_slotKinds : Nat) (a_sheets : Nat) (a_speedX : Nat) (a_speedY : Nat) (a_leftward : Nat) (a_table : Nat) (fu : Nat → Int32) (fv : Nat → Int32) (ch : Nat → Int32) (fi : Int32) (pa : Int32) (pb : Int32) (pc_ : Int32) (pd : Int32) (pe : Int32) (pm : Int32) : yk_Ci l D vwCl (yk_ty cy) yX7_along wsX7_along 2 45 [.ref ta, .int pa, .int pb, .int pc_, .int pd, .int pe, .int pm] [(ta, .inr (7, [.ref fa, .ref a_draft, .ref a_fence, .ref a_past, .ref a_slots, .ref a_slotKinds, .ref a_sheets, .ref a_speedX, .ref a_speedY, .ref a_leftward, .ref ca, .ref a_table, .int fi])), (fa, .inr (1, [.ref fap, .ref faq])), (fap, .inr (3, [.ref fapn])), (fapn, .inl (cy 0, 6, .inl fu)), (faq, .inr (3, [.ref faqn])), (faqn, .inl (cy 0, 6, .inl fv)), (ca, .inl (cy 0, 10, .inl ch))] ((f_X7_along fu fv ch fi pa pb pc_ pd pe pm).1) [(ta, .inr (7, [.ref fa, .ref a_draft, .ref a_fence, .ref a_past, .ref a_slots, .ref a_slotKinds, .ref a_sheets, .ref a_speedX, .ref a_speedY, .ref a_leftward, .ref ca, .ref a_table, .int ((f_X7_along fu fv ch fi pa pb pc_ pd pe pm).2.1)])), (fa, .inr (1, [.ref fap, .ref faq])), (fap, .inr (3, [.ref fapn])), (fapn, .inl (cy 0, 6, .inl fu)), (faq, .inr (3, [.ref faqn])), (faqn, .inl (cy 0, 6, .inl fv)), (ca, .inl (cy 0, 10, .inl ((f_X7_along fu fv ch fi pa pb pc_ pd pe pm).2.2)))] := by
  refine yk_eI (cc := cX7_along) (maxL := 7) (by decide) rfl (Nat.le_of_ble_eq_true rfl) rfl ?_
  intro p e R s m args below meth c A Q ls H locs hx hb hml hown hts hRf hRl hA hK hG hP hD hS hl hQ
  have hP : va_P D vwCl [(ta, .inr (7, [.ref fa, .ref a_draft, .ref a_fence, .ref a_past, .ref a_slots, .ref a_slotKinds, .ref a_sheets, .ref a_speedX, .ref a_speedY, .ref a_leftward, .ref ca, .ref a_table, .int fi])), (fa, .inr (1, [.ref fap, .ref faq])), (fap, .inr (3, [.ref fapn])), (fapn, .inl (cy 0, 6, .inl fu)), (faq, .inr (3, [.ref faqn])), (faqn, .inl (cy 0, 6, .inl fv)), (ca, .inl (cy 0, 10, .inl ch))] H := hP
  have hl : lv_has ls 7 [(0, .ref ta), (1, .int pa), (2, .int pb), (3, .int pc_), (4, .int pd), (5, .int pe), (6, .int pm)] := hl
  have hown : s.vm.findClass RX7 = some m.cls := hown
  have hF : (f_X7_along fu fv ch fi pa pb pc_ pd pe pm) = (f_X7_along fu fv ch fi pa pb pc_ pd pe pm) := rfl
  refine lv_iload_n hx hb dX7_along_0 rfl (lv_at hl 1 rfl) ?_
  refine lv_iload_n hx hb dX7_along_1 rfl (lv_at hl 2 rfl) ?_
  refine lv_iload_n hx hb dX7_along_2 rfl (lv_at hl 3 rfl) ?_
  refine lv_iload hx hb dX7_along_3 (lv_at hl 4 rfl) ?_
  refine lv_iload hx hb dX7_along_5 (lv_at hl 5 rfl) ?_
  refine yk_i [] (va_runS (As := [.int pa, .int pb, .int pc_, .int pd, .int pe]) (rest := []) ⟨hx, hb, hml, hown, hts⟩ (c_X7_isSum l D cy pa pb pc_ pd pe H.size) (va_cwS 5 hts gX7_along_X7_isSum rfl rfl rfl hs_X7_isSum (yk_room hRf hRl rfl rfl)) (yk_ps hG hA hS hK hP hD [] (by decide +kernel) rfl) rfl rfl hl.1 rfl (lv_room (Nat.le_of_ble_eq_true rfl)) dX7_along_7 ⟨Nat.zero_le _, Nat.zero_le _⟩) hP hD hS hA rfl rfl (fun H locs hP9 hD9 hS9 => ?_)
  replace hP : va_P D vwCl [(ta, .inr (7, [.ref fa, .ref a_draft, .ref a_fence, .ref a_past, .ref a_slots, .ref a_slotKinds, .ref a_sheets, .ref a_speedX, .ref a_speedY, .ref a_leftward, .ref ca, .ref a_table, .int fi])), (fa, .inr (1, [.ref fap, .ref faq])), (fap, .inr (3, [.ref fapn])), (fapn, .inl (cy 0, 6, .inl fu)), (faq, .inr (3, [.ref faqn])), (faqn, .inl (cy 0, 6, .inl fv)), (ca, .inl (cy 0, 10, .inl ch))] H := hP9
  replace hD : va_D A [(ta, .inr (7, [.ref fa, .ref a_draft, .ref a_fence, .ref a_past, .ref a_slots, .ref a_slotKinds, .ref a_sheets, .ref a_speedX, .ref a_speedY, .ref a_leftward, .ref ca, .ref a_table, .int fi])), (fa, .inr (1, [.ref fap, .ref faq])), (fap, .inr (3, [.ref fapn])), (fapn, .inl (cy 0, 6, .inl fu)), (faq, .inr (3, [.ref faqn])), (faqn, .inl (cy 0, 6, .inl fv)), (ca, .inl (cy 0, 10, .inl ch))] := hD9
  replace hS := hS9
  clear hP9 hD9 hS9
  refine lv_if_eq (tgt := 25) hx hb dX7_along_10 (by decide) (fun hc1 => ?_) (fun hc1 => ?_)
  · replace hF := hF.trans (if_pos hc1)
    refine lv_aload_n hx hb dX7_along_25 rfl (lv_at hl 0 rfl) ?_
    refine lv_ldc (v := (-1000001)) hx hb hown (hts _ kX7_along_0) dX7_along_26 ?_
    refine yk_i [0] (va_runV (As := [.int (-1000001)]) (rest := []) ⟨hx, hb, hml, hown, hts⟩ (c_X7_finding l D cy ta fa a_draft a_fence a_past a_slots a_slotKinds a_sheets a_speedX a_speedY a_leftward ca a_table fi (-1000001) H.size) (cwV 1 hts gX7_along_X7_finding rfl rfl rfl hv_X7_finding (yk_room hRf hRl rfl rfl)) (yk_pv (q := (RX7, TX7, 13)) hG hA hS hK hP hD [0] (by decide +kernel) rfl rfl rfl) rfl rfl hl.1 rfl (lv_room (Nat.le_of_ble_eq_true rfl)) dX7_along_28 ⟨Nat.zero_le _, Nat.zero_le _⟩) hP hD hS hA rfl (Eq.trans (b := [ta]) rfl rfl) (fun H locs hP9 hD9 hS9 => ?_)
    replace hP : va_P D vwCl [(ta, .inr (7, [.ref fa, .ref a_draft, .ref a_fence, .ref a_past, .ref a_slots, .ref a_slotKinds, .ref a_sheets, .ref a_speedX, .ref a_speedY, .ref a_leftward, .ref ca, .ref a_table, .int ((f_X7_finding fi (-1000001)).2)])), (fa, .inr (1, [.ref fap, .ref faq])), (fap, .inr (3, [.ref fapn])), (fapn, .inl (cy 0, 6, .inl fu)), (faq, .inr (3, [.ref faqn])), (faqn, .inl (cy 0, 6, .inl fv)), (ca, .inl (cy 0, 10, .inl ch))] H := hP9
    replace hD : va_D A [(ta, .inr (7, [.ref fa, .ref a_draft, .ref a_fence, .ref a_past, .ref a_slots, .ref a_slotKinds, .ref a_sheets, .ref a_speedX, .ref a_speedY, .ref a_leftward, .ref ca, .ref a_table, .int ((f_X7_finding fi (-1000001)).2)])), (fa, .inr (1, [.ref fap, .ref faq])), (fap, .inr (3, [.ref fapn])), (fapn, .inl (cy 0, 6, .inl fu)), (faq, .inr (3, [.ref faqn])), (faqn, .inl (cy 0, 6, .inl fv)), (ca, .inl (cy 0, 10, .inl ch))] := hD9
    replace hS := hS9
    clear hP9 hD9 hS9
    have hF : f_X7_along fu fv ch fi pa pb pc_ pd pe pm = (((f_X7_finding fi (-1000001)).1), ((f_X7_finding fi (-1000001)).2), ch) := hF
    have hf0 := yk_fst hF
    have hg0 := yk_snd hF
    have hf1 := yk_fst hg0
    have hg1 := yk_snd hg0
    rw [hf0, hf1, hg1] at hQ
    exact hQ _ _ _ _ dX7_along_31 hP hS
  · replace hF := hF.trans (if_neg hc1)
    refine lv_iload hx hb dX7_along_13 (lv_at hl 6 rfl) ?_
    refine lv_if_lt (tgt := 25) hx hb dX7_along_15 (by decide) (fun hc2 => ?_) (fun hc2 => ?_)
    · replace hF := hF.trans (if_pos hc2)
      refine lv_aload_n hx hb dX7_along_25 rfl (lv_at hl 0 rfl) ?_
      refine lv_ldc (v := (-1000001)) hx hb hown (hts _ kX7_along_0) dX7_along_26 ?_
      refine yk_i [0] (va_runV (As := [.int (-1000001)]) (rest := []) ⟨hx, hb, hml, hown, hts⟩ (c_X7_finding l D cy ta fa a_draft a_fence a_past a_slots a_slotKinds a_sheets a_speedX a_speedY a_leftward ca a_table fi (-1000001) H.size) (cwV 1 hts gX7_along_X7_finding rfl rfl rfl hv_X7_finding (yk_room hRf hRl rfl rfl)) (yk_pv (q := (RX7, TX7, 13)) hG hA hS hK hP hD [0] (by decide +kernel) rfl rfl rfl) rfl rfl hl.1 rfl (lv_room (Nat.le_of_ble_eq_true rfl)) dX7_along_28 ⟨Nat.zero_le _, Nat.zero_le _⟩) hP hD hS hA rfl (Eq.trans (b := [ta]) rfl rfl) (fun H locs hP9 hD9 hS9 => ?_)
      replace hP : va_P D vwCl [(ta, .inr (7, [.ref fa, .ref a_draft, .ref a_fence, .ref a_past, .ref a_slots, .ref a_slotKinds, .ref a_sheets, .ref a_speedX, .ref a_speedY, .ref a_leftward, .ref ca, .ref a_table, .int ((f_X7_finding fi (-1000001)).2)])), (fa, .inr (1, [.ref fap, .ref faq])), (fap, .inr (3, [.ref fapn])), (fapn, .inl (cy 0, 6, .inl fu)), (faq, .inr (3, [.ref faqn])), (faqn, .inl (cy 0, 6, .inl fv)), (ca, .inl (cy 0, 10, .inl ch))] H := hP9
      replace hD : va_D A [(ta, .inr (7, [.ref fa, .ref a_draft, .ref a_fence, .ref a_past, .ref a_slots, .ref a_slotKinds, .ref a_sheets, .ref a_speedX, .ref a_speedY, .ref a_leftward, .ref ca, .ref a_table, .int ((f_X7_finding fi (-1000001)).2)])), (fa, .inr (1, [.ref fap, .ref faq])), (fap, .inr (3, [.ref fapn])), (fapn, .inl (cy 0, 6, .inl fu)), (faq, .inr (3, [.ref faqn])), (faqn, .inl (cy 0, 6, .inl fv)), (ca, .inl (cy 0, 10, .inl ch))] := hD9
      replace hS := hS9
      clear hP9 hD9 hS9
      have hF : f_X7_along fu fv ch fi pa pb pc_ pd pe pm = (((f_X7_finding fi (-1000001)).1), ((f_X7_finding fi (-1000001)).2), ch) := hF
      have hf0 := yk_fst hF
      have hg0 := yk_snd hF
      have hf1 := yk_fst hg0
      have hg1 := yk_snd hg0
      rw [hf0, hf1, hg1] at hQ
      exact hQ _ _ _ _ dX7_along_31 hP hS
    · replace hF := hF.trans (if_neg hc2)
      refine lv_iload hx hb dX7_along_18 (lv_at hl 6 rfl) ?_
      refine lv_bipush (v := 10) hx hb dX7_along_20 (by decide) ?_
      refine lv_icmp_lt (tgt := 32) hx hb dX7_along_22 (by decide) (fun hc3 => ?_) (fun hc3 => ?_)
      · replace hF := hF.trans (if_pos hc3)
        have hq9 : pm = nI pm.toNatClampNeg ∧ pm.toNatClampNeg < 10 := yk_ix (N := 10) (by decide) (by assumption) (Int32.not_le.mpr (by assumption))
        have hq4 : pm = nI pm.toNatClampNeg := hq9.1
        have hq4b : pm.toNatClampNeg < 10 := hq9.2
        rw [hq4] at hl
        refine lv_aload_n hx hb dX7_along_32 rfl (lv_at hl 0 rfl) ?_
        refine yk_v [0, 6] (va_runV (As := []) (rest := []) ⟨hx, hb, hml, hown, hts⟩ (c_X7_clearChange l D cy ta ca fa a_draft a_fence a_past a_slots a_slotKinds a_sheets a_speedX a_speedY a_leftward a_table ch fi H.size) (cwV 0 hts gX7_along_X7_clearChange rfl rfl rfl hv_X7_clearChange (yk_room hRf hRl rfl rfl)) (yk_pv (q := (RX7, TX7, 13)) hG hA hS hK hP hD [0, 6] (by decide +kernel) rfl rfl rfl) rfl rfl hl.1 rfl (lv_room (Nat.le_of_ble_eq_true rfl)) dX7_along_33 ⟨Nat.zero_le _, Nat.zero_le _⟩) hP hD hS hA rfl (Eq.trans (b := [ta, ca]) rfl rfl) (fun H locs hP9 hD9 hS9 => ?_)
        replace hP : va_P D vwCl [(ta, .inr (7, [.ref fa, .ref a_draft, .ref a_fence, .ref a_past, .ref a_slots, .ref a_slotKinds, .ref a_sheets, .ref a_speedX, .ref a_speedY, .ref a_leftward, .ref ca, .ref a_table, .int fi])), (fa, .inr (1, [.ref fap, .ref faq])), (fap, .inr (3, [.ref fapn])), (fapn, .inl (cy 0, 6, .inl fu)), (faq, .inr (3, [.ref faqn])), (faqn, .inl (cy 0, 6, .inl fv)), (ca, .inl (cy 0, 10, .inl (f_X7_clearChange ch)))] H := hP9
        replace hD : va_D A [(ta, .inr (7, [.ref fa, .ref a_draft, .ref a_fence, .ref a_past, .ref a_slots, .ref a_slotKinds, .ref a_sheets, .ref a_speedX, .ref a_speedY, .ref a_leftward, .ref ca, .ref a_table, .int fi])), (fa, .inr (1, [.ref fap, .ref faq])), (fap, .inr (3, [.ref fapn])), (fapn, .inl (cy 0, 6, .inl fu)), (faq, .inr (3, [.ref faqn])), (faqn, .inl (cy 0, 6, .inl fv)), (ca, .inl (cy 0, 10, .inl (f_X7_clearChange ch)))] := hD9
        replace hS := hS9
        clear hP9 hD9 hS9
        refine lv_aload_n hx hb dX7_along_36 rfl (lv_at hl 0 rfl) ?_
        refine lv_aload_n hx hb dX7_along_37 rfl (lv_at hl 0 rfl) ?_
        refine va_get (D := D) (ci := 7) (v := .ref fa) (C := RX7) (T := TX7) (N := 13) hx hb hts uX7_along_X7 hown hK hP 0 rfl rfl 0 (by decide) (hts _ kX7_along_1) (fun _ h9 => h9) rfl dX7_along_38 ?_
        refine va_get (D := D) (ci := 1) (v := .ref fap) (C := RX1) (T := TX1) (N := 2) hx hb hts uX7_along_X1 hown hK hP 1 rfl rfl 0 (by decide) (hts _ kX7_along_2) (fun _ h9 => h9) rfl dX7_along_41 ?_
        refine lv_iload_n hx hb dX7_along_44 rfl (lv_at hl 1 rfl) ?_
        refine lv_iconst (v := 2) hx hb dX7_along_45 (by decide) ?_
        refine lv_iload_n hx hb dX7_along_46 rfl (lv_at hl 3 rfl) ?_
        refine lv_imul hx hb dX7_along_47 ?_
        refine lv_iload hx hb dX7_along_48 (lv_at hl 4 rfl) ?_
        refine yk_v [0, 6, 2, 3] (va_runV (As := [.ref fap, .int pa, .int (2 * pc_), .int pd]) (rest := []) ⟨hx, hb, hml, hown, hts⟩ (c_X7_addChange l D cy ta ca fap fapn fa a_draft a_fence a_past a_slots a_slotKinds a_sheets a_speedX a_speedY a_leftward a_table (f_X7_clearChange ch) fi fu pa (2 * pc_) pd H.size) (cwV 4 hts gX7_along_X7_addChange rfl rfl rfl hv_X7_addChange (yk_room hRf hRl rfl rfl)) (yk_pv (q := (RX7, TX7, 13)) hG hA hS hK hP hD [0, 6, 2, 3] (by decide +kernel) rfl rfl rfl) rfl rfl hl.1 rfl (lv_room (Nat.le_of_ble_eq_true rfl)) dX7_along_50 ⟨Nat.zero_le _, Nat.zero_le _⟩) hP hD hS hA rfl (Eq.trans (b := [ta, ca, fap, fapn]) rfl rfl) (fun H locs hP9 hD9 hS9 => ?_)
        replace hP : va_P D vwCl [(ta, .inr (7, [.ref fa, .ref a_draft, .ref a_fence, .ref a_past, .ref a_slots, .ref a_slotKinds, .ref a_sheets, .ref a_speedX, .ref a_speedY, .ref a_leftward, .ref ca, .ref a_table, .int fi])), (fa, .inr (1, [.ref fap, .ref faq])), (fap, .inr (3, [.ref fapn])), (fapn, .inl (cy 0, 6, .inl fu)), (faq, .inr (3, [.ref faqn])), (faqn, .inl (cy 0, 6, .inl fv)), (ca, .inl (cy 0, 10, .inl (f_X7_addChange (f_X7_clearChange ch) fu pa (2 * pc_) pd)))] H := hP9
        replace hD : va_D A [(ta, .inr (7, [.ref fa, .ref a_draft, .ref a_fence, .ref a_past, .ref a_slots, .ref a_slotKinds, .ref a_sheets, .ref a_speedX, .ref a_speedY, .ref a_leftward, .ref ca, .ref a_table, .int fi])), (fa, .inr (1, [.ref fap, .ref faq])), (fap, .inr (3, [.ref fapn])), (fapn, .inl (cy 0, 6, .inl fu)), (faq, .inr (3, [.ref faqn])), (faqn, .inl (cy 0, 6, .inl fv)), (ca, .inl (cy 0, 10, .inl (f_X7_addChange (f_X7_clearChange ch) fu pa (2 * pc_) pd)))] := hD9
        replace hS := hS9
        clear hP9 hD9 hS9
        refine lv_aload_n hx hb dX7_along_53 rfl (lv_at hl 0 rfl) ?_
        refine lv_aload_n hx hb dX7_along_54 rfl (lv_at hl 0 rfl) ?_
        refine va_get (D := D) (ci := 7) (v := .ref fa) (C := RX7) (T := TX7) (N := 13) hx hb hts uX7_along_X7 hown hK hP 0 rfl rfl 0 (by decide) (hts _ kX7_along_1) (fun _ h9 => h9) rfl dX7_along_55 ?_
        refine va_get (D := D) (ci := 1) (v := .ref faq) (C := RX1) (T := TX1) (N := 2) hx hb hts uX7_along_X1 hown hK hP 1 rfl rfl 1 (by decide) (hts _ kX7_along_3) (fun _ h9 => h9) rfl dX7_along_58 ?_
        refine lv_iload_n hx hb dX7_along_61 rfl (lv_at hl 2 rfl) ?_
        refine lv_iload hx hb dX7_along_62 (lv_at hl 4 rfl) ?_
        refine lv_iconst (v := 2) hx hb dX7_along_64 (by decide) ?_
        refine lv_iload hx hb dX7_along_65 (lv_at hl 5 rfl) ?_
        refine lv_imul hx hb dX7_along_67 ?_
        refine yk_v [0, 6, 4, 5] (va_runV (As := [.ref faq, .int pb, .int pd, .int (2 * pe)]) (rest := []) ⟨hx, hb, hml, hown, hts⟩ (c_X7_addChange l D cy ta ca faq faqn fa a_draft a_fence a_past a_slots a_slotKinds a_sheets a_speedX a_speedY a_leftward a_table (f_X7_addChange (f_X7_clearChange ch) fu pa (2 * pc_) pd) fi fv pb pd (2 * pe) H.size) (cwV 4 hts gX7_along_X7_addChange rfl rfl rfl hv_X7_addChange (yk_room hRf hRl rfl rfl)) (yk_pv (q := (RX7, TX7, 13)) hG hA hS hK hP hD [0, 6, 4, 5] (by decide +kernel) rfl rfl rfl) rfl rfl hl.1 rfl (lv_room (Nat.le_of_ble_eq_true rfl)) dX7_along_68 ⟨Nat.zero_le _, Nat.zero_le _⟩) hP hD hS hA rfl (Eq.trans (b := [ta, ca, faq, faqn]) rfl rfl) (fun H locs hP9 hD9 hS9 => ?_)
        replace hP : va_P D vwCl [(ta, .inr (7, [.ref fa, .ref a_draft, .ref a_fence, .ref a_past, .ref a_slots, .ref a_slotKinds, .ref a_sheets, .ref a_speedX, .ref a_speedY, .ref a_leftward, .ref ca, .ref a_table, .int fi])), (fa, .inr (1, [.ref fap, .ref faq])), (fap, .inr (3, [.ref fapn])), (fapn, .inl (cy 0, 6, .inl fu)), (faq, .inr (3, [.ref faqn])), (faqn, .inl (cy 0, 6, .inl fv)), (ca, .inl (cy 0, 10, .inl (f_X7_addChange (f_X7_addChange (f_X7_clearChange ch) fu pa (2 * pc_) pd) fv pb pd (2 * pe))))] H := hP9
        replace hD : va_D A [(ta, .inr (7, [.ref fa, .ref a_draft, .ref a_fence, .ref a_past, .ref a_slots, .ref a_slotKinds, .ref a_sheets, .ref a_speedX, .ref a_speedY, .ref a_leftward, .ref ca, .ref a_table, .int fi])), (fa, .inr (1, [.ref fap, .ref faq])), (fap, .inr (3, [.ref fapn])), (fapn, .inl (cy 0, 6, .inl fu)), (faq, .inr (3, [.ref faqn])), (faqn, .inl (cy 0, 6, .inl fv)), (ca, .inl (cy 0, 10, .inl (f_X7_addChange (f_X7_addChange (f_X7_clearChange ch) fu pa (2 * pc_) pd) fv pb pd (2 * pe))))] := hD9
        replace hS := hS9
        clear hP9 hD9 hS9
        refine lv_aload_n hx hb dX7_along_71 rfl (lv_at hl 0 rfl) ?_
        refine va_get (D := D) (ci := 7) (v := .ref ca) (C := RX7) (T := TX7) (N := 13) hx hb hts uX7_along_X7 hown hK hP 0 rfl rfl 10 (by decide) (hts _ kX7_along_4) (fun _ h9 => h9) rfl dX7_along_72 ?_
        refine lv_iload hx hb dX7_along_75 (lv_at hl 6 rfl) ?_
        refine yk_ild hx hb hK hP 6 0 rfl rfl pm.toNatClampNeg (by omega) (by decide) dX7_along_77 ?_
        have hF : f_X7_along fu fv ch fi pa pb pc_ pd pe pm = (((f_X7_addChange (f_X7_addChange (f_X7_clearChange ch) fu pa (2 * pc_) pd) fv pb pd (2 * pe)) pm.toNatClampNeg), fi, (f_X7_addChange (f_X7_addChange (f_X7_clearChange ch) fu pa (2 * pc_) pd) fv pb pd (2 * pe))) := hF
        have hf0 := yk_fst hF
        have hg0 := yk_snd hF
        have hf1 := yk_fst hg0
        have hg1 := yk_snd hg0
        rw [hf0, hf1, hg1] at hQ
        exact hQ _ _ _ _ dX7_along_78 hP hS
      · replace hF := hF.trans (if_neg hc3)
        refine lv_aload_n hx hb dX7_along_25 rfl (lv_at hl 0 rfl) ?_
        refine lv_ldc (v := (-1000001)) hx hb hown (hts _ kX7_along_0) dX7_along_26 ?_
        refine yk_i [0] (va_runV (As := [.int (-1000001)]) (rest := []) ⟨hx, hb, hml, hown, hts⟩ (c_X7_finding l D cy ta fa a_draft a_fence a_past a_slots a_slotKinds a_sheets a_speedX a_speedY a_leftward ca a_table fi (-1000001) H.size) (cwV 1 hts gX7_along_X7_finding rfl rfl rfl hv_X7_finding (yk_room hRf hRl rfl rfl)) (yk_pv (q := (RX7, TX7, 13)) hG hA hS hK hP hD [0] (by decide +kernel) rfl rfl rfl) rfl rfl hl.1 rfl (lv_room (Nat.le_of_ble_eq_true rfl)) dX7_along_28 ⟨Nat.zero_le _, Nat.zero_le _⟩) hP hD hS hA rfl (Eq.trans (b := [ta]) rfl rfl) (fun H locs hP9 hD9 hS9 => ?_)
        replace hP : va_P D vwCl [(ta, .inr (7, [.ref fa, .ref a_draft, .ref a_fence, .ref a_past, .ref a_slots, .ref a_slotKinds, .ref a_sheets, .ref a_speedX, .ref a_speedY, .ref a_leftward, .ref ca, .ref a_table, .int ((f_X7_finding fi (-1000001)).2)])), (fa, .inr (1, [.ref fap, .ref faq])), (fap, .inr (3, [.ref fapn])), (fapn, .inl (cy 0, 6, .inl fu)), (faq, .inr (3, [.ref faqn])), (faqn, .inl (cy 0, 6, .inl fv)), (ca, .inl (cy 0, 10, .inl ch))] H := hP9
        replace hD : va_D A [(ta, .inr (7, [.ref fa, .ref a_draft, .ref a_fence, .ref a_past, .ref a_slots, .ref a_slotKinds, .ref a_sheets, .ref a_speedX, .ref a_speedY, .ref a_leftward, .ref ca, .ref a_table, .int ((f_X7_finding fi (-1000001)).2)])), (fa, .inr (1, [.ref fap, .ref faq])), (fap, .inr (3, [.ref fapn])), (fapn, .inl (cy 0, 6, .inl fu)), (faq, .inr (3, [.ref faqn])), (faqn, .inl (cy 0, 6, .inl fv)), (ca, .inl (cy 0, 10, .inl ch))] := hD9
        replace hS := hS9
        clear hP9 hD9 hS9
        have hF : f_X7_along fu fv ch fi pa pb pc_ pd pe pm = (((f_X7_finding fi (-1000001)).1), ((f_X7_finding fi (-1000001)).2), ch) := hF
        have hf0 := yk_fst hF
        have hg0 := yk_snd hF
        have hf1 := yk_fst hg0
        have hg1 := yk_snd hg0
        rw [hf0, hf1, hg1] at hQ
        exact hQ _ _ _ _ dX7_along_31 hP hS
