theorem hv_X1_isRest : yX1_isRest.cls = RX1 ∧ yX1_isRest.cls ≠ "java/lang/invoke/MethodHandle" ∧ yX1_isRest.cls ≠ "java/lang/invoke/VarHandle" ∧ (parseMethodDescriptor yX1_isRest.desc).map (fun d => d.parameters.length) = some 2 := by decide +kernel
theorem hs_X1_isRest : yX1_isRest.cls ≠ "java/lang/invoke/MethodHandle" ∧ yX1_isRest.cls ≠ "java/lang/invoke/VarHandle" ∧ (parseMethodDescriptor yX1_isRest.desc).map (fun d => d.parameters.length) = some 2 := by decide +kernel
theorem hv_X1_sortAt : yX1_sortAt.cls = RX1 ∧ yX1_sortAt.cls ≠ "java/lang/invoke/MethodHandle" ∧ yX1_sortAt.cls ≠ "java/lang/invoke/VarHandle" ∧ (parseMethodDescriptor yX1_sortAt.desc).map (fun d => d.parameters.length) = some 2 := by decide +kernel
theorem hs_X1_sortAt : yX1_sortAt.cls ≠ "java/lang/invoke/MethodHandle" ∧ yX1_sortAt.cls ≠ "java/lang/invoke/VarHandle" ∧ (parseMethodDescriptor yX1_sortAt.desc).map (fun d => d.parameters.length) = some 2 := by decide +kernel
theorem hv_X0_isLatest : yX0_isLatest.cls = RX0 ∧ yX0_isLatest.cls ≠ "java/lang/invoke/MethodHandle" ∧ yX0_isLatest.cls ≠ "java/lang/invoke/VarHandle" ∧ (parseMethodDescriptor yX0_isLatest.desc).map (fun d => d.parameters.length) = some 2 := by decide +kernel
theorem hs_X0_isLatest : yX0_isLatest.cls ≠ "java/lang/invoke/MethodHandle" ∧ yX0_isLatest.cls ≠ "java/lang/invoke/VarHandle" ∧ (parseMethodDescriptor yX0_isLatest.desc).map (fun d => d.parameters.length) = some 2 := by decide +kernel
theorem hv_X0_append : yX0_append.cls = RX0 ∧ yX0_append.cls ≠ "java/lang/invoke/MethodHandle" ∧ yX0_append.cls ≠ "java/lang/invoke/VarHandle" ∧ (parseMethodDescriptor yX0_append.desc).map (fun d => d.parameters.length) = some 2 := by decide +kernel
theorem hs_X0_append : yX0_append.cls ≠ "java/lang/invoke/MethodHandle" ∧ yX0_append.cls ≠ "java/lang/invoke/VarHandle" ∧ (parseMethodDescriptor yX0_append.desc).map (fun d => d.parameters.length) = some 2 := by decide +kernel
theorem hv_X0_isLeft : yX0_isLeft.cls = RX0 ∧ yX0_isLeft.cls ≠ "java/lang/invoke/MethodHandle" ∧ yX0_isLeft.cls ≠ "java/lang/invoke/VarHandle" ∧ (parseMethodDescriptor yX0_isLeft.desc).map (fun d => d.parameters.length) = some 0 := by decide +kernel
theorem hs_X0_isLeft : yX0_isLeft.cls ≠ "java/lang/invoke/MethodHandle" ∧ yX0_isLeft.cls ≠ "java/lang/invoke/VarHandle" ∧ (parseMethodDescriptor yX0_isLeft.desc).map (fun d => d.parameters.length) = some 0 := by decide +kernel
theorem kX7_rest_0 : Cond.constant RX7 146 (-1000006) ∈ wsX7_rest := by decide +kernel
theorem kX7_rest_1 : Cond.fieldLink RX7 10 "FlowPlane" "flow" "LFlowPlane$Flow;" ∈ wsX7_rest := by decide +kernel
theorem uX7_rest_X7 : ∀ w ∈ u_ws RX7 TX7 13, w ∈ wsX7_rest := by decide +kernel
def l_X7_rest_17 (fu : Nat → Int32) (fv : Nat → Int32) (fi : Int32) (px : Int32) (bq : Int32) (ki : Nat) (z3_6 : Int32) (kc : Nat → Int32 → Int32 × Int32) : Nat → Nat → Int32 → Int32 × Int32
  | 0, kj, z3_17 => (0, fi)
  | fu_X7_rest_17 + 1, kj, z3_17 => (if 6 < (nI kj - 6) then (kc (ki + 1) z3_17) else (if (f_X1_isRest fu fv (nI ki - 6) (nI kj - 6)) = 0 then (l_X7_rest_17 fu fv fi px bq ki z3_6 kc fu_X7_rest_17 (kj + 1) z3_17) else (if z3_17 = px then ((if bq = 0 then (nI ki - 6) else (nI kj - 6)), fi) else (l_X7_rest_17 fu fv fi px bq ki z3_6 kc fu_X7_rest_17 (kj + 1) (z3_17 + 1)))))
def l_X7_rest_6 (fu : Nat → Int32) (fv : Nat → Int32) (fi : Int32) (px : Int32) (bq : Int32) : Nat → Nat → Int32 → Int32 × Int32
  | 0, ki, z3_6 => (0, fi)
  | fu_X7_rest_6 + 1, ki, z3_6 => (if 6 < (nI ki - 6) then (((f_X7_finding fi (-1000006)).1), ((f_X7_finding fi (-1000006)).2)) else (l_X7_rest_17 fu fv fi px bq ki z3_6 (fun ki' z3_6' => l_X7_rest_6 fu fv fi px bq fu_X7_rest_6 (ki') (z3_6')) (13 + 1) 0 z3_6))
def f_X7_rest (fu : Nat → Int32) (fv : Nat → Int32) (fi : Int32) (px : Int32) (bq : Int32) : Int32 × Int32 := (l_X7_rest_6 fu fv fi px bq (13 + 1) 0 0)
set_option maxHeartbeats 400000000 in
set_option maxRecDepth 100000 in
theorem c_X7_rest (l : Launch) (D : va_G) (cy : Nat → ClassId) (ta : Nat) (fa : Nat) (fap : Nat) (fapn : Nat) (faq : Nat) (faqn : Nat) (a_draft : Nat) (a_fence : Nat) (a_past : Nat) (a_slots : Nat) (a_slotKinds : Nat) (a_sheets : Nat) (a_speedX : Nat) (a_speedY : Nat) (a_leftward : Nat) (a_change : Nat) (a_table : Nat) (fu : Nat → Int32) (fv : Nat → Int32) (fi : Int32) (px : Int32) (bq : Int32) : yk_Ci l D vwCl (yk_ty cy) yX7_rest wsX7_rest 3 66 [.ref ta, .int px, .int bq] [(ta, .inr (7, [.ref fa, .ref a_draft, .ref a_fence, .ref a_past, .ref a_slots, .ref a_slotKinds, .ref a_sheets, .ref a_speedX, .ref a_speedY, .ref a_leftward, .ref a_change, .ref a_table, .int fi])), (fa, .inr (1, [.ref fap, .ref faq])), (fap, .inr (3, [.ref fapn])), (fapn, .inl (cy 0, 6, .inl fu)), (faq, .inr (3, [.ref faqn])), (faqn, .inl (cy 0, 6, .inl fv))] ((f_X7_rest fu fv fi px bq).1) [(ta, .inr (7, [.ref fa, .ref a_draft, .ref a_fence, .ref a_past, .ref a_slots, .ref a_slotKinds, .ref a_sheets, .ref a_speedX, .ref a_speedY, .ref a_leftward, .ref a_change, .ref a_table, .int ((f_X7_rest fu fv fi px bq).2)])), (fa, .inr (1, [.ref fap, .ref faq])), (fap, .inr (3, [.ref fapn])), (fapn, .inl (cy 0, 6, .inl fu)), (faq, .inr (3, [.ref faqn])), (faqn, .inl (cy 0, 6, .inl fv))] := by
  refine yk_eI (cc := cX7_rest) (maxL := 6) (by decide) rfl (Nat.le_of_ble_eq_true rfl) rfl ?_
  intro p e R s m args below meth c A Q ls H locs hx hb hml hown hts hRf hRl hA hK hG hP hD hS hl hQ
  have hP : va_P D vwCl [(ta, .inr (7, [.ref fa, .ref a_draft, .ref a_fence, .ref a_past, .ref a_slots, .ref a_slotKinds, .ref a_sheets, .ref a_speedX, .ref a_speedY, .ref a_leftward, .ref a_change, .ref a_table, .int fi])), (fa, .inr (1, [.ref fap, .ref faq])), (fap, .inr (3, [.ref fapn])), (fapn, .inl (cy 0, 6, .inl fu)), (faq, .inr (3, [.ref faqn])), (faqn, .inl (cy 0, 6, .inl fv))] H := hP
  have hl : lv_has ls 6 [(0, .ref ta), (1, .int px), (2, .int bq)] := hl
  have hown : s.vm.findClass RX7 = some m.cls := hown
  have hF : (f_X7_rest fu fv fi px bq) = (f_X7_rest fu fv fi px bq) := rfl
  refine lv_iconst (v := 0) hx hb dX7_rest_0 (by decide) ?_
  refine lv_istore_n (lv' := [(3, .int 0), (0, .ref ta), (1, .int px), (2, .int bq)]) hx hb dX7_rest_1 rfl hl (by decide) rfl (fun ls hl9 => ?_)
  replace hl := hl9
  clear hl9
  refine lv_bipush (v := (-6)) hx hb dX7_rest_2 (by decide) ?_
  refine lv_istore (lv' := [(4, .int (-6)), (3, .int 0), (0, .ref ta), (1, .int px), (2, .int bq)]) hx hb dX7_rest_4 hl (by decide) rfl (fun ls hl9 => ?_)
  replace hl := hl9
  clear hl9
  have L6 : ∀ (M9 n6 ki : Nat) (z3_6 : Int32) (H : Heap) (locs : List Loc) (ls : Array Slot), n6 < M9 → ki + n6 = 13 → f_X7_rest fu fv fi px bq = (l_X7_rest_6 fu fv fi px bq (n6 + 1) ki z3_6) → va_P D vwCl [(ta, .inr (7, [.ref fa, .ref a_draft, .ref a_fence, .ref a_past, .ref a_slots, .ref a_slotKinds, .ref a_sheets, .ref a_speedX, .ref a_speedY, .ref a_leftward, .ref a_change, .ref a_table, .int fi])), (fa, .inr (1, [.ref fap, .ref faq])), (fap, .inr (3, [.ref fapn])), (fapn, .inl (cy 0, 6, .inl fu)), (faq, .inr (3, [.ref faqn])), (faqn, .inl (cy 0, 6, .inl fv))] H → va_D A [(ta, .inr (7, [.ref fa, .ref a_draft, .ref a_fence, .ref a_past, .ref a_slots, .ref a_slotKinds, .ref a_sheets, .ref a_speedX, .ref a_speedY, .ref a_leftward, .ref a_change, .ref a_table, .int fi])), (fa, .inr (1, [.ref fap, .ref faq])), (fap, .inr (3, [.ref fapn])), (fapn, .inl (cy 0, 6, .inl fu)), (faq, .inr (3, [.ref faqn])), (faqn, .inl (cy 0, 6, .inl fv))] → va_S A s.heap H locs → lv_has ls 6 [(0, .ref ta), (1, .int px), (2, .int bq), (3, .int z3_6), (4, .int (nI ki - 6))] → W p l e R s m args below meth c H locs 0 0 Q (F0 m 6 ls []) := by
    clear hP hD hS hl hF
    intro M9
    induction M9 with
    | zero => intro n6 ki _ _ _ _ hn; exact absurd hn (Nat.not_lt_zero _)
    | succ M9 ih6 =>
      intro n6 ki z3_6 H locs ls hn6 hk6 hF hP hD hS hl
      refine lv_iload hx hb dX7_rest_6 (lv_at hl 4 rfl) ?_
      refine lv_bipush (v := 6) hx hb dX7_rest_8 (by decide) ?_
      refine lv_icmp_gt (tgt := 73) hx hb dX7_rest_10 (by decide) (fun hc1 => ?_) (fun hc1 => ?_)
      · replace hF := hF.trans (if_pos hc1)
        refine lv_aload_n hx hb dX7_rest_73 rfl (lv_at hl 0 rfl) ?_
        refine lv_ldc (v := (-1000006)) hx hb hown (hts _ kX7_rest_0) dX7_rest_74 ?_
        refine yk_i [0] (va_runV (As := [.int (-1000006)]) (rest := []) ⟨hx, hb, hml, hown, hts⟩ (c_X7_finding l D cy ta fa a_draft a_fence a_past a_slots a_slotKinds a_sheets a_speedX a_speedY a_leftward a_change a_table fi (-1000006) H.size) (cwV 1 hts gX7_rest_X7_finding rfl rfl rfl hv_X7_finding (yk_room hRf hRl rfl rfl)) (yk_pv (q := (RX7, TX7, 13)) hG hA hS hK hP hD [0] (by decide +kernel) rfl rfl rfl) rfl rfl hl.1 rfl (lv_room (Nat.le_of_ble_eq_true rfl)) dX7_rest_76 ⟨Nat.zero_le _, Nat.zero_le _⟩) hP hD hS hA rfl (Eq.trans (b := [ta]) rfl rfl) (fun H locs hP9 hD9 hS9 => ?_)
        replace hP : va_P D vwCl [(ta, .inr (7, [.ref fa, .ref a_draft, .ref a_fence, .ref a_past, .ref a_slots, .ref a_slotKinds, .ref a_sheets, .ref a_speedX, .ref a_speedY, .ref a_leftward, .ref a_change, .ref a_table, .int ((f_X7_finding fi (-1000006)).2)])), (fa, .inr (1, [.ref fap, .ref faq])), (fap, .inr (3, [.ref fapn])), (fapn, .inl (cy 0, 6, .inl fu)), (faq, .inr (3, [.ref faqn])), (faqn, .inl (cy 0, 6, .inl fv))] H := hP9
        replace hD : va_D A [(ta, .inr (7, [.ref fa, .ref a_draft, .ref a_fence, .ref a_past, .ref a_slots, .ref a_slotKinds, .ref a_sheets, .ref a_speedX, .ref a_speedY, .ref a_leftward, .ref a_change, .ref a_table, .int ((f_X7_finding fi (-1000006)).2)])), (fa, .inr (1, [.ref fap, .ref faq])), (fap, .inr (3, [.ref fapn])), (fapn, .inl (cy 0, 6, .inl fu)), (faq, .inr (3, [.ref faqn])), (faqn, .inl (cy 0, 6, .inl fv))] := hD9
        replace hS := hS9
        clear hP9 hD9 hS9
        have hF : f_X7_rest fu fv fi px bq = (((f_X7_finding fi (-1000006)).1), ((f_X7_finding fi (-1000006)).2)) := hF
        have hf0 := yk_fst hF
        have hg0 := yk_snd hF
        rw [hf0, hg0] at hQ
        exact hQ _ _ _ _ dX7_rest_79 hP hS
      · replace hF := hF.trans (if_neg hc1)
        have hlt6 : ki < 13 := yk_lt6 hk6 hc1
        refine lv_bipush (v := (-6)) hx hb dX7_rest_13 (by decide) ?_
        refine lv_istore (lv' := [(5, .int (-6)), (0, .ref ta), (1, .int px), (2, .int bq), (3, .int z3_6), (4, .int (nI ki - 6))]) hx hb dX7_rest_15 hl (by decide) rfl (fun ls hl9 => ?_)
        replace hl := hl9
        clear hl9
        have L17 : ∀ (M9 n17 kj : Nat) (z3_17 : Int32) (H : Heap) (locs : List Loc) (ls : Array Slot), n17 < M9 → kj + n17 = 13 → f_X7_rest fu fv fi px bq = (l_X7_rest_17 fu fv fi px bq ki z3_6 (fun ki' z3_6' => l_X7_rest_6 fu fv fi px bq n6 ki' z3_6') (n17 + 1) kj z3_17) → va_P D vwCl [(ta, .inr (7, [.ref fa, .ref a_draft, .ref a_fence, .ref a_past, .ref a_slots, .ref a_slotKinds, .ref a_sheets, .ref a_speedX, .ref a_speedY, .ref a_leftward, .ref a_change, .ref a_table, .int fi])), (fa, .inr (1, [.ref fap, .ref faq])), (fap, .inr (3, [.ref fapn])), (fapn, .inl (cy 0, 6, .inl fu)), (faq, .inr (3, [.ref faqn])), (faqn, .inl (cy 0, 6, .inl fv))] H → va_D A [(ta, .inr (7, [.ref fa, .ref a_draft, .ref a_fence, .ref a_past, .ref a_slots, .ref a_slotKinds, .ref a_sheets, .ref a_speedX, .ref a_speedY, .ref a_leftward, .ref a_change, .ref a_table, .int fi])), (fa, .inr (1, [.ref fap, .ref faq])), (fap, .inr (3, [.ref fapn])), (fapn, .inl (cy 0, 6, .inl fu)), (faq, .inr (3, [.ref faqn])), (faqn, .inl (cy 0, 6, .inl fv))] → va_S A s.heap H locs → lv_has ls 6 [(0, .ref ta), (1, .int px), (2, .int bq), (3, .int z3_17), (4, .int (nI ki - 6)), (5, .int (nI kj - 6))] → W p l e R s m args below meth c H locs 0 0 Q (F0 m 17 ls []) := by
          clear hP hD hS hl hF
          intro M9
          induction M9 with
          | zero => intro n17 kj _ _ _ _ hn; exact absurd hn (Nat.not_lt_zero _)
          | succ M9 ih17 =>
            intro n17 kj z3_17 H locs ls hn17 hk17 hF hP hD hS hl
            refine lv_iload hx hb dX7_rest_17 (lv_at hl 5 rfl) ?_
            refine lv_bipush (v := 6) hx hb dX7_rest_19 (by decide) ?_
            refine lv_icmp_gt (tgt := 67) hx hb dX7_rest_21 (by decide) (fun hc2 => ?_) (fun hc2 => ?_)
            · replace hF := hF.trans (if_pos hc2)
              refine lv_iinc (v := ((nI ki - 6) + 1)) (lv' := [(4, .int ((nI ki - 6) + 1)), (0, .ref ta), (1, .int px), (2, .int bq), (3, .int z3_17), (5, .int (nI kj - 6))]) hx hb dX7_rest_67 hl (k := 4) rfl (yk_incg _) (by decide) rfl (fun ls hl9 => ?_)
              replace hl := hl9
              clear hl9
              refine lv_goto (tgt := 6) hx hb dX7_rest_70 (by decide) ?_
              obtain ⟨n9, rfl⟩ : ∃ n9, n6 = n9 + 1 := ⟨n6 - 1, by omega⟩
              rw [yk_off ki 6] at hl
              exact ih6 n9 (ki + 1) z3_17 _ _ _ (by omega) (by omega)  hF hP hD hS (lv_sub hl [1, 2, 3, 4, 0] rfl)
            · replace hF := hF.trans (if_neg hc2)
              have hlt17 : kj < 13 := yk_lt6 hk17 hc2
              refine lv_aload_n hx hb dX7_rest_24 rfl (lv_at hl 0 rfl) ?_
              refine va_get (D := D) (ci := 7) (v := .ref fa) (C := RX7) (T := TX7) (N := 13) hx hb hts uX7_rest_X7 hown hK hP 0 rfl rfl 0 (by decide) (hts _ kX7_rest_1) (fun _ h9 => h9) rfl dX7_rest_25 ?_
              refine lv_iload hx hb dX7_rest_28 (lv_at hl 4 rfl) ?_
              refine lv_iload hx hb dX7_rest_30 (lv_at hl 5 rfl) ?_
              refine yk_i [1, 2, 3, 4, 5] (va_runV (As := [.int (nI ki - 6), .int (nI kj - 6)]) (rest := []) ⟨hx, hb, hml, hown, hts⟩ (c_X1_isRest l D cy fa fap fapn faq faqn fu fv (nI ki - 6) (nI kj - 6) H.size) (cwV 2 hts gX7_rest_X1_isRest rfl rfl rfl hv_X1_isRest (yk_room hRf hRl rfl rfl)) (yk_pv (q := (RX1, TX1, 2)) hG hA hS hK hP hD [1, 2, 3, 4, 5] (by decide +kernel) rfl rfl rfl) rfl rfl hl.1 rfl (lv_room (Nat.le_of_ble_eq_true rfl)) dX7_rest_32 ⟨Nat.zero_le _, Nat.zero_le _⟩) hP hD hS hA rfl (Eq.trans (b := [fa, fap, fapn, faq, faqn]) rfl rfl) (fun H locs hP9 hD9 hS9 => ?_)
              replace hP : va_P D vwCl [(ta, .inr (7, [.ref fa, .ref a_draft, .ref a_fence, .ref a_past, .ref a_slots, .ref a_slotKinds, .ref a_sheets, .ref a_speedX, .ref a_speedY, .ref a_leftward, .ref a_change, .ref a_table, .int fi])), (fa, .inr (1, [.ref fap, .ref faq])), (fap, .inr (3, [.ref fapn])), (fapn, .inl (cy 0, 6, .inl fu)), (faq, .inr (3, [.ref faqn])), (faqn, .inl (cy 0, 6, .inl fv))] H := hP9
              replace hD : va_D A [(ta, .inr (7, [.ref fa, .ref a_draft, .ref a_fence, .ref a_past, .ref a_slots, .ref a_slotKinds, .ref a_sheets, .ref a_speedX, .ref a_speedY, .ref a_leftward, .ref a_change, .ref a_table, .int fi])), (fa, .inr (1, [.ref fap, .ref faq])), (fap, .inr (3, [.ref fapn])), (fapn, .inl (cy 0, 6, .inl fu)), (faq, .inr (3, [.ref faqn])), (faqn, .inl (cy 0, 6, .inl fv))] := hD9
              replace hS := hS9
              clear hP9 hD9 hS9
              refine lv_if_ne (tgt := 41) hx hb dX7_rest_35 (by decide) (fun hc3 => ?_) (fun hc3 => ?_)
              · replace hF := hF.trans (if_neg hc3)
                refine lv_iload_n hx hb dX7_rest_41 rfl (lv_at hl 3 rfl) ?_
                refine lv_iload_n hx hb dX7_rest_42 rfl (lv_at hl 1 rfl) ?_
                refine lv_icmp_ne (tgt := 58) hx hb dX7_rest_43 (by decide) (fun hc4 => ?_) (fun hc4 => ?_)
                · replace hF := hF.trans (if_neg hc4)
                  refine lv_iinc (v := (z3_17 + 1)) (lv' := [(3, .int (z3_17 + 1)), (0, .ref ta), (1, .int px), (2, .int bq), (4, .int (nI ki - 6)), (5, .int (nI kj - 6))]) hx hb dX7_rest_58 hl (k := 3) rfl (yk_incg _) (by decide) rfl (fun ls hl9 => ?_)
                  replace hl := hl9
                  clear hl9
                  refine lv_iinc (v := ((nI kj - 6) + 1)) (lv' := [(5, .int ((nI kj - 6) + 1)), (3, .int (z3_17 + 1)), (0, .ref ta), (1, .int px), (2, .int bq), (4, .int (nI ki - 6))]) hx hb dX7_rest_61 hl (k := 5) rfl (yk_incg _) (by decide) rfl (fun ls hl9 => ?_)
                  replace hl := hl9
                  clear hl9
                  refine lv_goto (tgt := 17) hx hb dX7_rest_64 (by decide) ?_
                  obtain ⟨n9, rfl⟩ : ∃ n9, n17 = n9 + 1 := ⟨n17 - 1, by omega⟩
                  rw [yk_off kj 6] at hl
                  exact ih17 n9 (kj + 1) (z3_17 + 1) _ _ _ (by omega) (by omega)  hF hP hD hS (lv_sub hl [2, 3, 4, 1, 5, 0] rfl)
                · replace hF := hF.trans (if_pos hc4)
                  refine lv_iload_n hx hb dX7_rest_46 rfl (lv_at hl 2 rfl) ?_
                  have J7 : ∀ (v6 : Int32) (H : Heap) (locs : List Loc) (ls : Array Slot), v6 = (if bq = 0 then (nI ki - 6) else (nI kj - 6)) → va_P D vwCl [(ta, .inr (7, [.ref fa, .ref a_draft, .ref a_fence, .ref a_past, .ref a_slots, .ref a_slotKinds, .ref a_sheets, .ref a_speedX, .ref a_speedY, .ref a_leftward, .ref a_change, .ref a_table, .int fi])), (fa, .inr (1, [.ref fap, .ref faq])), (fap, .inr (3, [.ref fapn])), (fapn, .inl (cy 0, 6, .inl fu)), (faq, .inr (3, [.ref faqn])), (faqn, .inl (cy 0, 6, .inl fv))] H → va_D A [(ta, .inr (7, [.ref fa, .ref a_draft, .ref a_fence, .ref a_past, .ref a_slots, .ref a_slotKinds, .ref a_sheets, .ref a_speedX, .ref a_speedY, .ref a_leftward, .ref a_change, .ref a_table, .int fi])), (fa, .inr (1, [.ref fap, .ref faq])), (fap, .inr (3, [.ref fapn])), (fapn, .inl (cy 0, 6, .inl fu)), (faq, .inr (3, [.ref faqn])), (faqn, .inl (cy 0, 6, .inl fv))] → va_S A s.heap H locs → lv_has ls 6 [(0, .ref ta), (1, .int px), (2, .int bq), (3, .int z3_17), (4, .int (nI ki - 6)), (5, .int (nI kj - 6))] → W p l e R s m args below meth c H locs 0 0 Q (F0 m 57 ls [.int v6]) := by
                    clear hP hD hS hl
                    intro v6 H locs ls ev6
                    rw [ev6]
                    clear ev6
                    intro hP hD hS hl
                    have hF : f_X7_rest fu fv fi px bq = ((if bq = 0 then (nI ki - 6) else (nI kj - 6)), fi) := hF
                    have hf0 := yk_fst hF
                    have hg0 := yk_snd hF
                    rw [hf0, hg0] at hQ
                    exact hQ _ _ _ _ dX7_rest_57 hP hS
                  refine lv_if_eq (tgt := 55) hx hb dX7_rest_47 (by decide) (fun hc5 => ?_) (fun hc5 => ?_)
                  · refine lv_iload hx hb dX7_rest_55 (lv_at hl 4 rfl) ?_
                    exact J7 _ _ _ _ ((if_pos hc5).symm) hP hD hS (lv_sub hl [0, 1, 2, 3, 4, 5] rfl)
                  · refine lv_iload hx hb dX7_rest_50 (lv_at hl 5 rfl) ?_
                    refine lv_goto (tgt := 57) hx hb dX7_rest_52 (by decide) ?_
                    exact J7 _ _ _ _ ((if_neg hc5).symm) hP hD hS (lv_sub hl [0, 1, 2, 3, 4, 5] rfl)
              · replace hF := hF.trans (if_pos hc3)
                refine lv_goto (tgt := 61) hx hb dX7_rest_38 (by decide) ?_
                refine lv_iinc (v := ((nI kj - 6) + 1)) (lv' := [(5, .int ((nI kj - 6) + 1)), (0, .ref ta), (1, .int px), (2, .int bq), (3, .int z3_17), (4, .int (nI ki - 6))]) hx hb dX7_rest_61 hl (k := 5) rfl (yk_incg _) (by decide) rfl (fun ls hl9 => ?_)
                replace hl := hl9
                clear hl9
                refine lv_goto (tgt := 17) hx hb dX7_rest_64 (by decide) ?_
                obtain ⟨n9, rfl⟩ : ∃ n9, n17 = n9 + 1 := ⟨n17 - 1, by omega⟩
                rw [yk_off kj 6] at hl
                exact ih17 n9 (kj + 1) z3_17 _ _ _ (by omega) (by omega)  hF hP hD hS (lv_sub hl [1, 2, 3, 4, 5, 0] rfl)
        rw [show (-6 : Int32) = nI 0 - 6 from rfl] at hl
        exact L17 (13 + 1) 13 0 z3_6 _ _ _ (Nat.lt_succ_self _) (by omega)  hF hP hD hS (lv_sub hl [1, 2, 3, 4, 5, 0] rfl)
  rw [show (-6 : Int32) = nI 0 - 6 from rfl] at hl
  exact L6 (13 + 1) 13 0 0 _ _ _ (Nat.lt_succ_self _) (by omega)  hF hP hD hS (lv_sub hl [2, 3, 4, 1, 0] rfl)

theorem kX7_sort_0 : Cond.fieldLink RX7 10 "FlowPlane" "flow" "LFlowPlane$Flow;" ∈ wsX7_sort := by decide +kernel
theorem kX7_sort_1 : Cond.constant RX7 146 (-1000006) ∈ wsX7_sort := by decide +kernel
theorem kX7_sort_2 : Cond.constant RX7 83 (-1000001) ∈ wsX7_sort := by decide +kernel
theorem uX7_sort_X7 : ∀ w ∈ u_ws RX7 TX7 13, w ∈ wsX7_sort := by decide +kernel
def f_X7_sort (fu : Nat → Int32) (fv : Nat → Int32) (fi : Int32) (px : Int32) (py : Int32) : Int32 × Int32 := (if (f_X7_isPlace px py) = 0 then (((f_X7_finding fi (-1000001)).1), ((f_X7_finding fi (-1000001)).2)) else (if (f_X1_isRest fu fv px py) = 0 then (((f_X7_finding fi (-1000006)).1), ((f_X7_finding fi (-1000006)).2)) else ((f_X1_sortAt fu fv px py), fi)))
set_option maxHeartbeats 400000000 in
set_option maxRecDepth 100000 in
theorem c_X7_sort (l : Launch) (D : va_G) (cy : Nat → ClassId) (ta : Nat) (fa : Nat) (fap : Nat) (fapn : Nat) (faq : Nat) (faqn : Nat) (a_draft : Nat) (a_fence : Nat) (a_past : Nat) (a_slots : Nat) (a_slotKinds : Nat) (a_sheets : Nat) (a_speedX : Nat) (a_speedY : Nat) (a_leftward : Nat) (a_change : Nat) (a_table : Nat) (fu : Nat → Int32) (fv : Nat → Int32) (fi : Int32) (px : Int32) (py : Int32) : yk_Ci l D vwCl (yk_ty cy) yX7_sort wsX7_sort 3 66 [.ref ta, .int px, .int py] [(ta, .inr (7, [.ref fa, .ref a_draft, .ref a_fence, .ref a_past, .ref a_slots, .ref a_slotKinds, .ref a_sheets, .ref a_speedX, .ref a_speedY, .ref a_leftward, .ref a_change, .ref a_table, .int fi])), (fa, .inr (1, [.ref fap, .ref faq])), (fap, .inr (3, [.ref fapn])), (fapn, .inl (cy 0, 6, .inl fu)), (faq, .inr (3, [.ref faqn])), (faqn, .inl (cy 0, 6, .inl fv))] ((f_X7_sort fu fv fi px py).1) [(ta, .inr (7, [.ref fa, .ref a_draft, .ref a_fence, .ref a_past, .ref a_slots, .ref a_slotKinds, .ref a_sheets, .ref a_speedX, .ref a_speedY, .ref a_leftward, .ref a_change, .ref a_table, .int ((f_X7_sort fu fv fi px py).2)])), (fa, .inr (1, [.ref fap, .ref faq])), (fap, .inr (3, [.ref fapn])), (fapn, .inl (cy 0, 6, .inl fu)), (faq, .inr (3, [.ref faqn])), (faqn, .inl (cy 0, 6, .inl fv))] := by
  refine yk_eI (cc := cX7_sort) (maxL := 3) (by decide) rfl (Nat.le_of_ble_eq_true rfl) rfl ?_
  intro p e R s m args below meth c A Q ls H locs hx hb hml hown hts hRf hRl hA hK hG hP hD hS hl hQ
  have hP : va_P D vwCl [(ta, .inr (7, [.ref fa, .ref a_draft, .ref a_fence, .ref a_past, .ref a_slots, .ref a_slotKinds, .ref a_sheets, .ref a_speedX, .ref a_speedY, .ref a_leftward, .ref a_change, .ref a_table, .int fi])), (fa, .inr (1, [.ref fap, .ref faq])), (fap, .inr (3, [.ref fapn])), (fapn, .inl (cy 0, 6, .inl fu)), (faq, .inr (3, [.ref faqn])), (faqn, .inl (cy 0, 6, .inl fv))] H := hP
  have hl : lv_has ls 3 [(0, .ref ta), (1, .int px), (2, .int py)] := hl
  have hown : s.vm.findClass RX7 = some m.cls := hown
  have hF : (f_X7_sort fu fv fi px py) = (f_X7_sort fu fv fi px py) := rfl
  refine lv_iload_n hx hb dX7_sort_0 rfl (lv_at hl 1 rfl) ?_
  refine lv_iload_n hx hb dX7_sort_1 rfl (lv_at hl 2 rfl) ?_
  refine yk_i [] (va_runS (As := [.int px, .int py]) (rest := []) ⟨hx, hb, hml, hown, hts⟩ (c_X7_isPlace l D cy px py H.size) (va_cwS 2 hts gX7_sort_X7_isPlace rfl rfl rfl hs_X7_isPlace (yk_room hRf hRl rfl rfl)) (yk_ps hG hA hS hK hP hD [] (by decide +kernel) rfl) rfl rfl hl.1 rfl (lv_room (Nat.le_of_ble_eq_true rfl)) dX7_sort_2 ⟨Nat.zero_le _, Nat.zero_le _⟩) hP hD hS hA rfl rfl (fun H locs hP9 hD9 hS9 => ?_)
  replace hP : va_P D vwCl [(ta, .inr (7, [.ref fa, .ref a_draft, .ref a_fence, .ref a_past, .ref a_slots, .ref a_slotKinds, .ref a_sheets, .ref a_speedX, .ref a_speedY, .ref a_leftward, .ref a_change, .ref a_table, .int fi])), (fa, .inr (1, [.ref fap, .ref faq])), (fap, .inr (3, [.ref fapn])), (fapn, .inl (cy 0, 6, .inl fu)), (faq, .inr (3, [.ref faqn])), (faqn, .inl (cy 0, 6, .inl fv))] H := hP9
  replace hD : va_D A [(ta, .inr (7, [.ref fa, .ref a_draft, .ref a_fence, .ref a_past, .ref a_slots, .ref a_slotKinds, .ref a_sheets, .ref a_speedX, .ref a_speedY, .ref a_leftward, .ref a_change, .ref a_table, .int fi])), (fa, .inr (1, [.ref fap, .ref faq])), (fap, .inr (3, [.ref fapn])), (fapn, .inl (cy 0, 6, .inl fu)), (faq, .inr (3, [.ref faqn])), (faqn, .inl (cy 0, 6, .inl fv))] := hD9
  replace hS := hS9
  clear hP9 hD9 hS9
  refine lv_if_ne (tgt := 15) hx hb dX7_sort_5 (by decide) (fun hc1 => ?_) (fun hc1 => ?_)
  · replace hF := hF.trans (if_neg hc1)
    refine lv_aload_n hx hb dX7_sort_15 rfl (lv_at hl 0 rfl) ?_
    refine va_get (D := D) (ci := 7) (v := .ref fa) (C := RX7) (T := TX7) (N := 13) hx hb hts uX7_sort_X7 hown hK hP 0 rfl rfl 0 (by decide) (hts _ kX7_sort_0) (fun _ h9 => h9) rfl dX7_sort_16 ?_
    refine lv_iload_n hx hb dX7_sort_19 rfl (lv_at hl 1 rfl) ?_
    refine lv_iload_n hx hb dX7_sort_20 rfl (lv_at hl 2 rfl) ?_
    refine yk_i [1, 2, 3, 4, 5] (va_runV (As := [.int px, .int py]) (rest := []) ⟨hx, hb, hml, hown, hts⟩ (c_X1_isRest l D cy fa fap fapn faq faqn fu fv px py H.size) (cwV 2 hts gX7_sort_X1_isRest rfl rfl rfl hv_X1_isRest (yk_room hRf hRl rfl rfl)) (yk_pv (q := (RX1, TX1, 2)) hG hA hS hK hP hD [1, 2, 3, 4, 5] (by decide +kernel) rfl rfl rfl) rfl rfl hl.1 rfl (lv_room (Nat.le_of_ble_eq_true rfl)) dX7_sort_21 ⟨Nat.zero_le _, Nat.zero_le _⟩) hP hD hS hA rfl (Eq.trans (b := [fa, fap, fapn, faq, faqn]) rfl rfl) (fun H locs hP9 hD9 hS9 => ?_)
    replace hP : va_P D vwCl [(ta, .inr (7, [.ref fa, .ref a_draft, .ref a_fence, .ref a_past, .ref a_slots, .ref a_slotKinds, .ref a_sheets, .ref a_speedX, .ref a_speedY, .ref a_leftward, .ref a_change, .ref a_table, .int fi])), (fa, .inr (1, [.ref fap, .ref faq])), (fap, .inr (3, [.ref fapn])), (fapn, .inl (cy 0, 6, .inl fu)), (faq, .inr (3, [.ref faqn])), (faqn, .inl (cy 0, 6, .inl fv))] H := hP9
    replace hD : va_D A [(ta, .inr (7, [.ref fa, .ref a_draft, .ref a_fence, .ref a_past, .ref a_slots, .ref a_slotKinds, .ref a_sheets, .ref a_speedX, .ref a_speedY, .ref a_leftward, .ref a_change, .ref a_table, .int fi])), (fa, .inr (1, [.ref fap, .ref faq])), (fap, .inr (3, [.ref fapn])), (fapn, .inl (cy 0, 6, .inl fu)), (faq, .inr (3, [.ref faqn])), (faqn, .inl (cy 0, 6, .inl fv))] := hD9
    replace hS := hS9
    clear hP9 hD9 hS9
    refine lv_if_ne (tgt := 34) hx hb dX7_sort_24 (by decide) (fun hc2 => ?_) (fun hc2 => ?_)
    · replace hF := hF.trans (if_neg hc2)
      refine lv_aload_n hx hb dX7_sort_34 rfl (lv_at hl 0 rfl) ?_
      refine va_get (D := D) (ci := 7) (v := .ref fa) (C := RX7) (T := TX7) (N := 13) hx hb hts uX7_sort_X7 hown hK hP 0 rfl rfl 0 (by decide) (hts _ kX7_sort_0) (fun _ h9 => h9) rfl dX7_sort_35 ?_
      refine lv_iload_n hx hb dX7_sort_38 rfl (lv_at hl 1 rfl) ?_
      refine lv_iload_n hx hb dX7_sort_39 rfl (lv_at hl 2 rfl) ?_
      refine yk_i [1, 2, 3, 4, 5] (va_runV (As := [.int px, .int py]) (rest := []) ⟨hx, hb, hml, hown, hts⟩ (c_X1_sortAt l D cy fa fap fapn faq faqn fu fv px py H.size) (cwV 2 hts gX7_sort_X1_sortAt rfl rfl rfl hv_X1_sortAt (yk_room hRf hRl rfl rfl)) (yk_pv (q := (RX1, TX1, 2)) hG hA hS hK hP hD [1, 2, 3, 4, 5] (by decide +kernel) rfl rfl rfl) rfl rfl hl.1 rfl (lv_room (Nat.le_of_ble_eq_true rfl)) dX7_sort_40 ⟨Nat.zero_le _, Nat.zero_le _⟩) hP hD hS hA rfl (Eq.trans (b := [fa, fap, fapn, faq, faqn]) rfl rfl) (fun H locs hP9 hD9 hS9 => ?_)
      replace hP : va_P D vwCl [(ta, .inr (7, [.ref fa, .ref a_draft, .ref a_fence, .ref a_past, .ref a_slots, .ref a_slotKinds, .ref a_sheets, .ref a_speedX, .ref a_speedY, .ref a_leftward, .ref a_change, .ref a_table, .int fi])), (fa, .inr (1, [.ref fap, .ref faq])), (fap, .inr (3, [.ref fapn])), (fapn, .inl (cy 0, 6, .inl fu)), (faq, .inr (3, [.ref faqn])), (faqn, .inl (cy 0, 6, .inl fv))] H := hP9
      replace hD : va_D A [(ta, .inr (7, [.ref fa, .ref a_draft, .ref a_fence, .ref a_past, .ref a_slots, .ref a_slotKinds, .ref a_sheets, .ref a_speedX, .ref a_speedY, .ref a_leftward, .ref a_change, .ref a_table, .int fi])), (fa, .inr (1, [.ref fap, .ref faq])), (fap, .inr (3, [.ref fapn])), (fapn, .inl (cy 0, 6, .inl fu)), (faq, .inr (3, [.ref faqn])), (faqn, .inl (cy 0, 6, .inl fv))] := hD9
      replace hS := hS9
      clear hP9 hD9 hS9
      have hF : f_X7_sort fu fv fi px py = ((f_X1_sortAt fu fv px py), fi) := hF
      have hf0 := yk_fst hF
      have hg0 := yk_snd hF
      rw [hf0, hg0] at hQ
      exact hQ _ _ _ _ dX7_sort_43 hP hS
    · replace hF := hF.trans (if_pos hc2)
      refine lv_aload_n hx hb dX7_sort_27 rfl (lv_at hl 0 rfl) ?_
      refine lv_ldc (v := (-1000006)) hx hb hown (hts _ kX7_sort_1) dX7_sort_28 ?_
      refine yk_i [0] (va_runV (As := [.int (-1000006)]) (rest := []) ⟨hx, hb, hml, hown, hts⟩ (c_X7_finding l D cy ta fa a_draft a_fence a_past a_slots a_slotKinds a_sheets a_speedX a_speedY a_leftward a_change a_table fi (-1000006) H.size) (cwV 1 hts gX7_sort_X7_finding rfl rfl rfl hv_X7_finding (yk_room hRf hRl rfl rfl)) (yk_pv (q := (RX7, TX7, 13)) hG hA hS hK hP hD [0] (by decide +kernel) rfl rfl rfl) rfl rfl hl.1 rfl (lv_room (Nat.le_of_ble_eq_true rfl)) dX7_sort_30 ⟨Nat.zero_le _, Nat.zero_le _⟩) hP hD hS hA rfl (Eq.trans (b := [ta]) rfl rfl) (fun H locs hP9 hD9 hS9 => ?_)
      replace hP : va_P D vwCl [(ta, .inr (7, [.ref fa, .ref a_draft, .ref a_fence, .ref a_past, .ref a_slots, .ref a_slotKinds, .ref a_sheets, .ref a_speedX, .ref a_speedY, .ref a_leftward, .ref a_change, .ref a_table, .int ((f_X7_finding fi (-1000006)).2)])), (fa, .inr (1, [.ref fap, .ref faq])), (fap, .inr (3, [.ref fapn])), (fapn, .inl (cy 0, 6, .inl fu)), (faq, .inr (3, [.ref faqn])), (faqn, .inl (cy 0, 6, .inl fv))] H := hP9
      replace hD : va_D A [(ta, .inr (7, [.ref fa, .ref a_draft, .ref a_fence, .ref a_past, .ref a_slots, .ref a_slotKinds, .ref a_sheets, .ref a_speedX, .ref a_speedY, .ref a_leftward, .ref a_change, .ref a_table, .int ((f_X7_finding fi (-1000006)).2)])), (fa, .inr (1, [.ref fap, .ref faq])), (fap, .inr (3, [.ref fapn])), (fapn, .inl (cy 0, 6, .inl fu)), (faq, .inr (3, [.ref faqn])), (faqn, .inl (cy 0, 6, .inl fv))] := hD9
      replace hS := hS9
      clear hP9 hD9 hS9
      have hF : f_X7_sort fu fv fi px py = (((f_X7_finding fi (-1000006)).1), ((f_X7_finding fi (-1000006)).2)) := hF
      have hf0 := yk_fst hF
      have hg0 := yk_snd hF
      rw [hf0, hg0] at hQ
      exact hQ _ _ _ _ dX7_sort_33 hP hS
  · replace hF := hF.trans (if_pos hc1)
    refine lv_aload_n hx hb dX7_sort_8 rfl (lv_at hl 0 rfl) ?_
    refine lv_ldc (v := (-1000001)) hx hb hown (hts _ kX7_sort_2) dX7_sort_9 ?_
    refine yk_i [0] (va_runV (As := [.int (-1000001)]) (rest := []) ⟨hx, hb, hml, hown, hts⟩ (c_X7_finding l D cy ta fa a_draft a_fence a_past a_slots a_slotKinds a_sheets a_speedX a_speedY a_leftward a_change a_table fi (-1000001) H.size) (cwV 1 hts gX7_sort_X7_finding rfl rfl rfl hv_X7_finding (yk_room hRf hRl rfl rfl)) (yk_pv (q := (RX7, TX7, 13)) hG hA hS hK hP hD [0] (by decide +kernel) rfl rfl rfl) rfl rfl hl.1 rfl (lv_room (Nat.le_of_ble_eq_true rfl)) dX7_sort_11 ⟨Nat.zero_le _, Nat.zero_le _⟩) hP hD hS hA rfl (Eq.trans (b := [ta]) rfl rfl) (fun H locs hP9 hD9 hS9 => ?_)
    replace hP : va_P D vwCl [(ta, .inr (7, [.ref fa, .ref a_draft, .ref a_fence, .ref a_past, .ref a_slots, .ref a_slotKinds, .ref a_sheets, .ref a_speedX, .ref a_speedY, .ref a_leftward, .ref a_change, .ref a_table, .int ((f_X7_finding fi (-1000001)).2)])), (fa, .inr (1, [.ref fap, .ref faq])), (fap, .inr (3, [.ref fapn])), (fapn, .inl (cy 0, 6, .inl fu)), (faq, .inr (3, [.ref faqn])), (faqn, .inl (cy 0, 6, .inl fv))] H := hP9
    replace hD : va_D A [(ta, .inr (7, [.ref fa, .ref a_draft, .ref a_fence, .ref a_past, .ref a_slots, .ref a_slotKinds, .ref a_sheets, .ref a_speedX, .ref a_speedY, .ref a_leftward, .ref a_change, .ref a_table, .int ((f_X7_finding fi (-1000001)).2)])), (fa, .inr (1, [.ref fap, .ref faq])), (fap, .inr (3, [.ref fapn])), (fapn, .inl (cy 0, 6, .inl fu)), (faq, .inr (3, [.ref faqn])), (faqn, .inl (cy 0, 6, .inl fv))] := hD9
    replace hS := hS9
    clear hP9 hD9 hS9
    have hF : f_X7_sort fu fv fi px py = (((f_X7_finding fi (-1000001)).1), ((f_X7_finding fi (-1000001)).2)) := hF
    have hf0 := yk_fst hF
    have hg0 := yk_snd hF
    rw [hf0, hg0] at hQ
    exact hQ _ _ _ _ dX7_sort_14 hP hS

theorem kX7_sorts_0 : Cond.constant RX7 83 (-1000001) ∈ wsX7_sorts := by decide +kernel
theorem kX7_sorts_1 : Cond.fieldLink RX7 10 "FlowPlane" "flow" "LFlowPlane$Flow;" ∈ wsX7_sorts := by decide +kernel
theorem uX7_sorts_X7 : ∀ w ∈ u_ws RX7 TX7 13, w ∈ wsX7_sorts := by decide +kernel
def l_X7_sorts_32 (fu : Nat → Int32) (fv : Nat → Int32) (fi : Int32) (px : Int32) (ki : Nat) (z2_22 : Int32) : Nat → Nat → Int32 → Int32
  | 0, kj, z2_32 => z2_32
  | fu_X7_sorts_32 + 1, kj, z2_32 => (if 6 < (nI kj - 6) then z2_32 else (l_X7_sorts_32 fu fv fi px ki z2_22 fu_X7_sorts_32 (kj + 1) (if (f_X1_isRest fu fv (nI ki - 6) (nI kj - 6)) = 0 then z2_32 else (if (f_X1_sortAt fu fv (nI ki - 6) (nI kj - 6)) = px then (z2_32 + 1) else z2_32))))
def l_X7_sorts_22 (fu : Nat → Int32) (fv : Nat → Int32) (fi : Int32) (px : Int32) : Nat → Nat → Int32 → Int32
  | 0, ki, z2_22 => z2_22
  | fu_X7_sorts_22 + 1, ki, z2_22 => (if 6 < (nI ki - 6) then z2_22 else (l_X7_sorts_22 fu fv fi px fu_X7_sorts_22 (ki + 1) (l_X7_sorts_32 fu fv fi px ki z2_22 (13 + 1) 0 z2_22)))
def f_X7_sorts (fu : Nat → Int32) (fv : Nat → Int32) (fi : Int32) (px : Int32) : Int32 × Int32 := (if px < 1 then (((f_X7_finding fi (-1000001)).1), ((f_X7_finding fi (-1000001)).2)) else (if px ≤ 5 then ((l_X7_sorts_22 fu fv fi px (13 + 1) 0 0), fi) else (((f_X7_finding fi (-1000001)).1), ((f_X7_finding fi (-1000001)).2))))
set_option maxHeartbeats 400000000 in
set_option maxRecDepth 100000 in
theorem c_X7_sorts (l : Launch) (D : va_G) (cy : Nat → ClassId) (ta : Nat) (fa : Nat) (fap : Nat) (fapn : Nat) (faq : Nat) (faqn : Nat) (a_draft : Nat) (a_fence : Nat) (a_past : Nat) (a_slots : Nat) (a_slotKinds : Nat) (a_sheets : Nat) (a_speedX : Nat) (a_speedY : Nat) (a_leftward : Nat) (a_change : Nat) (a_table : Nat) (fu : Nat → Int32) (fv : Nat → Int32) (fi : Int32) (px : Int32) : yk_Ci l D vwCl (yk_ty cy) yX7_sorts wsX7_sorts 3 66 [.ref ta, .int px] [(ta, .inr (7, [.ref fa, .ref a_draft, .ref a_fence, .ref a_past, .ref a_slots, .ref a_slotKinds, .ref a_sheets, .ref a_speedX, .ref a_speedY, .ref a_leftward, .ref a_change, .ref a_table, .int fi])), (fa, .inr (1, [.ref fap, .ref faq])), (fap, .inr (3, [.ref fapn])), (fapn, .inl (cy 0, 6, .inl fu)), (faq, .inr (3, [.ref faqn])), (faqn, .inl (cy 0, 6, .inl fv))] ((f_X7_sorts fu fv fi px).1) [(ta, .inr (7, [.ref fa, .ref a_draft, .ref a_fence, .ref a_past, .ref a_slots, .ref a_slotKinds, .ref a_sheets, .ref a_speedX, .ref a_speedY, .ref a_leftward, .ref a_change, .ref a_table, .int ((f_X7_sorts fu fv fi px).2)])), (fa, .inr (1, [.ref fap, .ref faq])), (fap, .inr (3, [.ref fapn])), (fapn, .inl (cy 0, 6, .inl fu)), (faq, .inr (3, [.ref faqn])), (faqn, .inl (cy 0, 6, .inl fv))] := by
  refine yk_eI (cc := cX7_sorts) (maxL := 5) (by decide) rfl (Nat.le_of_ble_eq_true rfl) rfl ?_
  intro p e R s m args below meth c A Q ls H locs hx hb hml hown hts hRf hRl hA hK hG hP hD hS hl hQ
  have hP : va_P D vwCl [(ta, .inr (7, [.ref fa, .ref a_draft, .ref a_fence, .ref a_past, .ref a_slots, .ref a_slotKinds, .ref a_sheets, .ref a_speedX, .ref a_speedY, .ref a_leftward, .ref a_change, .ref a_table, .int fi])), (fa, .inr (1, [.ref fap, .ref faq])), (fap, .inr (3, [.ref fapn])), (fapn, .inl (cy 0, 6, .inl fu)), (faq, .inr (3, [.ref faqn])), (faqn, .inl (cy 0, 6, .inl fv))] H := hP
  have hl : lv_has ls 5 [(0, .ref ta), (1, .int px)] := hl
  have hown : s.vm.findClass RX7 = some m.cls := hown
  have hF : (f_X7_sorts fu fv fi px) = (f_X7_sorts fu fv fi px) := rfl
  refine lv_iload_n hx hb dX7_sorts_0 rfl (lv_at hl 1 rfl) ?_
  refine lv_iconst (v := 1) hx hb dX7_sorts_1 (by decide) ?_
  refine lv_icmp_lt (tgt := 10) hx hb dX7_sorts_2 (by decide) (fun hc1 => ?_) (fun hc1 => ?_)
  · replace hF := hF.trans (if_pos hc1)
    refine lv_aload_n hx hb dX7_sorts_10 rfl (lv_at hl 0 rfl) ?_
    refine lv_ldc (v := (-1000001)) hx hb hown (hts _ kX7_sorts_0) dX7_sorts_11 ?_
    refine yk_i [0] (va_runV (As := [.int (-1000001)]) (rest := []) ⟨hx, hb, hml, hown, hts⟩ (c_X7_finding l D cy ta fa a_draft a_fence a_past a_slots a_slotKinds a_sheets a_speedX a_speedY a_leftward a_change a_table fi (-1000001) H.size) (cwV 1 hts gX7_sorts_X7_finding rfl rfl rfl hv_X7_finding (yk_room hRf hRl rfl rfl)) (yk_pv (q := (RX7, TX7, 13)) hG hA hS hK hP hD [0] (by decide +kernel) rfl rfl rfl) rfl rfl hl.1 rfl (lv_room (Nat.le_of_ble_eq_true rfl)) dX7_sorts_13 ⟨Nat.zero_le _, Nat.zero_le _⟩) hP hD hS hA rfl (Eq.trans (b := [ta]) rfl rfl) (fun H locs hP9 hD9 hS9 => ?_)
    replace hP : va_P D vwCl [(ta, .inr (7, [.ref fa, .ref a_draft, .ref a_fence, .ref a_past, .ref a_slots, .ref a_slotKinds, .ref a_sheets, .ref a_speedX, .ref a_speedY, .ref a_leftward, .ref a_change, .ref a_table, .int ((f_X7_finding fi (-1000001)).2)])), (fa, .inr (1, [.ref fap, .ref faq])), (fap, .inr (3, [.ref fapn])), (fapn, .inl (cy 0, 6, .inl fu)), (faq, .inr (3, [.ref faqn])), (faqn, .inl (cy 0, 6, .inl fv))] H := hP9
    replace hD : va_D A [(ta, .inr (7, [.ref fa, .ref a_draft, .ref a_fence, .ref a_past, .ref a_slots, .ref a_slotKinds, .ref a_sheets, .ref a_speedX, .ref a_speedY, .ref a_leftward, .ref a_change, .ref a_table, .int ((f_X7_finding fi (-1000001)).2)])), (fa, .inr (1, [.ref fap, .ref faq])), (fap, .inr (3, [.ref fapn])), (fapn, .inl (cy 0, 6, .inl fu)), (faq, .inr (3, [.ref faqn])), (faqn, .inl (cy 0, 6, .inl fv))] := hD9
    replace hS := hS9
    clear hP9 hD9 hS9
    have hF : f_X7_sorts fu fv fi px = (((f_X7_finding fi (-1000001)).1), ((f_X7_finding fi (-1000001)).2)) := hF
    have hf0 := yk_fst hF
    have hg0 := yk_snd hF
    rw [hf0, hg0] at hQ
    exact hQ _ _ _ _ dX7_sorts_16 hP hS
  · replace hF := hF.trans (if_neg hc1)
    refine lv_iload_n hx hb dX7_sorts_5 rfl (lv_at hl 1 rfl) ?_
    refine lv_iconst (v := 5) hx hb dX7_sorts_6 (by decide) ?_
    refine lv_icmp_le (tgt := 17) hx hb dX7_sorts_7 (by decide) (fun hc2 => ?_) (fun hc2 => ?_)
    · replace hF := hF.trans (if_pos hc2)
      refine lv_iconst (v := 0) hx hb dX7_sorts_17 (by decide) ?_
      refine lv_istore_n (lv' := [(2, .int 0), (0, .ref ta), (1, .int px)]) hx hb dX7_sorts_18 rfl hl (by decide) rfl (fun ls hl9 => ?_)
      replace hl := hl9
      clear hl9
      refine lv_bipush (v := (-6)) hx hb dX7_sorts_19 (by decide) ?_
      refine lv_istore_n (lv' := [(3, .int (-6)), (2, .int 0), (0, .ref ta), (1, .int px)]) hx hb dX7_sorts_21 rfl hl (by decide) rfl (fun ls hl9 => ?_)
      replace hl := hl9
      clear hl9
      have J10 : ∀ (H : Heap) (locs : List Loc) (ls : Array Slot), va_P D vwCl [(ta, .inr (7, [.ref fa, .ref a_draft, .ref a_fence, .ref a_past, .ref a_slots, .ref a_slotKinds, .ref a_sheets, .ref a_speedX, .ref a_speedY, .ref a_leftward, .ref a_change, .ref a_table, .int fi])), (fa, .inr (1, [.ref fap, .ref faq])), (fap, .inr (3, [.ref fapn])), (fapn, .inl (cy 0, 6, .inl fu)), (faq, .inr (3, [.ref faqn])), (faqn, .inl (cy 0, 6, .inl fv))] H → va_D A [(ta, .inr (7, [.ref fa, .ref a_draft, .ref a_fence, .ref a_past, .ref a_slots, .ref a_slotKinds, .ref a_sheets, .ref a_speedX, .ref a_speedY, .ref a_leftward, .ref a_change, .ref a_table, .int fi])), (fa, .inr (1, [.ref fap, .ref faq])), (fap, .inr (3, [.ref fapn])), (fapn, .inl (cy 0, 6, .inl fu)), (faq, .inr (3, [.ref faqn])), (faqn, .inl (cy 0, 6, .inl fv))] → va_S A s.heap H locs → lv_has ls 5 [(0, .ref ta), (1, .int px), (2, .int (l_X7_sorts_22 fu fv fi px (13 + 1) 0 0))] → W p l e R s m args below meth c H locs 0 0 Q (F0 m 81 ls []) := by
        clear hP hD hS hl
        intro H locs ls hP hD hS hl
        refine lv_iload_n hx hb dX7_sorts_81 rfl (lv_at hl 2 rfl) ?_
        have hF : f_X7_sorts fu fv fi px = ((l_X7_sorts_22 fu fv fi px (13 + 1) 0 0), fi) := hF
        have hf0 := yk_fst hF
        have hg0 := yk_snd hF
        rw [hf0, hg0] at hQ
        exact hQ _ _ _ _ dX7_sorts_82 hP hS
      have L22 : ∀ (M9 n22 ki : Nat) (z2_22 : Int32) (H : Heap) (locs : List Loc) (ls : Array Slot), n22 < M9 → ki + n22 = 13 → (l_X7_sorts_22 fu fv fi px (13 + 1) 0 0) = (l_X7_sorts_22 fu fv fi px (n22 + 1) ki z2_22) → va_P D vwCl [(ta, .inr (7, [.ref fa, .ref a_draft, .ref a_fence, .ref a_past, .ref a_slots, .ref a_slotKinds, .ref a_sheets, .ref a_speedX, .ref a_speedY, .ref a_leftward, .ref a_change, .ref a_table, .int fi])), (fa, .inr (1, [.ref fap, .ref faq])), (fap, .inr (3, [.ref fapn])), (fapn, .inl (cy 0, 6, .inl fu)), (faq, .inr (3, [.ref faqn])), (faqn, .inl (cy 0, 6, .inl fv))] H → va_D A [(ta, .inr (7, [.ref fa, .ref a_draft, .ref a_fence, .ref a_past, .ref a_slots, .ref a_slotKinds, .ref a_sheets, .ref a_speedX, .ref a_speedY, .ref a_leftward, .ref a_change, .ref a_table, .int fi])), (fa, .inr (1, [.ref fap, .ref faq])), (fap, .inr (3, [.ref fapn])), (fapn, .inl (cy 0, 6, .inl fu)), (faq, .inr (3, [.ref faqn])), (faqn, .inl (cy 0, 6, .inl fv))] → va_S A s.heap H locs → lv_has ls 5 [(0, .ref ta), (1, .int px), (2, .int z2_22), (3, .int (nI ki - 6))] → W p l e R s m args below meth c H locs 0 0 Q (F0 m 22 ls []) := by
        clear hP hD hS hl
        intro M9
        induction M9 with
        | zero => intro n22 ki _ _ _ _ hn; exact absurd hn (Nat.not_lt_zero _)
        | succ M9 ih22 =>
          intro n22 ki z2_22 H locs ls hn22 hk22 hV22 hP hD hS hl
          refine lv_iload_n hx hb dX7_sorts_22 rfl (lv_at hl 3 rfl) ?_
          refine lv_bipush (v := 6) hx hb dX7_sorts_23 (by decide) ?_
          refine lv_icmp_gt (tgt := 81) hx hb dX7_sorts_25 (by decide) (fun hc3 => ?_) (fun hc3 => ?_)
          · replace hV22 := hV22.trans (if_pos hc3)
            have hV22 : (l_X7_sorts_22 fu fv fi px (13 + 1) 0 0) = z2_22 := hV22
            have J10 := J10
            rw [hV22] at J10
            exact J10 _ _ _ hP hD hS (lv_sub hl [0, 1, 2] rfl)
          · replace hV22 := hV22.trans (if_neg hc3)
            have hlt22 : ki < 13 := yk_lt6 hk22 hc3
            refine lv_bipush (v := (-6)) hx hb dX7_sorts_28 (by decide) ?_
            refine lv_istore (lv' := [(4, .int (-6)), (0, .ref ta), (1, .int px), (2, .int z2_22), (3, .int (nI ki - 6))]) hx hb dX7_sorts_30 hl (by decide) rfl (fun ls hl9 => ?_)
            replace hl := hl9
            clear hl9
            have J9 : ∀ (H : Heap) (locs : List Loc) (ls : Array Slot), va_P D vwCl [(ta, .inr (7, [.ref fa, .ref a_draft, .ref a_fence, .ref a_past, .ref a_slots, .ref a_slotKinds, .ref a_sheets, .ref a_speedX, .ref a_speedY, .ref a_leftward, .ref a_change, .ref a_table, .int fi])), (fa, .inr (1, [.ref fap, .ref faq])), (fap, .inr (3, [.ref fapn])), (fapn, .inl (cy 0, 6, .inl fu)), (faq, .inr (3, [.ref faqn])), (faqn, .inl (cy 0, 6, .inl fv))] H → va_D A [(ta, .inr (7, [.ref fa, .ref a_draft, .ref a_fence, .ref a_past, .ref a_slots, .ref a_slotKinds, .ref a_sheets, .ref a_speedX, .ref a_speedY, .ref a_leftward, .ref a_change, .ref a_table, .int fi])), (fa, .inr (1, [.ref fap, .ref faq])), (fap, .inr (3, [.ref fapn])), (fapn, .inl (cy 0, 6, .inl fu)), (faq, .inr (3, [.ref faqn])), (faqn, .inl (cy 0, 6, .inl fv))] → va_S A s.heap H locs → lv_has ls 5 [(0, .ref ta), (1, .int px), (2, .int (l_X7_sorts_32 fu fv fi px ki z2_22 (13 + 1) 0 z2_22)), (3, .int (nI ki - 6))] → W p l e R s m args below meth c H locs 0 0 Q (F0 m 75 ls []) := by
              clear hP hD hS hl
              intro H locs ls hP hD hS hl
              refine lv_iinc (v := ((nI ki - 6) + 1)) (lv' := [(3, .int ((nI ki - 6) + 1)), (0, .ref ta), (1, .int px), (2, .int (l_X7_sorts_32 fu fv fi px ki z2_22 (13 + 1) 0 z2_22))]) hx hb dX7_sorts_75 hl (k := 3) rfl (yk_incg _) (by decide) rfl (fun ls hl9 => ?_)
              replace hl := hl9
              clear hl9
              refine lv_goto (tgt := 22) hx hb dX7_sorts_78 (by decide) ?_
              obtain ⟨n9, rfl⟩ : ∃ n9, n22 = n9 + 1 := ⟨n22 - 1, by omega⟩
              rw [yk_off ki 6] at hl
              exact ih22 n9 (ki + 1) (l_X7_sorts_32 fu fv fi px ki z2_22 (13 + 1) 0 z2_22) _ _ _ (by omega) (by omega)  hV22 hP hD hS (lv_sub hl [1, 2, 3, 0] rfl)
            have L32 : ∀ (M9 n32 kj : Nat) (z2_32 : Int32) (H : Heap) (locs : List Loc) (ls : Array Slot), n32 < M9 → kj + n32 = 13 → (l_X7_sorts_32 fu fv fi px ki z2_22 (13 + 1) 0 z2_22) = (l_X7_sorts_32 fu fv fi px ki z2_22 (n32 + 1) kj z2_32) → va_P D vwCl [(ta, .inr (7, [.ref fa, .ref a_draft, .ref a_fence, .ref a_past, .ref a_slots, .ref a_slotKinds, .ref a_sheets, .ref a_speedX, .ref a_speedY, .ref a_leftward, .ref a_change, .ref a_table, .int fi])), (fa, .inr (1, [.ref fap, .ref faq])), (fap, .inr (3, [.ref fapn])), (fapn, .inl (cy 0, 6, .inl fu)), (faq, .inr (3, [.ref faqn])), (faqn, .inl (cy 0, 6, .inl fv))] H → va_D A [(ta, .inr (7, [.ref fa, .ref a_draft, .ref a_fence, .ref a_past, .ref a_slots, .ref a_slotKinds, .ref a_sheets, .ref a_speedX, .ref a_speedY, .ref a_leftward, .ref a_change, .ref a_table, .int fi])), (fa, .inr (1, [.ref fap, .ref faq])), (fap, .inr (3, [.ref fapn])), (fapn, .inl (cy 0, 6, .inl fu)), (faq, .inr (3, [.ref faqn])), (faqn, .inl (cy 0, 6, .inl fv))] → va_S A s.heap H locs → lv_has ls 5 [(0, .ref ta), (1, .int px), (2, .int z2_32), (3, .int (nI ki - 6)), (4, .int (nI kj - 6))] → W p l e R s m args below meth c H locs 0 0 Q (F0 m 32 ls []) := by
              clear hP hD hS hl
              intro M9
              induction M9 with
              | zero => intro n32 kj _ _ _ _ hn; exact absurd hn (Nat.not_lt_zero _)
              | succ M9 ih32 =>
                intro n32 kj z2_32 H locs ls hn32 hk32 hV32 hP hD hS hl
                refine lv_iload hx hb dX7_sorts_32 (lv_at hl 4 rfl) ?_
                refine lv_bipush (v := 6) hx hb dX7_sorts_34 (by decide) ?_
                refine lv_icmp_gt (tgt := 75) hx hb dX7_sorts_36 (by decide) (fun hc4 => ?_) (fun hc4 => ?_)
                · replace hV32 := hV32.trans (if_pos hc4)
                  have hV32 : (l_X7_sorts_32 fu fv fi px ki z2_22 (13 + 1) 0 z2_22) = z2_32 := hV32
                  have J9 := J9
                  rw [hV32] at J9
                  exact J9 _ _ _ hP hD hS (lv_sub hl [0, 1, 2, 3] rfl)
                · replace hV32 := hV32.trans (if_neg hc4)
                  have hlt32 : kj < 13 := yk_lt6 hk32 hc4
                  refine lv_aload_n hx hb dX7_sorts_39 rfl (lv_at hl 0 rfl) ?_
                  refine va_get (D := D) (ci := 7) (v := .ref fa) (C := RX7) (T := TX7) (N := 13) hx hb hts uX7_sorts_X7 hown hK hP 0 rfl rfl 0 (by decide) (hts _ kX7_sorts_1) (fun _ h9 => h9) rfl dX7_sorts_40 ?_
                  refine lv_iload_n hx hb dX7_sorts_43 rfl (lv_at hl 3 rfl) ?_
                  refine lv_iload hx hb dX7_sorts_44 (lv_at hl 4 rfl) ?_
                  refine yk_i [1, 2, 3, 4, 5] (va_runV (As := [.int (nI ki - 6), .int (nI kj - 6)]) (rest := []) ⟨hx, hb, hml, hown, hts⟩ (c_X1_isRest l D cy fa fap fapn faq faqn fu fv (nI ki - 6) (nI kj - 6) H.size) (cwV 2 hts gX7_sorts_X1_isRest rfl rfl rfl hv_X1_isRest (yk_room hRf hRl rfl rfl)) (yk_pv (q := (RX1, TX1, 2)) hG hA hS hK hP hD [1, 2, 3, 4, 5] (by decide +kernel) rfl rfl rfl) rfl rfl hl.1 rfl (lv_room (Nat.le_of_ble_eq_true rfl)) dX7_sorts_46 ⟨Nat.zero_le _, Nat.zero_le _⟩) hP hD hS hA rfl (Eq.trans (b := [fa, fap, fapn, faq, faqn]) rfl rfl) (fun H locs hP9 hD9 hS9 => ?_)
                  replace hP : va_P D vwCl [(ta, .inr (7, [.ref fa, .ref a_draft, .ref a_fence, .ref a_past, .ref a_slots, .ref a_slotKinds, .ref a_sheets, .ref a_speedX, .ref a_speedY, .ref a_leftward, .ref a_change, .ref a_table, .int fi])), (fa, .inr (1, [.ref fap, .ref faq])), (fap, .inr (3, [.ref fapn])), (fapn, .inl (cy 0, 6, .inl fu)), (faq, .inr (3, [.ref faqn])), (faqn, .inl (cy 0, 6, .inl fv))] H := hP9
                  replace hD : va_D A [(ta, .inr (7, [.ref fa, .ref a_draft, .ref a_fence, .ref a_past, .ref a_slots, .ref a_slotKinds, .ref a_sheets, .ref a_speedX, .ref a_speedY, .ref a_leftward, .ref a_change, .ref a_table, .int fi])), (fa, .inr (1, [.ref fap, .ref faq])), (fap, .inr (3, [.ref fapn])), (fapn, .inl (cy 0, 6, .inl fu)), (faq, .inr (3, [.ref faqn])), (faqn, .inl (cy 0, 6, .inl fv))] := hD9
                  replace hS := hS9
                  clear hP9 hD9 hS9
                  have J8 : ∀ (v7 : Int32) (H : Heap) (locs : List Loc) (ls : Array Slot), v7 = (if (f_X1_isRest fu fv (nI ki - 6) (nI kj - 6)) = 0 then z2_32 else (if (f_X1_sortAt fu fv (nI ki - 6) (nI kj - 6)) = px then (z2_32 + 1) else z2_32)) → va_P D vwCl [(ta, .inr (7, [.ref fa, .ref a_draft, .ref a_fence, .ref a_past, .ref a_slots, .ref a_slotKinds, .ref a_sheets, .ref a_speedX, .ref a_speedY, .ref a_leftward, .ref a_change, .ref a_table, .int fi])), (fa, .inr (1, [.ref fap, .ref faq])), (fap, .inr (3, [.ref fapn])), (fapn, .inl (cy 0, 6, .inl fu)), (faq, .inr (3, [.ref faqn])), (faqn, .inl (cy 0, 6, .inl fv))] H → va_D A [(ta, .inr (7, [.ref fa, .ref a_draft, .ref a_fence, .ref a_past, .ref a_slots, .ref a_slotKinds, .ref a_sheets, .ref a_speedX, .ref a_speedY, .ref a_leftward, .ref a_change, .ref a_table, .int fi])), (fa, .inr (1, [.ref fap, .ref faq])), (fap, .inr (3, [.ref fapn])), (fapn, .inl (cy 0, 6, .inl fu)), (faq, .inr (3, [.ref faqn])), (faqn, .inl (cy 0, 6, .inl fv))] → va_S A s.heap H locs → lv_has ls 5 [(0, .ref ta), (1, .int px), (2, .int v7), (3, .int (nI ki - 6)), (4, .int (nI kj - 6))] → W p l e R s m args below meth c H locs 0 0 Q (F0 m 69 ls []) := by
                    clear hP hD hS hl
                    intro v7 H locs ls ev7
                    rw [ev7]
                    clear ev7
                    intro hP hD hS hl
                    refine lv_iinc (v := ((nI kj - 6) + 1)) (lv' := [(4, .int ((nI kj - 6) + 1)), (0, .ref ta), (1, .int px), (2, .int (if (f_X1_isRest fu fv (nI ki - 6) (nI kj - 6)) = 0 then z2_32 else (if (f_X1_sortAt fu fv (nI ki - 6) (nI kj - 6)) = px then (z2_32 + 1) else z2_32))), (3, .int (nI ki - 6))]) hx hb dX7_sorts_69 hl (k := 4) rfl (yk_incg _) (by decide) rfl (fun ls hl9 => ?_)
                    replace hl := hl9
                    clear hl9
                    refine lv_goto (tgt := 32) hx hb dX7_sorts_72 (by decide) ?_
                    obtain ⟨n9, rfl⟩ : ∃ n9, n32 = n9 + 1 := ⟨n32 - 1, by omega⟩
                    rw [yk_off kj 6] at hl
                    exact ih32 n9 (kj + 1) (if (f_X1_isRest fu fv (nI ki - 6) (nI kj - 6)) = 0 then z2_32 else (if (f_X1_sortAt fu fv (nI ki - 6) (nI kj - 6)) = px then (z2_32 + 1) else z2_32)) _ _ _ (by omega) (by omega)  hV32 hP hD hS (lv_sub hl [1, 2, 3, 4, 0] rfl)
                  refine lv_if_eq (tgt := 69) hx hb dX7_sorts_49 (by decide) (fun hc5 => ?_) (fun hc5 => ?_)
                  · exact J8 _ _ _ _ ((if_pos hc5).symm) hP hD hS (lv_sub hl [0, 1, 2, 3, 4] rfl)
                  · refine lv_aload_n hx hb dX7_sorts_52 rfl (lv_at hl 0 rfl) ?_
                    refine va_get (D := D) (ci := 7) (v := .ref fa) (C := RX7) (T := TX7) (N := 13) hx hb hts uX7_sorts_X7 hown hK hP 0 rfl rfl 0 (by decide) (hts _ kX7_sorts_1) (fun _ h9 => h9) rfl dX7_sorts_53 ?_
                    refine lv_iload_n hx hb dX7_sorts_56 rfl (lv_at hl 3 rfl) ?_
                    refine lv_iload hx hb dX7_sorts_57 (lv_at hl 4 rfl) ?_
                    refine yk_i [1, 2, 3, 4, 5] (va_runV (As := [.int (nI ki - 6), .int (nI kj - 6)]) (rest := []) ⟨hx, hb, hml, hown, hts⟩ (c_X1_sortAt l D cy fa fap fapn faq faqn fu fv (nI ki - 6) (nI kj - 6) H.size) (cwV 2 hts gX7_sorts_X1_sortAt rfl rfl rfl hv_X1_sortAt (yk_room hRf hRl rfl rfl)) (yk_pv (q := (RX1, TX1, 2)) hG hA hS hK hP hD [1, 2, 3, 4, 5] (by decide +kernel) rfl rfl rfl) rfl rfl hl.1 rfl (lv_room (Nat.le_of_ble_eq_true rfl)) dX7_sorts_59 ⟨Nat.zero_le _, Nat.zero_le _⟩) hP hD hS hA rfl (Eq.trans (b := [fa, fap, fapn, faq, faqn]) rfl rfl) (fun H locs hP9 hD9 hS9 => ?_)
                    replace hP : va_P D vwCl [(ta, .inr (7, [.ref fa, .ref a_draft, .ref a_fence, .ref a_past, .ref a_slots, .ref a_slotKinds, .ref a_sheets, .ref a_speedX, .ref a_speedY, .ref a_leftward, .ref a_change, .ref a_table, .int fi])), (fa, .inr (1, [.ref fap, .ref faq])), (fap, .inr (3, [.ref fapn])), (fapn, .inl (cy 0, 6, .inl fu)), (faq, .inr (3, [.ref faqn])), (faqn, .inl (cy 0, 6, .inl fv))] H := hP9
                    replace hD : va_D A [(ta, .inr (7, [.ref fa, .ref a_draft, .ref a_fence, .ref a_past, .ref a_slots, .ref a_slotKinds, .ref a_sheets, .ref a_speedX, .ref a_speedY, .ref a_leftward, .ref a_change, .ref a_table, .int fi])), (fa, .inr (1, [.ref fap, .ref faq])), (fap, .inr (3, [.ref fapn])), (fapn, .inl (cy 0, 6, .inl fu)), (faq, .inr (3, [.ref faqn])), (faqn, .inl (cy 0, 6, .inl fv))] := hD9
                    replace hS := hS9
                    clear hP9 hD9 hS9
                    refine lv_iload_n hx hb dX7_sorts_62 rfl (lv_at hl 1 rfl) ?_
                    refine lv_icmp_ne (tgt := 69) hx hb dX7_sorts_63 (by decide) (fun hc6 => ?_) (fun hc6 => ?_)
                    · exact J8 _ _ _ _ (((if_neg hc5).trans (if_neg hc6)).symm) hP hD hS (lv_sub hl [0, 1, 2, 3, 4] rfl)
                    · refine lv_iinc (v := (z2_32 + 1)) (lv' := [(2, .int (z2_32 + 1)), (0, .ref ta), (1, .int px), (3, .int (nI ki - 6)), (4, .int (nI kj - 6))]) hx hb dX7_sorts_66 hl (k := 2) rfl (yk_incg _) (by decide) rfl (fun ls hl9 => ?_)
                      replace hl := hl9
                      clear hl9
                      exact J8 _ _ _ _ (((if_neg hc5).trans (if_pos hc6)).symm) hP hD hS (lv_sub hl [1, 2, 0, 3, 4] rfl)
            rw [show (-6 : Int32) = nI 0 - 6 from rfl] at hl
            exact L32 (13 + 1) 13 0 z2_22 _ _ _ (Nat.lt_succ_self _) (by omega)  rfl hP hD hS (lv_sub hl [1, 2, 3, 4, 0] rfl)
      rw [show (-6 : Int32) = nI 0 - 6 from rfl] at hl
      exact L22 (13 + 1) 13 0 0 _ _ _ (Nat.lt_succ_self _) (by omega)  rfl hP hD hS (lv_sub hl [2, 3, 1, 0] rfl)
    · replace hF := hF.trans (if_neg hc2)
      refine lv_aload_n hx hb dX7_sorts_10 rfl (lv_at hl 0 rfl) ?_
      refine lv_ldc (v := (-1000001)) hx hb hown (hts _ kX7_sorts_0) dX7_sorts_11 ?_
      refine yk_i [0] (va_runV (As := [.int (-1000001)]) (rest := []) ⟨hx, hb, hml, hown, hts⟩ (c_X7_finding l D cy ta fa a_draft a_fence a_past a_slots a_slotKinds a_sheets a_speedX a_speedY a_leftward a_change a_table fi (-1000001) H.size) (cwV 1 hts gX7_sorts_X7_finding rfl rfl rfl hv_X7_finding (yk_room hRf hRl rfl rfl)) (yk_pv (q := (RX7, TX7, 13)) hG hA hS hK hP hD [0] (by decide +kernel) rfl rfl rfl) rfl rfl hl.1 rfl (lv_room (Nat.le_of_ble_eq_true rfl)) dX7_sorts_13 ⟨Nat.zero_le _, Nat.zero_le _⟩) hP hD hS hA rfl (Eq.trans (b := [ta]) rfl rfl) (fun H locs hP9 hD9 hS9 => ?_)
      replace hP : va_P D vwCl [(ta, .inr (7, [.ref fa, .ref a_draft, .ref a_fence, .ref a_past, .ref a_slots, .ref a_slotKinds, .ref a_sheets, .ref a_speedX, .ref a_speedY, .ref a_leftward, .ref a_change, .ref a_table, .int ((f_X7_finding fi (-1000001)).2)])), (fa, .inr (1, [.ref fap, .ref faq])), (fap, .inr (3, [.ref fapn])), (fapn, .inl (cy 0, 6, .inl fu)), (faq, .inr (3, [.ref faqn])), (faqn, .inl (cy 0, 6, .inl fv))] H := hP9
      replace hD : va_D A [(ta, .inr (7, [.ref fa, .ref a_draft, .ref a_fence, .ref a_past, .ref a_slots, .ref a_slotKinds, .ref a_sheets, .ref a_speedX, .ref a_speedY, .ref a_leftward, .ref a_change, .ref a_table, .int ((f_X7_finding fi (-1000001)).2)])), (fa, .inr (1, [.ref fap, .ref faq])), (fap, .inr (3, [.ref fapn])), (fapn, .inl (cy 0, 6, .inl fu)), (faq, .inr (3, [.ref faqn])), (faqn, .inl (cy 0, 6, .inl fv))] := hD9
      replace hS := hS9
      clear hP9 hD9 hS9
      have hF : f_X7_sorts fu fv fi px = (((f_X7_finding fi (-1000001)).1), ((f_X7_finding fi (-1000001)).2)) := hF
      have hf0 := yk_fst hF
      have hg0 := yk_snd hF
      rw [hf0, hg0] at hQ
      exact hQ _ _ _ _ dX7_sorts_16 hP hS

theorem kX7_corner_0 : Cond.fieldLink RX7 22 "FlowPlane" "fence" "LFlowPlane$Fence;" ∈ wsX7_corner := by decide +kernel
theorem kX7_corner_1 : Cond.fieldLink RX7 160 "FlowPlane$Fence" "count" "I" ∈ wsX7_corner := by decide +kernel
theorem kX7_corner_2 : Cond.fieldLink RX7 29 "FlowPlane" "past" "LFlowPlane$Past;" ∈ wsX7_corner := by decide +kernel
theorem kX7_corner_3 : Cond.fieldLink RX7 10 "FlowPlane" "flow" "LFlowPlane$Flow;" ∈ wsX7_corner := by decide +kernel
theorem kX7_corner_4 : Cond.constant RX7 163 (-1000005) ∈ wsX7_corner := by decide +kernel
theorem kX7_corner_5 : Cond.constant RX7 159 (-1000003) ∈ wsX7_corner := by decide +kernel
theorem kX7_corner_6 : Cond.constant RX7 83 (-1000001) ∈ wsX7_corner := by decide +kernel
theorem uX7_corner_X7 : ∀ w ∈ u_ws RX7 TX7 13, w ∈ wsX7_corner := by decide +kernel
theorem uX7_corner_X0 : ∀ w ∈ u_ws RX0 TX0 3, w ∈ wsX7_corner := by decide +kernel
def f_X7_corner (fu : Nat → Int32) (fv : Nat → Int32) (xs : Nat → Int32) (ys : Nat → Int32) (n : Nat) (rw : Nat → Nat → Int32) (co : Nat) (la : Nat) (fi : Int32) (px : Int32) (py : Int32) : Int32 × Int32 × Nat × (Nat → Int32) × (Nat → Int32) × Nat × Nat × (Nat → Nat → Int32) := (if (f_X7_isPlace px py) = 0 then (((f_X7_finding fi (-1000001)).1), ((f_X7_finding fi (-1000001)).2), n, xs, ys, co, la, rw) else (if (f_X0_isLatest xs ys n px py) = 0 then (if (nI n) < 8 then ((nI ((f_X0_append xs ys n px py).1)), fi, ((f_X0_append xs ys n px py).1), ((f_X0_append xs ys n px py).2.1), ((f_X0_append xs ys n px py).2.2), ((f_X2_remember rw co la fu fv xs ys n).1), ((f_X2_remember rw co la fu fv xs ys n).2.1), ((f_X2_remember rw co la fu fv xs ys n).2.2)) else (((f_X7_finding fi (-1000005)).1), ((f_X7_finding fi (-1000005)).2), n, xs, ys, co, la, rw)) else (((f_X7_finding fi (-1000003)).1), ((f_X7_finding fi (-1000003)).2), n, xs, ys, co, la, rw)))
set_option maxHeartbeats 400000000 in
set_option maxRecDepth 100000 in
theorem c_X7_corner (l : Launch) (D : va_G) (cy : Nat → ClassId) (ta : Nat) (fa : Nat) (fap : Nat) (fapn : Nat) (faq : Nat) (faqn : Nat) (ea : Nat) (eax : Nat) (eay : Nat) (ba : Nat) (bar : Nat) (baf : Nat → Nat) (a_draft : Nat) (a_slots : Nat) (a_slotKinds : Nat) (a_sheets : Nat) (a_speedX : Nat) (a_speedY : Nat) (a_leftward : Nat) (a_change : Nat) (a_table : Nat) (fu : Nat → Int32) (fv : Nat → Int32) (xs : Nat → Int32) (ys : Nat → Int32) (n : Nat) (rw : Nat → Nat → Int32) (co : Nat) (la : Nat) (fi : Int32) (px : Int32) (py : Int32) (hn : n ≤ 8) (hco : co ≤ 25) (hla : la < 25) : yk_Ci l D vwCl (yk_ty cy) yX7_corner wsX7_corner 2 42 [.ref ta, .int px, .int py] ([(ta, .inr (7, [.ref fa, .ref a_draft, .ref ea, .ref ba, .ref a_slots, .ref a_slotKinds, .ref a_sheets, .ref a_speedX, .ref a_speedY, .ref a_leftward, .ref a_change, .ref a_table, .int fi])), (fa, .inr (1, [.ref fap, .ref faq])), (fap, .inr (3, [.ref fapn])), (fapn, .inl (cy 0, 6, .inl fu)), (faq, .inr (3, [.ref faqn])), (faqn, .inl (cy 0, 6, .inl fv)), (ea, .inr (0, [.ref eax, .ref eay, .int (nI n)])), (eax, .inl (cy 0, 9, .inl xs)), (eay, .inl (cy 0, 9, .inl ys)), (ba, .inr (2, [.ref bar, .int (nI co), .int (nI la)])), (bar, .inl (cy 5, 25, .inr (.inr (.inr (.inr (fun i => if i < 25 then some (baf i) else none))))))] ++ yk_fam 25 baf (fun i => .inl (cy 0, 31, .inl (rw i)))) ((f_X7_corner fu fv xs ys n rw co la fi px py).1) ([(ta, .inr (7, [.ref fa, .ref a_draft, .ref ea, .ref ba, .ref a_slots, .ref a_slotKinds, .ref a_sheets, .ref a_speedX, .ref a_speedY, .ref a_leftward, .ref a_change, .ref a_table, .int ((f_X7_corner fu fv xs ys n rw co la fi px py).2.1)])), (fa, .inr (1, [.ref fap, .ref faq])), (fap, .inr (3, [.ref fapn])), (fapn, .inl (cy 0, 6, .inl fu)), (faq, .inr (3, [.ref faqn])), (faqn, .inl (cy 0, 6, .inl fv)), (ea, .inr (0, [.ref eax, .ref eay, .int (nI ((f_X7_corner fu fv xs ys n rw co la fi px py).2.2.1))])), (eax, .inl (cy 0, 9, .inl ((f_X7_corner fu fv xs ys n rw co la fi px py).2.2.2.1))), (eay, .inl (cy 0, 9, .inl ((f_X7_corner fu fv xs ys n rw co la fi px py).2.2.2.2.1))), (ba, .inr (2, [.ref bar, .int (nI ((f_X7_corner fu fv xs ys n rw co la fi px py).2.2.2.2.2.1)), .int (nI ((f_X7_corner fu fv xs ys n rw co la fi px py).2.2.2.2.2.2.1))])), (bar, .inl (cy 5, 25, .inr (.inr (.inr (.inr (fun i => if i < 25 then some (baf i) else none))))))] ++ yk_fam 25 baf (fun i => .inl (cy 0, 31, .inl (((f_X7_corner fu fv xs ys n rw co la fi px py).2.2.2.2.2.2.2) i)))) := by
  refine yk_eI (cc := cX7_corner) (maxL := 3) (by decide) rfl (Nat.le_of_ble_eq_true rfl) rfl ?_
  intro p e R s m args below meth c A Q ls H locs hx hb hml hown hts hRf hRl hA hK hG hP hD hS hl hQ
  have hP : va_P D vwCl ([(ta, .inr (7, [.ref fa, .ref a_draft, .ref ea, .ref ba, .ref a_slots, .ref a_slotKinds, .ref a_sheets, .ref a_speedX, .ref a_speedY, .ref a_leftward, .ref a_change, .ref a_table, .int fi])), (fa, .inr (1, [.ref fap, .ref faq])), (fap, .inr (3, [.ref fapn])), (fapn, .inl (cy 0, 6, .inl fu)), (faq, .inr (3, [.ref faqn])), (faqn, .inl (cy 0, 6, .inl fv)), (ea, .inr (0, [.ref eax, .ref eay, .int (nI n)])), (eax, .inl (cy 0, 9, .inl xs)), (eay, .inl (cy 0, 9, .inl ys)), (ba, .inr (2, [.ref bar, .int (nI co), .int (nI la)])), (bar, .inl (cy 5, 25, .inr (.inr (.inr (.inr (fun i => if i < 25 then some (baf i) else none))))))] ++ yk_fam 25 baf (fun i => .inl (cy 0, 31, .inl (rw i)))) H := hP
  have hl : lv_has ls 3 [(0, .ref ta), (1, .int px), (2, .int py)] := hl
  have hown : s.vm.findClass RX7 = some m.cls := hown
  have hF : (f_X7_corner fu fv xs ys n rw co la fi px py) = (f_X7_corner fu fv xs ys n rw co la fi px py) := rfl
  refine lv_iload_n hx hb dX7_corner_0 rfl (lv_at hl 1 rfl) ?_
  refine lv_iload_n hx hb dX7_corner_1 rfl (lv_at hl 2 rfl) ?_
  refine yk_i [] (va_runS (As := [.int px, .int py]) (rest := []) ⟨hx, hb, hml, hown, hts⟩ (c_X7_isPlace l D cy px py H.size) (va_cwS 2 hts gX7_corner_X7_isPlace rfl rfl rfl hs_X7_isPlace (yk_room hRf hRl rfl rfl)) (yk_ps hG hA hS hK hP hD [] (by decide +kernel) rfl) rfl rfl hl.1 rfl (lv_room (Nat.le_of_ble_eq_true rfl)) dX7_corner_2 ⟨Nat.zero_le _, Nat.zero_le _⟩) hP hD hS hA rfl rfl (fun H locs hP9 hD9 hS9 => ?_)
  replace hP : va_P D vwCl ([(ta, .inr (7, [.ref fa, .ref a_draft, .ref ea, .ref ba, .ref a_slots, .ref a_slotKinds, .ref a_sheets, .ref a_speedX, .ref a_speedY, .ref a_leftward, .ref a_change, .ref a_table, .int fi])), (fa, .inr (1, [.ref fap, .ref faq])), (fap, .inr (3, [.ref fapn])), (fapn, .inl (cy 0, 6, .inl fu)), (faq, .inr (3, [.ref faqn])), (faqn, .inl (cy 0, 6, .inl fv)), (ea, .inr (0, [.ref eax, .ref eay, .int (nI n)])), (eax, .inl (cy 0, 9, .inl xs)), (eay, .inl (cy 0, 9, .inl ys)), (ba, .inr (2, [.ref bar, .int (nI co), .int (nI la)])), (bar, .inl (cy 5, 25, .inr (.inr (.inr (.inr (fun i => if i < 25 then some (baf i) else none))))))] ++ yk_fam 25 baf (fun i => .inl (cy 0, 31, .inl (rw i)))) H := hP9
  replace hD : va_D A ([(ta, .inr (7, [.ref fa, .ref a_draft, .ref ea, .ref ba, .ref a_slots, .ref a_slotKinds, .ref a_sheets, .ref a_speedX, .ref a_speedY, .ref a_leftward, .ref a_change, .ref a_table, .int fi])), (fa, .inr (1, [.ref fap, .ref faq])), (fap, .inr (3, [.ref fapn])), (fapn, .inl (cy 0, 6, .inl fu)), (faq, .inr (3, [.ref faqn])), (faqn, .inl (cy 0, 6, .inl fv)), (ea, .inr (0, [.ref eax, .ref eay, .int (nI n)])), (eax, .inl (cy 0, 9, .inl xs)), (eay, .inl (cy 0, 9, .inl ys)), (ba, .inr (2, [.ref bar, .int (nI co), .int (nI la)])), (bar, .inl (cy 5, 25, .inr (.inr (.inr (.inr (fun i => if i < 25 then some (baf i) else none))))))] ++ yk_fam 25 baf (fun i => .inl (cy 0, 31, .inl (rw i)))) := hD9
  replace hS := hS9
  clear hP9 hD9 hS9
  refine lv_if_ne (tgt := 15) hx hb dX7_corner_5 (by decide) (fun hc1 => ?_) (fun hc1 => ?_)
  · replace hF := hF.trans (if_neg hc1)
    refine lv_aload_n hx hb dX7_corner_15 rfl (lv_at hl 0 rfl) ?_
    refine va_get (D := D) (ci := 7) (v := .ref ea) (C := RX7) (T := TX7) (N := 13) hx hb hts uX7_corner_X7 hown hK hP 0 rfl rfl 2 (by decide) (hts _ kX7_corner_0) (fun _ h9 => h9) rfl dX7_corner_16 ?_
    refine lv_iload_n hx hb dX7_corner_19 rfl (lv_at hl 1 rfl) ?_
    refine lv_iload_n hx hb dX7_corner_20 rfl (lv_at hl 2 rfl) ?_
    refine yk_i [6, 7, 8] (va_runV (As := [.int px, .int py]) (rest := []) ⟨hx, hb, hml, hown, hts⟩ (c_X0_isLatest l D cy ea eax eay xs ys n px py hn H.size) (cwV 2 hts gX7_corner_X0_isLatest rfl rfl rfl hv_X0_isLatest (yk_room hRf hRl rfl rfl)) (yk_pv (q := (RX0, TX0, 3)) hG hA hS hK hP hD [6, 7, 8] (by decide +kernel) rfl rfl rfl) rfl rfl hl.1 rfl (lv_room (Nat.le_of_ble_eq_true rfl)) dX7_corner_21 ⟨Nat.zero_le _, Nat.zero_le _⟩) hP hD hS hA rfl (Eq.trans (b := [ea, eax, eay]) rfl rfl) (fun H locs hP9 hD9 hS9 => ?_)
    replace hP : va_P D vwCl ([(ta, .inr (7, [.ref fa, .ref a_draft, .ref ea, .ref ba, .ref a_slots, .ref a_slotKinds, .ref a_sheets, .ref a_speedX, .ref a_speedY, .ref a_leftward, .ref a_change, .ref a_table, .int fi])), (fa, .inr (1, [.ref fap, .ref faq])), (fap, .inr (3, [.ref fapn])), (fapn, .inl (cy 0, 6, .inl fu)), (faq, .inr (3, [.ref faqn])), (faqn, .inl (cy 0, 6, .inl fv)), (ea, .inr (0, [.ref eax, .ref eay, .int (nI n)])), (eax, .inl (cy 0, 9, .inl xs)), (eay, .inl (cy 0, 9, .inl ys)), (ba, .inr (2, [.ref bar, .int (nI co), .int (nI la)])), (bar, .inl (cy 5, 25, .inr (.inr (.inr (.inr (fun i => if i < 25 then some (baf i) else none))))))] ++ yk_fam 25 baf (fun i => .inl (cy 0, 31, .inl (rw i)))) H := hP9
    replace hD : va_D A ([(ta, .inr (7, [.ref fa, .ref a_draft, .ref ea, .ref ba, .ref a_slots, .ref a_slotKinds, .ref a_sheets, .ref a_speedX, .ref a_speedY, .ref a_leftward, .ref a_change, .ref a_table, .int fi])), (fa, .inr (1, [.ref fap, .ref faq])), (fap, .inr (3, [.ref fapn])), (fapn, .inl (cy 0, 6, .inl fu)), (faq, .inr (3, [.ref faqn])), (faqn, .inl (cy 0, 6, .inl fv)), (ea, .inr (0, [.ref eax, .ref eay, .int (nI n)])), (eax, .inl (cy 0, 9, .inl xs)), (eay, .inl (cy 0, 9, .inl ys)), (ba, .inr (2, [.ref bar, .int (nI co), .int (nI la)])), (bar, .inl (cy 5, 25, .inr (.inr (.inr (.inr (fun i => if i < 25 then some (baf i) else none))))))] ++ yk_fam 25 baf (fun i => .inl (cy 0, 31, .inl (rw i)))) := hD9
    replace hS := hS9
    clear hP9 hD9 hS9
    refine lv_if_eq (tgt := 34) hx hb dX7_corner_24 (by decide) (fun hc2 => ?_) (fun hc2 => ?_)
    · replace hF := hF.trans (if_pos hc2)
      refine lv_aload_n hx hb dX7_corner_34 rfl (lv_at hl 0 rfl) ?_
      refine va_get (D := D) (ci := 7) (v := .ref ea) (C := RX7) (T := TX7) (N := 13) hx hb hts uX7_corner_X7 hown hK hP 0 rfl rfl 2 (by decide) (hts _ kX7_corner_0) (fun _ h9 => h9) rfl dX7_corner_35 ?_
      refine va_get (D := D) (ci := 0) (v := .int (nI n)) (C := RX0) (T := TX0) (N := 3) hx hb hts uX7_corner_X0 hown hK hP 6 rfl rfl 2 (by decide) (hts _ kX7_corner_1) (fun _ h9 => h9) rfl dX7_corner_38 ?_
      refine lv_bipush (v := 8) hx hb dX7_corner_41 (by decide) ?_
      refine lv_icmp_lt (tgt := 53) hx hb dX7_corner_43 (by decide) (fun hc3 => ?_) (fun hc3 => ?_)
      · replace hF := hF.trans (if_pos hc3)
        have hn8 : n < 8 := yk_ltn hn (by assumption)
        refine lv_aload_n hx hb dX7_corner_53 rfl (lv_at hl 0 rfl) ?_
        refine va_get (D := D) (ci := 7) (v := .ref ba) (C := RX7) (T := TX7) (N := 13) hx hb hts uX7_corner_X7 hown hK hP 0 rfl rfl 3 (by decide) (hts _ kX7_corner_2) (fun _ h9 => h9) rfl dX7_corner_54 ?_
        refine lv_aload_n hx hb dX7_corner_57 rfl (lv_at hl 0 rfl) ?_
        refine va_get (D := D) (ci := 7) (v := .ref fa) (C := RX7) (T := TX7) (N := 13) hx hb hts uX7_corner_X7 hown hK hP 0 rfl rfl 0 (by decide) (hts _ kX7_corner_3) (fun _ h9 => h9) rfl dX7_corner_58 ?_
        refine lv_aload_n hx hb dX7_corner_61 rfl (lv_at hl 0 rfl) ?_
        refine va_get (D := D) (ci := 7) (v := .ref ea) (C := RX7) (T := TX7) (N := 13) hx hb hts uX7_corner_X7 hown hK hP 0 rfl rfl 2 (by decide) (hts _ kX7_corner_0) (fun _ h9 => h9) rfl dX7_corner_62 ?_
        refine yk_vT [9, 10, 1, 2, 3, 4, 5, 6, 7, 8] (va_runV (As := [.ref fa, .ref ea]) (rest := []) ⟨hx, hb, hml, hown, hts⟩ (c_X2_remember l D cy ba bar fa fap fapn faq faqn ea eax eay baf rw co la fu fv xs ys n hco hla hn H.size) (cwV 2 hts gX7_corner_X2_remember rfl rfl rfl hv_X2_remember (yk_room hRf hRl rfl rfl)) (yk_pvT (q := (RX2, TX2, 3)) hG hA hS hK hP hD [9, 10, 1, 2, 3, 4, 5, 6, 7, 8] (by decide +kernel) rfl rfl rfl) rfl rfl hl.1 rfl (lv_room (Nat.le_of_ble_eq_true rfl)) dX7_corner_65 ⟨Nat.zero_le _, Nat.zero_le _⟩) hP hD hS hA rfl (Eq.trans (b := [ba, bar, fa, fap, fapn, faq, faqn, ea, eax, eay]) rfl rfl) (yk_ff _ _ _ _) (fun H locs hP9 hD9 hS9 => ?_)
        replace hP : va_P D vwCl ([(ta, .inr (7, [.ref fa, .ref a_draft, .ref ea, .ref ba, .ref a_slots, .ref a_slotKinds, .ref a_sheets, .ref a_speedX, .ref a_speedY, .ref a_leftward, .ref a_change, .ref a_table, .int fi])), (fa, .inr (1, [.ref fap, .ref faq])), (fap, .inr (3, [.ref fapn])), (fapn, .inl (cy 0, 6, .inl fu)), (faq, .inr (3, [.ref faqn])), (faqn, .inl (cy 0, 6, .inl fv)), (ea, .inr (0, [.ref eax, .ref eay, .int (nI n)])), (eax, .inl (cy 0, 9, .inl xs)), (eay, .inl (cy 0, 9, .inl ys)), (ba, .inr (2, [.ref bar, .int (nI ((f_X2_remember rw co la fu fv xs ys n).1)), .int (nI ((f_X2_remember rw co la fu fv xs ys n).2.1))])), (bar, .inl (cy 5, 25, .inr (.inr (.inr (.inr (fun i => if i < 25 then some (baf i) else none))))))] ++ yk_fam 25 baf (fun i => .inl (cy 0, 31, .inl (((f_X2_remember rw co la fu fv xs ys n).2.2) i)))) H := hP9
        replace hD : va_D A ([(ta, .inr (7, [.ref fa, .ref a_draft, .ref ea, .ref ba, .ref a_slots, .ref a_slotKinds, .ref a_sheets, .ref a_speedX, .ref a_speedY, .ref a_leftward, .ref a_change, .ref a_table, .int fi])), (fa, .inr (1, [.ref fap, .ref faq])), (fap, .inr (3, [.ref fapn])), (fapn, .inl (cy 0, 6, .inl fu)), (faq, .inr (3, [.ref faqn])), (faqn, .inl (cy 0, 6, .inl fv)), (ea, .inr (0, [.ref eax, .ref eay, .int (nI n)])), (eax, .inl (cy 0, 9, .inl xs)), (eay, .inl (cy 0, 9, .inl ys)), (ba, .inr (2, [.ref bar, .int (nI ((f_X2_remember rw co la fu fv xs ys n).1)), .int (nI ((f_X2_remember rw co la fu fv xs ys n).2.1))])), (bar, .inl (cy 5, 25, .inr (.inr (.inr (.inr (fun i => if i < 25 then some (baf i) else none))))))] ++ yk_fam 25 baf (fun i => .inl (cy 0, 31, .inl (((f_X2_remember rw co la fu fv xs ys n).2.2) i)))) := hD9
        replace hS := hS9
        clear hP9 hD9 hS9
        refine lv_aload_n hx hb dX7_corner_68 rfl (lv_at hl 0 rfl) ?_
        refine va_get (D := D) (ci := 7) (v := .ref ea) (C := RX7) (T := TX7) (N := 13) hx hb hts uX7_corner_X7 hown hK hP 0 rfl rfl 2 (by decide) (hts _ kX7_corner_0) (fun _ h9 => h9) rfl dX7_corner_69 ?_
        refine lv_iload_n hx hb dX7_corner_72 rfl (lv_at hl 1 rfl) ?_
        refine lv_iload_n hx hb dX7_corner_73 rfl (lv_at hl 2 rfl) ?_
        refine yk_v [6, 7, 8] (va_runV (As := [.int px, .int py]) (rest := []) ⟨hx, hb, hml, hown, hts⟩ (c_X0_append l D cy ea eax eay xs ys n px py hn (by omega) H.size) (cwV 2 hts gX7_corner_X0_append rfl rfl rfl hv_X0_append (yk_room hRf hRl rfl rfl)) (yk_pv (q := (RX0, TX0, 3)) hG hA hS hK hP hD [6, 7, 8] (by decide +kernel) rfl rfl rfl) rfl rfl hl.1 rfl (lv_room (Nat.le_of_ble_eq_true rfl)) dX7_corner_74 ⟨Nat.zero_le _, Nat.zero_le _⟩) hP hD hS hA rfl (Eq.trans (b := [ea, eax, eay]) rfl rfl) (fun H locs hP9 hD9 hS9 => ?_)
        replace hP : va_P D vwCl ([(ta, .inr (7, [.ref fa, .ref a_draft, .ref ea, .ref ba, .ref a_slots, .ref a_slotKinds, .ref a_sheets, .ref a_speedX, .ref a_speedY, .ref a_leftward, .ref a_change, .ref a_table, .int fi])), (fa, .inr (1, [.ref fap, .ref faq])), (fap, .inr (3, [.ref fapn])), (fapn, .inl (cy 0, 6, .inl fu)), (faq, .inr (3, [.ref faqn])), (faqn, .inl (cy 0, 6, .inl fv)), (ea, .inr (0, [.ref eax, .ref eay, .int (nI ((f_X0_append xs ys n px py).1))])), (eax, .inl (cy 0, 9, .inl ((f_X0_append xs ys n px py).2.1))), (eay, .inl (cy 0, 9, .inl ((f_X0_append xs ys n px py).2.2))), (ba, .inr (2, [.ref bar, .int (nI ((f_X2_remember rw co la fu fv xs ys n).1)), .int (nI ((f_X2_remember rw co la fu fv xs ys n).2.1))])), (bar, .inl (cy 5, 25, .inr (.inr (.inr (.inr (fun i => if i < 25 then some (baf i) else none))))))] ++ yk_fam 25 baf (fun i => .inl (cy 0, 31, .inl (((f_X2_remember rw co la fu fv xs ys n).2.2) i)))) H := hP9
        replace hD : va_D A ([(ta, .inr (7, [.ref fa, .ref a_draft, .ref ea, .ref ba, .ref a_slots, .ref a_slotKinds, .ref a_sheets, .ref a_speedX, .ref a_speedY, .ref a_leftward, .ref a_change, .ref a_table, .int fi])), (fa, .inr (1, [.ref fap, .ref faq])), (fap, .inr (3, [.ref fapn])), (fapn, .inl (cy 0, 6, .inl fu)), (faq, .inr (3, [.ref faqn])), (faqn, .inl (cy 0, 6, .inl fv)), (ea, .inr (0, [.ref eax, .ref eay, .int (nI ((f_X0_append xs ys n px py).1))])), (eax, .inl (cy 0, 9, .inl ((f_X0_append xs ys n px py).2.1))), (eay, .inl (cy 0, 9, .inl ((f_X0_append xs ys n px py).2.2))), (ba, .inr (2, [.ref bar, .int (nI ((f_X2_remember rw co la fu fv xs ys n).1)), .int (nI ((f_X2_remember rw co la fu fv xs ys n).2.1))])), (bar, .inl (cy 5, 25, .inr (.inr (.inr (.inr (fun i => if i < 25 then some (baf i) else none))))))] ++ yk_fam 25 baf (fun i => .inl (cy 0, 31, .inl (((f_X2_remember rw co la fu fv xs ys n).2.2) i)))) := hD9
        replace hS := hS9
        clear hP9 hD9 hS9
        refine lv_aload_n hx hb dX7_corner_77 rfl (lv_at hl 0 rfl) ?_
        refine va_get (D := D) (ci := 7) (v := .ref ea) (C := RX7) (T := TX7) (N := 13) hx hb hts uX7_corner_X7 hown hK hP 0 rfl rfl 2 (by decide) (hts _ kX7_corner_0) (fun _ h9 => h9) rfl dX7_corner_78 ?_
        refine va_get (D := D) (ci := 0) (v := .int (nI ((f_X0_append xs ys n px py).1))) (C := RX0) (T := TX0) (N := 3) hx hb hts uX7_corner_X0 hown hK hP 6 rfl rfl 2 (by decide) (hts _ kX7_corner_1) (fun _ h9 => h9) rfl dX7_corner_81 ?_
        have hF : f_X7_corner fu fv xs ys n rw co la fi px py = ((nI ((f_X0_append xs ys n px py).1)), fi, ((f_X0_append xs ys n px py).1), ((f_X0_append xs ys n px py).2.1), ((f_X0_append xs ys n px py).2.2), ((f_X2_remember rw co la fu fv xs ys n).1), ((f_X2_remember rw co la fu fv xs ys n).2.1), ((f_X2_remember rw co la fu fv xs ys n).2.2)) := hF
        have hf0 := yk_fst hF
        have hg0 := yk_snd hF
        have hf1 := yk_fst hg0
        have hg1 := yk_snd hg0
        have hf2 := yk_fst hg1
        have hg2 := yk_snd hg1
        have hf3 := yk_fst hg2
        have hg3 := yk_snd hg2
        have hf4 := yk_fst hg3
        have hg4 := yk_snd hg3
        have hf5 := yk_fst hg4
        have hg5 := yk_snd hg4
        have hf6 := yk_fst hg5
        have hg6 := yk_snd hg5
        rw [hf0, hf1, hf2, hf3, hf4, hf5, hf6, hg6] at hQ
        exact hQ _ _ _ _ dX7_corner_84 hP hS
      · replace hF := hF.trans (if_neg hc3)
        refine lv_aload_n hx hb dX7_corner_46 rfl (lv_at hl 0 rfl) ?_
        refine lv_ldc (v := (-1000005)) hx hb hown (hts _ kX7_corner_4) dX7_corner_47 ?_
        refine yk_i [0] (va_runV (As := [.int (-1000005)]) (rest := []) ⟨hx, hb, hml, hown, hts⟩ (c_X7_finding l D cy ta fa a_draft ea ba a_slots a_slotKinds a_sheets a_speedX a_speedY a_leftward a_change a_table fi (-1000005) H.size) (cwV 1 hts gX7_corner_X7_finding rfl rfl rfl hv_X7_finding (yk_room hRf hRl rfl rfl)) (yk_pv (q := (RX7, TX7, 13)) hG hA hS hK hP hD [0] (by decide +kernel) rfl rfl rfl) rfl rfl hl.1 rfl (lv_room (Nat.le_of_ble_eq_true rfl)) dX7_corner_49 ⟨Nat.zero_le _, Nat.zero_le _⟩) hP hD hS hA rfl (Eq.trans (b := [ta]) rfl rfl) (fun H locs hP9 hD9 hS9 => ?_)
        replace hP : va_P D vwCl ([(ta, .inr (7, [.ref fa, .ref a_draft, .ref ea, .ref ba, .ref a_slots, .ref a_slotKinds, .ref a_sheets, .ref a_speedX, .ref a_speedY, .ref a_leftward, .ref a_change, .ref a_table, .int ((f_X7_finding fi (-1000005)).2)])), (fa, .inr (1, [.ref fap, .ref faq])), (fap, .inr (3, [.ref fapn])), (fapn, .inl (cy 0, 6, .inl fu)), (faq, .inr (3, [.ref faqn])), (faqn, .inl (cy 0, 6, .inl fv)), (ea, .inr (0, [.ref eax, .ref eay, .int (nI n)])), (eax, .inl (cy 0, 9, .inl xs)), (eay, .inl (cy 0, 9, .inl ys)), (ba, .inr (2, [.ref bar, .int (nI co), .int (nI la)])), (bar, .inl (cy 5, 25, .inr (.inr (.inr (.inr (fun i => if i < 25 then some (baf i) else none))))))] ++ yk_fam 25 baf (fun i => .inl (cy 0, 31, .inl (rw i)))) H := hP9
        replace hD : va_D A ([(ta, .inr (7, [.ref fa, .ref a_draft, .ref ea, .ref ba, .ref a_slots, .ref a_slotKinds, .ref a_sheets, .ref a_speedX, .ref a_speedY, .ref a_leftward, .ref a_change, .ref a_table, .int ((f_X7_finding fi (-1000005)).2)])), (fa, .inr (1, [.ref fap, .ref faq])), (fap, .inr (3, [.ref fapn])), (fapn, .inl (cy 0, 6, .inl fu)), (faq, .inr (3, [.ref faqn])), (faqn, .inl (cy 0, 6, .inl fv)), (ea, .inr (0, [.ref eax, .ref eay, .int (nI n)])), (eax, .inl (cy 0, 9, .inl xs)), (eay, .inl (cy 0, 9, .inl ys)), (ba, .inr (2, [.ref bar, .int (nI co), .int (nI la)])), (bar, .inl (cy 5, 25, .inr (.inr (.inr (.inr (fun i => if i < 25 then some (baf i) else none))))))] ++ yk_fam 25 baf (fun i => .inl (cy 0, 31, .inl (rw i)))) := hD9
        replace hS := hS9
        clear hP9 hD9 hS9
        have hF : f_X7_corner fu fv xs ys n rw co la fi px py = (((f_X7_finding fi (-1000005)).1), ((f_X7_finding fi (-1000005)).2), n, xs, ys, co, la, rw) := hF
        have hf0 := yk_fst hF
        have hg0 := yk_snd hF
        have hf1 := yk_fst hg0
        have hg1 := yk_snd hg0
        have hf2 := yk_fst hg1
        have hg2 := yk_snd hg1
        have hf3 := yk_fst hg2
        have hg3 := yk_snd hg2
        have hf4 := yk_fst hg3
        have hg4 := yk_snd hg3
        have hf5 := yk_fst hg4
        have hg5 := yk_snd hg4
        have hf6 := yk_fst hg5
        have hg6 := yk_snd hg5
        rw [hf0, hf1, hf2, hf3, hf4, hf5, hf6, hg6] at hQ
        exact hQ _ _ _ _ dX7_corner_52 hP hS
    · replace hF := hF.trans (if_neg hc2)
      refine lv_aload_n hx hb dX7_corner_27 rfl (lv_at hl 0 rfl) ?_
      refine lv_ldc (v := (-1000003)) hx hb hown (hts _ kX7_corner_5) dX7_corner_28 ?_
      refine yk_i [0] (va_runV (As := [.int (-1000003)]) (rest := []) ⟨hx, hb, hml, hown, hts⟩ (c_X7_finding l D cy ta fa a_draft ea ba a_slots a_slotKinds a_sheets a_speedX a_speedY a_leftward a_change a_table fi (-1000003) H.size) (cwV 1 hts gX7_corner_X7_finding rfl rfl rfl hv_X7_finding (yk_room hRf hRl rfl rfl)) (yk_pv (q := (RX7, TX7, 13)) hG hA hS hK hP hD [0] (by decide +kernel) rfl rfl rfl) rfl rfl hl.1 rfl (lv_room (Nat.le_of_ble_eq_true rfl)) dX7_corner_30 ⟨Nat.zero_le _, Nat.zero_le _⟩) hP hD hS hA rfl (Eq.trans (b := [ta]) rfl rfl) (fun H locs hP9 hD9 hS9 => ?_)
      replace hP : va_P D vwCl ([(ta, .inr (7, [.ref fa, .ref a_draft, .ref ea, .ref ba, .ref a_slots, .ref a_slotKinds, .ref a_sheets, .ref a_speedX, .ref a_speedY, .ref a_leftward, .ref a_change, .ref a_table, .int ((f_X7_finding fi (-1000003)).2)])), (fa, .inr (1, [.ref fap, .ref faq])), (fap, .inr (3, [.ref fapn])), (fapn, .inl (cy 0, 6, .inl fu)), (faq, .inr (3, [.ref faqn])), (faqn, .inl (cy 0, 6, .inl fv)), (ea, .inr (0, [.ref eax, .ref eay, .int (nI n)])), (eax, .inl (cy 0, 9, .inl xs)), (eay, .inl (cy 0, 9, .inl ys)), (ba, .inr (2, [.ref bar, .int (nI co), .int (nI la)])), (bar, .inl (cy 5, 25, .inr (.inr (.inr (.inr (fun i => if i < 25 then some (baf i) else none))))))] ++ yk_fam 25 baf (fun i => .inl (cy 0, 31, .inl (rw i)))) H := hP9
      replace hD : va_D A ([(ta, .inr (7, [.ref fa, .ref a_draft, .ref ea, .ref ba, .ref a_slots, .ref a_slotKinds, .ref a_sheets, .ref a_speedX, .ref a_speedY, .ref a_leftward, .ref a_change, .ref a_table, .int ((f_X7_finding fi (-1000003)).2)])), (fa, .inr (1, [.ref fap, .ref faq])), (fap, .inr (3, [.ref fapn])), (fapn, .inl (cy 0, 6, .inl fu)), (faq, .inr (3, [.ref faqn])), (faqn, .inl (cy 0, 6, .inl fv)), (ea, .inr (0, [.ref eax, .ref eay, .int (nI n)])), (eax, .inl (cy 0, 9, .inl xs)), (eay, .inl (cy 0, 9, .inl ys)), (ba, .inr (2, [.ref bar, .int (nI co), .int (nI la)])), (bar, .inl (cy 5, 25, .inr (.inr (.inr (.inr (fun i => if i < 25 then some (baf i) else none))))))] ++ yk_fam 25 baf (fun i => .inl (cy 0, 31, .inl (rw i)))) := hD9
      replace hS := hS9
      clear hP9 hD9 hS9
      have hF : f_X7_corner fu fv xs ys n rw co la fi px py = (((f_X7_finding fi (-1000003)).1), ((f_X7_finding fi (-1000003)).2), n, xs, ys, co, la, rw) := hF
      have hf0 := yk_fst hF
      have hg0 := yk_snd hF
      have hf1 := yk_fst hg0
      have hg1 := yk_snd hg0
      have hf2 := yk_fst hg1
      have hg2 := yk_snd hg1
      have hf3 := yk_fst hg2
      have hg3 := yk_snd hg2
      have hf4 := yk_fst hg3
      have hg4 := yk_snd hg3
      have hf5 := yk_fst hg4
      have hg5 := yk_snd hg4
      have hf6 := yk_fst hg5
      have hg6 := yk_snd hg5
      rw [hf0, hf1, hf2, hf3, hf4, hf5, hf6, hg6] at hQ
      exact hQ _ _ _ _ dX7_corner_33 hP hS
  · replace hF := hF.trans (if_pos hc1)
    refine lv_aload_n hx hb dX7_corner_8 rfl (lv_at hl 0 rfl) ?_
    refine lv_ldc (v := (-1000001)) hx hb hown (hts _ kX7_corner_6) dX7_corner_9 ?_
    refine yk_i [0] (va_runV (As := [.int (-1000001)]) (rest := []) ⟨hx, hb, hml, hown, hts⟩ (c_X7_finding l D cy ta fa a_draft ea ba a_slots a_slotKinds a_sheets a_speedX a_speedY a_leftward a_change a_table fi (-1000001) H.size) (cwV 1 hts gX7_corner_X7_finding rfl rfl rfl hv_X7_finding (yk_room hRf hRl rfl rfl)) (yk_pv (q := (RX7, TX7, 13)) hG hA hS hK hP hD [0] (by decide +kernel) rfl rfl rfl) rfl rfl hl.1 rfl (lv_room (Nat.le_of_ble_eq_true rfl)) dX7_corner_11 ⟨Nat.zero_le _, Nat.zero_le _⟩) hP hD hS hA rfl (Eq.trans (b := [ta]) rfl rfl) (fun H locs hP9 hD9 hS9 => ?_)
    replace hP : va_P D vwCl ([(ta, .inr (7, [.ref fa, .ref a_draft, .ref ea, .ref ba, .ref a_slots, .ref a_slotKinds, .ref a_sheets, .ref a_speedX, .ref a_speedY, .ref a_leftward, .ref a_change, .ref a_table, .int ((f_X7_finding fi (-1000001)).2)])), (fa, .inr (1, [.ref fap, .ref faq])), (fap, .inr (3, [.ref fapn])), (fapn, .inl (cy 0, 6, .inl fu)), (faq, .inr (3, [.ref faqn])), (faqn, .inl (cy 0, 6, .inl fv)), (ea, .inr (0, [.ref eax, .ref eay, .int (nI n)])), (eax, .inl (cy 0, 9, .inl xs)), (eay, .inl (cy 0, 9, .inl ys)), (ba, .inr (2, [.ref bar, .int (nI co), .int (nI la)])), (bar, .inl (cy 5, 25, .inr (.inr (.inr (.inr (fun i => if i < 25 then some (baf i) else none))))))] ++ yk_fam 25 baf (fun i => .inl (cy 0, 31, .inl (rw i)))) H := hP9
    replace hD : va_D A ([(ta, .inr (7, [.ref fa, .ref a_draft, .ref ea, .ref ba, .ref a_slots, .ref a_slotKinds, .ref a_sheets, .ref a_speedX, .ref a_speedY, .ref a_leftward, .ref a_change, .ref a_table, .int ((f_X7_finding fi (-1000001)).2)])), (fa, .inr (1, [.ref fap, .ref faq])), (fap, .inr (3, [.ref fapn])), (fapn, .inl (cy 0, 6, .inl fu)), (faq, .inr (3, [.ref faqn])), (faqn, .inl (cy 0, 6, .inl fv)), (ea, .inr (0, [.ref eax, .ref eay, .int (nI n)])), (eax, .inl (cy 0, 9, .inl xs)), (eay, .inl (cy 0, 9, .inl ys)), (ba, .inr (2, [.ref bar, .int (nI co), .int (nI la)])), (bar, .inl (cy 5, 25, .inr (.inr (.inr (.inr (fun i => if i < 25 then some (baf i) else none))))))] ++ yk_fam 25 baf (fun i => .inl (cy 0, 31, .inl (rw i)))) := hD9
    replace hS := hS9
    clear hP9 hD9 hS9
    have hF : f_X7_corner fu fv xs ys n rw co la fi px py = (((f_X7_finding fi (-1000001)).1), ((f_X7_finding fi (-1000001)).2), n, xs, ys, co, la, rw) := hF
    have hf0 := yk_fst hF
    have hg0 := yk_snd hF
    have hf1 := yk_fst hg0
    have hg1 := yk_snd hg0
    have hf2 := yk_fst hg1
    have hg2 := yk_snd hg1
    have hf3 := yk_fst hg2
    have hg3 := yk_snd hg2
    have hf4 := yk_fst hg3
    have hg4 := yk_snd hg3
    have hf5 := yk_fst hg4
    have hg5 := yk_snd hg4
    have hf6 := yk_fst hg5
    have hg6 := yk_snd hg5
    rw [hf0, hf1, hf2, hf3, hf4, hf5, hf6, hg6] at hQ
    exact hQ _ _ _ _ dX7_corner_14 hP hS

theorem kX7_rests_0 : Cond.fieldLink RX7 10 "FlowPlane" "flow" "LFlowPlane$Flow;" ∈ wsX7_rests := by decide +kernel
theorem uX7_rests_X7 : ∀ w ∈ u_ws RX7 TX7 13, w ∈ wsX7_rests := by decide +kernel
def l_X7_rests_14 (fu : Nat → Int32) (fv : Nat → Int32) (ki : Nat) (z1_5 : Int32) : Nat → Nat → Int32 → Int32
  | 0, kj, z1_14 => z1_14
  | fu_X7_rests_14 + 1, kj, z1_14 => (if 6 < (nI kj - 6) then z1_14 else (l_X7_rests_14 fu fv ki z1_5 fu_X7_rests_14 (kj + 1) (if (f_X1_isRest fu fv (nI ki - 6) (nI kj - 6)) = 0 then z1_14 else (z1_14 + 1))))
def l_X7_rests_5 (fu : Nat → Int32) (fv : Nat → Int32) : Nat → Nat → Int32 → Int32
  | 0, ki, z1_5 => z1_5
  | fu_X7_rests_5 + 1, ki, z1_5 => (if 6 < (nI ki - 6) then z1_5 else (l_X7_rests_5 fu fv fu_X7_rests_5 (ki + 1) (l_X7_rests_14 fu fv ki z1_5 (13 + 1) 0 z1_5)))
def f_X7_rests (fu : Nat → Int32) (fv : Nat → Int32) : Int32 := (l_X7_rests_5 fu fv (13 + 1) 0 0)
set_option maxHeartbeats 400000000 in
set_option maxRecDepth 100000 in
theorem c_X7_rests (l : Launch) (D : va_G) (cy : Nat → ClassId) (ta : Nat) (fa : Nat) (fap : Nat) (fapn : Nat) (faq : Nat) (faqn : Nat) (a_draft : Nat) (a_fence : Nat) (a_past : Nat) (a_slots : Nat) (a_slotKinds : Nat) (a_sheets : Nat) (a_speedX : Nat) (a_speedY : Nat) (a_leftward : Nat) (a_change : Nat) (a_table : Nat) (fu : Nat → Int32) (fv : Nat → Int32) (fi : Int32) : yk_Ci l D vwCl (yk_ty cy) yX7_rests wsX7_rests 3 66 [.ref ta] [(ta, .inr (7, [.ref fa, .ref a_draft, .ref a_fence, .ref a_past, .ref a_slots, .ref a_slotKinds, .ref a_sheets, .ref a_speedX, .ref a_speedY, .ref a_leftward, .ref a_change, .ref a_table, .int fi])), (fa, .inr (1, [.ref fap, .ref faq])), (fap, .inr (3, [.ref fapn])), (fapn, .inl (cy 0, 6, .inl fu)), (faq, .inr (3, [.ref faqn])), (faqn, .inl (cy 0, 6, .inl fv))] (f_X7_rests fu fv) [(ta, .inr (7, [.ref fa, .ref a_draft, .ref a_fence, .ref a_past, .ref a_slots, .ref a_slotKinds, .ref a_sheets, .ref a_speedX, .ref a_speedY, .ref a_leftward, .ref a_change, .ref a_table, .int fi])), (fa, .inr (1, [.ref fap, .ref faq])), (fap, .inr (3, [.ref fapn])), (fapn, .inl (cy 0, 6, .inl fu)), (faq, .inr (3, [.ref faqn])), (faqn, .inl (cy 0, 6, .inl fv))] := by
  refine yk_eI (cc := cX7_rests) (maxL := 4) (by decide) rfl (Nat.le_of_ble_eq_true rfl) rfl ?_
  intro p e R s m args below meth c A Q ls H locs hx hb hml hown hts hRf hRl hA hK hG hP hD hS hl hQ
  have hP : va_P D vwCl [(ta, .inr (7, [.ref fa, .ref a_draft, .ref a_fence, .ref a_past, .ref a_slots, .ref a_slotKinds, .ref a_sheets, .ref a_speedX, .ref a_speedY, .ref a_leftward, .ref a_change, .ref a_table, .int fi])), (fa, .inr (1, [.ref fap, .ref faq])), (fap, .inr (3, [.ref fapn])), (fapn, .inl (cy 0, 6, .inl fu)), (faq, .inr (3, [.ref faqn])), (faqn, .inl (cy 0, 6, .inl fv))] H := hP
  have hl : lv_has ls 4 [(0, .ref ta)] := hl
  have hown : s.vm.findClass RX7 = some m.cls := hown
  have hF : (f_X7_rests fu fv) = (f_X7_rests fu fv) := rfl
  refine lv_iconst (v := 0) hx hb dX7_rests_0 (by decide) ?_
  refine lv_istore_n (lv' := [(1, .int 0), (0, .ref ta)]) hx hb dX7_rests_1 rfl hl (by decide) rfl (fun ls hl9 => ?_)
  replace hl := hl9
  clear hl9
  refine lv_bipush (v := (-6)) hx hb dX7_rests_2 (by decide) ?_
  refine lv_istore_n (lv' := [(2, .int (-6)), (1, .int 0), (0, .ref ta)]) hx hb dX7_rests_4 rfl hl (by decide) rfl (fun ls hl9 => ?_)
  replace hl := hl9
  clear hl9
  have J7 : ∀ (H : Heap) (locs : List Loc) (ls : Array Slot), va_P D vwCl [(ta, .inr (7, [.ref fa, .ref a_draft, .ref a_fence, .ref a_past, .ref a_slots, .ref a_slotKinds, .ref a_sheets, .ref a_speedX, .ref a_speedY, .ref a_leftward, .ref a_change, .ref a_table, .int fi])), (fa, .inr (1, [.ref fap, .ref faq])), (fap, .inr (3, [.ref fapn])), (fapn, .inl (cy 0, 6, .inl fu)), (faq, .inr (3, [.ref faqn])), (faqn, .inl (cy 0, 6, .inl fv))] H → va_D A [(ta, .inr (7, [.ref fa, .ref a_draft, .ref a_fence, .ref a_past, .ref a_slots, .ref a_slotKinds, .ref a_sheets, .ref a_speedX, .ref a_speedY, .ref a_leftward, .ref a_change, .ref a_table, .int fi])), (fa, .inr (1, [.ref fap, .ref faq])), (fap, .inr (3, [.ref fapn])), (fapn, .inl (cy 0, 6, .inl fu)), (faq, .inr (3, [.ref faqn])), (faqn, .inl (cy 0, 6, .inl fv))] → va_S A s.heap H locs → lv_has ls 4 [(0, .ref ta), (1, .int (l_X7_rests_5 fu fv (13 + 1) 0 0))] → W p l e R s m args below meth c H locs 0 0 Q (F0 m 47 ls []) := by
    clear hP hD hS hl
    intro H locs ls hP hD hS hl
    refine lv_iload_n hx hb dX7_rests_47 rfl (lv_at hl 1 rfl) ?_
    have hF : f_X7_rests fu fv = (l_X7_rests_5 fu fv (13 + 1) 0 0) := hF
    rw [hF] at hQ
    exact hQ _ _ _ _ dX7_rests_48 hP hS
  have L5 : ∀ (M9 n5 ki : Nat) (z1_5 : Int32) (H : Heap) (locs : List Loc) (ls : Array Slot), n5 < M9 → ki + n5 = 13 → (l_X7_rests_5 fu fv (13 + 1) 0 0) = (l_X7_rests_5 fu fv (n5 + 1) ki z1_5) → va_P D vwCl [(ta, .inr (7, [.ref fa, .ref a_draft, .ref a_fence, .ref a_past, .ref a_slots, .ref a_slotKinds, .ref a_sheets, .ref a_speedX, .ref a_speedY, .ref a_leftward, .ref a_change, .ref a_table, .int fi])), (fa, .inr (1, [.ref fap, .ref faq])), (fap, .inr (3, [.ref fapn])), (fapn, .inl (cy 0, 6, .inl fu)), (faq, .inr (3, [.ref faqn])), (faqn, .inl (cy 0, 6, .inl fv))] H → va_D A [(ta, .inr (7, [.ref fa, .ref a_draft, .ref a_fence, .ref a_past, .ref a_slots, .ref a_slotKinds, .ref a_sheets, .ref a_speedX, .ref a_speedY, .ref a_leftward, .ref a_change, .ref a_table, .int fi])), (fa, .inr (1, [.ref fap, .ref faq])), (fap, .inr (3, [.ref fapn])), (fapn, .inl (cy 0, 6, .inl fu)), (faq, .inr (3, [.ref faqn])), (faqn, .inl (cy 0, 6, .inl fv))] → va_S A s.heap H locs → lv_has ls 4 [(0, .ref ta), (1, .int z1_5), (2, .int (nI ki - 6))] → W p l e R s m args below meth c H locs 0 0 Q (F0 m 5 ls []) := by
    clear hP hD hS hl
    intro M9
    induction M9 with
    | zero => intro n5 ki _ _ _ _ hn; exact absurd hn (Nat.not_lt_zero _)
    | succ M9 ih5 =>
      intro n5 ki z1_5 H locs ls hn5 hk5 hV5 hP hD hS hl
      refine lv_iload_n hx hb dX7_rests_5 rfl (lv_at hl 2 rfl) ?_
      refine lv_bipush (v := 6) hx hb dX7_rests_6 (by decide) ?_
      refine lv_icmp_gt (tgt := 47) hx hb dX7_rests_8 (by decide) (fun hc1 => ?_) (fun hc1 => ?_)
      · replace hV5 := hV5.trans (if_pos hc1)
        have hV5 : (l_X7_rests_5 fu fv (13 + 1) 0 0) = z1_5 := hV5
        have J7 := J7
        rw [hV5] at J7
        exact J7 _ _ _ hP hD hS (lv_sub hl [0, 1] rfl)
      · replace hV5 := hV5.trans (if_neg hc1)
        have hlt5 : ki < 13 := yk_lt6 hk5 hc1
        refine lv_bipush (v := (-6)) hx hb dX7_rests_11 (by decide) ?_
        refine lv_istore_n (lv' := [(3, .int (-6)), (0, .ref ta), (1, .int z1_5), (2, .int (nI ki - 6))]) hx hb dX7_rests_13 rfl hl (by decide) rfl (fun ls hl9 => ?_)
        replace hl := hl9
        clear hl9
        have J6 : ∀ (H : Heap) (locs : List Loc) (ls : Array Slot), va_P D vwCl [(ta, .inr (7, [.ref fa, .ref a_draft, .ref a_fence, .ref a_past, .ref a_slots, .ref a_slotKinds, .ref a_sheets, .ref a_speedX, .ref a_speedY, .ref a_leftward, .ref a_change, .ref a_table, .int fi])), (fa, .inr (1, [.ref fap, .ref faq])), (fap, .inr (3, [.ref fapn])), (fapn, .inl (cy 0, 6, .inl fu)), (faq, .inr (3, [.ref faqn])), (faqn, .inl (cy 0, 6, .inl fv))] H → va_D A [(ta, .inr (7, [.ref fa, .ref a_draft, .ref a_fence, .ref a_past, .ref a_slots, .ref a_slotKinds, .ref a_sheets, .ref a_speedX, .ref a_speedY, .ref a_leftward, .ref a_change, .ref a_table, .int fi])), (fa, .inr (1, [.ref fap, .ref faq])), (fap, .inr (3, [.ref fapn])), (fapn, .inl (cy 0, 6, .inl fu)), (faq, .inr (3, [.ref faqn])), (faqn, .inl (cy 0, 6, .inl fv))] → va_S A s.heap H locs → lv_has ls 4 [(0, .ref ta), (1, .int (l_X7_rests_14 fu fv ki z1_5 (13 + 1) 0 z1_5)), (2, .int (nI ki - 6))] → W p l e R s m args below meth c H locs 0 0 Q (F0 m 41 ls []) := by
          clear hP hD hS hl
          intro H locs ls hP hD hS hl
          refine lv_iinc (v := ((nI ki - 6) + 1)) (lv' := [(2, .int ((nI ki - 6) + 1)), (0, .ref ta), (1, .int (l_X7_rests_14 fu fv ki z1_5 (13 + 1) 0 z1_5))]) hx hb dX7_rests_41 hl (k := 2) rfl (yk_incg _) (by decide) rfl (fun ls hl9 => ?_)
          replace hl := hl9
          clear hl9
          refine lv_goto (tgt := 5) hx hb dX7_rests_44 (by decide) ?_
          obtain ⟨n9, rfl⟩ : ∃ n9, n5 = n9 + 1 := ⟨n5 - 1, by omega⟩
          rw [yk_off ki 6] at hl
          exact ih5 n9 (ki + 1) (l_X7_rests_14 fu fv ki z1_5 (13 + 1) 0 z1_5) _ _ _ (by omega) (by omega)  hV5 hP hD hS (lv_sub hl [1, 2, 0] rfl)
        have L14 : ∀ (M9 n14 kj : Nat) (z1_14 : Int32) (H : Heap) (locs : List Loc) (ls : Array Slot), n14 < M9 → kj + n14 = 13 → (l_X7_rests_14 fu fv ki z1_5 (13 + 1) 0 z1_5) = (l_X7_rests_14 fu fv ki z1_5 (n14 + 1) kj z1_14) → va_P D vwCl [(ta, .inr (7, [.ref fa, .ref a_draft, .ref a_fence, .ref a_past, .ref a_slots, .ref a_slotKinds, .ref a_sheets, .ref a_speedX, .ref a_speedY, .ref a_leftward, .ref a_change, .ref a_table, .int fi])), (fa, .inr (1, [.ref fap, .ref faq])), (fap, .inr (3, [.ref fapn])), (fapn, .inl (cy 0, 6, .inl fu)), (faq, .inr (3, [.ref faqn])), (faqn, .inl (cy 0, 6, .inl fv))] H → va_D A [(ta, .inr (7, [.ref fa, .ref a_draft, .ref a_fence, .ref a_past, .ref a_slots, .ref a_slotKinds, .ref a_sheets, .ref a_speedX, .ref a_speedY, .ref a_leftward, .ref a_change, .ref a_table, .int fi])), (fa, .inr (1, [.ref fap, .ref faq])), (fap, .inr (3, [.ref fapn])), (fapn, .inl (cy 0, 6, .inl fu)), (faq, .inr (3, [.ref faqn])), (faqn, .inl (cy 0, 6, .inl fv))] → va_S A s.heap H locs → lv_has ls 4 [(0, .ref ta), (1, .int z1_14), (2, .int (nI ki - 6)), (3, .int (nI kj - 6))] → W p l e R s m args below meth c H locs 0 0 Q (F0 m 14 ls []) := by
          clear hP hD hS hl
          intro M9
          induction M9 with
          | zero => intro n14 kj _ _ _ _ hn; exact absurd hn (Nat.not_lt_zero _)
          | succ M9 ih14 =>
            intro n14 kj z1_14 H locs ls hn14 hk14 hV14 hP hD hS hl
            refine lv_iload_n hx hb dX7_rests_14 rfl (lv_at hl 3 rfl) ?_
            refine lv_bipush (v := 6) hx hb dX7_rests_15 (by decide) ?_
            refine lv_icmp_gt (tgt := 41) hx hb dX7_rests_17 (by decide) (fun hc2 => ?_) (fun hc2 => ?_)
            · replace hV14 := hV14.trans (if_pos hc2)
              have hV14 : (l_X7_rests_14 fu fv ki z1_5 (13 + 1) 0 z1_5) = z1_14 := hV14
              have J6 := J6
              rw [hV14] at J6
              exact J6 _ _ _ hP hD hS (lv_sub hl [0, 1, 2] rfl)
            · replace hV14 := hV14.trans (if_neg hc2)
              have hlt14 : kj < 13 := yk_lt6 hk14 hc2
              refine lv_aload_n hx hb dX7_rests_20 rfl (lv_at hl 0 rfl) ?_
              refine va_get (D := D) (ci := 7) (v := .ref fa) (C := RX7) (T := TX7) (N := 13) hx hb hts uX7_rests_X7 hown hK hP 0 rfl rfl 0 (by decide) (hts _ kX7_rests_0) (fun _ h9 => h9) rfl dX7_rests_21 ?_
              refine lv_iload_n hx hb dX7_rests_24 rfl (lv_at hl 2 rfl) ?_
              refine lv_iload_n hx hb dX7_rests_25 rfl (lv_at hl 3 rfl) ?_
              refine yk_i [1, 2, 3, 4, 5] (va_runV (As := [.int (nI ki - 6), .int (nI kj - 6)]) (rest := []) ⟨hx, hb, hml, hown, hts⟩ (c_X1_isRest l D cy fa fap fapn faq faqn fu fv (nI ki - 6) (nI kj - 6) H.size) (cwV 2 hts gX7_rests_X1_isRest rfl rfl rfl hv_X1_isRest (yk_room hRf hRl rfl rfl)) (yk_pv (q := (RX1, TX1, 2)) hG hA hS hK hP hD [1, 2, 3, 4, 5] (by decide +kernel) rfl rfl rfl) rfl rfl hl.1 rfl (lv_room (Nat.le_of_ble_eq_true rfl)) dX7_rests_26 ⟨Nat.zero_le _, Nat.zero_le _⟩) hP hD hS hA rfl (Eq.trans (b := [fa, fap, fapn, faq, faqn]) rfl rfl) (fun H locs hP9 hD9 hS9 => ?_)
              replace hP : va_P D vwCl [(ta, .inr (7, [.ref fa, .ref a_draft, .ref a_fence, .ref a_past, .ref a_slots, .ref a_slotKinds, .ref a_sheets, .ref a_speedX, .ref a_speedY, .ref a_leftward, .ref a_change, .ref a_table, .int fi])), (fa, .inr (1, [.ref fap, .ref faq])), (fap, .inr (3, [.ref fapn])), (fapn, .inl (cy 0, 6, .inl fu)), (faq, .inr (3, [.ref faqn])), (faqn, .inl (cy 0, 6, .inl fv))] H := hP9
              replace hD : va_D A [(ta, .inr (7, [.ref fa, .ref a_draft, .ref a_fence, .ref a_past, .ref a_slots, .ref a_slotKinds, .ref a_sheets, .ref a_speedX, .ref a_speedY, .ref a_leftward, .ref a_change, .ref a_table, .int fi])), (fa, .inr (1, [.ref fap, .ref faq])), (fap, .inr (3, [.ref fapn])), (fapn, .inl (cy 0, 6, .inl fu)), (faq, .inr (3, [.ref faqn])), (faqn, .inl (cy 0, 6, .inl fv))] := hD9
              replace hS := hS9
              clear hP9 hD9 hS9
              have J5 : ∀ (v4 : Int32) (H : Heap) (locs : List Loc) (ls : Array Slot), v4 = (if (f_X1_isRest fu fv (nI ki - 6) (nI kj - 6)) = 0 then z1_14 else (z1_14 + 1)) → va_P D vwCl [(ta, .inr (7, [.ref fa, .ref a_draft, .ref a_fence, .ref a_past, .ref a_slots, .ref a_slotKinds, .ref a_sheets, .ref a_speedX, .ref a_speedY, .ref a_leftward, .ref a_change, .ref a_table, .int fi])), (fa, .inr (1, [.ref fap, .ref faq])), (fap, .inr (3, [.ref fapn])), (fapn, .inl (cy 0, 6, .inl fu)), (faq, .inr (3, [.ref faqn])), (faqn, .inl (cy 0, 6, .inl fv))] H → va_D A [(ta, .inr (7, [.ref fa, .ref a_draft, .ref a_fence, .ref a_past, .ref a_slots, .ref a_slotKinds, .ref a_sheets, .ref a_speedX, .ref a_speedY, .ref a_leftward, .ref a_change, .ref a_table, .int fi])), (fa, .inr (1, [.ref fap, .ref faq])), (fap, .inr (3, [.ref fapn])), (fapn, .inl (cy 0, 6, .inl fu)), (faq, .inr (3, [.ref faqn])), (faqn, .inl (cy 0, 6, .inl fv))] → va_S A s.heap H locs → lv_has ls 4 [(0, .ref ta), (1, .int v4), (2, .int (nI ki - 6)), (3, .int (nI kj - 6))] → W p l e R s m args below meth c H locs 0 0 Q (F0 m 35 ls []) := by
                clear hP hD hS hl
                intro v4 H locs ls ev4
                rw [ev4]
                clear ev4
                intro hP hD hS hl
                refine lv_iinc (v := ((nI kj - 6) + 1)) (lv' := [(3, .int ((nI kj - 6) + 1)), (0, .ref ta), (1, .int (if (f_X1_isRest fu fv (nI ki - 6) (nI kj - 6)) = 0 then z1_14 else (z1_14 + 1))), (2, .int (nI ki - 6))]) hx hb dX7_rests_35 hl (k := 3) rfl (yk_incg _) (by decide) rfl (fun ls hl9 => ?_)
                replace hl := hl9
                clear hl9
                refine lv_goto (tgt := 14) hx hb dX7_rests_38 (by decide) ?_
                obtain ⟨n9, rfl⟩ : ∃ n9, n14 = n9 + 1 := ⟨n14 - 1, by omega⟩
                rw [yk_off kj 6] at hl
                exact ih14 n9 (kj + 1) (if (f_X1_isRest fu fv (nI ki - 6) (nI kj - 6)) = 0 then z1_14 else (z1_14 + 1)) _ _ _ (by omega) (by omega)  hV14 hP hD hS (lv_sub hl [1, 2, 3, 0] rfl)
              refine lv_if_eq (tgt := 35) hx hb dX7_rests_29 (by decide) (fun hc3 => ?_) (fun hc3 => ?_)
              · exact J5 _ _ _ _ ((if_pos hc3).symm) hP hD hS (lv_sub hl [0, 1, 2, 3] rfl)
              · refine lv_iinc (v := (z1_14 + 1)) (lv' := [(1, .int (z1_14 + 1)), (0, .ref ta), (2, .int (nI ki - 6)), (3, .int (nI kj - 6))]) hx hb dX7_rests_32 hl (k := 1) rfl (yk_incg _) (by decide) rfl (fun ls hl9 => ?_)
                replace hl := hl9
                clear hl9
                exact J5 _ _ _ _ ((if_neg hc3).symm) hP hD hS (lv_sub hl [1, 0, 2, 3] rfl)
        rw [show (-6 : Int32) = nI 0 - 6 from rfl] at hl
        exact L14 (13 + 1) 13 0 z1_5 _ _ _ (Nat.lt_succ_self _) (by omega)  rfl hP hD hS (lv_sub hl [1, 2, 3, 0] rfl)
  rw [show (-6 : Int32) = nI 0 - 6 from rfl] at hl
  exact L5 (13 + 1) 13 0 0 _ _ _ (Nat.lt_succ_self _) (by omega)  rfl hP hD hS (lv_sub hl [2, 1, 0] rfl)

theorem kX7_open_0 : Cond.fieldLink RX7 22 "FlowPlane" "fence" "LFlowPlane$Fence;" ∈ wsX7_open := by decide +kernel
theorem kX7_open_1 : Cond.fieldLink RX7 160 "FlowPlane$Fence" "count" "I" ∈ wsX7_open := by decide +kernel
theorem kX7_open_2 : Cond.fieldLink RX7 29 "FlowPlane" "past" "LFlowPlane$Past;" ∈ wsX7_open := by decide +kernel
theorem kX7_open_3 : Cond.fieldLink RX7 10 "FlowPlane" "flow" "LFlowPlane$Flow;" ∈ wsX7_open := by decide +kernel
theorem uX7_open_X7 : ∀ w ∈ u_ws RX7 TX7 13, w ∈ wsX7_open := by decide +kernel
theorem uX7_open_X0 : ∀ w ∈ u_ws RX0 TX0 3, w ∈ wsX7_open := by decide +kernel
def f_X7_open (fu : Nat → Int32) (fv : Nat → Int32) (xs : Nat → Int32) (ys : Nat → Int32) (n : Nat) (rw : Nat → Nat → Int32) (co : Nat) (la : Nat) : Int32 × Nat × Nat × Nat × (Nat → Nat → Int32) := ((nI n), 0, ((f_X2_remember rw co la fu fv xs ys n).1), ((f_X2_remember rw co la fu fv xs ys n).2.1), ((f_X2_remember rw co la fu fv xs ys n).2.2))
set_option maxHeartbeats 400000000 in
set_option maxRecDepth 100000 in
theorem c_X7_open (l : Launch) (D : va_G) (cy : Nat → ClassId) (ta : Nat) (fa : Nat) (fap : Nat) (fapn : Nat) (faq : Nat) (faqn : Nat) (ea : Nat) (eax : Nat) (eay : Nat) (ba : Nat) (bar : Nat) (baf : Nat → Nat) (a_draft : Nat) (a_slots : Nat) (a_slotKinds : Nat) (a_sheets : Nat) (a_speedX : Nat) (a_speedY : Nat) (a_leftward : Nat) (a_change : Nat) (a_table : Nat) (fu : Nat → Int32) (fv : Nat → Int32) (xs : Nat → Int32) (ys : Nat → Int32) (n : Nat) (rw : Nat → Nat → Int32) (co : Nat) (la : Nat) (fi : Int32) (hn : n ≤ 8) (hco : co ≤ 25) (hla : la < 25) : yk_Ci l D vwCl (yk_ty cy) yX7_open wsX7_open 2 41 [.ref ta] ([(ta, .inr (7, [.ref fa, .ref a_draft, .ref ea, .ref ba, .ref a_slots, .ref a_slotKinds, .ref a_sheets, .ref a_speedX, .ref a_speedY, .ref a_leftward, .ref a_change, .ref a_table, .int fi])), (fa, .inr (1, [.ref fap, .ref faq])), (fap, .inr (3, [.ref fapn])), (fapn, .inl (cy 0, 6, .inl fu)), (faq, .inr (3, [.ref faqn])), (faqn, .inl (cy 0, 6, .inl fv)), (ea, .inr (0, [.ref eax, .ref eay, .int (nI n)])), (eax, .inl (cy 0, 9, .inl xs)), (eay, .inl (cy 0, 9, .inl ys)), (ba, .inr (2, [.ref bar, .int (nI co), .int (nI la)])), (bar, .inl (cy 5, 25, .inr (.inr (.inr (.inr (fun i => if i < 25 then some (baf i) else none))))))] ++ yk_fam 25 baf (fun i => .inl (cy 0, 31, .inl (rw i)))) ((f_X7_open fu fv xs ys n rw co la).1) ([(ta, .inr (7, [.ref fa, .ref a_draft, .ref ea, .ref ba, .ref a_slots, .ref a_slotKinds, .ref a_sheets, .ref a_speedX, .ref a_speedY, .ref a_leftward, .ref a_change, .ref a_table, .int fi])), (fa, .inr (1, [.ref fap, .ref faq])), (fap, .inr (3, [.ref fapn])), (fapn, .inl (cy 0, 6, .inl fu)), (faq, .inr (3, [.ref faqn])), (faqn, .inl (cy 0, 6, .inl fv)), (ea, .inr (0, [.ref eax, .ref eay, .int (nI ((f_X7_open fu fv xs ys n rw co la).2.1))])), (eax, .inl (cy 0, 9, .inl xs)), (eay, .inl (cy 0, 9, .inl ys)), (ba, .inr (2, [.ref bar, .int (nI ((f_X7_open fu fv xs ys n rw co la).2.2.1)), .int (nI ((f_X7_open fu fv xs ys n rw co la).2.2.2.1))])), (bar, .inl (cy 5, 25, .inr (.inr (.inr (.inr (fun i => if i < 25 then some (baf i) else none))))))] ++ yk_fam 25 baf (fun i => .inl (cy 0, 31, .inl (((f_X7_open fu fv xs ys n rw co la).2.2.2.2) i)))) := by
  refine yk_eI (cc := cX7_open) (maxL := 2) (by decide) rfl (Nat.le_of_ble_eq_true rfl) rfl ?_
  intro p e R s m args below meth c A Q ls H locs hx hb hml hown hts hRf hRl hA hK hG hP hD hS hl hQ
  have hP : va_P D vwCl ([(ta, .inr (7, [.ref fa, .ref a_draft, .ref ea, .ref ba, .ref a_slots, .ref a_slotKinds, .ref a_sheets, .ref a_speedX, .ref a_speedY, .ref a_leftward, .ref a_change, .ref a_table, .int fi])), (fa, .inr (1, [.ref fap, .ref faq])), (fap, .inr (3, [.ref fapn])), (fapn, .inl (cy 0, 6, .inl fu)), (faq, .inr (3, [.ref faqn])), (faqn, .inl (cy 0, 6, .inl fv)), (ea, .inr (0, [.ref eax, .ref eay, .int (nI n)])), (eax, .inl (cy 0, 9, .inl xs)), (eay, .inl (cy 0, 9, .inl ys)), (ba, .inr (2, [.ref bar, .int (nI co), .int (nI la)])), (bar, .inl (cy 5, 25, .inr (.inr (.inr (.inr (fun i => if i < 25 then some (baf i) else none))))))] ++ yk_fam 25 baf (fun i => .inl (cy 0, 31, .inl (rw i)))) H := hP
  have hl : lv_has ls 2 [(0, .ref ta)] := hl
  have hown : s.vm.findClass RX7 = some m.cls := hown
  have hF : (f_X7_open fu fv xs ys n rw co la) = (f_X7_open fu fv xs ys n rw co la) := rfl
  refine lv_aload_n hx hb dX7_open_0 rfl (lv_at hl 0 rfl) ?_
  refine va_get (D := D) (ci := 7) (v := .ref ea) (C := RX7) (T := TX7) (N := 13) hx hb hts uX7_open_X7 hown hK hP 0 rfl rfl 2 (by decide) (hts _ kX7_open_0) (fun _ h9 => h9) rfl dX7_open_1 ?_
  refine va_get (D := D) (ci := 0) (v := .int (nI n)) (C := RX0) (T := TX0) (N := 3) hx hb hts uX7_open_X0 hown hK hP 6 rfl rfl 2 (by decide) (hts _ kX7_open_1) (fun _ h9 => h9) rfl dX7_open_4 ?_
  refine lv_istore_n (lv' := [(1, .int (nI n)), (0, .ref ta)]) hx hb dX7_open_7 rfl hl (by decide) rfl (fun ls hl9 => ?_)
  replace hl := hl9
  clear hl9
  refine lv_aload_n hx hb dX7_open_8 rfl (lv_at hl 1 rfl) ?_
  refine va_get (D := D) (ci := 7) (v := .ref ba) (C := RX7) (T := TX7) (N := 13) hx hb hts uX7_open_X7 hown hK hP 0 rfl rfl 3 (by decide) (hts _ kX7_open_2) (fun _ h9 => h9) rfl dX7_open_9 ?_
  refine lv_aload_n hx hb dX7_open_12 rfl (lv_at hl 1 rfl) ?_
  refine va_get (D := D) (ci := 7) (v := .ref fa) (C := RX7) (T := TX7) (N := 13) hx hb hts uX7_open_X7 hown hK hP 0 rfl rfl 0 (by decide) (hts _ kX7_open_3) (fun _ h9 => h9) rfl dX7_open_13 ?_
  refine lv_aload_n hx hb dX7_open_16 rfl (lv_at hl 1 rfl) ?_
  refine va_get (D := D) (ci := 7) (v := .ref ea) (C := RX7) (T := TX7) (N := 13) hx hb hts uX7_open_X7 hown hK hP 0 rfl rfl 2 (by decide) (hts _ kX7_open_0) (fun _ h9 => h9) rfl dX7_open_17 ?_
  refine yk_vT [9, 10, 1, 2, 3, 4, 5, 6, 7, 8] (va_runV (As := [.ref fa, .ref ea]) (rest := []) ⟨hx, hb, hml, hown, hts⟩ (c_X2_remember l D cy ba bar fa fap fapn faq faqn ea eax eay baf rw co la fu fv xs ys n hco hla hn H.size) (cwV 2 hts gX7_open_X2_remember rfl rfl rfl hv_X2_remember (yk_room hRf hRl rfl rfl)) (yk_pvT (q := (RX2, TX2, 3)) hG hA hS hK hP hD [9, 10, 1, 2, 3, 4, 5, 6, 7, 8] (by decide +kernel) rfl rfl rfl) rfl rfl hl.1 rfl (lv_room (Nat.le_of_ble_eq_true rfl)) dX7_open_20 ⟨Nat.zero_le _, Nat.zero_le _⟩) hP hD hS hA rfl (Eq.trans (b := [ba, bar, fa, fap, fapn, faq, faqn, ea, eax, eay]) rfl rfl) (yk_ff _ _ _ _) (fun H locs hP9 hD9 hS9 => ?_)
  replace hP : va_P D vwCl ([(ta, .inr (7, [.ref fa, .ref a_draft, .ref ea, .ref ba, .ref a_slots, .ref a_slotKinds, .ref a_sheets, .ref a_speedX, .ref a_speedY, .ref a_leftward, .ref a_change, .ref a_table, .int fi])), (fa, .inr (1, [.ref fap, .ref faq])), (fap, .inr (3, [.ref fapn])), (fapn, .inl (cy 0, 6, .inl fu)), (faq, .inr (3, [.ref faqn])), (faqn, .inl (cy 0, 6, .inl fv)), (ea, .inr (0, [.ref eax, .ref eay, .int (nI n)])), (eax, .inl (cy 0, 9, .inl xs)), (eay, .inl (cy 0, 9, .inl ys)), (ba, .inr (2, [.ref bar, .int (nI ((f_X2_remember rw co la fu fv xs ys n).1)), .int (nI ((f_X2_remember rw co la fu fv xs ys n).2.1))])), (bar, .inl (cy 5, 25, .inr (.inr (.inr (.inr (fun i => if i < 25 then some (baf i) else none))))))] ++ yk_fam 25 baf (fun i => .inl (cy 0, 31, .inl (((f_X2_remember rw co la fu fv xs ys n).2.2) i)))) H := hP9
  replace hD : va_D A ([(ta, .inr (7, [.ref fa, .ref a_draft, .ref ea, .ref ba, .ref a_slots, .ref a_slotKinds, .ref a_sheets, .ref a_speedX, .ref a_speedY, .ref a_leftward, .ref a_change, .ref a_table, .int fi])), (fa, .inr (1, [.ref fap, .ref faq])), (fap, .inr (3, [.ref fapn])), (fapn, .inl (cy 0, 6, .inl fu)), (faq, .inr (3, [.ref faqn])), (faqn, .inl (cy 0, 6, .inl fv)), (ea, .inr (0, [.ref eax, .ref eay, .int (nI n)])), (eax, .inl (cy 0, 9, .inl xs)), (eay, .inl (cy 0, 9, .inl ys)), (ba, .inr (2, [.ref bar, .int (nI ((f_X2_remember rw co la fu fv xs ys n).1)), .int (nI ((f_X2_remember rw co la fu fv xs ys n).2.1))])), (bar, .inl (cy 5, 25, .inr (.inr (.inr (.inr (fun i => if i < 25 then some (baf i) else none))))))] ++ yk_fam 25 baf (fun i => .inl (cy 0, 31, .inl (((f_X2_remember rw co la fu fv xs ys n).2.2) i)))) := hD9
  replace hS := hS9
  clear hP9 hD9 hS9
  refine lv_aload_n hx hb dX7_open_23 rfl (lv_at hl 1 rfl) ?_
  refine va_get (D := D) (ci := 7) (v := .ref ea) (C := RX7) (T := TX7) (N := 13) hx hb hts uX7_open_X7 hown hK hP 0 rfl rfl 2 (by decide) (hts _ kX7_open_0) (fun _ h9 => h9) rfl dX7_open_24 ?_
  refine lv_iconst (v := 0) hx hb dX7_open_27 (by decide) ?_
  refine va_put (D := D) (ci := 0) (v := .int 0) (ty := .int) (C := RX0) (T := TX0) (N := 3) hx hb hts uX7_open_X0 tyX0 tyX0_ok nmX0 hown hK hP hD hS 6 rfl rfl 2 (by decide) (hts _ kX7_open_1) (fun _ h9 => h9) rfl (by decide +kernel) (yk_ni _) (yk_fi _) (Nat.le_of_ble_eq_true rfl) dX7_open_28 (fun H locs hP9 hD9 hS9 => ?_)
  replace hP : va_P D vwCl ([(ta, .inr (7, [.ref fa, .ref a_draft, .ref ea, .ref ba, .ref a_slots, .ref a_slotKinds, .ref a_sheets, .ref a_speedX, .ref a_speedY, .ref a_leftward, .ref a_change, .ref a_table, .int fi])), (fa, .inr (1, [.ref fap, .ref faq])), (fap, .inr (3, [.ref fapn])), (fapn, .inl (cy 0, 6, .inl fu)), (faq, .inr (3, [.ref faqn])), (faqn, .inl (cy 0, 6, .inl fv)), (ea, .inr (0, [.ref eax, .ref eay, .int 0])), (eax, .inl (cy 0, 9, .inl xs)), (eay, .inl (cy 0, 9, .inl ys)), (ba, .inr (2, [.ref bar, .int (nI ((f_X2_remember rw co la fu fv xs ys n).1)), .int (nI ((f_X2_remember rw co la fu fv xs ys n).2.1))])), (bar, .inl (cy 5, 25, .inr (.inr (.inr (.inr (fun i => if i < 25 then some (baf i) else none))))))] ++ yk_fam 25 baf (fun i => .inl (cy 0, 31, .inl (((f_X2_remember rw co la fu fv xs ys n).2.2) i)))) H := hP9
  replace hD : va_D A ([(ta, .inr (7, [.ref fa, .ref a_draft, .ref ea, .ref ba, .ref a_slots, .ref a_slotKinds, .ref a_sheets, .ref a_speedX, .ref a_speedY, .ref a_leftward, .ref a_change, .ref a_table, .int fi])), (fa, .inr (1, [.ref fap, .ref faq])), (fap, .inr (3, [.ref fapn])), (fapn, .inl (cy 0, 6, .inl fu)), (faq, .inr (3, [.ref faqn])), (faqn, .inl (cy 0, 6, .inl fv)), (ea, .inr (0, [.ref eax, .ref eay, .int 0])), (eax, .inl (cy 0, 9, .inl xs)), (eay, .inl (cy 0, 9, .inl ys)), (ba, .inr (2, [.ref bar, .int (nI ((f_X2_remember rw co la fu fv xs ys n).1)), .int (nI ((f_X2_remember rw co la fu fv xs ys n).2.1))])), (bar, .inl (cy 5, 25, .inr (.inr (.inr (.inr (fun i => if i < 25 then some (baf i) else none))))))] ++ yk_fam 25 baf (fun i => .inl (cy 0, 31, .inl (((f_X2_remember rw co la fu fv xs ys n).2.2) i)))) := hD9
  replace hS := hS9
  clear hP9 hD9 hS9
  refine lv_iload_n hx hb dX7_open_31 rfl (lv_at hl 0 rfl) ?_
  have hF : f_X7_open fu fv xs ys n rw co la = ((nI n), 0, ((f_X2_remember rw co la fu fv xs ys n).1), ((f_X2_remember rw co la fu fv xs ys n).2.1), ((f_X2_remember rw co la fu fv xs ys n).2.2)) := hF
  have hf0 := yk_fst hF
  have hg0 := yk_snd hF
  have hf1 := yk_fst hg0
  have hg1 := yk_snd hg0
  have hf2 := yk_fst hg1
  have hg2 := yk_snd hg1
  have hf3 := yk_fst hg2
  have hg3 := yk_snd hg2
  rw [hf0, hf1, hf2, hf3, hg3] at hQ
  exact hQ _ _ _ _ dX7_open_32 hP hS

theorem kX7_simple_0 : Cond.fieldLink RX7 22 "FlowPlane" "fence" "LFlowPlane$Fence;" ∈ wsX7_simple := by decide +kernel
theorem uX7_simple_X7 : ∀ w ∈ u_ws RX7 TX7 13, w ∈ wsX7_simple := by decide +kernel
def f_X7_simple (xs : Nat → Int32) (ys : Nat → Int32) (n : Nat) (bq : Int32) : Int32 := (if ((if bq = 0 then (f_X0_isSimple xs ys n) else (f_X0_isLeft xs ys n)) : Int32) = 0 then 0 else 1)
set_option maxHeartbeats 400000000 in
set_option maxRecDepth 100000 in
theorem c_X7_simple (l : Launch) (D : va_G) (cy : Nat → ClassId) (ta : Nat) (ea : Nat) (eax : Nat) (eay : Nat) (a_flow : Nat) (a_draft : Nat) (a_past : Nat) (a_slots : Nat) (a_slotKinds : Nat) (a_sheets : Nat) (a_speedX : Nat) (a_speedY : Nat) (a_leftward : Nat) (a_change : Nat) (a_table : Nat) (xs : Nat → Int32) (ys : Nat → Int32) (n : Nat) (fi : Int32) (bq : Int32) (hn : n ≤ 8) : yk_Ci l D vwCl (yk_ty cy) yX7_simple wsX7_simple 6 132 [.ref ta, .int bq] [(ta, .inr (7, [.ref a_flow, .ref a_draft, .ref ea, .ref a_past, .ref a_slots, .ref a_slotKinds, .ref a_sheets, .ref a_speedX, .ref a_speedY, .ref a_leftward, .ref a_change, .ref a_table, .int fi])), (ea, .inr (0, [.ref eax, .ref eay, .int (nI n)])), (eax, .inl (cy 0, 9, .inl xs)), (eay, .inl (cy 0, 9, .inl ys))] (f_X7_simple xs ys n bq) [(ta, .inr (7, [.ref a_flow, .ref a_draft, .ref ea, .ref a_past, .ref a_slots, .ref a_slotKinds, .ref a_sheets, .ref a_speedX, .ref a_speedY, .ref a_leftward, .ref a_change, .ref a_table, .int fi])), (ea, .inr (0, [.ref eax, .ref eay, .int (nI n)])), (eax, .inl (cy 0, 9, .inl xs)), (eay, .inl (cy 0, 9, .inl ys))] := by
  refine yk_eI (cc := cX7_simple) (maxL := 3) (by decide) rfl (Nat.le_of_ble_eq_true rfl) rfl ?_
  intro p e R s m args below meth c A Q ls H locs hx hb hml hown hts hRf hRl hA hK hG hP hD hS hl hQ
  have hP : va_P D vwCl [(ta, .inr (7, [.ref a_flow, .ref a_draft, .ref ea, .ref a_past, .ref a_slots, .ref a_slotKinds, .ref a_sheets, .ref a_speedX, .ref a_speedY, .ref a_leftward, .ref a_change, .ref a_table, .int fi])), (ea, .inr (0, [.ref eax, .ref eay, .int (nI n)])), (eax, .inl (cy 0, 9, .inl xs)), (eay, .inl (cy 0, 9, .inl ys))] H := hP
  have hl : lv_has ls 3 [(0, .ref ta), (1, .int bq)] := hl
  have hown : s.vm.findClass RX7 = some m.cls := hown
  have hF : (f_X7_simple xs ys n bq) = (f_X7_simple xs ys n bq) := rfl
  refine lv_iload_n hx hb dX7_simple_0 rfl (lv_at hl 1 rfl) ?_
  have J3 : ∀ (v2 : Int32) (H : Heap) (locs : List Loc) (ls : Array Slot), v2 = (if bq = 0 then (f_X0_isSimple xs ys n) else (f_X0_isLeft xs ys n)) → va_P D vwCl [(ta, .inr (7, [.ref a_flow, .ref a_draft, .ref ea, .ref a_past, .ref a_slots, .ref a_slotKinds, .ref a_sheets, .ref a_speedX, .ref a_speedY, .ref a_leftward, .ref a_change, .ref a_table, .int fi])), (ea, .inr (0, [.ref eax, .ref eay, .int (nI n)])), (eax, .inl (cy 0, 9, .inl xs)), (eay, .inl (cy 0, 9, .inl ys))] H → va_D A [(ta, .inr (7, [.ref a_flow, .ref a_draft, .ref ea, .ref a_past, .ref a_slots, .ref a_slotKinds, .ref a_sheets, .ref a_speedX, .ref a_speedY, .ref a_leftward, .ref a_change, .ref a_table, .int fi])), (ea, .inr (0, [.ref eax, .ref eay, .int (nI n)])), (eax, .inl (cy 0, 9, .inl xs)), (eay, .inl (cy 0, 9, .inl ys))] → va_S A s.heap H locs → lv_has ls 3 [(0, .ref ta), (1, .int bq)] → W p l e R s m args below meth c H locs 0 0 Q (F0 m 21 ls [.int v2]) := by
    clear hP hD hS hl
    intro v2 H locs ls ev2
    rw [ev2]
    clear ev2
    intro hP hD hS hl
    refine lv_istore_n (lv' := [(2, .int (if bq = 0 then (f_X0_isSimple xs ys n) else (f_X0_isLeft xs ys n))), (0, .ref ta), (1, .int bq)]) hx hb dX7_simple_21 rfl hl (by decide) rfl (fun ls hl9 => ?_)
    replace hl := hl9
    clear hl9
    refine lv_iload_n hx hb dX7_simple_22 rfl (lv_at hl 0 rfl) ?_
    have J6 : ∀ (v5 : Int32) (H : Heap) (locs : List Loc) (ls : Array Slot), v5 = (if ((if bq = 0 then (f_X0_isSimple xs ys n) else (f_X0_isLeft xs ys n)) : Int32) = 0 then 0 else 1) → va_P D vwCl [(ta, .inr (7, [.ref a_flow, .ref a_draft, .ref ea, .ref a_past, .ref a_slots, .ref a_slotKinds, .ref a_sheets, .ref a_speedX, .ref a_speedY, .ref a_leftward, .ref a_change, .ref a_table, .int fi])), (ea, .inr (0, [.ref eax, .ref eay, .int (nI n)])), (eax, .inl (cy 0, 9, .inl xs)), (eay, .inl (cy 0, 9, .inl ys))] H → va_D A [(ta, .inr (7, [.ref a_flow, .ref a_draft, .ref ea, .ref a_past, .ref a_slots, .ref a_slotKinds, .ref a_sheets, .ref a_speedX, .ref a_speedY, .ref a_leftward, .ref a_change, .ref a_table, .int fi])), (ea, .inr (0, [.ref eax, .ref eay, .int (nI n)])), (eax, .inl (cy 0, 9, .inl xs)), (eay, .inl (cy 0, 9, .inl ys))] → va_S A s.heap H locs → lv_has ls 3 [(0, .ref ta), (1, .int bq), (2, .int (if bq = 0 then (f_X0_isSimple xs ys n) else (f_X0_isLeft xs ys n)))] → W p l e R s m args below meth c H locs 0 0 Q (F0 m 31 ls [.int v5]) := by
      clear hP hD hS hl
      intro v5 H locs ls ev5
      rw [ev5]
      clear ev5
      intro hP hD hS hl
      have hF : f_X7_simple xs ys n bq = (if ((if bq = 0 then (f_X0_isSimple xs ys n) else (f_X0_isLeft xs ys n)) : Int32) = 0 then 0 else 1) := hF
      rw [hF] at hQ
      exact hQ _ _ _ _ dX7_simple_31 hP hS
    refine lv_if_eq (tgt := 30) hx hb dX7_simple_23 (by decide) (fun hc4 => ?_) (fun hc4 => ?_)
    · refine lv_iconst (v := 0) hx hb dX7_simple_30 (by decide) ?_
      exact J6 _ _ _ _ ((if_pos hc4).symm) hP hD hS (lv_sub hl [1, 2, 0] rfl)
    · refine lv_iconst (v := 1) hx hb dX7_simple_26 (by decide) ?_
      refine lv_goto (tgt := 31) hx hb dX7_simple_27 (by decide) ?_
      exact J6 _ _ _ _ ((if_neg hc4).symm) hP hD hS (lv_sub hl [1, 2, 0] rfl)
  refine lv_if_eq (tgt := 14) hx hb dX7_simple_1 (by decide) (fun hc1 => ?_) (fun hc1 => ?_)
  · refine lv_aload_n hx hb dX7_simple_14 rfl (lv_at hl 0 rfl) ?_
    refine va_get (D := D) (ci := 7) (v := .ref ea) (C := RX7) (T := TX7) (N := 13) hx hb hts uX7_simple_X7 hown hK hP 0 rfl rfl 2 (by decide) (hts _ kX7_simple_0) (fun _ h9 => h9) rfl dX7_simple_15 ?_
    refine yk_i [1, 2, 3] (va_runV (As := []) (rest := []) ⟨hx, hb, hml, hown, hts⟩ (c_X0_isSimple l D cy ea eax eay xs ys n hn H.size) (cwV 0 hts gX7_simple_X0_isSimple rfl rfl rfl hv_X0_isSimple (yk_room hRf hRl rfl rfl)) (yk_pv (q := (RX0, TX0, 3)) hG hA hS hK hP hD [1, 2, 3] (by decide +kernel) rfl rfl rfl) rfl rfl hl.1 rfl (lv_room (Nat.le_of_ble_eq_true rfl)) dX7_simple_18 ⟨Nat.zero_le _, Nat.zero_le _⟩) hP hD hS hA rfl (Eq.trans (b := [ea, eax, eay]) rfl rfl) (fun H locs hP9 hD9 hS9 => ?_)
    replace hP : va_P D vwCl [(ta, .inr (7, [.ref a_flow, .ref a_draft, .ref ea, .ref a_past, .ref a_slots, .ref a_slotKinds, .ref a_sheets, .ref a_speedX, .ref a_speedY, .ref a_leftward, .ref a_change, .ref a_table, .int fi])), (ea, .inr (0, [.ref eax, .ref eay, .int (nI n)])), (eax, .inl (cy 0, 9, .inl xs)), (eay, .inl (cy 0, 9, .inl ys))] H := hP9
    replace hD : va_D A [(ta, .inr (7, [.ref a_flow, .ref a_draft, .ref ea, .ref a_past, .ref a_slots, .ref a_slotKinds, .ref a_sheets, .ref a_speedX, .ref a_speedY, .ref a_leftward, .ref a_change, .ref a_table, .int fi])), (ea, .inr (0, [.ref eax, .ref eay, .int (nI n)])), (eax, .inl (cy 0, 9, .inl xs)), (eay, .inl (cy 0, 9, .inl ys))] := hD9
    replace hS := hS9
    clear hP9 hD9 hS9
    exact J3 _ _ _ _ ((if_pos hc1).symm) hP hD hS (lv_sub hl [0, 1] rfl)
  · refine lv_aload_n hx hb dX7_simple_4 rfl (lv_at hl 0 rfl) ?_
    refine va_get (D := D) (ci := 7) (v := .ref ea) (C := RX7) (T := TX7) (N := 13) hx hb hts uX7_simple_X7 hown hK hP 0 rfl rfl 2 (by decide) (hts _ kX7_simple_0) (fun _ h9 => h9) rfl dX7_simple_5 ?_
    refine yk_i [1, 2, 3] (va_runV (As := []) (rest := []) ⟨hx, hb, hml, hown, hts⟩ (c_X0_isLeft l D cy ea eax eay xs ys n hn H.size) (cwV 0 hts gX7_simple_X0_isLeft rfl rfl rfl hv_X0_isLeft (yk_room hRf hRl rfl rfl)) (yk_pv (q := (RX0, TX0, 3)) hG hA hS hK hP hD [1, 2, 3] (by decide +kernel) rfl rfl rfl) rfl rfl hl.1 rfl (lv_room (Nat.le_of_ble_eq_true rfl)) dX7_simple_8 ⟨Nat.zero_le _, Nat.zero_le _⟩) hP hD hS hA rfl (Eq.trans (b := [ea, eax, eay]) rfl rfl) (fun H locs hP9 hD9 hS9 => ?_)
    replace hP : va_P D vwCl [(ta, .inr (7, [.ref a_flow, .ref a_draft, .ref ea, .ref a_past, .ref a_slots, .ref a_slotKinds, .ref a_sheets, .ref a_speedX, .ref a_speedY, .ref a_leftward, .ref a_change, .ref a_table, .int fi])), (ea, .inr (0, [.ref eax, .ref eay, .int (nI n)])), (eax, .inl (cy 0, 9, .inl xs)), (eay, .inl (cy 0, 9, .inl ys))] H := hP9
    replace hD : va_D A [(ta, .inr (7, [.ref a_flow, .ref a_draft, .ref ea, .ref a_past, .ref a_slots, .ref a_slotKinds, .ref a_sheets, .ref a_speedX, .ref a_speedY, .ref a_leftward, .ref a_change, .ref a_table, .int fi])), (ea, .inr (0, [.ref eax, .ref eay, .int (nI n)])), (eax, .inl (cy 0, 9, .inl xs)), (eay, .inl (cy 0, 9, .inl ys))] := hD9
    replace hS := hS9
    clear hP9 hD9 hS9
    refine lv_goto (tgt := 21) hx hb dX7_simple_11 (by decide) ?_
    exact J3 _ _ _ _ ((if_neg hc1).symm) hP hD hS (lv_sub hl [0, 1] rfl)

theorem kX7_area_0 : Cond.fieldLink RX7 22 "FlowPlane" "fence" "LFlowPlane$Fence;" ∈ wsX7_area := by decide +kernel
theorem uX7_area_X7 : ∀ w ∈ u_ws RX7 TX7 13, w ∈ wsX7_area := by decide +kernel
def f_X7_area (xs : Nat → Int32) (ys : Nat → Int32) (n : Nat) : Int32 := (f_X0_doubleArea xs ys n)
set_option maxHeartbeats 400000000 in
set_option maxRecDepth 100000 in
theorem c_X7_area (l : Launch) (D : va_G) (cy : Nat → ClassId) (ta : Nat) (ea : Nat) (eax : Nat) (eay : Nat) (a_flow : Nat) (a_draft : Nat) (a_past : Nat) (a_slots : Nat) (a_slotKinds : Nat) (a_sheets : Nat) (a_speedX : Nat) (a_speedY : Nat) (a_leftward : Nat) (a_change : Nat) (a_table : Nat) (xs : Nat → Int32) (ys : Nat → Int32) (n : Nat) (fi : Int32) (hn : n ≤ 8) : yk_Ci l D vwCl (yk_ty cy) yX7_area wsX7_area 1 22 [.ref ta] [(ta, .inr (7, [.ref a_flow, .ref a_draft, .ref ea, .ref a_past, .ref a_slots, .ref a_slotKinds, .ref a_sheets, .ref a_speedX, .ref a_speedY, .ref a_leftward, .ref a_change, .ref a_table, .int fi])), (ea, .inr (0, [.ref eax, .ref eay, .int (nI n)])), (eax, .inl (cy 0, 9, .inl xs)), (eay, .inl (cy 0, 9, .inl ys))] (f_X7_area xs ys n) [(ta, .inr (7, [.ref a_flow, .ref a_draft, .ref ea, .ref a_past, .ref a_slots, .ref a_slotKinds, .ref a_sheets, .ref a_speedX, .ref a_speedY, .ref a_leftward, .ref a_change, .ref a_table, .int fi])), (ea, .inr (0, [.ref eax, .ref eay, .int (nI n)])), (eax, .inl (cy 0, 9, .inl xs)), (eay, .inl (cy 0, 9, .inl ys))] := by
  refine yk_eI (cc := cX7_area) (maxL := 1) (by decide) rfl (Nat.le_of_ble_eq_true rfl) rfl ?_
  intro p e R s m args below meth c A Q ls H locs hx hb hml hown hts hRf hRl hA hK hG hP hD hS hl hQ
  have hP : va_P D vwCl [(ta, .inr (7, [.ref a_flow, .ref a_draft, .ref ea, .ref a_past, .ref a_slots, .ref a_slotKinds, .ref a_sheets, .ref a_speedX, .ref a_speedY, .ref a_leftward, .ref a_change, .ref a_table, .int fi])), (ea, .inr (0, [.ref eax, .ref eay, .int (nI n)])), (eax, .inl (cy 0, 9, .inl xs)), (eay, .inl (cy 0, 9, .inl ys))] H := hP
  have hl : lv_has ls 1 [(0, .ref ta)] := hl
  have hown : s.vm.findClass RX7 = some m.cls := hown
  have hF : (f_X7_area xs ys n) = (f_X7_area xs ys n) := rfl
  refine lv_aload_n hx hb dX7_area_0 rfl (lv_at hl 0 rfl) ?_
  refine va_get (D := D) (ci := 7) (v := .ref ea) (C := RX7) (T := TX7) (N := 13) hx hb hts uX7_area_X7 hown hK hP 0 rfl rfl 2 (by decide) (hts _ kX7_area_0) (fun _ h9 => h9) rfl dX7_area_1 ?_
  refine yk_i [1, 2, 3] (va_runV (As := []) (rest := []) ⟨hx, hb, hml, hown, hts⟩ (c_X0_doubleArea l D cy ea eax eay xs ys n hn H.size) (cwV 0 hts gX7_area_X0_doubleArea rfl rfl rfl hv_X0_doubleArea (yk_room hRf hRl rfl rfl)) (yk_pv (q := (RX0, TX0, 3)) hG hA hS hK hP hD [1, 2, 3] (by decide +kernel) rfl rfl rfl) rfl rfl hl.1 rfl (lv_room (Nat.le_of_ble_eq_true rfl)) dX7_area_4 ⟨Nat.zero_le _, Nat.zero_le _⟩) hP hD hS hA rfl (Eq.trans (b := [ea, eax, eay]) rfl rfl) (fun H locs hP9 hD9 hS9 => ?_)
  replace hP : va_P D vwCl [(ta, .inr (7, [.ref a_flow, .ref a_draft, .ref ea, .ref a_past, .ref a_slots, .ref a_slotKinds, .ref a_sheets, .ref a_speedX, .ref a_speedY, .ref a_leftward, .ref a_change, .ref a_table, .int fi])), (ea, .inr (0, [.ref eax, .ref eay, .int (nI n)])), (eax, .inl (cy 0, 9, .inl xs)), (eay, .inl (cy 0, 9, .inl ys))] H := hP9
  replace hD : va_D A [(ta, .inr (7, [.ref a_flow, .ref a_draft, .ref ea, .ref a_past, .ref a_slots, .ref a_slotKinds, .ref a_sheets, .ref a_speedX, .ref a_speedY, .ref a_leftward, .ref a_change, .ref a_table, .int fi])), (ea, .inr (0, [.ref eax, .ref eay, .int (nI n)])), (eax, .inl (cy 0, 9, .inl xs)), (eay, .inl (cy 0, 9, .inl ys))] := hD9
  replace hS := hS9
  clear hP9 hD9 hS9
  have hF : f_X7_area xs ys n = (f_X0_doubleArea xs ys n) := hF
  rw [hF] at hQ
  exact hQ _ _ _ _ dX7_area_7 hP hS
