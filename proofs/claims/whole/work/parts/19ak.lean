theorem hv_X1_isRest : yX1_isRest.cls = RX1 ∧ yX1_isRest.cls ≠ "java/lang/invoke/MethodHandle" ∧ yX1_isRest.cls ≠ "java/lang/invoke/VarHandle" ∧ (parseMethodDescriptor yX1_isRest.desc).map (fun d => d.parameters.length) = some 2 := by decide +kernel
theorem hs_X1_isRest : yX1_isRest.cls ≠ "java/lang/invoke/MethodHandle" ∧ yX1_isRest.cls ≠ "java/lang/invoke/VarHandle" ∧ (parseMethodDescriptor yX1_isRest.desc).map (fun d => d.parameters.length) = some 2 := by decide +kernel
theorem hv_X1_sortAt : yX1_sortAt.cls = RX1 ∧ yX1_sortAt.cls ≠ "java/lang/invoke/MethodHandle" ∧ yX1_sortAt.cls ≠ "java/lang/invoke/VarHandle" ∧ (parseMethodDescriptor yX1_sortAt.desc).map (fun d => d.parameters.length) = some 2 := by decide +kernel
theorem hs_X1_sortAt : yX1_sortAt.cls ≠ "java/lang/invoke/MethodHandle" ∧ yX1_sortAt.cls ≠ "java/lang/invoke/VarHandle" ∧ (parseMethodDescriptor yX1_sortAt.desc).map (fun d => d.parameters.length) = some 2 := by decide +kernel
theorem kX7_rest_0 : Cond.constant RX7 146 (-1000006) ∈ wsX7_rest := by decide +kernel
theorem kX7_rest_1 : Cond.fieldLink RX7 10 "FlowPlane" "flow" "LFlowPlane$Flow;" ∈ wsX7_rest := by decide +kernel
theorem uX7_rest_X7 : ∀ w ∈ u_ws RX7 TX7 13, w ∈ wsX7_rest := by decide +kernel
def l_X7_rest_17 (fu : Nat → Int32) (fv : Nat → Int32) (fi : Int32) (px : Int32) (bq : Int32) (ki : Nat) (z3_6 : Int32) (kc : Nat → Int32 → Int32 × Int32) : Nat → Nat → Int32 → Int32 × Int32
  | 0, kj, z3_17 => (0, fi)
  | fu_X7_rest_17 + 1, kj, z3_17 => (if 6 < (nI kj - 6) then (kc (ki + 1) z3_17) else (if (f_X1_isRest fu fv (nI ki - 6) (nI kj - 6)) = 0 then (l_X7_rest_17 fu fv fi px bq ki z3_6 kc fu_X7_rest_17 (kj + 1) z3_17) else (if z3_17 = px then ((if bq = 0 then (nI ki - 6) else (nI kj - 6)), fi) else (l_X7_rest_17 fu fv fi px bq ki z3_6 kc fu_X7_rest_17 (kj + 1) (z3_17 + 1)))))
def l_X7_rest_6 (fu : Nat → Int32) (fv : Nat → Int32) (fi : Int32) (px : Int32) (bq : Int32) : Nat → Nat → Int32 → Int32 × Int32
  | 0, ki, z3_6 => (0, fi)
  | fu_X7_rest_6 + 1, ki, z3_6 => (if 6 < (nI ki - 6) then (((f_X7_finding fi (-1000006)).1), ((f_X7_finding fi (-1000006)).2)) else (l_X7_rest_17 fu fv fi px bq ki z3_6 (fun ki' z3_6' => l_X7_rest_6 fu fv fi px bq fu_X7_rest_6 (ki') (z3_6')) (13 + 1) 0 z3_6))
def f_X7_rest (fu : Nat → Int32) (fv : Nat → Int32) (fi : Int32) (px : Int32) (bq : Int32) : Int32 × Int32 := (l_X7_rest_6 fu fv fi px bq (13 + 1) 0 0)
set_option maxHeartbeats 400000000 in
set_option maxRecDepth 100000 in
theorem c_X7_rest (l : Launch) (D : va_G) (cy : Nat → ClassId) (ta : Nat) (fa : Nat) (fap : Nat) (fapn : Nat) (faq : Nat) (faqn : Nat) (a_draft : Nat) (a_fence : Nat) (a_past : Nat) (a_slots : Nat) (a_slotKinds : Nat) (a_sheets : Nat) (a_speedX : Nat) (a_speedY : Nat) (a_leftward : Nat) (a_change : Nat) (a_table : Nat) (fu : Nat → Int32) (fv : Nat → Int32) (fi : Int32) (px : Int32) (bq : Int32) : yk_Ci l D vwCl (yk_ty cy) yX7_rest wsX7_rest 3 66 [.ref ta, .int px, .int bq] [(ta, .inr (7, [.ref fa, .ref a_draft, .ref a_fence, .ref a_past, .ref a_slots, .ref a_slotKinds, .ref a_sheets, .ref a_speedX, .ref a_speedY, .ref a_leftward, .ref a_change, .ref a_table, .int fi])), (fa, .inr (1, [.ref fap, .ref faq])), (fap, .inr (3, [.ref fapn])), (fapn, .inl (cy 0, 6, .inl fu)), (faq, .inr (3, [.ref faqn])), (faqn, .inl (cy 0, 6, .inl fv))] ((f_X7_rest fu fv fi px bq).1) [(ta, .inr (7, [.ref fa, .ref a_draft, .ref a_fence, .ref a_past, .ref a_slots, .ref a_slotKinds, .ref a_sheets, .ref a_speedX, .ref a_speedY, .ref a_leftward, .ref a_change, .ref a_table, .int ((f_X7_rest fu fv fi px bq).2)])), (fa, .inr (1, [.ref fap, .ref faq])), (fap, .inr (3, [.ref fapn])), (fapn, .inl (cy 0, 6, .inl fu)), (faq, .inr (3, [.ref faqn])), (faqn, .inl (cy 0, 6, .inl fv))] := by
  refine yk_eI (cc := cX7_rest) (maxL := 6) (by decide) rfl (Nat.le_of_ble_eq_true rfl) rfl ?_
  intro p e R s m args below meth c A Q ls H locs hx hb hml hown hts hRf hRl hA hK hG hP hD hS hl hQ
  have hP : va_P D vwCl [(ta, .inr (7, [.ref fa, .ref a_draft, .ref a_fence, .ref a_past, .ref a_slots, .ref a_slotKinds, .ref a_sheets, .ref a_speedX, .ref a_speedY, .ref a_leftward, .ref a_change, .ref a_table, .int fi])), (fa, .inr (1, [.ref fap, .ref faq])), (fap, .inr (3, [.ref fapn])), (fapn, .inl (cy 0, 6, .inl fu)), (faq, .inr (3, [.ref faqn])), (faqn, .inl (cy 0, 6, .inl fv))] H := hP
  have hl : lv_has ls 6 [(0, .ref ta), (1, .int px), (2, .int bq)] := hl
  have hown : s.vm.findClass RX7 = some m.cls := hown
  have hF : (f_X7_rest fu fv fi px bq) = (f_X7_rest fu fv fi px bq) := rfl
  refine lv_iconst (v := 0) hx hb dX7_rest_0 (by decide) ?_
  refine lv_istore_n (lv' := [(3, .int 0), (0, .ref ta), (1, .int px), (2, .int bq)]) hx hb dX7_rest_1 rfl hl (by decide) rfl (fun ls hl9 => ?_)
  replace hl := hl9
  clear hl9
  refine lv_bipush (v := (-6)) hx hb dX7_rest_2 (by decide) ?_
  refine lv_istore (lv' := [(4, .int (-6)), (3, .int 0), (0, .ref ta), (1, .int px), (2, .int bq)]) hx hb dX7_rest_4 hl (by decide) rfl (fun ls hl9 => ?_)
  replace hl := hl9
  clear hl9
  have L6 : ∀ (M9 n6 ki : Nat) (z3_6 : Int32) (H : Heap) (locs : List Loc) (ls : Array Slot), n6 < M9 → ki + n6 = 13 → f_X7_rest fu fv fi px bq = (l_X7_rest_6 fu fv fi px bq (n6 + 1) ki z3_6) → va_P D vwCl [(ta, .inr (7, [.ref fa, .ref a_draft, .ref a_fence, .ref a_past, .ref a_slots, .ref a_slotKinds, .ref a_sheets, .ref a_speedX, .ref a_speedY, .ref a_leftward, .ref a_change, .ref a_table, .int fi])), (fa, .inr (1, [.ref fap, .ref faq])), (fap, .inr (3, [.ref fapn])), (fapn, .inl (cy 0, 6, .inl fu)), (faq, .inr (3, [.ref faqn])), (faqn, .inl (cy 0, 6, .inl fv))] H → va_D A [(ta, .inr (7, [.ref fa, .ref a_draft, .ref a_fence, .ref a_past, .ref a_slots, .ref a_slotKinds, .ref a_sheets, .ref a_speedX, .ref a_speedY, .ref a_leftward, .ref a_change, .ref a_table, .int fi])), (fa, .inr (1, [.ref fap, .ref faq])), (fap, .inr (3, [.ref fapn])), (fapn, .inl (cy 0, 6, .inl fu)), (faq, .inr (3, [.ref faqn])), (faqn, .inl (cy 0, 6, .inl fv))] → va_S A s.heap H locs → lv_has ls 6 [(0, .ref ta), (1, .int px), (2, .int bq), (3, .int z3_6), (4, .int (nI ki - 6))] → W p l e R s m args below meth c H locs 0 0 Q (F0 m 6 ls []) := by
    clear hP hD hS hl hF
    intro M9
    induction M9 with
    | zero => intro n6 ki _ _ _ _ hn; exact absurd hn (Nat.not_lt_zero _)
    | succ M9 ih6 =>
      intro n6 ki z3_6 H locs ls hn6 hk6 hF hP hD hS hl
      refine lv_iload hx hb dX7_rest_6 (lv_at hl 4 rfl) ?_
      refine lv_bipush (v := 6) hx hb dX7_rest_8 (by decide) ?_
      refine lv_icmp_gt (tgt := 73) hx hb dX7_rest_10 (by decide) (fun hc1 => ?_) (fun hc1 => ?_)
      · replace hF := hF.trans (if_pos hc1)
        refine lv_aload_n hx hb dX7_rest_73 rfl (lv_at hl 0 rfl) ?_
        refine lv_ldc (v := (-1000006)) hx hb hown (hts _ kX7_rest_0) dX7_rest_74 ?_
        refine yk_i [0] (va_runV (As := [.int (-1000006)]) (rest := []) ⟨hx, hb, hml, hown, hts⟩ (c_X7_finding l D cy ta fa a_draft a_fence a_past a_slots a_slotKinds a_sheets a_speedX a_speedY a_leftward a_change a_table fi (-1000006) H.size) (cwV 1 hts gX7_rest_X7_finding rfl rfl rfl hv_X7_finding (yk_room hRf hRl rfl rfl)) (yk_pv (q := (RX7, TX7, 13)) hG hA hS hK hP hD [0] (by decide +kernel) rfl rfl rfl) rfl rfl hl.1 rfl (lv_room (Nat.le_of_ble_eq_true rfl)) dX7_rest_76 ⟨Nat.zero_le _, Nat.zero_le _⟩) hP hD hS hA rfl (Eq.trans (b := [ta]) rfl rfl) (fun H locs hP9 hD9 hS9 => ?_)
        replace hP : va_P D vwCl [(ta, .inr (7, [.ref fa, .ref a_draft, .ref a_fence, .ref a_past, .ref a_slots, .ref a_slotKinds, .ref a_sheets, .ref a_speedX, .ref a_speedY, .ref a_leftward, .ref a_change, .ref a_table, .int ((f_X7_finding fi (-1000006)).2)])), (fa, .inr (1, [.ref fap, .ref faq])), (fap, .inr (3, [.ref fapn])), (fapn, .inl (cy 0, 6, .inl fu)), (faq, .inr (3, [.ref faqn])), (faqn, .inl (cy 0, 6, .inl fv))] H := hP9
        replace hD : va_D A [(ta, .inr (7, [.ref fa, .ref a_draft, .ref a_fence, .ref a_past, .ref a_slots, .ref a_slotKinds, .ref a_sheets, .ref a_speedX, .ref a_speedY, .ref a_leftward, .ref a_change, .ref a_table, .int ((f_X7_finding fi (-1000006)).2)])), (fa, .inr (1, [.ref fap, .ref faq])), (fap, .inr (3, [.ref fapn])), (fapn, .inl (cy 0, 6, .inl fu)), (faq, .inr (3, [.ref faqn])), (faqn, .inl (cy 0, 6, .inl fv))] := hD9
        replace hS := hS9
        clear hP9 hD9 hS9
        have hF : f_X7_rest fu fv fi px bq = (((f_X7_finding fi (-1000006)).1), ((f_X7_finding fi (-1000006)).2)) := hF
        have hf0 := yk_fst hF
        have hg0 := yk_snd hF
        rw [hf0, hg0] at hQ
        exact hQ _ _ _ _ dX7_rest_79 hP hS
      · replace hF := hF.trans (if_neg hc1)
        have hlt6 : ki < 13 := yk_lt6 hk6 hc1
        refine lv_bipush (v := (-6)) hx hb dX7_rest_13 (by decide) ?_
        refine lv_istore (lv' := [(5, .int (-6)), (0, .ref ta), (1, .int px), (2, .int bq), (3, .int z3_6), (4, .int (nI ki - 6))]) hx hb dX7_rest_15 hl (by decide) rfl (fun ls hl9 => ?_)
        replace hl := hl9
        clear hl9
        have L17 : ∀ (M9 n17 kj : Nat) (z3_17 : Int32) (H : Heap) (locs : List Loc) (ls : Array Slot), n17 < M9 → kj + n17 = 13 → f_X7_rest fu fv fi px bq = (l_X7_rest_17 fu fv fi px bq ki z3_6 (fun ki' z3_6' => l_X7_rest_6 fu fv fi px bq n6 ki' z3_6') (n17 + 1) kj z3_17) → va_P D vwCl [(ta, .inr (7, [.ref fa, .ref a_draft, .ref a_fence, .ref a_past, .ref a_slots, .ref a_slotKinds, .ref a_sheets, .ref a_speedX, .ref a_speedY, .ref a_leftward, .ref a_change, .ref a_table, .int fi])), (fa, .inr (1, [.ref fap, .ref faq])), (fap, .inr (3, [.ref fapn])), (fapn, .inl (cy 0, 6, .inl fu)), (faq, .inr (3, [.ref faqn])), (faqn, .inl (cy 0, 6, .inl fv))] H → va_D A [(ta, .inr (7, [.ref fa, .ref a_draft, .ref a_fence, .ref a_past, .ref a_slots, .ref a_slotKinds, .ref a_sheets, .ref a_speedX, .ref a_speedY, .ref a_leftward, .ref a_change, .ref a_table, .int fi])), (fa, .inr (1, [.ref fap, .ref faq])), (fap, .inr (3, [.ref fapn])), (fapn, .inl (cy 0, 6, .inl fu)), (faq, .inr (3, [.ref faqn])), (faqn, .inl (cy 0, 6, .inl fv))] → va_S A s.heap H locs → lv_has ls 6 [(0, .ref ta), (1, .int px), (2, .int bq), (3, .int z3_17), (4, .int (nI ki - 6)), (5, .int (nI kj - 6))] → W p l e R s m args below meth c H locs 0 0 Q (F0 m 17 ls []) := by
          clear hP hD hS hl hF
          intro M9
          induction M9 with
          | zero => intro n17 kj _ _ _ _ hn; exact absurd hn (Nat.not_lt_zero _)
          | succ M9 ih17 =>
            intro n17 kj z3_17 H locs ls hn17 hk17 hF hP hD hS hl
            refine lv_iload hx hb dX7_rest_17 (lv_at hl 5 rfl) ?_
            refine lv_bipush (v := 6) hx hb dX7_rest_19 (by decide) ?_
            refine lv_icmp_gt (tgt := 67) hx hb dX7_rest_21 (by decide) (fun hc2 => ?_) (fun hc2 => ?_)
            · replace hF := hF.trans (if_pos hc2)
              refine lv_iinc (v := ((nI ki - 6) + 1)) (lv' := [(4, .int ((nI ki - 6) + 1)), (0, .ref ta), (1, .int px), (2, .int bq), (3, .int z3_17), (5, .int (nI kj - 6))]) hx hb dX7_rest_67 hl (k := 4) rfl (yk_incg _) (by decide) rfl (fun ls hl9 => ?_)
              replace hl := hl9
              clear hl9
              refine lv_goto (tgt := 6) hx hb dX7_rest_70 (by decide) ?_
              obtain ⟨n9, rfl⟩ : ∃ n9, n6 = n9 + 1 := ⟨n6 - 1, by omega⟩
              rw [yk_off ki 6] at hl
              exact ih6 n9 (ki + 1) z3_17 _ _ _ (by omega) (by omega)  hF hP hD hS (lv_sub hl [1, 2, 3, 4, 0] rfl)
            · replace hF := hF.trans (if_neg hc2)
              have hlt17 : kj < 13 := yk_lt6 hk17 hc2
              refine lv_aload_n hx hb dX7_rest_24 rfl (lv_at hl 0 rfl) ?_
              refine va_get (D := D) (ci := 7) (v := .ref fa) (C := RX7) (T := TX7) (N := 13) hx hb hts uX7_rest_X7 hown hK hP 0 rfl rfl 0 (by decide) (hts _ kX7_rest_1) (fun _ h9 => h9) rfl dX7_rest_25 ?_
              refine lv_iload hx hb dX7_rest_28 (lv_at hl 4 rfl) ?_
              refine lv_iload hx hb dX7_rest_30 (lv_at hl 5 rfl) ?_
              refine yk_i [1, 2, 3, 4, 5] (va_runV (As := [.int (nI ki - 6), .int (nI kj - 6)]) (rest := []) ⟨hx, hb, hml, hown, hts⟩ (c_X1_isRest l D cy fa fap fapn faq faqn fu fv (nI ki - 6) (nI kj - 6) H.size) (cwV 2 hts gX7_rest_X1_isRest rfl rfl rfl hv_X1_isRest (yk_room hRf hRl rfl rfl)) (yk_pv (q := (RX1, TX1, 2)) hG hA hS hK hP hD [1, 2, 3, 4, 5] (by decide +kernel) rfl rfl rfl) rfl rfl hl.1 rfl (lv_room (Nat.le_of_ble_eq_true rfl)) dX7_rest_32 ⟨Nat.zero_le _, Nat.zero_le _⟩) hP hD hS hA rfl (Eq.trans (b := [fa, fap, fapn, faq, faqn]) rfl rfl) (fun H locs hP9 hD9 hS9 => ?_)
              replace hP : va_P D vwCl [(ta, .inr (7, [.ref fa, .ref a_draft, .ref a_fence, .ref a_past, .ref a_slots, .ref a_slotKinds, .ref a_sheets, .ref a_speedX, .ref a_speedY, .ref a_leftward, .ref a_change, .ref a_table, .int fi])), (fa, .inr (1, [.ref fap, .ref faq])), (fap, .inr (3, [.ref fapn])), (fapn, .inl (cy 0, 6, .inl fu)), (faq, .inr (3, [.ref faqn])), (faqn, .inl (cy 0, 6, .inl fv))] H := hP9
              replace hD : va_D A [(ta, .inr (7, [.ref fa, .ref a_draft, .ref a_fence, .ref a_past, .ref a_slots, .ref a_slotKinds, .ref a_sheets, .ref a_speedX, .ref a_speedY, .ref a_leftward, .ref a_change, .ref a_table, .int fi])), (fa, .inr (1, [.ref fap, .ref faq])), (fap, .inr (3, [.ref fapn])), (fapn, .inl (cy 0, 6, .inl fu)), (faq, .inr (3, [.ref faqn])), (faqn, .inl (cy 0, 6, .inl fv))] := hD9
              replace hS := hS9
              clear hP9 hD9 hS9
              refine lv_if_ne (tgt := 41) hx hb dX7_rest_35 (by decide) (fun hc3 => ?_) (fun hc3 => ?_)
              · replace hF := hF.trans (if_neg hc3)
                refine lv_iload_n hx hb dX7_rest_41 rfl (lv_at hl 3 rfl) ?_
                refine lv_iload_n hx hb dX7_rest_42 rfl (lv_at hl 1 rfl) ?_
                refine lv_icmp_ne (tgt := 58) hx hb dX7_rest_43 (by decide) (fun hc4 => ?_) (fun hc4 => ?_)
                · replace hF := hF.trans (if_neg hc4)
                  refine lv_iinc (v := (z3_17 + 1)) (lv' := [(3, .int (z3_17 + 1)), (0, .ref ta), (1, .int px), (2, .int bq), (4, .int (nI ki - 6)), (5, .int (nI kj - 6))]) hx hb dX7_rest_58 hl (k := 3) rfl (yk_incg _) (by decide) rfl (fun ls hl9 => ?_)
                  replace hl := hl9
                  clear hl9
                  refine lv_iinc (v := ((nI kj - 6) + 1)) (lv' := [(5, .int ((nI kj - 6) + 1)), (3, .int (z3_17 + 1)), (0, .ref ta), (1, .int px), (2, .int bq), (4, .int (nI ki - 6))]) hx hb dX7_rest_61 hl (k := 5) rfl (yk_incg _) (by decide) rfl (fun ls hl9 => ?_)
                  replace hl := hl9
                  clear hl9
                  refine lv_goto (tgt := 17) hx hb dX7_rest_64 (by decide) ?_
                  obtain ⟨n9, rfl⟩ : ∃ n9, n17 = n9 + 1 := ⟨n17 - 1, by omega⟩
                  rw [yk_off kj 6] at hl
                  exact ih17 n9 (kj + 1) (z3_17 + 1) _ _ _ (by omega) (by omega)  hF hP hD hS (lv_sub hl [2, 3, 4, 1, 5, 0] rfl)
                · replace hF := hF.trans (if_pos hc4)
                  refine lv_iload_n hx hb dX7_rest_46 rfl (lv_at hl 2 rfl) ?_
                  have J7 : ∀ (v6 : Int32) (H : Heap) (locs : List Loc) (ls : Array Slot), v6 = (if bq = 0 then (nI ki - 6) else (nI kj - 6)) → va_P D vwCl [(ta, .inr (7, [.ref fa, .ref a_draft, .ref a_fence, .ref a_past, .ref a_slots, .ref a_slotKinds, .ref a_sheets, .ref a_speedX, .ref a_speedY, .ref a_leftward, .ref a_change, .ref a_table, .int fi])), (fa, .inr (1, [.ref fap, .ref faq])), (fap, .inr (3, [.ref fapn])), (fapn, .inl (cy 0, 6, .inl fu)), (faq, .inr (3, [.ref faqn])), (faqn, .inl (cy 0, 6, .inl fv))] H → va_D A [(ta, .inr (7, [.ref fa, .ref a_draft, .ref a_fence, .ref a_past, .ref a_slots, .ref a_slotKinds, .ref a_sheets, .ref a_speedX, .ref a_speedY, .ref a_leftward, .ref a_change, .ref a_table, .int fi])), (fa, .inr (1, [.ref fap, .ref faq])), (fap, .inr (3, [.ref fapn])), (fapn, .inl (cy 0, 6, .inl fu)), (faq, .inr (3, [.ref faqn])), (faqn, .inl (cy 0, 6, .inl fv))] → va_S A s.heap H locs → lv_has ls 6 [(0, .ref ta), (1, .int px), (2, .int bq), (3, .int z3_17), (4, .int (nI ki - 6)), (5, .int (nI kj - 6))] → W p l e R s m args below meth c H locs 0 0 Q (F0 m 57 ls [.int v6]) := by
                    clear hP hD hS hl
                    intro v6 H locs ls ev6
                    rw [ev6]
                    clear ev6
                    intro hP hD hS hl
                    have hF : f_X7_rest fu fv fi px bq = ((if bq = 0 then (nI ki - 6) else (nI kj - 6)), fi) := hF
                    have hf0 := yk_fst hF
                    have hg0 := yk_snd hF
                    rw [hf0, hg0] at hQ
                    exact hQ _ _ _ _ dX7_rest_57 hP hS
                  refine lv_if_eq (tgt := 55) hx hb dX7_rest_47 (by decide) (fun hc5 => ?_) (fun hc5 => ?_)
                  · refine lv_iload hx hb dX7_rest_55 (lv_at hl 4 rfl) ?_
                    exact J7 _ _ _ _ ((if_pos hc5).symm) hP hD hS (lv_sub hl [0, 1, 2, 3, 4, 5] rfl)
                  · refine lv_iload hx hb dX7_rest_50 (lv_at hl 5 rfl) ?_
                    refine lv_goto (tgt := 57) hx hb dX7_rest_52 (by decide) ?_
                    exact J7 _ _ _ _ ((if_neg hc5).symm) hP hD hS (lv_sub hl [0, 1, 2, 3, 4, 5] rfl)
              · replace hF := hF.trans (if_pos hc3)
                refine lv_goto (tgt := 61) hx hb dX7_rest_38 (by decide) ?_
                refine lv_iinc (v := ((nI kj - 6) + 1)) (lv' := [(5, .int ((nI kj - 6) + 1)), (0, .ref ta), (1, .int px), (2, .int bq), (3, .int z3_17), (4, .int (nI ki - 6))]) hx hb dX7_rest_61 hl (k := 5) rfl (yk_incg _) (by decide) rfl (fun ls hl9 => ?_)
                replace hl := hl9
                clear hl9
                refine lv_goto (tgt := 17) hx hb dX7_rest_64 (by decide) ?_
                obtain ⟨n9, rfl⟩ : ∃ n9, n17 = n9 + 1 := ⟨n17 - 1, by omega⟩
                rw [yk_off kj 6] at hl
                exact ih17 n9 (kj + 1) z3_17 _ _ _ (by omega) (by omega)  hF hP hD hS (lv_sub hl [1, 2, 3, 4, 5, 0] rfl)
        rw [show (-6 : Int32) = nI 0 - 6 from rfl] at hl
        exact L17 (13 + 1) 13 0 z3_6 _ _ _ (Nat.lt_succ_self _) (by omega)  hF hP hD hS (lv_sub hl [1, 2, 3, 4, 5, 0] rfl)
  rw [show (-6 : Int32) = nI 0 - 6 from rfl] at hl
  exact L6 (13 + 1) 13 0 0 _ _ _ (Nat.lt_succ_self _) (by omega)  hF hP hD hS (lv_sub hl [2, 3, 4, 1, 0] rfl)

theorem kX7_sort_0 : Cond.fieldLink RX7 10 "FlowPlane" "flow" "LFlowPlane$Flow;" ∈ wsX7_sort := by decide +kernel
theorem kX7_sort_1 : Cond.constant RX7 146 (-1000006) ∈ wsX7_sort := by decide +kernel
theorem kX7_sort_2 : Cond.constant RX7 83 (-1000001) ∈ wsX7_sort := by decide +kernel
theorem uX7_sort_X7 : ∀ w ∈ u_ws RX7 TX7 13, w ∈ wsX7_sort := by decide +kernel
def f_X7_sort (fu : Nat → Int32) (fv : Nat → Int32) (fi : Int32) (px : Int32) (py : Int32) : Int32 × Int32 := (if (f_X7_isPlace px py) = 0 then (((f_X7_finding fi (-1000001)).1), ((f_X7_finding fi (-1000001)).2)) else (if (f_X1_isRest fu fv px py) = 0 then (((f_X7_finding fi (-1000006)).1), ((f_X7_finding fi (-1000006)).2)) else ((f_X1_sortAt fu fv px py), fi)))
set_option maxHeartbeats 400000000 in
set_option maxRecDepth 100000 in
theorem c_X7_sort (l : Launch) (D : va_G) (cy : Nat → ClassId) (ta : Nat) (fa : Nat) (fap : Nat) (fapn : Nat) (faq : Nat) (faqn : Nat) (a_draft : Nat) (a_fence : Nat) (a_past : Nat) (a_slots : Nat) (a_slotKinds : Nat) (a_sheets : Nat) (a_speedX : Nat) (a_speedY : Nat) (a_leftward : Nat) (a_change : Nat) (a_table : Nat) (fu : Nat → Int32) (fv : Nat → Int32) (fi : Int32) (px : Int32) (py : Int32) : yk_Ci l D vwCl (yk_ty cy) yX7_sort wsX7_sort 3 66 [.ref ta, .int px, .int py] [(ta, .inr (7, [.ref fa, .ref a_draft, .ref a_fence, .ref a_past, .ref a_slots, .ref a_slotKinds, .ref a_sheets, .ref a_speedX, .ref a_speedY, .ref a_leftward, .ref a_change, .ref a_table, .int fi])), (fa, .inr (1, [.ref fap, .ref faq])), (fap, .inr (3, [.ref fapn])), (fapn, .inl (cy 0, 6, .inl fu)), (faq, .inr (3, [.ref faqn])), (faqn, .inl (cy 0, 6, .inl fv))] ((f_X7_sort fu fv fi px py).1) [(ta, .inr (7, [.ref fa, .ref a_draft, .ref a_fence, .ref a_past, .ref a_slots, .ref a_slotKinds, .ref a_sheets, .ref a_speedX, .ref a_speedY, .ref a_leftward, .ref a_change, .ref a_table, .int ((f_X7_sort fu fv fi px py).2)])), (fa, .inr (1, [.ref fap, .ref faq])), (fap, .inr (3, [.ref fapn])), (fapn, .inl (cy 0, 6, .inl fu)), (faq, .inr (3, [.ref faqn])), (faqn, .inl (cy 0, 6, .inl fv))] := by
  refine yk_eI (cc := cX7_sort) (maxL := 3) (by decide) rfl (Nat.le_of_ble_eq_true rfl) rfl ?_
  intro p e R s m args below meth c A Q ls H locs hx hb hml hown hts hRf hRl hA hK hG hP hD hS hl hQ
  have hP : va_P D vwCl [(ta, .inr (7, [.ref fa, .ref a_draft, .ref a_fence, .ref a_past, .ref a_slots, .ref a_slotKinds, .ref a_sheets, .ref a_speedX, .ref a_speedY, .ref a_leftward, .ref a_change, .ref a_table, .int fi])), (fa, .inr (1, [.ref fap, .ref faq])), (fap, .inr (3, [.ref fapn])), (fapn, .inl (cy 0, 6, .inl fu)), (faq, .inr (3, [.ref faqn])), (faqn, .inl (cy 0, 6, .inl fv))] H := hP
  have hl : lv_has ls 3 [(0, .ref ta), (1, .int px), (2, .int py)] := hl
  have hown : s.vm.findClass RX7 = some m.cls := hown
  have hF : (f_X7_sort fu fv fi px py) = (f_X7_sort fu fv fi px py) := rfl
  refine lv_iload_n hx hb dX7_sort_0 rfl (lv_at hl 1 rfl) ?_
  refine lv_iload_n hx hb dX7_sort_1 rfl (lv_at hl 2 rfl) ?_
  refine yk_i [] (va_runS (As := [.int px, .int py]) (rest := []) ⟨hx, hb, hml, hown, hts⟩ (c_X7_isPlace l D cy px py H.size) (va_cwS 2 hts gX7_sort_X7_isPlace rfl rfl rfl hs_X7_isPlace (yk_room hRf hRl rfl rfl)) (yk_ps hG hA hS hK hP hD [] (by decide +kernel) rfl) rfl rfl hl.1 rfl (lv_room (Nat.le_of_ble_eq_true rfl)) dX7_sort_2 ⟨Nat.zero_le _, Nat.zero_le _⟩) hP hD hS hA rfl rfl (fun H locs hP9 hD9 hS9 => ?_)
  replace hP : va_P D vwCl [(ta, .inr (7, [.ref fa, .ref a_draft, .ref a_fence, .ref a_past, .ref a_slots, .ref a_slotKinds, .ref a_sheets, .ref a_speedX, .ref a_speedY, .ref a_leftward, .ref a_change, .ref a_table, .int fi])), (fa, .inr (1, [.ref fap, .ref faq])), (fap, .inr (3, [.ref fapn])), (fapn, .inl (cy 0, 6, .inl fu)), (faq, .inr (3, [.ref faqn])), (faqn, .inl (cy 0, 6, .inl fv))] H := hP9
  replace hD : va_D A [(ta, .inr (7, [.ref fa, .ref a_draft, .ref a_fence, .ref a_past, .ref a_slots, .ref a_slotKinds, .ref a_sheets, .ref a_speedX, .ref a_speedY, .ref a_leftward, .ref a_change, .ref a_table, .int fi])), (fa, .inr (1, [.ref fap, .ref faq])), (fap, .inr (3, [.ref fapn])), (fapn, .inl (cy 0, 6, .inl fu)), (faq, .inr (3, [.ref faqn])), (faqn, .inl (cy 0, 6, .inl fv))] := hD9
  replace hS := hS9
  clear hP9 hD9 hS9
  refine lv_if_ne (tgt := 15) hx hb dX7_sort_5 (by decide) (fun hc1 => ?_) (fun hc1 => ?_)
  · replace hF := hF.trans (if_neg hc1)
    refine lv_aload_n hx hb dX7_sort_15 rfl (lv_at hl 0 rfl) ?_
    refine va_get (D := D) (ci := 7) (v := .ref fa) (C := RX7) (T := TX7) (N := 13) hx hb hts uX7_sort_X7 hown hK hP 0 rfl rfl 0 (by decide) (hts _ kX7_sort_0) (fun _ h9 => h9) rfl dX7_sort_16 ?_
    refine lv_iload_n hx hb dX7_sort_19 rfl (lv_at hl 1 rfl) ?_
    refine lv_iload_n hx hb dX7_sort_20 rfl (lv_at hl 2 rfl) ?_
    refine yk_i [1, 2, 3, 4, 5] (va_runV (As := [.int px, .int py]) (rest := []) ⟨hx, hb, hml, hown, hts⟩ (c_X1_isRest l D cy fa fap fapn faq faqn fu fv px py H.size) (cwV 2 hts gX7_sort_X1_isRest rfl rfl rfl hv_X1_isRest (yk_room hRf hRl rfl rfl)) (yk_pv (q := (RX1, TX1, 2)) hG hA hS hK hP hD [1, 2, 3, 4, 5] (by decide +kernel) rfl rfl rfl) rfl rfl hl.1 rfl (lv_room (Nat.le_of_ble_eq_true rfl)) dX7_sort_21 ⟨Nat.zero_le _, Nat.zero_le _⟩) hP hD hS hA rfl (Eq.trans (b := [fa, fap, fapn, faq, faqn]) rfl rfl) (fun H locs hP9 hD9 hS9 => ?_)
    replace hP : va_P D vwCl [(ta, .inr (7, [.ref fa, .ref a_draft, .ref a_fence, .ref a_past, .ref a_slots, .ref a_slotKinds, .ref a_sheets, .ref a_speedX, .ref a_speedY, .ref a_leftward, .ref a_change, .ref a_table, .int fi])), (fa, .inr (1, [.ref fap, .ref faq])), (fap, .inr (3, [.ref fapn])), (fapn, .inl (cy 0, 6, .inl fu)), (faq, .inr (3, [.ref faqn])), (faqn, .inl (cy 0, 6, .inl fv))] H := hP9
    replace hD : va_D A [(ta, .inr (7, [.ref fa, .ref a_draft, .ref a_fence, .ref a_past, .ref a_slots, .ref a_slotKinds, .ref a_sheets, .ref a_speedX, .ref a_speedY, .ref a_leftward, .ref a_change, .ref a_table, .int fi])), (fa, .inr (1, [.ref fap, .ref faq])), (fap, .inr (3, [.ref fapn])), (fapn, .inl (cy 0, 6, .inl fu)), (faq, .inr (3, [.ref faqn])), (faqn, .inl (cy 0, 6, .inl fv))] := hD9
    replace hS := hS9
    clear hP9 hD9 hS9
    refine lv_if_ne (tgt := 34) hx hb dX7_sort_24 (by decide) (fun hc2 => ?_) (fun hc2 => ?_)
    · replace hF := hF.trans (if_neg hc2)
      refine lv_aload_n hx hb dX7_sort_34 rfl (lv_at hl 0 rfl) ?_
      refine va_get (D := D) (ci := 7) (v := .ref fa) (C := RX7) (T := TX7) (N := 13) hx hb hts uX7_sort_X7 hown hK hP 0 rfl rfl 0 (by decide) (hts _ kX7_sort_0) (fun _ h9 => h9) rfl dX7_sort_35 ?_
      refine lv_iload_n hx hb dX7_sort_38 rfl (lv_at hl 1 rfl) ?_
      refine lv_iload_n hx hb dX7_sort_39 rfl (lv_at hl 2 rfl) ?_
      refine yk_i [1, 2, 3, 4, 5] (va_runV (As := [.int px, .int py]) (rest := []) ⟨hx, hb, hml, hown, hts⟩ (c_X1_sortAt l D cy fa fap fapn faq faqn fu fv px py H.size) (cwV 2 hts gX7_sort_X1_sortAt rfl rfl rfl hv_X1_sortAt (yk_room hRf hRl rfl rfl)) (yk_pv (q := (RX1, TX1, 2)) hG hA hS hK hP hD [1, 2, 3, 4, 5] (by decide +kernel) rfl rfl rfl) rfl rfl hl.1 rfl (lv_room (Nat.le_of_ble_eq_true rfl)) dX7_sort_40 ⟨Nat.zero_le _, Nat.zero_le _⟩) hP hD hS hA rfl (Eq.trans (b := [fa, fap, fapn, faq, faqn]) rfl rfl) (fun H locs hP9 hD9 hS9 => ?_)
      replace hP : va_P D vwCl [(ta, .inr (7, [.ref fa, .ref a_draft, .ref a_fence, .ref a_past, .ref a_slots, .ref a_slotKinds, .ref a_sheets, .ref a_speedX, .ref a_speedY, .ref a_leftward, .ref a_change, .ref a_table, .int fi])), (fa, .inr (1, [.ref fap, .ref faq])), (fap, .inr (3, [.ref fapn])), (fapn, .inl (cy 0, 6, .inl fu)), (faq, .inr (3, [.ref faqn])), (faqn, .inl (cy 0, 6, .inl fv))] H := hP9
      replace hD : va_D A [(ta, .inr (7, [.ref fa, .ref a_draft, .ref a_fence, .ref a_past, .ref a_slots, .ref a_slotKinds, .ref a_sheets, .ref a_speedX, .ref a_speedY, .ref a_leftward, .ref a_change, .ref a_table, .int fi])), (fa, .inr (1, [.ref fap, .ref faq])), (fap, .inr (3, [.ref fapn])), (fapn, .inl (cy 0, 6, .inl fu)), (faq, .inr (3, [.ref faqn])), (faqn, .inl (cy 0, 6, .inl fv))] := hD9
      replace hS := hS9
      clear hP9 hD9 hS9
      have hF : f_X7_sort fu fv fi px py = ((f_X1_sortAt fu fv px py), fi) := hF
      have hf0 := yk_fst hF
      have hg0 := yk_snd hF
      rw [hf0, hg0] at hQ
      exact hQ _ _ _ _ dX7_sort_43 hP hS
    · replace hF := hF.trans (if_pos hc2)
      refine lv_aload_n hx hb dX7_sort_27 rfl (lv_at hl 0 rfl) ?_
      refine lv_ldc (v := (-1000006)) hx hb hown (hts _ kX7_sort_1) dX7_sort_28 ?_
      refine yk_i [0] (va_runV (As := [.int (-1000006)]) (rest := []) ⟨hx, hb, hml, hown, hts⟩ (c_X7_finding l D cy ta fa a_draft a_fence a_past a_slots a_slotKinds a_sheets a_speedX a_speedY a_leftward a_change a_table fi (-1000006) H.size) (cwV 1 hts gX7_sort_X7_finding rfl rfl rfl hv_X7_finding (yk_room hRf hRl rfl rfl)) (yk_pv (q := (RX7, TX7, 13)) hG hA hS hK hP hD [0] (by decide +kernel) rfl rfl rfl) rfl rfl hl.1 rfl (lv_room (Nat.le_of_ble_eq_true rfl)) dX7_sort_30 ⟨Nat.zero_le _, Nat.zero_le _⟩) hP hD hS hA rfl (Eq.trans (b := [ta]) rfl rfl) (fun H locs hP9 hD9 hS9 => ?_)
      replace hP : va_P D vwCl [(ta, .inr (7, [.ref fa, .ref a_draft, .ref a_fence, .ref a_past, .ref a_slots, .ref a_slotKinds, .ref a_sheets, .ref a_speedX, .ref a_speedY, .ref a_leftward, .ref a_change, .ref a_table, .int ((f_X7_finding fi (-1000006)).2)])), (fa, .inr (1, [.ref fap, .ref faq])), (fap, .inr (3, [.ref fapn])), (fapn, .inl (cy 0, 6, .inl fu)), (faq, .inr (3, [.ref faqn])), (faqn, .inl (cy 0, 6, .inl fv))] H := hP9
      replace hD : va_D A [(ta, .inr (7, [.ref fa, .ref a_draft, .ref a_fence, .ref a_past, .ref a_slots, .ref a_slotKinds, .ref a_sheets, .ref a_speedX, .ref a_speedY, .ref a_leftward, .ref a_change, .ref a_table, .int ((f_X7_finding fi (-1000006)).2)])), (fa, .inr (1, [.ref fap, .ref faq])), (fap, .inr (3, [.ref fapn])), (fapn, .inl (cy 0, 6, .inl fu)), (faq, .inr (3, [.ref faqn])), (faqn, .inl (cy 0, 6, .inl fv))] := hD9
      replace hS := hS9
      clear hP9 hD9 hS9
      have hF : f_X7_sort fu fv fi px py = (((f_X7_finding fi (-1000006)).1), ((f_X7_finding fi (-1000006)).2)) := hF
      have hf0 := yk_fst hF
      have hg0 := yk_snd hF
      rw [hf0, hg0] at hQ
      exact hQ _ _ _ _ dX7_sort_33 hP hS
  · replace hF := hF.trans (if_pos hc1)
    refine lv_aload_n hx hb dX7_sort_8 rfl (lv_at hl 0 rfl) ?_
    refine lv_ldc (v := (-1000001)) hx hb hown (hts _ kX7_sort_2) dX7_sort_9 ?_
    refine yk_i [0] (va_runV (As := [.int (-1000001)]) (rest := []) ⟨hx, hb, hml, hown, hts⟩ (c_X7_finding l D cy ta fa a_draft a_fence a_past a_slots a_slotKinds a_sheets a_speedX a_speedY a_leftward a_change a_table fi (-1000001) H.size) (cwV 1 hts gX7_sort_X7_finding rfl rfl rfl hv_X7_finding (yk_room hRf hRl rfl rfl)) (yk_pv (q := (RX7, TX7, 13)) hG hA hS hK hP hD [0] (by decide +kernel) rfl rfl rfl) rfl rfl hl.1 rfl (lv_room (Nat.le_of_ble_eq_true rfl)) dX7_sort_11 ⟨Nat.zero_le _, Nat.zero_le _⟩) hP hD hS hA rfl (Eq.trans (b := [ta]) rfl rfl) (fun H locs hP9 hD9 hS9 => ?_)
    replace hP : va_P D vwCl [(ta, .inr (7, [.ref fa, .ref a_draft, .ref a_fence, .ref a_past, .ref a_slots, .ref a_slotKinds, .ref a_sheets, .ref a_speedX, .ref a_speedY, .ref a_leftward, .ref a_change, .ref a_table, .int ((f_X7_finding fi (-1000001)).2)])), (fa, .inr (1, [.ref fap, .ref faq])), (fap, .inr (3, [.ref fapn])), (fapn, .inl (cy 0, 6, .inl fu)), (faq, .inr (3, [.ref faqn])), (faqn, .inl (cy 0, 6, .inl fv))] H := hP9
    replace hD : va_D A [(ta, .inr (7, [.ref fa, .ref a_draft, .ref a_fence, .ref a_past, .ref a_slots, .ref a_slotKinds, .ref a_sheets, .ref a_speedX, .ref a_speedY, .ref a_leftward, .ref a_change, .ref a_table, .int ((f_X7_finding fi (-1000001)).2)])), (fa, .inr (1, [.ref fap, .ref faq])), (fap, .inr (3, [.ref fapn])), (fapn, .inl (cy 0, 6, .inl fu)), (faq, .inr (3, [.ref faqn])), (faqn, .inl (cy 0, 6, .inl fv))] := hD9
    replace hS := hS9
    clear hP9 hD9 hS9
    have hF : f_X7_sort fu fv fi px py = (((f_X7_finding fi (-1000001)).1), ((f_X7_finding fi (-1000001)).2)) := hF
    have hf0 := yk_fst hF
    have hg0 := yk_snd hF
    rw [hf0, hg0] at hQ
    exact hQ _ _ _ _ dX7_sort_14 hP hS
