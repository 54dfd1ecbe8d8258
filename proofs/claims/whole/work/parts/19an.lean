
theorem kX7_rests_0 : Cond.fieldLink RX7 10 "FlowPlane" "flow" "LFlowPlane$Flow;" ∈ wsX7_rests := by decide +kernel
theorem uX7_rests_X7 : ∀ w ∈ u_ws RX7 TX7 13, w ∈ wsX7_rests := by decide +kernel
def l_X7_rests_14 (fu : Nat → Int32) (fv : Nat → Int32) (ki : Nat) (z1_5 : Int32) : Nat → Nat → Int32 → Int32
  | 0, kj, z1_14 => z1_14
  | fu_X7_rests_14 + 1, kj, z1_14 => (if 6 < (nI kj - 6) then z1_14 else (l_X7_rests_14 fu fv ki z1_5 fu_X7_rests_14 (kj + 1) (if (f_X1_isRest fu fv (nI ki - 6) (nI kj - 6)) = 0 then z1_14 else (z1_14 + 1))))
def l_X7_rests_5 (fu : Nat → Int32) (fv : Nat → Int32) : Nat → Nat → Int32 → Int32
  | 0, ki, z1_5 => z1_5
  | fu_X7_rests_5 + 1, ki, z1_5 => (if 6 < (nI ki - 6) then z1_5 else (l_X7_rests_5 fu fv fu_X7_rests_5 (ki + 1) (l_X7_rests_14 fu fv ki z1_5 (13 + 1) 0 z1_5)))
def f_X7_rests (fu : Nat → Int32) (fv : Nat → Int32) : Int32 := (l_X7_rests_5 fu fv (13 + 1) 0 0)
set_option maxHeartbeats 400000000 in
set_option maxRecDepth 100000 in
theorem c_X7_rests (l : Launch) (D : va_G) (cy : Nat → ClassId) (ta : Nat) (fa : Nat) (fap : Nat) (fapn : Nat) (faq : Nat) (faqn : Nat) (a_draft : Nat) (a_fence : Nat) (a_past : Nat) (a_slots : Nat) (a_slotKinds : Nat) (a_sheets : Nat) (a_speedX : Nat) (a_speedY : Nat) (a_leftward : Nat) (a_change : Nat) (a_table : Nat) (fu : Nat → Int32) (fv : Nat → Int32) (fi : Int32) : yk_Ci l D vwCl (yk_ty cy) yX7_rests wsX7_rests 3 66 [.ref ta] [(ta, .inr (7, [.ref fa, .ref a_draft, .ref a_fence, .ref a_past, .ref a_slots, .ref a_slotKinds, .ref a_sheets, .ref a_speedX, .ref a_speedY, .ref a_leftward, .ref a_change, .ref a_table, .int fi])), (fa, .inr (1, [.ref fap, .ref faq])), (fap, .inr (3, [.ref fapn])), (fapn, .inl (cy 0, 6, .inl fu)), (faq, .inr (3, [.ref faqn])), (faqn, .inl (cy 0, 6, .inl fv))] (f_X7_rests fu fv) [(ta, .inr (7, [.ref fa, .ref a_draft, .ref a_fence, .ref a_past, .ref a_slots, .ref a_slotKinds, .ref a_sheets, .ref a_speedX, .ref a_speedY, .ref a_leftward, .ref a_change, .ref a_table, .int fi])), (fa, .inr (1, [.ref fap, .ref faq])), (fap, .inr (3, [.ref fapn])), (fapn, .inl (cy 0, 6, .inl fu)), (faq, .inr (3, [.ref faqn])), (faqn, .inl (cy 0, 6, .inl fv))] := by
  refine yk_eI (cc := cX7_rests) (maxL := 4) (by decide) rfl (Nat.le_of_ble_eq_true rfl) rfl ?_
  intro p e R s m args below meth c A Q ls H locs hx hb hml hown hts hRf hRl hA hK hG hP hD hS hl hQ
  have hP : va_P D vwCl [(ta, .inr (7, [.ref fa, .ref a_draft, .ref a_fence, .ref a_past, .ref a_slots, .ref a_slotKinds, .ref a_sheets, .ref a_speedX, .ref a_speedY, .ref a_leftward, .ref a_change, .ref a_table, .int fi])), (fa, .inr (1, [.ref fap, .ref faq])), (fap, .inr (3, [.ref fapn])), (fapn, .inl (cy 0, 6, .inl fu)), (faq, .inr (3, [.ref faqn])), (faqn, .inl (cy 0, 6, .inl fv))] H := hP
  have hl : lv_has ls 4 [(0, .ref ta)] := hl
  have hown : s.vm.findClass RX7 = some m.cls := hown
  have hF : (f_X7_rests fu fv) = (f_X7_rests fu fv) := rfl
  refine lv_iconst (v := 0) hx hb dX7_rests_0 (by decide) ?_
  refine lv_istore_n (lv' := [(1, .int 0), (0, .ref ta)]) hx hb dX7_rests_1 rfl hl (by decide) rfl (fun ls hl9 => ?_)
  replace hl := hl9
  clear hl9
  refine lv_bipush (v := (-6)) hx hb dX7_rests_2 (by decide) ?_
  refine lv_istore_n (lv' := [(2, .int (-6)), (1, .int 0), (0, .ref ta)]) hx hb dX7_rests_4 rfl hl (by decide) rfl (fun ls hl9 => ?_)
  replace hl := hl9
  clear hl9
  have J7 : ∀ (H : Heap) (locs : List Loc) (ls : Array Slot), va_P D vwCl [(ta, .inr (7, [.ref fa, .ref a_draft, .ref a_fence, .ref a_past, .ref a_slots, .ref a_slotKinds, .ref a_sheets, .ref a_speedX, .ref a_speedY, .ref a_leftward, .ref a_change, .ref a_table, .int fi])), (fa, .inr (1, [.ref fap, .ref faq])), (fap, .inr (3, [.ref fapn])), (fapn, .inl (cy 0, 6, .inl fu)), (faq, .inr (3, [.ref faqn])), (faqn, .inl (cy 0, 6, .inl fv))] H → va_D A [(ta, .inr (7, [.ref fa, .ref a_draft, .ref a_fence, .ref a_past, .ref a_slots, .ref a_slotKinds, .ref a_sheets, .ref a_speedX, .ref a_speedY, .ref a_leftward, .ref a_change, .ref a_table, .int fi])), (fa, .inr (1, [.ref fap, .ref faq])), (fap, .inr (3, [.ref fapn])), (fapn, .inl (cy 0, 6, .inl fu)), (faq, .inr (3, [.ref faqn])), (faqn, .inl (cy 0, 6, .inl fv))] → va_S A s.heap H locs → lv_has ls 4 [(0, .ref ta), (1, .int (l_X7_rests_5 fu fv (13 + 1) 0 0))] → W p l e R s m args below meth c H locs 0 0 Q (F0 m 47 ls []) := by
    clear hP hD hS hl
    intro H locs ls hP hD hS hl
    refine lv_iload_n hx hb dX7_rests_47 rfl (lv_at hl 1 rfl) ?_
    have hF : f_X7_rests fu fv = (l_X7_rests_5 fu fv (13 + 1) 0 0) := hF
    rw [hF] at hQ
    exact hQ _ _ _ _ dX7_rests_48 hP hS
  have L5 : ∀ (M9 n5 ki : Nat) (z1_5 : Int32) (H : Heap) (locs : List Loc) (ls : Array Slot), n5 < M9 → ki + n5 = 13 → (l_X7_rests_5 fu fv (13 + 1) 0 0) = (l_X7_rests_5 fu fv (n5 + 1) ki z1_5) → va_P D vwCl [(ta, .inr (7, [.ref fa, .ref a_draft, .ref a_fence, .ref a_past, .ref a_slots, .ref a_slotKinds, .ref a_sheets, .ref a_speedX, .ref a_speedY, .ref a_leftward, .ref a_change, .ref a_table, .int fi])), (fa, .inr (1, [.ref fap, .ref faq])), (fap, .inr (3, [.ref fapn])), (fapn, .inl (cy 0, 6, .inl fu)), (faq, .inr (3, [.ref faqn])), (faqn, .inl (cy 0, 6, .inl fv))] H → va_D A [(ta, .inr (7, [.ref fa, .ref a_draft, .ref a_fence, .ref a_past, .ref a_slots, .ref a_slotKinds, .ref a_sheets, .ref a_speedX, .ref a_speedY, .ref a_leftward, .ref a_change, .ref a_table, .int fi])), (fa, .inr (1, [.ref fap, .ref faq])), (fap, .inr (3, [.ref fapn])), (fapn, .inl (cy 0, 6, .inl fu)), (faq, .inr (3, [.ref faqn])), (faqn, .inl (cy 0, 6, .inl fv))] → va_S A s.heap H locs → lv_has ls 4 [(0, .ref ta), (1, .int z1_5), (2, .int (nI ki - 6))] → W p l e R s m args below meth c H locs 0 0 Q (F0 m 5 ls []) := by
    clear hP hD hS hl
    intro M9
    induction M9 with
    | zero => intro n5 ki _ _ _ _ hn; exact absurd hn (Nat.not_lt_zero _)
    | succ M9 ih5 =>
      intro n5 ki z1_5 H locs ls hn5 hk5 hV5 hP hD hS hl
      refine lv_iload_n hx hb dX7_rests_5 rfl (lv_at hl 2 rfl) ?_
      refine lv_bipush (v := 6) hx hb dX7_rests_6 (by decide) ?_
      refine lv_icmp_gt (tgt := 47) hx hb dX7_rests_8 (by decide) (fun hc1 => ?_) (fun hc1 => ?_)
      · replace hV5 := hV5.trans (if_pos hc1)
        have hV5 : (l_X7_rests_5 fu fv (13 + 1) 0 0) = z1_5 := hV5
        have J7 := J7
        rw [hV5] at J7
        exact J7 _ _ _ hP hD hS (lv_sub hl [0, 1] rfl)
      · replace hV5 := hV5.trans (if_neg hc1)
        have hlt5 : ki < 13 := yk_lt6 hk5 hc1
        refine lv_bipush (v := (-6)) hx hb dX7_rests_11 (by decide) ?_
        refine lv_istore_n (lv' := [(3, .int (-6)), (0, .ref ta), (1, .int z1_5), (2, .int (nI ki - 6))]) hx hb dX7_rests_13 rfl hl (by decide) rfl (fun ls hl9 => ?_)
        replace hl := hl9
        clear hl9
        have J6 : ∀ (H : Heap) (locs : List Loc) (ls : Array Slot), va_P D vwCl [(ta, .inr (7, [.ref fa, .ref a_draft, .ref a_fence, .ref a_past, .ref a_slots, .ref a_slotKinds, .ref a_sheets, .ref a_speedX, .ref a_speedY, .ref a_leftward, .ref a_change, .ref a_table, .int fi])), (fa, .inr (1, [.ref fap, .ref faq])), (fap, .inr (3, [.ref fapn])), (fapn, .inl (cy 0, 6, .inl fu)), (faq, .inr (3, [.ref faqn])), (faqn, .inl (cy 0, 6, .inl fv))] H → va_D A [(ta, .inr (7, [.ref fa, .ref a_draft, .ref a_fence, .ref a_past, .ref a_slots, .ref a_slotKinds, .ref a_sheets, .ref a_speedX, .ref a_speedY, .ref a_leftward, .ref a_change, .ref a_table, .int fi])), (fa, .inr (1, [.ref fap, .ref faq])), (fap, .inr (3, [.ref fapn])), (fapn, .inl (cy 0, 6, .inl fu)), (faq, .inr (3, [.ref faqn])), (faqn, .inl (cy 0, 6, .inl fv))] → va_S A s.heap H locs → lv_has ls 4 [(0, .ref ta), (1, .int (l_X7_rests_14 fu fv ki z1_5 (13 + 1) 0 z1_5)), (2, .int (nI ki - 6))] → W p l e R s m args below meth c H locs 0 0 Q (F0 m 41 ls []) := by
          clear hP hD hS hl
          intro H locs ls hP hD hS hl
          refine lv_iinc (v := ((nI ki - 6) + 1)) (lv' := [(2, .int ((nI ki - 6) + 1)), (0, .ref ta), (1, .int (l_X7_rests_14 fu fv ki z1_5 (13 + 1) 0 z1_5))]) hx hb dX7_rests_41 hl (k := 2) rfl (yk_incg _) (by decide) rfl (fun ls hl9 => ?_)
          replace hl := hl9
          clear hl9
          refine lv_goto (tgt := 5) hx hb dX7_rests_44 (by decide) ?_
          obtain ⟨n9, rfl⟩ : ∃ n9, n5 = n9 + 1 := ⟨n5 - 1, by omega⟩
          rw [yk_off ki 6] at hl
          exact ih5 n9 (ki + 1) (l_X7_rests_14 fu fv ki z1_5 (13 + 1) 0 z1_5) _ _ _ (by omega) (by omega)  hV5 hP hD hS (lv_sub hl [1, 2, 0] rfl)
        have L14 : ∀ (M9 n14 kj : Nat) (z1_14 : Int32) (H : Heap) (locs : List Loc) (ls : Array Slot), n14 < M9 → kj + n14 = 13 → (l_X7_rests_14 fu fv ki z1_5 (13 + 1) 0 z1_5) = (l_X7_rests_14 fu fv ki z1_5 (n14 + 1) kj z1_14) → va_P D vwCl [(ta, .inr (7, [.ref fa, .ref a_draft, .ref a_fence, .ref a_past, .ref a_slots, .ref a_slotKinds, .ref a_sheets, .ref a_speedX, .ref a_speedY, .ref a_leftward, .ref a_change, .ref a_table, .int fi])), (fa, .inr (1, [.ref fap, .ref faq])), (fap, .inr (3, [.ref fapn])), (fapn, .inl (cy 0, 6, .inl fu)), (faq, .inr (3, [.ref faqn])), (faqn, .inl (cy 0, 6, .inl fv))] H → va_D A [(ta, .inr (7, [.ref fa, .ref a_draft, .ref a_fence, .ref a_past, .ref a_slots, .ref a_slotKinds, .ref a_sheets, .ref a_speedX, .ref a_speedY, .ref a_leftward, .ref a_change, .ref a_table, .int fi])), (fa, .inr (1, [.ref fap, .ref faq])), (fap, .inr (3, [.ref fapn])), (fapn, .inl (cy 0, 6, .inl fu)), (faq, .inr (3, [.ref faqn])), (faqn, .inl (cy 0, 6, .inl fv))] → va_S A s.heap H locs → lv_has ls 4 [(0, .ref ta), (1, .int z1_14), (2, .int (nI ki - 6)), (3, .int (nI kj - 6))] → W p l e R s m args below meth c H locs 0 0 Q (F0 m 14 ls []) := by
          clear hP hD hS hl
          intro M9
          induction M9 with
          | zero => intro n14 kj _ _ _ _ hn; exact absurd hn (Nat.not_lt_zero _)
          | succ M9 ih14 =>
            intro n14 kj z1_14 H locs ls hn14 hk14 hV14 hP hD hS hl
            refine lv_iload_n hx hb dX7_rests_14 rfl (lv_at hl 3 rfl) ?_
            refine lv_bipush (v := 6) hx hb dX7_rests_15 (by decide) ?_
            refine lv_icmp_gt (tgt := 41) hx hb dX7_rests_17 (by decide) (fun hc2 => ?_) (fun hc2 => ?_)
            · replace hV14 := hV14.trans (if_pos hc2)
              have hV14 : (l_X7_rests_14 fu fv ki z1_5 (13 + 1) 0 z1_5) = z1_14 := hV14
              have J6 := J6
              rw [hV14] at J6
              exact J6 _ _ _ hP hD hS (lv_sub hl [0, 1, 2] rfl)
            · replace hV14 := hV14.trans (if_neg hc2)
              have hlt14 : kj < 13 := yk_lt6 hk14 hc2
              refine lv_aload_n hx hb dX7_rests_20 rfl (lv_at hl 0 rfl) ?_
              refine va_get (D := D) (ci := 7) (v := .ref fa) (C := RX7) (T := TX7) (N := 13) hx hb hts uX7_rests_X7 hown hK hP 0 rfl rfl 0 (by decide) (hts _ kX7_rests_0) (fun _ h9 => h9) rfl dX7_rests_21 ?_
              refine lv_iload_n hx hb dX7_rests_24 rfl (lv_at hl 2 rfl) ?_
              refine lv_iload_n hx hb dX7_rests_25 rfl (lv_at hl 3 rfl) ?_
              refine yk_i [1, 2, 3, 4, 5] (va_runV (As := [.int (nI ki - 6), .int (nI kj - 6)]) (rest := []) ⟨hx, hb, hml, hown, hts⟩ (c_X1_isRest l D cy fa fap fapn faq faqn fu fv (nI ki - 6) (nI kj - 6) H.size) (cwV 2 hts gX7_rests_X1_isRest rfl rfl rfl hv_X1_isRest (yk_room hRf hRl rfl rfl)) (yk_pv (q := (RX1, TX1, 2)) hG hA hS hK hP hD [1, 2, 3, 4, 5] (by decide +kernel) rfl rfl rfl) rfl rfl hl.1 rfl (lv_room (Nat.le_of_ble_eq_true rfl)) dX7_rests_26 ⟨Nat.zero_le _, Nat.zero_le _⟩) hP hD hS hA rfl (Eq.trans (b := [fa, fap, fapn, faq, faqn]) rfl rfl) (fun H locs hP9 hD9 hS9 => ?_)
              replace hP : va_P D vwCl [(ta, .inr (7, [.ref fa, .ref a_draft, .ref a_fence, .ref a_past, .ref a_slots, .ref a_slotKinds, .ref a_sheets, .ref a_speedX, .ref a_speedY, .ref a_leftward, .ref a_change, .ref a_table, .int fi])), (fa, .inr (1, [.ref fap, .ref faq])), (fap, .inr (3, [.ref fapn])), (fapn, .inl (cy 0, 6, .inl fu)), (faq, .inr (3, [.ref faqn])), (faqn, .inl (cy 0, 6, .inl fv))] H := hP9
              replace hD : va_D A [(ta, .inr (7, [.ref fa, .ref a_draft, .ref a_fence, .ref a_past, .ref a_slots, .ref a_slotKinds, .ref a_sheets, .ref a_speedX, .ref a_speedY, .ref a_leftward, .ref a_change, .ref a_table, .int fi])), (fa, .inr (1, [.ref fap, .ref faq])), (fap, .inr (3, [.ref fapn])), (fapn, .inl (cy 0, 6, .inl fu)), (faq, .inr (3, [.ref faqn])), (faqn, .inl (cy 0, 6, .inl fv))] := hD9
              replace hS := hS9
              clear hP9 hD9 hS9
              have J5 : ∀ (v4 : Int32) (H : Heap) (locs : List Loc) (ls : Array Slot), v4 = (if (f_X1_isRest fu fv (nI ki - 6) (nI kj - 6)) = 0 then z1_14 else (z1_14 + 1)) → va_P D vwCl [(ta, .inr (7, [.ref fa, .ref a_draft, .ref a_fence, .ref a_past, .ref a_slots, .ref a_slotKinds, .ref a_sheets, .ref a_speedX, .ref a_speedY, .ref a_leftward, .ref a_change, .ref a_table, .int fi])), (fa, .inr (1, [.ref fap, .ref faq])), (fap, .inr (3, [.ref fapn])), (fapn, .inl (cy 0, 6, .inl fu)), (faq, .inr (3, [.ref faqn])), (faqn, .inl (cy 0, 6, .inl fv))] H → va_D A [(ta, .inr (7, [.ref fa, .ref a_draft, .ref a_fence, .ref a_past, .ref a_slots, .ref a_slotKinds, .ref a_sheets, .ref a_speedX, .ref a_speedY, .ref a_leftward, .ref a_change, .ref a_table, .int fi])), (fa, .inr (1, [.ref fap, .ref faq])), (fap, .inr (3, [.ref fapn])), (fapn, .inl (cy 0, 6, .inl fu)), (faq, .inr (3, [.ref faqn])), (faqn, .inl (cy 0, 6, .inl fv))] → va_S A s.heap H locs → lv_has ls 4 [(0, .ref ta), (1, .int v4), (2, .int (nI ki - 6)), (3, .int (nI kj - 6))] → W p l e R s m args below meth c H locs 0 0 Q (F0 m 35 ls []) := by
                clear hP hD hS hl
                intro v4 H locs ls ev4
                rw [ev4]
                clear ev4
                intro hP hD hS hl
                refine lv_iinc (v := ((nI kj - 6) + 1)) (lv' := [(3, .int ((nI kj - 6) + 1)), (0, .ref ta), (1, .int (if (f_X1_isRest fu fv (nI ki - 6) (nI kj - 6)) = 0 then z1_14 else (z1_14 + 1))), (2, .int (nI ki - 6))]) hx hb dX7_rests_35 hl (k := 3) rfl (yk_incg _) (by decide) rfl (fun ls hl9 => ?_)
                replace hl := hl9
                clear hl9
                refine lv_goto (tgt := 14) hx hb dX7_rests_38 (by decide) ?_
                obtain ⟨n9, rfl⟩ : ∃ n9, n14 = n9 + 1 := ⟨n14 - 1, by omega⟩
                rw [yk_off kj 6] at hl
                exact ih14 n9 (kj + 1) (if (f_X1_isRest fu fv (nI ki - 6) (nI kj - 6)) = 0 then z1_14 else (z1_14 + 1)) _ _ _ (by omega) (by omega)  hV14 hP hD hS (lv_sub hl [1, 2, 3, 0] rfl)
              refine lv_if_eq (tgt := 35) hx hb dX7_rests_29 (by decide) (fun hc3 => ?_) (fun hc3 => ?_)
              · exact J5 _ _ _ _ ((if_pos hc3).symm) hP hD hS (lv_sub hl [0, 1, 2, 3] rfl)
              · refine lv_iinc (v := (z1_14 + 1)) (lv' := [(1, .int (z1_14 + 1)), (0, .ref ta), (2, .int (nI ki - 6)), (3, .int (nI kj - 6))]) hx hb dX7_rests_32 hl (k := 1) rfl (yk_incg _) (by decide) rfl (fun ls hl9 => ?_)
                replace hl := hl9
                clear hl9
                exact J5 _ _ _ _ ((if_neg hc3).symm) hP hD hS (lv_sub hl [1, 0, 2, 3] rfl)
        rw [show (-6 : Int32) = nI 0 - 6 from rfl] at hl
        exact L14 (13 + 1) 13 0 z1_5 _ _ _ (Nat.lt_succ_self _) (by omega)  rfl hP hD hS (lv_sub hl [1, 2, 3, 0] rfl)
  rw [show (-6 : Int32) = nI 0 - 6 from rfl] at hl
  exact L5 (13 + 1) 13 0 0 _ _ _ (Nat.lt_succ_self _) (by omega)  rfl hP hD hS (lv_sub hl [2, 1, 0] rfl)

theorem kX7_open_0 : Cond.fieldLink RX7 22 "FlowPlane" "fence" "LFlowPlane$Fence;" ∈ wsX7_open := by decide +kernel
theorem kX7_open_1 : Cond.fieldLink RX7 160 "FlowPlane$Fence" "count" "I" ∈ wsX7_open := by decide +kernel
theorem kX7_open_2 : Cond.fieldLink RX7 29 "FlowPlane" "past" "LFlowPlane$Past;" ∈ wsX7_open := by decide +kernel
theorem kX7_open_3 : Cond.fieldLink RX7 10 "FlowPlane" "flow" "LFlowPlane$Flow;" ∈ wsX7_open := by decide +kernel
theorem uX7_open_X7 : ∀ w ∈ u_ws RX7 TX7 13, w ∈ wsX7_open := by decide +kernel
theorem uX7_open_X0 : ∀ w ∈ u_ws RX0 TX0 3, w ∈ wsX7_open := by decide +kernel
def f_X7_open (fu : Nat → Int32) (fv : Nat → Int32) (xs : Nat → Int32) (ys : Nat → Int32) (n : Nat) (rw : Nat → Nat → Int32) (co : Nat) (la : Nat) : Int32 × Nat × Nat × Nat × (Nat → Nat → Int32) := ((nI n), 0, ((f_X2_remember rw co la fu fv xs ys n).1), ((f_X2_remember rw co la fu fv xs ys n).2.1), ((f_X2_remember rw co la fu fv xs ys n).2.2))
set_option maxHeartbeats 400000000 in
set_option maxRecDepth 100000 in
theorem c_X7_open (l : Launch) (D : va_G) (cy : Nat → ClassId) (ta : Nat) (fa : Nat) (fap : Nat) (fapn : Nat) (faq : Nat) (faqn : Nat) (ea : Nat) (eax : Nat) (eay : Nat) (ba : Nat) (bar : Nat) (baf : Nat → Nat) (a_draft : Nat) (a_slots : Nat) (a_slotKinds : Nat) (a_sheets : Nat) (a_speedX : Nat) (a_speedY : Nat) (a_leftward : Nat) (a_change : Nat) (a_table : Nat) (fu : Nat → Int32) (fv : Nat → Int32) (xs : Nat → Int32) (ys : Nat → Int32) (n : Nat) (rw : Nat → Nat → Int32) (co : Nat) (la : Nat) (fi : Int32) (hn : n ≤ 8) (hco : co ≤ 25) (hla : la < 25) : yk_Ci l D vwCl (yk_ty cy) yX7_open wsX7_open 2 41 [.ref ta] ([(ta, .inr (7, [.ref fa, .ref a_draft, .ref ea, .ref ba, .ref a_slots, .ref a_slotKinds, .ref a_sheets, .ref a_speedX, .ref a_speedY, .ref a_leftward, .ref a_change, .ref a_table, .int fi])), (fa, .inr (1, [.ref fap, .ref faq])), (fap, .inr (3, [.ref fapn])), (fapn, .inl (cy 0, 6, .inl fu)), (faq, .inr (3, [.ref faqn])), (faqn, .inl (cy 0, 6, .inl fv)), (ea, .inr (0, [.ref eax, .ref eay, .int (nI n)])), (eax, .inl (cy 0, 9, .inl xs)), (eay, .inl (cy 0, 9, .inl ys)), (ba, .inr (2, [.ref bar, .int (nI co), .int (nI la)])), (bar, .inl (cy 5, 25, .inr (.inr (.inr (.inr (fun i => if i < 25 then some (baf i) else none))))))] ++ yk_fam 25 baf (fun i => .inl (cy 0, 31, .inl (rw i)))) ((f_X7_open fu fv xs ys n rw co la).1) ([(ta, .inr (7, [.ref fa, .ref a_draft, .ref ea, .ref ba, .ref a_slots, .ref a_slotKinds, .ref a_sheets, .ref a_speedX, .ref a_speedY, .ref a_leftward, .ref a_change, .ref a_table, .int fi])), (fa, .inr (1, [.ref fap, .ref faq])), (fap, .inr (3, [.ref fapn])), (fapn, .inl (cy 0, 6, .inl fu)), (faq, .inr (3, [.ref faqn])), (faqn, .inl (cy 0, 6, .inl fv)), (ea, .inr (0, [.ref eax, .ref eay, .int (nI ((f_X7_open fu fv xs ys n rw co la).2.1))])), (eax, .inl (cy 0, 9, .inl xs)), (eay, .inl (cy 0, 9, .inl ys)), (ba, .inr (2, [.ref bar, .int (nI ((f_X7_open fu fv xs ys n rw co la).2.2.1)), .int (nI ((f_X7_open fu fv xs ys n rw co la).2.2.2.1))])), (bar, .inl (cy 5, 25, .inr (.inr (.inr (.inr (fun i => if i < 25 then some (baf i) else none))))))] ++ yk_fam 25 baf (fun i => .inl (cy 0, 31, .inl (((f_X7_open fu fv xs ys n rw co la).2.2.2.2) i)))) := by
  refine yk_eI (cc := cX7_open) (maxL := 2) (by decide) rfl (Nat.le_of_ble_eq_true rfl) rfl ?_
  intro p e R s m args below meth c A Q ls H locs hx hb hml hown hts hRf hRl hA hK hG hP hD hS hl hQ
  have hP : va_P D vwCl ([(ta, .inr (7, [.ref fa, .ref a_draft, .ref ea, .ref ba, .ref a_slots, .ref a_slotKinds, .ref a_sheets, .ref a_speedX, .ref a_speedY, .ref a_leftward, .ref a_change, .ref a_table, .int fi])), (fa, .inr (1, [.ref fap, .ref faq])), (fap, .inr (3, [.ref fapn])), (fapn, .inl (cy 0, 6, .inl fu)), (faq, .inr (3, [.ref faqn])), (faqn, .inl (cy 0, 6, .inl fv)), (ea, .inr (0, [.ref eax, .ref eay, .int (nI n)])), (eax, .inl (cy 0, 9, .inl xs)), (eay, .inl (cy 0, 9, .inl ys)), (ba, .inr (2, [.ref bar, .int (nI co), .int (nI la)])), (bar, .inl (cy 5, 25, .inr (.inr (.inr (.inr (fun i => if i < 25 then some (baf i) else none))))))] ++ yk_fam 25 baf (fun i => .inl (cy 0, 31, .inl (rw i)))) H := hP
  have hl : lv_has ls 2 [(0, .ref ta)] := hl
  have hown : s.vm.findClass RX7 = some m.cls := hown
  have hF : (f_X7_open fu fv xs ys n rw co la) = (f_X7_open fu fv xs ys n rw co la) := rfl
  refine lv_aload_n hx hb dX7_open_0 rfl (lv_at hl 0 rfl) ?_
  refine va_get (D := D) (ci := 7) (v := .ref ea) (C := RX7) (T := TX7) (N := 13) hx hb hts uX7_open_X7 hown hK hP 0 rfl rfl 2 (by decide) (hts _ kX7_open_0) (fun _ h9 => h9) rfl dX7_open_1 ?_
  refine va_get (D := D) (ci := 0) (v := .int (nI n)) (C := RX0) (T := TX0) (N := 3) hx hb hts uX7_open_X0 hown hK hP 6 rfl rfl 2 (by decide) (hts _ kX7_open_1) (fun _ h9 => h9) rfl dX7_open_4 ?_
  refine lv_istore_n (lv' := [(1, .int (nI n)), (0, .ref ta)]) hx hb dX7_open_7 rfl hl (by decide) rfl (fun ls hl9 => ?_)
  replace hl := hl9
  clear hl9
  refine lv_aload_n hx hb dX7_open_8 rfl (lv_at hl 1 rfl) ?_
  refine va_get (D := D) (ci := 7) (v := .ref ba) (C := RX7) (T := TX7) (N := 13) hx hb hts uX7_open_X7 hown hK hP 0 rfl rfl 3 (by decide) (hts _ kX7_open_2) (fun _ h9 => h9) rfl dX7_open_9 ?_
  refine lv_aload_n hx hb dX7_open_12 rfl (lv_at hl 1 rfl) ?_
  refine va_get (D := D) (ci := 7) (v := .ref fa) (C := RX7) (T := TX7) (N := 13) hx hb hts uX7_open_X7 hown hK hP 0 rfl rfl 0 (by decide) (hts _ kX7_open_3) (fun _ h9 => h9) rfl dX7_open_13 ?_
  refine lv_aload_n hx hb dX7_open_16 rfl (lv_at hl 1 rfl) ?_
  refine va_get (D := D) (ci := 7) (v := .ref ea) (C := RX7) (T := TX7) (N := 13) hx hb hts uX7_open_X7 hown hK hP 0 rfl rfl 2 (by decide) (hts _ kX7_open_0) (fun _ h9 => h9) rfl dX7_open_17 ?_
  refine yk_vT [9, 10, 1, 2, 3, 4, 5, 6, 7, 8] (va_runV (As := [.ref fa, .ref ea]) (rest := []) ⟨hx, hb, hml, hown, hts⟩ (c_X2_remember l D cy ba bar fa fap fapn faq faqn ea eax eay baf rw co la fu fv xs ys n hco hla hn H.size) (cwV 2 hts gX7_open_X2_remember rfl rfl rfl hv_X2_remember (yk_room hRf hRl rfl rfl)) (yk_pvT (q := (RX2, TX2, 3)) hG hA hS hK hP hD [9, 10, 1, 2, 3, 4, 5, 6, 7, 8] (by decide +kernel) rfl rfl rfl) rfl rfl hl.1 rfl (lv_room (Nat.le_of_ble_eq_true rfl)) dX7_open_20 ⟨Nat.zero_le _, Nat.zero_le _⟩) hP hD hS hA rfl (Eq.trans (b := [ba, bar, fa, fap, fapn, faq, faqn, ea, eax, eay]) rfl rfl) (yk_ff _ _ _ _) (fun H locs hP9 hD9 hS9 => ?_)
  replace hP : va_P D vwCl ([(ta, .inr (7, [.ref fa, .ref a_draft, .ref ea, .ref ba, .ref a_slots, .ref a_slotKinds, .ref a_sheets, .ref a_speedX, .ref a_speedY, .ref a_leftward, .ref a_change, .ref a_table, .int fi])), (fa, .inr (1, [.ref fap, .ref faq])), (fap, .inr (3, [.ref fapn])), (fapn, .inl (cy 0, 6, .inl fu)), (faq, .inr (3, [.ref faqn])), (faqn, .inl (cy 0, 6, .inl fv)), (ea, .inr (0, [.ref eax, .ref eay, .int (nI n)])), (eax, .inl (cy 0, 9, .inl xs)), (eay, .inl (cy 0, 9, .inl ys)), (ba, .inr (2, [.ref bar, .int (nI ((f_X2_remember rw co la fu fv xs ys n).1)), .int (nI ((f_X2_remember rw co la fu fv xs ys n).2.1))])), (bar, .inl (cy 5, 25, .inr (.inr (.inr (.inr (fun i => if i < 25 then some (baf i) else none))))))] ++ yk_fam 25 baf (fun i => .inl (cy 0, 31, .inl (((f_X2_remember rw co la fu fv xs ys n).2.2) i)))) H := hP9
  replace hD : va_D A ([(ta, .inr (7, [.ref fa, .ref a_draft, .ref ea, .ref ba, .ref a_slots, .ref a_slotKinds, .ref a_sheets, .ref a_speedX, .ref a_speedY, .ref a_leftward, .ref a_change, .ref a_table, .int fi])), (fa, .inr (1, [.ref fap, .ref faq])), (fap, .inr (3, [.ref fapn])), (fapn, .inl (cy 0, 6, .inl fu)), (faq, .inr (3, [.ref faqn])), (faqn, .inl (cy 0, 6, .inl fv)), (ea, .inr (0, [.ref eax, .ref eay, .int (nI n)])), (eax, .inl (cy 0, 9, .inl xs)), (eay, .inl (cy 0, 9, .inl ys)), (ba, .inr (2, [.ref bar, .int (nI ((f_X2_remember rw co la fu fv xs ys n).1)), .int (nI ((f_X2_remember rw co la fu fv xs ys n).2.1))])), (bar, .inl (cy 5, 25, .inr (.inr (.inr (.inr (fun i => if i < 25 then some (baf i) else none))))))] ++ yk_fam 25 baf (fun i => .inl (cy 0, 31, .inl (((f_X2_remember rw co la fu fv xs ys n).2.2) i)))) := hD9
  replace hS := hS9
  clear hP9 hD9 hS9
  refine lv_aload_n hx hb dX7_open_23 rfl (lv_at hl 1 rfl) ?_
  refine va_get (D := D) (ci := 7) (v := .ref ea) (C := RX7) (T := TX7) (N := 13) hx hb hts uX7_open_X7 hown hK hP 0 rfl rfl 2 (by decide) (hts _ kX7_open_0) (fun _ h9 => h9) rfl dX7_open_24 ?_
  refine lv_iconst (v := 0) hx hb dX7_open_27 (by decide) ?_
  refine va_put (D := D) (ci := 0) (v := .int 0) (ty := .int) (C := RX0) (T := TX0) (N := 3) hx hb hts uX7_open_X0 tyX0 tyX0_ok nmX0 hown hK hP hD hS 6 rfl rfl 2 (by decide) (hts _ kX7_open_1) (fun _ h9 => h9) rfl (by decide +kernel) (yk_ni _) (yk_fi _) (Nat.le_of_ble_eq_true rfl) dX7_open_28 (fun H locs hP9 hD9 hS9 => ?_)
  replace hP : va_P D vwCl ([(ta, .inr (7, [.ref fa, .ref a_draft, .ref ea, .ref ba, .ref a_slots, .ref a_slotKinds, .ref a_sheets, .ref a_speedX, .ref a_speedY, .ref a_leftward, .ref a_change, .ref a_table, .int fi])), (fa, .inr (1, [.ref fap, .ref faq])), (fap, .inr (3, [.ref fapn])), (fapn, .inl (cy 0, 6, .inl fu)), (faq, .inr (3, [.ref faqn])), (faqn, .inl (cy 0, 6, .inl fv)), (ea, .inr (0, [.ref eax, .ref eay, .int 0])), (eax, .inl (cy 0, 9, .inl xs)), (eay, .inl (cy 0, 9, .inl ys)), (ba, .inr (2, [.ref bar, .int (nI ((f_X2_remember rw co la fu fv xs ys n).1)), .int (nI ((f_X2_remember rw co la fu fv xs ys n).2.1))])), (bar, .inl (cy 5, 25, .inr (.inr (.inr (.inr (fun i => if i < 25 then some (baf i) else none))))))] ++ yk_fam 25 baf (fun i => .inl (cy 0, 31, .inl (((f_X2_remember rw co la fu fv xs ys n).2.2) i)))) H := hP9
  replace hD : va_D A ([(ta, .inr (7, [.ref fa, .ref a_draft, .ref ea, .ref ba, .ref a_slots, .ref a_slotKinds, .ref a_sheets, .ref a_speedX, .ref a_speedY, .ref a_leftward, .ref a_change, .ref a_table, .int fi])), (fa, .inr (1, [.ref fap, .ref faq])), (fap, .inr (3, [.ref fapn])), (fapn, .inl (cy 0, 6, .inl fu)), (faq, .inr (3, [.ref faqn])), (faqn, .inl (cy 0, 6, .inl fv)), (ea, .inr (0, [.ref eax, .ref eay, .int 0])), (eax, .inl (cy 0, 9, .inl xs)), (eay, .inl (cy 0, 9, .inl ys)), (ba, .inr (2, [.ref bar, .int (nI ((f_X2_remember rw co la fu fv xs ys n).1)), .int (nI ((f_X2_remember rw co la fu fv xs ys n).2.1))])), (bar, .inl (cy 5, 25, .inr (.inr (.inr (.inr (fun i => if i < 25 then some (baf i) else none))))))] ++ yk_fam 25 baf (fun i => .inl (cy 0, 31, .inl (((f_X2_remember rw co la fu fv xs ys n).2.2) i)))) := hD9
  replace hS := hS9
  clear hP9 hD9 hS9
  refine lv_iload_n hx hb dX7_open_31 rfl (lv_at hl 0 rfl) ?_
  have hF : f_X7_open fu fv xs ys n rw co la = ((nI n), 0, ((f_X2_remember rw co la fu fv xs ys n).1), ((f_X2_remember rw co la fu fv xs ys n).2.1), ((f_X2_remember rw co la fu fv xs ys n).2.2)) := hF
  have hf0 := yk_fst hF
  have hg0 := yk_snd hF
  have hf1 := yk_fst hg0
  have hg1 := yk_snd hg0
  have hf2 := yk_fst hg1
  have hg2 := yk_snd hg1
  have hf3 := yk_fst hg2
  have hg3 := yk_snd hg2
  rw [hf0, hf1, hf2, hf3, hg3] at hQ
  exact hQ _ _ _ _ dX7_open_32 hP hS
