
theorem kX7_indexes_0 : Cond.fieldLink RX7 22 "FlowPlane" "fence" "LFlowPlane$Fence;" ∈ wsX7_indexes := by decide +kernel
theorem kX7_indexes_1 : Cond.fieldLink RX7 10 "FlowPlane" "flow" "LFlowPlane$Flow;" ∈ wsX7_indexes := by decide +kernel
theorem kX7_indexes_2 : Cond.constant RX7 146 (-1000006) ∈ wsX7_indexes := by decide +kernel
theorem kX7_indexes_3 : Cond.constant RX7 182 (-1000004) ∈ wsX7_indexes := by decide +kernel
theorem uX7_indexes_X7 : ∀ w ∈ u_ws RX7 TX7 13, w ∈ wsX7_indexes := by decide +kernel
def l_X7_indexes_31 (fu : Nat → Int32) (fv : Nat → Int32) (xs : Nat → Int32) (ys : Nat → Int32) (n : Nat) (fi : Int32) (ki : Nat) (z1_22 : Int32) (kc : Nat → Int32 → Int32 × Int32) : Nat → Nat → Int32 → Int32 × Int32
  | 0, kj, z1_31 => (0, fi)
  | fu_X7_indexes_31 + 1, kj, z1_31 => (if 6 < (nI kj - 6) then (kc (ki + 1) z1_31) else (if (f_X1_isRest fu fv (nI ki - 6) (nI kj - 6)) = 0 then (l_X7_indexes_31 fu fv xs ys n fi ki z1_22 kc fu_X7_indexes_31 (kj + 1) z1_31) else (if (f_X0_whereIs xs ys n (nI ki - 6) (nI kj - 6)) = 2 then (if (f_X1_sortAt fu fv (nI ki - 6) (nI kj - 6)) = 5 then (((f_X7_finding fi (-1000006)).1), ((f_X7_finding fi (-1000006)).2)) else (l_X7_indexes_31 fu fv xs ys n fi ki z1_22 kc fu_X7_indexes_31 (kj + 1) (z1_31 + (if (f_X1_sortAt fu fv (nI ki - 6) (nI kj - 6)) = 1 then (-1) else 1)))) else (l_X7_indexes_31 fu fv xs ys n fi ki z1_22 kc fu_X7_indexes_31 (kj + 1) z1_31))))
def l_X7_indexes_22 (fu : Nat → Int32) (fv : Nat → Int32) (xs : Nat → Int32) (ys : Nat → Int32) (n : Nat) (fi : Int32) : Nat → Nat → Int32 → Int32 × Int32
  | 0, ki, z1_22 => (0, fi)
  | fu_X7_indexes_22 + 1, ki, z1_22 => (if 6 < (nI ki - 6) then (z1_22, fi) else (l_X7_indexes_31 fu fv xs ys n fi ki z1_22 (fun ki' z1_22' => l_X7_indexes_22 fu fv xs ys n fi fu_X7_indexes_22 (ki') (z1_22')) (13 + 1) 0 z1_22))
def f_X7_indexes (fu : Nat → Int32) (fv : Nat → Int32) (xs : Nat → Int32) (ys : Nat → Int32) (n : Nat) (fi : Int32) : Int32 × Int32 := (if (f_X0_isSimple xs ys n) = 0 then (((f_X7_finding fi (-1000004)).1), ((f_X7_finding fi (-1000004)).2)) else (l_X7_indexes_22 fu fv xs ys n fi (13 + 1) 0 0))
set_option maxHeartbeats 400000000 in
set_option maxRecDepth 100000 in
theorem c_X7_indexes (l : Launch) (D : va_G) (cy : Nat → ClassId) (ta : Nat) (fa : Nat) (fap : Nat) (fapn : Nat) (faq : Nat) (faqn : Nat) (ea : Nat) (eax : Nat) (eay : Nat) (a_draft : Nat) (a_past : Nat) (a_slots : Nat) (a_slotKinds : Nat) (a_sheets : Nat) (a_speedX : Nat) (a_speedY : Nat) (a_leftward : Nat) (a_change : Nat) (a_table : Nat) (fu : Nat → Int32) (fv : Nat → Int32) (xs : Nat → Int32) (ys : Nat → Int32) (n : Nat) (fi : Int32) (hn : n ≤ 8) : yk_Ci l D vwCl (yk_ty cy) yX7_indexes wsX7_indexes 5 112 [.ref ta] [(ta, .inr (7, [.ref fa, .ref a_draft, .ref ea, .ref a_past, .ref a_slots, .ref a_slotKinds, .ref a_sheets, .ref a_speedX, .ref a_speedY, .ref a_leftward, .ref a_change, .ref a_table, .int fi])), (fa, .inr (1, [.ref fap, .ref faq])), (fap, .inr (3, [.ref fapn])), (fapn, .inl (cy 0, 6, .inl fu)), (faq, .inr (3, [.ref faqn])), (faqn, .inl (cy 0, 6, .inl fv)), (ea, .inr (0, [.ref eax, .ref eay, .int (nI n)])), (eax, .inl (cy 0, 9, .inl xs)), (eay, .inl (cy 0, 9, .inl ys))] ((f_X7_indexes fu fv xs ys n fi).1) [(ta, .inr (7, [.ref fa, .ref a_draft, .ref ea, .ref a_past, .ref a_slots, .ref a_slotKinds, .ref a_sheets, .ref a_speedX, .ref a_speedY, .ref a_leftward, .ref a_change, .ref a_table, .int ((f_X7_indexes fu fv xs ys n fi).2)])), (fa, .inr (1, [.ref fap, .ref faq])), (fap, .inr (3, [.ref fapn])), (fapn, .inl (cy 0, 6, .inl fu)), (faq, .inr (3, [.ref faqn])), (faqn, .inl (cy 0, 6, .inl fv)), (ea, .inr (0, [.ref eax, .ref eay, .int (nI n)])), (eax, .inl (cy 0, 9, .inl xs)), (eay, .inl (cy 0, 9, .inl ys))] := by
  refine yk_eI (cc := cX7_indexes) (maxL := 5) (by decide) rfl (Nat.le_of_ble_eq_true rfl) rfl ?_
  intro p e R s m args below meth c A Q ls H locs hx hb hml hown hts hRf hRl hA hK hG hP hD hS hl hQ
  have hP : va_P D vwCl [(ta, .inr (7, [.ref fa, .ref a_draft, .ref ea, .ref a_past, .ref a_slots, .ref a_slotKinds, .ref a_sheets, .ref a_speedX, .ref a_speedY, .ref a_leftward, .ref a_change, .ref a_table, .int fi])), (fa, .inr (1, [.ref fap, .ref faq])), (fap, .inr (3, [.ref fapn])), (fapn, .inl (cy 0, 6, .inl fu)), (faq, .inr (3, [.ref faqn])), (faqn, .inl (cy 0, 6, .inl fv)), (ea, .inr (0, [.ref eax, .ref eay, .int (nI n)])), (eax, .inl (cy 0, 9, .inl xs)), (eay, .inl (cy 0, 9, .inl ys))] H := hP
  have hl : lv_has ls 5 [(0, .ref ta)] := hl
  have hown : s.vm.findClass RX7 = some m.cls := hown
  have hF : (f_X7_indexes fu fv xs ys n fi) = (f_X7_indexes fu fv xs ys n fi) := rfl
  refine lv_aload_n hx hb dX7_indexes_0 rfl (lv_at hl 0 rfl) ?_
  refine va_get (D := D) (ci := 7) (v := .ref ea) (C := RX7) (T := TX7) (N := 13) hx hb hts uX7_indexes_X7 hown hK hP 0 rfl rfl 2 (by decide) (hts _ kX7_indexes_0) (fun _ h9 => h9) rfl dX7_indexes_1 ?_
  refine yk_i [6, 7, 8] (va_runV (As := []) (rest := []) ⟨hx, hb, hml, hown, hts⟩ (c_X0_isSimple l D cy ea eax eay xs ys n hn H.size) (cwV 0 hts gX7_indexes_X0_isSimple rfl rfl rfl hv_X0_isSimple (yk_room hRf hRl rfl rfl)) (yk_pv (q := (RX0, TX0, 3)) hG hA hS hK hP hD [6, 7, 8] (by decide +kernel) rfl rfl rfl) rfl rfl hl.1 rfl (lv_room (Nat.le_of_ble_eq_true rfl)) dX7_indexes_4 ⟨Nat.zero_le _, Nat.zero_le _⟩) hP hD hS hA rfl (Eq.trans (b := [ea, eax, eay]) rfl rfl) (fun H locs hP9 hD9 hS9 => ?_)
  replace hP : va_P D vwCl [(ta, .inr (7, [.ref fa, .ref a_draft, .ref ea, .ref a_past, .ref a_slots, .ref a_slotKinds, .ref a_sheets, .ref a_speedX, .ref a_speedY, .ref a_leftward, .ref a_change, .ref a_table, .int fi])), (fa, .inr (1, [.ref fap, .ref faq])), (fap, .inr (3, [.ref fapn])), (fapn, .inl (cy 0, 6, .inl fu)), (faq, .inr (3, [.ref faqn])), (faqn, .inl (cy 0, 6, .inl fv)), (ea, .inr (0, [.ref eax, .ref eay, .int (nI n)])), (eax, .inl (cy 0, 9, .inl xs)), (eay, .inl (cy 0, 9, .inl ys))] H := hP9
  replace hD : va_D A [(ta, .inr (7, [.ref fa, .ref a_draft, .ref ea, .ref a_past, .ref a_slots, .ref a_slotKinds, .ref a_sheets, .ref a_speedX, .ref a_speedY, .ref a_leftward, .ref a_change, .ref a_table, .int fi])), (fa, .inr (1, [.ref fap, .ref faq])), (fap, .inr (3, [.ref fapn])), (fapn, .inl (cy 0, 6, .inl fu)), (faq, .inr (3, [.ref faqn])), (faqn, .inl (cy 0, 6, .inl fv)), (ea, .inr (0, [.ref eax, .ref eay, .int (nI n)])), (eax, .inl (cy 0, 9, .inl xs)), (eay, .inl (cy 0, 9, .inl ys))] := hD9
  replace hS := hS9
  clear hP9 hD9 hS9
  refine lv_if_ne (tgt := 17) hx hb dX7_indexes_7 (by decide) (fun hc1 => ?_) (fun hc1 => ?_)
  · replace hF := hF.trans (if_neg hc1)
    refine lv_iconst (v := 0) hx hb dX7_indexes_17 (by decide) ?_
    refine lv_istore_n (lv' := [(1, .int 0), (0, .ref ta)]) hx hb dX7_indexes_18 rfl hl (by decide) rfl (fun ls hl9 => ?_)
    replace hl := hl9
    clear hl9
    refine lv_bipush (v := (-6)) hx hb dX7_indexes_19 (by decide) ?_
    refine lv_istore_n (lv' := [(2, .int (-6)), (1, .int 0), (0, .ref ta)]) hx hb dX7_indexes_21 rfl hl (by decide) rfl (fun ls hl9 => ?_)
    replace hl := hl9
    clear hl9
    have L22 : ∀ (M9 n22 ki : Nat) (z1_22 : Int32) (H : Heap) (locs : List Loc) (ls : Array Slot), n22 < M9 → ki + n22 = 13 → f_X7_indexes fu fv xs ys n fi = (l_X7_indexes_22 fu fv xs ys n fi (n22 + 1) ki z1_22) → va_P D vwCl [(ta, .inr (7, [.ref fa, .ref a_draft, .ref ea, .ref a_past, .ref a_slots, .ref a_slotKinds, .ref a_sheets, .ref a_speedX, .ref a_speedY, .ref a_leftward, .ref a_change, .ref a_table, .int fi])), (fa, .inr (1, [.ref fap, .ref faq])), (fap, .inr (3, [.ref fapn])), (fapn, .inl (cy 0, 6, .inl fu)), (faq, .inr (3, [.ref faqn])), (faqn, .inl (cy 0, 6, .inl fv)), (ea, .inr (0, [.ref eax, .ref eay, .int (nI n)])), (eax, .inl (cy 0, 9, .inl xs)), (eay, .inl (cy 0, 9, .inl ys))] H → va_D A [(ta, .inr (7, [.ref fa, .ref a_draft, .ref ea, .ref a_past, .ref a_slots, .ref a_slotKinds, .ref a_sheets, .ref a_speedX, .ref a_speedY, .ref a_leftward, .ref a_change, .ref a_table, .int fi])), (fa, .inr (1, [.ref fap, .ref faq])), (fap, .inr (3, [.ref fapn])), (fapn, .inl (cy 0, 6, .inl fu)), (faq, .inr (3, [.ref faqn])), (faqn, .inl (cy 0, 6, .inl fv)), (ea, .inr (0, [.ref eax, .ref eay, .int (nI n)])), (eax, .inl (cy 0, 9, .inl xs)), (eay, .inl (cy 0, 9, .inl ys))] → va_S A s.heap H locs → lv_has ls 5 [(0, .ref ta), (1, .int z1_22), (2, .int (nI ki - 6))] → W p l e R s m args below meth c H locs 0 0 Q (F0 m 22 ls []) := by
      clear hP hD hS hl hF
      intro M9
      induction M9 with
      | zero => intro n22 ki _ _ _ _ hn; exact absurd hn (Nat.not_lt_zero _)
      | succ M9 ih22 =>
        intro n22 ki z1_22 H locs ls hn22 hk22 hF hP hD hS hl
        refine lv_iload_n hx hb dX7_indexes_22 rfl (lv_at hl 2 rfl) ?_
        refine lv_bipush (v := 6) hx hb dX7_indexes_23 (by decide) ?_
        refine lv_icmp_gt (tgt := 115) hx hb dX7_indexes_25 (by decide) (fun hc2 => ?_) (fun hc2 => ?_)
        · replace hF := hF.trans (if_pos hc2)
          refine lv_iload_n hx hb dX7_indexes_115 rfl (lv_at hl 1 rfl) ?_
          have hF : f_X7_indexes fu fv xs ys n fi = (z1_22, fi) := hF
          have hf0 := yk_fst hF
          have hg0 := yk_snd hF
          rw [hf0, hg0] at hQ
          exact hQ _ _ _ _ dX7_indexes_116 hP hS
        · replace hF := hF.trans (if_neg hc2)
          have hlt22 : ki < 13 := yk_lt6 hk22 hc2
          refine lv_bipush (v := (-6)) hx hb dX7_indexes_28 (by decide) ?_
          refine lv_istore_n (lv' := [(3, .int (-6)), (0, .ref ta), (1, .int z1_22), (2, .int (nI ki - 6))]) hx hb dX7_indexes_30 rfl hl (by decide) rfl (fun ls hl9 => ?_)
          replace hl := hl9
          clear hl9
          have L31 : ∀ (M9 n31 kj : Nat) (z1_31 : Int32) (H : Heap) (locs : List Loc) (ls : Array Slot), n31 < M9 → kj + n31 = 13 → f_X7_indexes fu fv xs ys n fi = (l_X7_indexes_31 fu fv xs ys n fi ki z1_22 (fun ki' z1_22' => l_X7_indexes_22 fu fv xs ys n fi n22 ki' z1_22') (n31 + 1) kj z1_31) → va_P D vwCl [(ta, .inr (7, [.ref fa, .ref a_draft, .ref ea, .ref a_past, .ref a_slots, .ref a_slotKinds, .ref a_sheets, .ref a_speedX, .ref a_speedY, .ref a_leftward, .ref a_change, .ref a_table, .int fi])), (fa, .inr (1, [.ref fap, .ref faq])), (fap, .inr (3, [.ref fapn])), (fapn, .inl (cy 0, 6, .inl fu)), (faq, .inr (3, [.ref faqn])), (faqn, .inl (cy 0, 6, .inl fv)), (ea, .inr (0, [.ref eax, .ref eay, .int (nI n)])), (eax, .inl (cy 0, 9, .inl xs)), (eay, .inl (cy 0, 9, .inl ys))] H → va_D A [(ta, .inr (7, [.ref fa, .ref a_draft, .ref ea, .ref a_past, .ref a_slots, .ref a_slotKinds, .ref a_sheets, .ref a_speedX, .ref a_speedY, .ref a_leftward, .ref a_change, .ref a_table, .int fi])), (fa, .inr (1, [.ref fap, .ref faq])), (fap, .inr (3, [.ref fapn])), (fapn, .inl (cy 0, 6, .inl fu)), (faq, .inr (3, [.ref faqn])), (faqn, .inl (cy 0, 6, .inl fv)), (ea, .inr (0, [.ref eax, .ref eay, .int (nI n)])), (eax, .inl (cy 0, 9, .inl xs)), (eay, .inl (cy 0, 9, .inl ys))] → va_S A s.heap H locs → lv_has ls 5 [(0, .ref ta), (1, .int z1_31), (2, .int (nI ki - 6)), (3, .int (nI kj - 6))] → W p l e R s m args below meth c H locs 0 0 Q (F0 m 31 ls []) := by
            clear hP hD hS hl hF
            intro M9
            induction M9 with
            | zero => intro n31 kj _ _ _ _ hn; exact absurd hn (Nat.not_lt_zero _)
            | succ M9 ih31 =>
              intro n31 kj z1_31 H locs ls hn31 hk31 hF hP hD hS hl
              refine lv_iload_n hx hb dX7_indexes_31 rfl (lv_at hl 3 rfl) ?_
              refine lv_bipush (v := 6) hx hb dX7_indexes_32 (by decide) ?_
              refine lv_icmp_gt (tgt := 109) hx hb dX7_indexes_34 (by decide) (fun hc3 => ?_) (fun hc3 => ?_)
              · replace hF := hF.trans (if_pos hc3)
                refine lv_iinc (v := ((nI ki - 6) + 1)) (lv' := [(2, .int ((nI ki - 6) + 1)), (0, .ref ta), (1, .int z1_31), (3, .int (nI kj - 6))]) hx hb dX7_indexes_109 hl (k := 2) rfl (yk_incg _) (by decide) rfl (fun ls hl9 => ?_)
                replace hl := hl9
                clear hl9
                refine lv_goto (tgt := 22) hx hb dX7_indexes_112 (by decide) ?_
                obtain ⟨n9, rfl⟩ : ∃ n9, n22 = n9 + 1 := ⟨n22 - 1, by omega⟩
                rw [yk_off ki 6] at hl
                exact ih22 n9 (ki + 1) z1_31 _ _ _ (by omega) (by omega)  hF hP hD hS (lv_sub hl [1, 2, 0] rfl)
              · replace hF := hF.trans (if_neg hc3)
                have hlt31 : kj < 13 := yk_lt6 hk31 hc3
                refine lv_aload_n hx hb dX7_indexes_37 rfl (lv_at hl 0 rfl) ?_
                refine va_get (D := D) (ci := 7) (v := .ref fa) (C := RX7) (T := TX7) (N := 13) hx hb hts uX7_indexes_X7 hown hK hP 0 rfl rfl 0 (by decide) (hts _ kX7_indexes_1) (fun _ h9 => h9) rfl dX7_indexes_38 ?_
                refine lv_iload_n hx hb dX7_indexes_41 rfl (lv_at hl 2 rfl) ?_
                refine lv_iload_n hx hb dX7_indexes_42 rfl (lv_at hl 3 rfl) ?_
                refine yk_i [1, 2, 3, 4, 5] (va_runV (As := [.int (nI ki - 6), .int (nI kj - 6)]) (rest := []) ⟨hx, hb, hml, hown, hts⟩ (c_X1_isRest l D cy fa fap fapn faq faqn fu fv (nI ki - 6) (nI kj - 6) H.size) (cwV 2 hts gX7_indexes_X1_isRest rfl rfl rfl hv_X1_isRest (yk_room hRf hRl rfl rfl)) (yk_pv (q := (RX1, TX1, 2)) hG hA hS hK hP hD [1, 2, 3, 4, 5] (by decide +kernel) rfl rfl rfl) rfl rfl hl.1 rfl (lv_room (Nat.le_of_ble_eq_true rfl)) dX7_indexes_43 ⟨Nat.zero_le _, Nat.zero_le _⟩) hP hD hS hA rfl (Eq.trans (b := [fa, fap, fapn, faq, faqn]) rfl rfl) (fun H locs hP9 hD9 hS9 => ?_)
                replace hP : va_P D vwCl [(ta, .inr (7, [.ref fa, .ref a_draft, .ref ea, .ref a_past, .ref a_slots, .ref a_slotKinds, .ref a_sheets, .ref a_speedX, .ref a_speedY, .ref a_leftward, .ref a_change, .ref a_table, .int fi])), (fa, .inr (1, [.ref fap, .ref faq])), (fap, .inr (3, [.ref fapn])), (fapn, .inl (cy 0, 6, .inl fu)), (faq, .inr (3, [.ref faqn])), (faqn, .inl (cy 0, 6, .inl fv)), (ea, .inr (0, [.ref eax, .ref eay, .int (nI n)])), (eax, .inl (cy 0, 9, .inl xs)), (eay, .inl (cy 0, 9, .inl ys))] H := hP9
                replace hD : va_D A [(ta, .inr (7, [.ref fa, .ref a_draft, .ref ea, .ref a_past, .ref a_slots, .ref a_slotKinds, .ref a_sheets, .ref a_speedX, .ref a_speedY, .ref a_leftward, .ref a_change, .ref a_table, .int fi])), (fa, .inr (1, [.ref fap, .ref faq])), (fap, .inr (3, [.ref fapn])), (fapn, .inl (cy 0, 6, .inl fu)), (faq, .inr (3, [.ref faqn])), (faqn, .inl (cy 0, 6, .inl fv)), (ea, .inr (0, [.ref eax, .ref eay, .int (nI n)])), (eax, .inl (cy 0, 9, .inl xs)), (eay, .inl (cy 0, 9, .inl ys))] := hD9
                replace hS := hS9
                clear hP9 hD9 hS9
                refine lv_if_eq (tgt := 103) hx hb dX7_indexes_46 (by decide) (fun hc4 => ?_) (fun hc4 => ?_)
                · replace hF := hF.trans (if_pos hc4)
                  refine lv_iinc (v := ((nI kj - 6) + 1)) (lv' := [(3, .int ((nI kj - 6) + 1)), (0, .ref ta), (1, .int z1_31), (2, .int (nI ki - 6))]) hx hb dX7_indexes_103 hl (k := 3) rfl (yk_incg _) (by decide) rfl (fun ls hl9 => ?_)
                  replace hl := hl9
                  clear hl9
                  refine lv_goto (tgt := 31) hx hb dX7_indexes_106 (by decide) ?_
                  obtain ⟨n9, rfl⟩ : ∃ n9, n31 = n9 + 1 := ⟨n31 - 1, by omega⟩
                  rw [yk_off kj 6] at hl
                  exact ih31 n9 (kj + 1) z1_31 _ _ _ (by omega) (by omega)  hF hP hD hS (lv_sub hl [1, 2, 3, 0] rfl)
                · replace hF := hF.trans (if_neg hc4)
                  refine lv_aload_n hx hb dX7_indexes_49 rfl (lv_at hl 0 rfl) ?_
                  refine va_get (D := D) (ci := 7) (v := .ref ea) (C := RX7) (T := TX7) (N := 13) hx hb hts uX7_indexes_X7 hown hK hP 0 rfl rfl 2 (by decide) (hts _ kX7_indexes_0) (fun _ h9 => h9) rfl dX7_indexes_50 ?_
                  refine lv_iload_n hx hb dX7_indexes_53 rfl (lv_at hl 2 rfl) ?_
                  refine lv_iload_n hx hb dX7_indexes_54 rfl (lv_at hl 3 rfl) ?_
                  refine yk_i [6, 7, 8] (va_runV (As := [.int (nI ki - 6), .int (nI kj - 6)]) (rest := []) ⟨hx, hb, hml, hown, hts⟩ (c_X0_whereIs l D cy ea eax eay xs ys n (nI ki - 6) (nI kj - 6) hn H.size) (cwV 2 hts gX7_indexes_X0_whereIs rfl rfl rfl hv_X0_whereIs (yk_room hRf hRl rfl rfl)) (yk_pv (q := (RX0, TX0, 3)) hG hA hS hK hP hD [6, 7, 8] (by decide +kernel) rfl rfl rfl) rfl rfl hl.1 rfl (lv_room (Nat.le_of_ble_eq_true rfl)) dX7_indexes_55 ⟨Nat.zero_le _, Nat.zero_le _⟩) hP hD hS hA rfl (Eq.trans (b := [ea, eax, eay]) rfl rfl) (fun H locs hP9 hD9 hS9 => ?_)
                  replace hP : va_P D vwCl [(ta, .inr (7, [.ref fa, .ref a_draft, .ref ea, .ref a_past, .ref a_slots, .ref a_slotKinds, .ref a_sheets, .ref a_speedX, .ref a_speedY, .ref a_leftward, .ref a_change, .ref a_table, .int fi])), (fa, .inr (1, [.ref fap, .ref faq])), (fap, .inr (3, [.ref fapn])), (fapn, .inl (cy 0, 6, .inl fu)), (faq, .inr (3, [.ref faqn])), (faqn, .inl (cy 0, 6, .inl fv)), (ea, .inr (0, [.ref eax, .ref eay, .int (nI n)])), (eax, .inl (cy 0, 9, .inl xs)), (eay, .inl (cy 0, 9, .inl ys))] H := hP9
                  replace hD : va_D A [(ta, .inr (7, [.ref fa, .ref a_draft, .ref ea, .ref a_past, .ref a_slots, .ref a_slotKinds, .ref a_sheets, .ref a_speedX, .ref a_speedY, .ref a_leftward, .ref a_change, .ref a_table, .int fi])), (fa, .inr (1, [.ref fap, .ref faq])), (fap, .inr (3, [.ref fapn])), (fapn, .inl (cy 0, 6, .inl fu)), (faq, .inr (3, [.ref faqn])), (faqn, .inl (cy 0, 6, .inl fv)), (ea, .inr (0, [.ref eax, .ref eay, .int (nI n)])), (eax, .inl (cy 0, 9, .inl xs)), (eay, .inl (cy 0, 9, .inl ys))] := hD9
                  replace hS := hS9
                  clear hP9 hD9 hS9
                  refine lv_iconst (v := 2) hx hb dX7_indexes_58 (by decide) ?_
                  refine lv_icmp_eq (tgt := 65) hx hb dX7_indexes_59 (by decide) (fun hc5 => ?_) (fun hc5 => ?_)
                  · replace hF := hF.trans (if_pos hc5)
                    refine lv_aload_n hx hb dX7_indexes_65 rfl (lv_at hl 0 rfl) ?_
                    refine va_get (D := D) (ci := 7) (v := .ref fa) (C := RX7) (T := TX7) (N := 13) hx hb hts uX7_indexes_X7 hown hK hP 0 rfl rfl 0 (by decide) (hts _ kX7_indexes_1) (fun _ h9 => h9) rfl dX7_indexes_66 ?_
                    refine lv_iload_n hx hb dX7_indexes_69 rfl (lv_at hl 2 rfl) ?_
                    refine lv_iload_n hx hb dX7_indexes_70 rfl (lv_at hl 3 rfl) ?_
                    refine yk_i [1, 2, 3, 4, 5] (va_runV (As := [.int (nI ki - 6), .int (nI kj - 6)]) (rest := []) ⟨hx, hb, hml, hown, hts⟩ (c_X1_sortAt l D cy fa fap fapn faq faqn fu fv (nI ki - 6) (nI kj - 6) H.size) (cwV 2 hts gX7_indexes_X1_sortAt rfl rfl rfl hv_X1_sortAt (yk_room hRf hRl rfl rfl)) (yk_pv (q := (RX1, TX1, 2)) hG hA hS hK hP hD [1, 2, 3, 4, 5] (by decide +kernel) rfl rfl rfl) rfl rfl hl.1 rfl (lv_room (Nat.le_of_ble_eq_true rfl)) dX7_indexes_71 ⟨Nat.zero_le _, Nat.zero_le _⟩) hP hD hS hA rfl (Eq.trans (b := [fa, fap, fapn, faq, faqn]) rfl rfl) (fun H locs hP9 hD9 hS9 => ?_)
                    replace hP : va_P D vwCl [(ta, .inr (7, [.ref fa, .ref a_draft, .ref ea, .ref a_past, .ref a_slots, .ref a_slotKinds, .ref a_sheets, .ref a_speedX, .ref a_speedY, .ref a_leftward, .ref a_change, .ref a_table, .int fi])), (fa, .inr (1, [.ref fap, .ref faq])), (fap, .inr (3, [.ref fapn])), (fapn, .inl (cy 0, 6, .inl fu)), (faq, .inr (3, [.ref faqn])), (faqn, .inl (cy 0, 6, .inl fv)), (ea, .inr (0, [.ref eax, .ref eay, .int (nI n)])), (eax, .inl (cy 0, 9, .inl xs)), (eay, .inl (cy 0, 9, .inl ys))] H := hP9
                    replace hD : va_D A [(ta, .inr (7, [.ref fa, .ref a_draft, .ref ea, .ref a_past, .ref a_slots, .ref a_slotKinds, .ref a_sheets, .ref a_speedX, .ref a_speedY, .ref a_leftward, .ref a_change, .ref a_table, .int fi])), (fa, .inr (1, [.ref fap, .ref faq])), (fap, .inr (3, [.ref fapn])), (fapn, .inl (cy 0, 6, .inl fu)), (faq, .inr (3, [.ref faqn])), (faqn, .inl (cy 0, 6, .inl fv)), (ea, .inr (0, [.ref eax, .ref eay, .int (nI n)])), (eax, .inl (cy 0, 9, .inl xs)), (eay, .inl (cy 0, 9, .inl ys))] := hD9
                    replace hS := hS9
                    clear hP9 hD9 hS9
                    refine lv_istore (lv' := [(4, .int (f_X1_sortAt fu fv (nI ki - 6) (nI kj - 6))), (0, .ref ta), (1, .int z1_31), (2, .int (nI ki - 6)), (3, .int (nI kj - 6))]) hx hb dX7_indexes_74 hl (by decide) rfl (fun ls hl9 => ?_)
                    replace hl := hl9
                    clear hl9
                    refine lv_iload hx hb dX7_indexes_76 (lv_at hl 0 rfl) ?_
                    refine lv_iconst (v := 5) hx hb dX7_indexes_78 (by decide) ?_
                    refine lv_icmp_ne (tgt := 89) hx hb dX7_indexes_79 (by decide) (fun hc6 => ?_) (fun hc6 => ?_)
                    · replace hF := hF.trans (if_neg hc6)
                      refine lv_iload_n hx hb dX7_indexes_89 rfl (lv_at hl 2 rfl) ?_
                      refine lv_iload hx hb dX7_indexes_90 (lv_at hl 0 rfl) ?_
                      refine lv_iconst (v := 1) hx hb dX7_indexes_92 (by decide) ?_
                      have J9 : ∀ (v8 : Int32) (H : Heap) (locs : List Loc) (ls : Array Slot), v8 = (if (f_X1_sortAt fu fv (nI ki - 6) (nI kj - 6)) = 1 then (-1) else 1) → va_P D vwCl [(ta, .inr (7, [.ref fa, .ref a_draft, .ref ea, .ref a_past, .ref a_slots, .ref a_slotKinds, .ref a_sheets, .ref a_speedX, .ref a_speedY, .ref a_leftward, .ref a_change, .ref a_table, .int fi])), (fa, .inr (1, [.ref fap, .ref faq])), (fap, .inr (3, [.ref fapn])), (fapn, .inl (cy 0, 6, .inl fu)), (faq, .inr (3, [.ref faqn])), (faqn, .inl (cy 0, 6, .inl fv)), (ea, .inr (0, [.ref eax, .ref eay, .int (nI n)])), (eax, .inl (cy 0, 9, .inl xs)), (eay, .inl (cy 0, 9, .inl ys))] H → va_D A [(ta, .inr (7, [.ref fa, .ref a_draft, .ref ea, .ref a_past, .ref a_slots, .ref a_slotKinds, .ref a_sheets, .ref a_speedX, .ref a_speedY, .ref a_leftward, .ref a_change, .ref a_table, .int fi])), (fa, .inr (1, [.ref fap, .ref faq])), (fap, .inr (3, [.ref fapn])), (fapn, .inl (cy 0, 6, .inl fu)), (faq, .inr (3, [.ref faqn])), (faqn, .inl (cy 0, 6, .inl fv)), (ea, .inr (0, [.ref eax, .ref eay, .int (nI n)])), (eax, .inl (cy 0, 9, .inl xs)), (eay, .inl (cy 0, 9, .inl ys))] → va_S A s.heap H locs → lv_has ls 5 [(0, .ref ta), (1, .int z1_31), (2, .int (nI ki - 6)), (3, .int (nI kj - 6)), (4, .int (f_X1_sortAt fu fv (nI ki - 6) (nI kj - 6)))] → W p l e R s m args below meth c H locs 0 0 Q (F0 m 101 ls [.int v8, .int z1_31]) := by
                        clear hP hD hS hl
                        intro v8 H locs ls ev8
                        rw [ev8]
                        clear ev8
                        intro hP hD hS hl
                        refine lv_iadd hx hb dX7_indexes_101 ?_
                        refine lv_istore_n (lv' := [(1, .int (z1_31 + (if (f_X1_sortAt fu fv (nI ki - 6) (nI kj - 6)) = 1 then (-1) else 1))), (0, .ref ta), (2, .int (nI ki - 6)), (3, .int (nI kj - 6)), (4, .int (f_X1_sortAt fu fv (nI ki - 6) (nI kj - 6)))]) hx hb dX7_indexes_102 rfl hl (by decide) rfl (fun ls hl9 => ?_)
                        replace hl := hl9
                        clear hl9
                        refine lv_iinc (v := ((nI kj - 6) + 1)) (lv' := [(3, .int ((nI kj - 6) + 1)), (1, .int (z1_31 + (if (f_X1_sortAt fu fv (nI ki - 6) (nI kj - 6)) = 1 then (-1) else 1))), (0, .ref ta), (2, .int (nI ki - 6)), (4, .int (f_X1_sortAt fu fv (nI ki - 6) (nI kj - 6)))]) hx hb dX7_indexes_103 hl (k := 3) rfl (yk_incg _) (by decide) rfl (fun ls hl9 => ?_)
                        replace hl := hl9
                        clear hl9
                        refine lv_goto (tgt := 31) hx hb dX7_indexes_106 (by decide) ?_
                        obtain ⟨n9, rfl⟩ : ∃ n9, n31 = n9 + 1 := ⟨n31 - 1, by omega⟩
                        rw [yk_off kj 6] at hl
                        exact ih31 n9 (kj + 1) (z1_31 + (if (f_X1_sortAt fu fv (nI ki - 6) (nI kj - 6)) = 1 then (-1) else 1)) _ _ _ (by omega) (by omega)  hF hP hD hS (lv_sub hl [2, 1, 3, 0] rfl)
                      refine lv_icmp_ne (tgt := 100) hx hb dX7_indexes_93 (by decide) (fun hc7 => ?_) (fun hc7 => ?_)
                      · refine lv_iconst (v := 1) hx hb dX7_indexes_100 (by decide) ?_
                        exact J9 _ _ _ _ ((if_neg hc7).symm) hP hD hS (lv_sub hl [1, 2, 3, 4, 0] rfl)
                      · refine lv_iconst (v := (-1)) hx hb dX7_indexes_96 (by decide) ?_
                        refine lv_goto (tgt := 101) hx hb dX7_indexes_97 (by decide) ?_
                        exact J9 _ _ _ _ ((if_pos hc7).symm) hP hD hS (lv_sub hl [1, 2, 3, 4, 0] rfl)
                    · replace hF := hF.trans (if_pos hc6)
                      refine lv_aload_n hx hb dX7_indexes_82 rfl (lv_at hl 1 rfl) ?_
                      refine lv_ldc (v := (-1000006)) hx hb hown (hts _ kX7_indexes_2) dX7_indexes_83 ?_
                      refine yk_i [0] (va_runV (As := [.int (-1000006)]) (rest := []) ⟨hx, hb, hml, hown, hts⟩ (c_X7_finding l D cy ta fa a_draft ea a_past a_slots a_slotKinds a_sheets a_speedX a_speedY a_leftward a_change a_table fi (-1000006) H.size) (cwV 1 hts gX7_indexes_X7_finding rfl rfl rfl hv_X7_finding (yk_room hRf hRl rfl rfl)) (yk_pv (q := (RX7, TX7, 13)) hG hA hS hK hP hD [0] (by decide +kernel) rfl rfl rfl) rfl rfl hl.1 rfl (lv_room (Nat.le_of_ble_eq_true rfl)) dX7_indexes_85 ⟨Nat.zero_le _, Nat.zero_le _⟩) hP hD hS hA rfl (Eq.trans (b := [ta]) rfl rfl) (fun H locs hP9 hD9 hS9 => ?_)
                      replace hP : va_P D vwCl [(ta, .inr (7, [.ref fa, .ref a_draft, .ref ea, .ref a_past, .ref a_slots, .ref a_slotKinds, .ref a_sheets, .ref a_speedX, .ref a_speedY, .ref a_leftward, .ref a_change, .ref a_table, .int ((f_X7_finding fi (-1000006)).2)])), (fa, .inr (1, [.ref fap, .ref faq])), (fap, .inr (3, [.ref fapn])), (fapn, .inl (cy 0, 6, .inl fu)), (faq, .inr (3, [.ref faqn])), (faqn, .inl (cy 0, 6, .inl fv)), (ea, .inr (0, [.ref eax, .ref eay, .int (nI n)])), (eax, .inl (cy 0, 9, .inl xs)), (eay, .inl (cy 0, 9, .inl ys))] H := hP9
                      replace hD : va_D A [(ta, .inr (7, [.ref fa, .ref a_draft, .ref ea, .ref a_past, .ref a_slots, .ref a_slotKinds, .ref a_sheets, .ref a_speedX, .ref a_speedY, .ref a_leftward, .ref a_change, .ref a_table, .int ((f_X7_finding fi (-1000006)).2)])), (fa, .inr (1, [.ref fap, .ref faq])), (fap, .inr (3, [.ref fapn])), (fapn, .inl (cy 0, 6, .inl fu)), (faq, .inr (3, [.ref faqn])), (faqn, .inl (cy 0, 6, .inl fv)), (ea, .inr (0, [.ref eax, .ref eay, .int (nI n)])), (eax, .inl (cy 0, 9, .inl xs)), (eay, .inl (cy 0, 9, .inl ys))] := hD9
                      replace hS := hS9
                      clear hP9 hD9 hS9
                      have hF : f_X7_indexes fu fv xs ys n fi = (((f_X7_finding fi (-1000006)).1), ((f_X7_finding fi (-1000006)).2)) := hF
                      have hf0 := yk_fst hF
                      have hg0 := yk_snd hF
                      rw [hf0, hg0] at hQ
                      exact hQ _ _ _ _ dX7_indexes_88 hP hS
                  · replace hF := hF.trans (if_neg hc5)
                    refine lv_goto (tgt := 103) hx hb dX7_indexes_62 (by decide) ?_
                    refine lv_iinc (v := ((nI kj - 6) + 1)) (lv' := [(3, .int ((nI kj - 6) + 1)), (0, .ref ta), (1, .int z1_31), (2, .int (nI ki - 6))]) hx hb dX7_indexes_103 hl (k := 3) rfl (yk_incg _) (by decide) rfl (fun ls hl9 => ?_)
                    replace hl := hl9
                    clear hl9
                    refine lv_goto (tgt := 31) hx hb dX7_indexes_106 (by decide) ?_
                    obtain ⟨n9, rfl⟩ : ∃ n9, n31 = n9 + 1 := ⟨n31 - 1, by omega⟩
                    rw [yk_off kj 6] at hl
                    exact ih31 n9 (kj + 1) z1_31 _ _ _ (by omega) (by omega)  hF hP hD hS (lv_sub hl [1, 2, 3, 0] rfl)
          rw [show (-6 : Int32) = nI 0 - 6 from rfl] at hl
          exact L31 (13 + 1) 13 0 z1_22 _ _ _ (Nat.lt_succ_self _) (by omega)  hF hP hD hS (lv_sub hl [1, 2, 3, 0] rfl)
    rw [show (-6 : Int32) = nI 0 - 6 from rfl] at hl
    exact L22 (13 + 1) 13 0 0 _ _ _ (Nat.lt_succ_self _) (by omega)  hF hP hD hS (lv_sub hl [2, 1, 0] rfl)
  · replace hF := hF.trans (if_pos hc1)
    refine lv_aload_n hx hb dX7_indexes_10 rfl (lv_at hl 0 rfl) ?_
    refine lv_ldc (v := (-1000004)) hx hb hown (hts _ kX7_indexes_3) dX7_indexes_11 ?_
    refine yk_i [0] (va_runV (As := [.int (-1000004)]) (rest := []) ⟨hx, hb, hml, hown, hts⟩ (c_X7_finding l D cy ta fa a_draft ea a_past a_slots a_slotKinds a_sheets a_speedX a_speedY a_leftward a_change a_table fi (-1000004) H.size) (cwV 1 hts gX7_indexes_X7_finding rfl rfl rfl hv_X7_finding (yk_room hRf hRl rfl rfl)) (yk_pv (q := (RX7, TX7, 13)) hG hA hS hK hP hD [0] (by decide +kernel) rfl rfl rfl) rfl rfl hl.1 rfl (lv_room (Nat.le_of_ble_eq_true rfl)) dX7_indexes_13 ⟨Nat.zero_le _, Nat.zero_le _⟩) hP hD hS hA rfl (Eq.trans (b := [ta]) rfl rfl) (fun H locs hP9 hD9 hS9 => ?_)
    replace hP : va_P D vwCl [(ta, .inr (7, [.ref fa, .ref a_draft, .ref ea, .ref a_past, .ref a_slots, .ref a_slotKinds, .ref a_sheets, .ref a_speedX, .ref a_speedY, .ref a_leftward, .ref a_change, .ref a_table, .int ((f_X7_finding fi (-1000004)).2)])), (fa, .inr (1, [.ref fap, .ref faq])), (fap, .inr (3, [.ref fapn])), (fapn, .inl (cy 0, 6, .inl fu)), (faq, .inr (3, [.ref faqn])), (faqn, .inl (cy 0, 6, .inl fv)), (ea, .inr (0, [.ref eax, .ref eay, .int (nI n)])), (eax, .inl (cy 0, 9, .inl xs)), (eay, .inl (cy 0, 9, .inl ys))] H := hP9
    replace hD : va_D A [(ta, .inr (7, [.ref fa, .ref a_draft, .ref ea, .ref a_past, .ref a_slots, .ref a_slotKinds, .ref a_sheets, .ref a_speedX, .ref a_speedY, .ref a_leftward, .ref a_change, .ref a_table, .int ((f_X7_finding fi (-1000004)).2)])), (fa, .inr (1, [.ref fap, .ref faq])), (fap, .inr (3, [.ref fapn])), (fapn, .inl (cy 0, 6, .inl fu)), (faq, .inr (3, [.ref faqn])), (faqn, .inl (cy 0, 6, .inl fv)), (ea, .inr (0, [.ref eax, .ref eay, .int (nI n)])), (eax, .inl (cy 0, 9, .inl xs)), (eay, .inl (cy 0, 9, .inl ys))] := hD9
    replace hS := hS9
    clear hP9 hD9 hS9
    have hF : f_X7_indexes fu fv xs ys n fi = (((f_X7_finding fi (-1000004)).1), ((f_X7_finding fi (-1000004)).2)) := hF
    have hf0 := yk_fst hF
    have hg0 := yk_snd hF
    rw [hf0, hg0] at hQ
    exact hQ _ _ _ _ dX7_indexes_16 hP hS
