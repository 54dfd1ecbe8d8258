
theorem kX7_sorts_0 : Cond.constant RX7 83 (-1000001) ∈ wsX7_sorts := by decide +kernel
theorem kX7_sorts_1 : Cond.fieldLink RX7 10 "FlowPlane" "flow" "LFlowPlane$Flow;" ∈ wsX7_sorts := by decide +kernel
theorem uX7_sorts_X7 : ∀ w ∈ u_ws RX7 TX7 13, w ∈ wsX7_sorts := by decide +kernel
def l_X7_sorts_32 (fu : Nat → Int32) (fv : Nat → Int32) (fi : Int32) (px : Int32) (ki : Nat) (z2_22 : Int32) : Nat → Nat → Int32 → Int32
  | 0, kj, z2_32 => z2_32
  | fu_X7_sorts_32 + 1, kj, z2_32 => (if 6 < (nI kj - 6) then z2_32 else (l_X7_sorts_32 fu fv fi px ki z2_22 fu_X7_sorts_32 (kj + 1) (if (f_X1_isRest fu fv (nI ki - 6) (nI kj - 6)) = 0 then z2_32 else (if (f_X1_sortAt fu fv (nI ki - 6) (nI kj - 6)) = px then (z2_32 + 1) else z2_32))))
def l_X7_sorts_22 (fu : Nat → Int32) (fv : Nat → Int32) (fi : Int32) (px : Int32) : Nat → Nat → Int32 → Int32
  | 0, ki, z2_22 => z2_22
  | fu_X7_sorts_22 + 1, ki, z2_22 => (if 6 < (nI ki - 6) then z2_22 else (l_X7_sorts_22 fu fv fi px fu_X7_sorts_22 (ki + 1) (l_X7_sorts_32 fu fv fi px ki z2_22 (13 + 1) 0 z2_22)))
def f_X7_sorts (fu : Nat → Int32) (fv : Nat → Int32) (fi : Int32) (px : Int32) : Int32 × Int32 := (if px < 1 then (((f_X7_finding fi (-1000001)).1), ((f_X7_finding fi (-1000001)).2)) else (if px ≤ 5 then ((l_X7_sorts_22 fu fv fi px (13 + 1) 0 0), fi) else (((f_X7_finding fi (-1000001)).1), ((f_X7_finding fi (-1000001)).2))))
set_option maxHeartbeats 400000000 in
set_option maxRecDepth 100000 in
theorem c_X7_sorts (l : Launch) (D : va_G) (cy : Nat → ClassId) (ta : Nat) (fa : Nat) (fap : Nat) (fapn : Nat) (faq : Nat) (faqn : Nat) (a_draft : Nat) (a_fence : Nat) (a_past : Nat) (a_slots : Nat) (a_slotKinds : Nat) (a_sheets : Nat) (a_speedX : Nat) (a_speedY : Nat) (a_leftward : Nat) (a_change : Nat) (a_table : Nat) (fu : Nat → Int32) (fv : Nat → Int32) (fi : Int32) (px : Int32) : yk_Ci l D vwCl (yk_ty cy) yX7_sorts wsX7_sorts 3 66 [.ref ta, .int px] [(ta, .inr (7, [.ref fa, .ref a_draft, .ref a_fence, .ref a_past, .ref a_slots, .ref a_slotKinds, .ref a_sheets, .ref a_speedX, .ref a_speedY, .ref a_leftward, .ref a_change, .ref a_table, .int fi])), (fa, .inr (1, [.ref fap, .ref faq])), (fap, .inr (3, [.ref fapn])), (fapn, .inl (cy 0, 6, .inl fu)), (faq, .inr (3, [.ref faqn])), (faqn, .inl (cy 0, 6, .inl fv))] ((f_X7_sorts fu fv fi px).1) [(ta, .inr (7, [.ref fa, .ref a_draft, .ref a_fence, .ref a_past, .ref a_slots, .ref a_slotKinds, .ref a_sheets, .ref a_speedX, .ref a_speedY, .ref a_leftward, .ref a_change, .ref a_table, .int ((f_X7_sorts fu fv fi px).2)])), (fa, .inr (1, [.ref fap, .ref faq])), (fap, .inr (3, [.ref fapn])), (fapn, .inl (cy 0, 6, .inl fu)), (faq, .inr (3, [.ref faqn])), (faqn, .inl (cy 0, 6, .inl fv))] := by
  refine yk_eI (cc := cX7_sorts) (maxL := 5) (by decide) rfl (Nat.le_of_ble_eq_true rfl) rfl ?_
  intro p e R s m args below meth c A Q ls H locs hx hb hml hown hts hRf hRl hA hK hG hP hD hS hl hQ
  have hP : va_P D vwCl [(ta, .inr (7, [.ref fa, .ref a_draft, .ref a_fence, .ref a_past, .ref a_slots, .ref a_slotKinds, .ref a_sheets, .ref a_speedX, .ref a_speedY, .ref a_leftward, .ref a_change, .ref a_table, .int fi])), (fa, .inr (1, [.ref fap, .ref faq])), (fap, .inr (3, [.ref fapn])), (fapn, .inl (cy 0, 6, .inl fu)), (faq, .inr (3, [.ref faqn])), (faqn, .inl (cy 0, 6, .inl fv))] H := hP
  have hl : lv_has ls 5 [(0, .ref ta), (1, .int px)] := hl
  have hown : s.vm.findClass RX7 = some m.cls := hown
  have hF : (f_X7_sorts fu fv fi px) = (f_X7_sorts fu fv fi px) := rfl
  refine lv_iload_n hx hb dX7_sorts_0 rfl (lv_at hl 1 rfl) ?_
  refine lv_iconst (v := 1) hx hb dX7_sorts_1 (by decide) ?_
  refine lv_icmp_lt (tgt := 10) hx hb dX7_sorts_2 (by decide) (fun hc1 => ?_) (fun hc1 => ?_)
  · replace hF := hF.trans (if_pos hc1)
    refine lv_aload_n hx hb dX7_sorts_10 rfl (lv_at hl 0 rfl) ?_
    refine lv_ldc (v := (-1000001)) hx hb hown (hts _ kX7_sorts_0) dX7_sorts_11 ?_
    refine yk_i [0] (va_runV (As := [.int (-1000001)]) (rest := []) ⟨hx, hb, hml, hown, hts⟩ (c_X7_finding l D cy ta fa a_draft a_fence a_past a_slots a_slotKinds a_sheets a_speedX a_speedY a_leftward a_change a_table fi (-1000001) H.size) (cwV 1 hts gX7_sorts_X7_finding rfl rfl rfl hv_X7_finding (yk_room hRf hRl rfl rfl)) (yk_pv (q := (RX7, TX7, 13)) hG hA hS hK hP hD [0] (by decide +kernel) rfl rfl rfl) rfl rfl hl.1 rfl (lv_room (Nat.le_of_ble_eq_true rfl)) dX7_sorts_13 ⟨Nat.zero_le _, Nat.zero_le _⟩) hP hD hS hA rfl (Eq.trans (b := [ta]) rfl rfl) (fun H locs hP9 hD9 hS9 => ?_)
    replace hP : va_P D vwCl [(ta, .inr (7, [.ref fa, .ref a_draft, .ref a_fence, .ref a_past, .ref a_slots, .ref a_slotKinds, .ref a_sheets, .ref a_speedX, .ref a_speedY, .ref a_leftward, .ref a_change, .ref a_table, .int ((f_X7_finding fi (-1000001)).2)])), (fa, .inr (1, [.ref fap, .ref faq])), (fap, .inr (3, [.ref fapn])), (fapn, .inl (cy 0, 6, .inl fu)), (faq, .inr (3, [.ref faqn])), (faqn, .inl (cy 0, 6, .inl fv))] H := hP9
    replace hD : va_D A [(ta, .inr (7, [.ref fa, .ref a_draft, .ref a_fence, .ref a_past, .ref a_slots, .ref a_slotKinds, .ref a_sheets, .ref a_speedX, .ref a_speedY, .ref a_leftward, .ref a_change, .ref a_table, .int ((f_X7_finding fi (-1000001)).2)])), (fa, .inr (1, [.ref fap, .ref faq])), (fap, .inr (3, [.ref fapn])), (fapn, .inl (cy 0, 6, .inl fu)), (faq, .inr (3, [.ref faqn])), (faqn, .inl (cy 0, 6, .inl fv))] := hD9
    replace hS := hS9
    clear hP9 hD9 hS9
    have hF : f_X7_sorts fu fv fi px = (((f_X7_finding fi (-1000001)).1), ((f_X7_finding fi (-1000001)).2)) := hF
    have hf0 := yk_fst hF
    have hg0 := yk_snd hF
    rw [hf0, hg0] at hQ
    exact hQ _ _ _ _ dX7_sorts_16 hP hS
  · replace hF := hF.trans (if_neg hc1)
    refine lv_iload_n hx hb dX7_sorts_5 rfl (lv_at hl 1 rfl) ?_
    refine lv_iconst (v := 5) hx hb dX7_sorts_6 (by decide) ?_
    refine lv_icmp_le (tgt := 17) hx hb dX7_sorts_7 (by decide) (fun hc2 => ?_) (fun hc2 => ?_)
    · replace hF := hF.trans (if_pos hc2)
      refine lv_iconst (v := 0) hx hb dX7_sorts_17 (by decide) ?_
      refine lv_istore_n (lv' := [(2, .int 0), (0, .ref ta), (1, .int px)]) hx hb dX7_sorts_18 rfl hl (by decide) rfl (fun ls hl9 => ?_)
      replace hl := hl9
      clear hl9
      refine lv_bipush (v := (-6)) hx hb dX7_sorts_19 (by decide) ?_
      refine lv_istore_n (lv' := [(3, .int (-6)), (2, .int 0), (0, .ref ta), (1, .int px)]) hx hb dX7_sorts_21 rfl hl (by decide) rfl (fun ls hl9 => ?_)
      replace hl := hl9
      clear hl9
      have J10 : ∀ (H : Heap) (locs : List Loc) (ls : Array Slot), va_P D vwCl [(ta, .inr (7, [.ref fa, .ref a_draft, .ref a_fence, .ref a_past, .ref a_slots, .ref a_slotKinds, .ref a_sheets, .ref a_speedX, .ref a_speedY, .ref a_leftward, .ref a_change, .ref a_table, .int fi])), (fa, .inr (1, [.ref fap, .ref faq])), (fap, .inr (3, [.ref fapn])), (fapn, .inl (cy 0, 6, .inl fu)), (faq, .inr (3, [.ref faqn])), (faqn, .inl (cy 0, 6, .inl fv))] H → va_D A [(ta, .inr (7, [.ref fa, .ref a_draft, .ref a_fence, .ref a_past, .ref a_slots, .ref a_slotKinds, .ref a_sheets, .ref a_speedX, .ref a_speedY, .ref a_leftward, .ref a_change, .ref a_table, .int fi])), (fa, .inr (1, [.ref fap, .ref faq])), (fap, .inr (3, [.ref fapn])), (fapn, .inl (cy 0, 6, .inl fu)), (faq, .inr (3, [.ref faqn])), (faqn, .inl (cy 0, 6, .inl fv))] → va_S A s.heap H locs → lv_has ls 5 [(0, .ref ta), (1, .int px), (2, .int (l_X7_sorts_22 fu fv fi px (13 + 1) 0 0))] → W p l e R s m args below meth c H locs 0 0 Q (F0 m 81 ls []) := by
        clear hP hD hS hl
        intro H locs ls hP hD hS hl
        refine lv_iload_n hx hb dX7_sorts_81 rfl (lv_at hl 2 rfl) ?_
        have hF : f_X7_sorts fu fv fi px = ((l_X7_sorts_22 fu fv fi px (13 + 1) 0 0), fi) := hF
        have hf0 := yk_fst hF
        have hg0 := yk_snd hF
        rw [hf0, hg0] at hQ
        exact hQ _ _ _ _ dX7_sorts_82 hP hS
      have L22 : ∀ (M9 n22 ki : Nat) (z2_22 : Int32) (H : Heap) (locs : List Loc) (ls : Array Slot), n22 < M9 → ki + n22 = 13 → (l_X7_sorts_22 fu fv fi px (13 + 1) 0 0) = (l_X7_sorts_22 fu fv fi px (n22 + 1) ki z2_22) → va_P D vwCl [(ta, .inr (7, [.ref fa, .ref a_draft, .ref a_fence, .ref a_past, .ref a_slots, .ref a_slotKinds, .ref a_sheets, .ref a_speedX, .ref a_speedY, .ref a_leftward, .ref a_change, .ref a_table, .int fi])), (fa, .inr (1, [.ref fap, .ref faq])), (fap, .inr (3, [.ref fapn])), (fapn, .inl (cy 0, 6, .inl fu)), (faq, .inr (3, [.ref faqn])), (faqn, .inl (cy 0, 6, .inl fv))] H → va_D A [(ta, .inr (7, [.ref fa, .ref a_draft, .ref a_fence, .ref a_past, .ref a_slots, .ref a_slotKinds, .ref a_sheets, .ref a_speedX, .ref a_speedY, .ref a_leftward, .ref a_change, .ref a_table, .int fi])), (fa, .inr (1, [.ref fap, .ref faq])), (fap, .inr (3, [.ref fapn])), (fapn, .inl (cy 0, 6, .inl fu)), (faq, .inr (3, [.ref faqn])), (faqn, .inl (cy 0, 6, .inl fv))] → va_S A s.heap H locs → lv_has ls 5 [(0, .ref ta), (1, .int px), (2, .int z2_22), (3, .int (nI ki - 6))] → W p l e R s m args below meth c H locs 0 0 Q (F0 m 22 ls []) := by
        clear hP hD hS hl
        intro M9
        induction M9 with
        | zero => intro n22 ki _ _ _ _ hn; exact absurd hn (Nat.not_lt_zero _)
        | succ M9 ih22 =>
          intro n22 ki z2_22 H locs ls hn22 hk22 hV22 hP hD hS hl
          refine lv_iload_n hx hb dX7_sorts_22 rfl (lv_at hl 3 rfl) ?_
          refine lv_bipush (v := 6) hx hb dX7_sorts_23 (by decide) ?_
          refine lv_icmp_gt (tgt := 81) hx hb dX7_sorts_25 (by decide) (fun hc3 => ?_) (fun hc3 => ?_)
          · replace hV22 := hV22.trans (if_pos hc3)
            have hV22 : (l_X7_sorts_22 fu fv fi px (13 + 1) 0 0) = z2_22 := hV22
            have J10 := J10
            rw [hV22] at J10
            exact J10 _ _ _ hP hD hS (lv_sub hl [0, 1, 2] rfl)
          · replace hV22 := hV22.trans (if_neg hc3)
            have hlt22 : ki < 13 := yk_lt6 hk22 hc3
            refine lv_bipush (v := (-6)) hx hb dX7_sorts_28 (by decide) ?_
            refine lv_istore (lv' := [(4, .int (-6)), (0, .ref ta), (1, .int px), (2, .int z2_22), (3, .int (nI ki - 6))]) hx hb dX7_sorts_30 hl (by decide) rfl (fun ls hl9 => ?_)
            replace hl := hl9
            clear hl9
            have J9 : ∀ (H : Heap) (locs : List Loc) (ls : Array Slot), va_P D vwCl [(ta, .inr (7, [.ref fa, .ref a_draft, .ref a_fence, .ref a_past, .ref a_slots, .ref a_slotKinds, .ref a_sheets, .ref a_speedX, .ref a_speedY, .ref a_leftward, .ref a_change, .ref a_table, .int fi])), (fa, .inr (1, [.ref fap, .ref faq])), (fap, .inr (3, [.ref fapn])), (fapn, .inl (cy 0, 6, .inl fu)), (faq, .inr (3, [.ref faqn])), (faqn, .inl (cy 0, 6, .inl fv))] H → va_D A [(ta, .inr (7, [.ref fa, .ref a_draft, .ref a_fence, .ref a_past, .ref a_slots, .ref a_slotKinds, .ref a_sheets, .ref a_speedX, .ref a_speedY, .ref a_leftward, .ref a_change, .ref a_table, .int fi])), (fa, .inr (1, [.ref fap, .ref faq])), (fap, .inr (3, [.ref fapn])), (fapn, .inl (cy 0, 6, .inl fu)), (faq, .inr (3, [.ref faqn])), (faqn, .inl (cy 0, 6, .inl fv))] → va_S A s.heap H locs → lv_has ls 5 [(0, .ref ta), (1, .int px), (2, .int (l_X7_sorts_32 fu fv fi px ki z2_22 (13 + 1) 0 z2_22)), (3, .int (nI ki - 6))] → W p l e R s m args below meth c H locs 0 0 Q (F0 m 75 ls []) := by
              clear hP hD hS hl
              intro H locs ls hP hD hS hl
              refine lv_iinc (v := ((nI ki - 6) + 1)) (lv' := [(3, .int ((nI ki - 6) + 1)), (0, .ref ta), (1, .int px), (2, .int (l_X7_sorts_32 fu fv fi px ki z2_22 (13 + 1) 0 z2_22))]) hx hb dX7_sorts_75 hl (k := 3) rfl (yk_incg _) (by decide) rfl (fun ls hl9 => ?_)
              replace hl := hl9
              clear hl9
              refine lv_goto (tgt := 22) hx hb dX7_sorts_78 (by decide) ?_
              obtain ⟨n9, rfl⟩ : ∃ n9, n22 = n9 + 1 := ⟨n22 - 1, by omega⟩
              rw [yk_off ki 6] at hl
              exact ih22 n9 (ki + 1) (l_X7_sorts_32 fu fv fi px ki z2_22 (13 + 1) 0 z2_22) _ _ _ (by omega) (by omega)  hV22 hP hD hS (lv_sub hl [1, 2, 3, 0] rfl)
            have L32 : ∀ (M9 n32 kj : Nat) (z2_32 : Int32) (H : Heap) (locs : List Loc) (ls : Array Slot), n32 < M9 → kj + n32 = 13 → (l_X7_sorts_32 fu fv fi px ki z2_22 (13 + 1) 0 z2_22) = (l_X7_sorts_32 fu fv fi px ki z2_22 (n32 + 1) kj z2_32) → va_P D vwCl [(ta, .inr (7, [.ref fa, .ref a_draft, .ref a_fence, .ref a_past, .ref a_slots, .ref a_slotKinds, .ref a_sheets, .ref a_speedX, .ref a_speedY, .ref a_leftward, .ref a_change, .ref a_table, .int fi])), (fa, .inr (1, [.ref fap, .ref faq])), (fap, .inr (3, [.ref fapn])), (fapn, .inl (cy 0, 6, .inl fu)), (faq, .inr (3, [.ref faqn])), (faqn, .inl (cy 0, 6, .inl fv))] H → va_D A [(ta, .inr (7, [.ref fa, .ref a_draft, .ref a_fence, .ref a_past, .ref a_slots, .ref a_slotKinds, .ref a_sheets, .ref a_speedX, .ref a_speedY, .ref a_leftward, .ref a_change, .ref a_table, .int fi])), (fa, .inr (1, [.ref fap, .ref faq])), (fap, .inr (3, [.ref fapn])), (fapn, .inl (cy 0, 6, .inl fu)), (faq, .inr (3, [.ref faqn])), (faqn, .inl (cy 0, 6, .inl fv))] → va_S A s.heap H locs → lv_has ls 5 [(0, .ref ta), (1, .int px), (2, .int z2_32), (3, .int (nI ki - 6)), (4, .int (nI kj - 6))] → W p l e R s m args below meth c H locs 0 0 Q (F0 m 32 ls []) := by
              clear hP hD hS hl
              intro M9
              induction M9 with
              | zero => intro n32 kj _ _ _ _ hn; exact absurd hn (Nat.not_lt_zero _)
              | succ M9 ih32 =>
                intro n32 kj z2_32 H locs ls hn32 hk32 hV32 hP hD hS hl
                refine lv_iload hx hb dX7_sorts_32 (lv_at hl 4 rfl) ?_
                refine lv_bipush (v := 6) hx hb dX7_sorts_34 (by decide) ?_
                refine lv_icmp_gt (tgt := 75) hx hb dX7_sorts_36 (by decide) (fun hc4 => ?_) (fun hc4 => ?_)
                · replace hV32 := hV32.trans (if_pos hc4)
                  have hV32 : (l_X7_sorts_32 fu fv fi px ki z2_22 (13 + 1) 0 z2_22) = z2_32 := hV32
                  have J9 := J9
                  rw [hV32] at J9
                  exact J9 _ _ _ hP hD hS (lv_sub hl [0, 1, 2, 3] rfl)
                · replace hV32 := hV32.trans (if_neg hc4)
                  have hlt32 : kj < 13 := yk_lt6 hk32 hc4
                  refine lv_aload_n hx hb dX7_sorts_39 rfl (lv_at hl 0 rfl) ?_
                  refine va_get (D := D) (ci := 7) (v := .ref fa) (C := RX7) (T := TX7) (N := 13) hx hb hts uX7_sorts_X7 hown hK hP 0 rfl rfl 0 (by decide) (hts _ kX7_sorts_1) (fun _ h9 => h9) rfl dX7_sorts_40 ?_
                  refine lv_iload_n hx hb dX7_sorts_43 rfl (lv_at hl 3 rfl) ?_
                  refine lv_iload hx hb dX7_sorts_44 (lv_at hl 4 rfl) ?_
                  refine yk_i [1, 2, 3, 4, 5] (va_runV (As := [.int (nI ki - 6), .int (nI kj - 6)]) (rest := []) ⟨hx, hb, hml, hown, hts⟩ (c_X1_isRest l D cy fa fap fapn faq faqn fu fv (nI ki - 6) (nI kj - 6) H.size) (cwV 2 hts gX7_sorts_X1_isRest rfl rfl rfl hv_X1_isRest (yk_room hRf hRl rfl rfl)) (yk_pv (q := (RX1, TX1, 2)) hG hA hS hK hP hD [1, 2, 3, 4, 5] (by decide +kernel) rfl rfl rfl) rfl rfl hl.1 rfl (lv_room (Nat.le_of_ble_eq_true rfl)) dX7_sorts_46 ⟨Nat.zero_le _, Nat.zero_le _⟩) hP hD hS hA rfl (Eq.trans (b := [fa, fap, fapn, faq, faqn]) rfl rfl) (fun H locs hP9 hD9 hS9 => ?_)
                  replace hP : va_P D vwCl [(ta, .inr (7, [.ref fa, .ref a_draft, .ref a_fence, .ref a_past, .ref a_slots, .ref a_slotKinds, .ref a_sheets, .ref a_speedX, .ref a_speedY, .ref a_leftward, .ref a_change, .ref a_table, .int fi])), (fa, .inr (1, [.ref fap, .ref faq])), (fap, .inr (3, [.ref fapn])), (fapn, .inl (cy 0, 6, .inl fu)), (faq, .inr (3, [.ref faqn])), (faqn, .inl (cy 0, 6, .inl fv))] H := hP9
                  replace hD : va_D A [(ta, .inr (7, [.ref fa, .ref a_draft, .ref a_fence, .ref a_past, .ref a_slots, .ref a_slotKinds, .ref a_sheets, .ref a_speedX, .ref a_speedY, .ref a_leftward, .ref a_change, .ref a_table, .int fi])), (fa, .inr (1, [.ref fap, .ref faq])), (fap, .inr (3, [.ref fapn])), (fapn, .inl (cy 0, 6, .inl fu)), (faq, .inr (3, [.ref faqn])), (faqn, .inl (cy 0, 6, .inl fv))] := hD9
                  replace hS := hS9
                  clear hP9 hD9 hS9
                  have J8 : ∀ (v7 : Int32) (H : Heap) (locs : List Loc) (ls : Array Slot), v7 = (if (f_X1_isRest fu fv (nI ki - 6) (nI kj - 6)) = 0 then z2_32 else (if (f_X1_sortAt fu fv (nI ki - 6) (nI kj - 6)) = px then (z2_32 + 1) else z2_32)) → va_P D vwCl [(ta, .inr (7, [.ref fa, .ref a_draft, .ref a_fence, .ref a_past, .ref a_slots, .ref a_slotKinds, .ref a_sheets, .ref a_speedX, .ref a_speedY, .ref a_leftward, .ref a_change, .ref a_table, .int fi])), (fa, .inr (1, [.ref fap, .ref faq])), (fap, .inr (3, [.ref fapn])), (fapn, .inl (cy 0, 6, .inl fu)), (faq, .inr (3, [.ref faqn])), (faqn, .inl (cy 0, 6, .inl fv))] H → va_D A [(ta, .inr (7, [.ref fa, .ref a_draft, .ref a_fence, .ref a_past, .ref a_slots, .ref a_slotKinds, .ref a_sheets, .ref a_speedX, .ref a_speedY, .ref a_leftward, .ref a_change, .ref a_table, .int fi])), (fa, .inr (1, [.ref fap, .ref faq])), (fap, .inr (3, [.ref fapn])), (fapn, .inl (cy 0, 6, .inl fu)), (faq, .inr (3, [.ref faqn])), (faqn, .inl (cy 0, 6, .inl fv))] → va_S A s.heap H locs → lv_has ls 5 [(0, .ref ta), (1, .int px), (2, .int v7), (3, .int (nI ki - 6)), (4, .int (nI kj - 6))] → W p l e R s m args below meth c H locs 0 0 Q (F0 m 69 ls []) := by
                    clear hP hD hS hl
                    intro v7 H locs ls ev7
                    rw [ev7]
                    clear ev7
                    intro hP hD hS hl
                    refine lv_iinc (v := ((nI kj - 6) + 1)) (lv' := [(4, .int ((nI kj - 6) + 1)), (0, .ref ta), (1, .int px), (2, .int (if (f_X1_isRest fu fv (nI ki - 6) (nI kj - 6)) = 0 then z2_32 else (if (f_X1_sortAt fu fv (nI ki - 6) (nI kj - 6)) = px then (z2_32 + 1) else z2_32))), (3, .int (nI ki - 6))]) hx hb dX7_sorts_69 hl (k := 4) rfl (yk_incg _) (by decide) rfl (fun ls hl9 => ?_)
                    replace hl := hl9
                    clear hl9
                    refine lv_goto (tgt := 32) hx hb dX7_sorts_72 (by decide) ?_
                    obtain ⟨n9, rfl⟩ : ∃ n9, n32 = n9 + 1 := ⟨n32 - 1, by omega⟩
                    rw [yk_off kj 6] at hl
                    exact ih32 n9 (kj + 1) (if (f_X1_isRest fu fv (nI ki - 6) (nI kj - 6)) = 0 then z2_32 else (if (f_X1_sortAt fu fv (nI ki - 6) (nI kj - 6)) = px then (z2_32 + 1) else z2_32)) _ _ _ (by omega) (by omega)  hV32 hP hD hS (lv_sub hl [1, 2, 3, 4, 0] rfl)
                  refine lv_if_eq (tgt := 69) hx hb dX7_sorts_49 (by decide) (fun hc5 => ?_) (fun hc5 => ?_)
                  · exact J8 _ _ _ _ ((if_pos hc5).symm) hP hD hS (lv_sub hl [0, 1, 2, 3, 4] rfl)
                  · refine lv_aload_n hx hb dX7_sorts_52 rfl (lv_at hl 0 rfl) ?_
                    refine va_get (D := D) (ci := 7) (v := .ref fa) (C := RX7) (T := TX7) (N := 13) hx hb hts uX7_sorts_X7 hown hK hP 0 rfl rfl 0 (by decide) (hts _ kX7_sorts_1) (fun _ h9 => h9) rfl dX7_sorts_53 ?_
                    refine lv_iload_n hx hb dX7_sorts_56 rfl (lv_at hl 3 rfl) ?_
                    refine lv_iload hx hb dX7_sorts_57 (lv_at hl 4 rfl) ?_
                    refine yk_i [1, 2, 3, 4, 5] (va_runV (As := [.int (nI ki - 6), .int (nI kj - 6)]) (rest := []) ⟨hx, hb, hml, hown, hts⟩ (c_X1_sortAt l D cy fa fap fapn faq faqn fu fv (nI ki - 6) (nI kj - 6) H.size) (cwV 2 hts gX7_sorts_X1_sortAt rfl rfl rfl hv_X1_sortAt (yk_room hRf hRl rfl rfl)) (yk_pv (q := (RX1, TX1, 2)) hG hA hS hK hP hD [1, 2, 3, 4, 5] (by decide +kernel) rfl rfl rfl) rfl rfl hl.1 rfl (lv_room (Nat.le_of_ble_eq_true rfl)) dX7_sorts_59 ⟨Nat.zero_le _, Nat.zero_le _⟩) hP hD hS hA rfl (Eq.trans (b := [fa, fap, fapn, faq, faqn]) rfl rfl) (fun H locs hP9 hD9 hS9 => ?_)
                    replace hP : va_P D vwCl [(ta, .inr (7, [.ref fa, .ref a_draft, .ref a_fence, .ref a_past, .ref a_slots, .ref a_slotKinds, .ref a_sheets, .ref a_speedX, .ref a_speedY, .ref a_leftward, .ref a_change, .ref a_table, .int fi])), (fa, .inr (1, [.ref fap, .ref faq])), (fap, .inr (3, [.ref fapn])), (fapn, .inl (cy 0, 6, .inl fu)), (faq, .inr (3, [.ref faqn])), (faqn, .inl (cy 0, 6, .inl fv))] H := hP9
                    replace hD : va_D A [(ta, .inr (7, [.ref fa, .ref a_draft, .ref a_fence, .ref a_past, .ref a_slots, .ref a_slotKinds, .ref a_sheets, .ref a_speedX, .ref a_speedY, .ref a_leftward, .ref a_change, .ref a_table, .int fi])), (fa, .inr (1, [.ref fap, .ref faq])), (fap, .inr (3, [.ref fapn])), (fapn, .inl (cy 0, 6, .inl fu)), (faq, .inr (3, [.ref faqn])), (faqn, .inl (cy 0, 6, .inl fv))] := hD9
                    replace hS := hS9
                    clear hP9 hD9 hS9
                    refine lv_iload_n hx hb dX7_sorts_62 rfl (lv_at hl 1 rfl) ?_
                    refine lv_icmp_ne (tgt := 69) hx hb dX7_sorts_63 (by decide) (fun hc6 => ?_) (fun hc6 => ?_)
                    · exact J8 _ _ _ _ (((if_neg hc5).trans (if_neg hc6)).symm) hP hD hS (lv_sub hl [0, 1, 2, 3, 4] rfl)
                    · refine lv_iinc (v := (z2_32 + 1)) (lv' := [(2, .int (z2_32 + 1)), (0, .ref ta), (1, .int px), (3, .int (nI ki - 6)), (4, .int (nI kj - 6))]) hx hb dX7_sorts_66 hl (k := 2) rfl (yk_incg _) (by decide) rfl (fun ls hl9 => ?_)
                      replace hl := hl9
                      clear hl9
                      exact J8 _ _ _ _ (((if_neg hc5).trans (if_pos hc6)).symm) hP hD hS (lv_sub hl [1, 2, 0, 3, 4] rfl)
            rw [show (-6 : Int32) = nI 0 - 6 from rfl] at hl
            exact L32 (13 + 1) 13 0 z2_22 _ _ _ (Nat.lt_succ_self _) (by omega)  rfl hP hD hS (lv_sub hl [1, 2, 3, 4, 0] rfl)
      rw [show (-6 : Int32) = nI 0 - 6 from rfl] at hl
      exact L22 (13 + 1) 13 0 0 _ _ _ (Nat.lt_succ_self _) (by omega)  rfl hP hD hS (lv_sub hl [2, 3, 1, 0] rfl)
    · replace hF := hF.trans (if_neg hc2)
      refine lv_aload_n hx hb dX7_sorts_10 rfl (lv_at hl 0 rfl) ?_
      refine lv_ldc (v := (-1000001)) hx hb hown (hts _ kX7_sorts_0) dX7_sorts_11 ?_
      refine yk_i [0] (va_runV (As := [.int (-1000001)]) (rest := []) ⟨hx, hb, hml, hown, hts⟩ (c_X7_finding l D cy ta fa a_draft a_fence a_past a_slots a_slotKinds a_sheets a_speedX a_speedY a_leftward a_change a_table fi (-1000001) H.size) (cwV 1 hts gX7_sorts_X7_finding rfl rfl rfl hv_X7_finding (yk_room hRf hRl rfl rfl)) (yk_pv (q := (RX7, TX7, 13)) hG hA hS hK hP hD [0] (by decide +kernel) rfl rfl rfl) rfl rfl hl.1 rfl (lv_room (Nat.le_of_ble_eq_true rfl)) dX7_sorts_13 ⟨Nat.zero_le _, Nat.zero_le _⟩) hP hD hS hA rfl (Eq.trans (b := [ta]) rfl rfl) (fun H locs hP9 hD9 hS9 => ?_)
      replace hP : va_P D vwCl [(ta, .inr (7, [.ref fa, .ref a_draft, .ref a_fence, .ref a_past, .ref a_slots, .ref a_slotKinds, .ref a_sheets, .ref a_speedX, .ref a_speedY, .ref a_leftward, .ref a_change, .ref a_table, .int ((f_X7_finding fi (-1000001)).2)])), (fa, .inr (1, [.ref fap, .ref faq])), (fap, .inr (3, [.ref fapn])), (fapn, .inl (cy 0, 6, .inl fu)), (faq, .inr (3, [.ref faqn])), (faqn, .inl (cy 0, 6, .inl fv))] H := hP9
      replace hD : va_D A [(ta, .inr (7, [.ref fa, .ref a_draft, .ref a_fence, .ref a_past, .ref a_slots, .ref a_slotKinds, .ref a_sheets, .ref a_speedX, .ref a_speedY, .ref a_leftward, .ref a_change, .ref a_table, .int ((f_X7_finding fi (-1000001)).2)])), (fa, .inr (1, [.ref fap, .ref faq])), (fap, .inr (3, [.ref fapn])), (fapn, .inl (cy 0, 6, .inl fu)), (faq, .inr (3, [.ref faqn])), (faqn, .inl (cy 0, 6, .inl fv))] := hD9
      replace hS := hS9
      clear hP9 hD9 hS9
      have hF : f_X7_sorts fu fv fi px = (((f_X7_finding fi (-1000001)).1), ((f_X7_finding fi (-1000001)).2)) := hF
      have hf0 := yk_fst hF
      have hg0 := yk_snd hF
      rw [hf0, hg0] at hQ
      exact hQ _ _ _ _ dX7_sorts_16 hP hS
