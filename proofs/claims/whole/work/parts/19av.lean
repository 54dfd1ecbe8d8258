theorem hv_X4_meetsZeroOf : yX4_meetsZeroOf.cls = RX4 ∧ yX4_meetsZeroOf.cls ≠ "java/lang/invoke/MethodHandle" ∧ yX4_meetsZeroOf.cls ≠ "java/lang/invoke/VarHandle" ∧ (parseMethodDescriptor yX4_meetsZeroOf.desc).map (fun d => d.parameters.length) = some 1 := by decide +kernel
theorem hs_X4_meetsZeroOf : yX4_meetsZeroOf.cls ≠ "java/lang/invoke/MethodHandle" ∧ yX4_meetsZeroOf.cls ≠ "java/lang/invoke/VarHandle" ∧ (parseMethodDescriptor yX4_meetsZeroOf.desc).map (fun d => d.parameters.length) = some 1 := by decide +kernel
theorem hv_X4_upwardCrossings : yX4_upwardCrossings.cls = RX4 ∧ yX4_upwardCrossings.cls ≠ "java/lang/invoke/MethodHandle" ∧ yX4_upwardCrossings.cls ≠ "java/lang/invoke/VarHandle" ∧ (parseMethodDescriptor yX4_upwardCrossings.desc).map (fun d => d.parameters.length) = some 1 := by decide +kernel
theorem hs_X4_upwardCrossings : yX4_upwardCrossings.cls ≠ "java/lang/invoke/MethodHandle" ∧ yX4_upwardCrossings.cls ≠ "java/lang/invoke/VarHandle" ∧ (parseMethodDescriptor yX4_upwardCrossings.desc).map (fun d => d.parameters.length) = some 1 := by decide +kernel
theorem kX7_wind_0 : Cond.fieldLink RX7 22 "FlowPlane" "fence" "LFlowPlane$Fence;" ∈ wsX7_wind := by decide +kernel
theorem kX7_wind_1 : Cond.fieldLink RX7 160 "FlowPlane$Fence" "count" "I" ∈ wsX7_wind := by decide +kernel
theorem kX7_wind_2 : Cond.fieldLink RX7 55 "FlowPlane" "speedY" "LFlowPlane$Quadratic;" ∈ wsX7_wind := by decide +kernel
theorem kX7_wind_3 : Cond.fieldLink RX7 51 "FlowPlane" "speedX" "LFlowPlane$Quadratic;" ∈ wsX7_wind := by decide +kernel
theorem kX7_wind_4 : Cond.constant RX7 206 (-1000007) ∈ wsX7_wind := by decide +kernel
theorem kX7_wind_5 : Cond.constant RX7 146 (-1000006) ∈ wsX7_wind := by decide +kernel
theorem uX7_wind_X7 : ∀ w ∈ u_ws RX7 TX7 13, w ∈ wsX7_wind := by decide +kernel
theorem uX7_wind_X0 : ∀ w ∈ u_ws RX0 TX0 3, w ∈ wsX7_wind := by decide +kernel
def l_X7_wind_22 (fu : Nat → Int32) (fv : Nat → Int32) (xs : Nat → Int32) (ys : Nat → Int32) (n : Nat) (ax : Int64) (bx : Int64) (cx : Int64) (ay : Int64) (by_ : Int64) (cy_ : Int64) (fi : Int32) : Nat → Nat → Int32 → Int64 → Int64 → Int64 → Int64 → Int64 → Int64 → Int32 × Int32 × Int64 × Int64 × Int64 × Int64 × Int64 × Int64
  | 0, ki, z1_22, zQX_0_22, zQX_1_22, zQX_2_22, zQY_0_22, zQY_1_22, zQY_2_22 => (0, fi, ax, bx, cx, ay, by_, cy_)
  | fu_X7_wind_22 + 1, ki, z1_22, zQX_0_22, zQX_1_22, zQX_2_22, zQY_0_22, zQY_1_22, zQY_2_22 => (if (nI n) ≤ (nI ki) then (z1_22, fi, zQX_0_22, zQX_1_22, zQX_2_22, zQY_0_22, zQY_1_22, zQY_2_22) else (if (f_X4_meetsZeroOf ((f_X7_followSpeeds fu fv xs ys ki).2.2.2.1) ((f_X7_followSpeeds fu fv xs ys ki).2.2.2.2.1) ((f_X7_followSpeeds fu fv xs ys ki).2.2.2.2.2) ((f_X7_followSpeeds fu fv xs ys ki).1) ((f_X7_followSpeeds fu fv xs ys ki).2.1) ((f_X7_followSpeeds fu fv xs ys ki).2.2.1)) = 0 then (l_X7_wind_22 fu fv xs ys n ax bx cx ay by_ cy_ fi fu_X7_wind_22 (ki + 1) (z1_22 + (f_X4_upwardCrossings ((f_X7_followSpeeds fu fv xs ys ki).2.2.2.1) ((f_X7_followSpeeds fu fv xs ys ki).2.2.2.2.1) ((f_X7_followSpeeds fu fv xs ys ki).2.2.2.2.2) ((f_X7_followSpeeds fu fv xs ys ki).1) ((f_X7_followSpeeds fu fv xs ys ki).2.1) ((f_X7_followSpeeds fu fv xs ys ki).2.2.1))) ((f_X7_followSpeeds fu fv xs ys ki).1) ((f_X7_followSpeeds fu fv xs ys ki).2.1) ((f_X7_followSpeeds fu fv xs ys ki).2.2.1) ((f_X7_followSpeeds fu fv xs ys ki).2.2.2.1) ((f_X7_followSpeeds fu fv xs ys ki).2.2.2.2.1) ((f_X7_followSpeeds fu fv xs ys ki).2.2.2.2.2)) else (((f_X7_finding fi (-1000007)).1), ((f_X7_finding fi (-1000007)).2), ((f_X7_followSpeeds fu fv xs ys ki).1), ((f_X7_followSpeeds fu fv xs ys ki).2.1), ((f_X7_followSpeeds fu fv xs ys ki).2.2.1), ((f_X7_followSpeeds fu fv xs ys ki).2.2.2.1), ((f_X7_followSpeeds fu fv xs ys ki).2.2.2.2.1), ((f_X7_followSpeeds fu fv xs ys ki).2.2.2.2.2))))
def f_X7_wind (fu : Nat → Int32) (fv : Nat → Int32) (xs : Nat → Int32) (ys : Nat → Int32) (n : Nat) (ax : Int64) (bx : Int64) (cx : Int64) (ay : Int64) (by_ : Int64) (cy_ : Int64) (fi : Int32) : Int32 × Int32 × Int64 × Int64 × Int64 × Int64 × Int64 × Int64 := (if 2 ≤ (nI n) then (l_X7_wind_22 fu fv xs ys n ax bx cx ay by_ cy_ fi (n + 1) 0 0 ax bx cx ay by_ cy_) else (((f_X7_finding fi (-1000006)).1), ((f_X7_finding fi (-1000006)).2), ax, bx, cx, ay, by_, cy_))
set_option maxHeartbeats 400000000 in
set_option maxRecDepth 100000 in
theorem c_X7_wind (l : Launch) (D : va_G) (cy : Nat → ClassId) (ta : Nat) (fa : Nat) (fap : Nat) (fapn : Nat) (faq : Nat) (faqn : Nat) (ea : Nat) (eax : Nat) (eay : Nat) (qxa : Nat) (qya : Nat) (a_draft : Nat) (a_past : Nat) (a_slots : Nat) (a_slotKinds : Nat) (a_sheets : Nat) (a_leftward : Nat) (a_change : Nat) (a_table : Nat) (fu : Nat → Int32) (fv : Nat → Int32) (xs : Nat → Int32) (ys : Nat → Int32) (n : Nat) (ax : Int64) (bx : Int64) (cx : Int64) (ay : Int64) (by_ : Int64) (cy_ : Int64) (fi : Int32) (hn : n ≤ 8) : yk_Ci l D vwCl (yk_ty cy) yX7_wind wsX7_wind 6 145 [.ref ta] [(ta, .inr (7, [.ref fa, .ref a_draft, .ref ea, .ref a_past, .ref a_slots, .ref a_slotKinds, .ref a_sheets, .ref qxa, .ref qya, .ref a_leftward, .ref a_change, .ref a_table, .int fi])), (fa, .inr (1, [.ref fap, .ref faq])), (fap, .inr (3, [.ref fapn])), (fapn, .inl (cy 0, 6, .inl fu)), (faq, .inr (3, [.ref faqn])), (faqn, .inl (cy 0, 6, .inl fv)), (ea, .inr (0, [.ref eax, .ref eay, .int (nI n)])), (eax, .inl (cy 0, 9, .inl xs)), (eay, .inl (cy 0, 9, .inl ys)), (qxa, .inr (4, [.long ax, .long bx, .long cx])), (qya, .inr (4, [.long ay, .long by_, .long cy_]))] ((f_X7_wind fu fv xs ys n ax bx cx ay by_ cy_ fi).1) [(ta, .inr (7, [.ref fa, .ref a_draft, .ref ea, .ref a_past, .ref a_slots, .ref a_slotKinds, .ref a_sheets, .ref qxa, .ref qya, .ref a_leftward, .ref a_change, .ref a_table, .int ((f_X7_wind fu fv xs ys n ax bx cx ay by_ cy_ fi).2.1)])), (fa, .inr (1, [.ref fap, .ref faq])), (fap, .inr (3, [.ref fapn])), (fapn, .inl (cy 0, 6, .inl fu)), (faq, .inr (3, [.ref faqn])), (faqn, .inl (cy 0, 6, .inl fv)), (ea, .inr (0, [.ref eax, .ref eay, .int (nI n)])), (eax, .inl (cy 0, 9, .inl xs)), (eay, .inl (cy 0, 9, .inl ys)), (qxa, .inr (4, [.long ((f_X7_wind fu fv xs ys n ax bx cx ay by_ cy_ fi).2.2.1), .long ((f_X7_wind fu fv xs ys n ax bx cx ay by_ cy_ fi).2.2.2.1), .long ((f_X7_wind fu fv xs ys n ax bx cx ay by_ cy_ fi).2.2.2.2.1)])), (qya, .inr (4, [.long ((f_X7_wind fu fv xs ys n ax bx cx ay by_ cy_ fi).2.2.2.2.2.1), .long ((f_X7_wind fu fv xs ys n ax bx cx ay by_ cy_ fi).2.2.2.2.2.2.1), .long ((f_X7_wind fu fv xs ys n ax bx cx ay by_ cy_ fi).2.2.2.2.2.2.2)]))] := by
  refine yk_eI (cc := cX7_wind) (maxL := 3) (by decide) rfl (Nat.le_of_ble_eq_true rfl) rfl ?_
  intro p e R s m args below meth c A Q ls H locs hx hb hml hown hts hRf hRl hA hK hG hP hD hS hl hQ
  have hP : va_P D vwCl [(ta, .inr (7, [.ref fa, .ref a_draft, .ref ea, .ref a_past, .ref a_slots, .ref a_slotKinds, .ref a_sheets, .ref qxa, .ref qya, .ref a_leftward, .ref a_change, .ref a_table, .int fi])), (fa, .inr (1, [.ref fap, .ref faq])), (fap, .inr (3, [.ref fapn])), (fapn, .inl (cy 0, 6, .inl fu)), (faq, .inr (3, [.ref faqn])), (faqn, .inl (cy 0, 6, .inl fv)), (ea, .inr (0, [.ref eax, .ref eay, .int (nI n)])), (eax, .inl (cy 0, 9, .inl xs)), (eay, .inl (cy 0, 9, .inl ys)), (qxa, .inr (4, [.long ax, .long bx, .long cx])), (qya, .inr (4, [.long ay, .long by_, .long cy_]))] H := hP
  have hl : lv_has ls 3 [(0, .ref ta)] := hl
  have hown : s.vm.findClass RX7 = some m.cls := hown
  have hF : (f_X7_wind fu fv xs ys n ax bx cx ay by_ cy_ fi) = (f_X7_wind fu fv xs ys n ax bx cx ay by_ cy_ fi) := rfl
  refine lv_aload_n hx hb dX7_wind_0 rfl (lv_at hl 0 rfl) ?_
  refine va_get (D := D) (ci := 7) (v := .ref ea) (C := RX7) (T := TX7) (N := 13) hx hb hts uX7_wind_X7 hown hK hP 0 rfl rfl 2 (by decide) (hts _ kX7_wind_0) (fun _ h9 => h9) rfl dX7_wind_1 ?_
  refine va_get (D := D) (ci := 0) (v := .int (nI n)) (C := RX0) (T := TX0) (N := 3) hx hb hts uX7_wind_X0 hown hK hP 6 rfl rfl 2 (by decide) (hts _ kX7_wind_1) (fun _ h9 => h9) rfl dX7_wind_4 ?_
  refine lv_iconst (v := 2) hx hb dX7_wind_7 (by decide) ?_
  refine lv_icmp_ge (tgt := 18) hx hb dX7_wind_8 (by decide) (fun hc1 => ?_) (fun hc1 => ?_)
  · replace hF := hF.trans (if_pos hc1)
    refine lv_iconst (v := 0) hx hb dX7_wind_18 (by decide) ?_
    refine lv_istore_n (lv' := [(1, .int 0), (0, .ref ta)]) hx hb dX7_wind_19 rfl hl (by decide) rfl (fun ls hl9 => ?_)
    replace hl := hl9
    clear hl9
    refine lv_iconst (v := 0) hx hb dX7_wind_20 (by decide) ?_
    refine lv_istore_n (lv' := [(2, .int 0), (1, .int 0), (0, .ref ta)]) hx hb dX7_wind_21 rfl hl (by decide) rfl (fun ls hl9 => ?_)
    replace hl := hl9
    clear hl9
    have L22 : ∀ (M9 n22 ki : Nat) (z1_22 : Int32) (zQX_0_22 : Int64) (zQX_1_22 : Int64) (zQX_2_22 : Int64) (zQY_0_22 : Int64) (zQY_1_22 : Int64) (zQY_2_22 : Int64) (H : Heap) (locs : List Loc) (ls : Array Slot), n22 < M9 → ki + n22 = n → f_X7_wind fu fv xs ys n ax bx cx ay by_ cy_ fi = (l_X7_wind_22 fu fv xs ys n ax bx cx ay by_ cy_ fi (n22 + 1) ki z1_22 zQX_0_22 zQX_1_22 zQX_2_22 zQY_0_22 zQY_1_22 zQY_2_22) → va_P D vwCl [(ta, .inr (7, [.ref fa, .ref a_draft, .ref ea, .ref a_past, .ref a_slots, .ref a_slotKinds, .ref a_sheets, .ref qxa, .ref qya, .ref a_leftward, .ref a_change, .ref a_table, .int fi])), (fa, .inr (1, [.ref fap, .ref faq])), (fap, .inr (3, [.ref fapn])), (fapn, .inl (cy 0, 6, .inl fu)), (faq, .inr (3, [.ref faqn])), (faqn, .inl (cy 0, 6, .inl fv)), (ea, .inr (0, [.ref eax, .ref eay, .int (nI n)])), (eax, .inl (cy 0, 9, .inl xs)), (eay, .inl (cy 0, 9, .inl ys)), (qxa, .inr (4, [.long zQX_0_22, .long zQX_1_22, .long zQX_2_22])), (qya, .inr (4, [.long zQY_0_22, .long zQY_1_22, .long zQY_2_22]))] H → va_D A [(ta, .inr (7, [.ref fa, .ref a_draft, .ref ea, .ref a_past, .ref a_slots, .ref a_slotKinds, .ref a_sheets, .ref qxa, .ref qya, .ref a_leftward, .ref a_change, .ref a_table, .int fi])), (fa, .inr (1, [.ref fap, .ref faq])), (fap, .inr (3, [.ref fapn])), (fapn, .inl (cy 0, 6, .inl fu)), (faq, .inr (3, [.ref faqn])), (faqn, .inl (cy 0, 6, .inl fv)), (ea, .inr (0, [.ref eax, .ref eay, .int (nI n)])), (eax, .inl (cy 0, 9, .inl xs)), (eay, .inl (cy 0, 9, .inl ys)), (qxa, .inr (4, [.long zQX_0_22, .long zQX_1_22, .long zQX_2_22])), (qya, .inr (4, [.long zQY_0_22, .long zQY_1_22, .long zQY_2_22]))] → va_S A s.heap H locs → lv_has ls 3 [(0, .ref ta), (1, .int z1_22), (2, .int (nI ki))] → W p l e R s m args below meth c H locs 0 0 Q (F0 m 22 ls []) := by
      clear hP hD hS hl hF
      intro M9
      induction M9 with
      | zero => intro n22 ki _ _ _ _ _ _ _ _ _ _ hn; exact absurd hn (Nat.not_lt_zero _)
      | succ M9 ih22 =>
        intro n22 ki z1_22 zQX_0_22 zQX_1_22 zQX_2_22 zQY_0_22 zQY_1_22 zQY_2_22 H locs ls hn22 hk22 hF hP hD hS hl
        refine lv_iload_n hx hb dX7_wind_22 rfl (lv_at hl 2 rfl) ?_
        refine lv_aload_n hx hb dX7_wind_23 rfl (lv_at hl 0 rfl) ?_
        refine va_get (D := D) (ci := 7) (v := .ref ea) (C := RX7) (T := TX7) (N := 13) hx hb hts uX7_wind_X7 hown hK hP 0 rfl rfl 2 (by decide) (hts _ kX7_wind_0) (fun _ h9 => h9) rfl dX7_wind_24 ?_
        refine va_get (D := D) (ci := 0) (v := .int (nI n)) (C := RX0) (T := TX0) (N := 3) hx hb hts uX7_wind_X0 hown hK hP 6 rfl rfl 2 (by decide) (hts _ kX7_wind_1) (fun _ h9 => h9) rfl dX7_wind_27 ?_
        refine lv_icmp_ge (tgt := 79) hx hb dX7_wind_30 (by decide) (fun hc4 => ?_) (fun hc4 => ?_)
        · replace hF := hF.trans (if_pos hc4)
          refine lv_iload_n hx hb dX7_wind_79 rfl (lv_at hl 1 rfl) ?_
          have hF : f_X7_wind fu fv xs ys n ax bx cx ay by_ cy_ fi = (z1_22, fi, zQX_0_22, zQX_1_22, zQX_2_22, zQY_0_22, zQY_1_22, zQY_2_22) := hF
          have hf0 := yk_fst hF
          have hg0 := yk_snd hF
          have hf1 := yk_fst hg0
          have hg1 := yk_snd hg0
          have hf2 := yk_fst hg1
          have hg2 := yk_snd hg1
          have hf3 := yk_fst hg2
          have hg3 := yk_snd hg2
          have hf4 := yk_fst hg3
          have hg4 := yk_snd hg3
          have hf5 := yk_fst hg4
          have hg5 := yk_snd hg4
          have hf6 := yk_fst hg5
          have hg6 := yk_snd hg5
          rw [hf0, hf1, hf2, hf3, hf4, hf5, hf6, hg6] at hQ
          exact hQ _ _ _ _ dX7_wind_80 hP hS
        · replace hF := hF.trans (if_neg hc4)
          have hlt22 : ki < n := yk_lt hk22 (by omega) hc4
          refine lv_aload_n hx hb dX7_wind_33 rfl (lv_at hl 0 rfl) ?_
          refine lv_iload_n hx hb dX7_wind_34 rfl (lv_at hl 2 rfl) ?_
          refine yk_v [0, 1, 2, 3, 4, 5, 6, 7, 8, 9, 10] (va_runV (As := [.int (nI ki)]) (rest := []) ⟨hx, hb, hml, hown, hts⟩ (c_X7_followSpeeds l D cy ta fa fap fapn faq faqn ea eax eay qxa qya a_draft a_past a_slots a_slotKinds a_sheets a_leftward a_change a_table fu fv xs ys n zQX_0_22 zQX_1_22 zQX_2_22 zQY_0_22 zQY_1_22 zQY_2_22 fi ki hn (by omega) H.size) (cwV 1 hts gX7_wind_X7_followSpeeds rfl rfl rfl hv_X7_followSpeeds (yk_room hRf hRl rfl rfl)) (yk_pv (q := (RX7, TX7, 13)) hG hA hS hK hP hD [0, 1, 2, 3, 4, 5, 6, 7, 8, 9, 10] (by decide +kernel) rfl rfl rfl) rfl rfl hl.1 rfl (lv_room (Nat.le_of_ble_eq_true rfl)) dX7_wind_35 ⟨Nat.zero_le _, Nat.zero_le _⟩) hP hD hS hA rfl (Eq.trans (b := [ta, fa, fap, fapn, faq, faqn, ea, eax, eay, qxa, qya]) rfl rfl) (fun H locs hP9 hD9 hS9 => ?_)
          replace hP : va_P D vwCl [(ta, .inr (7, [.ref fa, .ref a_draft, .ref ea, .ref a_past, .ref a_slots, .ref a_slotKinds, .ref a_sheets, .ref qxa, .ref qya, .ref a_leftward, .ref a_change, .ref a_table, .int fi])), (fa, .inr (1, [.ref fap, .ref faq])), (fap, .inr (3, [.ref fapn])), (fapn, .inl (cy 0, 6, .inl fu)), (faq, .inr (3, [.ref faqn])), (faqn, .inl (cy 0, 6, .inl fv)), (ea, .inr (0, [.ref eax, .ref eay, .int (nI n)])), (eax, .inl (cy 0, 9, .inl xs)), (eay, .inl (cy 0, 9, .inl ys)), (qxa, .inr (4, [.long ((f_X7_followSpeeds fu fv xs ys ki).1), .long ((f_X7_followSpeeds fu fv xs ys ki).2.1), .long ((f_X7_followSpeeds fu fv xs ys ki).2.2.1)])), (qya, .inr (4, [.long ((f_X7_followSpeeds fu fv xs ys ki).2.2.2.1), .long ((f_X7_followSpeeds fu fv xs ys ki).2.2.2.2.1), .long ((f_X7_followSpeeds fu fv xs ys ki).2.2.2.2.2)]))] H := hP9
          replace hD : va_D A [(ta, .inr (7, [.ref fa, .ref a_draft, .ref ea, .ref a_past, .ref a_slots, .ref a_slotKinds, .ref a_sheets, .ref qxa, .ref qya, .ref a_leftward, .ref a_change, .ref a_table, .int fi])), (fa, .inr (1, [.ref fap, .ref faq])), (fap, .inr (3, [.ref fapn])), (fapn, .inl (cy 0, 6, .inl fu)), (faq, .inr (3, [.ref faqn])), (faqn, .inl (cy 0, 6, .inl fv)), (ea, .inr (0, [.ref eax, .ref eay, .int (nI n)])), (eax, .inl (cy 0, 9, .inl xs)), (eay, .inl (cy 0, 9, .inl ys)), (qxa, .inr (4, [.long ((f_X7_followSpeeds fu fv xs ys ki).1), .long ((f_X7_followSpeeds fu fv xs ys ki).2.1), .long ((f_X7_followSpeeds fu fv xs ys ki).2.2.1)])), (qya, .inr (4, [.long ((f_X7_followSpeeds fu fv xs ys ki).2.2.2.1), .long ((f_X7_followSpeeds fu fv xs ys ki).2.2.2.2.1), .long ((f_X7_followSpeeds fu fv xs ys ki).2.2.2.2.2)]))] := hD9
          replace hS := hS9
          clear hP9 hD9 hS9
          refine lv_aload_n hx hb dX7_wind_38 rfl (lv_at hl 0 rfl) ?_
          refine va_get (D := D) (ci := 7) (v := .ref qya) (C := RX7) (T := TX7) (N := 13) hx hb hts uX7_wind_X7 hown hK hP 0 rfl rfl 8 (by decide) (hts _ kX7_wind_2) (fun _ h9 => h9) rfl dX7_wind_39 ?_
          refine lv_aload_n hx hb dX7_wind_42 rfl (lv_at hl 0 rfl) ?_
          refine va_get (D := D) (ci := 7) (v := .ref qxa) (C := RX7) (T := TX7) (N := 13) hx hb hts uX7_wind_X7 hown hK hP 0 rfl rfl 7 (by decide) (hts _ kX7_wind_3) (fun _ h9 => h9) rfl dX7_wind_43 ?_
          refine yk_i [10, 9] (va_runV (As := [.ref qxa]) (rest := []) ⟨hx, hb, hml, hown, hts⟩ (c_X4_meetsZeroOf l D cy qya qxa ((f_X7_followSpeeds fu fv xs ys ki).2.2.2.1) ((f_X7_followSpeeds fu fv xs ys ki).2.2.2.2.1) ((f_X7_followSpeeds fu fv xs ys ki).2.2.2.2.2) ((f_X7_followSpeeds fu fv xs ys ki).1) ((f_X7_followSpeeds fu fv xs ys ki).2.1) ((f_X7_followSpeeds fu fv xs ys ki).2.2.1) H.size) (cwV 1 hts gX7_wind_X4_meetsZeroOf rfl rfl rfl hv_X4_meetsZeroOf (yk_room hRf hRl rfl rfl)) (yk_pv (q := (RX4, TX4, 3)) hG hA hS hK hP hD [10, 9] (by decide +kernel) rfl rfl rfl) rfl rfl hl.1 rfl (lv_room (Nat.le_of_ble_eq_true rfl)) dX7_wind_46 ⟨Nat.zero_le _, Nat.zero_le _⟩) hP hD hS hA rfl (Eq.trans (b := [qya, qxa]) rfl rfl) (fun H locs hP9 hD9 hS9 => ?_)
          replace hP : va_P D vwCl [(ta, .inr (7, [.ref fa, .ref a_draft, .ref ea, .ref a_past, .ref a_slots, .ref a_slotKinds, .ref a_sheets, .ref qxa, .ref qya, .ref a_leftward, .ref a_change, .ref a_table, .int fi])), (fa, .inr (1, [.ref fap, .ref faq])), (fap, .inr (3, [.ref fapn])), (fapn, .inl (cy 0, 6, .inl fu)), (faq, .inr (3, [.ref faqn])), (faqn, .inl (cy 0, 6, .inl fv)), (ea, .inr (0, [.ref eax, .ref eay, .int (nI n)])), (eax, .inl (cy 0, 9, .inl xs)), (eay, .inl (cy 0, 9, .inl ys)), (qxa, .inr (4, [.long ((f_X7_followSpeeds fu fv xs ys ki).1), .long ((f_X7_followSpeeds fu fv xs ys ki).2.1), .long ((f_X7_followSpeeds fu fv xs ys ki).2.2.1)])), (qya, .inr (4, [.long ((f_X7_followSpeeds fu fv xs ys ki).2.2.2.1), .long ((f_X7_followSpeeds fu fv xs ys ki).2.2.2.2.1), .long ((f_X7_followSpeeds fu fv xs ys ki).2.2.2.2.2)]))] H := hP9
          replace hD : va_D A [(ta, .inr (7, [.ref fa, .ref a_draft, .ref ea, .ref a_past, .ref a_slots, .ref a_slotKinds, .ref a_sheets, .ref qxa, .ref qya, .ref a_leftward, .ref a_change, .ref a_table, .int fi])), (fa, .inr (1, [.ref fap, .ref faq])), (fap, .inr (3, [.ref fapn])), (fapn, .inl (cy 0, 6, .inl fu)), (faq, .inr (3, [.ref faqn])), (faqn, .inl (cy 0, 6, .inl fv)), (ea, .inr (0, [.ref eax, .ref eay, .int (nI n)])), (eax, .inl (cy 0, 9, .inl xs)), (eay, .inl (cy 0, 9, .inl ys)), (qxa, .inr (4, [.long ((f_X7_followSpeeds fu fv xs ys ki).1), .long ((f_X7_followSpeeds fu fv xs ys ki).2.1), .long ((f_X7_followSpeeds fu fv xs ys ki).2.2.1)])), (qya, .inr (4, [.long ((f_X7_followSpeeds fu fv xs ys ki).2.2.2.1), .long ((f_X7_followSpeeds fu fv xs ys ki).2.2.2.2.1), .long ((f_X7_followSpeeds fu fv xs ys ki).2.2.2.2.2)]))] := hD9
          replace hS := hS9
          clear hP9 hD9 hS9
          refine lv_if_eq (tgt := 59) hx hb dX7_wind_49 (by decide) (fun hc5 => ?_) (fun hc5 => ?_)
          · replace hF := hF.trans (if_pos hc5)
            refine lv_iload_n hx hb dX7_wind_59 rfl (lv_at hl 1 rfl) ?_
            refine lv_aload_n hx hb dX7_wind_60 rfl (lv_at hl 0 rfl) ?_
            refine va_get (D := D) (ci := 7) (v := .ref qya) (C := RX7) (T := TX7) (N := 13) hx hb hts uX7_wind_X7 hown hK hP 0 rfl rfl 8 (by decide) (hts _ kX7_wind_2) (fun _ h9 => h9) rfl dX7_wind_61 ?_
            refine lv_aload_n hx hb dX7_wind_64 rfl (lv_at hl 0 rfl) ?_
            refine va_get (D := D) (ci := 7) (v := .ref qxa) (C := RX7) (T := TX7) (N := 13) hx hb hts uX7_wind_X7 hown hK hP 0 rfl rfl 7 (by decide) (hts _ kX7_wind_3) (fun _ h9 => h9) rfl dX7_wind_65 ?_
            refine yk_i [10, 9] (va_runV (As := [.ref qxa]) (rest := [.int z1_22]) ⟨hx, hb, hml, hown, hts⟩ (c_X4_upwardCrossings l D cy qya qxa ((f_X7_followSpeeds fu fv xs ys ki).2.2.2.1) ((f_X7_followSpeeds fu fv xs ys ki).2.2.2.2.1) ((f_X7_followSpeeds fu fv xs ys ki).2.2.2.2.2) ((f_X7_followSpeeds fu fv xs ys ki).1) ((f_X7_followSpeeds fu fv xs ys ki).2.1) ((f_X7_followSpeeds fu fv xs ys ki).2.2.1) H.size) (cwV 1 hts gX7_wind_X4_upwardCrossings rfl rfl rfl hv_X4_upwardCrossings (yk_room hRf hRl rfl rfl)) (yk_pv (q := (RX4, TX4, 3)) hG hA hS hK hP hD [10, 9] (by decide +kernel) rfl rfl rfl) rfl rfl hl.1 rfl (lv_room (Nat.le_of_ble_eq_true rfl)) dX7_wind_68 ⟨Nat.zero_le _, Nat.zero_le _⟩) hP hD hS hA rfl (Eq.trans (b := [qya, qxa]) rfl rfl) (fun H locs hP9 hD9 hS9 => ?_)
            replace hP : va_P D vwCl [(ta, .inr (7, [.ref fa, .ref a_draft, .ref ea, .ref a_past, .ref a_slots, .ref a_slotKinds, .ref a_sheets, .ref qxa, .ref qya, .ref a_leftward, .ref a_change, .ref a_table, .int fi])), (fa, .inr (1, [.ref fap, .ref faq])), (fap, .inr (3, [.ref fapn])), (fapn, .inl (cy 0, 6, .inl fu)), (faq, .inr (3, [.ref faqn])), (faqn, .inl (cy 0, 6, .inl fv)), (ea, .inr (0, [.ref eax, .ref eay, .int (nI n)])), (eax, .inl (cy 0, 9, .inl xs)), (eay, .inl (cy 0, 9, .inl ys)), (qxa, .inr (4, [.long ((f_X7_followSpeeds fu fv xs ys ki).1), .long ((f_X7_followSpeeds fu fv xs ys ki).2.1), .long ((f_X7_followSpeeds fu fv xs ys ki).2.2.1)])), (qya, .inr (4, [.long ((f_X7_followSpeeds fu fv xs ys ki).2.2.2.1), .long ((f_X7_followSpeeds fu fv xs ys ki).2.2.2.2.1), .long ((f_X7_followSpeeds fu fv xs ys ki).2.2.2.2.2)]))] H := hP9
            replace hD : va_D A [(ta, .inr (7, [.ref fa, .ref a_draft, .ref ea, .ref a_past, .ref a_slots, .ref a_slotKinds, .ref a_sheets, .ref qxa, .ref qya, .ref a_leftward, .ref a_change, .ref a_table, .int fi])), (fa, .inr (1, [.ref fap, .ref faq])), (fap, .inr (3, [.ref fapn])), (fapn, .inl (cy 0, 6, .inl fu)), (faq, .inr (3, [.ref faqn])), (faqn, .inl (cy 0, 6, .inl fv)), (ea, .inr (0, [.ref eax, .ref eay, .int (nI n)])), (eax, .inl (cy 0, 9, .inl xs)), (eay, .inl (cy 0, 9, .inl ys)), (qxa, .inr (4, [.long ((f_X7_followSpeeds fu fv xs ys ki).1), .long ((f_X7_followSpeeds fu fv xs ys ki).2.1), .long ((f_X7_followSpeeds fu fv xs ys ki).2.2.1)])), (qya, .inr (4, [.long ((f_X7_followSpeeds fu fv xs ys ki).2.2.2.1), .long ((f_X7_followSpeeds fu fv xs ys ki).2.2.2.2.1), .long ((f_X7_followSpeeds fu fv xs ys ki).2.2.2.2.2)]))] := hD9
            replace hS := hS9
            clear hP9 hD9 hS9
            refine lv_iadd hx hb dX7_wind_71 ?_
            refine lv_istore_n (lv' := [(1, .int (z1_22 + (f_X4_upwardCrossings ((f_X7_followSpeeds fu fv xs ys ki).2.2.2.1) ((f_X7_followSpeeds fu fv xs ys ki).2.2.2.2.1) ((f_X7_followSpeeds fu fv xs ys ki).2.2.2.2.2) ((f_X7_followSpeeds fu fv xs ys ki).1) ((f_X7_followSpeeds fu fv xs ys ki).2.1) ((f_X7_followSpeeds fu fv xs ys ki).2.2.1)))), (0, .ref ta), (2, .int (nI ki))]) hx hb dX7_wind_72 rfl hl (by decide) rfl (fun ls hl9 => ?_)
            replace hl := hl9
            clear hl9
            refine lv_iinc (v := nI (ki + 1)) (lv' := [(2, .int (nI (ki + 1))), (1, .int (z1_22 + (f_X4_upwardCrossings ((f_X7_followSpeeds fu fv xs ys ki).2.2.2.1) ((f_X7_followSpeeds fu fv xs ys ki).2.2.2.2.1) ((f_X7_followSpeeds fu fv xs ys ki).2.2.2.2.2) ((f_X7_followSpeeds fu fv xs ys ki).1) ((f_X7_followSpeeds fu fv xs ys ki).2.1) ((f_X7_followSpeeds fu fv xs ys ki).2.2.1)))), (0, .ref ta)]) hx hb dX7_wind_73 hl (k := 2) rfl (yk_inc ki) (by decide) rfl (fun ls hl9 => ?_)
            replace hl := hl9
            clear hl9
            refine lv_goto (tgt := 22) hx hb dX7_wind_76 (by decide) ?_
            obtain ⟨n9, rfl⟩ : ∃ n9, n22 = n9 + 1 := ⟨n22 - 1, by omega⟩
            exact ih22 n9 (ki + 1) (z1_22 + (f_X4_upwardCrossings ((f_X7_followSpeeds fu fv xs ys ki).2.2.2.1) ((f_X7_followSpeeds fu fv xs ys ki).2.2.2.2.1) ((f_X7_followSpeeds fu fv xs ys ki).2.2.2.2.2) ((f_X7_followSpeeds fu fv xs ys ki).1) ((f_X7_followSpeeds fu fv xs ys ki).2.1) ((f_X7_followSpeeds fu fv xs ys ki).2.2.1))) ((f_X7_followSpeeds fu fv xs ys ki).1) ((f_X7_followSpeeds fu fv xs ys ki).2.1) ((f_X7_followSpeeds fu fv xs ys ki).2.2.1) ((f_X7_followSpeeds fu fv xs ys ki).2.2.2.1) ((f_X7_followSpeeds fu fv xs ys ki).2.2.2.2.1) ((f_X7_followSpeeds fu fv xs ys ki).2.2.2.2.2) _ _ _ (by omega) (by omega)  hF hP hD hS (lv_sub hl [2, 1, 0] rfl)
          · replace hF := hF.trans (if_neg hc5)
            refine lv_aload_n hx hb dX7_wind_52 rfl (lv_at hl 0 rfl) ?_
            refine lv_ldc (v := (-1000007)) hx hb hown (hts _ kX7_wind_4) dX7_wind_53 ?_
            refine yk_i [0] (va_runV (As := [.int (-1000007)]) (rest := []) ⟨hx, hb, hml, hown, hts⟩ (c_X7_finding l D cy ta fa a_draft ea a_past a_slots a_slotKinds a_sheets qxa qya a_leftward a_change a_table fi (-1000007) H.size) (cwV 1 hts gX7_wind_X7_finding rfl rfl rfl hv_X7_finding (yk_room hRf hRl rfl rfl)) (yk_pv (q := (RX7, TX7, 13)) hG hA hS hK hP hD [0] (by decide +kernel) rfl rfl rfl) rfl rfl hl.1 rfl (lv_room (Nat.le_of_ble_eq_true rfl)) dX7_wind_55 ⟨Nat.zero_le _, Nat.zero_le _⟩) hP hD hS hA rfl (Eq.trans (b := [ta]) rfl rfl) (fun H locs hP9 hD9 hS9 => ?_)
            replace hP : va_P D vwCl [(ta, .inr (7, [.ref fa, .ref a_draft, .ref ea, .ref a_past, .ref a_slots, .ref a_slotKinds, .ref a_sheets, .ref qxa, .ref qya, .ref a_leftward, .ref a_change, .ref a_table, .int ((f_X7_finding fi (-1000007)).2)])), (fa, .inr (1, [.ref fap, .ref faq])), (fap, .inr (3, [.ref fapn])), (fapn, .inl (cy 0, 6, .inl fu)), (faq, .inr (3, [.ref faqn])), (faqn, .inl (cy 0, 6, .inl fv)), (ea, .inr (0, [.ref eax, .ref eay, .int (nI n)])), (eax, .inl (cy 0, 9, .inl xs)), (eay, .inl (cy 0, 9, .inl ys)), (qxa, .inr (4, [.long ((f_X7_followSpeeds fu fv xs ys ki).1), .long ((f_X7_followSpeeds fu fv xs ys ki).2.1), .long ((f_X7_followSpeeds fu fv xs ys ki).2.2.1)])), (qya, .inr (4, [.long ((f_X7_followSpeeds fu fv xs ys ki).2.2.2.1), .long ((f_X7_followSpeeds fu fv xs ys ki).2.2.2.2.1), .long ((f_X7_followSpeeds fu fv xs ys ki).2.2.2.2.2)]))] H := hP9
            replace hD : va_D A [(ta, .inr (7, [.ref fa, .ref a_draft, .ref ea, .ref a_past, .ref a_slots, .ref a_slotKinds, .ref a_sheets, .ref qxa, .ref qya, .ref a_leftward, .ref a_change, .ref a_table, .int ((f_X7_finding fi (-1000007)).2)])), (fa, .inr (1, [.ref fap, .ref faq])), (fap, .inr (3, [.ref fapn])), (fapn, .inl (cy 0, 6, .inl fu)), (faq, .inr (3, [.ref faqn])), (faqn, .inl (cy 0, 6, .inl fv)), (ea, .inr (0, [.ref eax, .ref eay, .int (nI n)])), (eax, .inl (cy 0, 9, .inl xs)), (eay, .inl (cy 0, 9, .inl ys)), (qxa, .inr (4, [.long ((f_X7_followSpeeds fu fv xs ys ki).1), .long ((f_X7_followSpeeds fu fv xs ys ki).2.1), .long ((f_X7_followSpeeds fu fv xs ys ki).2.2.1)])), (qya, .inr (4, [.long ((f_X7_followSpeeds fu fv xs ys ki).2.2.2.1), .long ((f_X7_followSpeeds fu fv xs ys ki).2.2.2.2.1), .long ((f_X7_followSpeeds fu fv xs ys ki).2.2.2.2.2)]))] := hD9
            replace hS := hS9
            clear hP9 hD9 hS9
            have hF : f_X7_wind fu fv xs ys n ax bx cx ay by_ cy_ fi = (((f_X7_finding fi (-1000007)).1), ((f_X7_finding fi (-1000007)).2), ((f_X7_followSpeeds fu fv xs ys ki).1), ((f_X7_followSpeeds fu fv xs ys ki).2.1), ((f_X7_followSpeeds fu fv xs ys ki).2.2.1), ((f_X7_followSpeeds fu fv xs ys ki).2.2.2.1), ((f_X7_followSpeeds fu fv xs ys ki).2.2.2.2.1), ((f_X7_followSpeeds fu fv xs ys ki).2.2.2.2.2)) := hF
            have hf0 := yk_fst hF
            have hg0 := yk_snd hF
            have hf1 := yk_fst hg0
            have hg1 := yk_snd hg0
            have hf2 := yk_fst hg1
            have hg2 := yk_snd hg1
            have hf3 := yk_fst hg2
            have hg3 := yk_snd hg2
            have hf4 := yk_fst hg3
            have hg4 := yk_snd hg3
            have hf5 := yk_fst hg4
            have hg5 := yk_snd hg4
            have hf6 := yk_fst hg5
            have hg6 := yk_snd hg5
            rw [hf0, hf1, hf2, hf3, hf4, hf5, hf6, hg6] at hQ
            exact hQ _ _ _ _ dX7_wind_58 hP hS
    exact L22 (n + 1) n 0 0 ax bx cx ay by_ cy_ _ _ _ (Nat.lt_succ_self _) (by omega)  hF hP hD hS (lv_sub hl [2, 1, 0] rfl)
  · replace hF := hF.trans (if_neg hc1)
    refine lv_aload_n hx hb dX7_wind_11 rfl (lv_at hl 0 rfl) ?_
    refine lv_ldc (v := (-1000006)) hx hb hown (hts _ kX7_wind_5) dX7_wind_12 ?_
    refine yk_i [0] (va_runV (As := [.int (-1000006)]) (rest := []) ⟨hx, hb, hml, hown, hts⟩ (c_X7_finding l D cy ta fa a_draft ea a_past a_slots a_slotKinds a_sheets qxa qya a_leftward a_change a_table fi (-1000006) H.size) (cwV 1 hts gX7_wind_X7_finding rfl rfl rfl hv_X7_finding (yk_room hRf hRl rfl rfl)) (yk_pv (q := (RX7, TX7, 13)) hG hA hS hK hP hD [0] (by decide +kernel) rfl rfl rfl) rfl rfl hl.1 rfl (lv_room (Nat.le_of_ble_eq_true rfl)) dX7_wind_14 ⟨Nat.zero_le _, Nat.zero_le _⟩) hP hD hS hA rfl (Eq.trans (b := [ta]) rfl rfl) (fun H locs hP9 hD9 hS9 => ?_)
    replace hP : va_P D vwCl [(ta, .inr (7, [.ref fa, .ref a_draft, .ref ea, .ref a_past, .ref a_slots, .ref a_slotKinds, .ref a_sheets, .ref qxa, .ref qya, .ref a_leftward, .ref a_change, .ref a_table, .int ((f_X7_finding fi (-1000006)).2)])), (fa, .inr (1, [.ref fap, .ref faq])), (fap, .inr (3, [.ref fapn])), (fapn, .inl (cy 0, 6, .inl fu)), (faq, .inr (3, [.ref faqn])), (faqn, .inl (cy 0, 6, .inl fv)), (ea, .inr (0, [.ref eax, .ref eay, .int (nI n)])), (eax, .inl (cy 0, 9, .inl xs)), (eay, .inl (cy 0, 9, .inl ys)), (qxa, .inr (4, [.long ax, .long bx, .long cx])), (qya, .inr (4, [.long ay, .long by_, .long cy_]))] H := hP9
    replace hD : va_D A [(ta, .inr (7, [.ref fa, .ref a_draft, .ref ea, .ref a_past, .ref a_slots, .ref a_slotKinds, .ref a_sheets, .ref qxa, .ref qya, .ref a_leftward, .ref a_change, .ref a_table, .int ((f_X7_finding fi (-1000006)).2)])), (fa, .inr (1, [.ref fap, .ref faq])), (fap, .inr (3, [.ref fapn])), (fapn, .inl (cy 0, 6, .inl fu)), (faq, .inr (3, [.ref faqn])), (faqn, .inl (cy 0, 6, .inl fv)), (ea, .inr (0, [.ref eax, .ref eay, .int (nI n)])), (eax, .inl (cy 0, 9, .inl xs)), (eay, .inl (cy 0, 9, .inl ys)), (qxa, .inr (4, [.long ax, .long bx, .long cx])), (qya, .inr (4, [.long ay, .long by_, .long cy_]))] := hD9
    replace hS := hS9
    clear hP9 hD9 hS9
    have hF : f_X7_wind fu fv xs ys n ax bx cx ay by_ cy_ fi = (((f_X7_finding fi (-1000006)).1), ((f_X7_finding fi (-1000006)).2), ax, bx, cx, ay, by_, cy_) := hF
    have hf0 := yk_fst hF
    have hg0 := yk_snd hF
    have hf1 := yk_fst hg0
    have hg1 := yk_snd hg0
    have hf2 := yk_fst hg1
    have hg2 := yk_snd hg1
    have hf3 := yk_fst hg2
    have hg3 := yk_snd hg2
    have hf4 := yk_fst hg3
    have hg4 := yk_snd hg3
    have hf5 := yk_fst hg4
    have hg5 := yk_snd hg4
    have hf6 := yk_fst hg5
    have hg6 := yk_snd hg5
    rw [hf0, hf1, hf2, hf3, hf4, hf5, hf6, hg6] at hQ
    exact hQ _ _ _ _ dX7_wind_17 hP hS
