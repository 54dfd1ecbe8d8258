theorem hv_X1_lastKind : yX1_lastKind.cls = RX1 ∧ yX1_lastKind.cls ≠ "java/lang/invoke/MethodHandle" ∧ yX1_lastKind.cls ≠ "java/lang/invoke/VarHandle" ∧ (parseMethodDescriptor yX1_lastKind.desc).map (fun d => d.parameters.length) = some 0 := by decide +kernel
theorem hs_X1_lastKind : yX1_lastKind.cls ≠ "java/lang/invoke/MethodHandle" ∧ yX1_lastKind.cls ≠ "java/lang/invoke/VarHandle" ∧ (parseMethodDescriptor yX1_lastKind.desc).map (fun d => d.parameters.length) = some 0 := by decide +kernel
theorem kX7_keep_0 : Cond.fieldLink RX7 33 "FlowPlane" "slots" "[LFlowPlane$Flow;" ∈ wsX7_keep := by decide +kernel
theorem kX7_keep_1 : Cond.fieldLink RX7 10 "FlowPlane" "flow" "LFlowPlane$Flow;" ∈ wsX7_keep := by decide +kernel
theorem kX7_keep_2 : Cond.fieldLink RX7 37 "FlowPlane" "slotKinds" "[I" ∈ wsX7_keep := by decide +kernel
theorem kX7_keep_3 : Cond.constant RX7 83 (-1000001) ∈ wsX7_keep := by decide +kernel
theorem uX7_keep_X7 : ∀ w ∈ u_ws RX7 TX7 13, w ∈ wsX7_keep := by decide +kernel
def f_X7_keep (fu : Nat → Int32) (fv : Nat → Int32) (su : Nat → Int32) (sv : Nat → Int32) (sk : Nat → Int32) (fi : Int32) (px : Int32) : Int32 × Int32 × (Nat → Int32) × (Nat → Int32) × (Nat → Int32) := (if (f_X7_isSlot px) = 0 then (((f_X7_finding fi (-1000001)).1), ((f_X7_finding fi (-1000001)).2), su, sv, sk) else (((upd sk px.toNatClampNeg (f_X1_lastKind fu fv)) px.toNatClampNeg), fi, ((f_X1_become su sv fu fv).1), ((f_X1_become su sv fu fv).2), (upd sk px.toNatClampNeg (f_X1_lastKind fu fv))))
set_option maxHeartbeats 400000000 in
set_option maxRecDepth 100000 in
theorem c_X7_keep (l : Launch) (D : va_G) (cy : Nat → ClassId) (ta : Nat) (fa : Nat) (fap : Nat) (fapn : Nat) (faq : Nat) (faqn : Nat) (sa : Nat) (sx : Nat) (sxp : Nat) (sxpn : Nat) (sxq : Nat) (sxqn : Nat) (ka : Nat) (a_draft : Nat) (a_fence : Nat) (a_past : Nat) (a_sheets : Nat) (a_speedX : Nat) (a_speedY : Nat) (a_leftward : Nat) (a_change : Nat) (a_table : Nat) (rf : Nat → Option Nat) (fu : Nat → Int32) (fv : Nat → Int32) (su : Nat → Int32) (sv : Nat → Int32) (sk : Nat → Int32) (fi : Int32) (px : Int32) (hrf : ¬ f_X7_isSlot px = 0 → rf px.toNatClampNeg = some sx) : yk_Ci l D vwCl (yk_ty cy) yX7_keep wsX7_keep 4 84 [.ref ta, .int px] [(ta, .inr (7, [.ref fa, .ref a_draft, .ref a_fence, .ref a_past, .ref sa, .ref ka, .ref a_sheets, .ref a_speedX, .ref a_speedY, .ref a_leftward, .ref a_change, .ref a_table, .int fi])), (fa, .inr (1, [.ref fap, .ref faq])), (fap, .inr (3, [.ref fapn])), (fapn, .inl (cy 0, 6, .inl fu)), (faq, .inr (3, [.ref faqn])), (faqn, .inl (cy 0, 6, .inl fv)), (sa, .inl (cy 3, 4, .inr (.inr (.inr (.inr rf))))), (sx, .inr (1, [.ref sxp, .ref sxq])), (sxp, .inr (3, [.ref sxpn])), (sxpn, .inl (cy 0, 6, .inl su)), (sxq, .inr (3, [.ref sxqn])), (sxqn, .inl (cy 0, 6, .inl sv)), (ka, .inl (cy 0, 4, .inl sk))] ((f_X7_keep fu fv su sv sk fi px).1) [(ta, .inr (7, [.ref fa, .ref a_draft, .ref a_fence, .ref a_past, .ref sa, .ref ka, .ref a_sheets, .ref a_speedX, .ref a_speedY, .ref a_leftward, .ref a_change, .ref a_table, .int ((f_X7_keep fu fv su sv sk fi px).2.1)])), (fa, .inr (1, [.ref fap, .ref faq])), (fap, .inr (3, [.ref fapn])), (fapn, .inl (cy 0, 6, .inl fu)), (faq, .inr (3, [.ref faqn])), (faqn, .inl (cy 0, 6, .inl fv)), (sa, .inl (cy 3, 4, .inr (.inr (.inr (.inr rf))))), (sx, .inr (1, [.ref sxp, .ref sxq])), (sxp, .inr (3, [.ref sxpn])), (sxpn, .inl (cy 0, 6, .inl ((f_X7_keep fu fv su sv sk fi px).2.2.1))), (sxq, .inr (3, [.ref sxqn])), (sxqn, .inl (cy 0, 6, .inl ((f_X7_keep fu fv su sv sk fi px).2.2.2.1))), (ka, .inl (cy 0, 4, .inl ((f_X7_keep fu fv su sv sk fi px).2.2.2.2)))] := by
  refine yk_eI (cc := cX7_keep) (maxL := 2) (by decide) rfl (Nat.le_of_ble_eq_true rfl) rfl ?_
  intro p e R s m args below meth c A Q ls H locs hx hb hml hown hts hRf hRl hA hK hG hP hD hS hl hQ
  have hP : va_P D vwCl [(ta, .inr (7, [.ref fa, .ref a_draft, .ref a_fence, .ref a_past, .ref sa, .ref ka, .ref a_sheets, .ref a_speedX, .ref a_speedY, .ref a_leftward, .ref a_change, .ref a_table, .int fi])), (fa, .inr (1, [.ref fap, .ref faq])), (fap, .inr (3, [.ref fapn])), (fapn, .inl (cy 0, 6, .inl fu)), (faq, .inr (3, [.ref faqn])), (faqn, .inl (cy 0, 6, .inl fv)), (sa, .inl (cy 3, 4, .inr (.inr (.inr (.inr rf))))), (sx, .inr (1, [.ref sxp, .ref sxq])), (sxp, .inr (3, [.ref sxpn])), (sxpn, .inl (cy 0, 6, .inl su)), (sxq, .inr (3, [.ref sxqn])), (sxqn, .inl (cy 0, 6, .inl sv)), (ka, .inl (cy 0, 4, .inl sk))] H := hP
  have hl : lv_has ls 2 [(0, .ref ta), (1, .int px)] := hl
  have hown : s.vm.findClass RX7 = some m.cls := hown
  have hF : (f_X7_keep fu fv su sv sk fi px) = (f_X7_keep fu fv su sv sk fi px) := rfl
  refine lv_iload_n hx hb dX7_keep_0 rfl (lv_at hl 1 rfl) ?_
  refine yk_i [] (va_runS (As := [.int px]) (rest := []) ⟨hx, hb, hml, hown, hts⟩ (c_X7_isSlot l D cy px H.size) (va_cwS 1 hts gX7_keep_X7_isSlot rfl rfl rfl hs_X7_isSlot (yk_room hRf hRl rfl rfl)) (yk_ps hG hA hS hK hP hD [] (by decide +kernel) rfl) rfl rfl hl.1 rfl (lv_room (Nat.le_of_ble_eq_true rfl)) dX7_keep_1 ⟨Nat.zero_le _, Nat.zero_le _⟩) hP hD hS hA rfl rfl (fun H locs hP9 hD9 hS9 => ?_)
  replace hP : va_P D vwCl [(ta, .inr (7, [.ref fa, .ref a_draft, .ref a_fence, .ref a_past, .ref sa, .ref ka, .ref a_sheets, .ref a_speedX, .ref a_speedY, .ref a_leftward, .ref a_change, .ref a_table, .int fi])), (fa, .inr (1, [.ref fap, .ref faq])), (fap, .inr (3, [.ref fapn])), (fapn, .inl (cy 0, 6, .inl fu)), (faq, .inr (3, [.ref faqn])), (faqn, .inl (cy 0, 6, .inl fv)), (sa, .inl (cy 3, 4, .inr (.inr (.inr (.inr rf))))), (sx, .inr (1, [.ref sxp, .ref sxq])), (sxp, .inr (3, [.ref sxpn])), (sxpn, .inl (cy 0, 6, .inl su)), (sxq, .inr (3, [.ref sxqn])), (sxqn, .inl (cy 0, 6, .inl sv)), (ka, .inl (cy 0, 4, .inl sk))] H := hP9
  replace hD : va_D A [(ta, .inr (7, [.ref fa, .ref a_draft, .ref a_fence, .ref a_past, .ref sa, .ref ka, .ref a_sheets, .ref a_speedX, .ref a_speedY, .ref a_leftward, .ref a_change, .ref a_table, .int fi])), (fa, .inr (1, [.ref fap, .ref faq])), (fap, .inr (3, [.ref fapn])), (fapn, .inl (cy 0, 6, .inl fu)), (faq, .inr (3, [.ref faqn])), (faqn, .inl (cy 0, 6, .inl fv)), (sa, .inl (cy 3, 4, .inr (.inr (.inr (.inr rf))))), (sx, .inr (1, [.ref sxp, .ref sxq])), (sxp, .inr (3, [.ref sxpn])), (sxpn, .inl (cy 0, 6, .inl su)), (sxq, .inr (3, [.ref sxqn])), (sxqn, .inl (cy 0, 6, .inl sv)), (ka, .inl (cy 0, 4, .inl sk))] := hD9
  replace hS := hS9
  clear hP9 hD9 hS9
  refine lv_if_ne (tgt := 14) hx hb dX7_keep_4 (by decide) (fun hc1 => ?_) (fun hc1 => ?_)
  · replace hF := hF.trans (if_neg hc1)
    have hq2 : px = nI px.toNatClampNeg := (ix_slot (by assumption)).1
    have hq2b : px.toNatClampNeg < 4 := (ix_slot (by assumption)).2
    rw [hq2] at hl
    refine lv_aload_n hx hb dX7_keep_14 rfl (lv_at hl 0 rfl) ?_
    refine va_get (D := D) (ci := 7) (v := .ref sa) (C := RX7) (T := TX7) (N := 13) hx hb hts uX7_keep_X7 hown hK hP 0 rfl rfl 4 (by decide) (hts _ kX7_keep_0) (fun _ h9 => h9) rfl dX7_keep_15 ?_
    refine lv_iload_n hx hb dX7_keep_18 rfl (lv_at hl 1 rfl) ?_
    refine yk_aldq hx hb hK hP 6 3 rfl rfl px.toNatClampNeg (ix_slot (by assumption)).2 (by decide) (hrf (by assumption)) dX7_keep_19 ?_
    refine lv_aload_n hx hb dX7_keep_20 rfl (lv_at hl 0 rfl) ?_
    refine va_get (D := D) (ci := 7) (v := .ref fa) (C := RX7) (T := TX7) (N := 13) hx hb hts uX7_keep_X7 hown hK hP 0 rfl rfl 0 (by decide) (hts _ kX7_keep_1) (fun _ h9 => h9) rfl dX7_keep_21 ?_
    refine yk_v [7, 8, 9, 10, 11, 1, 2, 3, 4, 5] (va_runV (As := [.ref fa]) (rest := []) ⟨hx, hb, hml, hown, hts⟩ (c_X1_become l D cy sx sxp sxpn sxq sxqn fa fap fapn faq faqn su sv fu fv H.size) (cwV 1 hts gX7_keep_X1_become rfl rfl rfl hv_X1_become (yk_room hRf hRl rfl rfl)) (yk_pv (q := (RX1, TX1, 2)) hG hA hS hK hP hD [7, 8, 9, 10, 11, 1, 2, 3, 4, 5] (by decide +kernel) rfl rfl rfl) rfl rfl hl.1 rfl (lv_room (Nat.le_of_ble_eq_true rfl)) dX7_keep_24 ⟨Nat.zero_le _, Nat.zero_le _⟩) hP hD hS hA rfl (Eq.trans (b := [sx, sxp, sxpn, sxq, sxqn, fa, fap, fapn, faq, faqn]) rfl rfl) (fun H locs hP9 hD9 hS9 => ?_)
    replace hP : va_P D vwCl [(ta, .inr (7, [.ref fa, .ref a_draft, .ref a_fence, .ref a_past, .ref sa, .ref ka, .ref a_sheets, .ref a_speedX, .ref a_speedY, .ref a_leftward, .ref a_change, .ref a_table, .int fi])), (fa, .inr (1, [.ref fap, .ref faq])), (fap, .inr (3, [.ref fapn])), (fapn, .inl (cy 0, 6, .inl fu)), (faq, .inr (3, [.ref faqn])), (faqn, .inl (cy 0, 6, .inl fv)), (sa, .inl (cy 3, 4, .inr (.inr (.inr (.inr rf))))), (sx, .inr (1, [.ref sxp, .ref sxq])), (sxp, .inr (3, [.ref sxpn])), (sxpn, .inl (cy 0, 6, .inl ((f_X1_become su sv fu fv).1))), (sxq, .inr (3, [.ref sxqn])), (sxqn, .inl (cy 0, 6, .inl ((f_X1_become su sv fu fv).2))), (ka, .inl (cy 0, 4, .inl sk))] H := hP9
    replace hD : va_D A [(ta, .inr (7, [.ref fa, .ref a_draft, .ref a_fence, .ref a_past, .ref sa, .ref ka, .ref a_sheets, .ref a_speedX, .ref a_speedY, .ref a_leftward, .ref a_change, .ref a_table, .int fi])), (fa, .inr (1, [.ref fap, .ref faq])), (fap, .inr (3, [.ref fapn])), (fapn, .inl (cy 0, 6, .inl fu)), (faq, .inr (3, [.ref faqn])), (faqn, .inl (cy 0, 6, .inl fv)), (sa, .inl (cy 3, 4, .inr (.inr (.inr (.inr rf))))), (sx, .inr (1, [.ref sxp, .ref sxq])), (sxp, .inr (3, [.ref sxpn])), (sxpn, .inl (cy 0, 6, .inl ((f_X1_become su sv fu fv).1))), (sxq, .inr (3, [.ref sxqn])), (sxqn, .inl (cy 0, 6, .inl ((f_X1_become su sv fu fv).2))), (ka, .inl (cy 0, 4, .inl sk))] := hD9
    replace hS := hS9
    clear hP9 hD9 hS9
    refine lv_aload_n hx hb dX7_keep_27 rfl (lv_at hl 0 rfl) ?_
    refine va_get (D := D) (ci := 7) (v := .ref ka) (C := RX7) (T := TX7) (N := 13) hx hb hts uX7_keep_X7 hown hK hP 0 rfl rfl 5 (by decide) (hts _ kX7_keep_2) (fun _ h9 => h9) rfl dX7_keep_28 ?_
    refine lv_iload_n hx hb dX7_keep_31 rfl (lv_at hl 1 rfl) ?_
    refine lv_aload_n hx hb dX7_keep_32 rfl (lv_at hl 0 rfl) ?_
    refine va_get (D := D) (ci := 7) (v := .ref fa) (C := RX7) (T := TX7) (N := 13) hx hb hts uX7_keep_X7 hown hK hP 0 rfl rfl 0 (by decide) (hts _ kX7_keep_1) (fun _ h9 => h9) rfl dX7_keep_33 ?_
    refine yk_i [1, 2, 3, 4, 5] (va_runV (As := []) (rest := [.int (nI px.toNatClampNeg), .ref ka]) ⟨hx, hb, hml, hown, hts⟩ (c_X1_lastKind l D cy fa fap fapn faq faqn fu fv H.size) (cwV 0 hts gX7_keep_X1_lastKind rfl rfl rfl hv_X1_lastKind (yk_room hRf hRl rfl rfl)) (yk_pv (q := (RX1, TX1, 2)) hG hA hS hK hP hD [1, 2, 3, 4, 5] (by decide +kernel) rfl rfl rfl) rfl rfl hl.1 rfl (lv_room (Nat.le_of_ble_eq_true rfl)) dX7_keep_36 ⟨Nat.zero_le _, Nat.zero_le _⟩) hP hD hS hA rfl (Eq.trans (b := [fa, fap, fapn, faq, faqn]) rfl rfl) (fun H locs hP9 hD9 hS9 => ?_)
    replace hP : va_P D vwCl [(ta, .inr (7, [.ref fa, .ref a_draft, .ref a_fence, .ref a_past, .ref sa, .ref ka, .ref a_sheets, .ref a_speedX, .ref a_speedY, .ref a_leftward, .ref a_change, .ref a_table, .int fi])), (fa, .inr (1, [.ref fap, .ref faq])), (fap, .inr (3, [.ref fapn])), (fapn, .inl (cy 0, 6, .inl fu)), (faq, .inr (3, [.ref faqn])), (faqn, .inl (cy 0, 6, .inl fv)), (sa, .inl (cy 3, 4, .inr (.inr (.inr (.inr rf))))), (sx, .inr (1, [.ref sxp, .ref sxq])), (sxp, .inr (3, [.ref sxpn])), (sxpn, .inl (cy 0, 6, .inl ((f_X1_become su sv fu fv).1))), (sxq, .inr (3, [.ref sxqn])), (sxqn, .inl (cy 0, 6, .inl ((f_X1_become su sv fu fv).2))), (ka, .inl (cy 0, 4, .inl sk))] H := hP9
    replace hD : va_D A [(ta, .inr (7, [.ref fa, .ref a_draft, .ref a_fence, .ref a_past, .ref sa, .ref ka, .ref a_sheets, .ref a_speedX, .ref a_speedY, .ref a_leftward, .ref a_change, .ref a_table, .int fi])), (fa, .inr (1, [.ref fap, .ref faq])), (fap, .inr (3, [.ref fapn])), (fapn, .inl (cy 0, 6, .inl fu)), (faq, .inr (3, [.ref faqn])), (faqn, .inl (cy 0, 6, .inl fv)), (sa, .inl (cy 3, 4, .inr (.inr (.inr (.inr rf))))), (sx, .inr (1, [.ref sxp, .ref sxq])), (sxp, .inr (3, [.ref sxpn])), (sxpn, .inl (cy 0, 6, .inl ((f_X1_become su sv fu fv).1))), (sxq, .inr (3, [.ref sxqn])), (sxqn, .inl (cy 0, 6, .inl ((f_X1_become su sv fu fv).2))), (ka, .inl (cy 0, 4, .inl sk))] := hD9
    replace hS := hS9
    clear hP9 hD9 hS9
    refine yk_ist hx hb hK hP hD hS 12 0 rfl rfl px.toNatClampNeg (by omega) (by decide) dX7_keep_39 (fun H locs hP9 hD9 hS9 => ?_)
    replace hP : va_P D vwCl [(ta, .inr (7, [.ref fa, .ref a_draft, .ref a_fence, .ref a_past, .ref sa, .ref ka, .ref a_sheets, .ref a_speedX, .ref a_speedY, .ref a_leftward, .ref a_change, .ref a_table, .int fi])), (fa, .inr (1, [.ref fap, .ref faq])), (fap, .inr (3, [.ref fapn])), (fapn, .inl (cy 0, 6, .inl fu)), (faq, .inr (3, [.ref faqn])), (faqn, .inl (cy 0, 6, .inl fv)), (sa, .inl (cy 3, 4, .inr (.inr (.inr (.inr rf))))), (sx, .inr (1, [.ref sxp, .ref sxq])), (sxp, .inr (3, [.ref sxpn])), (sxpn, .inl (cy 0, 6, .inl ((f_X1_become su sv fu fv).1))), (sxq, .inr (3, [.ref sxqn])), (sxqn, .inl (cy 0, 6, .inl ((f_X1_become su sv fu fv).2))), (ka, .inl (cy 0, 4, .inl (upd sk px.toNatClampNeg (f_X1_lastKind fu fv))))] H := hP9
    replace hD : va_D A [(ta, .inr (7, [.ref fa, .ref a_draft, .ref a_fence, .ref a_past, .ref sa, .ref ka, .ref a_sheets, .ref a_speedX, .ref a_speedY, .ref a_leftward, .ref a_change, .ref a_table, .int fi])), (fa, .inr (1, [.ref fap, .ref faq])), (fap, .inr (3, [.ref fapn])), (fapn, .inl (cy 0, 6, .inl fu)), (faq, .inr (3, [.ref faqn])), (faqn, .inl (cy 0, 6, .inl fv)), (sa, .inl (cy 3, 4, .inr (.inr (.inr (.inr rf))))), (sx, .inr (1, [.ref sxp, .ref sxq])), (sxp, .inr (3, [.ref sxpn])), (sxpn, .inl (cy 0, 6, .inl ((f_X1_become su sv fu fv).1))), (sxq, .inr (3, [.ref sxqn])), (sxqn, .inl (cy 0, 6, .inl ((f_X1_become su sv fu fv).2))), (ka, .inl (cy 0, 4, .inl (upd sk px.toNatClampNeg (f_X1_lastKind fu fv))))] := hD9
    replace hS := hS9
    clear hP9 hD9 hS9
    refine lv_aload_n hx hb dX7_keep_40 rfl (lv_at hl 0 rfl) ?_
    refine va_get (D := D) (ci := 7) (v := .ref ka) (C := RX7) (T := TX7) (N := 13) hx hb hts uX7_keep_X7 hown hK hP 0 rfl rfl 5 (by decide) (hts _ kX7_keep_2) (fun _ h9 => h9) rfl dX7_keep_41 ?_
    refine lv_iload_n hx hb dX7_keep_44 rfl (lv_at hl 1 rfl) ?_
    refine yk_ild hx hb hK hP 12 0 rfl rfl px.toNatClampNeg (by omega) (by decide) dX7_keep_45 ?_
    have hF : f_X7_keep fu fv su sv sk fi px = (((upd sk px.toNatClampNeg (f_X1_lastKind fu fv)) px.toNatClampNeg), fi, ((f_X1_become su sv fu fv).1), ((f_X1_become su sv fu fv).2), (upd sk px.toNatClampNeg (f_X1_lastKind fu fv))) := hF
    have hf0 := yk_fst hF
    have hg0 := yk_snd hF
    have hf1 := yk_fst hg0
    have hg1 := yk_snd hg0
    have hf2 := yk_fst hg1
    have hg2 := yk_snd hg1
    have hf3 := yk_fst hg2
    have hg3 := yk_snd hg2
    rw [hf0, hf1, hf2, hf3, hg3] at hQ
    exact hQ _ _ _ _ dX7_keep_46 hP hS
  · replace hF := hF.trans (if_pos hc1)
    refine lv_aload_n hx hb dX7_keep_7 rfl (lv_at hl 0 rfl) ?_
    refine lv_ldc (v := (-1000001)) hx hb hown (hts _ kX7_keep_3) dX7_keep_8 ?_
    refine yk_i [0] (va_runV (As := [.int (-1000001)]) (rest := []) ⟨hx, hb, hml, hown, hts⟩ (c_X7_finding l D cy ta fa a_draft a_fence a_past sa ka a_sheets a_speedX a_speedY a_leftward a_change a_table fi (-1000001) H.size) (cwV 1 hts gX7_keep_X7_finding rfl rfl rfl hv_X7_finding (yk_room hRf hRl rfl rfl)) (yk_pv (q := (RX7, TX7, 13)) hG hA hS hK hP hD [0] (by decide +kernel) rfl rfl rfl) rfl rfl hl.1 rfl (lv_room (Nat.le_of_ble_eq_true rfl)) dX7_keep_10 ⟨Nat.zero_le _, Nat.zero_le _⟩) hP hD hS hA rfl (Eq.trans (b := [ta]) rfl rfl) (fun H locs hP9 hD9 hS9 => ?_)
    replace hP : va_P D vwCl [(ta, .inr (7, [.ref fa, .ref a_draft, .ref a_fence, .ref a_past, .ref sa, .ref ka, .ref a_sheets, .ref a_speedX, .ref a_speedY, .ref a_leftward, .ref a_change, .ref a_table, .int ((f_X7_finding fi (-1000001)).2)])), (fa, .inr (1, [.ref fap, .ref faq])), (fap, .inr (3, [.ref fapn])), (fapn, .inl (cy 0, 6, .inl fu)), (faq, .inr (3, [.ref faqn])), (faqn, .inl (cy 0, 6, .inl fv)), (sa, .inl (cy 3, 4, .inr (.inr (.inr (.inr rf))))), (sx, .inr (1, [.ref sxp, .ref sxq])), (sxp, .inr (3, [.ref sxpn])), (sxpn, .inl (cy 0, 6, .inl su)), (sxq, .inr (3, [.ref sxqn])), (sxqn, .inl (cy 0, 6, .inl sv)), (ka, .inl (cy 0, 4, .inl sk))] H := hP9
    replace hD : va_D A [(ta, .inr (7, [.ref fa, .ref a_draft, .ref a_fence, .ref a_past, .ref sa, .ref ka, .ref a_sheets, .ref a_speedX, .ref a_speedY, .ref a_leftward, .ref a_change, .ref a_table, .int ((f_X7_finding fi (-1000001)).2)])), (fa, .inr (1, [.ref fap, .ref faq])), (fap, .inr (3, [.ref fapn])), (fapn, .inl (cy 0, 6, .inl fu)), (faq, .inr (3, [.ref faqn])), (faqn, .inl (cy 0, 6, .inl fv)), (sa, .inl (cy 3, 4, .inr (.inr (.inr (.inr rf))))), (sx, .inr (1, [.ref sxp, .ref sxq])), (sxp, .inr (3, [.ref sxpn])), (sxpn, .inl (cy 0, 6, .inl su)), (sxq, .inr (3, [.ref sxqn])), (sxqn, .inl (cy 0, 6, .inl sv)), (ka, .inl (cy 0, 4, .inl sk))] := hD9
    replace hS := hS9
    clear hP9 hD9 hS9
    have hF : f_X7_keep fu fv su sv sk fi px = (((f_X7_finding fi (-1000001)).1), ((f_X7_finding fi (-1000001)).2), su, sv, sk) := hF
    have hf0 := yk_fst hF
    have hg0 := yk_snd hF
    have hf1 := yk_fst hg0
    have hg1 := yk_snd hg0
    have hf2 := yk_fst hg1
    have hg2 := yk_snd hg1
    have hf3 := yk_fst hg2
    have hg3 := yk_snd hg2
    rw [hf0, hf1, hf2, hf3, hg3] at hQ
    exact hQ _ _ _ _ dX7_keep_13 hP hS
