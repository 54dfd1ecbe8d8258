
theorem kX7_turns_0 : Cond.fieldLink RX7 58 "FlowPlane" "leftward" "LFlowPlane$Quadratic;" ∈ wsX7_turns := by decide +kernel
theorem uX7_turns_X7 : ∀ w ∈ u_ws RX7 TX7 13, w ∈ wsX7_turns := by decide +kernel
def f_X7_turns (fu : Nat → Int32) (fv : Nat → Int32) (xs : Nat → Int32) (ys : Nat → Int32) (n : Nat) (ax : Int64) (bx : Int64) (cx : Int64) (ay : Int64) (by_ : Int64) (cy_ : Int64) (aw : Int64) (bw : Int64) (cw : Int64) (fi : Int32) (px : Int32) : Int32 × Int32 × Int64 × Int64 × Int64 × Int64 × Int64 × Int64 × Int64 × Int64 × Int64 := (if (f_X7_refusalOfPiece xs ys n px) = 0 then ((f_X4_zerosOnPiece ((f_X7_followAcross fu fv xs ys px.toNatClampNeg).2.2.2.2.2.2.1) ((f_X7_followAcross fu fv xs ys px.toNatClampNeg).2.2.2.2.2.2.2.1) ((f_X7_followAcross fu fv xs ys px.toNatClampNeg).2.2.2.2.2.2.2.2)), fi, ((f_X7_followAcross fu fv xs ys px.toNatClampNeg).1), ((f_X7_followAcross fu fv xs ys px.toNatClampNeg).2.1), ((f_X7_followAcross fu fv xs ys px.toNatClampNeg).2.2.1), ((f_X7_followAcross fu fv xs ys px.toNatClampNeg).2.2.2.1), ((f_X7_followAcross fu fv xs ys px.toNatClampNeg).2.2.2.2.1), ((f_X7_followAcross fu fv xs ys px.toNatClampNeg).2.2.2.2.2.1), ((f_X7_followAcross fu fv xs ys px.toNatClampNeg).2.2.2.2.2.2.1), ((f_X7_followAcross fu fv xs ys px.toNatClampNeg).2.2.2.2.2.2.2.1), ((f_X7_followAcross fu fv xs ys px.toNatClampNeg).2.2.2.2.2.2.2.2)) else (((f_X7_finding fi (f_X7_refusalOfPiece xs ys n px)).1), ((f_X7_finding fi (f_X7_refusalOfPiece xs ys n px)).2), ax, bx, cx, ay, by_, cy_, aw, bw, cw))
set_option maxHeartbeats 400000000 in
set_option maxRecDepth 100000 in
theorem c_X7_turns (l : Launch) (D : va_G) (cy : Nat → ClassId) (ta : Nat) (fa : Nat) (fap : Nat) (fapn : Nat) (faq : Nat) (faqn : Nat) (ea : Nat) (eax : Nat) (eay : Nat) (qxa : Nat) (qya : Nat) (qla : Nat) (a_draft : Nat) (a_past : Nat) (a_slots : Nat) (a_slotKinds : Nat) (a_sheets : Nat) (a_change : Nat) (a_table : Nat) (fu : Nat → Int32) (fv : Nat → Int32) (xs : Nat → Int32) (ys : Nat → Int32) (n : Nat) (ax : Int64) (bx : Int64) (cx : Int64) (ay : Int64) (by_ : Int64) (cy_ : Int64) (aw : Int64) (bw : Int64) (cw : Int64) (fi : Int32) (px : Int32) (hn : n ≤ 8) : yk_Ci l D vwCl (yk_ty cy) yX7_turns wsX7_turns 5 122 [.ref ta, .int px] [(ta, .inr (7, [.ref fa, .ref a_draft, .ref ea, .ref a_past, .ref a_slots, .ref a_slotKinds, .ref a_sheets, .ref qxa, .ref qya, .ref qla, .ref a_change, .ref a_table, .int fi])), (fa, .inr (1, [.ref fap, .ref faq])), (fap, .inr (3, [.ref fapn])), (fapn, .inl (cy 0, 6, .inl fu)), (faq, .inr (3, [.ref faqn])), (faqn, .inl (cy 0, 6, .inl fv)), (ea, .inr (0, [.ref eax, .ref eay, .int (nI n)])), (eax, .inl (cy 0, 9, .inl xs)), (eay, .inl (cy 0, 9, .inl ys)), (qxa, .inr (4, [.long ax, .long bx, .long cx])), (qya, .inr (4, [.long ay, .long by_, .long cy_])), (qla, .inr (4, [.long aw, .long bw, .long cw]))] ((f_X7_turns fu fv xs ys n ax bx cx ay by_ cy_ aw bw cw fi px).1) [(ta, .inr (7, [.ref fa, .ref a_draft, .ref ea, .ref a_past, .ref a_slots, .ref a_slotKinds, .ref a_sheets, .ref qxa, .ref qya, .ref qla, .ref a_change, .ref a_table, .int ((f_X7_turns fu fv xs ys n ax bx cx ay by_ cy_ aw bw cw fi px).2.1)])), (fa, .inr (1, [.ref fap, .ref faq])), (fap, .inr (3, [.ref fapn])), (fapn, .inl (cy 0, 6, .inl fu)), (faq, .inr (3, [.ref faqn])), (faqn, .inl (cy 0, 6, .inl fv)), (ea, .inr (0, [.ref eax, .ref eay, .int (nI n)])), (eax, .inl (cy 0, 9, .inl xs)), (eay, .inl (cy 0, 9, .inl ys)), (qxa, .inr (4, [.long ((f_X7_turns fu fv xs ys n ax bx cx ay by_ cy_ aw bw cw fi px).2.2.1), .long ((f_X7_turns fu fv xs ys n ax bx cx ay by_ cy_ aw bw cw fi px).2.2.2.1), .long ((f_X7_turns fu fv xs ys n ax bx cx ay by_ cy_ aw bw cw fi px).2.2.2.2.1)])), (qya, .inr (4, [.long ((f_X7_turns fu fv xs ys n ax bx cx ay by_ cy_ aw bw cw fi px).2.2.2.2.2.1), .long ((f_X7_turns fu fv xs ys n ax bx cx ay by_ cy_ aw bw cw fi px).2.2.2.2.2.2.1), .long ((f_X7_turns fu fv xs ys n ax bx cx ay by_ cy_ aw bw cw fi px).2.2.2.2.2.2.2.1)])), (qla, .inr (4, [.long ((f_X7_turns fu fv xs ys n ax bx cx ay by_ cy_ aw bw cw fi px).2.2.2.2.2.2.2.2.1), .long ((f_X7_turns fu fv xs ys n ax bx cx ay by_ cy_ aw bw cw fi px).2.2.2.2.2.2.2.2.2.1), .long ((f_X7_turns fu fv xs ys n ax bx cx ay by_ cy_ aw bw cw fi px).2.2.2.2.2.2.2.2.2.2)]))] := by
  refine yk_eI (cc := cX7_turns) (maxL := 3) (by decide) rfl (Nat.le_of_ble_eq_true rfl) rfl ?_
  intro p e R s m args below meth c A Q ls H locs hx hb hml hown hts hRf hRl hA hK hG hP hD hS hl hQ
  have hP : va_P D vwCl [(ta, .inr (7, [.ref fa, .ref a_draft, .ref ea, .ref a_past, .ref a_slots, .ref a_slotKinds, .ref a_sheets, .ref qxa, .ref qya, .ref qla, .ref a_change, .ref a_table, .int fi])), (fa, .inr (1, [.ref fap, .ref faq])), (fap, .inr (3, [.ref fapn])), (fapn, .inl (cy 0, 6, .inl fu)), (faq, .inr (3, [.ref faqn])), (faqn, .inl (cy 0, 6, .inl fv)), (ea, .inr (0, [.ref eax, .ref eay, .int (nI n)])), (eax, .inl (cy 0, 9, .inl xs)), (eay, .inl (cy 0, 9, .inl ys)), (qxa, .inr (4, [.long ax, .long bx, .long cx])), (qya, .inr (4, [.long ay, .long by_, .long cy_])), (qla, .inr (4, [.long aw, .long bw, .long cw]))] H := hP
  have hl : lv_has ls 3 [(0, .ref ta), (1, .int px)] := hl
  have hown : s.vm.findClass RX7 = some m.cls := hown
  have hF : (f_X7_turns fu fv xs ys n ax bx cx ay by_ cy_ aw bw cw fi px) = (f_X7_turns fu fv xs ys n ax bx cx ay by_ cy_ aw bw cw fi px) := rfl
  refine lv_aload_n hx hb dX7_turns_0 rfl (lv_at hl 0 rfl) ?_
  refine lv_iload_n hx hb dX7_turns_1 rfl (lv_at hl 1 rfl) ?_
  refine yk_i [0, 6, 7, 8] (va_runV (As := [.int px]) (rest := []) ⟨hx, hb, hml, hown, hts⟩ (c_X7_refusalOfPiece l D cy ta ea eax eay fa a_draft a_past a_slots a_slotKinds a_sheets qxa qya qla a_change a_table xs ys n fi px hn H.size) (cwV 1 hts gX7_turns_X7_refusalOfPiece rfl rfl rfl hv_X7_refusalOfPiece (yk_room hRf hRl rfl rfl)) (yk_pv (q := (RX7, TX7, 13)) hG hA hS hK hP hD [0, 6, 7, 8] (by decide +kernel) rfl rfl rfl) rfl rfl hl.1 rfl (lv_room (Nat.le_of_ble_eq_true rfl)) dX7_turns_2 ⟨Nat.zero_le _, Nat.zero_le _⟩) hP hD hS hA rfl (Eq.trans (b := [ta, ea, eax, eay]) rfl rfl) (fun H locs hP9 hD9 hS9 => ?_)
  replace hP : va_P D vwCl [(ta, .inr (7, [.ref fa, .ref a_draft, .ref ea, .ref a_past, .ref a_slots, .ref a_slotKinds, .ref a_sheets, .ref qxa, .ref qya, .ref qla, .ref a_change, .ref a_table, .int fi])), (fa, .inr (1, [.ref fap, .ref faq])), (fap, .inr (3, [.ref fapn])), (fapn, .inl (cy 0, 6, .inl fu)), (faq, .inr (3, [.ref faqn])), (faqn, .inl (cy 0, 6, .inl fv)), (ea, .inr (0, [.ref eax, .ref eay, .int (nI n)])), (eax, .inl (cy 0, 9, .inl xs)), (eay, .inl (cy 0, 9, .inl ys)), (qxa, .inr (4, [.long ax, .long bx, .long cx])), (qya, .inr (4, [.long ay, .long by_, .long cy_])), (qla, .inr (4, [.long aw, .long bw, .long cw]))] H := hP9
  replace hD : va_D A [(ta, .inr (7, [.ref fa, .ref a_draft, .ref ea, .ref a_past, .ref a_slots, .ref a_slotKinds, .ref a_sheets, .ref qxa, .ref qya, .ref qla, .ref a_change, .ref a_table, .int fi])), (fa, .inr (1, [.ref fap, .ref faq])), (fap, .inr (3, [.ref fapn])), (fapn, .inl (cy 0, 6, .inl fu)), (faq, .inr (3, [.ref faqn])), (faqn, .inl (cy 0, 6, .inl fv)), (ea, .inr (0, [.ref eax, .ref eay, .int (nI n)])), (eax, .inl (cy 0, 9, .inl xs)), (eay, .inl (cy 0, 9, .inl ys)), (qxa, .inr (4, [.long ax, .long bx, .long cx])), (qya, .inr (4, [.long ay, .long by_, .long cy_])), (qla, .inr (4, [.long aw, .long bw, .long cw]))] := hD9
  replace hS := hS9
  clear hP9 hD9 hS9
  refine lv_istore_n (lv' := [(2, .int (f_X7_refusalOfPiece xs ys n px)), (0, .ref ta), (1, .int px)]) hx hb dX7_turns_5 rfl hl (by decide) rfl (fun ls hl9 => ?_)
  replace hl := hl9
  clear hl9
  refine lv_iload_n hx hb dX7_turns_6 rfl (lv_at hl 0 rfl) ?_
  refine lv_if_eq (tgt := 16) hx hb dX7_turns_7 (by decide) (fun hc1 => ?_) (fun hc1 => ?_)
  · replace hF := hF.trans (if_pos hc1)
    have hq2 : px = nI px.toNatClampNeg := (rf_ok hn (by assumption)).1
    have hq2b : px.toNatClampNeg < n := (rf_ok hn (by assumption)).2
    rw [hq2] at hl
    refine lv_aload_n hx hb dX7_turns_16 rfl (lv_at hl 1 rfl) ?_
    refine lv_iload_n hx hb dX7_turns_17 rfl (lv_at hl 2 rfl) ?_
    refine yk_v [0, 1, 2, 3, 4, 5, 6, 7, 8, 9, 10, 11] (va_runV (As := [.int (nI px.toNatClampNeg)]) (rest := []) ⟨hx, hb, hml, hown, hts⟩ (c_X7_followAcross l D cy ta fa fap fapn faq faqn ea eax eay qxa qya qla a_draft a_past a_slots a_slotKinds a_sheets a_change a_table fu fv xs ys n ax bx cx ay by_ cy_ aw bw cw fi px.toNatClampNeg hn (by omega) H.size) (cwV 1 hts gX7_turns_X7_followAcross rfl rfl rfl hv_X7_followAcross (yk_room hRf hRl rfl rfl)) (yk_pv (q := (RX7, TX7, 13)) hG hA hS hK hP hD [0, 1, 2, 3, 4, 5, 6, 7, 8, 9, 10, 11] (by decide +kernel) rfl rfl rfl) rfl rfl hl.1 rfl (lv_room (Nat.le_of_ble_eq_true rfl)) dX7_turns_18 ⟨Nat.zero_le _, Nat.zero_le _⟩) hP hD hS hA rfl (Eq.trans (b := [ta, fa, fap, fapn, faq, faqn, ea, eax, eay, qxa, qya, qla]) rfl rfl) (fun H locs hP9 hD9 hS9 => ?_)
    replace hP : va_P D vwCl [(ta, .inr (7, [.ref fa, .ref a_draft, .ref ea, .ref a_past, .ref a_slots, .ref a_slotKinds, .ref a_sheets, .ref qxa, .ref qya, .ref qla, .ref a_change, .ref a_table, .int fi])), (fa, .inr (1, [.ref fap, .ref faq])), (fap, .inr (3, [.ref fapn])), (fapn, .inl (cy 0, 6, .inl fu)), (faq, .inr (3, [.ref faqn])), (faqn, .inl (cy 0, 6, .inl fv)), (ea, .inr (0, [.ref eax, .ref eay, .int (nI n)])), (eax, .inl (cy 0, 9, .inl xs)), (eay, .inl (cy 0, 9, .inl ys)), (qxa, .inr (4, [.long ((f_X7_followAcross fu fv xs ys px.toNatClampNeg).1), .long ((f_X7_followAcross fu fv xs ys px.toNatClampNeg).2.1), .long ((f_X7_followAcross fu fv xs ys px.toNatClampNeg).2.2.1)])), (qya, .inr (4, [.long ((f_X7_followAcross fu fv xs ys px.toNatClampNeg).2.2.2.1), .long ((f_X7_followAcross fu fv xs ys px.toNatClampNeg).2.2.2.2.1), .long ((f_X7_followAcross fu fv xs ys px.toNatClampNeg).2.2.2.2.2.1)])), (qla, .inr (4, [.long ((f_X7_followAcross fu fv xs ys px.toNatClampNeg).2.2.2.2.2.2.1), .long ((f_X7_followAcross fu fv xs ys px.toNatClampNeg).2.2.2.2.2.2.2.1), .long ((f_X7_followAcross fu fv xs ys px.toNatClampNeg).2.2.2.2.2.2.2.2)]))] H := hP9
    replace hD : va_D A [(ta, .inr (7, [.ref fa, .ref a_draft, .ref ea, .ref a_past, .ref a_slots, .ref a_slotKinds, .ref a_sheets, .ref qxa, .ref qya, .ref qla, .ref a_change, .ref a_table, .int fi])), (fa, .inr (1, [.ref fap, .ref faq])), (fap, .inr (3, [.ref fapn])), (fapn, .inl (cy 0, 6, .inl fu)), (faq, .inr (3, [.ref faqn])), (faqn, .inl (cy 0, 6, .inl fv)), (ea, .inr (0, [.ref eax, .ref eay, .int (nI n)])), (eax, .inl (cy 0, 9, .inl xs)), (eay, .inl (cy 0, 9, .inl ys)), (qxa, .inr (4, [.long ((f_X7_followAcross fu fv xs ys px.toNatClampNeg).1), .long ((f_X7_followAcross fu fv xs ys px.toNatClampNeg).2.1), .long ((f_X7_followAcross fu fv xs ys px.toNatClampNeg).2.2.1)])), (qya, .inr (4, [.long ((f_X7_followAcross fu fv xs ys px.toNatClampNeg).2.2.2.1), .long ((f_X7_followAcross fu fv xs ys px.toNatClampNeg).2.2.2.2.1), .long ((f_X7_followAcross fu fv xs ys px.toNatClampNeg).2.2.2.2.2.1)])), (qla, .inr (4, [.long ((f_X7_followAcross fu fv xs ys px.toNatClampNeg).2.2.2.2.2.2.1), .long ((f_X7_followAcross fu fv xs ys px.toNatClampNeg).2.2.2.2.2.2.2.1), .long ((f_X7_followAcross fu fv xs ys px.toNatClampNeg).2.2.2.2.2.2.2.2)]))] := hD9
    replace hS := hS9
    clear hP9 hD9 hS9
    refine lv_aload_n hx hb dX7_turns_21 rfl (lv_at hl 1 rfl) ?_
    refine va_get (D := D) (ci := 7) (v := .ref qla) (C := RX7) (T := TX7) (N := 13) hx hb hts uX7_turns_X7 hown hK hP 0 rfl rfl 9 (by decide) (hts _ kX7_turns_0) (fun _ h9 => h9) rfl dX7_turns_22 ?_
    refine yk_i [11] (va_runV (As := []) (rest := []) ⟨hx, hb, hml, hown, hts⟩ (c_X4_zerosOnPiece l D cy qla ((f_X7_followAcross fu fv xs ys px.toNatClampNeg).2.2.2.2.2.2.1) ((f_X7_followAcross fu fv xs ys px.toNatClampNeg).2.2.2.2.2.2.2.1) ((f_X7_followAcross fu fv xs ys px.toNatClampNeg).2.2.2.2.2.2.2.2) H.size) (cwV 0 hts gX7_turns_X4_zerosOnPiece rfl rfl rfl hv_X4_zerosOnPiece (yk_room hRf hRl rfl rfl)) (yk_pv (q := (RX4, TX4, 3)) hG hA hS hK hP hD [11] (by decide +kernel) rfl rfl rfl) rfl rfl hl.1 rfl (lv_room (Nat.le_of_ble_eq_true rfl)) dX7_turns_25 ⟨Nat.zero_le _, Nat.zero_le _⟩) hP hD hS hA rfl (Eq.trans (b := [qla]) rfl rfl) (fun H locs hP9 hD9 hS9 => ?_)
    replace hP : va_P D vwCl [(ta, .inr (7, [.ref fa, .ref a_draft, .ref ea, .ref a_past, .ref a_slots, .ref a_slotKinds, .ref a_sheets, .ref qxa, .ref qya, .ref qla, .ref a_change, .ref a_table, .int fi])), (fa, .inr (1, [.ref fap, .ref faq])), (fap, .inr (3, [.ref fapn])), (fapn, .inl (cy 0, 6, .inl fu)), (faq, .inr (3, [.ref faqn])), (faqn, .inl (cy 0, 6, .inl fv)), (ea, .inr (0, [.ref eax, .ref eay, .int (nI n)])), (eax, .inl (cy 0, 9, .inl xs)), (eay, .inl (cy 0, 9, .inl ys)), (qxa, .inr (4, [.long ((f_X7_followAcross fu fv xs ys px.toNatClampNeg).1), .long ((f_X7_followAcross fu fv xs ys px.toNatClampNeg).2.1), .long ((f_X7_followAcross fu fv xs ys px.toNatClampNeg).2.2.1)])), (qya, .inr (4, [.long ((f_X7_followAcross fu fv xs ys px.toNatClampNeg).2.2.2.1), .long ((f_X7_followAcross fu fv xs ys px.toNatClampNeg).2.2.2.2.1), .long ((f_X7_followAcross fu fv xs ys px.toNatClampNeg).2.2.2.2.2.1)])), (qla, .inr (4, [.long ((f_X7_followAcross fu fv xs ys px.toNatClampNeg).2.2.2.2.2.2.1), .long ((f_X7_followAcross fu fv xs ys px.toNatClampNeg).2.2.2.2.2.2.2.1), .long ((f_X7_followAcross fu fv xs ys px.toNatClampNeg).2.2.2.2.2.2.2.2)]))] H := hP9
    replace hD : va_D A [(ta, .inr (7, [.ref fa, .ref a_draft, .ref ea, .ref a_past, .ref a_slots, .ref a_slotKinds, .ref a_sheets, .ref qxa, .ref qya, .ref qla, .ref a_change, .ref a_table, .int fi])), (fa, .inr (1, [.ref fap, .ref faq])), (fap, .inr (3, [.ref fapn])), (fapn, .inl (cy 0, 6, .inl fu)), (faq, .inr (3, [.ref faqn])), (faqn, .inl (cy 0, 6, .inl fv)), (ea, .inr (0, [.ref eax, .ref eay, .int (nI n)])), (eax, .inl (cy 0, 9, .inl xs)), (eay, .inl (cy 0, 9, .inl ys)), (qxa, .inr (4, [.long ((f_X7_followAcross fu fv xs ys px.toNatClampNeg).1), .long ((f_X7_followAcross fu fv xs ys px.toNatClampNeg).2.1), .long ((f_X7_followAcross fu fv xs ys px.toNatClampNeg).2.2.1)])), (qya, .inr (4, [.long ((f_X7_followAcross fu fv xs ys px.toNatClampNeg).2.2.2.1), .long ((f_X7_followAcross fu fv xs ys px.toNatClampNeg).2.2.2.2.1), .long ((f_X7_followAcross fu fv xs ys px.toNatClampNeg).2.2.2.2.2.1)])), (qla, .inr (4, [.long ((f_X7_followAcross fu fv xs ys px.toNatClampNeg).2.2.2.2.2.2.1), .long ((f_X7_followAcross fu fv xs ys px.toNatClampNeg).2.2.2.2.2.2.2.1), .long ((f_X7_followAcross fu fv xs ys px.toNatClampNeg).2.2.2.2.2.2.2.2)]))] := hD9
    replace hS := hS9
    clear hP9 hD9 hS9
    have hF : f_X7_turns fu fv xs ys n ax bx cx ay by_ cy_ aw bw cw fi px = ((f_X4_zerosOnPiece ((f_X7_followAcross fu fv xs ys px.toNatClampNeg).2.2.2.2.2.2.1) ((f_X7_followAcross fu fv xs ys px.toNatClampNeg).2.2.2.2.2.2.2.1) ((f_X7_followAcross fu fv xs ys px.toNatClampNeg).2.2.2.2.2.2.2.2)), fi, ((f_X7_followAcross fu fv xs ys px.toNatClampNeg).1), ((f_X7_followAcross fu fv xs ys px.toNatClampNeg).2.1), ((f_X7_followAcross fu fv xs ys px.toNatClampNeg).2.2.1), ((f_X7_followAcross fu fv xs ys px.toNatClampNeg).2.2.2.1), ((f_X7_followAcross fu fv xs ys px.toNatClampNeg).2.2.2.2.1), ((f_X7_followAcross fu fv xs ys px.toNatClampNeg).2.2.2.2.2.1), ((f_X7_followAcross fu fv xs ys px.toNatClampNeg).2.2.2.2.2.2.1), ((f_X7_followAcross fu fv xs ys px.toNatClampNeg).2.2.2.2.2.2.2.1), ((f_X7_followAcross fu fv xs ys px.toNatClampNeg).2.2.2.2.2.2.2.2)) := hF
    have hf0 := yk_fst hF
    have hg0 := yk_snd hF
    have hf1 := yk_fst hg0
    have hg1 := yk_snd hg0
    have hf2 := yk_fst hg1
    have hg2 := yk_snd hg1
    have hf3 := yk_fst hg2
    have hg3 := yk_snd hg2
    have hf4 := yk_fst hg3
    have hg4 := yk_snd hg3
    have hf5 := yk_fst hg4
    have hg5 := yk_snd hg4
    have hf6 := yk_fst hg5
    have hg6 := yk_snd hg5
    have hf7 := yk_fst hg6
    have hg7 := yk_snd hg6
    have hf8 := yk_fst hg7
    have hg8 := yk_snd hg7
    have hf9 := yk_fst hg8
    have hg9 := yk_snd hg8
    rw [hf0, hf1, hf2, hf3, hf4, hf5, hf6, hf7, hf8, hf9, hg9] at hQ
    exact hQ _ _ _ _ dX7_turns_28 hP hS
  · replace hF := hF.trans (if_neg hc1)
    refine lv_aload_n hx hb dX7_turns_10 rfl (lv_at hl 1 rfl) ?_
    refine lv_iload_n hx hb dX7_turns_11 rfl (lv_at hl 0 rfl) ?_
    refine yk_i [0] (va_runV (As := [.int (f_X7_refusalOfPiece xs ys n px)]) (rest := []) ⟨hx, hb, hml, hown, hts⟩ (c_X7_finding l D cy ta fa a_draft ea a_past a_slots a_slotKinds a_sheets qxa qya qla a_change a_table fi (f_X7_refusalOfPiece xs ys n px) H.size) (cwV 1 hts gX7_turns_X7_finding rfl rfl rfl hv_X7_finding (yk_room hRf hRl rfl rfl)) (yk_pv (q := (RX7, TX7, 13)) hG hA hS hK hP hD [0] (by decide +kernel) rfl rfl rfl) rfl rfl hl.1 rfl (lv_room (Nat.le_of_ble_eq_true rfl)) dX7_turns_12 ⟨Nat.zero_le _, Nat.zero_le _⟩) hP hD hS hA rfl (Eq.trans (b := [ta]) rfl rfl) (fun H locs hP9 hD9 hS9 => ?_)
    replace hP : va_P D vwCl [(ta, .inr (7, [.ref fa, .ref a_draft, .ref ea, .ref a_past, .ref a_slots, .ref a_slotKinds, .ref a_sheets, .ref qxa, .ref qya, .ref qla, .ref a_change, .ref a_table, .int ((f_X7_finding fi (f_X7_refusalOfPiece xs ys n px)).2)])), (fa, .inr (1, [.ref fap, .ref faq])), (fap, .inr (3, [.ref fapn])), (fapn, .inl (cy 0, 6, .inl fu)), (faq, .inr (3, [.ref faqn])), (faqn, .inl (cy 0, 6, .inl fv)), (ea, .inr (0, [.ref eax, .ref eay, .int (nI n)])), (eax, .inl (cy 0, 9, .inl xs)), (eay, .inl (cy 0, 9, .inl ys)), (qxa, .inr (4, [.long ax, .long bx, .long cx])), (qya, .inr (4, [.long ay, .long by_, .long cy_])), (qla, .inr (4, [.long aw, .long bw, .long cw]))] H := hP9
    replace hD : va_D A [(ta, .inr (7, [.ref fa, .ref a_draft, .ref ea, .ref a_past, .ref a_slots, .ref a_slotKinds, .ref a_sheets, .ref qxa, .ref qya, .ref qla, .ref a_change, .ref a_table, .int ((f_X7_finding fi (f_X7_refusalOfPiece xs ys n px)).2)])), (fa, .inr (1, [.ref fap, .ref faq])), (fap, .inr (3, [.ref fapn])), (fapn, .inl (cy 0, 6, .inl fu)), (faq, .inr (3, [.ref faqn])), (faqn, .inl (cy 0, 6, .inl fv)), (ea, .inr (0, [.ref eax, .ref eay, .int (nI n)])), (eax, .inl (cy 0, 9, .inl xs)), (eay, .inl (cy 0, 9, .inl ys)), (qxa, .inr (4, [.long ax, .long bx, .long cx])), (qya, .inr (4, [.long ay, .long by_, .long cy_])), (qla, .inr (4, [.long aw, .long bw, .long cw]))] := hD9
    replace hS := hS9
    clear hP9 hD9 hS9
    have hF : f_X7_turns fu fv xs ys n ax bx cx ay by_ cy_ aw bw cw fi px = (((f_X7_finding fi (f_X7_refusalOfPiece xs ys n px)).1), ((f_X7_finding fi (f_X7_refusalOfPiece xs ys n px)).2), ax, bx, cx, ay, by_, cy_, aw, bw, cw) := hF
    have hf0 := yk_fst hF
    have hg0 := yk_snd hF
    have hf1 := yk_fst hg0
    have hg1 := yk_snd hg0
    have hf2 := yk_fst hg1
    have hg2 := yk_snd hg1
    have hf3 := yk_fst hg2
    have hg3 := yk_snd hg2
    have hf4 := yk_fst hg3
    have hg4 := yk_snd hg3
    have hf5 := yk_fst hg4
    have hg5 := yk_snd hg4
    have hf6 := yk_fst hg5
    have hg6 := yk_snd hg5
    have hf7 := yk_fst hg6
    have hg7 := yk_snd hg6
    have hf8 := yk_fst hg7
    have hg8 := yk_snd hg7
    have hf9 := yk_fst hg8
    have hg9 := yk_snd hg8
    rw [hf0, hf1, hf2, hf3, hf4, hf5, hf6, hf7, hf8, hf9, hg9] at hQ
    exact hQ _ _ _ _ dX7_turns_15 hP hS
