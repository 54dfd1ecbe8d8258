
theorem kX7_held_0 : Cond.fieldLink RX7 22 "FlowPlane" "fence" "LFlowPlane$Fence;" ∈ wsX7_held := by decide +kernel
theorem kX7_held_1 : Cond.fieldLink RX7 160 "FlowPlane$Fence" "count" "I" ∈ wsX7_held := by decide +kernel
theorem kX7_held_2 : Cond.constant RX7 182 (-1000004) ∈ wsX7_held := by decide +kernel
theorem uX7_held_X7 : ∀ w ∈ u_ws RX7 TX7 13, w ∈ wsX7_held := by decide +kernel
theorem uX7_held_X0 : ∀ w ∈ u_ws RX0 TX0 3, w ∈ wsX7_held := by decide +kernel
def l_X7_held_29 (fu : Nat → Int32) (fv : Nat → Int32) (xs : Nat → Int32) (ys : Nat → Int32) (n : Nat) (ax : Int64) (bx : Int64) (cx : Int64) (ay : Int64) (by_ : Int64) (cy_ : Int64) (aw : Int64) (bw : Int64) (cw : Int64) (fi : Int32) (bq : Int32) : Nat → Nat → Int64 → Int64 → Int64 → Int64 → Int64 → Int64 → Int64 → Int64 → Int64 → Int32 × Int32 × Int64 × Int64 × Int64 × Int64 × Int64 × Int64 × Int64 × Int64 × Int64
  | 0, ki, zQL_0_29, zQL_1_29, zQL_2_29, zQX_0_29, zQX_1_29, zQX_2_29, zQY_0_29, zQY_1_29, zQY_2_29 => (0, fi, ax, bx, cx, ay, by_, cy_, aw, bw, cw)
  | fu_X7_held_29 + 1, ki, zQL_0_29, zQL_1_29, zQL_2_29, zQX_0_29, zQX_1_29, zQX_2_29, zQY_0_29, zQY_1_29, zQY_2_29 => (if (nI n) ≤ (nI ki) then (1, fi, zQX_0_29, zQX_1_29, zQX_2_29, zQY_0_29, zQY_1_29, zQY_2_29, zQL_0_29, zQL_1_29, zQL_2_29) else (if ((f_X7_signAcross fu fv xs ys ki).1) = (if bq = 0 then 1 else (-1)) then (l_X7_held_29 fu fv xs ys n ax bx cx ay by_ cy_ aw bw cw fi bq fu_X7_held_29 (ki + 1) ((f_X7_signAcross fu fv xs ys ki).2.2.2.2.2.2.2.1) ((f_X7_signAcross fu fv xs ys ki).2.2.2.2.2.2.2.2.1) ((f_X7_signAcross fu fv xs ys ki).2.2.2.2.2.2.2.2.2) ((f_X7_signAcross fu fv xs ys ki).2.1) ((f_X7_signAcross fu fv xs ys ki).2.2.1) ((f_X7_signAcross fu fv xs ys ki).2.2.2.1) ((f_X7_signAcross fu fv xs ys ki).2.2.2.2.1) ((f_X7_signAcross fu fv xs ys ki).2.2.2.2.2.1) ((f_X7_signAcross fu fv xs ys ki).2.2.2.2.2.2.1)) else (0, fi, ((f_X7_signAcross fu fv xs ys ki).2.1), ((f_X7_signAcross fu fv xs ys ki).2.2.1), ((f_X7_signAcross fu fv xs ys ki).2.2.2.1), ((f_X7_signAcross fu fv xs ys ki).2.2.2.2.1), ((f_X7_signAcross fu fv xs ys ki).2.2.2.2.2.1), ((f_X7_signAcross fu fv xs ys ki).2.2.2.2.2.2.1), ((f_X7_signAcross fu fv xs ys ki).2.2.2.2.2.2.2.1), ((f_X7_signAcross fu fv xs ys ki).2.2.2.2.2.2.2.2.1), ((f_X7_signAcross fu fv xs ys ki).2.2.2.2.2.2.2.2.2))))
def f_X7_held (fu : Nat → Int32) (fv : Nat → Int32) (xs : Nat → Int32) (ys : Nat → Int32) (n : Nat) (ax : Int64) (bx : Int64) (cx : Int64) (ay : Int64) (by_ : Int64) (cy_ : Int64) (aw : Int64) (bw : Int64) (cw : Int64) (fi : Int32) (bq : Int32) : Int32 × Int32 × Int64 × Int64 × Int64 × Int64 × Int64 × Int64 × Int64 × Int64 × Int64 := (if (f_X0_isLeft xs ys n) = 0 then (((f_X7_finding fi (-1000004)).1), ((f_X7_finding fi (-1000004)).2), ax, bx, cx, ay, by_, cy_, aw, bw, cw) else (l_X7_held_29 fu fv xs ys n ax bx cx ay by_ cy_ aw bw cw fi bq (n + 1) 0 aw bw cw ax bx cx ay by_ cy_))
set_option maxHeartbeats 400000000 in
set_option maxRecDepth 100000 in
theorem c_X7_held (l : Launch) (D : va_G) (cy : Nat → ClassId) (ta : Nat) (fa : Nat) (fap : Nat) (fapn : Nat) (faq : Nat) (faqn : Nat) (ea : Nat) (eax : Nat) (eay : Nat) (qxa : Nat) (qya : Nat) (qla : Nat) (a_draft : Nat) (a_past : Nat) (a_slots : Nat) (a_slotKinds : Nat) (a_sheets : Nat) (a_change : Nat) (a_table : Nat) (fu : Nat → Int32) (fv : Nat → Int32) (xs : Nat → Int32) (ys : Nat → Int32) (n : Nat) (ax : Int64) (bx : Int64) (cx : Int64) (ay : Int64) (by_ : Int64) (cy_ : Int64) (aw : Int64) (bw : Int64) (cw : Int64) (fi : Int32) (bq : Int32) (hn : n ≤ 8) : yk_Ci l D vwCl (yk_ty cy) yX7_held wsX7_held 6 143 [.ref ta, .int bq] [(ta, .inr (7, [.ref fa, .ref a_draft, .ref ea, .ref a_past, .ref a_slots, .ref a_slotKinds, .ref a_sheets, .ref qxa, .ref qya, .ref qla, .ref a_change, .ref a_table, .int fi])), (fa, .inr (1, [.ref fap, .ref faq])), (fap, .inr (3, [.ref fapn])), (fapn, .inl (cy 0, 6, .inl fu)), (faq, .inr (3, [.ref faqn])), (faqn, .inl (cy 0, 6, .inl fv)), (ea, .inr (0, [.ref eax, .ref eay, .int (nI n)])), (eax, .inl (cy 0, 9, .inl xs)), (eay, .inl (cy 0, 9, .inl ys)), (qxa, .inr (4, [.long ax, .long bx, .long cx])), (qya, .inr (4, [.long ay, .long by_, .long cy_])), (qla, .inr (4, [.long aw, .long bw, .long cw]))] ((f_X7_held fu fv xs ys n ax bx cx ay by_ cy_ aw bw cw fi bq).1) [(ta, .inr (7, [.ref fa, .ref a_draft, .ref ea, .ref a_past, .ref a_slots, .ref a_slotKinds, .ref a_sheets, .ref qxa, .ref qya, .ref qla, .ref a_change, .ref a_table, .int ((f_X7_held fu fv xs ys n ax bx cx ay by_ cy_ aw bw cw fi bq).2.1)])), (fa, .inr (1, [.ref fap, .ref faq])), (fap, .inr (3, [.ref fapn])), (fapn, .inl (cy 0, 6, .inl fu)), (faq, .inr (3, [.ref faqn])), (faqn, .inl (cy 0, 6, .inl fv)), (ea, .inr (0, [.ref eax, .ref eay, .int (nI n)])), (eax, .inl (cy 0, 9, .inl xs)), (eay, .inl (cy 0, 9, .inl ys)), (qxa, .inr (4, [.long ((f_X7_held fu fv xs ys n ax bx cx ay by_ cy_ aw bw cw fi bq).2.2.1), .long ((f_X7_held fu fv xs ys n ax bx cx ay by_ cy_ aw bw cw fi bq).2.2.2.1), .long ((f_X7_held fu fv xs ys n ax bx cx ay by_ cy_ aw bw cw fi bq).2.2.2.2.1)])), (qya, .inr (4, [.long ((f_X7_held fu fv xs ys n ax bx cx ay by_ cy_ aw bw cw fi bq).2.2.2.2.2.1), .long ((f_X7_held fu fv xs ys n ax bx cx ay by_ cy_ aw bw cw fi bq).2.2.2.2.2.2.1), .long ((f_X7_held fu fv xs ys n ax bx cx ay by_ cy_ aw bw cw fi bq).2.2.2.2.2.2.2.1)])), (qla, .inr (4, [.long ((f_X7_held fu fv xs ys n ax bx cx ay by_ cy_ aw bw cw fi bq).2.2.2.2.2.2.2.2.1), .long ((f_X7_held fu fv xs ys n ax bx cx ay by_ cy_ aw bw cw fi bq).2.2.2.2.2.2.2.2.2.1), .long ((f_X7_held fu fv xs ys n ax bx cx ay by_ cy_ aw bw cw fi bq).2.2.2.2.2.2.2.2.2.2)]))] := by
  refine yk_eI (cc := cX7_held) (maxL := 4) (by decide) rfl (Nat.le_of_ble_eq_true rfl) rfl ?_
  intro p e R s m args below meth c A Q ls H locs hx hb hml hown hts hRf hRl hA hK hG hP hD hS hl hQ
  have hP : va_P D vwCl [(ta, .inr (7, [.ref fa, .ref a_draft, .ref ea, .ref a_past, .ref a_slots, .ref a_slotKinds, .ref a_sheets, .ref qxa, .ref qya, .ref qla, .ref a_change, .ref a_table, .int fi])), (fa, .inr (1, [.ref fap, .ref faq])), (fap, .inr (3, [.ref fapn])), (fapn, .inl (cy 0, 6, .inl fu)), (faq, .inr (3, [.ref faqn])), (faqn, .inl (cy 0, 6, .inl fv)), (ea, .inr (0, [.ref eax, .ref eay, .int (nI n)])), (eax, .inl (cy 0, 9, .inl xs)), (eay, .inl (cy 0, 9, .inl ys)), (qxa, .inr (4, [.long ax, .long bx, .long cx])), (qya, .inr (4, [.long ay, .long by_, .long cy_])), (qla, .inr (4, [.long aw, .long bw, .long cw]))] H := hP
  have hl : lv_has ls 4 [(0, .ref ta), (1, .int bq)] := hl
  have hown : s.vm.findClass RX7 = some m.cls := hown
  have hF : (f_X7_held fu fv xs ys n ax bx cx ay by_ cy_ aw bw cw fi bq) = (f_X7_held fu fv xs ys n ax bx cx ay by_ cy_ aw bw cw fi bq) := rfl
  refine lv_aload_n hx hb dX7_held_0 rfl (lv_at hl 0 rfl) ?_
  refine va_get (D := D) (ci := 7) (v := .ref ea) (C := RX7) (T := TX7) (N := 13) hx hb hts uX7_held_X7 hown hK hP 0 rfl rfl 2 (by decide) (hts _ kX7_held_0) (fun _ h9 => h9) rfl dX7_held_1 ?_
  refine yk_i [6, 7, 8] (va_runV (As := []) (rest := []) ⟨hx, hb, hml, hown, hts⟩ (c_X0_isLeft l D cy ea eax eay xs ys n hn H.size) (cwV 0 hts gX7_held_X0_isLeft rfl rfl rfl hv_X0_isLeft (yk_room hRf hRl rfl rfl)) (yk_pv (q := (RX0, TX0, 3)) hG hA hS hK hP hD [6, 7, 8] (by decide +kernel) rfl rfl rfl) rfl rfl hl.1 rfl (lv_room (Nat.le_of_ble_eq_true rfl)) dX7_held_4 ⟨Nat.zero_le _, Nat.zero_le _⟩) hP hD hS hA rfl (Eq.trans (b := [ea, eax, eay]) rfl rfl) (fun H locs hP9 hD9 hS9 => ?_)
  replace hP : va_P D vwCl [(ta, .inr (7, [.ref fa, .ref a_draft, .ref ea, .ref a_past, .ref a_slots, .ref a_slotKinds, .ref a_sheets, .ref qxa, .ref qya, .ref qla, .ref a_change, .ref a_table, .int fi])), (fa, .inr (1, [.ref fap, .ref faq])), (fap, .inr (3, [.ref fapn])), (fapn, .inl (cy 0, 6, .inl fu)), (faq, .inr (3, [.ref faqn])), (faqn, .inl (cy 0, 6, .inl fv)), (ea, .inr (0, [.ref eax, .ref eay, .int (nI n)])), (eax, .inl (cy 0, 9, .inl xs)), (eay, .inl (cy 0, 9, .inl ys)), (qxa, .inr (4, [.long ax, .long bx, .long cx])), (qya, .inr (4, [.long ay, .long by_, .long cy_])), (qla, .inr (4, [.long aw, .long bw, .long cw]))] H := hP9
  replace hD : va_D A [(ta, .inr (7, [.ref fa, .ref a_draft, .ref ea, .ref a_past, .ref a_slots, .ref a_slotKinds, .ref a_sheets, .ref qxa, .ref qya, .ref qla, .ref a_change, .ref a_table, .int fi])), (fa, .inr (1, [.ref fap, .ref faq])), (fap, .inr (3, [.ref fapn])), (fapn, .inl (cy 0, 6, .inl fu)), (faq, .inr (3, [.ref faqn])), (faqn, .inl (cy 0, 6, .inl fv)), (ea, .inr (0, [.ref eax, .ref eay, .int (nI n)])), (eax, .inl (cy 0, 9, .inl xs)), (eay, .inl (cy 0, 9, .inl ys)), (qxa, .inr (4, [.long ax, .long bx, .long cx])), (qya, .inr (4, [.long ay, .long by_, .long cy_])), (qla, .inr (4, [.long aw, .long bw, .long cw]))] := hD9
  replace hS := hS9
  clear hP9 hD9 hS9
  refine lv_if_ne (tgt := 17) hx hb dX7_held_7 (by decide) (fun hc1 => ?_) (fun hc1 => ?_)
  · replace hF := hF.trans (if_neg hc1)
    refine lv_iload_n hx hb dX7_held_17 rfl (lv_at hl 1 rfl) ?_
    have J4 : ∀ (v3 : Int32) (H : Heap) (locs : List Loc) (ls : Array Slot), v3 = (if bq = 0 then 1 else (-1)) → va_P D vwCl [(ta, .inr (7, [.ref fa, .ref a_draft, .ref ea, .ref a_past, .ref a_slots, .ref a_slotKinds, .ref a_sheets, .ref qxa, .ref qya, .ref qla, .ref a_change, .ref a_table, .int fi])), (fa, .inr (1, [.ref fap, .ref faq])), (fap, .inr (3, [.ref fapn])), (fapn, .inl (cy 0, 6, .inl fu)), (faq, .inr (3, [.ref faqn])), (faqn, .inl (cy 0, 6, .inl fv)), (ea, .inr (0, [.ref eax, .ref eay, .int (nI n)])), (eax, .inl (cy 0, 9, .inl xs)), (eay, .inl (cy 0, 9, .inl ys)), (qxa, .inr (4, [.long ax, .long bx, .long cx])), (qya, .inr (4, [.long ay, .long by_, .long cy_])), (qla, .inr (4, [.long aw, .long bw, .long cw]))] H → va_D A [(ta, .inr (7, [.ref fa, .ref a_draft, .ref ea, .ref a_past, .ref a_slots, .ref a_slotKinds, .ref a_sheets, .ref qxa, .ref qya, .ref qla, .ref a_change, .ref a_table, .int fi])), (fa, .inr (1, [.ref fap, .ref faq])), (fap, .inr (3, [.ref fapn])), (fapn, .inl (cy 0, 6, .inl fu)), (faq, .inr (3, [.ref faqn])), (faqn, .inl (cy 0, 6, .inl fv)), (ea, .inr (0, [.ref eax, .ref eay, .int (nI n)])), (eax, .inl (cy 0, 9, .inl xs)), (eay, .inl (cy 0, 9, .inl ys)), (qxa, .inr (4, [.long ax, .long bx, .long cx])), (qya, .inr (4, [.long ay, .long by_, .long cy_])), (qla, .inr (4, [.long aw, .long bw, .long cw]))] → va_S A s.heap H locs → lv_has ls 4 [(0, .ref ta), (1, .int bq)] → W p l e R s m args below meth c H locs 0 0 Q (F0 m 26 ls [.int v3]) := by
      clear hP hD hS hl
      intro v3 H locs ls ev3
      rw [ev3]
      clear ev3
      intro hP hD hS hl
      refine lv_istore_n (lv' := [(2, .int (if bq = 0 then 1 else (-1))), (0, .ref ta), (1, .int bq)]) hx hb dX7_held_26 rfl hl (by decide) rfl (fun ls hl9 => ?_)
      replace hl := hl9
      clear hl9
      refine lv_iconst (v := 0) hx hb dX7_held_27 (by decide) ?_
      refine lv_istore_n (lv' := [(3, .int 0), (2, .int (if bq = 0 then 1 else (-1))), (0, .ref ta), (1, .int bq)]) hx hb dX7_held_28 rfl hl (by decide) rfl (fun ls hl9 => ?_)
      replace hl := hl9
      clear hl9
      have L29 : ∀ (M9 n29 ki : Nat) (zQL_0_29 : Int64) (zQL_1_29 : Int64) (zQL_2_29 : Int64) (zQX_0_29 : Int64) (zQX_1_29 : Int64) (zQX_2_29 : Int64) (zQY_0_29 : Int64) (zQY_1_29 : Int64) (zQY_2_29 : Int64) (H : Heap) (locs : List Loc) (ls : Array Slot), n29 < M9 → ki + n29 = n → f_X7_held fu fv xs ys n ax bx cx ay by_ cy_ aw bw cw fi bq = (l_X7_held_29 fu fv xs ys n ax bx cx ay by_ cy_ aw bw cw fi bq (n29 + 1) ki zQL_0_29 zQL_1_29 zQL_2_29 zQX_0_29 zQX_1_29 zQX_2_29 zQY_0_29 zQY_1_29 zQY_2_29) → va_P D vwCl [(ta, .inr (7, [.ref fa, .ref a_draft, .ref ea, .ref a_past, .ref a_slots, .ref a_slotKinds, .ref a_sheets, .ref qxa, .ref qya, .ref qla, .ref a_change, .ref a_table, .int fi])), (fa, .inr (1, [.ref fap, .ref faq])), (fap, .inr (3, [.ref fapn])), (fapn, .inl (cy 0, 6, .inl fu)), (faq, .inr (3, [.ref faqn])), (faqn, .inl (cy 0, 6, .inl fv)), (ea, .inr (0, [.ref eax, .ref eay, .int (nI n)])), (eax, .inl (cy 0, 9, .inl xs)), (eay, .inl (cy 0, 9, .inl ys)), (qxa, .inr (4, [.long zQX_0_29, .long zQX_1_29, .long zQX_2_29])), (qya, .inr (4, [.long zQY_0_29, .long zQY_1_29, .long zQY_2_29])), (qla, .inr (4, [.long zQL_0_29, .long zQL_1_29, .long zQL_2_29]))] H → va_D A [(ta, .inr (7, [.ref fa, .ref a_draft, .ref ea, .ref a_past, .ref a_slots, .ref a_slotKinds, .ref a_sheets, .ref qxa, .ref qya, .ref qla, .ref a_change, .ref a_table, .int fi])), (fa, .inr (1, [.ref fap, .ref faq])), (fap, .inr (3, [.ref fapn])), (fapn, .inl (cy 0, 6, .inl fu)), (faq, .inr (3, [.ref faqn])), (faqn, .inl (cy 0, 6, .inl fv)), (ea, .inr (0, [.ref eax, .ref eay, .int (nI n)])), (eax, .inl (cy 0, 9, .inl xs)), (eay, .inl (cy 0, 9, .inl ys)), (qxa, .inr (4, [.long zQX_0_29, .long zQX_1_29, .long zQX_2_29])), (qya, .inr (4, [.long zQY_0_29, .long zQY_1_29, .long zQY_2_29])), (qla, .inr (4, [.long zQL_0_29, .long zQL_1_29, .long zQL_2_29]))] → va_S A s.heap H locs → lv_has ls 4 [(0, .ref ta), (1, .int bq), (2, .int (if bq = 0 then 1 else (-1))), (3, .int (nI ki))] → W p l e R s m args below meth c H locs 0 0 Q (F0 m 29 ls []) := by
        clear hP hD hS hl hF
        intro M9
        induction M9 with
        | zero => intro n29 ki _ _ _ _ _ _ _ _ _ _ _ _ hn; exact absurd hn (Nat.not_lt_zero _)
        | succ M9 ih29 =>
          intro n29 ki zQL_0_29 zQL_1_29 zQL_2_29 zQX_0_29 zQX_1_29 zQX_2_29 zQY_0_29 zQY_1_29 zQY_2_29 H locs ls hn29 hk29 hF hP hD hS hl
          refine lv_iload_n hx hb dX7_held_29 rfl (lv_at hl 3 rfl) ?_
          refine lv_aload_n hx hb dX7_held_30 rfl (lv_at hl 0 rfl) ?_
          refine va_get (D := D) (ci := 7) (v := .ref ea) (C := RX7) (T := TX7) (N := 13) hx hb hts uX7_held_X7 hown hK hP 0 rfl rfl 2 (by decide) (hts _ kX7_held_0) (fun _ h9 => h9) rfl dX7_held_31 ?_
          refine va_get (D := D) (ci := 0) (v := .int (nI n)) (C := RX0) (T := TX0) (N := 3) hx hb hts uX7_held_X0 hown hK hP 6 rfl rfl 2 (by decide) (hts _ kX7_held_1) (fun _ h9 => h9) rfl dX7_held_34 ?_
          refine lv_icmp_ge (tgt := 57) hx hb dX7_held_37 (by decide) (fun hc7 => ?_) (fun hc7 => ?_)
          · replace hF := hF.trans (if_pos hc7)
            refine lv_iconst (v := 1) hx hb dX7_held_57 (by decide) ?_
            have hF : f_X7_held fu fv xs ys n ax bx cx ay by_ cy_ aw bw cw fi bq = (1, fi, zQX_0_29, zQX_1_29, zQX_2_29, zQY_0_29, zQY_1_29, zQY_2_29, zQL_0_29, zQL_1_29, zQL_2_29) := hF
            have hf0 := yk_fst hF
            have hg0 := yk_snd hF
            have hf1 := yk_fst hg0
            have hg1 := yk_snd hg0
            have hf2 := yk_fst hg1
            have hg2 := yk_snd hg1
            have hf3 := yk_fst hg2
            have hg3 := yk_snd hg2
            have hf4 := yk_fst hg3
            have hg4 := yk_snd hg3
            have hf5 := yk_fst hg4
            have hg5 := yk_snd hg4
            have hf6 := yk_fst hg5
            have hg6 := yk_snd hg5
            have hf7 := yk_fst hg6
            have hg7 := yk_snd hg6
            have hf8 := yk_fst hg7
            have hg8 := yk_snd hg7
            have hf9 := yk_fst hg8
            have hg9 := yk_snd hg8
            rw [hf0, hf1, hf2, hf3, hf4, hf5, hf6, hf7, hf8, hf9, hg9] at hQ
            exact hQ _ _ _ _ dX7_held_58 hP hS
          · replace hF := hF.trans (if_neg hc7)
            have hlt29 : ki < n := yk_lt hk29 (by omega) hc7
            refine lv_aload_n hx hb dX7_held_40 rfl (lv_at hl 0 rfl) ?_
            refine lv_iload_n hx hb dX7_held_41 rfl (lv_at hl 3 rfl) ?_
            refine yk_i [0, 1, 2, 3, 4, 5, 6, 7, 8, 9, 10, 11] (va_runV (As := [.int (nI ki)]) (rest := []) ⟨hx, hb, hml, hown, hts⟩ (c_X7_signAcross l D cy ta fa fap fapn faq faqn ea eax eay qxa qya qla a_draft a_past a_slots a_slotKinds a_sheets a_change a_table fu fv xs ys n zQX_0_29 zQX_1_29 zQX_2_29 zQY_0_29 zQY_1_29 zQY_2_29 zQL_0_29 zQL_1_29 zQL_2_29 fi ki hn (by omega) H.size) (cwV 1 hts gX7_held_X7_signAcross rfl rfl rfl hv_X7_signAcross (yk_room hRf hRl rfl rfl)) (yk_pv (q := (RX7, TX7, 13)) hG hA hS hK hP hD [0, 1, 2, 3, 4, 5, 6, 7, 8, 9, 10, 11] (by decide +kernel) rfl rfl rfl) rfl rfl hl.1 rfl (lv_room (Nat.le_of_ble_eq_true rfl)) dX7_held_42 ⟨Nat.zero_le _, Nat.zero_le _⟩) hP hD hS hA rfl (Eq.trans (b := [ta, fa, fap, fapn, faq, faqn, ea, eax, eay, qxa, qya, qla]) rfl rfl) (fun H locs hP9 hD9 hS9 => ?_)
            replace hP : va_P D vwCl [(ta, .inr (7, [.ref fa, .ref a_draft, .ref ea, .ref a_past, .ref a_slots, .ref a_slotKinds, .ref a_sheets, .ref qxa, .ref qya, .ref qla, .ref a_change, .ref a_table, .int fi])), (fa, .inr (1, [.ref fap, .ref faq])), (fap, .inr (3, [.ref fapn])), (fapn, .inl (cy 0, 6, .inl fu)), (faq, .inr (3, [.ref faqn])), (faqn, .inl (cy 0, 6, .inl fv)), (ea, .inr (0, [.ref eax, .ref eay, .int (nI n)])), (eax, .inl (cy 0, 9, .inl xs)), (eay, .inl (cy 0, 9, .inl ys)), (qxa, .inr (4, [.long ((f_X7_signAcross fu fv xs ys ki).2.1), .long ((f_X7_signAcross fu fv xs ys ki).2.2.1), .long ((f_X7_signAcross fu fv xs ys ki).2.2.2.1)])), (qya, .inr (4, [.long ((f_X7_signAcross fu fv xs ys ki).2.2.2.2.1), .long ((f_X7_signAcross fu fv xs ys ki).2.2.2.2.2.1), .long ((f_X7_signAcross fu fv xs ys ki).2.2.2.2.2.2.1)])), (qla, .inr (4, [.long ((f_X7_signAcross fu fv xs ys ki).2.2.2.2.2.2.2.1), .long ((f_X7_signAcross fu fv xs ys ki).2.2.2.2.2.2.2.2.1), .long ((f_X7_signAcross fu fv xs ys ki).2.2.2.2.2.2.2.2.2)]))] H := hP9
            replace hD : va_D A [(ta, .inr (7, [.ref fa, .ref a_draft, .ref ea, .ref a_past, .ref a_slots, .ref a_slotKinds, .ref a_sheets, .ref qxa, .ref qya, .ref qla, .ref a_change, .ref a_table, .int fi])), (fa, .inr (1, [.ref fap, .ref faq])), (fap, .inr (3, [.ref fapn])), (fapn, .inl (cy 0, 6, .inl fu)), (faq, .inr (3, [.ref faqn])), (faqn, .inl (cy 0, 6, .inl fv)), (ea, .inr (0, [.ref eax, .ref eay, .int (nI n)])), (eax, .inl (cy 0, 9, .inl xs)), (eay, .inl (cy 0, 9, .inl ys)), (qxa, .inr (4, [.long ((f_X7_signAcross fu fv xs ys ki).2.1), .long ((f_X7_signAcross fu fv xs ys ki).2.2.1), .long ((f_X7_signAcross fu fv xs ys ki).2.2.2.1)])), (qya, .inr (4, [.long ((f_X7_signAcross fu fv xs ys ki).2.2.2.2.1), .long ((f_X7_signAcross fu fv xs ys ki).2.2.2.2.2.1), .long ((f_X7_signAcross fu fv xs ys ki).2.2.2.2.2.2.1)])), (qla, .inr (4, [.long ((f_X7_signAcross fu fv xs ys ki).2.2.2.2.2.2.2.1), .long ((f_X7_signAcross fu fv xs ys ki).2.2.2.2.2.2.2.2.1), .long ((f_X7_signAcross fu fv xs ys ki).2.2.2.2.2.2.2.2.2)]))] := hD9
            replace hS := hS9
            clear hP9 hD9 hS9
            refine lv_iload_n hx hb dX7_held_45 rfl (lv_at hl 2 rfl) ?_
            refine lv_icmp_eq (tgt := 51) hx hb dX7_held_46 (by decide) (fun hc8 => ?_) (fun hc8 => ?_)
            · replace hF := hF.trans (if_pos hc8)
              refine lv_iinc (v := nI (ki + 1)) (lv' := [(3, .int (nI (ki + 1))), (0, .ref ta), (1, .int bq), (2, .int (if bq = 0 then 1 else (-1)))]) hx hb dX7_held_51 hl (k := 3) rfl (yk_inc ki) (by decide) rfl (fun ls hl9 => ?_)
              replace hl := hl9
              clear hl9
              refine lv_goto (tgt := 29) hx hb dX7_held_54 (by decide) ?_
              obtain ⟨n9, rfl⟩ : ∃ n9, n29 = n9 + 1 := ⟨n29 - 1, by omega⟩
              exact ih29 n9 (ki + 1) ((f_X7_signAcross fu fv xs ys ki).2.2.2.2.2.2.2.1) ((f_X7_signAcross fu fv xs ys ki).2.2.2.2.2.2.2.2.1) ((f_X7_signAcross fu fv xs ys ki).2.2.2.2.2.2.2.2.2) ((f_X7_signAcross fu fv xs ys ki).2.1) ((f_X7_signAcross fu fv xs ys ki).2.2.1) ((f_X7_signAcross fu fv xs ys ki).2.2.2.1) ((f_X7_signAcross fu fv xs ys ki).2.2.2.2.1) ((f_X7_signAcross fu fv xs ys ki).2.2.2.2.2.1) ((f_X7_signAcross fu fv xs ys ki).2.2.2.2.2.2.1) _ _ _ (by omega) (by omega)  hF hP hD hS (lv_sub hl [1, 2, 3, 0] rfl)
            · replace hF := hF.trans (if_neg hc8)
              refine lv_iconst (v := 0) hx hb dX7_held_49 (by decide) ?_
              have hF : f_X7_held fu fv xs ys n ax bx cx ay by_ cy_ aw bw cw fi bq = (0, fi, ((f_X7_signAcross fu fv xs ys ki).2.1), ((f_X7_signAcross fu fv xs ys ki).2.2.1), ((f_X7_signAcross fu fv xs ys ki).2.2.2.1), ((f_X7_signAcross fu fv xs ys ki).2.2.2.2.1), ((f_X7_signAcross fu fv xs ys ki).2.2.2.2.2.1), ((f_X7_signAcross fu fv xs ys ki).2.2.2.2.2.2.1), ((f_X7_signAcross fu fv xs ys ki).2.2.2.2.2.2.2.1), ((f_X7_signAcross fu fv xs ys ki).2.2.2.2.2.2.2.2.1), ((f_X7_signAcross fu fv xs ys ki).2.2.2.2.2.2.2.2.2)) := hF
              have hf0 := yk_fst hF
              have hg0 := yk_snd hF
              have hf1 := yk_fst hg0
              have hg1 := yk_snd hg0
              have hf2 := yk_fst hg1
              have hg2 := yk_snd hg1
              have hf3 := yk_fst hg2
              have hg3 := yk_snd hg2
              have hf4 := yk_fst hg3
              have hg4 := yk_snd hg3
              have hf5 := yk_fst hg4
              have hg5 := yk_snd hg4
              have hf6 := yk_fst hg5
              have hg6 := yk_snd hg5
              have hf7 := yk_fst hg6
              have hg7 := yk_snd hg6
              have hf8 := yk_fst hg7
              have hg8 := yk_snd hg7
              have hf9 := yk_fst hg8
              have hg9 := yk_snd hg8
              rw [hf0, hf1, hf2, hf3, hf4, hf5, hf6, hf7, hf8, hf9, hg9] at hQ
              exact hQ _ _ _ _ dX7_held_50 hP hS
      exact L29 (n + 1) n 0 aw bw cw ax bx cx ay by_ cy_ _ _ _ (Nat.lt_succ_self _) (by omega)  hF hP hD hS (lv_sub hl [2, 3, 1, 0] rfl)
    refine lv_if_eq (tgt := 25) hx hb dX7_held_18 (by decide) (fun hc2 => ?_) (fun hc2 => ?_)
    · refine lv_iconst (v := 1) hx hb dX7_held_25 (by decide) ?_
      exact J4 _ _ _ _ ((if_pos hc2).symm) hP hD hS (lv_sub hl [0, 1] rfl)
    · refine lv_iconst (v := (-1)) hx hb dX7_held_21 (by decide) ?_
      refine lv_goto (tgt := 26) hx hb dX7_held_22 (by decide) ?_
      exact J4 _ _ _ _ ((if_neg hc2).symm) hP hD hS (lv_sub hl [0, 1] rfl)
  · replace hF := hF.trans (if_pos hc1)
    refine lv_aload_n hx hb dX7_held_10 rfl (lv_at hl 0 rfl) ?_
    refine lv_ldc (v := (-1000004)) hx hb hown (hts _ kX7_held_2) dX7_held_11 ?_
    refine yk_i [0] (va_runV (As := [.int (-1000004)]) (rest := []) ⟨hx, hb, hml, hown, hts⟩ (c_X7_finding l D cy ta fa a_draft ea a_past a_slots a_slotKinds a_sheets qxa qya qla a_change a_table fi (-1000004) H.size) (cwV 1 hts gX7_held_X7_finding rfl rfl rfl hv_X7_finding (yk_room hRf hRl rfl rfl)) (yk_pv (q := (RX7, TX7, 13)) hG hA hS hK hP hD [0] (by decide +kernel) rfl rfl rfl) rfl rfl hl.1 rfl (lv_room (Nat.le_of_ble_eq_true rfl)) dX7_held_13 ⟨Nat.zero_le _, Nat.zero_le _⟩) hP hD hS hA rfl (Eq.trans (b := [ta]) rfl rfl) (fun H locs hP9 hD9 hS9 => ?_)
    replace hP : va_P D vwCl [(ta, .inr (7, [.ref fa, .ref a_draft, .ref ea, .ref a_past, .ref a_slots, .ref a_slotKinds, .ref a_sheets, .ref qxa, .ref qya, .ref qla, .ref a_change, .ref a_table, .int ((f_X7_finding fi (-1000004)).2)])), (fa, .inr (1, [.ref fap, .ref faq])), (fap, .inr (3, [.ref fapn])), (fapn, .inl (cy 0, 6, .inl fu)), (faq, .inr (3, [.ref faqn])), (faqn, .inl (cy 0, 6, .inl fv)), (ea, .inr (0, [.ref eax, .ref eay, .int (nI n)])), (eax, .inl (cy 0, 9, .inl xs)), (eay, .inl (cy 0, 9, .inl ys)), (qxa, .inr (4, [.long ax, .long bx, .long cx])), (qya, .inr (4, [.long ay, .long by_, .long cy_])), (qla, .inr (4, [.long aw, .long bw, .long cw]))] H := hP9
    replace hD : va_D A [(ta, .inr (7, [.ref fa, .ref a_draft, .ref ea, .ref a_past, .ref a_slots, .ref a_slotKinds, .ref a_sheets, .ref qxa, .ref qya, .ref qla, .ref a_change, .ref a_table, .int ((f_X7_finding fi (-1000004)).2)])), (fa, .inr (1, [.ref fap, .ref faq])), (fap, .inr (3, [.ref fapn])), (fapn, .inl (cy 0, 6, .inl fu)), (faq, .inr (3, [.ref faqn])), (faqn, .inl (cy 0, 6, .inl fv)), (ea, .inr (0, [.ref eax, .ref eay, .int (nI n)])), (eax, .inl (cy 0, 9, .inl xs)), (eay, .inl (cy 0, 9, .inl ys)), (qxa, .inr (4, [.long ax, .long bx, .long cx])), (qya, .inr (4, [.long ay, .long by_, .long cy_])), (qla, .inr (4, [.long aw, .long bw, .long cw]))] := hD9
    replace hS := hS9
    clear hP9 hD9 hS9
    have hF : f_X7_held fu fv xs ys n ax bx cx ay by_ cy_ aw bw cw fi bq = (((f_X7_finding fi (-1000004)).1), ((f_X7_finding fi (-1000004)).2), ax, bx, cx, ay, by_, cy_, aw, bw, cw) := hF
    have hf0 := yk_fst hF
    have hg0 := yk_snd hF
    have hf1 := yk_fst hg0
    have hg1 := yk_snd hg0
    have hf2 := yk_fst hg1
    have hg2 := yk_snd hg1
    have hf3 := yk_fst hg2
    have hg3 := yk_snd hg2
    have hf4 := yk_fst hg3
    have hg4 := yk_snd hg3
    have hf5 := yk_fst hg4
    have hg5 := yk_snd hg4
    have hf6 := yk_fst hg5
    have hg6 := yk_snd hg5
    have hf7 := yk_fst hg6
    have hg7 := yk_snd hg6
    have hf8 := yk_fst hg7
    have hg8 := yk_snd hg7
    have hf9 := yk_fst hg8
    have hg9 := yk_snd hg8
    rw [hf0, hf1, hf2, hf3, hf4, hf5, hf6, hf7, hf8, hf9, hg9] at hQ
    exact hQ _ _ _ _ dX7_held_16 hP hS
