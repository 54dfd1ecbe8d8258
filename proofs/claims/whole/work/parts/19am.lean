theorem hv_X0_isLatest : yX0_isLatest.cls = RX0 ∧ yX0_isLatest.cls ≠ "java/lang/invoke/MethodHandle" ∧ yX0_isLatest.cls ≠ "java/lang/invoke/VarHandle" ∧ (parseMethodDescriptor yX0_isLatest.desc).map (fun d => d.parameters.length) = some 2 := by decide +kernel
theorem hs_X0_isLatest : yX0_isLatest.cls ≠ "java/lang/invoke/MethodHandle" ∧ yX0_isLatest.cls ≠ "java/lang/invoke/VarHandle" ∧ (parseMethodDescriptor yX0_isLatest.desc).map (fun d => d.parameters.length) = some 2 := by decide +kernel
theorem hv_X0_append : yX0_append.cls = RX0 ∧ yX0_append.cls ≠ "java/lang/invoke/MethodHandle" ∧ yX0_append.cls ≠ "java/lang/invoke/VarHandle" ∧ (parseMethodDescriptor yX0_append.desc).map (fun d => d.parameters.length) = some 2 := by decide +kernel
theorem hs_X0_append : yX0_append.cls ≠ "java/lang/invoke/MethodHandle" ∧ yX0_append.cls ≠ "java/lang/invoke/VarHandle" ∧ (parseMethodDescriptor yX0_append.desc).map (fun d => d.parameters.length) = some 2 := by decide +kernel
theorem kX7_corner_0 : Cond.fieldLink RX7 22 "FlowPlane" "fence" "LFlowPlane$Fence;" ∈ wsX7_corner := by decide +kernel
theorem kX7_corner_1 : Cond.fieldLink RX7 160 "FlowPlane$Fence" "count" "I" ∈ wsX7_corner := by decide +kernel
theorem kX7_corner_2 : Cond.fieldLink RX7 29 "FlowPlane" "past" "LFlowPlane$Past;" ∈ wsX7_corner := by decide +kernel
theorem kX7_corner_3 : Cond.fieldLink RX7 10 "FlowPlane" "flow" "LFlowPlane$Flow;" ∈ wsX7_corner := by decide +kernel
theorem kX7_corner_4 : Cond.constant RX7 163 (-1000005) ∈ wsX7_corner := by decide +kernel
theorem kX7_corner_5 : Cond.constant RX7 159 (-1000003) ∈ wsX7_corner := by decide +kernel
theorem kX7_corner_6 : Cond.constant RX7 83 (-1000001) ∈ wsX7_corner := by decide +kernel
theorem uX7_corner_X7 : ∀ w ∈ u_ws RX7 TX7 13, w ∈ wsX7_corner := by decide +kernel
theorem uX7_corner_X0 : ∀ w ∈ u_ws RX0 TX0 3, w ∈ wsX7_corner := by decide +kernel
def f_X7_corner (fu : Nat → Int32) (fv : Nat → Int32) (xs : Nat → Int32) (ys : Nat → Int32) (n : Nat) (rw : Nat → Nat → Int32) (co : Nat) (la : Nat) (fi : Int32) (px : Int32) (py : Int32) : Int32 × Int32 × Nat × (Nat → Int32) × (Nat → Int32) × Nat × Nat × (Nat → Nat → Int32) := (if (f_X7_isPlace px py) = 0 then (((f_X7_finding fi (-1000001)).1), ((f_X7_finding fi (-1000001)).2), n, xs, ys, co, la, rw) else (if (f_X0_isLatest xs ys n px py) = 0 then (if (nI n) < 8 then ((nI ((f_X0_append xs ys n px py).1)), fi, ((f_X0_append xs ys n px py).1), ((f_X0_append xs ys n px py).2.1), ((f_X0_append xs ys n px py).2.2), ((f_X2_remember rw co la fu fv xs ys n).1), ((f_X2_remember rw co la fu fv xs ys n).2.1), ((f_X2_remember rw co la fu fv xs ys n).2.2)) else (((f_X7_finding fi (-1000005)).1), ((f_X7_finding fi (-1000005)).2), n, xs, ys, co, la, rw)) else (((f_X7_finding fi (-1000003)).1), ((f_X7_finding fi (-1000003)).2), n, xs, ys, co, la, rw)))
set_option maxHeartbeats 400000000 in
set_option maxRecDepth 100000 in
theorem c_X7_corner (l : Launch) (D : va_G) (cy : Nat → ClassId) (ta : Nat) (fa : Nat) (fap : Nat) (fapn : Nat) (faq : Nat) (faqn : Nat) (ea : Nat) (eax : Nat) (eay : Nat) (ba : Nat) (bar : Nat) (baf : Nat → Nat) (a_draft : Nat) (a_slots : Nat) (a_slotKinds : Nat) (a_sheets : Nat) (a_speedX : Nat) (a_speedY : Nat) (a_leftward : Nat) (a_change : Nat) (a_table : Nat) (fu : Nat → Int32) (fv : Nat → Int32) (xs : Nat → Int32) (ys : Nat → Int32) (n : Nat) (rw : Nat → Nat → Int32) (co : Nat) (la : Nat) (fi : Int32) (px : Int32) (py : Int32) (hn : n ≤ 8) (hco : co ≤ 25) (hla : la < 25) : yk_Ci l D vwCl (yk_ty cy) yX7_corner wsX7_corner 2 42 [.ref ta, .int px, .int py] ([(ta, .inr (7, [.ref fa, .ref a_draft, .ref ea, .ref ba, .ref a_slots, .ref a_slotKinds, .ref a_sheets, .ref a_speedX, .ref a_speedY, .ref a_leftward, .ref a_change, .ref a_table, .int fi])), (fa, .inr (1, [.ref fap, .ref faq])), (fap, .inr (3, [.ref fapn])), (fapn, .inl (cy 0, 6, .inl fu)), (faq, .inr (3, [.ref faqn])), (faqn, .inl (cy 0, 6, .inl fv)), (ea, .inr (0, [.ref eax, .ref eay, .int (nI n)])), (eax, .inl (cy 0, 9, .inl xs)), (eay, .inl (cy 0, 9, .inl ys)), (ba, .inr (2, [.ref bar, .int (nI co), .int (nI la)])), (bar, .inl (cy 5, 25, .inr (.inr (.inr (.inr (fun i => if i < 25 then some (baf i) else none))))))] ++ yk_fam 25 baf (fun i => .inl (cy 0, 31, .inl (rw i)))) ((f_X7_corner fu fv xs ys n rw co la fi px py).1) ([(ta, .inr (7, [.ref fa, .ref a_draft, .ref ea, .ref ba, .ref a_slots, .ref a_slotKinds, .ref a_sheets, .ref a_speedX, .ref a_speedY, .ref a_leftward, .ref a_change, .ref a_table, .int ((f_X7_corner fu fv xs ys n rw co la fi px py).2.1)])), (fa, .inr (1, [.ref fap, .ref faq])), (fap, .inr (3, [.ref fapn])), (fapn, .inl (cy 0, 6, .inl fu)), (faq, .inr (3, [.ref faqn])), (faqn, .inl (cy 0, 6, .inl fv)), (ea, .inr (0, [.ref eax, .ref eay, .int (nI ((f_X7_corner fu fv xs ys n rw co la fi px py).2.2.1))])), (eax, .inl (cy 0, 9, .inl ((f_X7_corner fu fv xs ys n rw co la fi px py).2.2.2.1))), (eay, .inl (cy 0, 9, .inl ((f_X7_corner fu fv xs ys n rw co la fi px py).2.2.2.2.1))), (ba, .inr (2, [.ref bar, .int (nI ((f_X7_corner fu fv xs ys n rw co la fi px py).2.2.2.2.2.1)), .int (nI ((f_X7_corner fu fv xs ys n rw co la fi px py).2.2.2.2.2.2.1))])), (bar, .inl (cy 5, 25, .inr (.inr (.inr (.inr (fun i => if i < 25 then some (baf i) else none))))))] ++ yk_fam 25 baf (fun i => .inl (cy 0, 31, .inl (((f_X7_corner fu fv xs ys n rw co la fi px py).2.2.2.2.2.2.2) i)))) := by
  refine yk_eI (cc := cX7_corner) (maxL := 3) (by decide) rfl (Nat.le_of_ble_eq_true rfl) rfl ?_
  intro p e R s m args below meth c A Q ls H locs hx hb hml hown hts hRf hRl hA hK hG hP hD hS hl hQ
  have hP : va_P D vwCl ([(ta, .inr (7, [.ref fa, .ref a_draft, .ref ea, .ref ba, .ref a_slots, .ref a_slotKinds, .ref a_sheets, .ref a_speedX, .ref a_speedY, .ref a_leftward, .ref a_change, .ref a_table, .int fi])), (fa, .inr (1, [.ref fap, .ref faq])), (fap, .inr (3, [.ref fapn])), (fapn, .inl (cy 0, 6, .inl fu)), (faq, .inr (3, [.ref faqn])), (faqn, .inl (cy 0, 6, .inl fv)), (ea, .inr (0, [.ref eax, .ref eay, .int (nI n)])), (eax, .inl (cy 0, 9, .inl xs)), (eay, .inl (cy 0, 9, .inl ys)), (ba, .inr (2, [.ref bar, .int (nI co), .int (nI la)])), (bar, .inl (cy 5, 25, .inr (.inr (.inr (.inr (fun i => if i < 25 then some (baf i) else none))))))] ++ yk_fam 25 baf (fun i => .inl (cy 0, 31, .inl (rw i)))) H := hP
  have hl : lv_has ls 3 [(0, .ref ta), (1, .int px), (2, .int py)] := hl
  have hown : s.vm.findClass RX7 = some m.cls := hown
  have hF : (f_X7_corner fu fv xs ys n rw co la fi px py) = (f_X7_corner fu fv xs ys n rw co la fi px py) := rfl
  refine lv_iload_n hx hb dX7_corner_0 rfl (lv_at hl 1 rfl) ?_
  refine lv_iload_n hx hb dX7_corner_1 rfl (lv_at hl 2 rfl) ?_
  refine yk_i [] (va_runS (As := [.int px, .int py]) (rest := []) ⟨hx, hb, hml, hown, hts⟩ (c_X7_isPlace l D cy px py H.size) (va_cwS 2 hts gX7_corner_X7_isPlace rfl rfl rfl hs_X7_isPlace (yk_room hRf hRl rfl rfl)) (yk_ps hG hA hS hK hP hD [] (by decide +kernel) rfl) rfl rfl hl.1 rfl (lv_room (Nat.le_of_ble_eq_true rfl)) dX7_corner_2 ⟨Nat.zero_le _, Nat.zero_le _⟩) hP hD hS hA rfl rfl (fun H locs hP9 hD9 hS9 => ?_)
  replace hP : va_P D vwCl ([(ta, .inr (7, [.ref fa, .ref a_draft, .ref ea, .ref ba, .ref a_slots, .ref a_slotKinds, .ref a_sheets, .ref a_speedX, .ref a_speedY, .ref a_leftward, .ref a_change, .ref a_table, .int fi])), (fa, .inr (1, [.ref fap, .ref faq])), (fap, .inr (3, [.ref fapn])), (fapn, .inl (cy 0, 6, .inl fu)), (faq, .inr (3, [.ref faqn])), (faqn, .inl (cy 0, 6, .inl fv)), (ea, .inr (0, [.ref eax, .ref eay, .int (nI n)])), (eax, .inl (cy 0, 9, .inl xs)), (eay, .inl (cy 0, 9, .inl ys)), (ba, .inr (2, [.ref bar, .int (nI co), .int (nI la)])), (bar, .inl (cy 5, 25, .inr (.inr (.inr (.inr (fun i => if i < 25 then some (baf i) else none))))))] ++ yk_fam 25 baf (fun i => .inl (cy 0, 31, .inl (rw i)))) H := hP9
  replace hD : va_D A ([(ta, .inr (7, [.ref fa, .ref a_draft, .ref ea, .ref ba, .ref a_slots, .ref a_slotKinds, .ref a_sheets, .ref a_speedX, .ref a_speedY, .ref a_leftward, .ref a_change, .ref a_table, .int fi])), (fa, .inr (1, [.ref fap, .ref faq])), (fap, .inr (3, [.ref fapn])), (fapn, .inl (cy 0, 6, .inl fu)), (faq, .inr (3, [.ref faqn])), (faqn, .inl (cy 0, 6, .inl fv)), (ea, .inr (0, [.ref eax, .ref eay, .int (nI n)])), (eax, .inl (cy 0, 9, .inl xs)), (eay, .inl (cy 0, 9, .inl ys)), (ba, .inr (2, [.ref bar, .int (nI co), .int (nI la)])), (bar, .inl (cy 5, 25, .inr (.inr (.inr (.inr (fun i => if i < 25 then some (baf i) else none))))))] ++ yk_fam 25 baf (fun i => .inl (cy 0, 31, .inl (rw i)))) := hD9
  replace hS := hS9
  clear hP9 hD9 hS9
  refine lv_if_ne (tgt := 15) hx hb dX7_corner_5 (by decide) (fun hc1 => ?_) (fun hc1 => ?_)
  · replace hF := hF.trans (if_neg hc1)
    refine lv_aload_n hx hb dX7_corner_15 rfl (lv_at hl 0 rfl) ?_
    refine va_get (D := D) (ci := 7) (v := .ref ea) (C := RX7) (T := TX7) (N := 13) hx hb hts uX7_corner_X7 hown hK hP 0 rfl rfl 2 (by decide) (hts _ kX7_corner_0) (fun _ h9 => h9) rfl dX7_corner_16 ?_
    refine lv_iload_n hx hb dX7_corner_19 rfl (lv_at hl 1 rfl) ?_
    refine lv_iload_n hx hb dX7_corner_20 rfl (lv_at hl 2 rfl) ?_
    refine yk_i [6, 7, 8] (va_runV (As := [.int px, .int py]) (rest := []) ⟨hx, hb, hml, hown, hts⟩ (c_X0_isLatest l D cy ea eax eay xs ys n px py hn H.size) (cwV 2 hts gX7_corner_X0_isLatest rfl rfl rfl hv_X0_isLatest (yk_room hRf hRl rfl rfl)) (yk_pv (q := (RX0, TX0, 3)) hG hA hS hK hP hD [6, 7, 8] (by decide +kernel) rfl rfl rfl) rfl rfl hl.1 rfl (lv_room (Nat.le_of_ble_eq_true rfl)) dX7_corner_21 ⟨Nat.zero_le _, Nat.zero_le _⟩) hP hD hS hA rfl (Eq.trans (b := [ea, eax, eay]) rfl rfl) (fun H locs hP9 hD9 hS9 => ?_)
    replace hP : va_P D vwCl ([(ta, .inr (7, [.ref fa, .ref a_draft, .ref ea, .ref ba, .ref a_slots, .ref a_slotKinds, .ref a_sheets, .ref a_speedX, .ref a_speedY, .ref a_leftward, .ref a_change, .ref a_table, .int fi])), (fa, .inr (1, [.ref fap, .ref faq])), (fap, .inr (3, [.ref fapn])), (fapn, .inl (cy 0, 6, .inl fu)), (faq, .inr (3, [.ref faqn])), (faqn, .inl (cy 0, 6, .inl fv)), (ea, .inr (0, [.ref eax, .ref eay, .int (nI n)])), (eax, .inl (cy 0, 9, .inl xs)), (eay, .inl (cy 0, 9, .inl ys)), (ba, .inr (2, [.ref bar, .int (nI co), .int (nI la)])), (bar, .inl (cy 5, 25, .inr (.inr (.inr (.inr (fun i => if i < 25 then some (baf i) else none))))))] ++ yk_fam 25 baf (fun i => .inl (cy 0, 31, .inl (rw i)))) H := hP9
    replace hD : va_D A ([(ta, .inr (7, [.ref fa, .ref a_draft, .ref ea, .ref ba, .ref a_slots, .ref a_slotKinds, .ref a_sheets, .ref a_speedX, .ref a_speedY, .ref a_leftward, .ref a_change, .ref a_table, .int fi])), (fa, .inr (1, [.ref fap, .ref faq])), (fap, .inr (3, [.ref fapn])), (fapn, .inl (cy 0, 6, .inl fu)), (faq, .inr (3, [.ref faqn])), (faqn, .inl (cy 0, 6, .inl fv)), (ea, .inr (0, [.ref eax, .ref eay, .int (nI n)])), (eax, .inl (cy 0, 9, .inl xs)), (eay, .inl (cy 0, 9, .inl ys)), (ba, .inr (2, [.ref bar, .int (nI co), .int (nI la)])), (bar, .inl (cy 5, 25, .inr (.inr (.inr (.inr (fun i => if i < 25 then some (baf i) else none))))))] ++ yk_fam 25 baf (fun i => .inl (cy 0, 31, .inl (rw i)))) := hD9
    replace hS := hS9
    clear hP9 hD9 hS9
    refine lv_if_eq (tgt := 34) hx hb dX7_corner_24 (by decide) (fun hc2 => ?_) (fun hc2 => ?_)
    · replace hF := hF.trans (if_pos hc2)
      refine lv_aload_n hx hb dX7_corner_34 rfl (lv_at hl 0 rfl) ?_
      refine va_get (D := D) (ci := 7) (v := .ref ea) (C := RX7) (T := TX7) (N := 13) hx hb hts uX7_corner_X7 hown hK hP 0 rfl rfl 2 (by decide) (hts _ kX7_corner_0) (fun _ h9 => h9) rfl dX7_corner_35 ?_
      refine va_get (D := D) (ci := 0) (v := .int (nI n)) (C := RX0) (T := TX0) (N := 3) hx hb hts uX7_corner_X0 hown hK hP 6 rfl rfl 2 (by decide) (hts _ kX7_corner_1) (fun _ h9 => h9) rfl dX7_corner_38 ?_
      refine lv_bipush (v := 8) hx hb dX7_corner_41 (by decide) ?_
      refine lv_icmp_lt (tgt := 53) hx hb dX7_corner_43 (by decide) (fun hc3 => ?_) (fun hc3 => ?_)
      · replace hF := hF.trans (if_pos hc3)
        have hn8 : n < 8 := yk_ltn hn (by assumption)
        refine lv_aload_n hx hb dX7_corner_53 rfl (lv_at hl 0 rfl) ?_
        refine va_get (D := D) (ci := 7) (v := .ref ba) (C := RX7) (T := TX7) (N := 13) hx hb hts uX7_corner_X7 hown hK hP 0 rfl rfl 3 (by decide) (hts _ kX7_corner_2) (fun _ h9 => h9) rfl dX7_corner_54 ?_
        refine lv_aload_n hx hb dX7_corner_57 rfl (lv_at hl 0 rfl) ?_
        refine va_get (D := D) (ci := 7) (v := .ref fa) (C := RX7) (T := TX7) (N := 13) hx hb hts uX7_corner_X7 hown hK hP 0 rfl rfl 0 (by decide) (hts _ kX7_corner_3) (fun _ h9 => h9) rfl dX7_corner_58 ?_
        refine lv_aload_n hx hb dX7_corner_61 rfl (lv_at hl 0 rfl) ?_
        refine va_get (D := D) (ci := 7) (v := .ref ea) (C := RX7) (T := TX7) (N := 13) hx hb hts uX7_corner_X7 hown hK hP 0 rfl rfl 2 (by decide) (hts _ kX7_corner_0) (fun _ h9 => h9) rfl dX7_corner_62 ?_
        refine yk_vT [9, 10, 1, 2, 3, 4, 5, 6, 7, 8] (va_runV (As := [.ref fa, .ref ea]) (rest := []) ⟨hx, hb, hml, hown, hts⟩ (c_X2_remember l D cy ba bar fa fap fapn faq faqn ea eax eay baf rw co la fu fv xs ys n hco hla hn H.size) (cwV 2 hts gX7_corner_X2_remember rfl rfl rfl hv_X2_remember (yk_room hRf hRl rfl rfl)) (yk_pvT (q := (RX2, TX2, 3)) hG hA hS hK hP hD [9, 10, 1, 2, 3, 4, 5, 6, 7, 8] (by decide +kernel) rfl rfl rfl) rfl rfl hl.1 rfl (lv_room (Nat.le_of_ble_eq_true rfl)) dX7_corner_65 ⟨Nat.zero_le _, Nat.zero_le _⟩) hP hD hS hA rfl (Eq.trans (b := [ba, bar, fa, fap, fapn, faq, faqn, ea, eax, eay]) rfl rfl) (yk_ff _ _ _ _) (fun H locs hP9 hD9 hS9 => ?_)
        replace hP : va_P D vwCl ([(ta, .inr (7, [.ref fa, .ref a_draft, .ref ea, .ref ba, .ref a_slots, .ref a_slotKinds, .ref a_sheets, .ref a_speedX, .ref a_speedY, .ref a_leftward, .ref a_change, .ref a_table, .int fi])), (fa, .inr (1, [.ref fap, .ref faq])), (fap, .inr (3, [.ref fapn])), (fapn, .inl (cy 0, 6, .inl fu)), (faq, .inr (3, [.ref faqn])), (faqn, .inl (cy 0, 6, .inl fv)), (ea, .inr (0, [.ref eax, .ref eay, .int (nI n)])), (eax, .inl (cy 0, 9, .inl xs)), (eay, .inl (cy 0, 9, .inl ys)), (ba, .inr (2, [.ref bar, .int (nI ((f_X2_remember rw co la fu fv xs ys n).1)), .int (nI ((f_X2_remember rw co la fu fv xs ys n).2.1))])), (bar, .inl (cy 5, 25, .inr (.inr (.inr (.inr (fun i => if i < 25 then some (baf i) else none))))))] ++ yk_fam 25 baf (fun i => .inl (cy 0, 31, .inl (((f_X2_remember rw co la fu fv xs ys n).2.2) i)))) H := hP9
        replace hD : va_D A ([(ta, .inr (7, [.ref fa, .ref a_draft, .ref ea, .ref ba, .ref a_slots, .ref a_slotKinds, .ref a_sheets, .ref a_speedX, .ref a_speedY, .ref a_leftward, .ref a_change, .ref a_table, .int fi])), (fa, .inr (1, [.ref fap, .ref faq])), (fap, .inr (3, [.ref fapn])), (fapn, .inl (cy 0, 6, .inl fu)), (faq, .inr (3, [.ref faqn])), (faqn, .inl (cy 0, 6, .inl fv)), (ea, .inr (0, [.ref eax, .ref eay, .int (nI n)])), (eax, .inl (cy 0, 9, .inl xs)), (eay, .inl (cy 0, 9, .inl ys)), (ba, .inr (2, [.ref bar, .int (nI ((f_X2_remember rw co la fu fv xs ys n).1)), .int (nI ((f_X2_remember rw co la fu fv xs ys n).2.1))])), (bar, .inl (cy 5, 25, .inr (.inr (.inr (.inr (fun i => if i < 25 then some (baf i) else none))))))] ++ yk_fam 25 baf (fun i => .inl (cy 0, 31, .inl (((f_X2_remember rw co la fu fv xs ys n).2.2) i)))) := hD9
        replace hS := hS9
        clear hP9 hD9 hS9
        refine lv_aload_n hx hb dX7_corner_68 rfl (lv_at hl 0 rfl) ?_
        refine va_get (D := D) (ci := 7) (v := .ref ea) (C := RX7) (T := TX7) (N := 13) hx hb hts uX7_corner_X7 hown hK hP 0 rfl rfl 2 (by decide) (hts _ kX7_corner_0) (fun _ h9 => h9) rfl dX7_corner_69 ?_
        refine lv_iload_n hx hb dX7_corner_72 rfl (lv_at hl 1 rfl) ?_
        refine lv_iload_n hx hb dX7_corner_73 rfl (lv_at hl 2 rfl) ?_
        refine yk_v [6, 7, 8] (va_runV (As := [.int px, .int py]) (rest := []) ⟨hx, hb, hml, hown, hts⟩ (c_X0_append l D cy ea eax eay xs ys n px py hn (by omega) H.size) (cwV 2 hts gX7_corner_X0_append rfl rfl rfl hv_X0_append (yk_room hRf hRl rfl rfl)) (yk_pv (q := (RX0, TX0, 3)) hG hA hS hK hP hD [6, 7, 8] (by decide +kernel) rfl rfl rfl) rfl rfl hl.1 rfl (lv_room (Nat.le_of_ble_eq_true rfl)) dX7_corner_74 ⟨Nat.zero_le _, Nat.zero_le _⟩) hP hD hS hA rfl (Eq.trans (b := [ea, eax, eay]) rfl rfl) (fun H locs hP9 hD9 hS9 => ?_)
        replace hP : va_P D vwCl ([(ta, .inr (7, [.ref fa, .ref a_draft, .ref ea, .ref ba, .ref a_slots, .ref a_slotKinds, .ref a_sheets, .ref a_speedX, .ref a_speedY, .ref a_leftward, .ref a_change, .ref a_table, .int fi])), (fa, .inr (1, [.ref fap, .ref faq])), (fap, .inr (3, [.ref fapn])), (fapn, .inl (cy 0, 6, .inl fu)), (faq, .inr (3, [.ref faqn])), (faqn, .inl (cy 0, 6, .inl fv)), (ea, .inr (0, [.ref eax, .ref eay, .int (nI ((f_X0_append xs ys n px py).1))])), (eax, .inl (cy 0, 9, .inl ((f_X0_append xs ys n px py).2.1))), (eay, .inl (cy 0, 9, .inl ((f_X0_append xs ys n px py).2.2))), (ba, .inr (2, [.ref bar, .int (nI ((f_X2_remember rw co la fu fv xs ys n).1)), .int (nI ((f_X2_remember rw co la fu fv xs ys n).2.1))])), (bar, .inl (cy 5, 25, .inr (.inr (.inr (.inr (fun i => if i < 25 then some (baf i) else none))))))] ++ yk_fam 25 baf (fun i => .inl (cy 0, 31, .inl (((f_X2_remember rw co la fu fv xs ys n).2.2) i)))) H := hP9
        replace hD : va_D A ([(ta, .inr (7, [.ref fa, .ref a_draft, .ref ea, .ref ba, .ref a_slots, .ref a_slotKinds, .ref a_sheets, .ref a_speedX, .ref a_speedY, .ref a_leftward, .ref a_change, .ref a_table, .int fi])), (fa, .inr (1, [.ref fap, .ref faq])), (fap, .inr (3, [.ref fapn])), (fapn, .inl (cy 0, 6, .inl fu)), (faq, .inr (3, [.ref faqn])), (faqn, .inl (cy 0, 6, .inl fv)), (ea, .inr (0, [.ref eax, .ref eay, .int (nI ((f_X0_append xs ys n px py).1))])), (eax, .inl (cy 0, 9, .inl ((f_X0_append xs ys n px py).2.1))), (eay, .inl (cy 0, 9, .inl ((f_X0_append xs ys n px py).2.2))), (ba, .inr (2, [.ref bar, .int (nI ((f_X2_remember rw co la fu fv xs ys n).1)), .int (nI ((f_X2_remember rw co la fu fv xs ys n).2.1))])), (bar, .inl (cy 5, 25, .inr (.inr (.inr (.inr (fun i => if i < 25 then some (baf i) else none))))))] ++ yk_fam 25 baf (fun i => .inl (cy 0, 31, .inl (((f_X2_remember rw co la fu fv xs ys n).2.2) i)))) := hD9
        replace hS := hS9
        clear hP9 hD9 hS9
        refine lv_aload_n hx hb dX7_corner_77 rfl (lv_at hl 0 rfl) ?_
        refine va_get (D := D) (ci := 7) (v := .ref ea) (C := RX7) (T := TX7) (N := 13) hx hb hts uX7_corner_X7 hown hK hP 0 rfl rfl 2 (by decide) (hts _ kX7_corner_0) (fun _ h9 => h9) rfl dX7_corner_78 ?_
        refine va_get (D := D) (ci := 0) (v := .int (nI ((f_X0_append xs ys n px py).1))) (C := RX0) (T := TX0) (N := 3) hx hb hts uX7_corner_X0 hown hK hP 6 rfl rfl 2 (by decide) (hts _ kX7_corner_1) (fun _ h9 => h9) rfl dX7_corner_81 ?_
        have hF : f_X7_corner fu fv xs ys n rw co la fi px py = ((nI ((f_X0_append xs ys n px py).1)), fi, ((f_X0_append xs ys n px py).1), ((f_X0_append xs ys n px py).2.1), ((f_X0_append xs ys n px py).2.2), ((f_X2_remember rw co la fu fv xs ys n).1), ((f_X2_remember rw co la fu fv xs ys n).2.1), ((f_X2_remember rw co la fu fv xs ys n).2.2)) := hF
        have hf0 := yk_fst hF
        have hg0 := yk_snd hF
        have hf1 := yk_fst hg0
        have hg1 := yk_snd hg0
        have hf2 := yk_fst hg1
        have hg2 := yk_snd hg1
        have hf3 := yk_fst hg2
        have hg3 := yk_snd hg2
        have hf4 := yk_fst hg3
        have hg4 := yk_snd hg3
        have hf5 := yk_fst hg4
        have hg5 := yk_snd hg4
        have hf6 := yk_fst hg5
        have hg6 := yk_snd hg5
        rw [hf0, hf1, hf2, hf3, hf4, hf5, hf6, hg6] at hQ
        exact hQ _ _ _ _ dX7_corner_84 hP hS
      · replace hF := hF.trans (if_neg hc3)
        refine lv_aload_n hx hb dX7_corner_46 rfl (lv_at hl 0 rfl) ?_
        refine lv_ldc (v := (-1000005)) hx hb hown (hts _ kX7_corner_4) dX7_corner_47 ?_
        refine yk_i [0] (va_runV (As := [.int (-1000005)]) (rest := []) ⟨hx, hb, hml, hown, hts⟩ (c_X7_finding l D cy ta fa a_draft ea ba a_slots a_slotKinds a_sheets a_speedX a_speedY a_leftward a_change a_table fi (-1000005) H.size) (cwV 1 hts gX7_corner_X7_finding rfl rfl rfl hv_X7_finding (yk_room hRf hRl rfl rfl)) (yk_pv (q := (RX7, TX7, 13)) hG hA hS hK hP hD [0] (by decide +kernel) rfl rfl rfl) rfl rfl hl.1 rfl (lv_room (Nat.le_of_ble_eq_true rfl)) dX7_corner_49 ⟨Nat.zero_le _, Nat.zero_le _⟩) hP hD hS hA rfl (Eq.trans (b := [ta]) rfl rfl) (fun H locs hP9 hD9 hS9 => ?_)
        replace hP : va_P D vwCl ([(ta, .inr (7, [.ref fa, .ref a_draft, .ref ea, .ref ba, .ref a_slots, .ref a_slotKinds, .ref a_sheets, .ref a_speedX, .ref a_speedY, .ref a_leftward, .ref a_change, .ref a_table, .int ((f_X7_finding fi (-1000005)).2)])), (fa, .inr (1, [.ref fap, .ref faq])), (fap, .inr (3, [.ref fapn])), (fapn, .inl (cy 0, 6, .inl fu)), (faq, .inr (3, [.ref faqn])), (faqn, .inl (cy 0, 6, .inl fv)), (ea, .inr (0, [.ref eax, .ref eay, .int (nI n)])), (eax, .inl (cy 0, 9, .inl xs)), (eay, .inl (cy 0, 9, .inl ys)), (ba, .inr (2, [.ref bar, .int (nI co), .int (nI la)])), (bar, .inl (cy 5, 25, .inr (.inr (.inr (.inr (fun i => if i < 25 then some (baf i) else none))))))] ++ yk_fam 25 baf (fun i => .inl (cy 0, 31, .inl (rw i)))) H := hP9
        replace hD : va_D A ([(ta, .inr (7, [.ref fa, .ref a_draft, .ref ea, .ref ba, .ref a_slots, .ref a_slotKinds, .ref a_sheets, .ref a_speedX, .ref a_speedY, .ref a_leftward, .ref a_change, .ref a_table, .int ((f_X7_finding fi (-1000005)).2)])), (fa, .inr (1, [.ref fap, .ref faq])), (fap, .inr (3, [.ref fapn])), (fapn, .inl (cy 0, 6, .inl fu)), (faq, .inr (3, [.ref faqn])), (faqn, .inl (cy 0, 6, .inl fv)), (ea, .inr (0, [.ref eax, .ref eay, .int (nI n)])), (eax, .inl (cy 0, 9, .inl xs)), (eay, .inl (cy 0, 9, .inl ys)), (ba, .inr (2, [.ref bar, .int (nI co), .int (nI la)])), (bar, .inl (cy 5, 25, .inr (.inr (.inr (.inr (fun i => if i < 25 then some (baf i) else none))))))] ++ yk_fam 25 baf (fun i => .inl (cy 0, 31, .inl (rw i)))) := hD9
        replace hS := hS9
        clear hP9 hD9 hS9
        have hF : f_X7_corner fu fv xs ys n rw co la fi px py = (((f_X7_finding fi (-1000005)).1), ((f_X7_finding fi (-1000005)).2), n, xs, ys, co, la, rw) := hF
        have hf0 := yk_fst hF
        have hg0 := yk_snd hF
        have hf1 := yk_fst hg0
        have hg1 := yk_snd hg0
        have hf2 := yk_fst hg1
        have hg2 := yk_snd hg1
        have hf3 := yk_fst hg2
        have hg3 := yk_snd hg2
        have hf4 := yk_fst hg3
        have hg4 := yk_snd hg3
        have hf5 := yk_fst hg4
        have hg5 := yk_snd hg4
        have hf6 := yk_fst hg5
        have hg6 := yk_snd hg5
        rw [hf0, hf1, hf2, hf3, hf4, hf5, hf6, hg6] at hQ
        exact hQ _ _ _ _ dX7_corner_52 hP hS
    · replace hF := hF.trans (if_neg hc2)
      refine lv_aload_n hx hb dX7_corner_27 rfl (lv_at hl 0 rfl) ?_
      refine lv_ldc (v := (-1000003)) hx hb hown (hts _ kX7_corner_5) dX7_corner_28 ?_
      refine yk_i [0] (va_runV (As := [.int (-1000003)]) (rest := []) ⟨hx, hb, hml, hown, hts⟩ (c_X7_finding l D cy ta fa a_draft ea ba a_slots a_slotKinds a_sheets a_speedX a_speedY a_leftward a_change a_table fi (-1000003) H.size) (cwV 1 hts gX7_corner_X7_finding rfl rfl rfl hv_X7_finding (yk_room hRf hRl rfl rfl)) (yk_pv (q := (RX7, TX7, 13)) hG hA hS hK hP hD [0] (by decide +kernel) rfl rfl rfl) rfl rfl hl.1 rfl (lv_room (Nat.le_of_ble_eq_true rfl)) dX7_corner_30 ⟨Nat.zero_le _, Nat.zero_le _⟩) hP hD hS hA rfl (Eq.trans (b := [ta]) rfl rfl) (fun H locs hP9 hD9 hS9 => ?_)
      replace hP : va_P D vwCl ([(ta, .inr (7, [.ref fa, .ref a_draft, .ref ea, .ref ba, .ref a_slots, .ref a_slotKinds, .ref a_sheets, .ref a_speedX, .ref a_speedY, .ref a_leftward, .ref a_change, .ref a_table, .int ((f_X7_finding fi (-1000003)).2)])), (fa, .inr (1, [.ref fap, .ref faq])), (fap, .inr (3, [.ref fapn])), (fapn, .inl (cy 0, 6, .inl fu)), (faq, .inr (3, [.ref faqn])), (faqn, .inl (cy 0, 6, .inl fv)), (ea, .inr (0, [.ref eax, .ref eay, .int (nI n)])), (eax, .inl (cy 0, 9, .inl xs)), (eay, .inl (cy 0, 9, .inl ys)), (ba, .inr (2, [.ref bar, .int (nI co), .int (nI la)])), (bar, .inl (cy 5, 25, .inr (.inr (.inr (.inr (fun i => if i < 25 then some (baf i) else none))))))] ++ yk_fam 25 baf (fun i => .inl (cy 0, 31, .inl (rw i)))) H := hP9
      replace hD : va_D A ([(ta, .inr (7, [.ref fa, .ref a_draft, .ref ea, .ref ba, .ref a_slots, .ref a_slotKinds, .ref a_sheets, .ref a_speedX, .ref a_speedY, .ref a_leftward, .ref a_change, .ref a_table, .int ((f_X7_finding fi (-1000003)).2)])), (fa, .inr (1, [.ref fap, .ref faq])), (fap, .inr (3, [.ref fapn])), (fapn, .inl (cy 0, 6, .inl fu)), (faq, .inr (3, [.ref faqn])), (faqn, .inl (cy 0, 6, .inl fv)), (ea, .inr (0, [.ref eax, .ref eay, .int (nI n)])), (eax, .inl (cy 0, 9, .inl xs)), (eay, .inl (cy 0, 9, .inl ys)), (ba, .inr (2, [.ref bar, .int (nI co), .int (nI la)])), (bar, .inl (cy 5, 25, .inr (.inr (.inr (.inr (fun i => if i < 25 then some (baf i) else none))))))] ++ yk_fam 25 baf (fun i => .inl (cy 0, 31, .inl (rw i)))) := hD9
      replace hS := hS9
      clear hP9 hD9 hS9
      have hF : f_X7_corner fu fv xs ys n rw co la fi px py = (((f_X7_finding fi (-1000003)).1), ((f_X7_finding fi (-1000003)).2), n, xs, ys, co, la, rw) := hF
      have hf0 := yk_fst hF
      have hg0 := yk_snd hF
      have hf1 := yk_fst hg0
      have hg1 := yk_snd hg0
      have hf2 := yk_fst hg1
      have hg2 := yk_snd hg1
      have hf3 := yk_fst hg2
      have hg3 := yk_snd hg2
      have hf4 := yk_fst hg3
      have hg4 := yk_snd hg3
      have hf5 := yk_fst hg4
      have hg5 := yk_snd hg4
      have hf6 := yk_fst hg5
      have hg6 := yk_snd hg5
      rw [hf0, hf1, hf2, hf3, hf4, hf5, hf6, hg6] at hQ
      exact hQ _ _ _ _ dX7_corner_33 hP hS
  · replace hF := hF.trans (if_pos hc1)
    refine lv_aload_n hx hb dX7_corner_8 rfl (lv_at hl 0 rfl) ?_
    refine lv_ldc (v := (-1000001)) hx hb hown (hts _ kX7_corner_6) dX7_corner_9 ?_
    refine yk_i [0] (va_runV (As := [.int (-1000001)]) (rest := []) ⟨hx, hb, hml, hown, hts⟩ (c_X7_finding l D cy ta fa a_draft ea ba a_slots a_slotKinds a_sheets a_speedX a_speedY a_leftward a_change a_table fi (-1000001) H.size) (cwV 1 hts gX7_corner_X7_finding rfl rfl rfl hv_X7_finding (yk_room hRf hRl rfl rfl)) (yk_pv (q := (RX7, TX7, 13)) hG hA hS hK hP hD [0] (by decide +kernel) rfl rfl rfl) rfl rfl hl.1 rfl (lv_room (Nat.le_of_ble_eq_true rfl)) dX7_corner_11 ⟨Nat.zero_le _, Nat.zero_le _⟩) hP hD hS hA rfl (Eq.trans (b := [ta]) rfl rfl) (fun H locs hP9 hD9 hS9 => ?_)
    replace hP : va_P D vwCl ([(ta, .inr (7, [.ref fa, .ref a_draft, .ref ea, .ref ba, .ref a_slots, .ref a_slotKinds, .ref a_sheets, .ref a_speedX, .ref a_speedY, .ref a_leftward, .ref a_change, .ref a_table, .int ((f_X7_finding fi (-1000001)).2)])), (fa, .inr (1, [.ref fap, .ref faq])), (fap, .inr (3, [.ref fapn])), (fapn, .inl (cy 0, 6, .inl fu)), (faq, .inr (3, [.ref faqn])), (faqn, .inl (cy 0, 6, .inl fv)), (ea, .inr (0, [.ref eax, .ref eay, .int (nI n)])), (eax, .inl (cy 0, 9, .inl xs)), (eay, .inl (cy 0, 9, .inl ys)), (ba, .inr (2, [.ref bar, .int (nI co), .int (nI la)])), (bar, .inl (cy 5, 25, .inr (.inr (.inr (.inr (fun i => if i < 25 then some (baf i) else none))))))] ++ yk_fam 25 baf (fun i => .inl (cy 0, 31, .inl (rw i)))) H := hP9
    replace hD : va_D A ([(ta, .inr (7, [.ref fa, .ref a_draft, .ref ea, .ref ba, .ref a_slots, .ref a_slotKinds, .ref a_sheets, .ref a_speedX, .ref a_speedY, .ref a_leftward, .ref a_change, .ref a_table, .int ((f_X7_finding fi (-1000001)).2)])), (fa, .inr (1, [.ref fap, .ref faq])), (fap, .inr (3, [.ref fapn])), (fapn, .inl (cy 0, 6, .inl fu)), (faq, .inr (3, [.ref faqn])), (faqn, .inl (cy 0, 6, .inl fv)), (ea, .inr (0, [.ref eax, .ref eay, .int (nI n)])), (eax, .inl (cy 0, 9, .inl xs)), (eay, .inl (cy 0, 9, .inl ys)), (ba, .inr (2, [.ref bar, .int (nI co), .int (nI la)])), (bar, .inl (cy 5, 25, .inr (.inr (.inr (.inr (fun i => if i < 25 then some (baf i) else none))))))] ++ yk_fam 25 baf (fun i => .inl (cy 0, 31, .inl (rw i)))) := hD9
    replace hS := hS9
    clear hP9 hD9 hS9
    have hF : f_X7_corner fu fv xs ys n rw co la fi px py = (((f_X7_finding fi (-1000001)).1), ((f_X7_finding fi (-1000001)).2), n, xs, ys, co, la, rw) := hF
    have hf0 := yk_fst hF
    have hg0 := yk_snd hF
    have hf1 := yk_fst hg0
    have hg1 := yk_snd hg0
    have hf2 := yk_fst hg1
    have hg2 := yk_snd hg1
    have hf3 := yk_fst hg2
    have hg3 := yk_snd hg2
    have hf4 := yk_fst hg3
    have hg4 := yk_snd hg3
    have hf5 := yk_fst hg4
    have hg5 := yk_snd hg4
    have hf6 := yk_fst hg5
    have hg6 := yk_snd hg5
    rw [hf0, hf1, hf2, hf3, hf4, hf5, hf6, hg6] at hQ
    exact hQ _ _ _ _ dX7_corner_14 hP hS
