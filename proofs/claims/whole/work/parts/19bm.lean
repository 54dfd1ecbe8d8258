theorem hv_X2_bringBack : yX2_bringBack.cls = RX2 ∧ yX2_bringBack.cls ≠ "java/lang/invoke/MethodHandle" ∧ yX2_bringBack.cls ≠ "java/lang/invoke/VarHandle" ∧ (parseMethodDescriptor yX2_bringBack.desc).map (fun d => d.parameters.length) = some 2 := by decide +kernel
theorem hs_X2_bringBack : yX2_bringBack.cls ≠ "java/lang/invoke/MethodHandle" ∧ yX2_bringBack.cls ≠ "java/lang/invoke/VarHandle" ∧ (parseMethodDescriptor yX2_bringBack.desc).map (fun d => d.parameters.length) = some 2 := by decide +kernel
theorem hv_X7_countFilledSlots : yX7_countFilledSlots.cls = RX7 ∧ yX7_countFilledSlots.cls ≠ "java/lang/invoke/MethodHandle" ∧ yX7_countFilledSlots.cls ≠ "java/lang/invoke/VarHandle" ∧ (parseMethodDescriptor yX7_countFilledSlots.desc).map (fun d => d.parameters.length) = some 0 := by decide +kernel
theorem hs_X7_countFilledSlots : yX7_countFilledSlots.cls ≠ "java/lang/invoke/MethodHandle" ∧ yX7_countFilledSlots.cls ≠ "java/lang/invoke/VarHandle" ∧ (parseMethodDescriptor yX7_countFilledSlots.desc).map (fun d => d.parameters.length) = some 0 := by decide +kernel
theorem kX7_undo_0 : Cond.fieldLink RX7 29 "FlowPlane" "past" "LFlowPlane$Past;" ∈ wsX7_undo := by decide +kernel
theorem kX7_undo_1 : Cond.fieldLink RX7 295 "FlowPlane$Past" "count" "I" ∈ wsX7_undo := by decide +kernel
theorem kX7_undo_2 : Cond.fieldLink RX7 10 "FlowPlane" "flow" "LFlowPlane$Flow;" ∈ wsX7_undo := by decide +kernel
theorem kX7_undo_3 : Cond.fieldLink RX7 22 "FlowPlane" "fence" "LFlowPlane$Fence;" ∈ wsX7_undo := by decide +kernel
theorem kX7_undo_4 : Cond.constant RX7 146 (-1000006) ∈ wsX7_undo := by decide +kernel
theorem uX7_undo_X7 : ∀ w ∈ u_ws RX7 TX7 13, w ∈ wsX7_undo := by decide +kernel
theorem uX7_undo_X2 : ∀ w ∈ u_ws RX2 TX2 3, w ∈ wsX7_undo := by decide +kernel
def f_X7_undo (fu : Nat → Int32) (fv : Nat → Int32) (xs : Nat → Int32) (ys : Nat → Int32) (n : Nat) (rw : Nat → Nat → Int32) (co : Nat) (la : Nat) (fi : Int32) (n2 : Nat) : Int32 × Int32 × (Nat → Int32) × (Nat → Int32) × Nat × (Nat → Int32) × (Nat → Int32) × Nat × Nat := (if (nI co) = 0 then (((f_X7_finding fi (-1000006)).1), ((f_X7_finding fi (-1000006)).2), fu, fv, n, xs, ys, co, la) else ((nI ((f_X2_bringBack rw co la fu fv xs ys n2).1)), fi, ((f_X2_bringBack rw co la fu fv xs ys n2).2.2.1), ((f_X2_bringBack rw co la fu fv xs ys n2).2.2.2.1), ((f_X2_bringBack rw co la fu fv xs ys n2).2.2.2.2.1), ((f_X2_bringBack rw co la fu fv xs ys n2).2.2.2.2.2.1), ((f_X2_bringBack rw co la fu fv xs ys n2).2.2.2.2.2.2), ((f_X2_bringBack rw co la fu fv xs ys n2).1), ((f_X2_bringBack rw co la fu fv xs ys n2).2.1)))
set_option maxHeartbeats 400000000 in
set_option maxRecDepth 100000 in
theorem c_X7_undo (l : Launch) (D : va_G) (cy : Nat → ClassId) (ta : Nat) (fa : Nat) (fap : Nat) (fapn : Nat) (faq : Nat) (faqn : Nat) (ea : Nat) (eax : Nat) (eay : Nat) (ba : Nat) (bar : Nat) (baf : Nat → Nat) (a_draft : Nat) (a_slots : Nat) (a_slotKinds : Nat) (a_sheets : Nat) (a_speedX : Nat) (a_speedY : Nat) (a_leftward : Nat) (a_change : Nat) (a_table : Nat) (fu : Nat → Int32) (fv : Nat → Int32) (xs : Nat → Int32) (ys : Nat → Int32) (n : Nat) (rw : Nat → Nat → Int32) (co : Nat) (la : Nat) (fi : Int32) (n2 : Nat) (hn : n ≤ 8) (hco : co ≤ 25) (hla : la < 25) (hun : 0 < co → rw la 12 = nI n2 ∧ n2 ≤ 8) : yk_Ci l D vwCl (yk_ty cy) yX7_undo wsX7_undo 2 41 [.ref ta] ([(ta, .inr (7, [.ref fa, .ref a_draft, .ref ea, .ref ba, .ref a_slots, .ref a_slotKinds, .ref a_sheets, .ref a_speedX, .ref a_speedY, .ref a_leftward, .ref a_change, .ref a_table, .int fi])), (fa, .inr (1, [.ref fap, .ref faq])), (fap, .inr (3, [.ref fapn])), (fapn, .inl (cy 0, 6, .inl fu)), (faq, .inr (3, [.ref faqn])), (faqn, .inl (cy 0, 6, .inl fv)), (ea, .inr (0, [.ref eax, .ref eay, .int (nI n)])), (eax, .inl (cy 0, 9, .inl xs)), (eay, .inl (cy 0, 9, .inl ys)), (ba, .inr (2, [.ref bar, .int (nI co), .int (nI la)])), (bar, .inl (cy 5, 25, .inr (.inr (.inr (.inr (fun i => if i < 25 then some (baf i) else none))))))] ++ yk_fam 25 baf (fun i => .inl (cy 0, 31, .inl (rw i)))) ((f_X7_undo fu fv xs ys n rw co la fi n2).1) ([(ta, .inr (7, [.ref fa, .ref a_draft, .ref ea, .ref ba, .ref a_slots, .ref a_slotKinds, .ref a_sheets, .ref a_speedX, .ref a_speedY, .ref a_leftward, .ref a_change, .ref a_table, .int ((f_X7_undo fu fv xs ys n rw co la fi n2).2.1)])), (fa, .inr (1, [.ref fap, .ref faq])), (fap, .inr (3, [.ref fapn])), (fapn, .inl (cy 0, 6, .inl ((f_X7_undo fu fv xs ys n rw co la fi n2).2.2.1))), (faq, .inr (3, [.ref faqn])), (faqn, .inl (cy 0, 6, .inl ((f_X7_undo fu fv xs ys n rw co la fi n2).2.2.2.1))), (ea, .inr (0, [.ref eax, .ref eay, .int (nI ((f_X7_undo fu fv xs ys n rw co la fi n2).2.2.2.2.1))])), (eax, .inl (cy 0, 9, .inl ((f_X7_undo fu fv xs ys n rw co la fi n2).2.2.2.2.2.1))), (eay, .inl (cy 0, 9, .inl ((f_X7_undo fu fv xs ys n rw co la fi n2).2.2.2.2.2.2.1))), (ba, .inr (2, [.ref bar, .int (nI ((f_X7_undo fu fv xs ys n rw co la fi n2).2.2.2.2.2.2.2.1)), .int (nI ((f_X7_undo fu fv xs ys n rw co la fi n2).2.2.2.2.2.2.2.2))])), (bar, .inl (cy 5, 25, .inr (.inr (.inr (.inr (fun i => if i < 25 then some (baf i) else none))))))] ++ yk_fam 25 baf (fun i => .inl (cy 0, 31, .inl (rw i)))) := by
  refine yk_eI (cc := cX7_undo) (maxL := 1) (by decide) rfl (Nat.le_of_ble_eq_true rfl) rfl ?_
  intro p e R s m args below meth c A Q ls H locs hx hb hml hown hts hRf hRl hA hK hG hP hD hS hl hQ
  have hP : va_P D vwCl ([(ta, .inr (7, [.ref fa, .ref a_draft, .ref ea, .ref ba, .ref a_slots, .ref a_slotKinds, .ref a_sheets, .ref a_speedX, .ref a_speedY, .ref a_leftward, .ref a_change, .ref a_table, .int fi])), (fa, .inr (1, [.ref fap, .ref faq])), (fap, .inr (3, [.ref fapn])), (fapn, .inl (cy 0, 6, .inl fu)), (faq, .inr (3, [.ref faqn])), (faqn, .inl (cy 0, 6, .inl fv)), (ea, .inr (0, [.ref eax, .ref eay, .int (nI n)])), (eax, .inl (cy 0, 9, .inl xs)), (eay, .inl (cy 0, 9, .inl ys)), (ba, .inr (2, [.ref bar, .int (nI co), .int (nI la)])), (bar, .inl (cy 5, 25, .inr (.inr (.inr (.inr (fun i => if i < 25 then some (baf i) else none))))))] ++ yk_fam 25 baf (fun i => .inl (cy 0, 31, .inl (rw i)))) H := hP
  have hl : lv_has ls 1 [(0, .ref ta)] := hl
  have hown : s.vm.findClass RX7 = some m.cls := hown
  have hF : (f_X7_undo fu fv xs ys n rw co la fi n2) = (f_X7_undo fu fv xs ys n rw co la fi n2) := rfl
  refine lv_aload_n hx hb dX7_undo_0 rfl (lv_at hl 0 rfl) ?_
  refine va_get (D := D) (ci := 7) (v := .ref ba) (C := RX7) (T := TX7) (N := 13) hx hb hts uX7_undo_X7 hown hK hP 0 rfl rfl 3 (by decide) (hts _ kX7_undo_0) (fun _ h9 => h9) rfl dX7_undo_1 ?_
  refine va_get (D := D) (ci := 2) (v := .int (nI co)) (C := RX2) (T := TX2) (N := 3) hx hb hts uX7_undo_X2 hown hK hP 9 rfl rfl 1 (by decide) (hts _ kX7_undo_1) (fun _ h9 => h9) rfl dX7_undo_4 ?_
  refine lv_if_ne (tgt := 17) hx hb dX7_undo_7 (by decide) (fun hc1 => ?_) (fun hc1 => ?_)
  · replace hF := hF.trans (if_neg hc1)
    refine lv_aload_n hx hb dX7_undo_17 rfl (lv_at hl 0 rfl) ?_
    refine va_get (D := D) (ci := 7) (v := .ref ba) (C := RX7) (T := TX7) (N := 13) hx hb hts uX7_undo_X7 hown hK hP 0 rfl rfl 3 (by decide) (hts _ kX7_undo_0) (fun _ h9 => h9) rfl dX7_undo_18 ?_
    refine lv_aload_n hx hb dX7_undo_21 rfl (lv_at hl 0 rfl) ?_
    refine va_get (D := D) (ci := 7) (v := .ref fa) (C := RX7) (T := TX7) (N := 13) hx hb hts uX7_undo_X7 hown hK hP 0 rfl rfl 0 (by decide) (hts _ kX7_undo_2) (fun _ h9 => h9) rfl dX7_undo_22 ?_
    refine lv_aload_n hx hb dX7_undo_25 rfl (lv_at hl 0 rfl) ?_
    refine va_get (D := D) (ci := 7) (v := .ref ea) (C := RX7) (T := TX7) (N := 13) hx hb hts uX7_undo_X7 hown hK hP 0 rfl rfl 2 (by decide) (hts _ kX7_undo_3) (fun _ h9 => h9) rfl dX7_undo_26 ?_
    refine yk_vT [9, 10, 1, 2, 3, 4, 5, 6, 7, 8] (va_runV (As := [.ref fa, .ref ea]) (rest := []) ⟨hx, hb, hml, hown, hts⟩ (c_X2_bringBack l D cy ba bar fa fap fapn faq faqn ea eax eay baf rw co la fu fv xs ys n n2 (⟨yk_pos0 (by assumption), hco⟩) (hla) ((hun (yk_pos0 (by assumption))).1) ((hun (yk_pos0 (by assumption))).2) H.size) (cwV 2 hts gX7_undo_X2_bringBack rfl rfl rfl hv_X2_bringBack (yk_room hRf hRl rfl rfl)) (yk_pvT (q := (RX2, TX2, 3)) hG hA hS hK hP hD [9, 10, 1, 2, 3, 4, 5, 6, 7, 8] (by decide +kernel) rfl rfl rfl) rfl rfl hl.1 rfl (lv_room (Nat.le_of_ble_eq_true rfl)) dX7_undo_29 ⟨Nat.zero_le _, Nat.zero_le _⟩) hP hD hS hA rfl (Eq.trans (b := [ba, bar, fa, fap, fapn, faq, faqn, ea, eax, eay]) rfl rfl) (yk_ff _ _ _ _) (fun H locs hP9 hD9 hS9 => ?_)
    replace hP : va_P D vwCl ([(ta, .inr (7, [.ref fa, .ref a_draft, .ref ea, .ref ba, .ref a_slots, .ref a_slotKinds, .ref a_sheets, .ref a_speedX, .ref a_speedY, .ref a_leftward, .ref a_change, .ref a_table, .int fi])), (fa, .inr (1, [.ref fap, .ref faq])), (fap, .inr (3, [.ref fapn])), (fapn, .inl (cy 0, 6, .inl ((f_X2_bringBack rw co la fu fv xs ys n2).2.2.1))), (faq, .inr (3, [.ref faqn])), (faqn, .inl (cy 0, 6, .inl ((f_X2_bringBack rw co la fu fv xs ys n2).2.2.2.1))), (ea, .inr (0, [.ref eax, .ref eay, .int (nI ((f_X2_bringBack rw co la fu fv xs ys n2).2.2.2.2.1))])), (eax, .inl (cy 0, 9, .inl ((f_X2_bringBack rw co la fu fv xs ys n2).2.2.2.2.2.1))), (eay, .inl (cy 0, 9, .inl ((f_X2_bringBack rw co la fu fv xs ys n2).2.2.2.2.2.2))), (ba, .inr (2, [.ref bar, .int (nI ((f_X2_bringBack rw co la fu fv xs ys n2).1)), .int (nI ((f_X2_bringBack rw co la fu fv xs ys n2).2.1))])), (bar, .inl (cy 5, 25, .inr (.inr (.inr (.inr (fun i => if i < 25 then some (baf i) else none))))))] ++ yk_fam 25 baf (fun i => .inl (cy 0, 31, .inl (rw i)))) H := hP9
    replace hD : va_D A ([(ta, .inr (7, [.ref fa, .ref a_draft, .ref ea, .ref ba, .ref a_slots, .ref a_slotKinds, .ref a_sheets, .ref a_speedX, .ref a_speedY, .ref a_leftward, .ref a_change, .ref a_table, .int fi])), (fa, .inr (1, [.ref fap, .ref faq])), (fap, .inr (3, [.ref fapn])), (fapn, .inl (cy 0, 6, .inl ((f_X2_bringBack rw co la fu fv xs ys n2).2.2.1))), (faq, .inr (3, [.ref faqn])), (faqn, .inl (cy 0, 6, .inl ((f_X2_bringBack rw co la fu fv xs ys n2).2.2.2.1))), (ea, .inr (0, [.ref eax, .ref eay, .int (nI ((f_X2_bringBack rw co la fu fv xs ys n2).2.2.2.2.1))])), (eax, .inl (cy 0, 9, .inl ((f_X2_bringBack rw co la fu fv xs ys n2).2.2.2.2.2.1))), (eay, .inl (cy 0, 9, .inl ((f_X2_bringBack rw co la fu fv xs ys n2).2.2.2.2.2.2))), (ba, .inr (2, [.ref bar, .int (nI ((f_X2_bringBack rw co la fu fv xs ys n2).1)), .int (nI ((f_X2_bringBack rw co la fu fv xs ys n2).2.1))])), (bar, .inl (cy 5, 25, .inr (.inr (.inr (.inr (fun i => if i < 25 then some (baf i) else none))))))] ++ yk_fam 25 baf (fun i => .inl (cy 0, 31, .inl (rw i)))) := hD9
    replace hS := hS9
    clear hP9 hD9 hS9
    refine lv_aload_n hx hb dX7_undo_32 rfl (lv_at hl 0 rfl) ?_
    refine va_get (D := D) (ci := 7) (v := .ref ba) (C := RX7) (T := TX7) (N := 13) hx hb hts uX7_undo_X7 hown hK hP 0 rfl rfl 3 (by decide) (hts _ kX7_undo_0) (fun _ h9 => h9) rfl dX7_undo_33 ?_
    refine va_get (D := D) (ci := 2) (v := .int (nI ((f_X2_bringBack rw co la fu fv xs ys n2).1))) (C := RX2) (T := TX2) (N := 3) hx hb hts uX7_undo_X2 hown hK hP 9 rfl rfl 1 (by decide) (hts _ kX7_undo_1) (fun _ h9 => h9) rfl dX7_undo_36 ?_
    have hF : f_X7_undo fu fv xs ys n rw co la fi n2 = ((nI ((f_X2_bringBack rw co la fu fv xs ys n2).1)), fi, ((f_X2_bringBack rw co la fu fv xs ys n2).2.2.1), ((f_X2_bringBack rw co la fu fv xs ys n2).2.2.2.1), ((f_X2_bringBack rw co la fu fv xs ys n2).2.2.2.2.1), ((f_X2_bringBack rw co la fu fv xs ys n2).2.2.2.2.2.1), ((f_X2_bringBack rw co la fu fv xs ys n2).2.2.2.2.2.2), ((f_X2_bringBack rw co la fu fv xs ys n2).1), ((f_X2_bringBack rw co la fu fv xs ys n2).2.1)) := hF
    have hf0 := yk_fst hF
    have hg0 := yk_snd hF
    have hf1 := yk_fst hg0
    have hg1 := yk_snd hg0
    have hf2 := yk_fst hg1
    have hg2 := yk_snd hg1
    have hf3 := yk_fst hg2
    have hg3 := yk_snd hg2
    have hf4 := yk_fst hg3
    have hg4 := yk_snd hg3
    have hf5 := yk_fst hg4
    have hg5 := yk_snd hg4
    have hf6 := yk_fst hg5
    have hg6 := yk_snd hg5
    have hf7 := yk_fst hg6
    have hg7 := yk_snd hg6
    rw [hf0, hf1, hf2, hf3, hf4, hf5, hf6, hf7, hg7] at hQ
    exact hQ _ _ _ _ dX7_undo_39 hP hS
  · replace hF := hF.trans (if_pos hc1)
    refine lv_aload_n hx hb dX7_undo_10 rfl (lv_at hl 0 rfl) ?_
    refine lv_ldc (v := (-1000006)) hx hb hown (hts _ kX7_undo_4) dX7_undo_11 ?_
    refine yk_i [0] (va_runV (As := [.int (-1000006)]) (rest := []) ⟨hx, hb, hml, hown, hts⟩ (c_X7_finding l D cy ta fa a_draft ea ba a_slots a_slotKinds a_sheets a_speedX a_speedY a_leftward a_change a_table fi (-1000006) H.size) (cwV 1 hts gX7_undo_X7_finding rfl rfl rfl hv_X7_finding (yk_room hRf hRl rfl rfl)) (yk_pv (q := (RX7, TX7, 13)) hG hA hS hK hP hD [0] (by decide +kernel) rfl rfl rfl) rfl rfl hl.1 rfl (lv_room (Nat.le_of_ble_eq_true rfl)) dX7_undo_13 ⟨Nat.zero_le _, Nat.zero_le _⟩) hP hD hS hA rfl (Eq.trans (b := [ta]) rfl rfl) (fun H locs hP9 hD9 hS9 => ?_)
    replace hP : va_P D vwCl ([(ta, .inr (7, [.ref fa, .ref a_draft, .ref ea, .ref ba, .ref a_slots, .ref a_slotKinds, .ref a_sheets, .ref a_speedX, .ref a_speedY, .ref a_leftward, .ref a_change, .ref a_table, .int ((f_X7_finding fi (-1000006)).2)])), (fa, .inr (1, [.ref fap, .ref faq])), (fap, .inr (3, [.ref fapn])), (fapn, .inl (cy 0, 6, .inl fu)), (faq, .inr (3, [.ref faqn])), (faqn, .inl (cy 0, 6, .inl fv)), (ea, .inr (0, [.ref eax, .ref eay, .int (nI n)])), (eax, .inl (cy 0, 9, .inl xs)), (eay, .inl (cy 0, 9, .inl ys)), (ba, .inr (2, [.ref bar, .int (nI co), .int (nI la)])), (bar, .inl (cy 5, 25, .inr (.inr (.inr (.inr (fun i => if i < 25 then some (baf i) else none))))))] ++ yk_fam 25 baf (fun i => .inl (cy 0, 31, .inl (rw i)))) H := hP9
    replace hD : va_D A ([(ta, .inr (7, [.ref fa, .ref a_draft, .ref ea, .ref ba, .ref a_slots, .ref a_slotKinds, .ref a_sheets, .ref a_speedX, .ref a_speedY, .ref a_leftward, .ref a_change, .ref a_table, .int ((f_X7_finding fi (-1000006)).2)])), (fa, .inr (1, [.ref fap, .ref faq])), (fap, .inr (3, [.ref fapn])), (fapn, .inl (cy 0, 6, .inl fu)), (faq, .inr (3, [.ref faqn])), (faqn, .inl (cy 0, 6, .inl fv)), (ea, .inr (0, [.ref eax, .ref eay, .int (nI n)])), (eax, .inl (cy 0, 9, .inl xs)), (eay, .inl (cy 0, 9, .inl ys)), (ba, .inr (2, [.ref bar, .int (nI co), .int (nI la)])), (bar, .inl (cy 5, 25, .inr (.inr (.inr (.inr (fun i => if i < 25 then some (baf i) else none))))))] ++ yk_fam 25 baf (fun i => .inl (cy 0, 31, .inl (rw i)))) := hD9
    replace hS := hS9
    clear hP9 hD9 hS9
    have hF : f_X7_undo fu fv xs ys n rw co la fi n2 = (((f_X7_finding fi (-1000006)).1), ((f_X7_finding fi (-1000006)).2), fu, fv, n, xs, ys, co, la) := hF
    have hf0 := yk_fst hF
    have hg0 := yk_snd hF
    have hf1 := yk_fst hg0
    have hg1 := yk_snd hg0
    have hf2 := yk_fst hg1
    have hg2 := yk_snd hg1
    have hf3 := yk_fst hg2
    have hg3 := yk_snd hg2
    have hf4 := yk_fst hg3
    have hg4 := yk_snd hg3
    have hf5 := yk_fst hg4
    have hg5 := yk_snd hg4
    have hf6 := yk_fst hg5
    have hg6 := yk_snd hg5
    have hf7 := yk_fst hg6
    have hg7 := yk_snd hg6
    rw [hf0, hf1, hf2, hf3, hf4, hf5, hf6, hf7, hg7] at hQ
    exact hQ _ _ _ _ dX7_undo_16 hP hS

theorem kX7_told_0 : Cond.fieldLink RX7 22 "FlowPlane" "fence" "LFlowPlane$Fence;" ∈ wsX7_told := by decide +kernel
theorem kX7_told_1 : Cond.fieldLink RX7 160 "FlowPlane$Fence" "count" "I" ∈ wsX7_told := by decide +kernel
theorem kX7_told_2 : Cond.fieldLink RX7 10 "FlowPlane" "flow" "LFlowPlane$Flow;" ∈ wsX7_told := by decide +kernel
theorem kX7_told_3 : Cond.fieldLink RX7 71 "FlowPlane" "findings" "I" ∈ wsX7_told := by decide +kernel
theorem kX7_told_4 : Cond.constant RX7 83 (-1000001) ∈ wsX7_told := by decide +kernel
theorem uX7_told_X7 : ∀ w ∈ u_ws RX7 TX7 13, w ∈ wsX7_told := by decide +kernel
theorem uX7_told_X0 : ∀ w ∈ u_ws RX0 TX0 3, w ∈ wsX7_told := by decide +kernel
def f_X7_told (fu : Nat → Int32) (fv : Nat → Int32) (n : Nat) (sk : Nat → Int32) (fi : Int32) (px : Int32) : Int32 × Int32 := (if px = 0 then ((nI n), fi) else (if px = 1 then ((f_X1_countNotZero fu fv), fi) else (if px = 2 then ((f_X7_countFilledSlots sk), fi) else (if px = 3 then (fi, fi) else (((f_X7_finding fi (-1000001)).1), ((f_X7_finding fi (-1000001)).2))))))
set_option maxHeartbeats 400000000 in
set_option maxRecDepth 100000 in
theorem c_X7_told (l : Launch) (D : va_G) (cy : Nat → ClassId) (ta : Nat) (fa : Nat) (fap : Nat) (fapn : Nat) (faq : Nat) (faqn : Nat) (ea : Nat) (eax : Nat) (eay : Nat) (ka : Nat) (a_draft : Nat) (a_past : Nat) (a_slots : Nat) (a_sheets : Nat) (a_speedX : Nat) (a_speedY : Nat) (a_leftward : Nat) (a_change : Nat) (a_table : Nat) (fu : Nat → Int32) (fv : Nat → Int32) (xs : Nat → Int32) (ys : Nat → Int32) (n : Nat) (sk : Nat → Int32) (fi : Int32) (px : Int32) (hn : n ≤ 8) : yk_Ci l D vwCl (yk_ty cy) yX7_told wsX7_told 2 42 [.ref ta, .int px] [(ta, .inr (7, [.ref fa, .ref a_draft, .ref ea, .ref a_past, .ref a_slots, .ref ka, .ref a_sheets, .ref a_speedX, .ref a_speedY, .ref a_leftward, .ref a_change, .ref a_table, .int fi])), (fa, .inr (1, [.ref fap, .ref faq])), (fap, .inr (3, [.ref fapn])), (fapn, .inl (cy 0, 6, .inl fu)), (faq, .inr (3, [.ref faqn])), (faqn, .inl (cy 0, 6, .inl fv)), (ea, .inr (0, [.ref eax, .ref eay, .int (nI n)])), (eax, .inl (cy 0, 9, .inl xs)), (eay, .inl (cy 0, 9, .inl ys)), (ka, .inl (cy 0, 4, .inl sk))] ((f_X7_told fu fv n sk fi px).1) [(ta, .inr (7, [.ref fa, .ref a_draft, .ref ea, .ref a_past, .ref a_slots, .ref ka, .ref a_sheets, .ref a_speedX, .ref a_speedY, .ref a_leftward, .ref a_change, .ref a_table, .int ((f_X7_told fu fv n sk fi px).2)])), (fa, .inr (1, [.ref fap, .ref faq])), (fap, .inr (3, [.ref fapn])), (fapn, .inl (cy 0, 6, .inl fu)), (faq, .inr (3, [.ref faqn])), (faqn, .inl (cy 0, 6, .inl fv)), (ea, .inr (0, [.ref eax, .ref eay, .int (nI n)])), (eax, .inl (cy 0, 9, .inl xs)), (eay, .inl (cy 0, 9, .inl ys)), (ka, .inl (cy 0, 4, .inl sk))] := by
  refine yk_eI (cc := cX7_told) (maxL := 2) (by decide) rfl (Nat.le_of_ble_eq_true rfl) rfl ?_
  intro p e R s m args below meth c A Q ls H locs hx hb hml hown hts hRf hRl hA hK hG hP hD hS hl hQ
  have hP : va_P D vwCl [(ta, .inr (7, [.ref fa, .ref a_draft, .ref ea, .ref a_past, .ref a_slots, .ref ka, .ref a_sheets, .ref a_speedX, .ref a_speedY, .ref a_leftward, .ref a_change, .ref a_table, .int fi])), (fa, .inr (1, [.ref fap, .ref faq])), (fap, .inr (3, [.ref fapn])), (fapn, .inl (cy 0, 6, .inl fu)), (faq, .inr (3, [.ref faqn])), (faqn, .inl (cy 0, 6, .inl fv)), (ea, .inr (0, [.ref eax, .ref eay, .int (nI n)])), (eax, .inl (cy 0, 9, .inl xs)), (eay, .inl (cy 0, 9, .inl ys)), (ka, .inl (cy 0, 4, .inl sk))] H := hP
  have hl : lv_has ls 2 [(0, .ref ta), (1, .int px)] := hl
  have hown : s.vm.findClass RX7 = some m.cls := hown
  have hF : (f_X7_told fu fv n sk fi px) = (f_X7_told fu fv n sk fi px) := rfl
  refine lv_iload_n hx hb dX7_told_0 rfl (lv_at hl 1 rfl) ?_
  by_cases hc1 : px = 0
  · replace hF := hF.trans (if_pos hc1)
    refine lv_tableIn (tgt := 32) hx hb dX7_told_1 (by rw [hc1]; decide) (by rw [hc1]; decide) (by rw [hc1]; rfl) (by decide) ?_
    refine lv_aload_n hx hb dX7_told_32 rfl (lv_at hl 0 rfl) ?_
    refine va_get (D := D) (ci := 7) (v := .ref ea) (C := RX7) (T := TX7) (N := 13) hx hb hts uX7_told_X7 hown hK hP 0 rfl rfl 2 (by decide) (hts _ kX7_told_0) (fun _ h9 => h9) rfl dX7_told_33 ?_
    refine va_get (D := D) (ci := 0) (v := .int (nI n)) (C := RX0) (T := TX0) (N := 3) hx hb hts uX7_told_X0 hown hK hP 6 rfl rfl 2 (by decide) (hts _ kX7_told_1) (fun _ h9 => h9) rfl dX7_told_36 ?_
    have hF : f_X7_told fu fv n sk fi px = ((nI n), fi) := hF
    have hf0 := yk_fst hF
    have hg0 := yk_snd hF
    rw [hf0, hg0] at hQ
    exact hQ _ _ _ _ dX7_told_39 hP hS
  replace hF := hF.trans (if_neg hc1)
  by_cases hc2 : px = 1
  · replace hF := hF.trans (if_pos hc2)
    refine lv_tableIn (tgt := 40) hx hb dX7_told_1 (by rw [hc2]; decide) (by rw [hc2]; decide) (by rw [hc2]; rfl) (by decide) ?_
    refine lv_aload_n hx hb dX7_told_40 rfl (lv_at hl 0 rfl) ?_
    refine va_get (D := D) (ci := 7) (v := .ref fa) (C := RX7) (T := TX7) (N := 13) hx hb hts uX7_told_X7 hown hK hP 0 rfl rfl 0 (by decide) (hts _ kX7_told_2) (fun _ h9 => h9) rfl dX7_told_41 ?_
    refine yk_i [1, 2, 3, 4, 5] (va_runV (As := []) (rest := []) ⟨hx, hb, hml, hown, hts⟩ (c_X1_countNotZero l D cy fa fap fapn faq faqn fu fv H.size) (cwV 0 hts gX7_told_X1_countNotZero rfl rfl rfl hv_X1_countNotZero (yk_room hRf hRl rfl rfl)) (yk_pv (q := (RX1, TX1, 2)) hG hA hS hK hP hD [1, 2, 3, 4, 5] (by decide +kernel) rfl rfl rfl) rfl rfl hl.1 rfl (lv_room (Nat.le_of_ble_eq_true rfl)) dX7_told_44 ⟨Nat.zero_le _, Nat.zero_le _⟩) hP hD hS hA rfl (Eq.trans (b := [fa, fap, fapn, faq, faqn]) rfl rfl) (fun H locs hP9 hD9 hS9 => ?_)
    replace hP : va_P D vwCl [(ta, .inr (7, [.ref fa, .ref a_draft, .ref ea, .ref a_past, .ref a_slots, .ref ka, .ref a_sheets, .ref a_speedX, .ref a_speedY, .ref a_leftward, .ref a_change, .ref a_table, .int fi])), (fa, .inr (1, [.ref fap, .ref faq])), (fap, .inr (3, [.ref fapn])), (fapn, .inl (cy 0, 6, .inl fu)), (faq, .inr (3, [.ref faqn])), (faqn, .inl (cy 0, 6, .inl fv)), (ea, .inr (0, [.ref eax, .ref eay, .int (nI n)])), (eax, .inl (cy 0, 9, .inl xs)), (eay, .inl (cy 0, 9, .inl ys)), (ka, .inl (cy 0, 4, .inl sk))] H := hP9
    replace hD : va_D A [(ta, .inr (7, [.ref fa, .ref a_draft, .ref ea, .ref a_past, .ref a_slots, .ref ka, .ref a_sheets, .ref a_speedX, .ref a_speedY, .ref a_leftward, .ref a_change, .ref a_table, .int fi])), (fa, .inr (1, [.ref fap, .ref faq])), (fap, .inr (3, [.ref fapn])), (fapn, .inl (cy 0, 6, .inl fu)), (faq, .inr (3, [.ref faqn])), (faqn, .inl (cy 0, 6, .inl fv)), (ea, .inr (0, [.ref eax, .ref eay, .int (nI n)])), (eax, .inl (cy 0, 9, .inl xs)), (eay, .inl (cy 0, 9, .inl ys)), (ka, .inl (cy 0, 4, .inl sk))] := hD9
    replace hS := hS9
    clear hP9 hD9 hS9
    have hF : f_X7_told fu fv n sk fi px = ((f_X1_countNotZero fu fv), fi) := hF
    have hf0 := yk_fst hF
    have hg0 := yk_snd hF
    rw [hf0, hg0] at hQ
    exact hQ _ _ _ _ dX7_told_47 hP hS
  replace hF := hF.trans (if_neg hc2)
  by_cases hc3 : px = 2
  · replace hF := hF.trans (if_pos hc3)
    refine lv_tableIn (tgt := 48) hx hb dX7_told_1 (by rw [hc3]; decide) (by rw [hc3]; decide) (by rw [hc3]; rfl) (by decide) ?_
    refine lv_aload_n hx hb dX7_told_48 rfl (lv_at hl 0 rfl) ?_
    refine yk_i [0, 9] (va_runV (As := []) (rest := []) ⟨hx, hb, hml, hown, hts⟩ (c_X7_countFilledSlots l D cy ta ka fa a_draft ea a_past a_slots a_sheets a_speedX a_speedY a_leftward a_change a_table sk fi H.size) (cwV 0 hts gX7_told_X7_countFilledSlots rfl rfl rfl hv_X7_countFilledSlots (yk_room hRf hRl rfl rfl)) (yk_pv (q := (RX7, TX7, 13)) hG hA hS hK hP hD [0, 9] (by decide +kernel) rfl rfl rfl) rfl rfl hl.1 rfl (lv_room (Nat.le_of_ble_eq_true rfl)) dX7_told_49 ⟨Nat.zero_le _, Nat.zero_le _⟩) hP hD hS hA rfl (Eq.trans (b := [ta, ka]) rfl rfl) (fun H locs hP9 hD9 hS9 => ?_)
    replace hP : va_P D vwCl [(ta, .inr (7, [.ref fa, .ref a_draft, .ref ea, .ref a_past, .ref a_slots, .ref ka, .ref a_sheets, .ref a_speedX, .ref a_speedY, .ref a_leftward, .ref a_change, .ref a_table, .int fi])), (fa, .inr (1, [.ref fap, .ref faq])), (fap, .inr (3, [.ref fapn])), (fapn, .inl (cy 0, 6, .inl fu)), (faq, .inr (3, [.ref faqn])), (faqn, .inl (cy 0, 6, .inl fv)), (ea, .inr (0, [.ref eax, .ref eay, .int (nI n)])), (eax, .inl (cy 0, 9, .inl xs)), (eay, .inl (cy 0, 9, .inl ys)), (ka, .inl (cy 0, 4, .inl sk))] H := hP9
    replace hD : va_D A [(ta, .inr (7, [.ref fa, .ref a_draft, .ref ea, .ref a_past, .ref a_slots, .ref ka, .ref a_sheets, .ref a_speedX, .ref a_speedY, .ref a_leftward, .ref a_change, .ref a_table, .int fi])), (fa, .inr (1, [.ref fap, .ref faq])), (fap, .inr (3, [.ref fapn])), (fapn, .inl (cy 0, 6, .inl fu)), (faq, .inr (3, [.ref faqn])), (faqn, .inl (cy 0, 6, .inl fv)), (ea, .inr (0, [.ref eax, .ref eay, .int (nI n)])), (eax, .inl (cy 0, 9, .inl xs)), (eay, .inl (cy 0, 9, .inl ys)), (ka, .inl (cy 0, 4, .inl sk))] := hD9
    replace hS := hS9
    clear hP9 hD9 hS9
    have hF : f_X7_told fu fv n sk fi px = ((f_X7_countFilledSlots sk), fi) := hF
    have hf0 := yk_fst hF
    have hg0 := yk_snd hF
    rw [hf0, hg0] at hQ
    exact hQ _ _ _ _ dX7_told_52 hP hS
  replace hF := hF.trans (if_neg hc3)
  by_cases hc4 : px = 3
  · replace hF := hF.trans (if_pos hc4)
    refine lv_tableIn (tgt := 53) hx hb dX7_told_1 (by rw [hc4]; decide) (by rw [hc4]; decide) (by rw [hc4]; rfl) (by decide) ?_
    refine lv_aload_n hx hb dX7_told_53 rfl (lv_at hl 0 rfl) ?_
    refine va_get (D := D) (ci := 7) (v := .int fi) (C := RX7) (T := TX7) (N := 13) hx hb hts uX7_told_X7 hown hK hP 0 rfl rfl 12 (by decide) (hts _ kX7_told_3) (fun _ h9 => h9) rfl dX7_told_54 ?_
    have hF : f_X7_told fu fv n sk fi px = (fi, fi) := hF
    have hf0 := yk_fst hF
    have hg0 := yk_snd hF
    rw [hf0, hg0] at hQ
    exact hQ _ _ _ _ dX7_told_57 hP hS
  replace hF := hF.trans (if_neg hc4)
  refine lv_tableOut (tgt := 58) hx hb dX7_told_1 (yk_swo hc1 hc2 hc3 hc4) (by decide) ?_
  refine lv_aload_n hx hb dX7_told_58 rfl (lv_at hl 0 rfl) ?_
  refine lv_ldc (v := (-1000001)) hx hb hown (hts _ kX7_told_4) dX7_told_59 ?_
  refine yk_i [0] (va_runV (As := [.int (-1000001)]) (rest := []) ⟨hx, hb, hml, hown, hts⟩ (c_X7_finding l D cy ta fa a_draft ea a_past a_slots ka a_sheets a_speedX a_speedY a_leftward a_change a_table fi (-1000001) H.size) (cwV 1 hts gX7_told_X7_finding rfl rfl rfl hv_X7_finding (yk_room hRf hRl rfl rfl)) (yk_pv (q := (RX7, TX7, 13)) hG hA hS hK hP hD [0] (by decide +kernel) rfl rfl rfl) rfl rfl hl.1 rfl (lv_room (Nat.le_of_ble_eq_true rfl)) dX7_told_61 ⟨Nat.zero_le _, Nat.zero_le _⟩) hP hD hS hA rfl (Eq.trans (b := [ta]) rfl rfl) (fun H locs hP9 hD9 hS9 => ?_)
  replace hP : va_P D vwCl [(ta, .inr (7, [.ref fa, .ref a_draft, .ref ea, .ref a_past, .ref a_slots, .ref ka, .ref a_sheets, .ref a_speedX, .ref a_speedY, .ref a_leftward, .ref a_change, .ref a_table, .int ((f_X7_finding fi (-1000001)).2)])), (fa, .inr (1, [.ref fap, .ref faq])), (fap, .inr (3, [.ref fapn])), (fapn, .inl (cy 0, 6, .inl fu)), (faq, .inr (3, [.ref faqn])), (faqn, .inl (cy 0, 6, .inl fv)), (ea, .inr (0, [.ref eax, .ref eay, .int (nI n)])), (eax, .inl (cy 0, 9, .inl xs)), (eay, .inl (cy 0, 9, .inl ys)), (ka, .inl (cy 0, 4, .inl sk))] H := hP9
  replace hD : va_D A [(ta, .inr (7, [.ref fa, .ref a_draft, .ref ea, .ref a_past, .ref a_slots, .ref ka, .ref a_sheets, .ref a_speedX, .ref a_speedY, .ref a_leftward, .ref a_change, .ref a_table, .int ((f_X7_finding fi (-1000001)).2)])), (fa, .inr (1, [.ref fap, .ref faq])), (fap, .inr (3, [.ref fapn])), (fapn, .inl (cy 0, 6, .inl fu)), (faq, .inr (3, [.ref faqn])), (faqn, .inl (cy 0, 6, .inl fv)), (ea, .inr (0, [.ref eax, .ref eay, .int (nI n)])), (eax, .inl (cy 0, 9, .inl xs)), (eay, .inl (cy 0, 9, .inl ys)), (ka, .inl (cy 0, 4, .inl sk))] := hD9
  replace hS := hS9
  clear hP9 hD9 hS9
  have hF : f_X7_told fu fv n sk fi px = (((f_X7_finding fi (-1000001)).1), ((f_X7_finding fi (-1000001)).2)) := hF
  have hf0 := yk_fst hF
  have hg0 := yk_snd hF
  rw [hf0, hg0] at hQ
  exact hQ _ _ _ _ dX7_told_64 hP hS
