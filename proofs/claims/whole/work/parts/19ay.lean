theorem hv_X7_isSum : yX7_isSum.cls = RX7 ∧ yX7_isSum.cls ≠ "java/lang/invoke/MethodHandle" ∧ yX7_isSum.cls ≠ "java/lang/invoke/VarHandle" ∧ (parseMethodDescriptor yX7_isSum.desc).map (fun d => d.parameters.length) = some 5 := by decide +kernel
theorem hs_X7_isSum : yX7_isSum.cls ≠ "java/lang/invoke/MethodHandle" ∧ yX7_isSum.cls ≠ "java/lang/invoke/VarHandle" ∧ (parseMethodDescriptor yX7_isSum.desc).map (fun d => d.parameters.length) = some 5 := by decide +kernel
theorem hv_X7_clearChange : yX7_clearChange.cls = RX7 ∧ yX7_clearChange.cls ≠ "java/lang/invoke/MethodHandle" ∧ yX7_clearChange.cls ≠ "java/lang/invoke/VarHandle" ∧ (parseMethodDescriptor yX7_clearChange.desc).map (fun d => d.parameters.length) = some 0 := by decide +kernel
theorem hs_X7_clearChange : yX7_clearChange.cls ≠ "java/lang/invoke/MethodHandle" ∧ yX7_clearChange.cls ≠ "java/lang/invoke/VarHandle" ∧ (parseMethodDescriptor yX7_clearChange.desc).map (fun d => d.parameters.length) = some 0 := by decide +kernel
theorem hv_X7_addChange : yX7_addChange.cls = RX7 ∧ yX7_addChange.cls ≠ "java/lang/invoke/MethodHandle" ∧ yX7_addChange.cls ≠ "java/lang/invoke/VarHandle" ∧ (parseMethodDescriptor yX7_addChange.desc).map (fun d => d.parameters.length) = some 4 := by decide +kernel
theorem hs_X7_addChange : yX7_addChange.cls ≠ "java/lang/invoke/MethodHandle" ∧ yX7_addChange.cls ≠ "java/lang/invoke/VarHandle" ∧ (parseMethodDescriptor yX7_addChange.desc).map (fun d => d.parameters.length) = some 4 := by decide +kernel
theorem kX7_along_0 : Cond.constant RX7 83 (-1000001) ∈ wsX7_along := by decide +kernel
theorem kX7_along_1 : Cond.fieldLink RX7 10 "FlowPlane" "flow" "LFlowPlane$Flow;" ∈ wsX7_along := by decide +kernel
theorem kX7_along_2 : Cond.fieldLink RX7 117 "FlowPlane$Flow" "p" "LFlowPlane$Polynomial;" ∈ wsX7_along := by decide +kernel
theorem kX7_along_3 : Cond.fieldLink RX7 125 "FlowPlane$Flow" "q" "LFlowPlane$Polynomial;" ∈ wsX7_along := by decide +kernel
theorem kX7_along_4 : Cond.fieldLink RX7 61 "FlowPlane" "change" "[I" ∈ wsX7_along := by decide +kernel
theorem uX7_along_X7 : ∀ w ∈ u_ws RX7 TX7 13, w ∈ wsX7_along := by decide +kernel
theorem uX7_along_X1 : ∀ w ∈ u_ws RX1 TX1 2, w ∈ wsX7_along := by decide +kernel
def f_X7_along (fu : Nat → Int32) (fv : Nat → Int32) (ch : Nat → Int32) (fi : Int32) (pa : Int32) (pb : Int32) (pc_ : Int32) (pd : Int32) (pe : Int32) (pm : Int32) : Int32 × Int32 × (Nat → Int32) := (if (f_X7_isSum pa pb pc_ pd pe) = 0 then (((f_X7_finding fi (-1000001)).1), ((f_X7_finding fi (-1000001)).2), ch) else (if pm < 0 then (((f_X7_finding fi (-1000001)).1), ((f_X7_finding fi (-1000001)).2), ch) else (if pm < 10 then (((f_X7_addChange (f_X7_addChange (f_X7_clearChange ch) fu pa (2 * pc_) pd) fv pb pd (2 * pe)) pm.toNatClampNeg), fi, (f_X7_addChange (f_X7_addChange (f_X7_clearChange ch) fu pa (2 * pc_) pd) fv pb pd (2 * pe))) else (((f_X7_finding fi (-1000001)).1), ((f_X7_finding fi (-1000001)).2), ch))))
set_option maxHeartbeats 400000000 in
set_option maxRecDepth 100000 in
theorem c_X7_along (l : Launch) (D : va_G) (cy : Nat → ClassId) (ta : Nat) (fa : Nat) (fap : Nat) (fapn : Nat) (faq : Nat) (faqn : Nat) (ca : Nat) (a_draft : Nat) (a_fence : Nat) (a_past : Nat) (a_slots : Nat) (a_slotKinds : Nat) (a_sheets : Nat) (a_speedX : Nat) (a_speedY : Nat) (a_leftward : Nat) (a_table : Nat) (fu : Nat → Int32) (fv : Nat → Int32) (ch : Nat → Int32) (fi : Int32) (pa : Int32) (pb : Int32) (pc_ : Int32) (pd : Int32) (pe : Int32) (pm : Int32) : yk_Ci l D vwCl (yk_ty cy) yX7_along wsX7_along 2 45 [.ref ta, .int pa, .int pb, .int pc_, .int pd, .int pe, .int pm] [(ta, .inr (7, [.ref fa, .ref a_draft, .ref a_fence, .ref a_past, .ref a_slots, .ref a_slotKinds, .ref a_sheets, .ref a_speedX, .ref a_speedY, .ref a_leftward, .ref ca, .ref a_table, .int fi])), (fa, .inr (1, [.ref fap, .ref faq])), (fap, .inr (3, [.ref fapn])), (fapn, .inl (cy 0, 6, .inl fu)), (faq, .inr (3, [.ref faqn])), (faqn, .inl (cy 0, 6, .inl fv)), (ca, .inl (cy 0, 10, .inl ch))] ((f_X7_along fu fv ch fi pa pb pc_ pd pe pm).1) [(ta, .inr (7, [.ref fa, .ref a_draft, .ref a_fence, .ref a_past, .ref a_slots, .ref a_slotKinds, .ref a_sheets, .ref a_speedX, .ref a_speedY, .ref a_leftward, .ref ca, .ref a_table, .int ((f_X7_along fu fv ch fi pa pb pc_ pd pe pm).2.1)])), (fa, .inr (1, [.ref fap, .ref faq])), (fap, .inr (3, [.ref fapn])), (fapn, .inl (cy 0, 6, .inl fu)), (faq, .inr (3, [.ref faqn])), (faqn, .inl (cy 0, 6, .inl fv)), (ca, .inl (cy 0, 10, .inl ((f_X7_along fu fv ch fi pa pb pc_ pd pe pm).2.2)))] := by
  refine yk_eI (cc := cX7_along) (maxL := 7) (by decide) rfl (Nat.le_of_ble_eq_true rfl) rfl ?_
  intro p e R s m args below meth c A Q ls H locs hx hb hml hown hts hRf hRl hA hK hG hP hD hS hl hQ
  have hP : va_P D vwCl [(ta, .inr (7, [.ref fa, .ref a_draft, .ref a_fence, .ref a_past, .ref a_slots, .ref a_slotKinds, .ref a_sheets, .ref a_speedX, .ref a_speedY, .ref a_leftward, .ref ca, .ref a_table, .int fi])), (fa, .inr (1, [.ref fap, .ref faq])), (fap, .inr (3, [.ref fapn])), (fapn, .inl (cy 0, 6, .inl fu)), (faq, .inr (3, [.ref faqn])), (faqn, .inl (cy 0, 6, .inl fv)), (ca, .inl (cy 0, 10, .inl ch))] H := hP
  have hl : lv_has ls 7 [(0, .ref ta), (1, .int pa), (2, .int pb), (3, .int pc_), (4, .int pd), (5, .int pe), (6, .int pm)] := hl
  have hown : s.vm.findClass RX7 = some m.cls := hown
  have hF : (f_X7_along fu fv ch fi pa pb pc_ pd pe pm) = (f_X7_along fu fv ch fi pa pb pc_ pd pe pm) := rfl
  refine lv_iload_n hx hb dX7_along_0 rfl (lv_at hl 1 rfl) ?_
  refine lv_iload_n hx hb dX7_along_1 rfl (lv_at hl 2 rfl) ?_
  refine lv_iload_n hx hb dX7_along_2 rfl (lv_at hl 3 rfl) ?_
  refine lv_iload hx hb dX7_along_3 (lv_at hl 4 rfl) ?_
  refine lv_iload hx hb dX7_along_5 (lv_at hl 5 rfl) ?_
  refine yk_i [] (va_runS (As := [.int pa, .int pb, .int pc_, .int pd, .int pe]) (rest := []) ⟨hx, hb, hml, hown, hts⟩ (c_X7_isSum l D cy pa pb pc_ pd pe H.size) (va_cwS 5 hts gX7_along_X7_isSum rfl rfl rfl hs_X7_isSum (yk_room hRf hRl rfl rfl)) (yk_ps hG hA hS hK hP hD [] (by decide +kernel) rfl) rfl rfl hl.1 rfl (lv_room (Nat.le_of_ble_eq_true rfl)) dX7_along_7 ⟨Nat.zero_le _, Nat.zero_le _⟩) hP hD hS hA rfl rfl (fun H locs hP9 hD9 hS9 => ?_)
  replace hP : va_P D vwCl [(ta, .inr (7, [.ref fa, .ref a_draft, .ref a_fence, .ref a_past, .ref a_slots, .ref a_slotKinds, .ref a_sheets, .ref a_speedX, .ref a_speedY, .ref a_leftward, .ref ca, .ref a_table, .int fi])), (fa, .inr (1, [.ref fap, .ref faq])), (fap, .inr (3, [.ref fapn])), (fapn, .inl (cy 0, 6, .inl fu)), (faq, .inr (3, [.ref faqn])), (faqn, .inl (cy 0, 6, .inl fv)), (ca, .inl (cy 0, 10, .inl ch))] H := hP9
  replace hD : va_D A [(ta, .inr (7, [.ref fa, .ref a_draft, .ref a_fence, .ref a_past, .ref a_slots, .ref a_slotKinds, .ref a_sheets, .ref a_speedX, .ref a_speedY, .ref a_leftward, .ref ca, .ref a_table, .int fi])), (fa, .inr (1, [.ref fap, .ref faq])), (fap, .inr (3, [.ref fapn])), (fapn, .inl (cy 0, 6, .inl fu)), (faq, .inr (3, [.ref faqn])), (faqn, .inl (cy 0, 6, .inl fv)), (ca, .inl (cy 0, 10, .inl ch))] := hD9
  replace hS := hS9
  clear hP9 hD9 hS9
  refine lv_if_eq (tgt := 25) hx hb dX7_along_10 (by decide) (fun hc1 => ?_) (fun hc1 => ?_)
  · replace hF := hF.trans (if_pos hc1)
    refine lv_aload_n hx hb dX7_along_25 rfl (lv_at hl 0 rfl) ?_
    refine lv_ldc (v := (-1000001)) hx hb hown (hts _ kX7_along_0) dX7_along_26 ?_
    refine yk_i [0] (va_runV (As := [.int (-1000001)]) (rest := []) ⟨hx, hb, hml, hown, hts⟩ (c_X7_finding l D cy ta fa a_draft a_fence a_past a_slots a_slotKinds a_sheets a_speedX a_speedY a_leftward ca a_table fi (-1000001) H.size) (cwV 1 hts gX7_along_X7_finding rfl rfl rfl hv_X7_finding (yk_room hRf hRl rfl rfl)) (yk_pv (q := (RX7, TX7, 13)) hG hA hS hK hP hD [0] (by decide +kernel) rfl rfl rfl) rfl rfl hl.1 rfl (lv_room (Nat.le_of_ble_eq_true rfl)) dX7_along_28 ⟨Nat.zero_le _, Nat.zero_le _⟩) hP hD hS hA rfl (Eq.trans (b := [ta]) rfl rfl) (fun H locs hP9 hD9 hS9 => ?_)
    replace hP : va_P D vwCl [(ta, .inr (7, [.ref fa, .ref a_draft, .ref a_fence, .ref a_past, .ref a_slots, .ref a_slotKinds, .ref a_sheets, .ref a_speedX, .ref a_speedY, .ref a_leftward, .ref ca, .ref a_table, .int ((f_X7_finding fi (-1000001)).2)])), (fa, .inr (1, [.ref fap, .ref faq])), (fap, .inr (3, [.ref fapn])), (fapn, .inl (cy 0, 6, .inl fu)), (faq, .inr (3, [.ref faqn])), (faqn, .inl (cy 0, 6, .inl fv)), (ca, .inl (cy 0, 10, .inl ch))] H := hP9
    replace hD : va_D A [(ta, .inr (7, [.ref fa, .ref a_draft, .ref a_fence, .ref a_past, .ref a_slots, .ref a_slotKinds, .ref a_sheets, .ref a_speedX, .ref a_speedY, .ref a_leftward, .ref ca, .ref a_table, .int ((f_X7_finding fi (-1000001)).2)])), (fa, .inr (1, [.ref fap, .ref faq])), (fap, .inr (3, [.ref fapn])), (fapn, .inl (cy 0, 6, .inl fu)), (faq, .inr (3, [.ref faqn])), (faqn, .inl (cy 0, 6, .inl fv)), (ca, .inl (cy 0, 10, .inl ch))] := hD9
    replace hS := hS9
    clear hP9 hD9 hS9
    have hF : f_X7_along fu fv ch fi pa pb pc_ pd pe pm = (((f_X7_finding fi (-1000001)).1), ((f_X7_finding fi (-1000001)).2), ch) := hF
    have hf0 := yk_fst hF
    have hg0 := yk_snd hF
    have hf1 := yk_fst hg0
    have hg1 := yk_snd hg0
    rw [hf0, hf1, hg1] at hQ
    exact hQ _ _ _ _ dX7_along_31 hP hS
  · replace hF := hF.trans (if_neg hc1)
    refine lv_iload hx hb dX7_along_13 (lv_at hl 6 rfl) ?_
    refine lv_if_lt (tgt := 25) hx hb dX7_along_15 (by decide) (fun hc2 => ?_) (fun hc2 => ?_)
    · replace hF := hF.trans (if_pos hc2)
      refine lv_aload_n hx hb dX7_along_25 rfl (lv_at hl 0 rfl) ?_
      refine lv_ldc (v := (-1000001)) hx hb hown (hts _ kX7_along_0) dX7_along_26 ?_
      refine yk_i [0] (va_runV (As := [.int (-1000001)]) (rest := []) ⟨hx, hb, hml, hown, hts⟩ (c_X7_finding l D cy ta fa a_draft a_fence a_past a_slots a_slotKinds a_sheets a_speedX a_speedY a_leftward ca a_table fi (-1000001) H.size) (cwV 1 hts gX7_along_X7_finding rfl rfl rfl hv_X7_finding (yk_room hRf hRl rfl rfl)) (yk_pv (q := (RX7, TX7, 13)) hG hA hS hK hP hD [0] (by decide +kernel) rfl rfl rfl) rfl rfl hl.1 rfl (lv_room (Nat.le_of_ble_eq_true rfl)) dX7_along_28 ⟨Nat.zero_le _, Nat.zero_le _⟩) hP hD hS hA rfl (Eq.trans (b := [ta]) rfl rfl) (fun H locs hP9 hD9 hS9 => ?_)
      replace hP : va_P D vwCl [(ta, .inr (7, [.ref fa, .ref a_draft, .ref a_fence, .ref a_past, .ref a_slots, .ref a_slotKinds, .ref a_sheets, .ref a_speedX, .ref a_speedY, .ref a_leftward, .ref ca, .ref a_table, .int ((f_X7_finding fi (-1000001)).2)])), (fa, .inr (1, [.ref fap, .ref faq])), (fap, .inr (3, [.ref fapn])), (fapn, .inl (cy 0, 6, .inl fu)), (faq, .inr (3, [.ref faqn])), (faqn, .inl (cy 0, 6, .inl fv)), (ca, .inl (cy 0, 10, .inl ch))] H := hP9
      replace hD : va_D A [(ta, .inr (7, [.ref fa, .ref a_draft, .ref a_fence, .ref a_past, .ref a_slots, .ref a_slotKinds, .ref a_sheets, .ref a_speedX, .ref a_speedY, .ref a_leftward, .ref ca, .ref a_table, .int ((f_X7_finding fi (-1000001)).2)])), (fa, .inr (1, [.ref fap, .ref faq])), (fap, .inr (3, [.ref fapn])), (fapn, .inl (cy 0, 6, .inl fu)), (faq, .inr (3, [.ref faqn])), (faqn, .inl (cy 0, 6, .inl fv)), (ca, .inl (cy 0, 10, .inl ch))] := hD9
      replace hS := hS9
      clear hP9 hD9 hS9
      have hF : f_X7_along fu fv ch fi pa pb pc_ pd pe pm = (((f_X7_finding fi (-1000001)).1), ((f_X7_finding fi (-1000001)).2), ch) := hF
      have hf0 := yk_fst hF
      have hg0 := yk_snd hF
      have hf1 := yk_fst hg0
      have hg1 := yk_snd hg0
      rw [hf0, hf1, hg1] at hQ
      exact hQ _ _ _ _ dX7_along_31 hP hS
    · replace hF := hF.trans (if_neg hc2)
      refine lv_iload hx hb dX7_along_18 (lv_at hl 6 rfl) ?_
      refine lv_bipush (v := 10) hx hb dX7_along_20 (by decide) ?_
      refine lv_icmp_lt (tgt := 32) hx hb dX7_along_22 (by decide) (fun hc3 => ?_) (fun hc3 => ?_)
      · replace hF := hF.trans (if_pos hc3)
        have hq9 : pm = nI pm.toNatClampNeg ∧ pm.toNatClampNeg < 10 := yk_ix (N := 10) (by decide) (by assumption) (Int32.not_le.mpr (by assumption))
        have hq4 : pm = nI pm.toNatClampNeg := hq9.1
        have hq4b : pm.toNatClampNeg < 10 := hq9.2
        rw [hq4] at hl
        refine lv_aload_n hx hb dX7_along_32 rfl (lv_at hl 0 rfl) ?_
        refine yk_v [0, 6] (va_runV (As := []) (rest := []) ⟨hx, hb, hml, hown, hts⟩ (c_X7_clearChange l D cy ta ca fa a_draft a_fence a_past a_slots a_slotKinds a_sheets a_speedX a_speedY a_leftward a_table ch fi H.size) (cwV 0 hts gX7_along_X7_clearChange rfl rfl rfl hv_X7_clearChange (yk_room hRf hRl rfl rfl)) (yk_pv (q := (RX7, TX7, 13)) hG hA hS hK hP hD [0, 6] (by decide +kernel) rfl rfl rfl) rfl rfl hl.1 rfl (lv_room (Nat.le_of_ble_eq_true rfl)) dX7_along_33 ⟨Nat.zero_le _, Nat.zero_le _⟩) hP hD hS hA rfl (Eq.trans (b := [ta, ca]) rfl rfl) (fun H locs hP9 hD9 hS9 => ?_)
        replace hP : va_P D vwCl [(ta, .inr (7, [.ref fa, .ref a_draft, .ref a_fence, .ref a_past, .ref a_slots, .ref a_slotKinds, .ref a_sheets, .ref a_speedX, .ref a_speedY, .ref a_leftward, .ref ca, .ref a_table, .int fi])), (fa, .inr (1, [.ref fap, .ref faq])), (fap, .inr (3, [.ref fapn])), (fapn, .inl (cy 0, 6, .inl fu)), (faq, .inr (3, [.ref faqn])), (faqn, .inl (cy 0, 6, .inl fv)), (ca, .inl (cy 0, 10, .inl (f_X7_clearChange ch)))] H := hP9
        replace hD : va_D A [(ta, .inr (7, [.ref fa, .ref a_draft, .ref a_fence, .ref a_past, .ref a_slots, .ref a_slotKinds, .ref a_sheets, .ref a_speedX, .ref a_speedY, .ref a_leftward, .ref ca, .ref a_table, .int fi])), (fa, .inr (1, [.ref fap, .ref faq])), (fap, .inr (3, [.ref fapn])), (fapn, .inl (cy 0, 6, .inl fu)), (faq, .inr (3, [.ref faqn])), (faqn, .inl (cy 0, 6, .inl fv)), (ca, .inl (cy 0, 10, .inl (f_X7_clearChange ch)))] := hD9
        replace hS := hS9
        clear hP9 hD9 hS9
        refine lv_aload_n hx hb dX7_along_36 rfl (lv_at hl 0 rfl) ?_
        refine lv_aload_n hx hb dX7_along_37 rfl (lv_at hl 0 rfl) ?_
        refine va_get (D := D) (ci := 7) (v := .ref fa) (C := RX7) (T := TX7) (N := 13) hx hb hts uX7_along_X7 hown hK hP 0 rfl rfl 0 (by decide) (hts _ kX7_along_1) (fun _ h9 => h9) rfl dX7_along_38 ?_
        refine va_get (D := D) (ci := 1) (v := .ref fap) (C := RX1) (T := TX1) (N := 2) hx hb hts uX7_along_X1 hown hK hP 1 rfl rfl 0 (by decide) (hts _ kX7_along_2) (fun _ h9 => h9) rfl dX7_along_41 ?_
        refine lv_iload_n hx hb dX7_along_44 rfl (lv_at hl 1 rfl) ?_
        refine lv_iconst (v := 2) hx hb dX7_along_45 (by decide) ?_
        refine lv_iload_n hx hb dX7_along_46 rfl (lv_at hl 3 rfl) ?_
        refine lv_imul hx hb dX7_along_47 ?_
        refine lv_iload hx hb dX7_along_48 (lv_at hl 4 rfl) ?_
        refine yk_v [0, 6, 2, 3] (va_runV (As := [.ref fap, .int pa, .int (2 * pc_), .int pd]) (rest := []) ⟨hx, hb, hml, hown, hts⟩ (c_X7_addChange l D cy ta ca fap fapn fa a_draft a_fence a_past a_slots a_slotKinds a_sheets a_speedX a_speedY a_leftward a_table (f_X7_clearChange ch) fi fu pa (2 * pc_) pd H.size) (cwV 4 hts gX7_along_X7_addChange rfl rfl rfl hv_X7_addChange (yk_room hRf hRl rfl rfl)) (yk_pv (q := (RX7, TX7, 13)) hG hA hS hK hP hD [0, 6, 2, 3] (by decide +kernel) rfl rfl rfl) rfl rfl hl.1 rfl (lv_room (Nat.le_of_ble_eq_true rfl)) dX7_along_50 ⟨Nat.zero_le _, Nat.zero_le _⟩) hP hD hS hA rfl (Eq.trans (b := [ta, ca, fap, fapn]) rfl rfl) (fun H locs hP9 hD9 hS9 => ?_)
        replace hP : va_P D vwCl [(ta, .inr (7, [.ref fa, .ref a_draft, .ref a_fence, .ref a_past, .ref a_slots, .ref a_slotKinds, .ref a_sheets, .ref a_speedX, .ref a_speedY, .ref a_leftward, .ref ca, .ref a_table, .int fi])), (fa, .inr (1, [.ref fap, .ref faq])), (fap, .inr (3, [.ref fapn])), (fapn, .inl (cy 0, 6, .inl fu)), (faq, .inr (3, [.ref faqn])), (faqn, .inl (cy 0, 6, .inl fv)), (ca, .inl (cy 0, 10, .inl (f_X7_addChange (f_X7_clearChange ch) fu pa (2 * pc_) pd)))] H := hP9
        replace hD : va_D A [(ta, .inr (7, [.ref fa, .ref a_draft, .ref a_fence, .ref a_past, .ref a_slots, .ref a_slotKinds, .ref a_sheets, .ref a_speedX, .ref a_speedY, .ref a_leftward, .ref ca, .ref a_table, .int fi])), (fa, .inr (1, [.ref fap, .ref faq])), (fap, .inr (3, [.ref fapn])), (fapn, .inl (cy 0, 6, .inl fu)), (faq, .inr (3, [.ref faqn])), (faqn, .inl (cy 0, 6, .inl fv)), (ca, .inl (cy 0, 10, .inl (f_X7_addChange (f_X7_clearChange ch) fu pa (2 * pc_) pd)))] := hD9
        replace hS := hS9
        clear hP9 hD9 hS9
        refine lv_aload_n hx hb dX7_along_53 rfl (lv_at hl 0 rfl) ?_
        refine lv_aload_n hx hb dX7_along_54 rfl (lv_at hl 0 rfl) ?_
        refine va_get (D := D) (ci := 7) (v := .ref fa) (C := RX7) (T := TX7) (N := 13) hx hb hts uX7_along_X7 hown hK hP 0 rfl rfl 0 (by decide) (hts _ kX7_along_1) (fun _ h9 => h9) rfl dX7_along_55 ?_
        refine va_get (D := D) (ci := 1) (v := .ref faq) (C := RX1) (T := TX1) (N := 2) hx hb hts uX7_along_X1 hown hK hP 1 rfl rfl 1 (by decide) (hts _ kX7_along_3) (fun _ h9 => h9) rfl dX7_along_58 ?_
        refine lv_iload_n hx hb dX7_along_61 rfl (lv_at hl 2 rfl) ?_
        refine lv_iload hx hb dX7_along_62 (lv_at hl 4 rfl) ?_
        refine lv_iconst (v := 2) hx hb dX7_along_64 (by decide) ?_
        refine lv_iload hx hb dX7_along_65 (lv_at hl 5 rfl) ?_
        refine lv_imul hx hb dX7_along_67 ?_
        refine yk_v [0, 6, 4, 5] (va_runV (As := [.ref faq, .int pb, .int pd, .int (2 * pe)]) (rest := []) ⟨hx, hb, hml, hown, hts⟩ (c_X7_addChange l D cy ta ca faq faqn fa a_draft a_fence a_past a_slots a_slotKinds a_sheets a_speedX a_speedY a_leftward a_table (f_X7_addChange (f_X7_clearChange ch) fu pa (2 * pc_) pd) fi fv pb pd (2 * pe) H.size) (cwV 4 hts gX7_along_X7_addChange rfl rfl rfl hv_X7_addChange (yk_room hRf hRl rfl rfl)) (yk_pv (q := (RX7, TX7, 13)) hG hA hS hK hP hD [0, 6, 4, 5] (by decide +kernel) rfl rfl rfl) rfl rfl hl.1 rfl (lv_room (Nat.le_of_ble_eq_true rfl)) dX7_along_68 ⟨Nat.zero_le _, Nat.zero_le _⟩) hP hD hS hA rfl (Eq.trans (b := [ta, ca, faq, faqn]) rfl rfl) (fun H locs hP9 hD9 hS9 => ?_)
        replace hP : va_P D vwCl [(ta, .inr (7, [.ref fa, .ref a_draft, .ref a_fence, .ref a_past, .ref a_slots, .ref a_slotKinds, .ref a_sheets, .ref a_speedX, .ref a_speedY, .ref a_leftward, .ref ca, .ref a_table, .int fi])), (fa, .inr (1, [.ref fap, .ref faq])), (fap, .inr (3, [.ref fapn])), (fapn, .inl (cy 0, 6, .inl fu)), (faq, .inr (3, [.ref faqn])), (faqn, .inl (cy 0, 6, .inl fv)), (ca, .inl (cy 0, 10, .inl (f_X7_addChange (f_X7_addChange (f_X7_clearChange ch) fu pa (2 * pc_) pd) fv pb pd (2 * pe))))] H := hP9
        replace hD : va_D A [(ta, .inr (7, [.ref fa, .ref a_draft, .ref a_fence, .ref a_past, .ref a_slots, .ref a_slotKinds, .ref a_sheets, .ref a_speedX, .ref a_speedY, .ref a_leftward, .ref ca, .ref a_table, .int fi])), (fa, .inr (1, [.ref fap, .ref faq])), (fap, .inr (3, [.ref fapn])), (fapn, .inl (cy 0, 6, .inl fu)), (faq, .inr (3, [.ref faqn])), (faqn, .inl (cy 0, 6, .inl fv)), (ca, .inl (cy 0, 10, .inl (f_X7_addChange (f_X7_addChange (f_X7_clearChange ch) fu pa (2 * pc_) pd) fv pb pd (2 * pe))))] := hD9
        replace hS := hS9
        clear hP9 hD9 hS9
        refine lv_aload_n hx hb dX7_along_71 rfl (lv_at hl 0 rfl) ?_
        refine va_get (D := D) (ci := 7) (v := .ref ca) (C := RX7) (T := TX7) (N := 13) hx hb hts uX7_along_X7 hown hK hP 0 rfl rfl 10 (by decide) (hts _ kX7_along_4) (fun _ h9 => h9) rfl dX7_along_72 ?_
        refine lv_iload hx hb dX7_along_75 (lv_at hl 6 rfl) ?_
        refine yk_ild hx hb hK hP 6 0 rfl rfl pm.toNatClampNeg (by omega) (by decide) dX7_along_77 ?_
        have hF : f_X7_along fu fv ch fi pa pb pc_ pd pe pm = (((f_X7_addChange (f_X7_addChange (f_X7_clearChange ch) fu pa (2 * pc_) pd) fv pb pd (2 * pe)) pm.toNatClampNeg), fi, (f_X7_addChange (f_X7_addChange (f_X7_clearChange ch) fu pa (2 * pc_) pd) fv pb pd (2 * pe))) := hF
        have hf0 := yk_fst hF
        have hg0 := yk_snd hF
        have hf1 := yk_fst hg0
        have hg1 := yk_snd hg0
        rw [hf0, hf1, hg1] at hQ
        exact hQ _ _ _ _ dX7_along_78 hP hS
      · replace hF := hF.trans (if_neg hc3)
        refine lv_aload_n hx hb dX7_along_25 rfl (lv_at hl 0 rfl) ?_
        refine lv_ldc (v := (-1000001)) hx hb hown (hts _ kX7_along_0) dX7_along_26 ?_
        refine yk_i [0] (va_runV (As := [.int (-1000001)]) (rest := []) ⟨hx, hb, hml, hown, hts⟩ (c_X7_finding l D cy ta fa a_draft a_fence a_past a_slots a_slotKinds a_sheets a_speedX a_speedY a_leftward ca a_table fi (-1000001) H.size) (cwV 1 hts gX7_along_X7_finding rfl rfl rfl hv_X7_finding (yk_room hRf hRl rfl rfl)) (yk_pv (q := (RX7, TX7, 13)) hG hA hS hK hP hD [0] (by decide +kernel) rfl rfl rfl) rfl rfl hl.1 rfl (lv_room (Nat.le_of_ble_eq_true rfl)) dX7_along_28 ⟨Nat.zero_le _, Nat.zero_le _⟩) hP hD hS hA rfl (Eq.trans (b := [ta]) rfl rfl) (fun H locs hP9 hD9 hS9 => ?_)
        replace hP : va_P D vwCl [(ta, .inr (7, [.ref fa, .ref a_draft, .ref a_fence, .ref a_past, .ref a_slots, .ref a_slotKinds, .ref a_sheets, .ref a_speedX, .ref a_speedY, .ref a_leftward, .ref ca, .ref a_table, .int ((f_X7_finding fi (-1000001)).2)])), (fa, .inr (1, [.ref fap, .ref faq])), (fap, .inr (3, [.ref fapn])), (fapn, .inl (cy 0, 6, .inl fu)), (faq, .inr (3, [.ref faqn])), (faqn, .inl (cy 0, 6, .inl fv)), (ca, .inl (cy 0, 10, .inl ch))] H := hP9
        replace hD : va_D A [(ta, .inr (7, [.ref fa, .ref a_draft, .ref a_fence, .ref a_past, .ref a_slots, .ref a_slotKinds, .ref a_sheets, .ref a_speedX, .ref a_speedY, .ref a_leftward, .ref ca, .ref a_table, .int ((f_X7_finding fi (-1000001)).2)])), (fa, .inr (1, [.ref fap, .ref faq])), (fap, .inr (3, [.ref fapn])), (fapn, .inl (cy 0, 6, .inl fu)), (faq, .inr (3, [.ref faqn])), (faqn, .inl (cy 0, 6, .inl fv)), (ca, .inl (cy 0, 10, .inl ch))] := hD9
        replace hS := hS9
        clear hP9 hD9 hS9
        have hF : f_X7_along fu fv ch fi pa pb pc_ pd pe pm = (((f_X7_finding fi (-1000001)).1), ((f_X7_finding fi (-1000001)).2), ch) := hF
        have hf0 := yk_fst hF
        have hg0 := yk_snd hF
        have hf1 := yk_fst hg0
        have hg1 := yk_snd hg0
        rw [hf0, hf1, hg1] at hQ
        exact hQ _ _ _ _ dX7_along_31 hP hS
