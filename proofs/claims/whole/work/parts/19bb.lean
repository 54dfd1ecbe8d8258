
theorem kX7_none_0 : Cond.constant RX7 83 (-1000001) ∈ wsX7_none := by decide +kernel
theorem kX7_none_1 : Cond.fieldLink RX7 10 "FlowPlane" "flow" "LFlowPlane$Flow;" ∈ wsX7_none := by decide +kernel
theorem kX7_none_2 : Cond.methodLink RX7 236 Lib.Math.min.name ∈ wsX7_none := by decide +kernel
theorem kX7_none_3 : Cond.static Lib.Math.min.name ∈ wsX7_none := by decide +kernel
theorem kX7_none_4 : Cond.initialized "java/lang/Math" ∈ wsX7_none := by decide +kernel
theorem kX7_none_5 : Cond.code Lib.Math.min.name Lib.Math.min.code 2 (some .int) ∈ wsX7_none := by decide +kernel
theorem kX7_none_6 : Cond.methodLink RX7 241 Lib.Math.max.name ∈ wsX7_none := by decide +kernel
theorem kX7_none_7 : Cond.static Lib.Math.max.name ∈ wsX7_none := by decide +kernel
theorem kX7_none_8 : Cond.code Lib.Math.max.name Lib.Math.max.code 2 (some .int) ∈ wsX7_none := by decide +kernel
theorem uX7_none_X7 : ∀ w ∈ u_ws RX7 TX7 13, w ∈ wsX7_none := by decide +kernel
def f_X7_none (fu : Nat → Int32) (fv : Nat → Int32) (fi : Int32) (pa : Int32) (pb : Int32) (pc_ : Int32) (pd : Int32) : Int32 × Int32 := (if (f_X7_isPlace pa pb) = 0 then (((f_X7_finding fi (-1000001)).1), ((f_X7_finding fi (-1000001)).2)) else (if (f_X7_isPlace pc_ pd) = 0 then (((f_X7_finding fi (-1000001)).1), ((f_X7_finding fi (-1000001)).2)) else (if pc_ ≤ pa then (((f_X7_finding fi (-1000001)).1), ((f_X7_finding fi (-1000001)).2)) else (if pb < pd then (if ((if (if (f_X1_spreadAt fu fv pc_ pd) < (f_X1_spreadAt fu fv pc_ pb) then (f_X1_spreadAt fu fv pc_ pd) else (f_X1_spreadAt fu fv pc_ pb)) < (if (f_X1_spreadAt fu fv pa pd) < (f_X1_spreadAt fu fv pa pb) then (f_X1_spreadAt fu fv pa pd) else (f_X1_spreadAt fu fv pa pb)) then (if (f_X1_spreadAt fu fv pc_ pd) < (f_X1_spreadAt fu fv pc_ pb) then (f_X1_spreadAt fu fv pc_ pd) else (f_X1_spreadAt fu fv pc_ pb)) else (if (f_X1_spreadAt fu fv pa pd) < (f_X1_spreadAt fu fv pa pb) then (f_X1_spreadAt fu fv pa pd) else (f_X1_spreadAt fu fv pa pb))) : Int32) < 0 then ((if 0 < ((if (if (f_X1_spreadAt fu fv pa pb) < (f_X1_spreadAt fu fv pa pd) then (f_X1_spreadAt fu fv pa pd) else (f_X1_spreadAt fu fv pa pb)) < (if (f_X1_spreadAt fu fv pc_ pb) < (f_X1_spreadAt fu fv pc_ pd) then (f_X1_spreadAt fu fv pc_ pd) else (f_X1_spreadAt fu fv pc_ pb)) then (if (f_X1_spreadAt fu fv pc_ pb) < (f_X1_spreadAt fu fv pc_ pd) then (f_X1_spreadAt fu fv pc_ pd) else (f_X1_spreadAt fu fv pc_ pb)) else (if (f_X1_spreadAt fu fv pa pb) < (f_X1_spreadAt fu fv pa pd) then (f_X1_spreadAt fu fv pa pd) else (f_X1_spreadAt fu fv pa pb))) : Int32) then 0 else (if 0 ≤ ((if (if (f_X1_spreadAt fu fv pc_ pd) < (f_X1_spreadAt fu fv pc_ pb) then (f_X1_spreadAt fu fv pc_ pd) else (f_X1_spreadAt fu fv pc_ pb)) < (if (f_X1_spreadAt fu fv pa pd) < (f_X1_spreadAt fu fv pa pb) then (f_X1_spreadAt fu fv pa pd) else (f_X1_spreadAt fu fv pa pb)) then (if (f_X1_spreadAt fu fv pc_ pd) < (f_X1_spreadAt fu fv pc_ pb) then (f_X1_spreadAt fu fv pc_ pd) else (f_X1_spreadAt fu fv pc_ pb)) else (if (f_X1_spreadAt fu fv pa pd) < (f_X1_spreadAt fu fv pa pb) then (f_X1_spreadAt fu fv pa pd) else (f_X1_spreadAt fu fv pa pb))) : Int32) then 0 else (-1))), fi) else (if ((if (if (f_X1_spreadAt fu fv pa pb) < (f_X1_spreadAt fu fv pa pd) then (f_X1_spreadAt fu fv pa pd) else (f_X1_spreadAt fu fv pa pb)) < (if (f_X1_spreadAt fu fv pc_ pb) < (f_X1_spreadAt fu fv pc_ pd) then (f_X1_spreadAt fu fv pc_ pd) else (f_X1_spreadAt fu fv pc_ pb)) then (if (f_X1_spreadAt fu fv pc_ pb) < (f_X1_spreadAt fu fv pc_ pd) then (f_X1_spreadAt fu fv pc_ pd) else (f_X1_spreadAt fu fv pc_ pb)) else (if (f_X1_spreadAt fu fv pa pb) < (f_X1_spreadAt fu fv pa pd) then (f_X1_spreadAt fu fv pa pd) else (f_X1_spreadAt fu fv pa pb))) : Int32) ≤ 0 then ((if 0 < ((if (if (f_X1_spreadAt fu fv pa pb) < (f_X1_spreadAt fu fv pa pd) then (f_X1_spreadAt fu fv pa pd) else (f_X1_spreadAt fu fv pa pb)) < (if (f_X1_spreadAt fu fv pc_ pb) < (f_X1_spreadAt fu fv pc_ pd) then (f_X1_spreadAt fu fv pc_ pd) else (f_X1_spreadAt fu fv pc_ pb)) then (if (f_X1_spreadAt fu fv pc_ pb) < (f_X1_spreadAt fu fv pc_ pd) then (f_X1_spreadAt fu fv pc_ pd) else (f_X1_spreadAt fu fv pc_ pb)) else (if (f_X1_spreadAt fu fv pa pb) < (f_X1_spreadAt fu fv pa pd) then (f_X1_spreadAt fu fv pa pd) else (f_X1_spreadAt fu fv pa pb))) : Int32) then 0 else (if 0 ≤ ((if (if (f_X1_spreadAt fu fv pc_ pd) < (f_X1_spreadAt fu fv pc_ pb) then (f_X1_spreadAt fu fv pc_ pd) else (f_X1_spreadAt fu fv pc_ pb)) < (if (f_X1_spreadAt fu fv pa pd) < (f_X1_spreadAt fu fv pa pb) then (f_X1_spreadAt fu fv pa pd) else (f_X1_spreadAt fu fv pa pb)) then (if (f_X1_spreadAt fu fv pc_ pd) < (f_X1_spreadAt fu fv pc_ pb) then (f_X1_spreadAt fu fv pc_ pd) else (f_X1_spreadAt fu fv pc_ pb)) else (if (f_X1_spreadAt fu fv pa pd) < (f_X1_spreadAt fu fv pa pb) then (f_X1_spreadAt fu fv pa pd) else (f_X1_spreadAt fu fv pa pb))) : Int32) then 0 else (-1))), fi) else (1, fi))) else (((f_X7_finding fi (-1000001)).1), ((f_X7_finding fi (-1000001)).2))))))
set_option maxHeartbeats 400000000 in
set_option maxRecDepth 100000 in
theorem c_X7_none (l : Launch) (D : va_G) (cy : Nat → ClassId) (ta : Nat) (fa : Nat) (fap : Nat) (fapn : Nat) (faq : Nat) (faqn : Nat) (a_draft : Nat) (a_fence : Nat) (a_past : Nat) (a_slots : Nat) (a_slotKinds : Nat) (a_sheets : Nat) (a_speedX : Nat) (a_speedY : Nat) (a_leftward : Nat) (a_change : Nat) (a_table : Nat) (fu : Nat → Int32) (fv : Nat → Int32) (fi : Int32) (pa : Int32) (pb : Int32) (pc_ : Int32) (pd : Int32) : yk_Ci l D vwCl (yk_ty cy) yX7_none wsX7_none 2 44 [.ref ta, .int pa, .int pb, .int pc_, .int pd] [(ta, .inr (7, [.ref fa, .ref a_draft, .ref a_fence, .ref a_past, .ref a_slots, .ref a_slotKinds, .ref a_sheets, .ref a_speedX, .ref a_speedY, .ref a_leftward, .ref a_change, .ref a_table, .int fi])), (fa, .inr (1, [.ref fap, .ref faq])), (fap, .inr (3, [.ref fapn])), (fapn, .inl (cy 0, 6, .inl fu)), (faq, .inr (3, [.ref faqn])), (faqn, .inl (cy 0, 6, .inl fv))] ((f_X7_none fu fv fi pa pb pc_ pd).1) [(ta, .inr (7, [.ref fa, .ref a_draft, .ref a_fence, .ref a_past, .ref a_slots, .ref a_slotKinds, .ref a_sheets, .ref a_speedX, .ref a_speedY, .ref a_leftward, .ref a_change, .ref a_table, .int ((f_X7_none fu fv fi pa pb pc_ pd).2)])), (fa, .inr (1, [.ref fap, .ref faq])), (fap, .inr (3, [.ref fapn])), (fapn, .inl (cy 0, 6, .inl fu)), (faq, .inr (3, [.ref faqn])), (faqn, .inl (cy 0, 6, .inl fv))] := by
  refine yk_eI (cc := cX7_none) (maxL := 11) (by decide) rfl (Nat.le_of_ble_eq_true rfl) rfl ?_
  intro p e R s m args below meth c A Q ls H locs hx hb hml hown hts hRf hRl hA hK hG hP hD hS hl hQ
  have hP : va_P D vwCl [(ta, .inr (7, [.ref fa, .ref a_draft, .ref a_fence, .ref a_past, .ref a_slots, .ref a_slotKinds, .ref a_sheets, .ref a_speedX, .ref a_speedY, .ref a_leftward, .ref a_change, .ref a_table, .int fi])), (fa, .inr (1, [.ref fap, .ref faq])), (fap, .inr (3, [.ref fapn])), (fapn, .inl (cy 0, 6, .inl fu)), (faq, .inr (3, [.ref faqn])), (faqn, .inl (cy 0, 6, .inl fv))] H := hP
  have hl : lv_has ls 11 [(0, .ref ta), (1, .int pa), (2, .int pb), (3, .int pc_), (4, .int pd)] := hl
  have hown : s.vm.findClass RX7 = some m.cls := hown
  have hF : (f_X7_none fu fv fi pa pb pc_ pd) = (f_X7_none fu fv fi pa pb pc_ pd) := rfl
  refine lv_iload_n hx hb dX7_none_0 rfl (lv_at hl 1 rfl) ?_
  refine lv_iload_n hx hb dX7_none_1 rfl (lv_at hl 2 rfl) ?_
  refine yk_i [] (va_runS (As := [.int pa, .int pb]) (rest := []) ⟨hx, hb, hml, hown, hts⟩ (c_X7_isPlace l D cy pa pb H.size) (va_cwS 2 hts gX7_none_X7_isPlace rfl rfl rfl hs_X7_isPlace (yk_room hRf hRl rfl rfl)) (yk_ps hG hA hS hK hP hD [] (by decide +kernel) rfl) rfl rfl hl.1 rfl (lv_room (Nat.le_of_ble_eq_true rfl)) dX7_none_2 ⟨Nat.zero_le _, Nat.zero_le _⟩) hP hD hS hA rfl rfl (fun H locs hP9 hD9 hS9 => ?_)
  replace hP : va_P D vwCl [(ta, .inr (7, [.ref fa, .ref a_draft, .ref a_fence, .ref a_past, .ref a_slots, .ref a_slotKinds, .ref a_sheets, .ref a_speedX, .ref a_speedY, .ref a_leftward, .ref a_change, .ref a_table, .int fi])), (fa, .inr (1, [.ref fap, .ref faq])), (fap, .inr (3, [.ref fapn])), (fapn, .inl (cy 0, 6, .inl fu)), (faq, .inr (3, [.ref faqn])), (faqn, .inl (cy 0, 6, .inl fv))] H := hP9
  replace hD : va_D A [(ta, .inr (7, [.ref fa, .ref a_draft, .ref a_fence, .ref a_past, .ref a_slots, .ref a_slotKinds, .ref a_sheets, .ref a_speedX, .ref a_speedY, .ref a_leftward, .ref a_change, .ref a_table, .int fi])), (fa, .inr (1, [.ref fap, .ref faq])), (fap, .inr (3, [.ref fapn])), (fapn, .inl (cy 0, 6, .inl fu)), (faq, .inr (3, [.ref faqn])), (faqn, .inl (cy 0, 6, .inl fv))] := hD9
  replace hS := hS9
  clear hP9 hD9 hS9
  refine lv_if_eq (tgt := 28) hx hb dX7_none_5 (by decide) (fun hc1 => ?_) (fun hc1 => ?_)
  · replace hF := hF.trans (if_pos hc1)
    refine lv_aload_n hx hb dX7_none_28 rfl (lv_at hl 0 rfl) ?_
    refine lv_ldc (v := (-1000001)) hx hb hown (hts _ kX7_none_0) dX7_none_29 ?_
    refine yk_i [0] (va_runV (As := [.int (-1000001)]) (rest := []) ⟨hx, hb, hml, hown, hts⟩ (c_X7_finding l D cy ta fa a_draft a_fence a_past a_slots a_slotKinds a_sheets a_speedX a_speedY a_leftward a_change a_table fi (-1000001) H.size) (cwV 1 hts gX7_none_X7_finding rfl rfl rfl hv_X7_finding (yk_room hRf hRl rfl rfl)) (yk_pv (q := (RX7, TX7, 13)) hG hA hS hK hP hD [0] (by decide +kernel) rfl rfl rfl) rfl rfl hl.1 rfl (lv_room (Nat.le_of_ble_eq_true rfl)) dX7_none_31 ⟨Nat.zero_le _, Nat.zero_le _⟩) hP hD hS hA rfl (Eq.trans (b := [ta]) rfl rfl) (fun H locs hP9 hD9 hS9 => ?_)
    replace hP : va_P D vwCl [(ta, .inr (7, [.ref fa, .ref a_draft, .ref a_fence, .ref a_past, .ref a_slots, .ref a_slotKinds, .ref a_sheets, .ref a_speedX, .ref a_speedY, .ref a_leftward, .ref a_change, .ref a_table, .int ((f_X7_finding fi (-1000001)).2)])), (fa, .inr (1, [.ref fap, .ref faq])), (fap, .inr (3, [.ref fapn])), (fapn, .inl (cy 0, 6, .inl fu)), (faq, .inr (3, [.ref faqn])), (faqn, .inl (cy 0, 6, .inl fv))] H := hP9
    replace hD : va_D A [(ta, .inr (7, [.ref fa, .ref a_draft, .ref a_fence, .ref a_past, .ref a_slots, .ref a_slotKinds, .ref a_sheets, .ref a_speedX, .ref a_speedY, .ref a_leftward, .ref a_change, .ref a_table, .int ((f_X7_finding fi (-1000001)).2)])), (fa, .inr (1, [.ref fap, .ref faq])), (fap, .inr (3, [.ref fapn])), (fapn, .inl (cy 0, 6, .inl fu)), (faq, .inr (3, [.ref faqn])), (faqn, .inl (cy 0, 6, .inl fv))] := hD9
    replace hS := hS9
    clear hP9 hD9 hS9
    have hF : f_X7_none fu fv fi pa pb pc_ pd = (((f_X7_finding fi (-1000001)).1), ((f_X7_finding fi (-1000001)).2)) := hF
    have hf0 := yk_fst hF
    have hg0 := yk_snd hF
    rw [hf0, hg0] at hQ
    exact hQ _ _ _ _ dX7_none_34 hP hS
  · replace hF := hF.trans (if_neg hc1)
    refine lv_iload_n hx hb dX7_none_8 rfl (lv_at hl 3 rfl) ?_
    refine lv_iload hx hb dX7_none_9 (lv_at hl 4 rfl) ?_
    refine yk_i [] (va_runS (As := [.int pc_, .int pd]) (rest := []) ⟨hx, hb, hml, hown, hts⟩ (c_X7_isPlace l D cy pc_ pd H.size) (va_cwS 2 hts gX7_none_X7_isPlace rfl rfl rfl hs_X7_isPlace (yk_room hRf hRl rfl rfl)) (yk_ps hG hA hS hK hP hD [] (by decide +kernel) rfl) rfl rfl hl.1 rfl (lv_room (Nat.le_of_ble_eq_true rfl)) dX7_none_11 ⟨Nat.zero_le _, Nat.zero_le _⟩) hP hD hS hA rfl rfl (fun H locs hP9 hD9 hS9 => ?_)
    replace hP : va_P D vwCl [(ta, .inr (7, [.ref fa, .ref a_draft, .ref a_fence, .ref a_past, .ref a_slots, .ref a_slotKinds, .ref a_sheets, .ref a_speedX, .ref a_speedY, .ref a_leftward, .ref a_change, .ref a_table, .int fi])), (fa, .inr (1, [.ref fap, .ref faq])), (fap, .inr (3, [.ref fapn])), (fapn, .inl (cy 0, 6, .inl fu)), (faq, .inr (3, [.ref faqn])), (faqn, .inl (cy 0, 6, .inl fv))] H := hP9
    replace hD : va_D A [(ta, .inr (7, [.ref fa, .ref a_draft, .ref a_fence, .ref a_past, .ref a_slots, .ref a_slotKinds, .ref a_sheets, .ref a_speedX, .ref a_speedY, .ref a_leftward, .ref a_change, .ref a_table, .int fi])), (fa, .inr (1, [.ref fap, .ref faq])), (fap, .inr (3, [.ref fapn])), (fapn, .inl (cy 0, 6, .inl fu)), (faq, .inr (3, [.ref faqn])), (faqn, .inl (cy 0, 6, .inl fv))] := hD9
    replace hS := hS9
    clear hP9 hD9 hS9
    refine lv_if_eq (tgt := 28) hx hb dX7_none_14 (by decide) (fun hc2 => ?_) (fun hc2 => ?_)
    · replace hF := hF.trans (if_pos hc2)
      refine lv_aload_n hx hb dX7_none_28 rfl (lv_at hl 0 rfl) ?_
      refine lv_ldc (v := (-1000001)) hx hb hown (hts _ kX7_none_0) dX7_none_29 ?_
      refine yk_i [0] (va_runV (As := [.int (-1000001)]) (rest := []) ⟨hx, hb, hml, hown, hts⟩ (c_X7_finding l D cy ta fa a_draft a_fence a_past a_slots a_slotKinds a_sheets a_speedX a_speedY a_leftward a_change a_table fi (-1000001) H.size) (cwV 1 hts gX7_none_X7_finding rfl rfl rfl hv_X7_finding (yk_room hRf hRl rfl rfl)) (yk_pv (q := (RX7, TX7, 13)) hG hA hS hK hP hD [0] (by decide +kernel) rfl rfl rfl) rfl rfl hl.1 rfl (lv_room (Nat.le_of_ble_eq_true rfl)) dX7_none_31 ⟨Nat.zero_le _, Nat.zero_le _⟩) hP hD hS hA rfl (Eq.trans (b := [ta]) rfl rfl) (fun H locs hP9 hD9 hS9 => ?_)
      replace hP : va_P D vwCl [(ta, .inr (7, [.ref fa, .ref a_draft, .ref a_fence, .ref a_past, .ref a_slots, .ref a_slotKinds, .ref a_sheets, .ref a_speedX, .ref a_speedY, .ref a_leftward, .ref a_change, .ref a_table, .int ((f_X7_finding fi (-1000001)).2)])), (fa, .inr (1, [.ref fap, .ref faq])), (fap, .inr (3, [.ref fapn])), (fapn, .inl (cy 0, 6, .inl fu)), (faq, .inr (3, [.ref faqn])), (faqn, .inl (cy 0, 6, .inl fv))] H := hP9
      replace hD : va_D A [(ta, .inr (7, [.ref fa, .ref a_draft, .ref a_fence, .ref a_past, .ref a_slots, .ref a_slotKinds, .ref a_sheets, .ref a_speedX, .ref a_speedY, .ref a_leftward, .ref a_change, .ref a_table, .int ((f_X7_finding fi (-1000001)).2)])), (fa, .inr (1, [.ref fap, .ref faq])), (fap, .inr (3, [.ref fapn])), (fapn, .inl (cy 0, 6, .inl fu)), (faq, .inr (3, [.ref faqn])), (faqn, .inl (cy 0, 6, .inl fv))] := hD9
      replace hS := hS9
      clear hP9 hD9 hS9
      have hF : f_X7_none fu fv fi pa pb pc_ pd = (((f_X7_finding fi (-1000001)).1), ((f_X7_finding fi (-1000001)).2)) := hF
      have hf0 := yk_fst hF
      have hg0 := yk_snd hF
      rw [hf0, hg0] at hQ
      exact hQ _ _ _ _ dX7_none_34 hP hS
    · replace hF := hF.trans (if_neg hc2)
      refine lv_iload_n hx hb dX7_none_17 rfl (lv_at hl 1 rfl) ?_
      refine lv_iload_n hx hb dX7_none_18 rfl (lv_at hl 3 rfl) ?_
      refine lv_icmp_ge (tgt := 28) hx hb dX7_none_19 (by decide) (fun hc3 => ?_) (fun hc3 => ?_)
      · replace hF := hF.trans (if_pos hc3)
        refine lv_aload_n hx hb dX7_none_28 rfl (lv_at hl 0 rfl) ?_
        refine lv_ldc (v := (-1000001)) hx hb hown (hts _ kX7_none_0) dX7_none_29 ?_
        refine yk_i [0] (va_runV (As := [.int (-1000001)]) (rest := []) ⟨hx, hb, hml, hown, hts⟩ (c_X7_finding l D cy ta fa a_draft a_fence a_past a_slots a_slotKinds a_sheets a_speedX a_speedY a_leftward a_change a_table fi (-1000001) H.size) (cwV 1 hts gX7_none_X7_finding rfl rfl rfl hv_X7_finding (yk_room hRf hRl rfl rfl)) (yk_pv (q := (RX7, TX7, 13)) hG hA hS hK hP hD [0] (by decide +kernel) rfl rfl rfl) rfl rfl hl.1 rfl (lv_room (Nat.le_of_ble_eq_true rfl)) dX7_none_31 ⟨Nat.zero_le _, Nat.zero_le _⟩) hP hD hS hA rfl (Eq.trans (b := [ta]) rfl rfl) (fun H locs hP9 hD9 hS9 => ?_)
        replace hP : va_P D vwCl [(ta, .inr (7, [.ref fa, .ref a_draft, .ref a_fence, .ref a_past, .ref a_slots, .ref a_slotKinds, .ref a_sheets, .ref a_speedX, .ref a_speedY, .ref a_leftward, .ref a_change, .ref a_table, .int ((f_X7_finding fi (-1000001)).2)])), (fa, .inr (1, [.ref fap, .ref faq])), (fap, .inr (3, [.ref fapn])), (fapn, .inl (cy 0, 6, .inl fu)), (faq, .inr (3, [.ref faqn])), (faqn, .inl (cy 0, 6, .inl fv))] H := hP9
        replace hD : va_D A [(ta, .inr (7, [.ref fa, .ref a_draft, .ref a_fence, .ref a_past, .ref a_slots, .ref a_slotKinds, .ref a_sheets, .ref a_speedX, .ref a_speedY, .ref a_leftward, .ref a_change, .ref a_table, .int ((f_X7_finding fi (-1000001)).2)])), (fa, .inr (1, [.ref fap, .ref faq])), (fap, .inr (3, [.ref fapn])), (fapn, .inl (cy 0, 6, .inl fu)), (faq, .inr (3, [.ref faqn])), (faqn, .inl (cy 0, 6, .inl fv))] := hD9
        replace hS := hS9
        clear hP9 hD9 hS9
        have hF : f_X7_none fu fv fi pa pb pc_ pd = (((f_X7_finding fi (-1000001)).1), ((f_X7_finding fi (-1000001)).2)) := hF
        have hf0 := yk_fst hF
        have hg0 := yk_snd hF
        rw [hf0, hg0] at hQ
        exact hQ _ _ _ _ dX7_none_34 hP hS
      · replace hF := hF.trans (if_neg hc3)
        refine lv_iload_n hx hb dX7_none_22 rfl (lv_at hl 2 rfl) ?_
        refine lv_iload hx hb dX7_none_23 (lv_at hl 4 rfl) ?_
        refine lv_icmp_lt (tgt := 35) hx hb dX7_none_25 (by decide) (fun hc4 => ?_) (fun hc4 => ?_)
        · replace hF := hF.trans (if_pos hc4)
          refine lv_aload_n hx hb dX7_none_35 rfl (lv_at hl 0 rfl) ?_
          refine va_get (D := D) (ci := 7) (v := .ref fa) (C := RX7) (T := TX7) (N := 13) hx hb hts uX7_none_X7 hown hK hP 0 rfl rfl 0 (by decide) (hts _ kX7_none_1) (fun _ h9 => h9) rfl dX7_none_36 ?_
          refine lv_iload_n hx hb dX7_none_39 rfl (lv_at hl 1 rfl) ?_
          refine lv_iload_n hx hb dX7_none_40 rfl (lv_at hl 2 rfl) ?_
          refine yk_i [1, 2, 3, 4, 5] (va_runV (As := [.int pa, .int pb]) (rest := []) ⟨hx, hb, hml, hown, hts⟩ (c_X1_spreadAt l D cy fa fap fapn faq faqn fu fv pa pb H.size) (cwV 2 hts gX7_none_X1_spreadAt rfl rfl rfl hv_X1_spreadAt (yk_room hRf hRl rfl rfl)) (yk_pv (q := (RX1, TX1, 2)) hG hA hS hK hP hD [1, 2, 3, 4, 5] (by decide +kernel) rfl rfl rfl) rfl rfl hl.1 rfl (lv_room (Nat.le_of_ble_eq_true rfl)) dX7_none_41 ⟨Nat.zero_le _, Nat.zero_le _⟩) hP hD hS hA rfl (Eq.trans (b := [fa, fap, fapn, faq, faqn]) rfl rfl) (fun H locs hP9 hD9 hS9 => ?_)
          replace hP : va_P D vwCl [(ta, .inr (7, [.ref fa, .ref a_draft, .ref a_fence, .ref a_past, .ref a_slots, .ref a_slotKinds, .ref a_sheets, .ref a_speedX, .ref a_speedY, .ref a_leftward, .ref a_change, .ref a_table, .int fi])), (fa, .inr (1, [.ref fap, .ref faq])), (fap, .inr (3, [.ref fapn])), (fapn, .inl (cy 0, 6, .inl fu)), (faq, .inr (3, [.ref faqn])), (faqn, .inl (cy 0, 6, .inl fv))] H := hP9
          replace hD : va_D A [(ta, .inr (7, [.ref fa, .ref a_draft, .ref a_fence, .ref a_past, .ref a_slots, .ref a_slotKinds, .ref a_sheets, .ref a_speedX, .ref a_speedY, .ref a_leftward, .ref a_change, .ref a_table, .int fi])), (fa, .inr (1, [.ref fap, .ref faq])), (fap, .inr (3, [.ref fapn])), (fapn, .inl (cy 0, 6, .inl fu)), (faq, .inr (3, [.ref faqn])), (faqn, .inl (cy 0, 6, .inl fv))] := hD9
          replace hS := hS9
          clear hP9 hD9 hS9
          refine lv_istore (lv' := [(5, .int (f_X1_spreadAt fu fv pa pb)), (0, .ref ta), (1, .int pa), (2, .int pb), (3, .int pc_), (4, .int pd)]) hx hb dX7_none_44 hl (by decide) rfl (fun ls hl9 => ?_)
          replace hl := hl9
          clear hl9
          refine lv_aload_n hx hb dX7_none_46 rfl (lv_at hl 1 rfl) ?_
          refine va_get (D := D) (ci := 7) (v := .ref fa) (C := RX7) (T := TX7) (N := 13) hx hb hts uX7_none_X7 hown hK hP 0 rfl rfl 0 (by decide) (hts _ kX7_none_1) (fun _ h9 => h9) rfl dX7_none_47 ?_
          refine lv_iload_n hx hb dX7_none_50 rfl (lv_at hl 2 rfl) ?_
          refine lv_iload hx hb dX7_none_51 (lv_at hl 5 rfl) ?_
          refine yk_i [1, 2, 3, 4, 5] (va_runV (As := [.int pa, .int pd]) (rest := []) ⟨hx, hb, hml, hown, hts⟩ (c_X1_spreadAt l D cy fa fap fapn faq faqn fu fv pa pd H.size) (cwV 2 hts gX7_none_X1_spreadAt rfl rfl rfl hv_X1_spreadAt (yk_room hRf hRl rfl rfl)) (yk_pv (q := (RX1, TX1, 2)) hG hA hS hK hP hD [1, 2, 3, 4, 5] (by decide +kernel) rfl rfl rfl) rfl rfl hl.1 rfl (lv_room (Nat.le_of_ble_eq_true rfl)) dX7_none_53 ⟨Nat.zero_le _, Nat.zero_le _⟩) hP hD hS hA rfl (Eq.trans (b := [fa, fap, fapn, faq, faqn]) rfl rfl) (fun H locs hP9 hD9 hS9 => ?_)
          replace hP : va_P D vwCl [(ta, .inr (7, [.ref fa, .ref a_draft, .ref a_fence, .ref a_past, .ref a_slots, .ref a_slotKinds, .ref a_sheets, .ref a_speedX, .ref a_speedY, .ref a_leftward, .ref a_change, .ref a_table, .int fi])), (fa, .inr (1, [.ref fap, .ref faq])), (fap, .inr (3, [.ref fapn])), (fapn, .inl (cy 0, 6, .inl fu)), (faq, .inr (3, [.ref faqn])), (faqn, .inl (cy 0, 6, .inl fv))] H := hP9
          replace hD : va_D A [(ta, .inr (7, [.ref fa, .ref a_draft, .ref a_fence, .ref a_past, .ref a_slots, .ref a_slotKinds, .ref a_sheets, .ref a_speedX, .ref a_speedY, .ref a_leftward, .ref a_change, .ref a_table, .int fi])), (fa, .inr (1, [.ref fap, .ref faq])), (fap, .inr (3, [.ref fapn])), (fapn, .inl (cy 0, 6, .inl fu)), (faq, .inr (3, [.ref faqn])), (faqn, .inl (cy 0, 6, .inl fv))] := hD9
          replace hS := hS9
          clear hP9 hD9 hS9
          refine lv_istore (lv' := [(6, .int (f_X1_spreadAt fu fv pa pd)), (5, .int (f_X1_spreadAt fu fv pa pb)), (0, .ref ta), (1, .int pa), (2, .int pb), (3, .int pc_), (4, .int pd)]) hx hb dX7_none_56 hl (by decide) rfl (fun ls hl9 => ?_)
          replace hl := hl9
          clear hl9
          refine lv_aload_n hx hb dX7_none_58 rfl (lv_at hl 2 rfl) ?_
          refine va_get (D := D) (ci := 7) (v := .ref fa) (C := RX7) (T := TX7) (N := 13) hx hb hts uX7_none_X7 hown hK hP 0 rfl rfl 0 (by decide) (hts _ kX7_none_1) (fun _ h9 => h9) rfl dX7_none_59 ?_
          refine lv_iload_n hx hb dX7_none_62 rfl (lv_at hl 5 rfl) ?_
          refine lv_iload_n hx hb dX7_none_63 rfl (lv_at hl 4 rfl) ?_
          refine yk_i [1, 2, 3, 4, 5] (va_runV (As := [.int pc_, .int pb]) (rest := []) ⟨hx, hb, hml, hown, hts⟩ (c_X1_spreadAt l D cy fa fap fapn faq faqn fu fv pc_ pb H.size) (cwV 2 hts gX7_none_X1_spreadAt rfl rfl rfl hv_X1_spreadAt (yk_room hRf hRl rfl rfl)) (yk_pv (q := (RX1, TX1, 2)) hG hA hS hK hP hD [1, 2, 3, 4, 5] (by decide +kernel) rfl rfl rfl) rfl rfl hl.1 rfl (lv_room (Nat.le_of_ble_eq_true rfl)) dX7_none_64 ⟨Nat.zero_le _, Nat.zero_le _⟩) hP hD hS hA rfl (Eq.trans (b := [fa, fap, fapn, faq, faqn]) rfl rfl) (fun H locs hP9 hD9 hS9 => ?_)
          replace hP : va_P D vwCl [(ta, .inr (7, [.ref fa, .ref a_draft, .ref a_fence, .ref a_past, .ref a_slots, .ref a_slotKinds, .ref a_sheets, .ref a_speedX, .ref a_speedY, .ref a_leftward, .ref a_change, .ref a_table, .int fi])), (fa, .inr (1, [.ref fap, .ref faq])), (fap, .inr (3, [.ref fapn])), (fapn, .inl (cy 0, 6, .inl fu)), (faq, .inr (3, [.ref faqn])), (faqn, .inl (cy 0, 6, .inl fv))] H := hP9
          replace hD : va_D A [(ta, .inr (7, [.ref fa, .ref a_draft, .ref a_fence, .ref a_past, .ref a_slots, .ref a_slotKinds, .ref a_sheets, .ref a_speedX, .ref a_speedY, .ref a_leftward, .ref a_change, .ref a_table, .int fi])), (fa, .inr (1, [.ref fap, .ref faq])), (fap, .inr (3, [.ref fapn])), (fapn, .inl (cy 0, 6, .inl fu)), (faq, .inr (3, [.ref faqn])), (faqn, .inl (cy 0, 6, .inl fv))] := hD9
          replace hS := hS9
          clear hP9 hD9 hS9
          refine lv_istore (lv' := [(7, .int (f_X1_spreadAt fu fv pc_ pb)), (6, .int (f_X1_spreadAt fu fv pa pd)), (5, .int (f_X1_spreadAt fu fv pa pb)), (0, .ref ta), (1, .int pa), (2, .int pb), (3, .int pc_), (4, .int pd)]) hx hb dX7_none_67 hl (by decide) rfl (fun ls hl9 => ?_)
          replace hl := hl9
          clear hl9
          refine lv_aload_n hx hb dX7_none_69 rfl (lv_at hl 3 rfl) ?_
          refine va_get (D := D) (ci := 7) (v := .ref fa) (C := RX7) (T := TX7) (N := 13) hx hb hts uX7_none_X7 hown hK hP 0 rfl rfl 0 (by decide) (hts _ kX7_none_1) (fun _ h9 => h9) rfl dX7_none_70 ?_
          refine lv_iload_n hx hb dX7_none_73 rfl (lv_at hl 6 rfl) ?_
          refine lv_iload hx hb dX7_none_74 (lv_at hl 7 rfl) ?_
          refine yk_i [1, 2, 3, 4, 5] (va_runV (As := [.int pc_, .int pd]) (rest := []) ⟨hx, hb, hml, hown, hts⟩ (c_X1_spreadAt l D cy fa fap fapn faq faqn fu fv pc_ pd H.size) (cwV 2 hts gX7_none_X1_spreadAt rfl rfl rfl hv_X1_spreadAt (yk_room hRf hRl rfl rfl)) (yk_pv (q := (RX1, TX1, 2)) hG hA hS hK hP hD [1, 2, 3, 4, 5] (by decide +kernel) rfl rfl rfl) rfl rfl hl.1 rfl (lv_room (Nat.le_of_ble_eq_true rfl)) dX7_none_76 ⟨Nat.zero_le _, Nat.zero_le _⟩) hP hD hS hA rfl (Eq.trans (b := [fa, fap, fapn, faq, faqn]) rfl rfl) (fun H locs hP9 hD9 hS9 => ?_)
          replace hP : va_P D vwCl [(ta, .inr (7, [.ref fa, .ref a_draft, .ref a_fence, .ref a_past, .ref a_slots, .ref a_slotKinds, .ref a_sheets, .ref a_speedX, .ref a_speedY, .ref a_leftward, .ref a_change, .ref a_table, .int fi])), (fa, .inr (1, [.ref fap, .ref faq])), (fap, .inr (3, [.ref fapn])), (fapn, .inl (cy 0, 6, .inl fu)), (faq, .inr (3, [.ref faqn])), (faqn, .inl (cy 0, 6, .inl fv))] H := hP9
          replace hD : va_D A [(ta, .inr (7, [.ref fa, .ref a_draft, .ref a_fence, .ref a_past, .ref a_slots, .ref a_slotKinds, .ref a_sheets, .ref a_speedX, .ref a_speedY, .ref a_leftward, .ref a_change, .ref a_table, .int fi])), (fa, .inr (1, [.ref fap, .ref faq])), (fap, .inr (3, [.ref fapn])), (fapn, .inl (cy 0, 6, .inl fu)), (faq, .inr (3, [.ref faqn])), (faqn, .inl (cy 0, 6, .inl fv))] := hD9
          replace hS := hS9
          clear hP9 hD9 hS9
          refine lv_istore (lv' := [(8, .int (f_X1_spreadAt fu fv pc_ pd)), (7, .int (f_X1_spreadAt fu fv pc_ pb)), (6, .int (f_X1_spreadAt fu fv pa pd)), (5, .int (f_X1_spreadAt fu fv pa pb)), (0, .ref ta), (1, .int pa), (2, .int pb), (3, .int pc_), (4, .int pd)]) hx hb dX7_none_79 hl (by decide) rfl (fun ls hl9 => ?_)
          replace hl := hl9
          clear hl9
          refine lv_iload hx hb dX7_none_81 (lv_at hl 3 rfl) ?_
          refine lv_iload hx hb dX7_none_83 (lv_at hl 2 rfl) ?_
          refine va_mmin hx hb (hml.trans hl.1.symm) hown (hts _ kX7_none_2) (hts _ kX7_none_3) (hts _ kX7_none_4) (hts _ kX7_none_5) (by rw [hRf]; exact Nat.le_of_ble_eq_true rfl) (by rw [hRl]; exact Nat.le_of_ble_eq_true rfl) (Nat.zero_le _) (Nat.zero_le _) dX7_none_85 ?_
          refine lv_iload hx hb dX7_none_88 (lv_at hl 1 rfl) ?_
          refine lv_iload hx hb dX7_none_90 (lv_at hl 0 rfl) ?_
          refine va_mmin hx hb (hml.trans hl.1.symm) hown (hts _ kX7_none_2) (hts _ kX7_none_3) (hts _ kX7_none_4) (hts _ kX7_none_5) (by rw [hRf]; exact Nat.le_of_ble_eq_true rfl) (by rw [hRl]; exact Nat.le_of_ble_eq_true rfl) (Nat.zero_le _) (Nat.zero_le _) dX7_none_92 ?_
          refine va_mmin hx hb (hml.trans hl.1.symm) hown (hts _ kX7_none_2) (hts _ kX7_none_3) (hts _ kX7_none_4) (hts _ kX7_none_5) (by rw [hRf]; exact Nat.le_of_ble_eq_true rfl) (by rw [hRl]; exact Nat.le_of_ble_eq_true rfl) (Nat.zero_le _) (Nat.zero_le _) dX7_none_95 ?_
          refine lv_istore (lv' := [(9, .int (if (if (f_X1_spreadAt fu fv pc_ pd) < (f_X1_spreadAt fu fv pc_ pb) then (f_X1_spreadAt fu fv pc_ pd) else (f_X1_spreadAt fu fv pc_ pb)) < (if (f_X1_spreadAt fu fv pa pd) < (f_X1_spreadAt fu fv pa pb) then (f_X1_spreadAt fu fv pa pd) else (f_X1_spreadAt fu fv pa pb)) then (if (f_X1_spreadAt fu fv pc_ pd) < (f_X1_spreadAt fu fv pc_ pb) then (f_X1_spreadAt fu fv pc_ pd) else (f_X1_spreadAt fu fv pc_ pb)) else (if (f_X1_spreadAt fu fv pa pd) < (f_X1_spreadAt fu fv pa pb) then (f_X1_spreadAt fu fv pa pd) else (f_X1_spreadAt fu fv pa pb)))), (8, .int (f_X1_spreadAt fu fv pc_ pd)), (7, .int (f_X1_spreadAt fu fv pc_ pb)), (6, .int (f_X1_spreadAt fu fv pa pd)), (5, .int (f_X1_spreadAt fu fv pa pb)), (0, .ref ta), (1, .int pa), (2, .int pb), (3, .int pc_), (4, .int pd)]) hx hb dX7_none_98 hl (by decide) rfl (fun ls hl9 => ?_)
          replace hl := hl9
          clear hl9
          refine lv_iload hx hb dX7_none_100 (lv_at hl 4 rfl) ?_
          refine lv_iload hx hb dX7_none_102 (lv_at hl 3 rfl) ?_
          refine va_mmax hx hb (hml.trans hl.1.symm) hown (hts _ kX7_none_6) (hts _ kX7_none_7) (hts _ kX7_none_4) (hts _ kX7_none_8) (by rw [hRf]; exact Nat.le_of_ble_eq_true rfl) (by rw [hRl]; exact Nat.le_of_ble_eq_true rfl) (Nat.zero_le _) (Nat.zero_le _) dX7_none_104 ?_
          refine lv_iload hx hb dX7_none_107 (lv_at hl 2 rfl) ?_
          refine lv_iload hx hb dX7_none_109 (lv_at hl 1 rfl) ?_
          refine va_mmax hx hb (hml.trans hl.1.symm) hown (hts _ kX7_none_6) (hts _ kX7_none_7) (hts _ kX7_none_4) (hts _ kX7_none_8) (by rw [hRf]; exact Nat.le_of_ble_eq_true rfl) (by rw [hRl]; exact Nat.le_of_ble_eq_true rfl) (Nat.zero_le _) (Nat.zero_le _) dX7_none_111 ?_
          refine va_mmax hx hb (hml.trans hl.1.symm) hown (hts _ kX7_none_6) (hts _ kX7_none_7) (hts _ kX7_none_4) (hts _ kX7_none_8) (by rw [hRf]; exact Nat.le_of_ble_eq_true rfl) (by rw [hRl]; exact Nat.le_of_ble_eq_true rfl) (Nat.zero_le _) (Nat.zero_le _) dX7_none_114 ?_
          refine lv_istore (lv' := [(10, .int (if (if (f_X1_spreadAt fu fv pa pb) < (f_X1_spreadAt fu fv pa pd) then (f_X1_spreadAt fu fv pa pd) else (f_X1_spreadAt fu fv pa pb)) < (if (f_X1_spreadAt fu fv pc_ pb) < (f_X1_spreadAt fu fv pc_ pd) then (f_X1_spreadAt fu fv pc_ pd) else (f_X1_spreadAt fu fv pc_ pb)) then (if (f_X1_spreadAt fu fv pc_ pb) < (f_X1_spreadAt fu fv pc_ pd) then (f_X1_spreadAt fu fv pc_ pd) else (f_X1_spreadAt fu fv pc_ pb)) else (if (f_X1_spreadAt fu fv pa pb) < (f_X1_spreadAt fu fv pa pd) then (f_X1_spreadAt fu fv pa pd) else (f_X1_spreadAt fu fv pa pb)))), (9, .int (if (if (f_X1_spreadAt fu fv pc_ pd) < (f_X1_spreadAt fu fv pc_ pb) then (f_X1_spreadAt fu fv pc_ pd) else (f_X1_spreadAt fu fv pc_ pb)) < (if (f_X1_spreadAt fu fv pa pd) < (f_X1_spreadAt fu fv pa pb) then (f_X1_spreadAt fu fv pa pd) else (f_X1_spreadAt fu fv pa pb)) then (if (f_X1_spreadAt fu fv pc_ pd) < (f_X1_spreadAt fu fv pc_ pb) then (f_X1_spreadAt fu fv pc_ pd) else (f_X1_spreadAt fu fv pc_ pb)) else (if (f_X1_spreadAt fu fv pa pd) < (f_X1_spreadAt fu fv pa pb) then (f_X1_spreadAt fu fv pa pd) else (f_X1_spreadAt fu fv pa pb)))), (8, .int (f_X1_spreadAt fu fv pc_ pd)), (7, .int (f_X1_spreadAt fu fv pc_ pb)), (6, .int (f_X1_spreadAt fu fv pa pd)), (5, .int (f_X1_spreadAt fu fv pa pb)), (0, .ref ta), (1, .int pa), (2, .int pb), (3, .int pc_), (4, .int pd)]) hx hb dX7_none_117 hl (by decide) rfl (fun ls hl9 => ?_)
          replace hl := hl9
          clear hl9
          refine lv_iload hx hb dX7_none_119 (lv_at hl 1 rfl) ?_
          refine lv_if_lt (tgt := 131) hx hb dX7_none_121 (by decide) (fun hc5 => ?_) (fun hc5 => ?_)
          · replace hF := hF.trans (if_pos hc5)
            refine lv_iload hx hb dX7_none_131 (lv_at hl 0 rfl) ?_
            have J9 : ∀ (v8 : Int32) (H : Heap) (locs : List Loc) (ls : Array Slot), v8 = (if 0 < ((if (if (f_X1_spreadAt fu fv pa pb) < (f_X1_spreadAt fu fv pa pd) then (f_X1_spreadAt fu fv pa pd) else (f_X1_spreadAt fu fv pa pb)) < (if (f_X1_spreadAt fu fv pc_ pb) < (f_X1_spreadAt fu fv pc_ pd) then (f_X1_spreadAt fu fv pc_ pd) else (f_X1_spreadAt fu fv pc_ pb)) then (if (f_X1_spreadAt fu fv pc_ pb) < (f_X1_spreadAt fu fv pc_ pd) then (f_X1_spreadAt fu fv pc_ pd) else (f_X1_spreadAt fu fv pc_ pb)) else (if (f_X1_spreadAt fu fv pa pb) < (f_X1_spreadAt fu fv pa pd) then (f_X1_spreadAt fu fv pa pd) else (f_X1_spreadAt fu fv pa pb))) : Int32) then 0 else (if 0 ≤ ((if (if (f_X1_spreadAt fu fv pc_ pd) < (f_X1_spreadAt fu fv pc_ pb) then (f_X1_spreadAt fu fv pc_ pd) else (f_X1_spreadAt fu fv pc_ pb)) < (if (f_X1_spreadAt fu fv pa pd) < (f_X1_spreadAt fu fv pa pb) then (f_X1_spreadAt fu fv pa pd) else (f_X1_spreadAt fu fv pa pb)) then (if (f_X1_spreadAt fu fv pc_ pd) < (f_X1_spreadAt fu fv pc_ pb) then (f_X1_spreadAt fu fv pc_ pd) else (f_X1_spreadAt fu fv pc_ pb)) else (if (f_X1_spreadAt fu fv pa pd) < (f_X1_spreadAt fu fv pa pb) then (f_X1_spreadAt fu fv pa pd) else (f_X1_spreadAt fu fv pa pb))) : Int32) then 0 else (-1))) → va_P D vwCl [(ta, .inr (7, [.ref fa, .ref a_draft, .ref a_fence, .ref a_past, .ref a_slots, .ref a_slotKinds, .ref a_sheets, .ref a_speedX, .ref a_speedY, .ref a_leftward, .ref a_change, .ref a_table, .int fi])), (fa, .inr (1, [.ref fap, .ref faq])), (fap, .inr (3, [.ref fapn])), (fapn, .inl (cy 0, 6, .inl fu)), (faq, .inr (3, [.ref faqn])), (faqn, .inl (cy 0, 6, .inl fv))] H → va_D A [(ta, .inr (7, [.ref fa, .ref a_draft, .ref a_fence, .ref a_past, .ref a_slots, .ref a_slotKinds, .ref a_sheets, .ref a_speedX, .ref a_speedY, .ref a_leftward, .ref a_change, .ref a_table, .int fi])), (fa, .inr (1, [.ref fap, .ref faq])), (fap, .inr (3, [.ref fapn])), (fapn, .inl (cy 0, 6, .inl fu)), (faq, .inr (3, [.ref faqn])), (faqn, .inl (cy 0, 6, .inl fv))] → va_S A s.heap H locs → lv_has ls 11 [(0, .ref ta), (1, .int pa), (2, .int pb), (3, .int pc_), (4, .int pd), (5, .int (f_X1_spreadAt fu fv pa pb)), (6, .int (f_X1_spreadAt fu fv pa pd)), (7, .int (f_X1_spreadAt fu fv pc_ pb)), (8, .int (f_X1_spreadAt fu fv pc_ pd)), (9, .int (if (if (f_X1_spreadAt fu fv pc_ pd) < (f_X1_spreadAt fu fv pc_ pb) then (f_X1_spreadAt fu fv pc_ pd) else (f_X1_spreadAt fu fv pc_ pb)) < (if (f_X1_spreadAt fu fv pa pd) < (f_X1_spreadAt fu fv pa pb) then (f_X1_spreadAt fu fv pa pd) else (f_X1_spreadAt fu fv pa pb)) then (if (f_X1_spreadAt fu fv pc_ pd) < (f_X1_spreadAt fu fv pc_ pb) then (f_X1_spreadAt fu fv pc_ pd) else (f_X1_spreadAt fu fv pc_ pb)) else (if (f_X1_spreadAt fu fv pa pd) < (f_X1_spreadAt fu fv pa pb) then (f_X1_spreadAt fu fv pa pd) else (f_X1_spreadAt fu fv pa pb)))), (10, .int (if (if (f_X1_spreadAt fu fv pa pb) < (f_X1_spreadAt fu fv pa pd) then (f_X1_spreadAt fu fv pa pd) else (f_X1_spreadAt fu fv pa pb)) < (if (f_X1_spreadAt fu fv pc_ pb) < (f_X1_spreadAt fu fv pc_ pd) then (f_X1_spreadAt fu fv pc_ pd) else (f_X1_spreadAt fu fv pc_ pb)) then (if (f_X1_spreadAt fu fv pc_ pb) < (f_X1_spreadAt fu fv pc_ pd) then (f_X1_spreadAt fu fv pc_ pd) else (f_X1_spreadAt fu fv pc_ pb)) else (if (f_X1_spreadAt fu fv pa pb) < (f_X1_spreadAt fu fv pa pd) then (f_X1_spreadAt fu fv pa pd) else (f_X1_spreadAt fu fv pa pb))))] → W p l e R s m args below meth c H locs 0 0 Q (F0 m 146 ls [.int v8]) := by
              clear hP hD hS hl
              intro v8 H locs ls ev8
              rw [ev8]
              clear ev8
              intro hP hD hS hl
              have hF : f_X7_none fu fv fi pa pb pc_ pd = ((if 0 < ((if (if (f_X1_spreadAt fu fv pa pb) < (f_X1_spreadAt fu fv pa pd) then (f_X1_spreadAt fu fv pa pd) else (f_X1_spreadAt fu fv pa pb)) < (if (f_X1_spreadAt fu fv pc_ pb) < (f_X1_spreadAt fu fv pc_ pd) then (f_X1_spreadAt fu fv pc_ pd) else (f_X1_spreadAt fu fv pc_ pb)) then (if (f_X1_spreadAt fu fv pc_ pb) < (f_X1_spreadAt fu fv pc_ pd) then (f_X1_spreadAt fu fv pc_ pd) else (f_X1_spreadAt fu fv pc_ pb)) else (if (f_X1_spreadAt fu fv pa pb) < (f_X1_spreadAt fu fv pa pd) then (f_X1_spreadAt fu fv pa pd) else (f_X1_spreadAt fu fv pa pb))) : Int32) then 0 else (if 0 ≤ ((if (if (f_X1_spreadAt fu fv pc_ pd) < (f_X1_spreadAt fu fv pc_ pb) then (f_X1_spreadAt fu fv pc_ pd) else (f_X1_spreadAt fu fv pc_ pb)) < (if (f_X1_spreadAt fu fv pa pd) < (f_X1_spreadAt fu fv pa pb) then (f_X1_spreadAt fu fv pa pd) else (f_X1_spreadAt fu fv pa pb)) then (if (f_X1_spreadAt fu fv pc_ pd) < (f_X1_spreadAt fu fv pc_ pb) then (f_X1_spreadAt fu fv pc_ pd) else (f_X1_spreadAt fu fv pc_ pb)) else (if (f_X1_spreadAt fu fv pa pd) < (f_X1_spreadAt fu fv pa pb) then (f_X1_spreadAt fu fv pa pd) else (f_X1_spreadAt fu fv pa pb))) : Int32) then 0 else (-1))), fi) := hF
              have hf0 := yk_fst hF
              have hg0 := yk_snd hF
              rw [hf0, hg0] at hQ
              exact hQ _ _ _ _ dX7_none_146 hP hS
            refine lv_if_gt (tgt := 145) hx hb dX7_none_133 (by decide) (fun hc6 => ?_) (fun hc6 => ?_)
            · refine lv_iconst (v := 0) hx hb dX7_none_145 (by decide) ?_
              exact J9 _ _ _ _ ((if_pos hc6).symm) hP hD hS (lv_sub hl [6, 7, 8, 9, 10, 5, 4, 3, 2, 1, 0] rfl)
            · refine lv_iload hx hb dX7_none_136 (lv_at hl 1 rfl) ?_
              refine lv_if_ge (tgt := 145) hx hb dX7_none_138 (by decide) (fun hc7 => ?_) (fun hc7 => ?_)
              · refine lv_iconst (v := 0) hx hb dX7_none_145 (by decide) ?_
                exact J9 _ _ _ _ (((if_neg hc6).trans (if_pos hc7)).symm) hP hD hS (lv_sub hl [6, 7, 8, 9, 10, 5, 4, 3, 2, 1, 0] rfl)
              · refine lv_iconst (v := (-1)) hx hb dX7_none_141 (by decide) ?_
                refine lv_goto (tgt := 146) hx hb dX7_none_142 (by decide) ?_
                exact J9 _ _ _ _ (((if_neg hc6).trans (if_neg hc7)).symm) hP hD hS (lv_sub hl [6, 7, 8, 9, 10, 5, 4, 3, 2, 1, 0] rfl)
          · replace hF := hF.trans (if_neg hc5)
            refine lv_iload hx hb dX7_none_124 (lv_at hl 0 rfl) ?_
            refine lv_if_le (tgt := 131) hx hb dX7_none_126 (by decide) (fun hc10 => ?_) (fun hc10 => ?_)
            · replace hF := hF.trans (if_pos hc10)
              refine lv_iload hx hb dX7_none_131 (lv_at hl 0 rfl) ?_
              have J14 : ∀ (v13 : Int32) (H : Heap) (locs : List Loc) (ls : Array Slot), v13 = (if 0 < ((if (if (f_X1_spreadAt fu fv pa pb) < (f_X1_spreadAt fu fv pa pd) then (f_X1_spreadAt fu fv pa pd) else (f_X1_spreadAt fu fv pa pb)) < (if (f_X1_spreadAt fu fv pc_ pb) < (f_X1_spreadAt fu fv pc_ pd) then (f_X1_spreadAt fu fv pc_ pd) else (f_X1_spreadAt fu fv pc_ pb)) then (if (f_X1_spreadAt fu fv pc_ pb) < (f_X1_spreadAt fu fv pc_ pd) then (f_X1_spreadAt fu fv pc_ pd) else (f_X1_spreadAt fu fv pc_ pb)) else (if (f_X1_spreadAt fu fv pa pb) < (f_X1_spreadAt fu fv pa pd) then (f_X1_spreadAt fu fv pa pd) else (f_X1_spreadAt fu fv pa pb))) : Int32) then 0 else (if 0 ≤ ((if (if (f_X1_spreadAt fu fv pc_ pd) < (f_X1_spreadAt fu fv pc_ pb) then (f_X1_spreadAt fu fv pc_ pd) else (f_X1_spreadAt fu fv pc_ pb)) < (if (f_X1_spreadAt fu fv pa pd) < (f_X1_spreadAt fu fv pa pb) then (f_X1_spreadAt fu fv pa pd) else (f_X1_spreadAt fu fv pa pb)) then (if (f_X1_spreadAt fu fv pc_ pd) < (f_X1_spreadAt fu fv pc_ pb) then (f_X1_spreadAt fu fv pc_ pd) else (f_X1_spreadAt fu fv pc_ pb)) else (if (f_X1_spreadAt fu fv pa pd) < (f_X1_spreadAt fu fv pa pb) then (f_X1_spreadAt fu fv pa pd) else (f_X1_spreadAt fu fv pa pb))) : Int32) then 0 else (-1))) → va_P D vwCl [(ta, .inr (7, [.ref fa, .ref a_draft, .ref a_fence, .ref a_past, .ref a_slots, .ref a_slotKinds, .ref a_sheets, .ref a_speedX, .ref a_speedY, .ref a_leftward, .ref a_change, .ref a_table, .int fi])), (fa, .inr (1, [.ref fap, .ref faq])), (fap, .inr (3, [.ref fapn])), (fapn, .inl (cy 0, 6, .inl fu)), (faq, .inr (3, [.ref faqn])), (faqn, .inl (cy 0, 6, .inl fv))] H → va_D A [(ta, .inr (7, [.ref fa, .ref a_draft, .ref a_fence, .ref a_past, .ref a_slots, .ref a_slotKinds, .ref a_sheets, .ref a_speedX, .ref a_speedY, .ref a_leftward, .ref a_change, .ref a_table, .int fi])), (fa, .inr (1, [.ref fap, .ref faq])), (fap, .inr (3, [.ref fapn])), (fapn, .inl (cy 0, 6, .inl fu)), (faq, .inr (3, [.ref faqn])), (faqn, .inl (cy 0, 6, .inl fv))] → va_S A s.heap H locs → lv_has ls 11 [(0, .ref ta), (1, .int pa), (2, .int pb), (3, .int pc_), (4, .int pd), (5, .int (f_X1_spreadAt fu fv pa pb)), (6, .int (f_X1_spreadAt fu fv pa pd)), (7, .int (f_X1_spreadAt fu fv pc_ pb)), (8, .int (f_X1_spreadAt fu fv pc_ pd)), (9, .int (if (if (f_X1_spreadAt fu fv pc_ pd) < (f_X1_spreadAt fu fv pc_ pb) then (f_X1_spreadAt fu fv pc_ pd) else (f_X1_spreadAt fu fv pc_ pb)) < (if (f_X1_spreadAt fu fv pa pd) < (f_X1_spreadAt fu fv pa pb) then (f_X1_spreadAt fu fv pa pd) else (f_X1_spreadAt fu fv pa pb)) then (if (f_X1_spreadAt fu fv pc_ pd) < (f_X1_spreadAt fu fv pc_ pb) then (f_X1_spreadAt fu fv pc_ pd) else (f_X1_spreadAt fu fv pc_ pb)) else (if (f_X1_spreadAt fu fv pa pd) < (f_X1_spreadAt fu fv pa pb) then (f_X1_spreadAt fu fv pa pd) else (f_X1_spreadAt fu fv pa pb)))), (10, .int (if (if (f_X1_spreadAt fu fv pa pb) < (f_X1_spreadAt fu fv pa pd) then (f_X1_spreadAt fu fv pa pd) else (f_X1_spreadAt fu fv pa pb)) < (if (f_X1_spreadAt fu fv pc_ pb) < (f_X1_spreadAt fu fv pc_ pd) then (f_X1_spreadAt fu fv pc_ pd) else (f_X1_spreadAt fu fv pc_ pb)) then (if (f_X1_spreadAt fu fv pc_ pb) < (f_X1_spreadAt fu fv pc_ pd) then (f_X1_spreadAt fu fv pc_ pd) else (f_X1_spreadAt fu fv pc_ pb)) else (if (f_X1_spreadAt fu fv pa pb) < (f_X1_spreadAt fu fv pa pd) then (f_X1_spreadAt fu fv pa pd) else (f_X1_spreadAt fu fv pa pb))))] → W p l e R s m args below meth c H locs 0 0 Q (F0 m 146 ls [.int v13]) := by
                clear hP hD hS hl
                intro v13 H locs ls ev13
                rw [ev13]
                clear ev13
                intro hP hD hS hl
                have hF : f_X7_none fu fv fi pa pb pc_ pd = ((if 0 < ((if (if (f_X1_spreadAt fu fv pa pb) < (f_X1_spreadAt fu fv pa pd) then (f_X1_spreadAt fu fv pa pd) else (f_X1_spreadAt fu fv pa pb)) < (if (f_X1_spreadAt fu fv pc_ pb) < (f_X1_spreadAt fu fv pc_ pd) then (f_X1_spreadAt fu fv pc_ pd) else (f_X1_spreadAt fu fv pc_ pb)) then (if (f_X1_spreadAt fu fv pc_ pb) < (f_X1_spreadAt fu fv pc_ pd) then (f_X1_spreadAt fu fv pc_ pd) else (f_X1_spreadAt fu fv pc_ pb)) else (if (f_X1_spreadAt fu fv pa pb) < (f_X1_spreadAt fu fv pa pd) then (f_X1_spreadAt fu fv pa pd) else (f_X1_spreadAt fu fv pa pb))) : Int32) then 0 else (if 0 ≤ ((if (if (f_X1_spreadAt fu fv pc_ pd) < (f_X1_spreadAt fu fv pc_ pb) then (f_X1_spreadAt fu fv pc_ pd) else (f_X1_spreadAt fu fv pc_ pb)) < (if (f_X1_spreadAt fu fv pa pd) < (f_X1_spreadAt fu fv pa pb) then (f_X1_spreadAt fu fv pa pd) else (f_X1_spreadAt fu fv pa pb)) then (if (f_X1_spreadAt fu fv pc_ pd) < (f_X1_spreadAt fu fv pc_ pb) then (f_X1_spreadAt fu fv pc_ pd) else (f_X1_spreadAt fu fv pc_ pb)) else (if (f_X1_spreadAt fu fv pa pd) < (f_X1_spreadAt fu fv pa pb) then (f_X1_spreadAt fu fv pa pd) else (f_X1_spreadAt fu fv pa pb))) : Int32) then 0 else (-1))), fi) := hF
                have hf0 := yk_fst hF
                have hg0 := yk_snd hF
                rw [hf0, hg0] at hQ
                exact hQ _ _ _ _ dX7_none_146 hP hS
              refine lv_if_gt (tgt := 145) hx hb dX7_none_133 (by decide) (fun hc11 => ?_) (fun hc11 => ?_)
              · refine lv_iconst (v := 0) hx hb dX7_none_145 (by decide) ?_
                exact J14 _ _ _ _ ((if_pos hc11).symm) hP hD hS (lv_sub hl [6, 7, 8, 9, 10, 5, 4, 3, 2, 1, 0] rfl)
              · refine lv_iload hx hb dX7_none_136 (lv_at hl 1 rfl) ?_
                refine lv_if_ge (tgt := 145) hx hb dX7_none_138 (by decide) (fun hc12 => ?_) (fun hc12 => ?_)
                · refine lv_iconst (v := 0) hx hb dX7_none_145 (by decide) ?_
                  exact J14 _ _ _ _ (((if_neg hc11).trans (if_pos hc12)).symm) hP hD hS (lv_sub hl [6, 7, 8, 9, 10, 5, 4, 3, 2, 1, 0] rfl)
                · refine lv_iconst (v := (-1)) hx hb dX7_none_141 (by decide) ?_
                  refine lv_goto (tgt := 146) hx hb dX7_none_142 (by decide) ?_
                  exact J14 _ _ _ _ (((if_neg hc11).trans (if_neg hc12)).symm) hP hD hS (lv_sub hl [6, 7, 8, 9, 10, 5, 4, 3, 2, 1, 0] rfl)
            · replace hF := hF.trans (if_neg hc10)
              refine lv_iconst (v := 1) hx hb dX7_none_129 (by decide) ?_
              have hF : f_X7_none fu fv fi pa pb pc_ pd = (1, fi) := hF
              have hf0 := yk_fst hF
              have hg0 := yk_snd hF
              rw [hf0, hg0] at hQ
              exact hQ _ _ _ _ dX7_none_130 hP hS
        · replace hF := hF.trans (if_neg hc4)
          refine lv_aload_n hx hb dX7_none_28 rfl (lv_at hl 0 rfl) ?_
          refine lv_ldc (v := (-1000001)) hx hb hown (hts _ kX7_none_0) dX7_none_29 ?_
          refine yk_i [0] (va_runV (As := [.int (-1000001)]) (rest := []) ⟨hx, hb, hml, hown, hts⟩ (c_X7_finding l D cy ta fa a_draft a_fence a_past a_slots a_slotKinds a_sheets a_speedX a_speedY a_leftward a_change a_table fi (-1000001) H.size) (cwV 1 hts gX7_none_X7_finding rfl rfl rfl hv_X7_finding (yk_room hRf hRl rfl rfl)) (yk_pv (q := (RX7, TX7, 13)) hG hA hS hK hP hD [0] (by decide +kernel) rfl rfl rfl) rfl rfl hl.1 rfl (lv_room (Nat.le_of_ble_eq_true rfl)) dX7_none_31 ⟨Nat.zero_le _, Nat.zero_le _⟩) hP hD hS hA rfl (Eq.trans (b := [ta]) rfl rfl) (fun H locs hP9 hD9 hS9 => ?_)
          replace hP : va_P D vwCl [(ta, .inr (7, [.ref fa, .ref a_draft, .ref a_fence, .ref a_past, .ref a_slots, .ref a_slotKinds, .ref a_sheets, .ref a_speedX, .ref a_speedY, .ref a_leftward, .ref a_change, .ref a_table, .int ((f_X7_finding fi (-1000001)).2)])), (fa, .inr (1, [.ref fap, .ref faq])), (fap, .inr (3, [.ref fapn])), (fapn, .inl (cy 0, 6, .inl fu)), (faq, .inr (3, [.ref faqn])), (faqn, .inl (cy 0, 6, .inl fv))] H := hP9
          replace hD : va_D A [(ta, .inr (7, [.ref fa, .ref a_draft, .ref a_fence, .ref a_past, .ref a_slots, .ref a_slotKinds, .ref a_sheets, .ref a_speedX, .ref a_speedY, .ref a_leftward, .ref a_change, .ref a_table, .int ((f_X7_finding fi (-1000001)).2)])), (fa, .inr (1, [.ref fap, .ref faq])), (fap, .inr (3, [.ref fapn])), (fapn, .inl (cy 0, 6, .inl fu)), (faq, .inr (3, [.ref faqn])), (faqn, .inl (cy 0, 6, .inl fv))] := hD9
          replace hS := hS9
          clear hP9 hD9 hS9
          have hF : f_X7_none fu fv fi pa pb pc_ pd = (((f_X7_finding fi (-1000001)).1), ((f_X7_finding fi (-1000001)).2)) := hF
          have hf0 := yk_fst hF
          have hg0 := yk_snd hF
          rw [hf0, hg0] at hQ
          exact hQ _ _ _ _ dX7_none_34 hP hS
