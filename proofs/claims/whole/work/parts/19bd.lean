
theorem kX7_countFilledSlots_0 : Cond.fieldLink RX7 37 "FlowPlane" "slotKinds" "[I" ∈ wsX7_countFilledSlots := by decide +kernel
theorem uX7_countFilledSlots_X7 : ∀ w ∈ u_ws RX7 TX7 13, w ∈ wsX7_countFilledSlots := by decide +kernel
def l_X7_countFilledSlots_4 (sk : Nat → Int32) : Nat → Nat → Int32 → Int32
  | 0, ki, z1_4 => z1_4
  | fu_X7_countFilledSlots_4 + 1, ki, z1_4 => (if 4 ≤ (nI ki) then z1_4 else (l_X7_countFilledSlots_4 sk fu_X7_countFilledSlots_4 (ki + 1) (if (sk ki) = (-1) then z1_4 else (z1_4 + 1))))
def f_X7_countFilledSlots (sk : Nat → Int32) : Int32 := (l_X7_countFilledSlots_4 sk (4 + 1) 0 0)
set_option maxHeartbeats 400000000 in
set_option maxRecDepth 100000 in
theorem c_X7_countFilledSlots (l : Launch) (D : va_G) (cy : Nat → ClassId) (ta : Nat) (ka : Nat) (a_flow : Nat) (a_draft : Nat) (a_fence : Nat) (a_past : Nat) (a_slots : Nat) (a_sheets : Nat) (a_speedX : Nat) (a_speedY : Nat) (a_leftward : Nat) (a_change : Nat) (a_table : Nat) (sk : Nat → Int32) (fi : Int32) : yk_Ci l D vwCl (yk_ty cy) yX7_countFilledSlots wsX7_countFilledSlots 0 0 [.ref ta] [(ta, .inr (7, [.ref a_flow, .ref a_draft, .ref a_fence, .ref a_past, .ref a_slots, .ref ka, .ref a_sheets, .ref a_speedX, .ref a_speedY, .ref a_leftward, .ref a_change, .ref a_table, .int fi])), (ka, .inl (cy 0, 4, .inl sk))] (f_X7_countFilledSlots sk) [(ta, .inr (7, [.ref a_flow, .ref a_draft, .ref a_fence, .ref a_past, .ref a_slots, .ref ka, .ref a_sheets, .ref a_speedX, .ref a_speedY, .ref a_leftward, .ref a_change, .ref a_table, .int fi])), (ka, .inl (cy 0, 4, .inl sk))] := by
  refine yk_eI (cc := cX7_countFilledSlots) (maxL := 3) (by decide) rfl (Nat.le_of_ble_eq_true rfl) rfl ?_
  intro p e R s m args below meth c A Q ls H locs hx hb hml hown hts hRf hRl hA hK hG hP hD hS hl hQ
  have hP : va_P D vwCl [(ta, .inr (7, [.ref a_flow, .ref a_draft, .ref a_fence, .ref a_past, .ref a_slots, .ref ka, .ref a_sheets, .ref a_speedX, .ref a_speedY, .ref a_leftward, .ref a_change, .ref a_table, .int fi])), (ka, .inl (cy 0, 4, .inl sk))] H := hP
  have hl : lv_has ls 3 [(0, .ref ta)] := hl
  have hown : s.vm.findClass RX7 = some m.cls := hown
  have hF : (f_X7_countFilledSlots sk) = (f_X7_countFilledSlots sk) := rfl
  refine lv_iconst (v := 0) hx hb dX7_countFilledSlots_0 (by decide) ?_
  refine lv_istore_n (lv' := [(1, .int 0), (0, .ref ta)]) hx hb dX7_countFilledSlots_1 rfl hl (by decide) rfl (fun ls hl9 => ?_)
  replace hl := hl9
  clear hl9
  refine lv_iconst (v := 0) hx hb dX7_countFilledSlots_2 (by decide) ?_
  refine lv_istore_n (lv' := [(2, .int 0), (1, .int 0), (0, .ref ta)]) hx hb dX7_countFilledSlots_3 rfl hl (by decide) rfl (fun ls hl9 => ?_)
  replace hl := hl9
  clear hl9
  have J5 : ∀ (H : Heap) (locs : List Loc) (ls : Array Slot), va_P D vwCl [(ta, .inr (7, [.ref a_flow, .ref a_draft, .ref a_fence, .ref a_past, .ref a_slots, .ref ka, .ref a_sheets, .ref a_speedX, .ref a_speedY, .ref a_leftward, .ref a_change, .ref a_table, .int fi])), (ka, .inl (cy 0, 4, .inl sk))] H → va_D A [(ta, .inr (7, [.ref a_flow, .ref a_draft, .ref a_fence, .ref a_past, .ref a_slots, .ref ka, .ref a_sheets, .ref a_speedX, .ref a_speedY, .ref a_leftward, .ref a_change, .ref a_table, .int fi])), (ka, .inl (cy 0, 4, .inl sk))] → va_S A s.heap H locs → lv_has ls 3 [(0, .ref ta), (1, .int (l_X7_countFilledSlots_4 sk (4 + 1) 0 0))] → W p l e R s m args below meth c H locs 0 0 Q (F0 m 28 ls []) := by
    clear hP hD hS hl
    intro H locs ls hP hD hS hl
    refine lv_iload_n hx hb dX7_countFilledSlots_28 rfl (lv_at hl 1 rfl) ?_
    have hF : f_X7_countFilledSlots sk = (l_X7_countFilledSlots_4 sk (4 + 1) 0 0) := hF
    rw [hF] at hQ
    exact hQ _ _ _ _ dX7_countFilledSlots_29 hP hS
  have L4 : ∀ (M9 n4 ki : Nat) (z1_4 : Int32) (H : Heap) (locs : List Loc) (ls : Array Slot), n4 < M9 → ki + n4 = 4 → (l_X7_countFilledSlots_4 sk (4 + 1) 0 0) = (l_X7_countFilledSlots_4 sk (n4 + 1) ki z1_4) → va_P D vwCl [(ta, .inr (7, [.ref a_flow, .ref a_draft, .ref a_fence, .ref a_past, .ref a_slots, .ref ka, .ref a_sheets, .ref a_speedX, .ref a_speedY, .ref a_leftward, .ref a_change, .ref a_table, .int fi])), (ka, .inl (cy 0, 4, .inl sk))] H → va_D A [(ta, .inr (7, [.ref a_flow, .ref a_draft, .ref a_fence, .ref a_past, .ref a_slots, .ref ka, .ref a_sheets, .ref a_speedX, .ref a_speedY, .ref a_leftward, .ref a_change, .ref a_table, .int fi])), (ka, .inl (cy 0, 4, .inl sk))] → va_S A s.heap H locs → lv_has ls 3 [(0, .ref ta), (1, .int z1_4), (2, .int (nI ki))] → W p l e R s m args below meth c H locs 0 0 Q (F0 m 4 ls []) := by
    clear hP hD hS hl
    intro M9
    induction M9 with
    | zero => intro n4 ki _ _ _ _ hn; exact absurd hn (Nat.not_lt_zero _)
    | succ M9 ih4 =>
      intro n4 ki z1_4 H locs ls hn4 hk4 hV4 hP hD hS hl
      refine lv_iload_n hx hb dX7_countFilledSlots_4 rfl (lv_at hl 2 rfl) ?_
      refine lv_iconst (v := 4) hx hb dX7_countFilledSlots_5 (by decide) ?_
      refine lv_icmp_ge (tgt := 28) hx hb dX7_countFilledSlots_6 (by decide) (fun hc1 => ?_) (fun hc1 => ?_)
      · replace hV4 := hV4.trans (if_pos hc1)
        have hV4 : (l_X7_countFilledSlots_4 sk (4 + 1) 0 0) = z1_4 := hV4
        have J5 := J5
        rw [hV4] at J5
        exact J5 _ _ _ hP hD hS (lv_sub hl [0, 1] rfl)
      · replace hV4 := hV4.trans (if_neg hc1)
        have hlt4 : ki < 4 := yk_lt hk4 (by omega) hc1
        refine lv_aload_n hx hb dX7_countFilledSlots_9 rfl (lv_at hl 0 rfl) ?_
        refine va_get (D := D) (ci := 7) (v := .ref ka) (C := RX7) (T := TX7) (N := 13) hx hb hts uX7_countFilledSlots_X7 hown hK hP 0 rfl rfl 5 (by decide) (hts _ kX7_countFilledSlots_0) (fun _ h9 => h9) rfl dX7_countFilledSlots_10 ?_
        refine lv_iload_n hx hb dX7_countFilledSlots_13 rfl (lv_at hl 2 rfl) ?_
        refine yk_ild hx hb hK hP 1 0 rfl rfl ki (by omega) (by decide) dX7_countFilledSlots_14 ?_
        refine lv_iconst (v := (-1)) hx hb dX7_countFilledSlots_15 (by decide) ?_
        have J4 : ∀ (v3 : Int32) (H : Heap) (locs : List Loc) (ls : Array Slot), v3 = (if (sk ki) = (-1) then z1_4 else (z1_4 + 1)) → va_P D vwCl [(ta, .inr (7, [.ref a_flow, .ref a_draft, .ref a_fence, .ref a_past, .ref a_slots, .ref ka, .ref a_sheets, .ref a_speedX, .ref a_speedY, .ref a_leftward, .ref a_change, .ref a_table, .int fi])), (ka, .inl (cy 0, 4, .inl sk))] H → va_D A [(ta, .inr (7, [.ref a_flow, .ref a_draft, .ref a_fence, .ref a_past, .ref a_slots, .ref ka, .ref a_sheets, .ref a_speedX, .ref a_speedY, .ref a_leftward, .ref a_change, .ref a_table, .int fi])), (ka, .inl (cy 0, 4, .inl sk))] → va_S A s.heap H locs → lv_has ls 3 [(0, .ref ta), (1, .int v3), (2, .int (nI ki))] → W p l e R s m args below meth c H locs 0 0 Q (F0 m 22 ls []) := by
          clear hP hD hS hl
          intro v3 H locs ls ev3
          rw [ev3]
          clear ev3
          intro hP hD hS hl
          refine lv_iinc (v := nI (ki + 1)) (lv' := [(2, .int (nI (ki + 1))), (0, .ref ta), (1, .int (if (sk ki) = (-1) then z1_4 else (z1_4 + 1)))]) hx hb dX7_countFilledSlots_22 hl (k := 2) rfl (yk_inc ki) (by decide) rfl (fun ls hl9 => ?_)
          replace hl := hl9
          clear hl9
          refine lv_goto (tgt := 4) hx hb dX7_countFilledSlots_25 (by decide) ?_
          obtain ⟨n9, rfl⟩ : ∃ n9, n4 = n9 + 1 := ⟨n4 - 1, by omega⟩
          exact ih4 n9 (ki + 1) (if (sk ki) = (-1) then z1_4 else (z1_4 + 1)) _ _ _ (by omega) (by omega)  hV4 hP hD hS (lv_sub hl [1, 2, 0] rfl)
        refine lv_icmp_eq (tgt := 22) hx hb dX7_countFilledSlots_16 (by decide) (fun hc2 => ?_) (fun hc2 => ?_)
        · exact J4 _ _ _ _ ((if_pos hc2).symm) hP hD hS (lv_sub hl [0, 1, 2] rfl)
        · refine lv_iinc (v := (z1_4 + 1)) (lv' := [(1, .int (z1_4 + 1)), (0, .ref ta), (2, .int (nI ki))]) hx hb dX7_countFilledSlots_19 hl (k := 1) rfl (yk_incg _) (by decide) rfl (fun ls hl9 => ?_)
          replace hl := hl9
          clear hl9
          exact J4 _ _ _ _ ((if_neg hc2).symm) hP hD hS (lv_sub hl [1, 0, 2] rfl)
  exact L4 (4 + 1) 4 0 0 _ _ _ (Nat.lt_succ_self _) (by omega)  rfl hP hD hS (lv_sub hl [2, 1, 0] rfl)

theorem kX7_isUnder_0 : Cond.fieldLink RX7 332 "FlowPlane" "ABOVE" "[I" ∈ wsX7_isUnder := by decide +kernel
def l_X7_isUnder_4 (px : Int32) (py : Int32) : Nat → Nat → Int32 → Int32
  | 0, ki, z2_4 => 0
  | fu_X7_isUnder_4 + 1, ki, z2_4 => (if 4 ≤ (nI ki) then 0 else (if z2_4 < 0 then 0 else (if 4 ≤ z2_4 then 0 else (if z2_4 = py then 1 else (l_X7_isUnder_4 px py fu_X7_isUnder_4 (ki + 1) (yk_AB z2_4.toNatClampNeg))))))
def f_X7_isUnder (px : Int32) (py : Int32) : Int32 := (l_X7_isUnder_4 px py (4 + 1) 0 px)
theorem bl_X7_isUnder_4 (px : Int32) (py : Int32) : ∀ (fz : Nat) (q0 : Nat) (q1 : Int32), (l_X7_isUnder_4 px py fz q0 q1) = 0 ∨ (l_X7_isUnder_4 px py fz q0 q1) = 1
  | 0, _, _ => Or.inl rfl
  | fz + 1, _, _ => by
    unfold l_X7_isUnder_4
    (repeat' split) <;> first | exact Or.inl (by with_reducible rfl) | exact Or.inr (by with_reducible rfl) | exact bl_X7_isUnder_4 _ _ fz _ _
theorem b_X7_isUnder (px : Int32) (py : Int32) : (f_X7_isUnder px py) = 0 ∨ (f_X7_isUnder px py) = 1 := by
  unfold f_X7_isUnder; (repeat' split) <;> first | exact Or.inl (by with_reducible rfl) | exact Or.inr (by with_reducible rfl) | with_reducible exact bl_X7_isUnder_4 _ _ _ _ _
set_option maxHeartbeats 400000000 in
set_option maxRecDepth 100000 in
theorem c_X7_isUnder (l : Launch) (D : va_G) (cy : Nat → ClassId) (px : Int32) (py : Int32) : yk_Ci l D vwCl (yk_ty cy) yX7_isUnder wsX7_isUnder 0 0 [.int px, .int py] [] (f_X7_isUnder px py) [] := by
  refine yk_eI (cc := cX7_isUnder) (maxL := 4) (by decide) rfl (Nat.le_of_ble_eq_true rfl) (yk_nb (b_X7_isUnder px py)) ?_
  intro p e R s m args below meth c A Q ls H locs hx hb hml hown hts hRf hRl hA hK hG hP hD hS hl hQ
  have hP : va_P D vwCl [] H := hP
  have hl : lv_has ls 4 [(0, .int px), (1, .int py)] := hl
  have hown : s.vm.findClass RX7 = some m.cls := hown
  obtain ⟨⟨tq1, hZ1, hT1⟩, ⟨tq2, hZ2, hT2⟩, ⟨tq3, hZ3, hT3⟩, hNw⟩ := id hG
  have hF : (f_X7_isUnder px py) = (f_X7_isUnder px py) := rfl
  refine lv_iload_n hx hb dX7_isUnder_0 rfl (lv_at hl 0 rfl) ?_
  refine lv_istore_n (lv' := [(2, .int px), (0, .int px), (1, .int py)]) hx hb dX7_isUnder_1 rfl hl (by decide) rfl (fun ls hl9 => ?_)
  replace hl := hl9
  clear hl9
  refine lv_iconst (v := 0) hx hb dX7_isUnder_2 (by decide) ?_
  refine lv_istore_n (lv' := [(3, .int 0), (2, .int px), (0, .int px), (1, .int py)]) hx hb dX7_isUnder_3 rfl hl (by decide) rfl (fun ls hl9 => ?_)
  replace hl := hl9
  clear hl9
  have L4 : ∀ (M9 n4 ki : Nat) (z2_4 : Int32) (H : Heap) (locs : List Loc) (ls : Array Slot), n4 < M9 → ki + n4 = 4 → f_X7_isUnder px py = (l_X7_isUnder_4 px py (n4 + 1) ki z2_4) → va_P D vwCl [] H → va_D A [] → va_S A s.heap H locs → lv_has ls 4 [(0, .int px), (1, .int py), (2, .int z2_4), (3, .int (nI ki))] → W p l e R s m args below meth c H locs 0 0 Q (F0 m 4 ls []) := by
    clear hP hD hS hl hF
    intro M9
    induction M9 with
    | zero => intro n4 ki _ _ _ _ hn; exact absurd hn (Nat.not_lt_zero _)
    | succ M9 ih4 =>
      intro n4 ki z2_4 H locs ls hn4 hk4 hF hP hD hS hl
      refine lv_iload_n hx hb dX7_isUnder_4 rfl (lv_at hl 3 rfl) ?_
      refine va_gets hx hb hZ3 hS hown (hts _ kX7_isUnder_0) (fun _ h9 => h9) dX7_isUnder_5 ?_
      refine va_tlen (v := 4) hx hb hT3 hS rfl dX7_isUnder_8 ?_
      refine lv_icmp_ge (tgt := 43) hx hb dX7_isUnder_9 (by decide) (fun hc1 => ?_) (fun hc1 => ?_)
      · replace hF := hF.trans (if_pos hc1)
        refine lv_iconst (v := 0) hx hb dX7_isUnder_43 (by decide) ?_
        have hF : f_X7_isUnder px py = 0 := hF
        rw [hF] at hQ
        exact hQ _ _ _ _ dX7_isUnder_44 hP hS
      · replace hF := hF.trans (if_neg hc1)
        have hlt4 : ki < 4 := yk_lt hk4 (by omega) hc1
        refine lv_iload_n hx hb dX7_isUnder_12 rfl (lv_at hl 2 rfl) ?_
        refine lv_if_lt (tgt := 43) hx hb dX7_isUnder_13 (by decide) (fun hc2 => ?_) (fun hc2 => ?_)
        · replace hF := hF.trans (if_pos hc2)
          refine lv_iconst (v := 0) hx hb dX7_isUnder_43 (by decide) ?_
          have hF : f_X7_isUnder px py = 0 := hF
          rw [hF] at hQ
          exact hQ _ _ _ _ dX7_isUnder_44 hP hS
        · replace hF := hF.trans (if_neg hc2)
          refine lv_iload_n hx hb dX7_isUnder_16 rfl (lv_at hl 2 rfl) ?_
          refine va_gets hx hb hZ3 hS hown (hts _ kX7_isUnder_0) (fun _ h9 => h9) dX7_isUnder_17 ?_
          refine va_tlen (v := 4) hx hb hT3 hS rfl dX7_isUnder_20 ?_
          refine lv_icmp_ge (tgt := 43) hx hb dX7_isUnder_21 (by decide) (fun hc3 => ?_) (fun hc3 => ?_)
          · replace hF := hF.trans (if_pos hc3)
            refine lv_iconst (v := 0) hx hb dX7_isUnder_43 (by decide) ?_
            have hF : f_X7_isUnder px py = 0 := hF
            rw [hF] at hQ
            exact hQ _ _ _ _ dX7_isUnder_44 hP hS
          · replace hF := hF.trans (if_neg hc3)
            refine lv_iload_n hx hb dX7_isUnder_24 rfl (lv_at hl 2 rfl) ?_
            refine lv_iload_n hx hb dX7_isUnder_25 rfl (lv_at hl 1 rfl) ?_
            refine lv_icmp_ne (tgt := 31) hx hb dX7_isUnder_26 (by decide) (fun hc4 => ?_) (fun hc4 => ?_)
            · replace hF := hF.trans (if_neg hc4)
              have hq5 : z2_4 = nI z2_4.toNatClampNeg := (yk_ix (N := 4) (by decide) (by assumption) (by assumption)).1
              have hq5b : z2_4.toNatClampNeg < 4 := (yk_ix (N := 4) (by decide) (by assumption) (by assumption)).2
              rw [hq5] at hl
              refine va_gets hx hb hZ3 hS hown (hts _ kX7_isUnder_0) (fun _ h9 => h9) dX7_isUnder_31 ?_
              refine lv_iload_n hx hb dX7_isUnder_34 rfl (lv_at hl 2 rfl) ?_
              refine yk_tld hx hb hT3 hS z2_4.toNatClampNeg (by omega) (by decide) (yk_ab _) dX7_isUnder_35 ?_
              refine lv_istore_n (lv' := [(2, .int (yk_AB z2_4.toNatClampNeg)), (0, .int px), (1, .int py), (3, .int (nI ki))]) hx hb dX7_isUnder_36 rfl hl (by decide) rfl (fun ls hl9 => ?_)
              replace hl := hl9
              clear hl9
              refine lv_iinc (v := nI (ki + 1)) (lv' := [(3, .int (nI (ki + 1))), (2, .int (yk_AB z2_4.toNatClampNeg)), (0, .int px), (1, .int py)]) hx hb dX7_isUnder_37 hl (k := 3) rfl (yk_inc ki) (by decide) rfl (fun ls hl9 => ?_)
              replace hl := hl9
              clear hl9
              refine lv_goto (tgt := 4) hx hb dX7_isUnder_40 (by decide) ?_
              obtain ⟨n9, rfl⟩ : ∃ n9, n4 = n9 + 1 := ⟨n4 - 1, by omega⟩
              exact ih4 n9 (ki + 1) (yk_AB z2_4.toNatClampNeg) _ _ _ (by omega) (by omega)  hF hP hD hS (lv_sub hl [2, 3, 1, 0] rfl)
            · replace hF := hF.trans (if_pos hc4)
              refine lv_iconst (v := 1) hx hb dX7_isUnder_29 (by decide) ?_
              have hF : f_X7_isUnder px py = 1 := hF
              rw [hF] at hQ
              exact hQ _ _ _ _ dX7_isUnder_30 hP hS
  exact L4 (4 + 1) 4 0 px _ _ _ (Nat.lt_succ_self _) (by omega)  hF hP hD hS (lv_sub hl [2, 3, 1, 0] rfl)
