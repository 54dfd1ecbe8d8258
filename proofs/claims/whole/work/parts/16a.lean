theorem hv_X8_in : yX8_in.cls = RX8 ∧ yX8_in.cls ≠ "java/lang/invoke/MethodHandle" ∧ yX8_in.cls ≠ "java/lang/invoke/VarHandle" ∧ (parseMethodDescriptor yX8_in.desc).map (fun d => d.parameters.length) = some 3 := by decide +kernel
theorem hs_X8_in : yX8_in.cls ≠ "java/lang/invoke/MethodHandle" ∧ yX8_in.cls ≠ "java/lang/invoke/VarHandle" ∧ (parseMethodDescriptor yX8_in.desc).map (fun d => d.parameters.length) = some 3 := by decide +kernel
theorem hv_X8_found : yX8_found.cls = RX8 ∧ yX8_found.cls ≠ "java/lang/invoke/MethodHandle" ∧ yX8_found.cls ≠ "java/lang/invoke/VarHandle" ∧ (parseMethodDescriptor yX8_found.desc).map (fun d => d.parameters.length) = some 1 := by decide +kernel
theorem hs_X8_found : yX8_found.cls ≠ "java/lang/invoke/MethodHandle" ∧ yX8_found.cls ≠ "java/lang/invoke/VarHandle" ∧ (parseMethodDescriptor yX8_found.desc).map (fun d => d.parameters.length) = some 1 := by decide +kernel
theorem hv_X8_remember : yX8_remember.cls = RX8 ∧ yX8_remember.cls ≠ "java/lang/invoke/MethodHandle" ∧ yX8_remember.cls ≠ "java/lang/invoke/VarHandle" ∧ (parseMethodDescriptor yX8_remember.desc).map (fun d => d.parameters.length) = some 0 := by decide +kernel
theorem hs_X8_remember : yX8_remember.cls ≠ "java/lang/invoke/MethodHandle" ∧ yX8_remember.cls ≠ "java/lang/invoke/VarHandle" ∧ (parseMethodDescriptor yX8_remember.desc).map (fun d => d.parameters.length) = some 0 := by decide +kernel
theorem hv_X8_get : yX8_get.cls = RX8 ∧ yX8_get.cls ≠ "java/lang/invoke/MethodHandle" ∧ yX8_get.cls ≠ "java/lang/invoke/VarHandle" ∧ (parseMethodDescriptor yX8_get.desc).map (fun d => d.parameters.length) = some 2 := by decide +kernel
theorem hs_X8_get : yX8_get.cls ≠ "java/lang/invoke/MethodHandle" ∧ yX8_get.cls ≠ "java/lang/invoke/VarHandle" ∧ (parseMethodDescriptor yX8_get.desc).map (fun d => d.parameters.length) = some 2 := by decide +kernel
theorem hv_X8_isPlace : yX8_isPlace.cls = RX8 ∧ yX8_isPlace.cls ≠ "java/lang/invoke/MethodHandle" ∧ yX8_isPlace.cls ≠ "java/lang/invoke/VarHandle" ∧ (parseMethodDescriptor yX8_isPlace.desc).map (fun d => d.parameters.length) = some 2 := by decide +kernel
theorem hs_X8_isPlace : yX8_isPlace.cls ≠ "java/lang/invoke/MethodHandle" ∧ yX8_isPlace.cls ≠ "java/lang/invoke/VarHandle" ∧ (parseMethodDescriptor yX8_isPlace.desc).map (fun d => d.parameters.length) = some 2 := by decide +kernel
theorem hv_X8_speedAt : yX8_speedAt.cls = RX8 ∧ yX8_speedAt.cls ≠ "java/lang/invoke/MethodHandle" ∧ yX8_speedAt.cls ≠ "java/lang/invoke/VarHandle" ∧ (parseMethodDescriptor yX8_speedAt.desc).map (fun d => d.parameters.length) = some 3 := by decide +kernel
theorem hs_X8_speedAt : yX8_speedAt.cls ≠ "java/lang/invoke/MethodHandle" ∧ yX8_speedAt.cls ≠ "java/lang/invoke/VarHandle" ∧ (parseMethodDescriptor yX8_speedAt.desc).map (fun d => d.parameters.length) = some 3 := by decide +kernel
theorem hv_X8_slopeAt : yX8_slopeAt.cls = RX8 ∧ yX8_slopeAt.cls ≠ "java/lang/invoke/MethodHandle" ∧ yX8_slopeAt.cls ≠ "java/lang/invoke/VarHandle" ∧ (parseMethodDescriptor yX8_slopeAt.desc).map (fun d => d.parameters.length) = some 4 := by decide +kernel
theorem hs_X8_slopeAt : yX8_slopeAt.cls ≠ "java/lang/invoke/MethodHandle" ∧ yX8_slopeAt.cls ≠ "java/lang/invoke/VarHandle" ∧ (parseMethodDescriptor yX8_slopeAt.desc).map (fun d => d.parameters.length) = some 4 := by decide +kernel
theorem hv_X8_take : yX8_take.cls = RX8 ∧ yX8_take.cls ≠ "java/lang/invoke/MethodHandle" ∧ yX8_take.cls ≠ "java/lang/invoke/VarHandle" ∧ (parseMethodDescriptor yX8_take.desc).map (fun d => d.parameters.length) = some 0 := by decide +kernel
theorem hs_X8_take : yX8_take.cls ≠ "java/lang/invoke/MethodHandle" ∧ yX8_take.cls ≠ "java/lang/invoke/VarHandle" ∧ (parseMethodDescriptor yX8_take.desc).map (fun d => d.parameters.length) = some 0 := by decide +kernel
theorem hv_X8_isSmall : yX8_isSmall.cls = RX8 ∧ yX8_isSmall.cls ≠ "java/lang/invoke/MethodHandle" ∧ yX8_isSmall.cls ≠ "java/lang/invoke/VarHandle" ∧ (parseMethodDescriptor yX8_isSmall.desc).map (fun d => d.parameters.length) = some 0 := by decide +kernel
theorem hs_X8_isSmall : yX8_isSmall.cls ≠ "java/lang/invoke/MethodHandle" ∧ yX8_isSmall.cls ≠ "java/lang/invoke/VarHandle" ∧ (parseMethodDescriptor yX8_isSmall.desc).map (fun d => d.parameters.length) = some 0 := by decide +kernel
theorem hv_X8_isRest : yX8_isRest.cls = RX8 ∧ yX8_isRest.cls ≠ "java/lang/invoke/MethodHandle" ∧ yX8_isRest.cls ≠ "java/lang/invoke/VarHandle" ∧ (parseMethodDescriptor yX8_isRest.desc).map (fun d => d.parameters.length) = some 2 := by decide +kernel
theorem hs_X8_isRest : yX8_isRest.cls ≠ "java/lang/invoke/MethodHandle" ∧ yX8_isRest.cls ≠ "java/lang/invoke/VarHandle" ∧ (parseMethodDescriptor yX8_isRest.desc).map (fun d => d.parameters.length) = some 2 := by decide +kernel
theorem hv_X8_sortAt : yX8_sortAt.cls = RX8 ∧ yX8_sortAt.cls ≠ "java/lang/invoke/MethodHandle" ∧ yX8_sortAt.cls ≠ "java/lang/invoke/VarHandle" ∧ (parseMethodDescriptor yX8_sortAt.desc).map (fun d => d.parameters.length) = some 2 := by decide +kernel
theorem hs_X8_sortAt : yX8_sortAt.cls ≠ "java/lang/invoke/MethodHandle" ∧ yX8_sortAt.cls ≠ "java/lang/invoke/VarHandle" ∧ (parseMethodDescriptor yX8_sortAt.desc).map (fun d => d.parameters.length) = some 2 := by decide +kernel
theorem hv_X8_corners : yX8_corners.cls = RX8 ∧ yX8_corners.cls ≠ "java/lang/invoke/MethodHandle" ∧ yX8_corners.cls ≠ "java/lang/invoke/VarHandle" ∧ (parseMethodDescriptor yX8_corners.desc).map (fun d => d.parameters.length) = some 0 := by decide +kernel
theorem hs_X8_corners : yX8_corners.cls ≠ "java/lang/invoke/MethodHandle" ∧ yX8_corners.cls ≠ "java/lang/invoke/VarHandle" ∧ (parseMethodDescriptor yX8_corners.desc).map (fun d => d.parameters.length) = some 0 := by decide +kernel
def f_X8_in (x : Int32) (lo : Int32) (hi : Int32) : Int32 := (if x < lo then 0 else (if hi < x then 0 else 1))
theorem b_X8_in (x : Int32) (lo : Int32) (hi : Int32) : (f_X8_in x lo hi) = 0 ∨ (f_X8_in x lo hi) = 1 := by
  unfold f_X8_in; (repeat' split) <;> first | exact Or.inl (by with_reducible rfl) | exact Or.inr (by with_reducible rfl)
set_option maxHeartbeats 400000000 in
set_option maxRecDepth 100000 in
theorem c_X8_in (l : Launch) (D : va_G) (cy : Nat → ClassId) (x : Int32) (lo : Int32) (hi : Int32) : yk_Ci l D vwCl (yk_ty cy) yX8_in wsX8_in 0 0 [.int x, .int lo, .int hi] [] (f_X8_in x lo hi) [] := by
  refine yk_eI (cc := cX8_in) (maxL := 3) (by decide) rfl (Nat.le_of_ble_eq_true rfl) (yk_nb (b_X8_in x lo hi)) ?_
  intro p e R s m args below meth c A Q ls H locs hx hb hml hown hts hRf hRl hA hK hG hP hD hS hl hQ
  have hP : va_P D vwCl [] H := hP
  have hl : lv_has ls 3 [(0, .int x), (1, .int lo), (2, .int hi)] := hl
  have hown : s.vm.findClass RX8 = some m.cls := hown
  have hF : (f_X8_in x lo hi) = (f_X8_in x lo hi) := rfl
  refine lv_iload_n hx hb dX8_in_0 rfl (lv_at hl 0 rfl) ?_
  refine lv_iload_n hx hb dX8_in_1 rfl (lv_at hl 1 rfl) ?_
  have J4 : ∀ (v3 : Int32) (H : Heap) (locs : List Loc) (ls : Array Slot), v3 = (if x < lo then 0 else (if hi < x then 0 else 1)) → va_P D vwCl [] H → va_D A [] → va_S A s.heap H locs → lv_has ls 3 [(0, .int x), (1, .int lo), (2, .int hi)] → W p l e R s m args below meth c H locs 0 0 Q (F0 m 15 ls [.int v3]) := by
    clear hP hD hS hl
    intro v3 H locs ls ev3 hP hD hS hl
    subst ev3
    have hF : f_X8_in x lo hi = (if x < lo then 0 else (if hi < x then 0 else 1)) := hF
    rw [hF] at hQ
    exact hQ _ _ _ _ dX8_in_15 hP hS
  refine lv_icmp_lt (tgt := 14) hx hb dX8_in_2 (by decide) (fun hc1 => ?_) (fun hc1 => ?_)
  · refine lv_iconst (v := 0) hx hb dX8_in_14 (by decide) ?_
    exact J4 _ _ _ _ ((if_pos hc1).symm) hP hD hS (lv_sub hl [0, 1, 2] rfl)
  · refine lv_iload_n hx hb dX8_in_5 rfl (lv_at hl 0 rfl) ?_
    refine lv_iload_n hx hb dX8_in_6 rfl (lv_at hl 2 rfl) ?_
    refine lv_icmp_gt (tgt := 14) hx hb dX8_in_7 (by decide) (fun hc2 => ?_) (fun hc2 => ?_)
    · refine lv_iconst (v := 0) hx hb dX8_in_14 (by decide) ?_
      exact J4 _ _ _ _ (((if_neg hc1).trans (if_pos hc2)).symm) hP hD hS (lv_sub hl [0, 1, 2] rfl)
    · refine lv_iconst (v := 1) hx hb dX8_in_10 (by decide) ?_
      refine lv_goto (tgt := 15) hx hb dX8_in_11 (by decide) ?_
      exact J4 _ _ _ _ (((if_neg hc1).trans (if_neg hc2)).symm) hP hD hS (lv_sub hl [0, 1, 2] rfl)

theorem yk_fb {r : Int32} (h : r = 0 ∨ r = 1) : fits .boolean (.int r) = true := by rcases h with rfl | rfl <;> rfl
theorem yk_vb {r : Int32} (h : r = 0 ∨ r = 1) : vp_nar .boolean r = r := by rcases h with rfl | rfl <;> rfl
section YZ
variable {p : Program} {l : Launch} {e : Env} {R : Room} {s : State} {m : MethodId} {args : Array Value} {below : List Frame} {meth : Method} {c : Code} {H : Heap} {locs : List Loc} {cells slots : Nat} {Q : State → Prop}
variable {cc : ByteArray} {pc : Nat} {ls : Array Slot} {rest : List Value} {D : va_G} {cl : List vw_C} {A : Nat → Prop} {a : Nat} {tys : List (ClassId × FieldType)} {ws : va_W} {H0 : Heap}
theorem yk_zst (hexec : p.tables.exec = Jvm.exec) (hb : c.code = cc) (hK : va_K D cl tys s) (hP : va_P D cl ws H) (hD : va_D A ws) (hS : va_S A H0 H locs) (q0 t0 : Nat) {cA : ClassId} {n : Nat} {f : Nat → Int32} (ha : ws[q0]? = some (a, .inl (cA, n, .inl f))) (ht : tys[t0]? = some (cA, .boolean)) (k : Nat) {x : Int32} (hk : k < n) (hn : n < 2 ^ 31) (hx : x = 0 ∨ x = 1) (hdg : decode cc pc = .ok (.bastore, 1))
    (kk : ∀ (H1 : Heap) (locs1 : List Loc), va_P D cl (ws.set q0 (a, .inl (cA, n, .inl (upd f k x)))) H1 → va_D A (ws.set q0 (a, .inl (cA, n, .inl (upd f k x)))) → va_S A H0 H1 locs1 → W p l e R s m args below meth c H1 locs1 cells slots Q (F0 m (pc + 1) ls rest)) : W p l e R s m args below meth c H locs cells slots Q (F0 m pc ls (.int x :: .int (nI k) :: .ref a :: rest)) := by
  refine va_zast hexec hb hK hP hD hS q0 t0 ha ht (vp_in_nI hk hn) hdg ?_
  rw [nI_clamp (by omega), yk_vb hx]
  exact kk
end YZ
theorem yk_u25 {u : Nat} (hu : u ≤ 25) (h : nI u = 25) : 1 ≤ u := by
  have := (nI_eq (a := u) (b := 25) (by omega) (by decide)).mp h
  omega
theorem yk_u24 {u : Nat} (hu : u ≤ 25) : (if nI u = 25 then u - 1 else u) ≤ 24 := by
  split
  · omega
  · rename_i h
    rcases Nat.lt_or_ge u 25 with q | q
    · omega
    · have : u = 25 := by omega
      subst this
      exact absurd rfl h
theorem ix_in {x : Int32} {N : Nat} {b : Int32} (hN : N < 2 ^ 31) (hb : b + 1 = nI N) (hb2 : b < b + 1) (h : ¬ f_X8_in x 0 b = 0) : x = nI x.toNatClampNeg ∧ x.toNatClampNeg < N := by
  unfold f_X8_in at h
  by_cases h0 : x < 0
  · exact absurd (if_pos h0) h
  rw [if_neg h0] at h
  by_cases h1 : b < x
  · exact absurd (if_pos h1) h
  refine yk_ix hN h0 (fun h2 => ?_)
  rw [← hb] at h2
  exact h1 (Int32.lt_of_lt_of_le hb2 h2)

theorem kX8_found_0 : Cond.fieldLink RX8 57 "FlowPlaneModel" "findings" "I" ∈ wsX8_found := by decide +kernel
theorem uX8_found_X8 : ∀ w ∈ u_ws RX8 TX8 23, w ∈ wsX8_found := by decide +kernel
def f_X8_found (fi : Int32) (px : Int32) : Int32 × Int32 := (px, (fi + 1))
set_option maxHeartbeats 400000000 in
set_option maxRecDepth 100000 in
theorem c_X8_found (l : Launch) (D : va_G) (cy : Nat → ClassId) (ta : Nat) (m_now : Nat) (m_undone : Nat) (m_slots : Nat) (m_slotKind : Nat) (m_hasSlot : Nat) (m_sheetBits : Nat) (m_sheetSize : Nat) (m_sheets : Nat) (m_fresh : Nat) (m_rootWhich : Nat) (m_signs : Nat) (m_atNought : Nat) (m_change : Nat) (m_table : Nat) (m_carried : Nat) (u : Nat) (fi : Int32) (aa : Int64) (bb : Int64) (dd : Int64) (ro : Nat) (db : Int32) (mn : Nat) (px : Int32) : yk_Ci l D vwCl (yk_ty cy) yX8_found wsX8_found 0 0 [.ref ta, .int px] [(ta, .inr (8, [.ref m_now, .ref m_undone, .ref m_slots, .ref m_slotKind, .ref m_hasSlot, .ref m_sheetBits, .ref m_sheetSize, .ref m_sheets, .int (nI u), .int fi, .ref m_fresh, .long aa, .long bb, .long dd, .int (nI ro), .ref m_rootWhich, .int db, .ref m_signs, .ref m_atNought, .int (nI mn), .ref m_change, .ref m_table, .ref m_carried]))] ((f_X8_found fi px).1) [(ta, .inr (8, [.ref m_now, .ref m_undone, .ref m_slots, .ref m_slotKind, .ref m_hasSlot, .ref m_sheetBits, .ref m_sheetSize, .ref m_sheets, .int (nI u), .int ((f_X8_found fi px).2), .ref m_fresh, .long aa, .long bb, .long dd, .int (nI ro), .ref m_rootWhich, .int db, .ref m_signs, .ref m_atNought, .int (nI mn), .ref m_change, .ref m_table, .ref m_carried]))] := by
  refine yk_eI (cc := cX8_found) (maxL := 2) (by decide) rfl (Nat.le_of_ble_eq_true rfl) rfl ?_
  intro p e R s m args below meth c A Q ls H locs hx hb hml hown hts hRf hRl hA hK hG hP hD hS hl hQ
  have hP : va_P D vwCl [(ta, .inr (8, [.ref m_now, .ref m_undone, .ref m_slots, .ref m_slotKind, .ref m_hasSlot, .ref m_sheetBits, .ref m_sheetSize, .ref m_sheets, .int (nI u), .int fi, .ref m_fresh, .long aa, .long bb, .long dd, .int (nI ro), .ref m_rootWhich, .int db, .ref m_signs, .ref m_atNought, .int (nI mn), .ref m_change, .ref m_table, .ref m_carried]))] H := hP
  have hl : lv_has ls 2 [(0, .ref ta), (1, .int px)] := hl
  have hown : s.vm.findClass RX8 = some m.cls := hown
  have hF : (f_X8_found fi px) = (f_X8_found fi px) := rfl
  refine lv_aload_n hx hb dX8_found_0 rfl (lv_at hl 0 rfl) ?_
  refine lv_dup hx hb dX8_found_1 rfl ?_
  refine va_get (D := D) (ci := 8) (v := .int fi) (C := RX8) (T := TX8) (N := 23) hx hb hts uX8_found_X8 hown hK hP 0 rfl rfl 9 (by decide) (hts _ kX8_found_0) (fun _ h9 => h9) rfl dX8_found_2 ?_
  refine lv_iconst (v := 1) hx hb dX8_found_5 (by decide) ?_
  refine lv_iadd hx hb dX8_found_6 ?_
  refine va_put (D := D) (ci := 8) (v := .int (fi + 1)) (ty := .int) (C := RX8) (T := TX8) (N := 23) hx hb hts uX8_found_X8 tyX8 tyX8_ok nmX8 hown hK hP hD hS 0 rfl rfl 9 (by decide) (hts _ kX8_found_0) (fun _ h9 => h9) rfl (by decide +kernel) (rfl) (rfl) (Nat.le_of_ble_eq_true rfl) dX8_found_7 (fun H locs hP9 hD9 hS9 => ?_)
  replace hP : va_P D vwCl [(ta, .inr (8, [.ref m_now, .ref m_undone, .ref m_slots, .ref m_slotKind, .ref m_hasSlot, .ref m_sheetBits, .ref m_sheetSize, .ref m_sheets, .int (nI u), .int (fi + 1), .ref m_fresh, .long aa, .long bb, .long dd, .int (nI ro), .ref m_rootWhich, .int db, .ref m_signs, .ref m_atNought, .int (nI mn), .ref m_change, .ref m_table, .ref m_carried]))] H := hP9
  replace hD : va_D A [(ta, .inr (8, [.ref m_now, .ref m_undone, .ref m_slots, .ref m_slotKind, .ref m_hasSlot, .ref m_sheetBits, .ref m_sheetSize, .ref m_sheets, .int (nI u), .int (fi + 1), .ref m_fresh, .long aa, .long bb, .long dd, .int (nI ro), .ref m_rootWhich, .int db, .ref m_signs, .ref m_atNought, .int (nI mn), .ref m_change, .ref m_table, .ref m_carried]))] := hD9
  replace hS := hS9
  clear hP9 hD9 hS9
  refine lv_iload_n hx hb dX8_found_10 rfl (lv_at hl 1 rfl) ?_
  have hF : f_X8_found fi px = (px, (fi + 1)) := hF
  have hf0 := yk_fst hF
  have hg0 := yk_snd hF
  rw [hf0, hg0] at hQ
  exact hQ _ _ _ _ dX8_found_11 hP hS

def f_X8_isPlace (x : Int32) (y : Int32) : Int32 := (if (f_X8_in x (-6) 6) = 0 then 0 else (if (f_X8_in y (-6) 6) = 0 then 0 else 1))
theorem b_X8_isPlace (x : Int32) (y : Int32) : (f_X8_isPlace x y) = 0 ∨ (f_X8_isPlace x y) = 1 := by
  unfold f_X8_isPlace; (repeat' split) <;> first | exact Or.inl (by with_reducible rfl) | exact Or.inr (by with_reducible rfl) | with_reducible exact b_X8_in _ _ _
set_option maxHeartbeats 400000000 in
set_option maxRecDepth 100000 in
theorem c_X8_isPlace (l : Launch) (D : va_G) (cy : Nat → ClassId) (x : Int32) (y : Int32) : yk_Ci l D vwCl (yk_ty cy) yX8_isPlace wsX8_isPlace 1 22 [.int x, .int y] [] (f_X8_isPlace x y) [] := by
  refine yk_eI (cc := cX8_isPlace) (maxL := 2) (by decide) rfl (Nat.le_of_ble_eq_true rfl) (yk_nb (b_X8_isPlace x y)) ?_
  intro p e R s m args below meth c A Q ls H locs hx hb hml hown hts hRf hRl hA hK hG hP hD hS hl hQ
  have hP : va_P D vwCl [] H := hP
  have hl : lv_has ls 2 [(0, .int x), (1, .int y)] := hl
  have hown : s.vm.findClass RX8 = some m.cls := hown
  have hF : (f_X8_isPlace x y) = (f_X8_isPlace x y) := rfl
  refine lv_iload_n hx hb dX8_isPlace_0 rfl (lv_at hl 0 rfl) ?_
  refine lv_bipush (v := (-6)) hx hb dX8_isPlace_1 (by decide) ?_
  refine lv_bipush (v := 6) hx hb dX8_isPlace_3 (by decide) ?_
  refine yk_i [] (va_runS (As := [.int x, .int (-6), .int 6]) (rest := []) ⟨hx, hb, hml, hown, hts⟩ (c_X8_in l D cy x (-6) 6 H.size) (va_cwS 3 hts gX8_isPlace_X8_in rfl rfl rfl hs_X8_in (yk_room hRf hRl rfl rfl)) (yk_ps hG hA hS hK hP hD [] (by decide +kernel) rfl) rfl rfl hl.1 rfl (lv_room (Nat.le_of_ble_eq_true rfl)) dX8_isPlace_5 ⟨Nat.zero_le _, Nat.zero_le _⟩) hP hD hS hA rfl rfl (fun H locs hP9 hD9 hS9 => ?_)
  replace hP : va_P D vwCl [] H := hP9
  replace hD : va_D A [] := hD9
  replace hS := hS9
  clear hP9 hD9 hS9
  have J4 : ∀ (v3 : Int32) (H : Heap) (locs : List Loc) (ls : Array Slot), v3 = (if (f_X8_in x (-6) 6) = 0 then 0 else (if (f_X8_in y (-6) 6) = 0 then 0 else 1)) → va_P D vwCl [] H → va_D A [] → va_S A s.heap H locs → lv_has ls 2 [(0, .int x), (1, .int y)] → W p l e R s m args below meth c H locs 0 0 Q (F0 m 27 ls [.int v3]) := by
    clear hP hD hS hl
    intro v3 H locs ls ev3 hP hD hS hl
    subst ev3
    have hF : f_X8_isPlace x y = (if (f_X8_in x (-6) 6) = 0 then 0 else (if (f_X8_in y (-6) 6) = 0 then 0 else 1)) := hF
    rw [hF] at hQ
    exact hQ _ _ _ _ dX8_isPlace_27 hP hS
  refine lv_if_eq (tgt := 26) hx hb dX8_isPlace_8 (by decide) (fun hc1 => ?_) (fun hc1 => ?_)
  · refine lv_iconst (v := 0) hx hb dX8_isPlace_26 (by decide) ?_
    exact J4 _ _ _ _ ((if_pos hc1).symm) hP hD hS (lv_sub hl [0, 1] rfl)
  · refine lv_iload_n hx hb dX8_isPlace_11 rfl (lv_at hl 1 rfl) ?_
    refine lv_bipush (v := (-6)) hx hb dX8_isPlace_12 (by decide) ?_
    refine lv_bipush (v := 6) hx hb dX8_isPlace_14 (by decide) ?_
    refine yk_i [] (va_runS (As := [.int y, .int (-6), .int 6]) (rest := []) ⟨hx, hb, hml, hown, hts⟩ (c_X8_in l D cy y (-6) 6 H.size) (va_cwS 3 hts gX8_isPlace_X8_in rfl rfl rfl hs_X8_in (yk_room hRf hRl rfl rfl)) (yk_ps hG hA hS hK hP hD [] (by decide +kernel) rfl) rfl rfl hl.1 rfl (lv_room (Nat.le_of_ble_eq_true rfl)) dX8_isPlace_16 ⟨Nat.zero_le _, Nat.zero_le _⟩) hP hD hS hA rfl rfl (fun H locs hP9 hD9 hS9 => ?_)
    replace hP : va_P D vwCl [] H := hP9
    replace hD : va_D A [] := hD9
    replace hS := hS9
    clear hP9 hD9 hS9
    refine lv_if_eq (tgt := 26) hx hb dX8_isPlace_19 (by decide) (fun hc2 => ?_) (fun hc2 => ?_)
    · refine lv_iconst (v := 0) hx hb dX8_isPlace_26 (by decide) ?_
      exact J4 _ _ _ _ (((if_neg hc1).trans (if_pos hc2)).symm) hP hD hS (lv_sub hl [0, 1] rfl)
    · refine lv_iconst (v := 1) hx hb dX8_isPlace_22 (by decide) ?_
      refine lv_goto (tgt := 27) hx hb dX8_isPlace_23 (by decide) ?_
      exact J4 _ _ _ _ (((if_neg hc1).trans (if_neg hc2)).symm) hP hD hS (lv_sub hl [0, 1] rfl)

theorem kX8_remember_0 : Cond.fieldLink RX8 65 "FlowPlaneModel" "undos" "I" ∈ wsX8_remember := by decide +kernel
theorem kX8_remember_1 : Cond.fieldLink RX8 13 "FlowPlaneModel" "undone" "[I" ∈ wsX8_remember := by decide +kernel
theorem kX8_remember_2 : Cond.fieldLink RX8 7 "FlowPlaneModel" "now" "[I" ∈ wsX8_remember := by decide +kernel
theorem uX8_remember_X8 : ∀ w ∈ u_ws RX8 TX8 23, w ∈ wsX8_remember := by decide +kernel
def l_X8_remember_12 (nw : Nat → Int32) (un : Nat → Int32) (u : Nat) : Nat → Nat → (Nat → Int32) → (Nat → Int32)
  | 0, ki, zundone_12 => zundone_12
  | fu_X8_remember_12 + 1, ki, zundone_12 => (if 725 ≤ (nI ki) then zundone_12 else (l_X8_remember_12 nw un u fu_X8_remember_12 (ki + 1) (upd zundone_12 (ki - 29) (zundone_12 ki))))
def l_X8_remember_52 (nw : Nat → Int32) (un : Nat → Int32) (u : Nat) : Nat → Nat → (Nat → Int32) → (Nat → Int32)
  | 0, kj, zundone_52 => zundone_52
  | fu_X8_remember_52 + 1, kj, zundone_52 => (if 29 ≤ (nI kj) then zundone_52 else (l_X8_remember_52 nw un u fu_X8_remember_52 (kj + 1) (upd zundone_52 ((29 * (if (nI u) = 25 then u - 1 else u)) + kj) (nw kj))))
def f_X8_remember (nw : Nat → Int32) (un : Nat → Int32) (u : Nat) : Nat × (Nat → Int32) := (((if (nI u) = 25 then u - 1 else u) + 1), (l_X8_remember_52 nw un u (29 + 1) 0 (if (nI u) = 25 then (l_X8_remember_12 nw un u (725 - 29 + 1) 29 un) else un)))
set_option maxHeartbeats 400000000 in
set_option maxRecDepth 100000 in
theorem c_X8_remember (l : Launch) (D : va_G) (cy : Nat → ClassId) (ta : Nat) (m_now : Nat) (m_undone : Nat) (m_slots : Nat) (m_slotKind : Nat) (m_hasSlot : Nat) (m_sheetBits : Nat) (m_sheetSize : Nat) (m_sheets : Nat) (m_fresh : Nat) (m_rootWhich : Nat) (m_signs : Nat) (m_atNought : Nat) (m_change : Nat) (m_table : Nat) (m_carried : Nat) (nw : Nat → Int32) (un : Nat → Int32) (u : Nat) (fi : Int32) (aa : Int64) (bb : Int64) (dd : Int64) (ro : Nat) (db : Int32) (mn : Nat) (hu : u ≤ 25) : yk_Cv l D vwCl (yk_ty cy) yX8_remember wsX8_remember 0 0 [.ref ta] [(ta, .inr (8, [.ref m_now, .ref m_undone, .ref m_slots, .ref m_slotKind, .ref m_hasSlot, .ref m_sheetBits, .ref m_sheetSize, .ref m_sheets, .int (nI u), .int fi, .ref m_fresh, .long aa, .long bb, .long dd, .int (nI ro), .ref m_rootWhich, .int db, .ref m_signs, .ref m_atNought, .int (nI mn), .ref m_change, .ref m_table, .ref m_carried])), (m_now, .inl (cy 0, 29, .inl nw)), (m_undone, .inl (cy 0, 725, .inl un))] [(ta, .inr (8, [.ref m_now, .ref m_undone, .ref m_slots, .ref m_slotKind, .ref m_hasSlot, .ref m_sheetBits, .ref m_sheetSize, .ref m_sheets, .int (nI ((f_X8_remember nw un u).1)), .int fi, .ref m_fresh, .long aa, .long bb, .long dd, .int (nI ro), .ref m_rootWhich, .int db, .ref m_signs, .ref m_atNought, .int (nI mn), .ref m_change, .ref m_table, .ref m_carried])), (m_now, .inl (cy 0, 29, .inl nw)), (m_undone, .inl (cy 0, 725, .inl ((f_X8_remember nw un u).2)))] := by
  refine yk_eV (cc := cX8_remember) (maxL := 2) (by decide) rfl (Nat.le_of_ble_eq_true rfl) ?_
  intro p e R s m args below meth c A Q ls H locs hx hb hml hown hts hRf hRl hA hK hG hP hD hS hl hQ
  have hP : va_P D vwCl [(ta, .inr (8, [.ref m_now, .ref m_undone, .ref m_slots, .ref m_slotKind, .ref m_hasSlot, .ref m_sheetBits, .ref m_sheetSize, .ref m_sheets, .int (nI u), .int fi, .ref m_fresh, .long aa, .long bb, .long dd, .int (nI ro), .ref m_rootWhich, .int db, .ref m_signs, .ref m_atNought, .int (nI mn), .ref m_change, .ref m_table, .ref m_carried])), (m_now, .inl (cy 0, 29, .inl nw)), (m_undone, .inl (cy 0, 725, .inl un))] H := hP
  have hl : lv_has ls 2 [(0, .ref ta)] := hl
  have hown : s.vm.findClass RX8 = some m.cls := hown
  have hF : (f_X8_remember nw un u) = (f_X8_remember nw un u) := rfl
  refine lv_aload_n hx hb dX8_remember_0 rfl (lv_at hl 0 rfl) ?_
  refine va_get (D := D) (ci := 8) (v := .int (nI u)) (C := RX8) (T := TX8) (N := 23) hx hb hts uX8_remember_X8 hown hK hP 0 rfl rfl 8 (by decide) (hts _ kX8_remember_0) (fun _ h9 => h9) rfl dX8_remember_1 ?_
  refine lv_bipush (v := 25) hx hb dX8_remember_4 (by decide) ?_
  have J7 : ∀ (v5 : Nat) (v6 : Nat → Int32) (H : Heap) (locs : List Loc) (ls : Array Slot), v5 = (if (nI u) = 25 then u - 1 else u) → v6 = (if (nI u) = 25 then (l_X8_remember_12 nw un u (725 - 29 + 1) 29 un) else un) → va_P D vwCl [(ta, .inr (8, [.ref m_now, .ref m_undone, .ref m_slots, .ref m_slotKind, .ref m_hasSlot, .ref m_sheetBits, .ref m_sheetSize, .ref m_sheets, .int (nI v5), .int fi, .ref m_fresh, .long aa, .long bb, .long dd, .int (nI ro), .ref m_rootWhich, .int db, .ref m_signs, .ref m_atNought, .int (nI mn), .ref m_change, .ref m_table, .ref m_carried])), (m_now, .inl (cy 0, 29, .inl nw)), (m_undone, .inl (cy 0, 725, .inl v6))] H → va_D A [(ta, .inr (8, [.ref m_now, .ref m_undone, .ref m_slots, .ref m_slotKind, .ref m_hasSlot, .ref m_sheetBits, .ref m_sheetSize, .ref m_sheets, .int (nI v5), .int fi, .ref m_fresh, .long aa, .long bb, .long dd, .int (nI ro), .ref m_rootWhich, .int db, .ref m_signs, .ref m_atNought, .int (nI mn), .ref m_change, .ref m_table, .ref m_carried])), (m_now, .inl (cy 0, 29, .inl nw)), (m_undone, .inl (cy 0, 725, .inl v6))] → va_S A s.heap H locs → lv_has ls 2 [(0, .ref ta)] → W p l e R s m args below meth c H locs 0 0 Q (F0 m 50 ls []) := by
    clear hP hD hS hl
    intro v5 v6 H locs ls ev5 ev6 hP hD hS hl
    subst ev5
    subst ev6
    have hu24 : (if (nI u) = 25 then u - 1 else u) ≤ 24 := yk_u24 hu
    refine lv_iconst (v := 0) hx hb dX8_remember_50 (by decide) ?_
    refine lv_istore_n (lv' := [(1, .int 0), (0, .ref ta)]) hx hb dX8_remember_51 rfl hl (by decide) rfl (fun ls hl9 => ?_)
    replace hl := hl9
    clear hl9
    have J10 : ∀ (H : Heap) (locs : List Loc) (ls : Array Slot), va_P D vwCl [(ta, .inr (8, [.ref m_now, .ref m_undone, .ref m_slots, .ref m_slotKind, .ref m_hasSlot, .ref m_sheetBits, .ref m_sheetSize, .ref m_sheets, .int (nI (if (nI u) = 25 then u - 1 else u)), .int fi, .ref m_fresh, .long aa, .long bb, .long dd, .int (nI ro), .ref m_rootWhich, .int db, .ref m_signs, .ref m_atNought, .int (nI mn), .ref m_change, .ref m_table, .ref m_carried])), (m_now, .inl (cy 0, 29, .inl nw)), (m_undone, .inl (cy 0, 725, .inl (l_X8_remember_52 nw un u (29 + 1) 0 (if (nI u) = 25 then (l_X8_remember_12 nw un u (725 - 29 + 1) 29 un) else un))))] H → va_D A [(ta, .inr (8, [.ref m_now, .ref m_undone, .ref m_slots, .ref m_slotKind, .ref m_hasSlot, .ref m_sheetBits, .ref m_sheetSize, .ref m_sheets, .int (nI (if (nI u) = 25 then u - 1 else u)), .int fi, .ref m_fresh, .long aa, .long bb, .long dd, .int (nI ro), .ref m_rootWhich, .int db, .ref m_signs, .ref m_atNought, .int (nI mn), .ref m_change, .ref m_table, .ref m_carried])), (m_now, .inl (cy 0, 29, .inl nw)), (m_undone, .inl (cy 0, 725, .inl (l_X8_remember_52 nw un u (29 + 1) 0 (if (nI u) = 25 then (l_X8_remember_12 nw un u (725 - 29 + 1) 29 un) else un))))] → va_S A s.heap H locs → lv_has ls 2 [(0, .ref ta)] → W p l e R s m args below meth c H locs 0 0 Q (F0 m 84 ls []) := by
      clear hP hD hS hl
      intro H locs ls hP hD hS hl
      refine lv_aload_n hx hb dX8_remember_84 rfl (lv_at hl 0 rfl) ?_
      refine lv_dup hx hb dX8_remember_85 rfl ?_
      refine va_get (D := D) (ci := 8) (v := .int (nI (if (nI u) = 25 then u - 1 else u))) (C := RX8) (T := TX8) (N := 23) hx hb hts uX8_remember_X8 hown hK hP 0 rfl rfl 8 (by decide) (hts _ kX8_remember_0) (fun _ h9 => h9) rfl dX8_remember_86 ?_
      refine lv_iconst (v := 1) hx hb dX8_remember_89 (by decide) ?_
      refine lv_iadd hx hb dX8_remember_90 ?_
      refine yk_ti (y := nI ((if (nI u) = 25 then u - 1 else u) + 1)) (nI_add (if (nI u) = 25 then u - 1 else u) 1) ?_
      refine va_put (D := D) (ci := 8) (v := .int (nI ((if (nI u) = 25 then u - 1 else u) + 1))) (ty := .int) (C := RX8) (T := TX8) (N := 23) hx hb hts uX8_remember_X8 tyX8 tyX8_ok nmX8 hown hK hP hD hS 0 rfl rfl 8 (by decide) (hts _ kX8_remember_0) (fun _ h9 => h9) rfl (by decide +kernel) (rfl) (rfl) (Nat.le_of_ble_eq_true rfl) dX8_remember_91 (fun H locs hP9 hD9 hS9 => ?_)
      replace hP : va_P D vwCl [(ta, .inr (8, [.ref m_now, .ref m_undone, .ref m_slots, .ref m_slotKind, .ref m_hasSlot, .ref m_sheetBits, .ref m_sheetSize, .ref m_sheets, .int (nI ((if (nI u) = 25 then u - 1 else u) + 1)), .int fi, .ref m_fresh, .long aa, .long bb, .long dd, .int (nI ro), .ref m_rootWhich, .int db, .ref m_signs, .ref m_atNought, .int (nI mn), .ref m_change, .ref m_table, .ref m_carried])), (m_now, .inl (cy 0, 29, .inl nw)), (m_undone, .inl (cy 0, 725, .inl (l_X8_remember_52 nw un u (29 + 1) 0 (if (nI u) = 25 then (l_X8_remember_12 nw un u (725 - 29 + 1) 29 un) else un))))] H := hP9
      replace hD : va_D A [(ta, .inr (8, [.ref m_now, .ref m_undone, .ref m_slots, .ref m_slotKind, .ref m_hasSlot, .ref m_sheetBits, .ref m_sheetSize, .ref m_sheets, .int (nI ((if (nI u) = 25 then u - 1 else u) + 1)), .int fi, .ref m_fresh, .long aa, .long bb, .long dd, .int (nI ro), .ref m_rootWhich, .int db, .ref m_signs, .ref m_atNought, .int (nI mn), .ref m_change, .ref m_table, .ref m_carried])), (m_now, .inl (cy 0, 29, .inl nw)), (m_undone, .inl (cy 0, 725, .inl (l_X8_remember_52 nw un u (29 + 1) 0 (if (nI u) = 25 then (l_X8_remember_12 nw un u (725 - 29 + 1) 29 un) else un))))] := hD9
      replace hS := hS9
      clear hP9 hD9 hS9
      have hF : f_X8_remember nw un u = (((if (nI u) = 25 then u - 1 else u) + 1), (l_X8_remember_52 nw un u (29 + 1) 0 (if (nI u) = 25 then (l_X8_remember_12 nw un u (725 - 29 + 1) 29 un) else un))) := hF
      have hf0 := yk_fst hF
      have hg0 := yk_snd hF
      rw [hf0, hg0] at hQ
      exact hQ _ _ _ _ dX8_remember_94 hP hS
    have L52 : ∀ (M9 n52 kj : Nat) (zundone_52 : Nat → Int32) (H : Heap) (locs : List Loc) (ls : Array Slot), n52 < M9 → kj + n52 = 29 → (l_X8_remember_52 nw un u (29 + 1) 0 (if (nI u) = 25 then (l_X8_remember_12 nw un u (725 - 29 + 1) 29 un) else un)) = (l_X8_remember_52 nw un u (n52 + 1) kj zundone_52) → va_P D vwCl [(ta, .inr (8, [.ref m_now, .ref m_undone, .ref m_slots, .ref m_slotKind, .ref m_hasSlot, .ref m_sheetBits, .ref m_sheetSize, .ref m_sheets, .int (nI (if (nI u) = 25 then u - 1 else u)), .int fi, .ref m_fresh, .long aa, .long bb, .long dd, .int (nI ro), .ref m_rootWhich, .int db, .ref m_signs, .ref m_atNought, .int (nI mn), .ref m_change, .ref m_table, .ref m_carried])), (m_now, .inl (cy 0, 29, .inl nw)), (m_undone, .inl (cy 0, 725, .inl zundone_52))] H → va_D A [(ta, .inr (8, [.ref m_now, .ref m_undone, .ref m_slots, .ref m_slotKind, .ref m_hasSlot, .ref m_sheetBits, .ref m_sheetSize, .ref m_sheets, .int (nI (if (nI u) = 25 then u - 1 else u)), .int fi, .ref m_fresh, .long aa, .long bb, .long dd, .int (nI ro), .ref m_rootWhich, .int db, .ref m_signs, .ref m_atNought, .int (nI mn), .ref m_change, .ref m_table, .ref m_carried])), (m_now, .inl (cy 0, 29, .inl nw)), (m_undone, .inl (cy 0, 725, .inl zundone_52))] → va_S A s.heap H locs → lv_has ls 2 [(0, .ref ta), (1, .int (nI kj))] → W p l e R s m args below meth c H locs 0 0 Q (F0 m 52 ls []) := by
      clear hP hD hS hl
      intro M9
      induction M9 with
      | zero => intro n52 kj _ _ _ _ hn; exact absurd hn (Nat.not_lt_zero _)
      | succ M9 ih52 =>
        intro n52 kj zundone_52 H locs ls hn52 hk52 hV52 hP hD hS hl
        refine lv_iload_n hx hb dX8_remember_52 rfl (lv_at hl 1 rfl) ?_
        refine lv_bipush (v := 29) hx hb dX8_remember_53 (by decide) ?_
        refine lv_icmp_ge (tgt := 84) hx hb dX8_remember_55 (by decide) (fun hc9 => ?_) (fun hc9 => ?_)
        · replace hV52 := hV52.trans (if_pos hc9)
          have hV52 : (l_X8_remember_52 nw un u (29 + 1) 0 (if (nI u) = 25 then (l_X8_remember_12 nw un u (725 - 29 + 1) 29 un) else un)) = zundone_52 := hV52
          have J10 := J10
          rw [hV52] at J10
          exact J10 _ _ _ hP hD hS (lv_sub hl [0] rfl)
        · replace hV52 := hV52.trans (if_neg hc9)
          have hlt52 : kj < 29 := yk_lt hk52 (by omega) hc9
          refine lv_aload_n hx hb dX8_remember_58 rfl (lv_at hl 0 rfl) ?_
          refine va_get (D := D) (ci := 8) (v := .ref m_undone) (C := RX8) (T := TX8) (N := 23) hx hb hts uX8_remember_X8 hown hK hP 0 rfl rfl 1 (by decide) (hts _ kX8_remember_1) (fun _ h9 => h9) rfl dX8_remember_59 ?_
          refine lv_bipush (v := 29) hx hb dX8_remember_62 (by decide) ?_
          refine lv_aload_n hx hb dX8_remember_64 rfl (lv_at hl 0 rfl) ?_
          refine va_get (D := D) (ci := 8) (v := .int (nI (if (nI u) = 25 then u - 1 else u))) (C := RX8) (T := TX8) (N := 23) hx hb hts uX8_remember_X8 hown hK hP 0 rfl rfl 8 (by decide) (hts _ kX8_remember_0) (fun _ h9 => h9) rfl dX8_remember_65 ?_
          refine lv_imul hx hb dX8_remember_68 ?_
          refine yk_ti (y := nI (29 * (if (nI u) = 25 then u - 1 else u))) (pk_mul 29 (if (nI u) = 25 then u - 1 else u)) ?_
          refine lv_iload_n hx hb dX8_remember_69 rfl (lv_at hl 1 rfl) ?_
          refine lv_iadd hx hb dX8_remember_70 ?_
          refine yk_ti (y := nI ((29 * (if (nI u) = 25 then u - 1 else u)) + kj)) (nI_add (29 * (if (nI u) = 25 then u - 1 else u)) kj) ?_
          refine lv_aload_n hx hb dX8_remember_71 rfl (lv_at hl 0 rfl) ?_
          refine va_get (D := D) (ci := 8) (v := .ref m_now) (C := RX8) (T := TX8) (N := 23) hx hb hts uX8_remember_X8 hown hK hP 0 rfl rfl 0 (by decide) (hts _ kX8_remember_2) (fun _ h9 => h9) rfl dX8_remember_72 ?_
          refine lv_iload_n hx hb dX8_remember_75 rfl (lv_at hl 1 rfl) ?_
          refine yk_ild hx hb hK hP 1 0 rfl rfl kj (by omega) (by decide) dX8_remember_76 ?_
          refine yk_ist hx hb hK hP hD hS 2 0 rfl rfl ((29 * (if (nI u) = 25 then u - 1 else u)) + kj) (by omega) (by decide) dX8_remember_77 (fun H locs hP9 hD9 hS9 => ?_)
          replace hP : va_P D vwCl [(ta, .inr (8, [.ref m_now, .ref m_undone, .ref m_slots, .ref m_slotKind, .ref m_hasSlot, .ref m_sheetBits, .ref m_sheetSize, .ref m_sheets, .int (nI (if (nI u) = 25 then u - 1 else u)), .int fi, .ref m_fresh, .long aa, .long bb, .long dd, .int (nI ro), .ref m_rootWhich, .int db, .ref m_signs, .ref m_atNought, .int (nI mn), .ref m_change, .ref m_table, .ref m_carried])), (m_now, .inl (cy 0, 29, .inl nw)), (m_undone, .inl (cy 0, 725, .inl (upd zundone_52 ((29 * (if (nI u) = 25 then u - 1 else u)) + kj) (nw kj))))] H := hP9
          replace hD : va_D A [(ta, .inr (8, [.ref m_now, .ref m_undone, .ref m_slots, .ref m_slotKind, .ref m_hasSlot, .ref m_sheetBits, .ref m_sheetSize, .ref m_sheets, .int (nI (if (nI u) = 25 then u - 1 else u)), .int fi, .ref m_fresh, .long aa, .long bb, .long dd, .int (nI ro), .ref m_rootWhich, .int db, .ref m_signs, .ref m_atNought, .int (nI mn), .ref m_change, .ref m_table, .ref m_carried])), (m_now, .inl (cy 0, 29, .inl nw)), (m_undone, .inl (cy 0, 725, .inl (upd zundone_52 ((29 * (if (nI u) = 25 then u - 1 else u)) + kj) (nw kj))))] := hD9
          replace hS := hS9
          clear hP9 hD9 hS9
          refine lv_iinc (v := nI (kj + 1)) (lv' := [(1, .int (nI (kj + 1))), (0, .ref ta)]) hx hb dX8_remember_78 hl (k := 1) rfl (yk_inc kj) (by decide) rfl (fun ls hl9 => ?_)
          replace hl := hl9
          clear hl9
          refine lv_goto (tgt := 52) hx hb dX8_remember_81 (by decide) ?_
          obtain ⟨n9, rfl⟩ : ∃ n9, n52 = n9 + 1 := ⟨n52 - 1, by omega⟩
          exact ih52 n9 (kj + 1) (upd zundone_52 ((29 * (if (nI u) = 25 then u - 1 else u)) + kj) (nw kj)) _ _ _ (by omega) (by omega)  hV52 hP hD hS (lv_sub hl [1, 0] rfl)
    exact L52 (29 + 1) 29 0 (if (nI u) = 25 then (l_X8_remember_12 nw un u (725 - 29 + 1) 29 un) else un) _ _ _ (Nat.lt_succ_self _) (by omega)  rfl hP hD hS (lv_sub hl [1, 0] rfl)
  refine lv_icmp_ne (tgt := 50) hx hb dX8_remember_6 (by decide) (fun hc1 => ?_) (fun hc1 => ?_)
  · exact J7 _ _ _ _ _ ((if_neg hc1).symm) ((if_neg hc1).symm) hP hD hS (lv_sub hl [0] rfl)
  · refine lv_bipush (v := 29) hx hb dX8_remember_9 (by decide) ?_
    refine lv_istore_n (lv' := [(1, .int 29), (0, .ref ta)]) hx hb dX8_remember_11 rfl hl (by decide) rfl (fun ls hl9 => ?_)
    replace hl := hl9
    clear hl9
    have J4 : ∀ (H : Heap) (locs : List Loc) (ls : Array Slot), va_P D vwCl [(ta, .inr (8, [.ref m_now, .ref m_undone, .ref m_slots, .ref m_slotKind, .ref m_hasSlot, .ref m_sheetBits, .ref m_sheetSize, .ref m_sheets, .int (nI u), .int fi, .ref m_fresh, .long aa, .long bb, .long dd, .int (nI ro), .ref m_rootWhich, .int db, .ref m_signs, .ref m_atNought, .int (nI mn), .ref m_change, .ref m_table, .ref m_carried])), (m_now, .inl (cy 0, 29, .inl nw)), (m_undone, .inl (cy 0, 725, .inl (l_X8_remember_12 nw un u (725 - 29 + 1) 29 un)))] H → va_D A [(ta, .inr (8, [.ref m_now, .ref m_undone, .ref m_slots, .ref m_slotKind, .ref m_hasSlot, .ref m_sheetBits, .ref m_sheetSize, .ref m_sheets, .int (nI u), .int fi, .ref m_fresh, .long aa, .long bb, .long dd, .int (nI ro), .ref m_rootWhich, .int db, .ref m_signs, .ref m_atNought, .int (nI mn), .ref m_change, .ref m_table, .ref m_carried])), (m_now, .inl (cy 0, 29, .inl nw)), (m_undone, .inl (cy 0, 725, .inl (l_X8_remember_12 nw un u (725 - 29 + 1) 29 un)))] → va_S A s.heap H locs → lv_has ls 2 [(0, .ref ta)] → W p l e R s m args below meth c H locs 0 0 Q (F0 m 40 ls []) := by
      clear hP hD hS hl
      intro H locs ls hP hD hS hl
      refine lv_aload_n hx hb dX8_remember_40 rfl (lv_at hl 0 rfl) ?_
      refine lv_dup hx hb dX8_remember_41 rfl ?_
      refine va_get (D := D) (ci := 8) (v := .int (nI u)) (C := RX8) (T := TX8) (N := 23) hx hb hts uX8_remember_X8 hown hK hP 0 rfl rfl 8 (by decide) (hts _ kX8_remember_0) (fun _ h9 => h9) rfl dX8_remember_42 ?_
      refine lv_iconst (v := 1) hx hb dX8_remember_45 (by decide) ?_
      refine lv_isub hx hb dX8_remember_46 ?_
      refine yk_ti (y := nI (u - 1)) (pk_sub (b := 1) (yk_u25 hu (by assumption))) ?_
      refine va_put (D := D) (ci := 8) (v := .int (nI (u - 1))) (ty := .int) (C := RX8) (T := TX8) (N := 23) hx hb hts uX8_remember_X8 tyX8 tyX8_ok nmX8 hown hK hP hD hS 0 rfl rfl 8 (by decide) (hts _ kX8_remember_0) (fun _ h9 => h9) rfl (by decide +kernel) (rfl) (rfl) (Nat.le_of_ble_eq_true rfl) dX8_remember_47 (fun H locs hP9 hD9 hS9 => ?_)
      replace hP : va_P D vwCl [(ta, .inr (8, [.ref m_now, .ref m_undone, .ref m_slots, .ref m_slotKind, .ref m_hasSlot, .ref m_sheetBits, .ref m_sheetSize, .ref m_sheets, .int (nI (u - 1)), .int fi, .ref m_fresh, .long aa, .long bb, .long dd, .int (nI ro), .ref m_rootWhich, .int db, .ref m_signs, .ref m_atNought, .int (nI mn), .ref m_change, .ref m_table, .ref m_carried])), (m_now, .inl (cy 0, 29, .inl nw)), (m_undone, .inl (cy 0, 725, .inl (l_X8_remember_12 nw un u (725 - 29 + 1) 29 un)))] H := hP9
      replace hD : va_D A [(ta, .inr (8, [.ref m_now, .ref m_undone, .ref m_slots, .ref m_slotKind, .ref m_hasSlot, .ref m_sheetBits, .ref m_sheetSize, .ref m_sheets, .int (nI (u - 1)), .int fi, .ref m_fresh, .long aa, .long bb, .long dd, .int (nI ro), .ref m_rootWhich, .int db, .ref m_signs, .ref m_atNought, .int (nI mn), .ref m_change, .ref m_table, .ref m_carried])), (m_now, .inl (cy 0, 29, .inl nw)), (m_undone, .inl (cy 0, 725, .inl (l_X8_remember_12 nw un u (725 - 29 + 1) 29 un)))] := hD9
      replace hS := hS9
      clear hP9 hD9 hS9
      exact J7 _ _ _ _ _ ((if_pos hc1).symm) ((if_pos hc1).symm) hP hD hS (lv_sub hl [0] rfl)
    have L12 : ∀ (M9 n12 ki : Nat) (zundone_12 : Nat → Int32) (H : Heap) (locs : List Loc) (ls : Array Slot), n12 < M9 → ki + n12 = 725 → (29 ≤ ki) → (l_X8_remember_12 nw un u (725 - 29 + 1) 29 un) = (l_X8_remember_12 nw un u (n12 + 1) ki zundone_12) → va_P D vwCl [(ta, .inr (8, [.ref m_now, .ref m_undone, .ref m_slots, .ref m_slotKind, .ref m_hasSlot, .ref m_sheetBits, .ref m_sheetSize, .ref m_sheets, .int (nI u), .int fi, .ref m_fresh, .long aa, .long bb, .long dd, .int (nI ro), .ref m_rootWhich, .int db, .ref m_signs, .ref m_atNought, .int (nI mn), .ref m_change, .ref m_table, .ref m_carried])), (m_now, .inl (cy 0, 29, .inl nw)), (m_undone, .inl (cy 0, 725, .inl zundone_12))] H → va_D A [(ta, .inr (8, [.ref m_now, .ref m_undone, .ref m_slots, .ref m_slotKind, .ref m_hasSlot, .ref m_sheetBits, .ref m_sheetSize, .ref m_sheets, .int (nI u), .int fi, .ref m_fresh, .long aa, .long bb, .long dd, .int (nI ro), .ref m_rootWhich, .int db, .ref m_signs, .ref m_atNought, .int (nI mn), .ref m_change, .ref m_table, .ref m_carried])), (m_now, .inl (cy 0, 29, .inl nw)), (m_undone, .inl (cy 0, 725, .inl zundone_12))] → va_S A s.heap H locs → lv_has ls 2 [(0, .ref ta), (1, .int (nI ki))] → W p l e R s m args below meth c H locs 0 0 Q (F0 m 12 ls []) := by
      clear hP hD hS hl
      intro M9
      induction M9 with
      | zero => intro n12 ki _ _ _ _ hn; exact absurd hn (Nat.not_lt_zero _)
      | succ M9 ih12 =>
        intro n12 ki zundone_12 H locs ls hn12 hk12 hki hV12 hP hD hS hl
        refine lv_iload_n hx hb dX8_remember_12 rfl (lv_at hl 1 rfl) ?_
        refine lv_sipush (v := 725) hx hb dX8_remember_13 (by decide) ?_
        refine lv_icmp_ge (tgt := 40) hx hb dX8_remember_16 (by decide) (fun hc3 => ?_) (fun hc3 => ?_)
        · replace hV12 := hV12.trans (if_pos hc3)
          have hV12 : (l_X8_remember_12 nw un u (725 - 29 + 1) 29 un) = zundone_12 := hV12
          have J4 := J4
          rw [hV12] at J4
          exact J4 _ _ _ hP hD hS (lv_sub hl [0] rfl)
        · replace hV12 := hV12.trans (if_neg hc3)
          have hlt12 : ki < 725 := yk_lt hk12 (by omega) hc3
          refine lv_aload_n hx hb dX8_remember_19 rfl (lv_at hl 0 rfl) ?_
          refine va_get (D := D) (ci := 8) (v := .ref m_undone) (C := RX8) (T := TX8) (N := 23) hx hb hts uX8_remember_X8 hown hK hP 0 rfl rfl 1 (by decide) (hts _ kX8_remember_1) (fun _ h9 => h9) rfl dX8_remember_20 ?_
          refine lv_iload_n hx hb dX8_remember_23 rfl (lv_at hl 1 rfl) ?_
          refine lv_bipush (v := 29) hx hb dX8_remember_24 (by decide) ?_
          refine lv_isub hx hb dX8_remember_26 ?_
          refine yk_ti (y := nI (ki - 29)) (pk_sub (b := 29) (by omega)) ?_
          refine lv_aload_n hx hb dX8_remember_27 rfl (lv_at hl 0 rfl) ?_
          refine va_get (D := D) (ci := 8) (v := .ref m_undone) (C := RX8) (T := TX8) (N := 23) hx hb hts uX8_remember_X8 hown hK hP 0 rfl rfl 1 (by decide) (hts _ kX8_remember_1) (fun _ h9 => h9) rfl dX8_remember_28 ?_
          refine lv_iload_n hx hb dX8_remember_31 rfl (lv_at hl 1 rfl) ?_
          refine yk_ild hx hb hK hP 2 0 rfl rfl ki (by omega) (by decide) dX8_remember_32 ?_
          refine yk_ist hx hb hK hP hD hS 2 0 rfl rfl (ki - 29) (by omega) (by decide) dX8_remember_33 (fun H locs hP9 hD9 hS9 => ?_)
          replace hP : va_P D vwCl [(ta, .inr (8, [.ref m_now, .ref m_undone, .ref m_slots, .ref m_slotKind, .ref m_hasSlot, .ref m_sheetBits, .ref m_sheetSize, .ref m_sheets, .int (nI u), .int fi, .ref m_fresh, .long aa, .long bb, .long dd, .int (nI ro), .ref m_rootWhich, .int db, .ref m_signs, .ref m_atNought, .int (nI mn), .ref m_change, .ref m_table, .ref m_carried])), (m_now, .inl (cy 0, 29, .inl nw)), (m_undone, .inl (cy 0, 725, .inl (upd zundone_12 (ki - 29) (zundone_12 ki))))] H := hP9
          replace hD : va_D A [(ta, .inr (8, [.ref m_now, .ref m_undone, .ref m_slots, .ref m_slotKind, .ref m_hasSlot, .ref m_sheetBits, .ref m_sheetSize, .ref m_sheets, .int (nI u), .int fi, .ref m_fresh, .long aa, .long bb, .long dd, .int (nI ro), .ref m_rootWhich, .int db, .ref m_signs, .ref m_atNought, .int (nI mn), .ref m_change, .ref m_table, .ref m_carried])), (m_now, .inl (cy 0, 29, .inl nw)), (m_undone, .inl (cy 0, 725, .inl (upd zundone_12 (ki - 29) (zundone_12 ki))))] := hD9
          replace hS := hS9
          clear hP9 hD9 hS9
          refine lv_iinc (v := nI (ki + 1)) (lv' := [(1, .int (nI (ki + 1))), (0, .ref ta)]) hx hb dX8_remember_34 hl (k := 1) rfl (yk_inc ki) (by decide) rfl (fun ls hl9 => ?_)
          replace hl := hl9
          clear hl9
          refine lv_goto (tgt := 12) hx hb dX8_remember_37 (by decide) ?_
          obtain ⟨n9, rfl⟩ : ∃ n9, n12 = n9 + 1 := ⟨n12 - 1, by omega⟩
          exact ih12 n9 (ki + 1) (upd zundone_12 (ki - 29) (zundone_12 ki)) _ _ _ (by omega) (by omega) (by omega) hV12 hP hD hS (lv_sub hl [1, 0] rfl)
    exact L12 ((725 - 29) + 1) (725 - 29) 29 un _ _ _ (Nat.lt_succ_self _) (by omega) (by decide) rfl hP hD hS (lv_sub hl [1, 0] rfl)

theorem kX8_get_0 : Cond.fieldLink RX8 7 "FlowPlaneModel" "now" "[I" ∈ wsX8_get := by decide +kernel
theorem uX8_get_X8 : ∀ w ∈ u_ws RX8 TX8 23, w ∈ wsX8_get := by decide +kernel
def f_X8_get (nw : Nat → Int32) (bq : Int32) (k : Nat) : Int32 := (nw (if bq = 0 then k else (6 + k)))
set_option maxHeartbeats 400000000 in
set_option maxRecDepth 100000 in
theorem c_X8_get (l : Launch) (D : va_G) (cy : Nat → ClassId) (ta : Nat) (m_now : Nat) (m_undone : Nat) (m_slots : Nat) (m_slotKind : Nat) (m_hasSlot : Nat) (m_sheetBits : Nat) (m_sheetSize : Nat) (m_sheets : Nat) (m_fresh : Nat) (m_rootWhich : Nat) (m_signs : Nat) (m_atNought : Nat) (m_change : Nat) (m_table : Nat) (m_carried : Nat) (nw : Nat → Int32) (u : Nat) (fi : Int32) (aa : Int64) (bb : Int64) (dd : Int64) (ro : Nat) (db : Int32) (mn : Nat) (bq : Int32) (k : Nat) (hk : k < 6) : yk_Ci l D vwCl (yk_ty cy) yX8_get wsX8_get 0 0 [.ref ta, .int bq, .int (nI k)] [(ta, .inr (8, [.ref m_now, .ref m_undone, .ref m_slots, .ref m_slotKind, .ref m_hasSlot, .ref m_sheetBits, .ref m_sheetSize, .ref m_sheets, .int (nI u), .int fi, .ref m_fresh, .long aa, .long bb, .long dd, .int (nI ro), .ref m_rootWhich, .int db, .ref m_signs, .ref m_atNought, .int (nI mn), .ref m_change, .ref m_table, .ref m_carried])), (m_now, .inl (cy 0, 29, .inl nw))] (f_X8_get nw bq k) [(ta, .inr (8, [.ref m_now, .ref m_undone, .ref m_slots, .ref m_slotKind, .ref m_hasSlot, .ref m_sheetBits, .ref m_sheetSize, .ref m_sheets, .int (nI u), .int fi, .ref m_fresh, .long aa, .long bb, .long dd, .int (nI ro), .ref m_rootWhich, .int db, .ref m_signs, .ref m_atNought, .int (nI mn), .ref m_change, .ref m_table, .ref m_carried])), (m_now, .inl (cy 0, 29, .inl nw))] := by
  refine yk_eI (cc := cX8_get) (maxL := 3) (by decide) rfl (Nat.le_of_ble_eq_true rfl) rfl ?_
  intro p e R s m args below meth c A Q ls H locs hx hb hml hown hts hRf hRl hA hK hG hP hD hS hl hQ
  have hP : va_P D vwCl [(ta, .inr (8, [.ref m_now, .ref m_undone, .ref m_slots, .ref m_slotKind, .ref m_hasSlot, .ref m_sheetBits, .ref m_sheetSize, .ref m_sheets, .int (nI u), .int fi, .ref m_fresh, .long aa, .long bb, .long dd, .int (nI ro), .ref m_rootWhich, .int db, .ref m_signs, .ref m_atNought, .int (nI mn), .ref m_change, .ref m_table, .ref m_carried])), (m_now, .inl (cy 0, 29, .inl nw))] H := hP
  have hl : lv_has ls 3 [(0, .ref ta), (1, .int bq), (2, .int (nI k))] := hl
  have hown : s.vm.findClass RX8 = some m.cls := hown
  have hF : (f_X8_get nw bq k) = (f_X8_get nw bq k) := rfl
  refine lv_aload_n hx hb dX8_get_0 rfl (lv_at hl 0 rfl) ?_
  refine va_get (D := D) (ci := 8) (v := .ref m_now) (C := RX8) (T := TX8) (N := 23) hx hb hts uX8_get_X8 hown hK hP 0 rfl rfl 0 (by decide) (hts _ kX8_get_0) (fun _ h9 => h9) rfl dX8_get_1 ?_
  refine lv_iload_n hx hb dX8_get_4 rfl (lv_at hl 1 rfl) ?_
  have J3 : ∀ (v2 : Nat) (H : Heap) (locs : List Loc) (ls : Array Slot), v2 = (if bq = 0 then k else (6 + k)) → va_P D vwCl [(ta, .inr (8, [.ref m_now, .ref m_undone, .ref m_slots, .ref m_slotKind, .ref m_hasSlot, .ref m_sheetBits, .ref m_sheetSize, .ref m_sheets, .int (nI u), .int fi, .ref m_fresh, .long aa, .long bb, .long dd, .int (nI ro), .ref m_rootWhich, .int db, .ref m_signs, .ref m_atNought, .int (nI mn), .ref m_change, .ref m_table, .ref m_carried])), (m_now, .inl (cy 0, 29, .inl nw))] H → va_D A [(ta, .inr (8, [.ref m_now, .ref m_undone, .ref m_slots, .ref m_slotKind, .ref m_hasSlot, .ref m_sheetBits, .ref m_sheetSize, .ref m_sheets, .int (nI u), .int fi, .ref m_fresh, .long aa, .long bb, .long dd, .int (nI ro), .ref m_rootWhich, .int db, .ref m_signs, .ref m_atNought, .int (nI mn), .ref m_change, .ref m_table, .ref m_carried])), (m_now, .inl (cy 0, 29, .inl nw))] → va_S A s.heap H locs → lv_has ls 3 [(0, .ref ta), (1, .int bq), (2, .int (nI k))] → W p l e R s m args below meth c H locs 0 0 Q (F0 m 16 ls [.int (nI v2), .ref m_now]) := by
    clear hP hD hS hl
    intro v2 H locs ls ev2 hP hD hS hl
    subst ev2
    refine yk_ild hx hb hK hP 1 0 rfl rfl (if bq = 0 then k else (6 + k)) (by split <;> omega) (by decide) dX8_get_16 ?_
    have hF : f_X8_get nw bq k = (nw (if bq = 0 then k else (6 + k))) := hF
    rw [hF] at hQ
    exact hQ _ _ _ _ dX8_get_17 hP hS
  refine lv_if_eq (tgt := 15) hx hb dX8_get_5 (by decide) (fun hc1 => ?_) (fun hc1 => ?_)
  · refine lv_iload_n hx hb dX8_get_15 rfl (lv_at hl 2 rfl) ?_
    exact J3 _ _ _ _ ((if_pos hc1).symm) hP hD hS (lv_sub hl [0, 1, 2] rfl)
  · refine lv_bipush (v := 6) hx hb dX8_get_8 (by decide) ?_
    refine lv_iload_n hx hb dX8_get_10 rfl (lv_at hl 2 rfl) ?_
    refine lv_iadd hx hb dX8_get_11 ?_
    refine yk_ti (y := nI (6 + k)) (nI_add 6 k) ?_
    refine lv_goto (tgt := 16) hx hb dX8_get_12 (by decide) ?_
    exact J3 _ _ _ _ ((if_neg hc1).symm) hP hD hS (lv_sub hl [0, 1, 2] rfl)

theorem kX8_put_0 : Cond.constant RX8 68 (-1000001) ∈ wsX8_put := by decide +kernel
theorem kX8_put_1 : Cond.fieldLink RX8 7 "FlowPlaneModel" "now" "[I" ∈ wsX8_put := by decide +kernel
theorem uX8_put_X8 : ∀ w ∈ u_ws RX8 TX8 23, w ∈ wsX8_put := by decide +kernel
def f_X8_put (nw : Nat → Int32) (un : Nat → Int32) (u : Nat) (fi : Int32) (bq : Int32) (pm : Int32) (pv : Int32) : Int32 × Nat × Int32 × (Nat → Int32) × (Nat → Int32) := (if (f_X8_in pm 0 5) = 0 then (((f_X8_found fi (-1000001)).1), u, ((f_X8_found fi (-1000001)).2), nw, un) else (if (f_X8_in pv (-4) 4) = 0 then (((f_X8_found fi (-1000001)).1), u, ((f_X8_found fi (-1000001)).2), nw, un) else ((f_X8_get nw bq pm.toNatClampNeg), ((f_X8_remember nw un u).1), fi, (upd nw (if bq = 0 then pm.toNatClampNeg else (6 + pm.toNatClampNeg)) pv), ((f_X8_remember nw un u).2))))
set_option maxHeartbeats 400000000 in
set_option maxRecDepth 100000 in
theorem c_X8_put (l : Launch) (D : va_G) (cy : Nat → ClassId) (ta : Nat) (m_now : Nat) (m_undone : Nat) (m_slots : Nat) (m_slotKind : Nat) (m_hasSlot : Nat) (m_sheetBits : Nat) (m_sheetSize : Nat) (m_sheets : Nat) (m_fresh : Nat) (m_rootWhich : Nat) (m_signs : Nat) (m_atNought : Nat) (m_change : Nat) (m_table : Nat) (m_carried : Nat) (nw : Nat → Int32) (un : Nat → Int32) (u : Nat) (fi : Int32) (aa : Int64) (bb : Int64) (dd : Int64) (ro : Nat) (db : Int32) (mn : Nat) (bq : Int32) (pm : Int32) (pv : Int32) (hu : u ≤ 25) : yk_Ci l D vwCl (yk_ty cy) yX8_put wsX8_put 1 22 [.ref ta, .int bq, .int pm, .int pv] [(ta, .inr (8, [.ref m_now, .ref m_undone, .ref m_slots, .ref m_slotKind, .ref m_hasSlot, .ref m_sheetBits, .ref m_sheetSize, .ref m_sheets, .int (nI u), .int fi, .ref m_fresh, .long aa, .long bb, .long dd, .int (nI ro), .ref m_rootWhich, .int db, .ref m_signs, .ref m_atNought, .int (nI mn), .ref m_change, .ref m_table, .ref m_carried])), (m_now, .inl (cy 0, 29, .inl nw)), (m_undone, .inl (cy 0, 725, .inl un))] ((f_X8_put nw un u fi bq pm pv).1) [(ta, .inr (8, [.ref m_now, .ref m_undone, .ref m_slots, .ref m_slotKind, .ref m_hasSlot, .ref m_sheetBits, .ref m_sheetSize, .ref m_sheets, .int (nI ((f_X8_put nw un u fi bq pm pv).2.1)), .int ((f_X8_put nw un u fi bq pm pv).2.2.1), .ref m_fresh, .long aa, .long bb, .long dd, .int (nI ro), .ref m_rootWhich, .int db, .ref m_signs, .ref m_atNought, .int (nI mn), .ref m_change, .ref m_table, .ref m_carried])), (m_now, .inl (cy 0, 29, .inl ((f_X8_put nw un u fi bq pm pv).2.2.2.1))), (m_undone, .inl (cy 0, 725, .inl ((f_X8_put nw un u fi bq pm pv).2.2.2.2)))] := by
  refine yk_eI (cc := cX8_put) (maxL := 5) (by decide) rfl (Nat.le_of_ble_eq_true rfl) rfl ?_
  intro p e R s m args below meth c A Q ls H locs hx hb hml hown hts hRf hRl hA hK hG hP hD hS hl hQ
  have hP : va_P D vwCl [(ta, .inr (8, [.ref m_now, .ref m_undone, .ref m_slots, .ref m_slotKind, .ref m_hasSlot, .ref m_sheetBits, .ref m_sheetSize, .ref m_sheets, .int (nI u), .int fi, .ref m_fresh, .long aa, .long bb, .long dd, .int (nI ro), .ref m_rootWhich, .int db, .ref m_signs, .ref m_atNought, .int (nI mn), .ref m_change, .ref m_table, .ref m_carried])), (m_now, .inl (cy 0, 29, .inl nw)), (m_undone, .inl (cy 0, 725, .inl un))] H := hP
  have hl : lv_has ls 5 [(0, .ref ta), (1, .int bq), (2, .int pm), (3, .int pv)] := hl
  have hown : s.vm.findClass RX8 = some m.cls := hown
  have hF : (f_X8_put nw un u fi bq pm pv) = (f_X8_put nw un u fi bq pm pv) := rfl
  refine lv_iload_n hx hb dX8_put_0 rfl (lv_at hl 2 rfl) ?_
  refine lv_iconst (v := 0) hx hb dX8_put_1 (by decide) ?_
  refine lv_iconst (v := 5) hx hb dX8_put_2 (by decide) ?_
  refine yk_i [] (va_runS (As := [.int pm, .int 0, .int 5]) (rest := []) ⟨hx, hb, hml, hown, hts⟩ (c_X8_in l D cy pm 0 5 H.size) (va_cwS 3 hts gX8_put_X8_in rfl rfl rfl hs_X8_in (yk_room hRf hRl rfl rfl)) (yk_ps hG hA hS hK hP hD [] (by decide +kernel) rfl) rfl rfl hl.1 rfl (lv_room (Nat.le_of_ble_eq_true rfl)) dX8_put_3 ⟨Nat.zero_le _, Nat.zero_le _⟩) hP hD hS hA rfl rfl (fun H locs hP9 hD9 hS9 => ?_)
  replace hP : va_P D vwCl [(ta, .inr (8, [.ref m_now, .ref m_undone, .ref m_slots, .ref m_slotKind, .ref m_hasSlot, .ref m_sheetBits, .ref m_sheetSize, .ref m_sheets, .int (nI u), .int fi, .ref m_fresh, .long aa, .long bb, .long dd, .int (nI ro), .ref m_rootWhich, .int db, .ref m_signs, .ref m_atNought, .int (nI mn), .ref m_change, .ref m_table, .ref m_carried])), (m_now, .inl (cy 0, 29, .inl nw)), (m_undone, .inl (cy 0, 725, .inl un))] H := hP9
  replace hD : va_D A [(ta, .inr (8, [.ref m_now, .ref m_undone, .ref m_slots, .ref m_slotKind, .ref m_hasSlot, .ref m_sheetBits, .ref m_sheetSize, .ref m_sheets, .int (nI u), .int fi, .ref m_fresh, .long aa, .long bb, .long dd, .int (nI ro), .ref m_rootWhich, .int db, .ref m_signs, .ref m_atNought, .int (nI mn), .ref m_change, .ref m_table, .ref m_carried])), (m_now, .inl (cy 0, 29, .inl nw)), (m_undone, .inl (cy 0, 725, .inl un))] := hD9
  replace hS := hS9
  clear hP9 hD9 hS9
  refine lv_if_eq (tgt := 19) hx hb dX8_put_6 (by decide) (fun hc1 => ?_) (fun hc1 => ?_)
  · replace hF := hF.trans (if_pos hc1)
    refine lv_aload_n hx hb dX8_put_19 rfl (lv_at hl 0 rfl) ?_
    refine lv_ldc (v := (-1000001)) hx hb hown (hts _ kX8_put_0) dX8_put_20 ?_
    refine yk_i [0] (va_runV (As := [.int (-1000001)]) (rest := []) ⟨hx, hb, hml, hown, hts⟩ (c_X8_found l D cy ta m_now m_undone m_slots m_slotKind m_hasSlot m_sheetBits m_sheetSize m_sheets m_fresh m_rootWhich m_signs m_atNought m_change m_table m_carried u fi aa bb dd ro db mn (-1000001) H.size) (cwV 1 hts gX8_put_X8_found rfl rfl rfl hv_X8_found (yk_room hRf hRl rfl rfl)) (yk_pv (q := (RX8, TX8, 23)) hG hA hS hK hP hD [0] (by decide +kernel) rfl rfl rfl) rfl rfl hl.1 rfl (lv_room (Nat.le_of_ble_eq_true rfl)) dX8_put_22 ⟨Nat.zero_le _, Nat.zero_le _⟩) hP hD hS hA rfl rfl (fun H locs hP9 hD9 hS9 => ?_)
    replace hP : va_P D vwCl [(ta, .inr (8, [.ref m_now, .ref m_undone, .ref m_slots, .ref m_slotKind, .ref m_hasSlot, .ref m_sheetBits, .ref m_sheetSize, .ref m_sheets, .int (nI u), .int ((f_X8_found fi (-1000001)).2), .ref m_fresh, .long aa, .long bb, .long dd, .int (nI ro), .ref m_rootWhich, .int db, .ref m_signs, .ref m_atNought, .int (nI mn), .ref m_change, .ref m_table, .ref m_carried])), (m_now, .inl (cy 0, 29, .inl nw)), (m_undone, .inl (cy 0, 725, .inl un))] H := hP9
    replace hD : va_D A [(ta, .inr (8, [.ref m_now, .ref m_undone, .ref m_slots, .ref m_slotKind, .ref m_hasSlot, .ref m_sheetBits, .ref m_sheetSize, .ref m_sheets, .int (nI u), .int ((f_X8_found fi (-1000001)).2), .ref m_fresh, .long aa, .long bb, .long dd, .int (nI ro), .ref m_rootWhich, .int db, .ref m_signs, .ref m_atNought, .int (nI mn), .ref m_change, .ref m_table, .ref m_carried])), (m_now, .inl (cy 0, 29, .inl nw)), (m_undone, .inl (cy 0, 725, .inl un))] := hD9
    replace hS := hS9
    clear hP9 hD9 hS9
    have hF : f_X8_put nw un u fi bq pm pv = (((f_X8_found fi (-1000001)).1), u, ((f_X8_found fi (-1000001)).2), nw, un) := hF
    have hf0 := yk_fst hF
    have hg0 := yk_snd hF
    have hf1 := yk_fst hg0
    have hg1 := yk_snd hg0
    have hf2 := yk_fst hg1
    have hg2 := yk_snd hg1
    have hf3 := yk_fst hg2
    have hg3 := yk_snd hg2
    rw [hf0, hf1, hf2, hf3, hg3] at hQ
    exact hQ _ _ _ _ dX8_put_25 hP hS
  · replace hF := hF.trans (if_neg hc1)
    refine lv_iload_n hx hb dX8_put_9 rfl (lv_at hl 3 rfl) ?_
    refine lv_bipush (v := (-4)) hx hb dX8_put_10 (by decide) ?_
    refine lv_iconst (v := 4) hx hb dX8_put_12 (by decide) ?_
    refine yk_i [] (va_runS (As := [.int pv, .int (-4), .int 4]) (rest := []) ⟨hx, hb, hml, hown, hts⟩ (c_X8_in l D cy pv (-4) 4 H.size) (va_cwS 3 hts gX8_put_X8_in rfl rfl rfl hs_X8_in (yk_room hRf hRl rfl rfl)) (yk_ps hG hA hS hK hP hD [] (by decide +kernel) rfl) rfl rfl hl.1 rfl (lv_room (Nat.le_of_ble_eq_true rfl)) dX8_put_13 ⟨Nat.zero_le _, Nat.zero_le _⟩) hP hD hS hA rfl rfl (fun H locs hP9 hD9 hS9 => ?_)
    replace hP : va_P D vwCl [(ta, .inr (8, [.ref m_now, .ref m_undone, .ref m_slots, .ref m_slotKind, .ref m_hasSlot, .ref m_sheetBits, .ref m_sheetSize, .ref m_sheets, .int (nI u), .int fi, .ref m_fresh, .long aa, .long bb, .long dd, .int (nI ro), .ref m_rootWhich, .int db, .ref m_signs, .ref m_atNought, .int (nI mn), .ref m_change, .ref m_table, .ref m_carried])), (m_now, .inl (cy 0, 29, .inl nw)), (m_undone, .inl (cy 0, 725, .inl un))] H := hP9
    replace hD : va_D A [(ta, .inr (8, [.ref m_now, .ref m_undone, .ref m_slots, .ref m_slotKind, .ref m_hasSlot, .ref m_sheetBits, .ref m_sheetSize, .ref m_sheets, .int (nI u), .int fi, .ref m_fresh, .long aa, .long bb, .long dd, .int (nI ro), .ref m_rootWhich, .int db, .ref m_signs, .ref m_atNought, .int (nI mn), .ref m_change, .ref m_table, .ref m_carried])), (m_now, .inl (cy 0, 29, .inl nw)), (m_undone, .inl (cy 0, 725, .inl un))] := hD9
    replace hS := hS9
    clear hP9 hD9 hS9
    refine lv_if_ne (tgt := 26) hx hb dX8_put_16 (by decide) (fun hc2 => ?_) (fun hc2 => ?_)
    · replace hF := hF.trans (if_neg hc2)
      have hq3 : pm = nI pm.toNatClampNeg := (ix_in (N := 6) (b := 5) (by decide) rfl (by decide) (by assumption)).1
      have hq3b : pm.toNatClampNeg < 6 := (ix_in (N := 6) (b := 5) (by decide) rfl (by decide) (by assumption)).2
      rw [hq3] at hl
      refine lv_aload_n hx hb dX8_put_26 rfl (lv_at hl 0 rfl) ?_
      refine yk_v [0, 1, 2] (va_runV (As := []) (rest := []) ⟨hx, hb, hml, hown, hts⟩ (c_X8_remember l D cy ta m_now m_undone m_slots m_slotKind m_hasSlot m_sheetBits m_sheetSize m_sheets m_fresh m_rootWhich m_signs m_atNought m_change m_table m_carried nw un u fi aa bb dd ro db mn (by first | assumption | omega) H.size) (cwV 0 hts gX8_put_X8_remember rfl rfl rfl hv_X8_remember (yk_room hRf hRl rfl rfl)) (yk_pv (q := (RX8, TX8, 23)) hG hA hS hK hP hD [0, 1, 2] (by decide +kernel) rfl rfl rfl) rfl rfl hl.1 rfl (lv_room (Nat.le_of_ble_eq_true rfl)) dX8_put_27 ⟨Nat.zero_le _, Nat.zero_le _⟩) hP hD hS hA rfl rfl (fun H locs hP9 hD9 hS9 => ?_)
      replace hP : va_P D vwCl [(ta, .inr (8, [.ref m_now, .ref m_undone, .ref m_slots, .ref m_slotKind, .ref m_hasSlot, .ref m_sheetBits, .ref m_sheetSize, .ref m_sheets, .int (nI ((f_X8_remember nw un u).1)), .int fi, .ref m_fresh, .long aa, .long bb, .long dd, .int (nI ro), .ref m_rootWhich, .int db, .ref m_signs, .ref m_atNought, .int (nI mn), .ref m_change, .ref m_table, .ref m_carried])), (m_now, .inl (cy 0, 29, .inl nw)), (m_undone, .inl (cy 0, 725, .inl ((f_X8_remember nw un u).2)))] H := hP9
      replace hD : va_D A [(ta, .inr (8, [.ref m_now, .ref m_undone, .ref m_slots, .ref m_slotKind, .ref m_hasSlot, .ref m_sheetBits, .ref m_sheetSize, .ref m_sheets, .int (nI ((f_X8_remember nw un u).1)), .int fi, .ref m_fresh, .long aa, .long bb, .long dd, .int (nI ro), .ref m_rootWhich, .int db, .ref m_signs, .ref m_atNought, .int (nI mn), .ref m_change, .ref m_table, .ref m_carried])), (m_now, .inl (cy 0, 29, .inl nw)), (m_undone, .inl (cy 0, 725, .inl ((f_X8_remember nw un u).2)))] := hD9
      replace hS := hS9
      clear hP9 hD9 hS9
      refine lv_aload_n hx hb dX8_put_30 rfl (lv_at hl 0 rfl) ?_
      refine lv_iload_n hx hb dX8_put_31 rfl (lv_at hl 1 rfl) ?_
      refine lv_iload_n hx hb dX8_put_32 rfl (lv_at hl 2 rfl) ?_
      refine yk_i [0, 1] (va_runV (As := [.int bq, .int (nI pm.toNatClampNeg)]) (rest := []) ⟨hx, hb, hml, hown, hts⟩ (c_X8_get l D cy ta m_now m_undone m_slots m_slotKind m_hasSlot m_sheetBits m_sheetSize m_sheets m_fresh m_rootWhich m_signs m_atNought m_change m_table m_carried nw ((f_X8_remember nw un u).1) fi aa bb dd ro db mn bq pm.toNatClampNeg (by first | assumption | omega) H.size) (cwV 2 hts gX8_put_X8_get rfl rfl rfl hv_X8_get (yk_room hRf hRl rfl rfl)) (yk_pv (q := (RX8, TX8, 23)) hG hA hS hK hP hD [0, 1] (by decide +kernel) rfl rfl rfl) rfl rfl hl.1 rfl (lv_room (Nat.le_of_ble_eq_true rfl)) dX8_put_33 ⟨Nat.zero_le _, Nat.zero_le _⟩) hP hD hS hA rfl rfl (fun H locs hP9 hD9 hS9 => ?_)
      replace hP : va_P D vwCl [(ta, .inr (8, [.ref m_now, .ref m_undone, .ref m_slots, .ref m_slotKind, .ref m_hasSlot, .ref m_sheetBits, .ref m_sheetSize, .ref m_sheets, .int (nI ((f_X8_remember nw un u).1)), .int fi, .ref m_fresh, .long aa, .long bb, .long dd, .int (nI ro), .ref m_rootWhich, .int db, .ref m_signs, .ref m_atNought, .int (nI mn), .ref m_change, .ref m_table, .ref m_carried])), (m_now, .inl (cy 0, 29, .inl nw)), (m_undone, .inl (cy 0, 725, .inl ((f_X8_remember nw un u).2)))] H := hP9
      replace hD : va_D A [(ta, .inr (8, [.ref m_now, .ref m_undone, .ref m_slots, .ref m_slotKind, .ref m_hasSlot, .ref m_sheetBits, .ref m_sheetSize, .ref m_sheets, .int (nI ((f_X8_remember nw un u).1)), .int fi, .ref m_fresh, .long aa, .long bb, .long dd, .int (nI ro), .ref m_rootWhich, .int db, .ref m_signs, .ref m_atNought, .int (nI mn), .ref m_change, .ref m_table, .ref m_carried])), (m_now, .inl (cy 0, 29, .inl nw)), (m_undone, .inl (cy 0, 725, .inl ((f_X8_remember nw un u).2)))] := hD9
      replace hS := hS9
      clear hP9 hD9 hS9
      refine lv_istore (lv' := [(4, .int (f_X8_get nw bq pm.toNatClampNeg)), (0, .ref ta), (1, .int bq), (2, .int (nI pm.toNatClampNeg)), (3, .int pv)]) hx hb dX8_put_36 hl (by decide) rfl (fun ls hl9 => ?_)
      replace hl := hl9
      clear hl9
      refine lv_aload_n hx hb dX8_put_38 rfl (lv_at hl 1 rfl) ?_
      refine va_get (D := D) (ci := 8) (v := .ref m_now) (C := RX8) (T := TX8) (N := 23) hx hb hts uX8_put_X8 hown hK hP 0 rfl rfl 0 (by decide) (hts _ kX8_put_1) (fun _ h9 => h9) rfl dX8_put_39 ?_
      refine lv_iload_n hx hb dX8_put_42 rfl (lv_at hl 2 rfl) ?_
      have J6 : ∀ (v5 : Nat) (H : Heap) (locs : List Loc) (ls : Array Slot), v5 = (if bq = 0 then pm.toNatClampNeg else (6 + pm.toNatClampNeg)) → va_P D vwCl [(ta, .inr (8, [.ref m_now, .ref m_undone, .ref m_slots, .ref m_slotKind, .ref m_hasSlot, .ref m_sheetBits, .ref m_sheetSize, .ref m_sheets, .int (nI ((f_X8_remember nw un u).1)), .int fi, .ref m_fresh, .long aa, .long bb, .long dd, .int (nI ro), .ref m_rootWhich, .int db, .ref m_signs, .ref m_atNought, .int (nI mn), .ref m_change, .ref m_table, .ref m_carried])), (m_now, .inl (cy 0, 29, .inl nw)), (m_undone, .inl (cy 0, 725, .inl ((f_X8_remember nw un u).2)))] H → va_D A [(ta, .inr (8, [.ref m_now, .ref m_undone, .ref m_slots, .ref m_slotKind, .ref m_hasSlot, .ref m_sheetBits, .ref m_sheetSize, .ref m_sheets, .int (nI ((f_X8_remember nw un u).1)), .int fi, .ref m_fresh, .long aa, .long bb, .long dd, .int (nI ro), .ref m_rootWhich, .int db, .ref m_signs, .ref m_atNought, .int (nI mn), .ref m_change, .ref m_table, .ref m_carried])), (m_now, .inl (cy 0, 29, .inl nw)), (m_undone, .inl (cy 0, 725, .inl ((f_X8_remember nw un u).2)))] → va_S A s.heap H locs → lv_has ls 5 [(0, .ref ta), (1, .int bq), (2, .int (nI pm.toNatClampNeg)), (3, .int pv), (4, .int (f_X8_get nw bq pm.toNatClampNeg))] → W p l e R s m args below meth c H locs 0 0 Q (F0 m 54 ls [.int (nI v5), .ref m_now]) := by
        clear hP hD hS hl
        intro v5 H locs ls ev5 hP hD hS hl
        subst ev5
        refine lv_iload_n hx hb dX8_put_54 rfl (lv_at hl 3 rfl) ?_
        refine yk_ist hx hb hK hP hD hS 1 0 rfl rfl (if bq = 0 then pm.toNatClampNeg else (6 + pm.toNatClampNeg)) (by split <;> omega) (by decide) dX8_put_55 (fun H locs hP9 hD9 hS9 => ?_)
        replace hP : va_P D vwCl [(ta, .inr (8, [.ref m_now, .ref m_undone, .ref m_slots, .ref m_slotKind, .ref m_hasSlot, .ref m_sheetBits, .ref m_sheetSize, .ref m_sheets, .int (nI ((f_X8_remember nw un u).1)), .int fi, .ref m_fresh, .long aa, .long bb, .long dd, .int (nI ro), .ref m_rootWhich, .int db, .ref m_signs, .ref m_atNought, .int (nI mn), .ref m_change, .ref m_table, .ref m_carried])), (m_now, .inl (cy 0, 29, .inl (upd nw (if bq = 0 then pm.toNatClampNeg else (6 + pm.toNatClampNeg)) pv))), (m_undone, .inl (cy 0, 725, .inl ((f_X8_remember nw un u).2)))] H := hP9
        replace hD : va_D A [(ta, .inr (8, [.ref m_now, .ref m_undone, .ref m_slots, .ref m_slotKind, .ref m_hasSlot, .ref m_sheetBits, .ref m_sheetSize, .ref m_sheets, .int (nI ((f_X8_remember nw un u).1)), .int fi, .ref m_fresh, .long aa, .long bb, .long dd, .int (nI ro), .ref m_rootWhich, .int db, .ref m_signs, .ref m_atNought, .int (nI mn), .ref m_change, .ref m_table, .ref m_carried])), (m_now, .inl (cy 0, 29, .inl (upd nw (if bq = 0 then pm.toNatClampNeg else (6 + pm.toNatClampNeg)) pv))), (m_undone, .inl (cy 0, 725, .inl ((f_X8_remember nw un u).2)))] := hD9
        replace hS := hS9
        clear hP9 hD9 hS9
        refine lv_iload hx hb dX8_put_56 (lv_at hl 4 rfl) ?_
        have hF : f_X8_put nw un u fi bq pm pv = ((f_X8_get nw bq pm.toNatClampNeg), ((f_X8_remember nw un u).1), fi, (upd nw (if bq = 0 then pm.toNatClampNeg else (6 + pm.toNatClampNeg)) pv), ((f_X8_remember nw un u).2)) := hF
        have hf0 := yk_fst hF
        have hg0 := yk_snd hF
        have hf1 := yk_fst hg0
        have hg1 := yk_snd hg0
        have hf2 := yk_fst hg1
        have hg2 := yk_snd hg1
        have hf3 := yk_fst hg2
        have hg3 := yk_snd hg2
        rw [hf0, hf1, hf2, hf3, hg3] at hQ
        exact hQ _ _ _ _ dX8_put_58 hP hS
      refine lv_if_eq (tgt := 53) hx hb dX8_put_43 (by decide) (fun hc4 => ?_) (fun hc4 => ?_)
      · refine lv_iload_n hx hb dX8_put_53 rfl (lv_at hl 3 rfl) ?_
        exact J6 _ _ _ _ ((if_pos hc4).symm) hP hD hS (lv_sub hl [1, 2, 3, 4, 0] rfl)
      · refine lv_bipush (v := 6) hx hb dX8_put_46 (by decide) ?_
        refine lv_iload_n hx hb dX8_put_48 rfl (lv_at hl 3 rfl) ?_
        refine lv_iadd hx hb dX8_put_49 ?_
        refine yk_ti (y := nI (6 + pm.toNatClampNeg)) (nI_add 6 pm.toNatClampNeg) ?_
        refine lv_goto (tgt := 54) hx hb dX8_put_50 (by decide) ?_
        exact J6 _ _ _ _ ((if_neg hc4).symm) hP hD hS (lv_sub hl [1, 2, 3, 4, 0] rfl)
    · replace hF := hF.trans (if_pos hc2)
      refine lv_aload_n hx hb dX8_put_19 rfl (lv_at hl 0 rfl) ?_
      refine lv_ldc (v := (-1000001)) hx hb hown (hts _ kX8_put_0) dX8_put_20 ?_
      refine yk_i [0] (va_runV (As := [.int (-1000001)]) (rest := []) ⟨hx, hb, hml, hown, hts⟩ (c_X8_found l D cy ta m_now m_undone m_slots m_slotKind m_hasSlot m_sheetBits m_sheetSize m_sheets m_fresh m_rootWhich m_signs m_atNought m_change m_table m_carried u fi aa bb dd ro db mn (-1000001) H.size) (cwV 1 hts gX8_put_X8_found rfl rfl rfl hv_X8_found (yk_room hRf hRl rfl rfl)) (yk_pv (q := (RX8, TX8, 23)) hG hA hS hK hP hD [0] (by decide +kernel) rfl rfl rfl) rfl rfl hl.1 rfl (lv_room (Nat.le_of_ble_eq_true rfl)) dX8_put_22 ⟨Nat.zero_le _, Nat.zero_le _⟩) hP hD hS hA rfl rfl (fun H locs hP9 hD9 hS9 => ?_)
      replace hP : va_P D vwCl [(ta, .inr (8, [.ref m_now, .ref m_undone, .ref m_slots, .ref m_slotKind, .ref m_hasSlot, .ref m_sheetBits, .ref m_sheetSize, .ref m_sheets, .int (nI u), .int ((f_X8_found fi (-1000001)).2), .ref m_fresh, .long aa, .long bb, .long dd, .int (nI ro), .ref m_rootWhich, .int db, .ref m_signs, .ref m_atNought, .int (nI mn), .ref m_change, .ref m_table, .ref m_carried])), (m_now, .inl (cy 0, 29, .inl nw)), (m_undone, .inl (cy 0, 725, .inl un))] H := hP9
      replace hD : va_D A [(ta, .inr (8, [.ref m_now, .ref m_undone, .ref m_slots, .ref m_slotKind, .ref m_hasSlot, .ref m_sheetBits, .ref m_sheetSize, .ref m_sheets, .int (nI u), .int ((f_X8_found fi (-1000001)).2), .ref m_fresh, .long aa, .long bb, .long dd, .int (nI ro), .ref m_rootWhich, .int db, .ref m_signs, .ref m_atNought, .int (nI mn), .ref m_change, .ref m_table, .ref m_carried])), (m_now, .inl (cy 0, 29, .inl nw)), (m_undone, .inl (cy 0, 725, .inl un))] := hD9
      replace hS := hS9
      clear hP9 hD9 hS9
      have hF : f_X8_put nw un u fi bq pm pv = (((f_X8_found fi (-1000001)).1), u, ((f_X8_found fi (-1000001)).2), nw, un) := hF
      have hf0 := yk_fst hF
      have hg0 := yk_snd hF
      have hf1 := yk_fst hg0
      have hg1 := yk_snd hg0
      have hf2 := yk_fst hg1
      have hg2 := yk_snd hg1
      have hf3 := yk_fst hg2
      have hg3 := yk_snd hg2
      rw [hf0, hf1, hf2, hf3, hg3] at hQ
      exact hQ _ _ _ _ dX8_put_25 hP hS

theorem kX8_number_0 : Cond.constant RX8 68 (-1000001) ∈ wsX8_number := by decide +kernel
def f_X8_number (nw : Nat → Int32) (fi : Int32) (bq : Int32) (pm : Int32) : Int32 × Int32 := ((if (f_X8_in pm 0 5) = 0 then (f_X8_found fi (-1000001)).1 else (f_X8_get nw bq pm.toNatClampNeg)), (if (f_X8_in pm 0 5) = 0 then (f_X8_found fi (-1000001)).2 else fi))
set_option maxHeartbeats 400000000 in
set_option maxRecDepth 100000 in
theorem c_X8_number (l : Launch) (D : va_G) (cy : Nat → ClassId) (ta : Nat) (m_now : Nat) (m_undone : Nat) (m_slots : Nat) (m_slotKind : Nat) (m_hasSlot : Nat) (m_sheetBits : Nat) (m_sheetSize : Nat) (m_sheets : Nat) (m_fresh : Nat) (m_rootWhich : Nat) (m_signs : Nat) (m_atNought : Nat) (m_change : Nat) (m_table : Nat) (m_carried : Nat) (nw : Nat → Int32) (u : Nat) (fi : Int32) (aa : Int64) (bb : Int64) (dd : Int64) (ro : Nat) (db : Int32) (mn : Nat) (bq : Int32) (pm : Int32) : yk_Ci l D vwCl (yk_ty cy) yX8_number wsX8_number 1 22 [.ref ta, .int bq, .int pm] [(ta, .inr (8, [.ref m_now, .ref m_undone, .ref m_slots, .ref m_slotKind, .ref m_hasSlot, .ref m_sheetBits, .ref m_sheetSize, .ref m_sheets, .int (nI u), .int fi, .ref m_fresh, .long aa, .long bb, .long dd, .int (nI ro), .ref m_rootWhich, .int db, .ref m_signs, .ref m_atNought, .int (nI mn), .ref m_change, .ref m_table, .ref m_carried])), (m_now, .inl (cy 0, 29, .inl nw))] ((f_X8_number nw fi bq pm).1) [(ta, .inr (8, [.ref m_now, .ref m_undone, .ref m_slots, .ref m_slotKind, .ref m_hasSlot, .ref m_sheetBits, .ref m_sheetSize, .ref m_sheets, .int (nI u), .int ((f_X8_number nw fi bq pm).2), .ref m_fresh, .long aa, .long bb, .long dd, .int (nI ro), .ref m_rootWhich, .int db, .ref m_signs, .ref m_atNought, .int (nI mn), .ref m_change, .ref m_table, .ref m_carried])), (m_now, .inl (cy 0, 29, .inl nw))] := by
  refine yk_eI (cc := cX8_number) (maxL := 3) (by decide) rfl (Nat.le_of_ble_eq_true rfl) rfl ?_
  intro p e R s m args below meth c A Q ls H locs hx hb hml hown hts hRf hRl hA hK hG hP hD hS hl hQ
  have hP : va_P D vwCl [(ta, .inr (8, [.ref m_now, .ref m_undone, .ref m_slots, .ref m_slotKind, .ref m_hasSlot, .ref m_sheetBits, .ref m_sheetSize, .ref m_sheets, .int (nI u), .int fi, .ref m_fresh, .long aa, .long bb, .long dd, .int (nI ro), .ref m_rootWhich, .int db, .ref m_signs, .ref m_atNought, .int (nI mn), .ref m_change, .ref m_table, .ref m_carried])), (m_now, .inl (cy 0, 29, .inl nw))] H := hP
  have hl : lv_has ls 3 [(0, .ref ta), (1, .int bq), (2, .int pm)] := hl
  have hown : s.vm.findClass RX8 = some m.cls := hown
  have hF : (f_X8_number nw fi bq pm) = (f_X8_number nw fi bq pm) := rfl
  refine lv_iload_n hx hb dX8_number_0 rfl (lv_at hl 2 rfl) ?_
  refine lv_iconst (v := 0) hx hb dX8_number_1 (by decide) ?_
  refine lv_iconst (v := 5) hx hb dX8_number_2 (by decide) ?_
  refine yk_i [] (va_runS (As := [.int pm, .int 0, .int 5]) (rest := []) ⟨hx, hb, hml, hown, hts⟩ (c_X8_in l D cy pm 0 5 H.size) (va_cwS 3 hts gX8_number_X8_in rfl rfl rfl hs_X8_in (yk_room hRf hRl rfl rfl)) (yk_ps hG hA hS hK hP hD [] (by decide +kernel) rfl) rfl rfl hl.1 rfl (lv_room (Nat.le_of_ble_eq_true rfl)) dX8_number_3 ⟨Nat.zero_le _, Nat.zero_le _⟩) hP hD hS hA rfl rfl (fun H locs hP9 hD9 hS9 => ?_)
  replace hP : va_P D vwCl [(ta, .inr (8, [.ref m_now, .ref m_undone, .ref m_slots, .ref m_slotKind, .ref m_hasSlot, .ref m_sheetBits, .ref m_sheetSize, .ref m_sheets, .int (nI u), .int fi, .ref m_fresh, .long aa, .long bb, .long dd, .int (nI ro), .ref m_rootWhich, .int db, .ref m_signs, .ref m_atNought, .int (nI mn), .ref m_change, .ref m_table, .ref m_carried])), (m_now, .inl (cy 0, 29, .inl nw))] H := hP9
  replace hD : va_D A [(ta, .inr (8, [.ref m_now, .ref m_undone, .ref m_slots, .ref m_slotKind, .ref m_hasSlot, .ref m_sheetBits, .ref m_sheetSize, .ref m_sheets, .int (nI u), .int fi, .ref m_fresh, .long aa, .long bb, .long dd, .int (nI ro), .ref m_rootWhich, .int db, .ref m_signs, .ref m_atNought, .int (nI mn), .ref m_change, .ref m_table, .ref m_carried])), (m_now, .inl (cy 0, 29, .inl nw))] := hD9
  replace hS := hS9
  clear hP9 hD9 hS9
  have J6 : ∀ (v3 : Int32) (v4 : Int32) (v5 : Int32) (H : Heap) (locs : List Loc) (ls : Array Slot), v3 = (if (f_X8_in pm 0 5) = 0 then pm else nI pm.toNatClampNeg) → v4 = (if (f_X8_in pm 0 5) = 0 then (f_X8_found fi (-1000001)).2 else fi) → v5 = (if (f_X8_in pm 0 5) = 0 then (f_X8_found fi (-1000001)).1 else (f_X8_get nw bq pm.toNatClampNeg)) → va_P D vwCl [(ta, .inr (8, [.ref m_now, .ref m_undone, .ref m_slots, .ref m_slotKind, .ref m_hasSlot, .ref m_sheetBits, .ref m_sheetSize, .ref m_sheets, .int (nI u), .int v4, .ref m_fresh, .long aa, .long bb, .long dd, .int (nI ro), .ref m_rootWhich, .int db, .ref m_signs, .ref m_atNought, .int (nI mn), .ref m_change, .ref m_table, .ref m_carried])), (m_now, .inl (cy 0, 29, .inl nw))] H → va_D A [(ta, .inr (8, [.ref m_now, .ref m_undone, .ref m_slots, .ref m_slotKind, .ref m_hasSlot, .ref m_sheetBits, .ref m_sheetSize, .ref m_sheets, .int (nI u), .int v4, .ref m_fresh, .long aa, .long bb, .long dd, .int (nI ro), .ref m_rootWhich, .int db, .ref m_signs, .ref m_atNought, .int (nI mn), .ref m_change, .ref m_table, .ref m_carried])), (m_now, .inl (cy 0, 29, .inl nw))] → va_S A s.heap H locs → lv_has ls 3 [(0, .ref ta), (1, .int bq), (2, .int v3)] → W p l e R s m args below meth c H locs 0 0 Q (F0 m 24 ls [.int v5]) := by
    clear hP hD hS hl
    intro v3 v4 v5 H locs ls ev3 ev4 ev5 hP hD hS hl
    subst ev3
    subst ev4
    subst ev5
    have hF : f_X8_number nw fi bq pm = ((if (f_X8_in pm 0 5) = 0 then (f_X8_found fi (-1000001)).1 else (f_X8_get nw bq pm.toNatClampNeg)), (if (f_X8_in pm 0 5) = 0 then (f_X8_found fi (-1000001)).2 else fi)) := hF
    have hf0 := yk_fst hF
    have hg0 := yk_snd hF
    rw [hf0, hg0] at hQ
    exact hQ _ _ _ _ dX8_number_24 hP hS
  refine lv_if_eq (tgt := 18) hx hb dX8_number_6 (by decide) (fun hc1 => ?_) (fun hc1 => ?_)
  · refine lv_aload_n hx hb dX8_number_18 rfl (lv_at hl 0 rfl) ?_
    refine lv_ldc (v := (-1000001)) hx hb hown (hts _ kX8_number_0) dX8_number_19 ?_
    refine yk_i [0] (va_runV (As := [.int (-1000001)]) (rest := []) ⟨hx, hb, hml, hown, hts⟩ (c_X8_found l D cy ta m_now m_undone m_slots m_slotKind m_hasSlot m_sheetBits m_sheetSize m_sheets m_fresh m_rootWhich m_signs m_atNought m_change m_table m_carried u fi aa bb dd ro db mn (-1000001) H.size) (cwV 1 hts gX8_number_X8_found rfl rfl rfl hv_X8_found (yk_room hRf hRl rfl rfl)) (yk_pv (q := (RX8, TX8, 23)) hG hA hS hK hP hD [0] (by decide +kernel) rfl rfl rfl) rfl rfl hl.1 rfl (lv_room (Nat.le_of_ble_eq_true rfl)) dX8_number_21 ⟨Nat.zero_le _, Nat.zero_le _⟩) hP hD hS hA rfl rfl (fun H locs hP9 hD9 hS9 => ?_)
    replace hP : va_P D vwCl [(ta, .inr (8, [.ref m_now, .ref m_undone, .ref m_slots, .ref m_slotKind, .ref m_hasSlot, .ref m_sheetBits, .ref m_sheetSize, .ref m_sheets, .int (nI u), .int ((f_X8_found fi (-1000001)).2), .ref m_fresh, .long aa, .long bb, .long dd, .int (nI ro), .ref m_rootWhich, .int db, .ref m_signs, .ref m_atNought, .int (nI mn), .ref m_change, .ref m_table, .ref m_carried])), (m_now, .inl (cy 0, 29, .inl nw))] H := hP9
    replace hD : va_D A [(ta, .inr (8, [.ref m_now, .ref m_undone, .ref m_slots, .ref m_slotKind, .ref m_hasSlot, .ref m_sheetBits, .ref m_sheetSize, .ref m_sheets, .int (nI u), .int ((f_X8_found fi (-1000001)).2), .ref m_fresh, .long aa, .long bb, .long dd, .int (nI ro), .ref m_rootWhich, .int db, .ref m_signs, .ref m_atNought, .int (nI mn), .ref m_change, .ref m_table, .ref m_carried])), (m_now, .inl (cy 0, 29, .inl nw))] := hD9
    replace hS := hS9
    clear hP9 hD9 hS9
    exact J6 _ _ _ _ _ _ ((if_pos hc1).symm) ((if_pos hc1).symm) ((if_pos hc1).symm) hP hD hS (lv_sub hl [0, 1, 2] rfl)
  · have hq2 : pm = nI pm.toNatClampNeg := (ix_in (N := 6) (b := 5) (by decide) rfl (by decide) (by assumption)).1
    have hq2b : pm.toNatClampNeg < 6 := (ix_in (N := 6) (b := 5) (by decide) rfl (by decide) (by assumption)).2
    rw [hq2] at hl
    refine lv_aload_n hx hb dX8_number_9 rfl (lv_at hl 0 rfl) ?_
    refine lv_iload_n hx hb dX8_number_10 rfl (lv_at hl 1 rfl) ?_
    refine lv_iload_n hx hb dX8_number_11 rfl (lv_at hl 2 rfl) ?_
    refine yk_i [0, 1] (va_runV (As := [.int bq, .int (nI pm.toNatClampNeg)]) (rest := []) ⟨hx, hb, hml, hown, hts⟩ (c_X8_get l D cy ta m_now m_undone m_slots m_slotKind m_hasSlot m_sheetBits m_sheetSize m_sheets m_fresh m_rootWhich m_signs m_atNought m_change m_table m_carried nw u fi aa bb dd ro db mn bq pm.toNatClampNeg (by first | assumption | omega) H.size) (cwV 2 hts gX8_number_X8_get rfl rfl rfl hv_X8_get (yk_room hRf hRl rfl rfl)) (yk_pv (q := (RX8, TX8, 23)) hG hA hS hK hP hD [0, 1] (by decide +kernel) rfl rfl rfl) rfl rfl hl.1 rfl (lv_room (Nat.le_of_ble_eq_true rfl)) dX8_number_12 ⟨Nat.zero_le _, Nat.zero_le _⟩) hP hD hS hA rfl rfl (fun H locs hP9 hD9 hS9 => ?_)
    replace hP : va_P D vwCl [(ta, .inr (8, [.ref m_now, .ref m_undone, .ref m_slots, .ref m_slotKind, .ref m_hasSlot, .ref m_sheetBits, .ref m_sheetSize, .ref m_sheets, .int (nI u), .int fi, .ref m_fresh, .long aa, .long bb, .long dd, .int (nI ro), .ref m_rootWhich, .int db, .ref m_signs, .ref m_atNought, .int (nI mn), .ref m_change, .ref m_table, .ref m_carried])), (m_now, .inl (cy 0, 29, .inl nw))] H := hP9
    replace hD : va_D A [(ta, .inr (8, [.ref m_now, .ref m_undone, .ref m_slots, .ref m_slotKind, .ref m_hasSlot, .ref m_sheetBits, .ref m_sheetSize, .ref m_sheets, .int (nI u), .int fi, .ref m_fresh, .long aa, .long bb, .long dd, .int (nI ro), .ref m_rootWhich, .int db, .ref m_signs, .ref m_atNought, .int (nI mn), .ref m_change, .ref m_table, .ref m_carried])), (m_now, .inl (cy 0, 29, .inl nw))] := hD9
    replace hS := hS9
    clear hP9 hD9 hS9
    refine lv_goto (tgt := 24) hx hb dX8_number_15 (by decide) ?_
    exact J6 _ _ _ _ _ _ ((if_neg hc1).symm) ((if_neg hc1).symm) ((if_neg hc1).symm) hP hD hS (lv_sub hl [0, 1, 2] rfl)

def f_X8_speedAt (nw : Nat → Int32) (px : Int32) (py : Int32) (bq : Int32) : Int32 := ((((((f_X8_get nw bq 0) + ((f_X8_get nw bq 1) * px)) + ((f_X8_get nw bq 2) * py)) + (((f_X8_get nw bq 3) * px) * px)) + (((f_X8_get nw bq 4) * px) * py)) + (((f_X8_get nw bq 5) * py) * py))
set_option maxHeartbeats 400000000 in
set_option maxRecDepth 100000 in
theorem c_X8_speedAt (l : Launch) (D : va_G) (cy : Nat → ClassId) (ta : Nat) (m_now : Nat) (m_undone : Nat) (m_slots : Nat) (m_slotKind : Nat) (m_hasSlot : Nat) (m_sheetBits : Nat) (m_sheetSize : Nat) (m_sheets : Nat) (m_fresh : Nat) (m_rootWhich : Nat) (m_signs : Nat) (m_atNought : Nat) (m_change : Nat) (m_table : Nat) (m_carried : Nat) (nw : Nat → Int32) (u : Nat) (fi : Int32) (aa : Int64) (bb : Int64) (dd : Int64) (ro : Nat) (db : Int32) (mn : Nat) (px : Int32) (py : Int32) (bq : Int32) : yk_Ci l D vwCl (yk_ty cy) yX8_speedAt wsX8_speedAt 1 22 [.ref ta, .int px, .int py, .int bq] [(ta, .inr (8, [.ref m_now, .ref m_undone, .ref m_slots, .ref m_slotKind, .ref m_hasSlot, .ref m_sheetBits, .ref m_sheetSize, .ref m_sheets, .int (nI u), .int fi, .ref m_fresh, .long aa, .long bb, .long dd, .int (nI ro), .ref m_rootWhich, .int db, .ref m_signs, .ref m_atNought, .int (nI mn), .ref m_change, .ref m_table, .ref m_carried])), (m_now, .inl (cy 0, 29, .inl nw))] (f_X8_speedAt nw px py bq) [(ta, .inr (8, [.ref m_now, .ref m_undone, .ref m_slots, .ref m_slotKind, .ref m_hasSlot, .ref m_sheetBits, .ref m_sheetSize, .ref m_sheets, .int (nI u), .int fi, .ref m_fresh, .long aa, .long bb, .long dd, .int (nI ro), .ref m_rootWhich, .int db, .ref m_signs, .ref m_atNought, .int (nI mn), .ref m_change, .ref m_table, .ref m_carried])), (m_now, .inl (cy 0, 29, .inl nw))] := by
  refine yk_eI (cc := cX8_speedAt) (maxL := 4) (by decide) rfl (Nat.le_of_ble_eq_true rfl) rfl ?_
  intro p e R s m args below meth c A Q ls H locs hx hb hml hown hts hRf hRl hA hK hG hP hD hS hl hQ
  have hP : va_P D vwCl [(ta, .inr (8, [.ref m_now, .ref m_undone, .ref m_slots, .ref m_slotKind, .ref m_hasSlot, .ref m_sheetBits, .ref m_sheetSize, .ref m_sheets, .int (nI u), .int fi, .ref m_fresh, .long aa, .long bb, .long dd, .int (nI ro), .ref m_rootWhich, .int db, .ref m_signs, .ref m_atNought, .int (nI mn), .ref m_change, .ref m_table, .ref m_carried])), (m_now, .inl (cy 0, 29, .inl nw))] H := hP
  have hl : lv_has ls 4 [(0, .ref ta), (1, .int px), (2, .int py), (3, .int bq)] := hl
  have hown : s.vm.findClass RX8 = some m.cls := hown
  have hF : (f_X8_speedAt nw px py bq) = (f_X8_speedAt nw px py bq) := rfl
  refine lv_aload_n hx hb dX8_speedAt_0 rfl (lv_at hl 0 rfl) ?_
  refine lv_iload_n hx hb dX8_speedAt_1 rfl (lv_at hl 3 rfl) ?_
  refine lv_iconst (v := 0) hx hb dX8_speedAt_2 (by decide) ?_
  refine yk_i [0, 1] (va_runV (As := [.int bq, .int 0]) (rest := []) ⟨hx, hb, hml, hown, hts⟩ (c_X8_get l D cy ta m_now m_undone m_slots m_slotKind m_hasSlot m_sheetBits m_sheetSize m_sheets m_fresh m_rootWhich m_signs m_atNought m_change m_table m_carried nw u fi aa bb dd ro db mn bq 0 (by first | assumption | omega) H.size) (cwV 2 hts gX8_speedAt_X8_get rfl rfl rfl hv_X8_get (yk_room hRf hRl rfl rfl)) (yk_pv (q := (RX8, TX8, 23)) hG hA hS hK hP hD [0, 1] (by decide +kernel) rfl rfl rfl) rfl rfl hl.1 rfl (lv_room (Nat.le_of_ble_eq_true rfl)) dX8_speedAt_3 ⟨Nat.zero_le _, Nat.zero_le _⟩) hP hD hS hA rfl rfl (fun H locs hP9 hD9 hS9 => ?_)
  replace hP : va_P D vwCl [(ta, .inr (8, [.ref m_now, .ref m_undone, .ref m_slots, .ref m_slotKind, .ref m_hasSlot, .ref m_sheetBits, .ref m_sheetSize, .ref m_sheets, .int (nI u), .int fi, .ref m_fresh, .long aa, .long bb, .long dd, .int (nI ro), .ref m_rootWhich, .int db, .ref m_signs, .ref m_atNought, .int (nI mn), .ref m_change, .ref m_table, .ref m_carried])), (m_now, .inl (cy 0, 29, .inl nw))] H := hP9
  replace hD : va_D A [(ta, .inr (8, [.ref m_now, .ref m_undone, .ref m_slots, .ref m_slotKind, .ref m_hasSlot, .ref m_sheetBits, .ref m_sheetSize, .ref m_sheets, .int (nI u), .int fi, .ref m_fresh, .long aa, .long bb, .long dd, .int (nI ro), .ref m_rootWhich, .int db, .ref m_signs, .ref m_atNought, .int (nI mn), .ref m_change, .ref m_table, .ref m_carried])), (m_now, .inl (cy 0, 29, .inl nw))] := hD9
  replace hS := hS9
  clear hP9 hD9 hS9
  refine lv_aload_n hx hb dX8_speedAt_6 rfl (lv_at hl 0 rfl) ?_
  refine lv_iload_n hx hb dX8_speedAt_7 rfl (lv_at hl 3 rfl) ?_
  refine lv_iconst (v := 1) hx hb dX8_speedAt_8 (by decide) ?_
  refine yk_i [0, 1] (va_runV (As := [.int bq, .int 1]) (rest := [.int (f_X8_get nw bq 0)]) ⟨hx, hb, hml, hown, hts⟩ (c_X8_get l D cy ta m_now m_undone m_slots m_slotKind m_hasSlot m_sheetBits m_sheetSize m_sheets m_fresh m_rootWhich m_signs m_atNought m_change m_table m_carried nw u fi aa bb dd ro db mn bq 1 (by first | assumption | omega) H.size) (cwV 2 hts gX8_speedAt_X8_get rfl rfl rfl hv_X8_get (yk_room hRf hRl rfl rfl)) (yk_pv (q := (RX8, TX8, 23)) hG hA hS hK hP hD [0, 1] (by decide +kernel) rfl rfl rfl) rfl rfl hl.1 rfl (lv_room (Nat.le_of_ble_eq_true rfl)) dX8_speedAt_9 ⟨Nat.zero_le _, Nat.zero_le _⟩) hP hD hS hA rfl rfl (fun H locs hP9 hD9 hS9 => ?_)
  replace hP : va_P D vwCl [(ta, .inr (8, [.ref m_now, .ref m_undone, .ref m_slots, .ref m_slotKind, .ref m_hasSlot, .ref m_sheetBits, .ref m_sheetSize, .ref m_sheets, .int (nI u), .int fi, .ref m_fresh, .long aa, .long bb, .long dd, .int (nI ro), .ref m_rootWhich, .int db, .ref m_signs, .ref m_atNought, .int (nI mn), .ref m_change, .ref m_table, .ref m_carried])), (m_now, .inl (cy 0, 29, .inl nw))] H := hP9
  replace hD : va_D A [(ta, .inr (8, [.ref m_now, .ref m_undone, .ref m_slots, .ref m_slotKind, .ref m_hasSlot, .ref m_sheetBits, .ref m_sheetSize, .ref m_sheets, .int (nI u), .int fi, .ref m_fresh, .long aa, .long bb, .long dd, .int (nI ro), .ref m_rootWhich, .int db, .ref m_signs, .ref m_atNought, .int (nI mn), .ref m_change, .ref m_table, .ref m_carried])), (m_now, .inl (cy 0, 29, .inl nw))] := hD9
  replace hS := hS9
  clear hP9 hD9 hS9
  refine lv_iload_n hx hb dX8_speedAt_12 rfl (lv_at hl 1 rfl) ?_
  refine lv_imul hx hb dX8_speedAt_13 ?_
  refine lv_iadd hx hb dX8_speedAt_14 ?_
  refine lv_aload_n hx hb dX8_speedAt_15 rfl (lv_at hl 0 rfl) ?_
  refine lv_iload_n hx hb dX8_speedAt_16 rfl (lv_at hl 3 rfl) ?_
  refine lv_iconst (v := 2) hx hb dX8_speedAt_17 (by decide) ?_
  refine yk_i [0, 1] (va_runV (As := [.int bq, .int 2]) (rest := [.int ((f_X8_get nw bq 0) + ((f_X8_get nw bq 1) * px))]) ⟨hx, hb, hml, hown, hts⟩ (c_X8_get l D cy ta m_now m_undone m_slots m_slotKind m_hasSlot m_sheetBits m_sheetSize m_sheets m_fresh m_rootWhich m_signs m_atNought m_change m_table m_carried nw u fi aa bb dd ro db mn bq 2 (by first | assumption | omega) H.size) (cwV 2 hts gX8_speedAt_X8_get rfl rfl rfl hv_X8_get (yk_room hRf hRl rfl rfl)) (yk_pv (q := (RX8, TX8, 23)) hG hA hS hK hP hD [0, 1] (by decide +kernel) rfl rfl rfl) rfl rfl hl.1 rfl (lv_room (Nat.le_of_ble_eq_true rfl)) dX8_speedAt_18 ⟨Nat.zero_le _, Nat.zero_le _⟩) hP hD hS hA rfl rfl (fun H locs hP9 hD9 hS9 => ?_)
  replace hP : va_P D vwCl [(ta, .inr (8, [.ref m_now, .ref m_undone, .ref m_slots, .ref m_slotKind, .ref m_hasSlot, .ref m_sheetBits, .ref m_sheetSize, .ref m_sheets, .int (nI u), .int fi, .ref m_fresh, .long aa, .long bb, .long dd, .int (nI ro), .ref m_rootWhich, .int db, .ref m_signs, .ref m_atNought, .int (nI mn), .ref m_change, .ref m_table, .ref m_carried])), (m_now, .inl (cy 0, 29, .inl nw))] H := hP9
  replace hD : va_D A [(ta, .inr (8, [.ref m_now, .ref m_undone, .ref m_slots, .ref m_slotKind, .ref m_hasSlot, .ref m_sheetBits, .ref m_sheetSize, .ref m_sheets, .int (nI u), .int fi, .ref m_fresh, .long aa, .long bb, .long dd, .int (nI ro), .ref m_rootWhich, .int db, .ref m_signs, .ref m_atNought, .int (nI mn), .ref m_change, .ref m_table, .ref m_carried])), (m_now, .inl (cy 0, 29, .inl nw))] := hD9
  replace hS := hS9
  clear hP9 hD9 hS9
  refine lv_iload_n hx hb dX8_speedAt_21 rfl (lv_at hl 2 rfl) ?_
  refine lv_imul hx hb dX8_speedAt_22 ?_
  refine lv_iadd hx hb dX8_speedAt_23 ?_
  refine lv_aload_n hx hb dX8_speedAt_24 rfl (lv_at hl 0 rfl) ?_
  refine lv_iload_n hx hb dX8_speedAt_25 rfl (lv_at hl 3 rfl) ?_
  refine lv_iconst (v := 3) hx hb dX8_speedAt_26 (by decide) ?_
  refine yk_i [0, 1] (va_runV (As := [.int bq, .int 3]) (rest := [.int (((f_X8_get nw bq 0) + ((f_X8_get nw bq 1) * px)) + ((f_X8_get nw bq 2) * py))]) ⟨hx, hb, hml, hown, hts⟩ (c_X8_get l D cy ta m_now m_undone m_slots m_slotKind m_hasSlot m_sheetBits m_sheetSize m_sheets m_fresh m_rootWhich m_signs m_atNought m_change m_table m_carried nw u fi aa bb dd ro db mn bq 3 (by first | assumption | omega) H.size) (cwV 2 hts gX8_speedAt_X8_get rfl rfl rfl hv_X8_get (yk_room hRf hRl rfl rfl)) (yk_pv (q := (RX8, TX8, 23)) hG hA hS hK hP hD [0, 1] (by decide +kernel) rfl rfl rfl) rfl rfl hl.1 rfl (lv_room (Nat.le_of_ble_eq_true rfl)) dX8_speedAt_27 ⟨Nat.zero_le _, Nat.zero_le _⟩) hP hD hS hA rfl rfl (fun H locs hP9 hD9 hS9 => ?_)
  replace hP : va_P D vwCl [(ta, .inr (8, [.ref m_now, .ref m_undone, .ref m_slots, .ref m_slotKind, .ref m_hasSlot, .ref m_sheetBits, .ref m_sheetSize, .ref m_sheets, .int (nI u), .int fi, .ref m_fresh, .long aa, .long bb, .long dd, .int (nI ro), .ref m_rootWhich, .int db, .ref m_signs, .ref m_atNought, .int (nI mn), .ref m_change, .ref m_table, .ref m_carried])), (m_now, .inl (cy 0, 29, .inl nw))] H := hP9
  replace hD : va_D A [(ta, .inr (8, [.ref m_now, .ref m_undone, .ref m_slots, .ref m_slotKind, .ref m_hasSlot, .ref m_sheetBits, .ref m_sheetSize, .ref m_sheets, .int (nI u), .int fi, .ref m_fresh, .long aa, .long bb, .long dd, .int (nI ro), .ref m_rootWhich, .int db, .ref m_signs, .ref m_atNought, .int (nI mn), .ref m_change, .ref m_table, .ref m_carried])), (m_now, .inl (cy 0, 29, .inl nw))] := hD9
  replace hS := hS9
  clear hP9 hD9 hS9
  refine lv_iload_n hx hb dX8_speedAt_30 rfl (lv_at hl 1 rfl) ?_
  refine lv_imul hx hb dX8_speedAt_31 ?_
  refine lv_iload_n hx hb dX8_speedAt_32 rfl (lv_at hl 1 rfl) ?_
  refine lv_imul hx hb dX8_speedAt_33 ?_
  refine lv_iadd hx hb dX8_speedAt_34 ?_
  refine lv_aload_n hx hb dX8_speedAt_35 rfl (lv_at hl 0 rfl) ?_
  refine lv_iload_n hx hb dX8_speedAt_36 rfl (lv_at hl 3 rfl) ?_
  refine lv_iconst (v := 4) hx hb dX8_speedAt_37 (by decide) ?_
  refine yk_i [0, 1] (va_runV (As := [.int bq, .int 4]) (rest := [.int ((((f_X8_get nw bq 0) + ((f_X8_get nw bq 1) * px)) + ((f_X8_get nw bq 2) * py)) + (((f_X8_get nw bq 3) * px) * px))]) ⟨hx, hb, hml, hown, hts⟩ (c_X8_get l D cy ta m_now m_undone m_slots m_slotKind m_hasSlot m_sheetBits m_sheetSize m_sheets m_fresh m_rootWhich m_signs m_atNought m_change m_table m_carried nw u fi aa bb dd ro db mn bq 4 (by first | assumption | omega) H.size) (cwV 2 hts gX8_speedAt_X8_get rfl rfl rfl hv_X8_get (yk_room hRf hRl rfl rfl)) (yk_pv (q := (RX8, TX8, 23)) hG hA hS hK hP hD [0, 1] (by decide +kernel) rfl rfl rfl) rfl rfl hl.1 rfl (lv_room (Nat.le_of_ble_eq_true rfl)) dX8_speedAt_38 ⟨Nat.zero_le _, Nat.zero_le _⟩) hP hD hS hA rfl rfl (fun H locs hP9 hD9 hS9 => ?_)
  replace hP : va_P D vwCl [(ta, .inr (8, [.ref m_now, .ref m_undone, .ref m_slots, .ref m_slotKind, .ref m_hasSlot, .ref m_sheetBits, .ref m_sheetSize, .ref m_sheets, .int (nI u), .int fi, .ref m_fresh, .long aa, .long bb, .long dd, .int (nI ro), .ref m_rootWhich, .int db, .ref m_signs, .ref m_atNought, .int (nI mn), .ref m_change, .ref m_table, .ref m_carried])), (m_now, .inl (cy 0, 29, .inl nw))] H := hP9
  replace hD : va_D A [(ta, .inr (8, [.ref m_now, .ref m_undone, .ref m_slots, .ref m_slotKind, .ref m_hasSlot, .ref m_sheetBits, .ref m_sheetSize, .ref m_sheets, .int (nI u), .int fi, .ref m_fresh, .long aa, .long bb, .long dd, .int (nI ro), .ref m_rootWhich, .int db, .ref m_signs, .ref m_atNought, .int (nI mn), .ref m_change, .ref m_table, .ref m_carried])), (m_now, .inl (cy 0, 29, .inl nw))] := hD9
  replace hS := hS9
  clear hP9 hD9 hS9
  refine lv_iload_n hx hb dX8_speedAt_41 rfl (lv_at hl 1 rfl) ?_
  refine lv_imul hx hb dX8_speedAt_42 ?_
  refine lv_iload_n hx hb dX8_speedAt_43 rfl (lv_at hl 2 rfl) ?_
  refine lv_imul hx hb dX8_speedAt_44 ?_
  refine lv_iadd hx hb dX8_speedAt_45 ?_
  refine lv_aload_n hx hb dX8_speedAt_46 rfl (lv_at hl 0 rfl) ?_
  refine lv_iload_n hx hb dX8_speedAt_47 rfl (lv_at hl 3 rfl) ?_
  refine lv_iconst (v := 5) hx hb dX8_speedAt_48 (by decide) ?_
  refine yk_i [0, 1] (va_runV (As := [.int bq, .int 5]) (rest := [.int (((((f_X8_get nw bq 0) + ((f_X8_get nw bq 1) * px)) + ((f_X8_get nw bq 2) * py)) + (((f_X8_get nw bq 3) * px) * px)) + (((f_X8_get nw bq 4) * px) * py))]) ⟨hx, hb, hml, hown, hts⟩ (c_X8_get l D cy ta m_now m_undone m_slots m_slotKind m_hasSlot m_sheetBits m_sheetSize m_sheets m_fresh m_rootWhich m_signs m_atNought m_change m_table m_carried nw u fi aa bb dd ro db mn bq 5 (by first | assumption | omega) H.size) (cwV 2 hts gX8_speedAt_X8_get rfl rfl rfl hv_X8_get (yk_room hRf hRl rfl rfl)) (yk_pv (q := (RX8, TX8, 23)) hG hA hS hK hP hD [0, 1] (by decide +kernel) rfl rfl rfl) rfl rfl hl.1 rfl (lv_room (Nat.le_of_ble_eq_true rfl)) dX8_speedAt_49 ⟨Nat.zero_le _, Nat.zero_le _⟩) hP hD hS hA rfl rfl (fun H locs hP9 hD9 hS9 => ?_)
  replace hP : va_P D vwCl [(ta, .inr (8, [.ref m_now, .ref m_undone, .ref m_slots, .ref m_slotKind, .ref m_hasSlot, .ref m_sheetBits, .ref m_sheetSize, .ref m_sheets, .int (nI u), .int fi, .ref m_fresh, .long aa, .long bb, .long dd, .int (nI ro), .ref m_rootWhich, .int db, .ref m_signs, .ref m_atNought, .int (nI mn), .ref m_change, .ref m_table, .ref m_carried])), (m_now, .inl (cy 0, 29, .inl nw))] H := hP9
  replace hD : va_D A [(ta, .inr (8, [.ref m_now, .ref m_undone, .ref m_slots, .ref m_slotKind, .ref m_hasSlot, .ref m_sheetBits, .ref m_sheetSize, .ref m_sheets, .int (nI u), .int fi, .ref m_fresh, .long aa, .long bb, .long dd, .int (nI ro), .ref m_rootWhich, .int db, .ref m_signs, .ref m_atNought, .int (nI mn), .ref m_change, .ref m_table, .ref m_carried])), (m_now, .inl (cy 0, 29, .inl nw))] := hD9
  replace hS := hS9
  clear hP9 hD9 hS9
  refine lv_iload_n hx hb dX8_speedAt_52 rfl (lv_at hl 2 rfl) ?_
  refine lv_imul hx hb dX8_speedAt_53 ?_
  refine lv_iload_n hx hb dX8_speedAt_54 rfl (lv_at hl 2 rfl) ?_
  refine lv_imul hx hb dX8_speedAt_55 ?_
  refine lv_iadd hx hb dX8_speedAt_56 ?_
  have hF : f_X8_speedAt nw px py bq = ((((((f_X8_get nw bq 0) + ((f_X8_get nw bq 1) * px)) + ((f_X8_get nw bq 2) * py)) + (((f_X8_get nw bq 3) * px) * px)) + (((f_X8_get nw bq 4) * px) * py)) + (((f_X8_get nw bq 5) * py) * py)) := hF
  rw [hF] at hQ
  exact hQ _ _ _ _ dX8_speedAt_57 hP hS

theorem kX8_speed_0 : Cond.constant RX8 68 (-1000001) ∈ wsX8_speed := by decide +kernel
def f_X8_speed (nw : Nat → Int32) (fi : Int32) (px : Int32) (py : Int32) (bq : Int32) : Int32 × Int32 := ((if (f_X8_isPlace px py) = 0 then (f_X8_found fi (-1000001)).1 else (f_X8_speedAt nw px py bq)), (if (f_X8_isPlace px py) = 0 then (f_X8_found fi (-1000001)).2 else fi))
set_option maxHeartbeats 400000000 in
set_option maxRecDepth 100000 in
theorem c_X8_speed (l : Launch) (D : va_G) (cy : Nat → ClassId) (ta : Nat) (m_now : Nat) (m_undone : Nat) (m_slots : Nat) (m_slotKind : Nat) (m_hasSlot : Nat) (m_sheetBits : Nat) (m_sheetSize : Nat) (m_sheets : Nat) (m_fresh : Nat) (m_rootWhich : Nat) (m_signs : Nat) (m_atNought : Nat) (m_change : Nat) (m_table : Nat) (m_carried : Nat) (nw : Nat → Int32) (u : Nat) (fi : Int32) (aa : Int64) (bb : Int64) (dd : Int64) (ro : Nat) (db : Int32) (mn : Nat) (px : Int32) (py : Int32) (bq : Int32) : yk_Ci l D vwCl (yk_ty cy) yX8_speed wsX8_speed 2 45 [.ref ta, .int px, .int py, .int bq] [(ta, .inr (8, [.ref m_now, .ref m_undone, .ref m_slots, .ref m_slotKind, .ref m_hasSlot, .ref m_sheetBits, .ref m_sheetSize, .ref m_sheets, .int (nI u), .int fi, .ref m_fresh, .long aa, .long bb, .long dd, .int (nI ro), .ref m_rootWhich, .int db, .ref m_signs, .ref m_atNought, .int (nI mn), .ref m_change, .ref m_table, .ref m_carried])), (m_now, .inl (cy 0, 29, .inl nw))] ((f_X8_speed nw fi px py bq).1) [(ta, .inr (8, [.ref m_now, .ref m_undone, .ref m_slots, .ref m_slotKind, .ref m_hasSlot, .ref m_sheetBits, .ref m_sheetSize, .ref m_sheets, .int (nI u), .int ((f_X8_speed nw fi px py bq).2), .ref m_fresh, .long aa, .long bb, .long dd, .int (nI ro), .ref m_rootWhich, .int db, .ref m_signs, .ref m_atNought, .int (nI mn), .ref m_change, .ref m_table, .ref m_carried])), (m_now, .inl (cy 0, 29, .inl nw))] := by
  refine yk_eI (cc := cX8_speed) (maxL := 4) (by decide) rfl (Nat.le_of_ble_eq_true rfl) rfl ?_
  intro p e R s m args below meth c A Q ls H locs hx hb hml hown hts hRf hRl hA hK hG hP hD hS hl hQ
  have hP : va_P D vwCl [(ta, .inr (8, [.ref m_now, .ref m_undone, .ref m_slots, .ref m_slotKind, .ref m_hasSlot, .ref m_sheetBits, .ref m_sheetSize, .ref m_sheets, .int (nI u), .int fi, .ref m_fresh, .long aa, .long bb, .long dd, .int (nI ro), .ref m_rootWhich, .int db, .ref m_signs, .ref m_atNought, .int (nI mn), .ref m_change, .ref m_table, .ref m_carried])), (m_now, .inl (cy 0, 29, .inl nw))] H := hP
  have hl : lv_has ls 4 [(0, .ref ta), (1, .int px), (2, .int py), (3, .int bq)] := hl
  have hown : s.vm.findClass RX8 = some m.cls := hown
  have hF : (f_X8_speed nw fi px py bq) = (f_X8_speed nw fi px py bq) := rfl
  refine lv_iload_n hx hb dX8_speed_0 rfl (lv_at hl 1 rfl) ?_
  refine lv_iload_n hx hb dX8_speed_1 rfl (lv_at hl 2 rfl) ?_
  refine yk_i [] (va_runS (As := [.int px, .int py]) (rest := []) ⟨hx, hb, hml, hown, hts⟩ (c_X8_isPlace l D cy px py H.size) (va_cwS 2 hts gX8_speed_X8_isPlace rfl rfl rfl hs_X8_isPlace (yk_room hRf hRl rfl rfl)) (yk_ps hG hA hS hK hP hD [] (by decide +kernel) rfl) rfl rfl hl.1 rfl (lv_room (Nat.le_of_ble_eq_true rfl)) dX8_speed_2 ⟨Nat.zero_le _, Nat.zero_le _⟩) hP hD hS hA rfl rfl (fun H locs hP9 hD9 hS9 => ?_)
  replace hP : va_P D vwCl [(ta, .inr (8, [.ref m_now, .ref m_undone, .ref m_slots, .ref m_slotKind, .ref m_hasSlot, .ref m_sheetBits, .ref m_sheetSize, .ref m_sheets, .int (nI u), .int fi, .ref m_fresh, .long aa, .long bb, .long dd, .int (nI ro), .ref m_rootWhich, .int db, .ref m_signs, .ref m_atNought, .int (nI mn), .ref m_change, .ref m_table, .ref m_carried])), (m_now, .inl (cy 0, 29, .inl nw))] H := hP9
  replace hD : va_D A [(ta, .inr (8, [.ref m_now, .ref m_undone, .ref m_slots, .ref m_slotKind, .ref m_hasSlot, .ref m_sheetBits, .ref m_sheetSize, .ref m_sheets, .int (nI u), .int fi, .ref m_fresh, .long aa, .long bb, .long dd, .int (nI ro), .ref m_rootWhich, .int db, .ref m_signs, .ref m_atNought, .int (nI mn), .ref m_change, .ref m_table, .ref m_carried])), (m_now, .inl (cy 0, 29, .inl nw))] := hD9
  replace hS := hS9
  clear hP9 hD9 hS9
  have J4 : ∀ (v2 : Int32) (v3 : Int32) (H : Heap) (locs : List Loc) (ls : Array Slot), v2 = (if (f_X8_isPlace px py) = 0 then (f_X8_found fi (-1000001)).2 else fi) → v3 = (if (f_X8_isPlace px py) = 0 then (f_X8_found fi (-1000001)).1 else (f_X8_speedAt nw px py bq)) → va_P D vwCl [(ta, .inr (8, [.ref m_now, .ref m_undone, .ref m_slots, .ref m_slotKind, .ref m_hasSlot, .ref m_sheetBits, .ref m_sheetSize, .ref m_sheets, .int (nI u), .int v2, .ref m_fresh, .long aa, .long bb, .long dd, .int (nI ro), .ref m_rootWhich, .int db, .ref m_signs, .ref m_atNought, .int (nI mn), .ref m_change, .ref m_table, .ref m_carried])), (m_now, .inl (cy 0, 29, .inl nw))] H → va_D A [(ta, .inr (8, [.ref m_now, .ref m_undone, .ref m_slots, .ref m_slotKind, .ref m_hasSlot, .ref m_sheetBits, .ref m_sheetSize, .ref m_sheets, .int (nI u), .int v2, .ref m_fresh, .long aa, .long bb, .long dd, .int (nI ro), .ref m_rootWhich, .int db, .ref m_signs, .ref m_atNought, .int (nI mn), .ref m_change, .ref m_table, .ref m_carried])), (m_now, .inl (cy 0, 29, .inl nw))] → va_S A s.heap H locs → lv_has ls 4 [(0, .ref ta), (1, .int px), (2, .int py), (3, .int bq)] → W p l e R s m args below meth c H locs 0 0 Q (F0 m 24 ls [.int v3]) := by
    clear hP hD hS hl
    intro v2 v3 H locs ls ev2 ev3 hP hD hS hl
    subst ev2
    subst ev3
    have hF : f_X8_speed nw fi px py bq = ((if (f_X8_isPlace px py) = 0 then (f_X8_found fi (-1000001)).1 else (f_X8_speedAt nw px py bq)), (if (f_X8_isPlace px py) = 0 then (f_X8_found fi (-1000001)).2 else fi)) := hF
    have hf0 := yk_fst hF
    have hg0 := yk_snd hF
    rw [hf0, hg0] at hQ
    exact hQ _ _ _ _ dX8_speed_24 hP hS
  refine lv_if_eq (tgt := 18) hx hb dX8_speed_5 (by decide) (fun hc1 => ?_) (fun hc1 => ?_)
  · refine lv_aload_n hx hb dX8_speed_18 rfl (lv_at hl 0 rfl) ?_
    refine lv_ldc (v := (-1000001)) hx hb hown (hts _ kX8_speed_0) dX8_speed_19 ?_
    refine yk_i [0] (va_runV (As := [.int (-1000001)]) (rest := []) ⟨hx, hb, hml, hown, hts⟩ (c_X8_found l D cy ta m_now m_undone m_slots m_slotKind m_hasSlot m_sheetBits m_sheetSize m_sheets m_fresh m_rootWhich m_signs m_atNought m_change m_table m_carried u fi aa bb dd ro db mn (-1000001) H.size) (cwV 1 hts gX8_speed_X8_found rfl rfl rfl hv_X8_found (yk_room hRf hRl rfl rfl)) (yk_pv (q := (RX8, TX8, 23)) hG hA hS hK hP hD [0] (by decide +kernel) rfl rfl rfl) rfl rfl hl.1 rfl (lv_room (Nat.le_of_ble_eq_true rfl)) dX8_speed_21 ⟨Nat.zero_le _, Nat.zero_le _⟩) hP hD hS hA rfl rfl (fun H locs hP9 hD9 hS9 => ?_)
    replace hP : va_P D vwCl [(ta, .inr (8, [.ref m_now, .ref m_undone, .ref m_slots, .ref m_slotKind, .ref m_hasSlot, .ref m_sheetBits, .ref m_sheetSize, .ref m_sheets, .int (nI u), .int ((f_X8_found fi (-1000001)).2), .ref m_fresh, .long aa, .long bb, .long dd, .int (nI ro), .ref m_rootWhich, .int db, .ref m_signs, .ref m_atNought, .int (nI mn), .ref m_change, .ref m_table, .ref m_carried])), (m_now, .inl (cy 0, 29, .inl nw))] H := hP9
    replace hD : va_D A [(ta, .inr (8, [.ref m_now, .ref m_undone, .ref m_slots, .ref m_slotKind, .ref m_hasSlot, .ref m_sheetBits, .ref m_sheetSize, .ref m_sheets, .int (nI u), .int ((f_X8_found fi (-1000001)).2), .ref m_fresh, .long aa, .long bb, .long dd, .int (nI ro), .ref m_rootWhich, .int db, .ref m_signs, .ref m_atNought, .int (nI mn), .ref m_change, .ref m_table, .ref m_carried])), (m_now, .inl (cy 0, 29, .inl nw))] := hD9
    replace hS := hS9
    clear hP9 hD9 hS9
    exact J4 _ _ _ _ _ ((if_pos hc1).symm) ((if_pos hc1).symm) hP hD hS (lv_sub hl [0, 1, 2, 3] rfl)
  · refine lv_aload_n hx hb dX8_speed_8 rfl (lv_at hl 0 rfl) ?_
    refine lv_iload_n hx hb dX8_speed_9 rfl (lv_at hl 1 rfl) ?_
    refine lv_iload_n hx hb dX8_speed_10 rfl (lv_at hl 2 rfl) ?_
    refine lv_iload_n hx hb dX8_speed_11 rfl (lv_at hl 3 rfl) ?_
    refine yk_i [0, 1] (va_runV (As := [.int px, .int py, .int bq]) (rest := []) ⟨hx, hb, hml, hown, hts⟩ (c_X8_speedAt l D cy ta m_now m_undone m_slots m_slotKind m_hasSlot m_sheetBits m_sheetSize m_sheets m_fresh m_rootWhich m_signs m_atNought m_change m_table m_carried nw u fi aa bb dd ro db mn px py bq H.size) (cwV 3 hts gX8_speed_X8_speedAt rfl rfl rfl hv_X8_speedAt (yk_room hRf hRl rfl rfl)) (yk_pv (q := (RX8, TX8, 23)) hG hA hS hK hP hD [0, 1] (by decide +kernel) rfl rfl rfl) rfl rfl hl.1 rfl (lv_room (Nat.le_of_ble_eq_true rfl)) dX8_speed_12 ⟨Nat.zero_le _, Nat.zero_le _⟩) hP hD hS hA rfl rfl (fun H locs hP9 hD9 hS9 => ?_)
    replace hP : va_P D vwCl [(ta, .inr (8, [.ref m_now, .ref m_undone, .ref m_slots, .ref m_slotKind, .ref m_hasSlot, .ref m_sheetBits, .ref m_sheetSize, .ref m_sheets, .int (nI u), .int fi, .ref m_fresh, .long aa, .long bb, .long dd, .int (nI ro), .ref m_rootWhich, .int db, .ref m_signs, .ref m_atNought, .int (nI mn), .ref m_change, .ref m_table, .ref m_carried])), (m_now, .inl (cy 0, 29, .inl nw))] H := hP9
    replace hD : va_D A [(ta, .inr (8, [.ref m_now, .ref m_undone, .ref m_slots, .ref m_slotKind, .ref m_hasSlot, .ref m_sheetBits, .ref m_sheetSize, .ref m_sheets, .int (nI u), .int fi, .ref m_fresh, .long aa, .long bb, .long dd, .int (nI ro), .ref m_rootWhich, .int db, .ref m_signs, .ref m_atNought, .int (nI mn), .ref m_change, .ref m_table, .ref m_carried])), (m_now, .inl (cy 0, 29, .inl nw))] := hD9
    replace hS := hS9
    clear hP9 hD9 hS9
    refine lv_goto (tgt := 24) hx hb dX8_speed_15 (by decide) ?_
    exact J4 _ _ _ _ _ ((if_neg hc1).symm) ((if_neg hc1).symm) hP hD hS (lv_sub hl [0, 1, 2, 3] rfl)

def f_X8_slopeAt (nw : Nat → Int32) (px : Int32) (py : Int32) (bq : Int32) (bz : Int32) : Int32 := (if bz = 0 then (((f_X8_get nw bq 1) + ((2 * (f_X8_get nw bq 3)) * px)) + ((f_X8_get nw bq 4) * py)) else (((f_X8_get nw bq 2) + ((f_X8_get nw bq 4) * px)) + ((2 * (f_X8_get nw bq 5)) * py)))
set_option maxHeartbeats 400000000 in
set_option maxRecDepth 100000 in
theorem c_X8_slopeAt (l : Launch) (D : va_G) (cy : Nat → ClassId) (ta : Nat) (m_now : Nat) (m_undone : Nat) (m_slots : Nat) (m_slotKind : Nat) (m_hasSlot : Nat) (m_sheetBits : Nat) (m_sheetSize : Nat) (m_sheets : Nat) (m_fresh : Nat) (m_rootWhich : Nat) (m_signs : Nat) (m_atNought : Nat) (m_change : Nat) (m_table : Nat) (m_carried : Nat) (nw : Nat → Int32) (u : Nat) (fi : Int32) (aa : Int64) (bb : Int64) (dd : Int64) (ro : Nat) (db : Int32) (mn : Nat) (px : Int32) (py : Int32) (bq : Int32) (bz : Int32) : yk_Ci l D vwCl (yk_ty cy) yX8_slopeAt wsX8_slopeAt 1 22 [.ref ta, .int px, .int py, .int bq, .int bz] [(ta, .inr (8, [.ref m_now, .ref m_undone, .ref m_slots, .ref m_slotKind, .ref m_hasSlot, .ref m_sheetBits, .ref m_sheetSize, .ref m_sheets, .int (nI u), .int fi, .ref m_fresh, .long aa, .long bb, .long dd, .int (nI ro), .ref m_rootWhich, .int db, .ref m_signs, .ref m_atNought, .int (nI mn), .ref m_change, .ref m_table, .ref m_carried])), (m_now, .inl (cy 0, 29, .inl nw))] (f_X8_slopeAt nw px py bq bz) [(ta, .inr (8, [.ref m_now, .ref m_undone, .ref m_slots, .ref m_slotKind, .ref m_hasSlot, .ref m_sheetBits, .ref m_sheetSize, .ref m_sheets, .int (nI u), .int fi, .ref m_fresh, .long aa, .long bb, .long dd, .int (nI ro), .ref m_rootWhich, .int db, .ref m_signs, .ref m_atNought, .int (nI mn), .ref m_change, .ref m_table, .ref m_carried])), (m_now, .inl (cy 0, 29, .inl nw))] := by
  refine yk_eI (cc := cX8_slopeAt) (maxL := 5) (by decide) rfl (Nat.le_of_ble_eq_true rfl) rfl ?_
  intro p e R s m args below meth c A Q ls H locs hx hb hml hown hts hRf hRl hA hK hG hP hD hS hl hQ
  have hP : va_P D vwCl [(ta, .inr (8, [.ref m_now, .ref m_undone, .ref m_slots, .ref m_slotKind, .ref m_hasSlot, .ref m_sheetBits, .ref m_sheetSize, .ref m_sheets, .int (nI u), .int fi, .ref m_fresh, .long aa, .long bb, .long dd, .int (nI ro), .ref m_rootWhich, .int db, .ref m_signs, .ref m_atNought, .int (nI mn), .ref m_change, .ref m_table, .ref m_carried])), (m_now, .inl (cy 0, 29, .inl nw))] H := hP
  have hl : lv_has ls 5 [(0, .ref ta), (1, .int px), (2, .int py), (3, .int bq), (4, .int bz)] := hl
  have hown : s.vm.findClass RX8 = some m.cls := hown
  have hF : (f_X8_slopeAt nw px py bq bz) = (f_X8_slopeAt nw px py bq bz) := rfl
  refine lv_iload hx hb dX8_slopeAt_0 (lv_at hl 4 rfl) ?_
  have J3 : ∀ (v2 : Int32) (H : Heap) (locs : List Loc) (ls : Array Slot), v2 = (if bz = 0 then (((f_X8_get nw bq 1) + ((2 * (f_X8_get nw bq 3)) * px)) + ((f_X8_get nw bq 4) * py)) else (((f_X8_get nw bq 2) + ((f_X8_get nw bq 4) * px)) + ((2 * (f_X8_get nw bq 5)) * py))) → va_P D vwCl [(ta, .inr (8, [.ref m_now, .ref m_undone, .ref m_slots, .ref m_slotKind, .ref m_hasSlot, .ref m_sheetBits, .ref m_sheetSize, .ref m_sheets, .int (nI u), .int fi, .ref m_fresh, .long aa, .long bb, .long dd, .int (nI ro), .ref m_rootWhich, .int db, .ref m_signs, .ref m_atNought, .int (nI mn), .ref m_change, .ref m_table, .ref m_carried])), (m_now, .inl (cy 0, 29, .inl nw))] H → va_D A [(ta, .inr (8, [.ref m_now, .ref m_undone, .ref m_slots, .ref m_slotKind, .ref m_hasSlot, .ref m_sheetBits, .ref m_sheetSize, .ref m_sheets, .int (nI u), .int fi, .ref m_fresh, .long aa, .long bb, .long dd, .int (nI ro), .ref m_rootWhich, .int db, .ref m_signs, .ref m_atNought, .int (nI mn), .ref m_change, .ref m_table, .ref m_carried])), (m_now, .inl (cy 0, 29, .inl nw))] → va_S A s.heap H locs → lv_has ls 5 [(0, .ref ta), (1, .int px), (2, .int py), (3, .int bq), (4, .int bz)] → W p l e R s m args below meth c H locs 0 0 Q (F0 m 60 ls [.int v2]) := by
    clear hP hD hS hl
    intro v2 H locs ls ev2 hP hD hS hl
    subst ev2
    have hF : f_X8_slopeAt nw px py bq bz = (if bz = 0 then (((f_X8_get nw bq 1) + ((2 * (f_X8_get nw bq 3)) * px)) + ((f_X8_get nw bq 4) * py)) else (((f_X8_get nw bq 2) + ((f_X8_get nw bq 4) * px)) + ((2 * (f_X8_get nw bq 5)) * py))) := hF
    rw [hF] at hQ
    exact hQ _ _ _ _ dX8_slopeAt_60 hP hS
  refine lv_if_eq (tgt := 34) hx hb dX8_slopeAt_2 (by decide) (fun hc1 => ?_) (fun hc1 => ?_)
  · refine lv_aload_n hx hb dX8_slopeAt_34 rfl (lv_at hl 0 rfl) ?_
    refine lv_iload_n hx hb dX8_slopeAt_35 rfl (lv_at hl 3 rfl) ?_
    refine lv_iconst (v := 1) hx hb dX8_slopeAt_36 (by decide) ?_
    refine yk_i [0, 1] (va_runV (As := [.int bq, .int 1]) (rest := []) ⟨hx, hb, hml, hown, hts⟩ (c_X8_get l D cy ta m_now m_undone m_slots m_slotKind m_hasSlot m_sheetBits m_sheetSize m_sheets m_fresh m_rootWhich m_signs m_atNought m_change m_table m_carried nw u fi aa bb dd ro db mn bq 1 (by first | assumption | omega) H.size) (cwV 2 hts gX8_slopeAt_X8_get rfl rfl rfl hv_X8_get (yk_room hRf hRl rfl rfl)) (yk_pv (q := (RX8, TX8, 23)) hG hA hS hK hP hD [0, 1] (by decide +kernel) rfl rfl rfl) rfl rfl hl.1 rfl (lv_room (Nat.le_of_ble_eq_true rfl)) dX8_slopeAt_37 ⟨Nat.zero_le _, Nat.zero_le _⟩) hP hD hS hA rfl rfl (fun H locs hP9 hD9 hS9 => ?_)
    replace hP : va_P D vwCl [(ta, .inr (8, [.ref m_now, .ref m_undone, .ref m_slots, .ref m_slotKind, .ref m_hasSlot, .ref m_sheetBits, .ref m_sheetSize, .ref m_sheets, .int (nI u), .int fi, .ref m_fresh, .long aa, .long bb, .long dd, .int (nI ro), .ref m_rootWhich, .int db, .ref m_signs, .ref m_atNought, .int (nI mn), .ref m_change, .ref m_table, .ref m_carried])), (m_now, .inl (cy 0, 29, .inl nw))] H := hP9
    replace hD : va_D A [(ta, .inr (8, [.ref m_now, .ref m_undone, .ref m_slots, .ref m_slotKind, .ref m_hasSlot, .ref m_sheetBits, .ref m_sheetSize, .ref m_sheets, .int (nI u), .int fi, .ref m_fresh, .long aa, .long bb, .long dd, .int (nI ro), .ref m_rootWhich, .int db, .ref m_signs, .ref m_atNought, .int (nI mn), .ref m_change, .ref m_table, .ref m_carried])), (m_now, .inl (cy 0, 29, .inl nw))] := hD9
    replace hS := hS9
    clear hP9 hD9 hS9
    refine lv_iconst (v := 2) hx hb dX8_slopeAt_40 (by decide) ?_
    refine lv_aload_n hx hb dX8_slopeAt_41 rfl (lv_at hl 0 rfl) ?_
    refine lv_iload_n hx hb dX8_slopeAt_42 rfl (lv_at hl 3 rfl) ?_
    refine lv_iconst (v := 3) hx hb dX8_slopeAt_43 (by decide) ?_
    refine yk_i [0, 1] (va_runV (As := [.int bq, .int 3]) (rest := [.int 2, .int (f_X8_get nw bq 1)]) ⟨hx, hb, hml, hown, hts⟩ (c_X8_get l D cy ta m_now m_undone m_slots m_slotKind m_hasSlot m_sheetBits m_sheetSize m_sheets m_fresh m_rootWhich m_signs m_atNought m_change m_table m_carried nw u fi aa bb dd ro db mn bq 3 (by first | assumption | omega) H.size) (cwV 2 hts gX8_slopeAt_X8_get rfl rfl rfl hv_X8_get (yk_room hRf hRl rfl rfl)) (yk_pv (q := (RX8, TX8, 23)) hG hA hS hK hP hD [0, 1] (by decide +kernel) rfl rfl rfl) rfl rfl hl.1 rfl (lv_room (Nat.le_of_ble_eq_true rfl)) dX8_slopeAt_44 ⟨Nat.zero_le _, Nat.zero_le _⟩) hP hD hS hA rfl rfl (fun H locs hP9 hD9 hS9 => ?_)
    replace hP : va_P D vwCl [(ta, .inr (8, [.ref m_now, .ref m_undone, .ref m_slots, .ref m_slotKind, .ref m_hasSlot, .ref m_sheetBits, .ref m_sheetSize, .ref m_sheets, .int (nI u), .int fi, .ref m_fresh, .long aa, .long bb, .long dd, .int (nI ro), .ref m_rootWhich, .int db, .ref m_signs, .ref m_atNought, .int (nI mn), .ref m_change, .ref m_table, .ref m_carried])), (m_now, .inl (cy 0, 29, .inl nw))] H := hP9
    replace hD : va_D A [(ta, .inr (8, [.ref m_now, .ref m_undone, .ref m_slots, .ref m_slotKind, .ref m_hasSlot, .ref m_sheetBits, .ref m_sheetSize, .ref m_sheets, .int (nI u), .int fi, .ref m_fresh, .long aa, .long bb, .long dd, .int (nI ro), .ref m_rootWhich, .int db, .ref m_signs, .ref m_atNought, .int (nI mn), .ref m_change, .ref m_table, .ref m_carried])), (m_now, .inl (cy 0, 29, .inl nw))] := hD9
    replace hS := hS9
    clear hP9 hD9 hS9
    refine lv_imul hx hb dX8_slopeAt_47 ?_
    refine lv_iload_n hx hb dX8_slopeAt_48 rfl (lv_at hl 1 rfl) ?_
    refine lv_imul hx hb dX8_slopeAt_49 ?_
    refine lv_iadd hx hb dX8_slopeAt_50 ?_
    refine lv_aload_n hx hb dX8_slopeAt_51 rfl (lv_at hl 0 rfl) ?_
    refine lv_iload_n hx hb dX8_slopeAt_52 rfl (lv_at hl 3 rfl) ?_
    refine lv_iconst (v := 4) hx hb dX8_slopeAt_53 (by decide) ?_
    refine yk_i [0, 1] (va_runV (As := [.int bq, .int 4]) (rest := [.int ((f_X8_get nw bq 1) + ((2 * (f_X8_get nw bq 3)) * px))]) ⟨hx, hb, hml, hown, hts⟩ (c_X8_get l D cy ta m_now m_undone m_slots m_slotKind m_hasSlot m_sheetBits m_sheetSize m_sheets m_fresh m_rootWhich m_signs m_atNought m_change m_table m_carried nw u fi aa bb dd ro db mn bq 4 (by first | assumption | omega) H.size) (cwV 2 hts gX8_slopeAt_X8_get rfl rfl rfl hv_X8_get (yk_room hRf hRl rfl rfl)) (yk_pv (q := (RX8, TX8, 23)) hG hA hS hK hP hD [0, 1] (by decide +kernel) rfl rfl rfl) rfl rfl hl.1 rfl (lv_room (Nat.le_of_ble_eq_true rfl)) dX8_slopeAt_54 ⟨Nat.zero_le _, Nat.zero_le _⟩) hP hD hS hA rfl rfl (fun H locs hP9 hD9 hS9 => ?_)
    replace hP : va_P D vwCl [(ta, .inr (8, [.ref m_now, .ref m_undone, .ref m_slots, .ref m_slotKind, .ref m_hasSlot, .ref m_sheetBits, .ref m_sheetSize, .ref m_sheets, .int (nI u), .int fi, .ref m_fresh, .long aa, .long bb, .long dd, .int (nI ro), .ref m_rootWhich, .int db, .ref m_signs, .ref m_atNought, .int (nI mn), .ref m_change, .ref m_table, .ref m_carried])), (m_now, .inl (cy 0, 29, .inl nw))] H := hP9
    replace hD : va_D A [(ta, .inr (8, [.ref m_now, .ref m_undone, .ref m_slots, .ref m_slotKind, .ref m_hasSlot, .ref m_sheetBits, .ref m_sheetSize, .ref m_sheets, .int (nI u), .int fi, .ref m_fresh, .long aa, .long bb, .long dd, .int (nI ro), .ref m_rootWhich, .int db, .ref m_signs, .ref m_atNought, .int (nI mn), .ref m_change, .ref m_table, .ref m_carried])), (m_now, .inl (cy 0, 29, .inl nw))] := hD9
    replace hS := hS9
    clear hP9 hD9 hS9
    refine lv_iload_n hx hb dX8_slopeAt_57 rfl (lv_at hl 2 rfl) ?_
    refine lv_imul hx hb dX8_slopeAt_58 ?_
    refine lv_iadd hx hb dX8_slopeAt_59 ?_
    exact J3 _ _ _ _ ((if_pos hc1).symm) hP hD hS (lv_sub hl [0, 1, 2, 3, 4] rfl)
  · refine lv_aload_n hx hb dX8_slopeAt_5 rfl (lv_at hl 0 rfl) ?_
    refine lv_iload_n hx hb dX8_slopeAt_6 rfl (lv_at hl 3 rfl) ?_
    refine lv_iconst (v := 2) hx hb dX8_slopeAt_7 (by decide) ?_
    refine yk_i [0, 1] (va_runV (As := [.int bq, .int 2]) (rest := []) ⟨hx, hb, hml, hown, hts⟩ (c_X8_get l D cy ta m_now m_undone m_slots m_slotKind m_hasSlot m_sheetBits m_sheetSize m_sheets m_fresh m_rootWhich m_signs m_atNought m_change m_table m_carried nw u fi aa bb dd ro db mn bq 2 (by first | assumption | omega) H.size) (cwV 2 hts gX8_slopeAt_X8_get rfl rfl rfl hv_X8_get (yk_room hRf hRl rfl rfl)) (yk_pv (q := (RX8, TX8, 23)) hG hA hS hK hP hD [0, 1] (by decide +kernel) rfl rfl rfl) rfl rfl hl.1 rfl (lv_room (Nat.le_of_ble_eq_true rfl)) dX8_slopeAt_8 ⟨Nat.zero_le _, Nat.zero_le _⟩) hP hD hS hA rfl rfl (fun H locs hP9 hD9 hS9 => ?_)
    replace hP : va_P D vwCl [(ta, .inr (8, [.ref m_now, .ref m_undone, .ref m_slots, .ref m_slotKind, .ref m_hasSlot, .ref m_sheetBits, .ref m_sheetSize, .ref m_sheets, .int (nI u), .int fi, .ref m_fresh, .long aa, .long bb, .long dd, .int (nI ro), .ref m_rootWhich, .int db, .ref m_signs, .ref m_atNought, .int (nI mn), .ref m_change, .ref m_table, .ref m_carried])), (m_now, .inl (cy 0, 29, .inl nw))] H := hP9
    replace hD : va_D A [(ta, .inr (8, [.ref m_now, .ref m_undone, .ref m_slots, .ref m_slotKind, .ref m_hasSlot, .ref m_sheetBits, .ref m_sheetSize, .ref m_sheets, .int (nI u), .int fi, .ref m_fresh, .long aa, .long bb, .long dd, .int (nI ro), .ref m_rootWhich, .int db, .ref m_signs, .ref m_atNought, .int (nI mn), .ref m_change, .ref m_table, .ref m_carried])), (m_now, .inl (cy 0, 29, .inl nw))] := hD9
    replace hS := hS9
    clear hP9 hD9 hS9
    refine lv_aload_n hx hb dX8_slopeAt_11 rfl (lv_at hl 0 rfl) ?_
    refine lv_iload_n hx hb dX8_slopeAt_12 rfl (lv_at hl 3 rfl) ?_
    refine lv_iconst (v := 4) hx hb dX8_slopeAt_13 (by decide) ?_
    refine yk_i [0, 1] (va_runV (As := [.int bq, .int 4]) (rest := [.int (f_X8_get nw bq 2)]) ⟨hx, hb, hml, hown, hts⟩ (c_X8_get l D cy ta m_now m_undone m_slots m_slotKind m_hasSlot m_sheetBits m_sheetSize m_sheets m_fresh m_rootWhich m_signs m_atNought m_change m_table m_carried nw u fi aa bb dd ro db mn bq 4 (by first | assumption | omega) H.size) (cwV 2 hts gX8_slopeAt_X8_get rfl rfl rfl hv_X8_get (yk_room hRf hRl rfl rfl)) (yk_pv (q := (RX8, TX8, 23)) hG hA hS hK hP hD [0, 1] (by decide +kernel) rfl rfl rfl) rfl rfl hl.1 rfl (lv_room (Nat.le_of_ble_eq_true rfl)) dX8_slopeAt_14 ⟨Nat.zero_le _, Nat.zero_le _⟩) hP hD hS hA rfl rfl (fun H locs hP9 hD9 hS9 => ?_)
    replace hP : va_P D vwCl [(ta, .inr (8, [.ref m_now, .ref m_undone, .ref m_slots, .ref m_slotKind, .ref m_hasSlot, .ref m_sheetBits, .ref m_sheetSize, .ref m_sheets, .int (nI u), .int fi, .ref m_fresh, .long aa, .long bb, .long dd, .int (nI ro), .ref m_rootWhich, .int db, .ref m_signs, .ref m_atNought, .int (nI mn), .ref m_change, .ref m_table, .ref m_carried])), (m_now, .inl (cy 0, 29, .inl nw))] H := hP9
    replace hD : va_D A [(ta, .inr (8, [.ref m_now, .ref m_undone, .ref m_slots, .ref m_slotKind, .ref m_hasSlot, .ref m_sheetBits, .ref m_sheetSize, .ref m_sheets, .int (nI u), .int fi, .ref m_fresh, .long aa, .long bb, .long dd, .int (nI ro), .ref m_rootWhich, .int db, .ref m_signs, .ref m_atNought, .int (nI mn), .ref m_change, .ref m_table, .ref m_carried])), (m_now, .inl (cy 0, 29, .inl nw))] := hD9
    replace hS := hS9
    clear hP9 hD9 hS9
    refine lv_iload_n hx hb dX8_slopeAt_17 rfl (lv_at hl 1 rfl) ?_
    refine lv_imul hx hb dX8_slopeAt_18 ?_
    refine lv_iadd hx hb dX8_slopeAt_19 ?_
    refine lv_iconst (v := 2) hx hb dX8_slopeAt_20 (by decide) ?_
    refine lv_aload_n hx hb dX8_slopeAt_21 rfl (lv_at hl 0 rfl) ?_
    refine lv_iload_n hx hb dX8_slopeAt_22 rfl (lv_at hl 3 rfl) ?_
    refine lv_iconst (v := 5) hx hb dX8_slopeAt_23 (by decide) ?_
    refine yk_i [0, 1] (va_runV (As := [.int bq, .int 5]) (rest := [.int 2, .int ((f_X8_get nw bq 2) + ((f_X8_get nw bq 4) * px))]) ⟨hx, hb, hml, hown, hts⟩ (c_X8_get l D cy ta m_now m_undone m_slots m_slotKind m_hasSlot m_sheetBits m_sheetSize m_sheets m_fresh m_rootWhich m_signs m_atNought m_change m_table m_carried nw u fi aa bb dd ro db mn bq 5 (by first | assumption | omega) H.size) (cwV 2 hts gX8_slopeAt_X8_get rfl rfl rfl hv_X8_get (yk_room hRf hRl rfl rfl)) (yk_pv (q := (RX8, TX8, 23)) hG hA hS hK hP hD [0, 1] (by decide +kernel) rfl rfl rfl) rfl rfl hl.1 rfl (lv_room (Nat.le_of_ble_eq_true rfl)) dX8_slopeAt_24 ⟨Nat.zero_le _, Nat.zero_le _⟩) hP hD hS hA rfl rfl (fun H locs hP9 hD9 hS9 => ?_)
    replace hP : va_P D vwCl [(ta, .inr (8, [.ref m_now, .ref m_undone, .ref m_slots, .ref m_slotKind, .ref m_hasSlot, .ref m_sheetBits, .ref m_sheetSize, .ref m_sheets, .int (nI u), .int fi, .ref m_fresh, .long aa, .long bb, .long dd, .int (nI ro), .ref m_rootWhich, .int db, .ref m_signs, .ref m_atNought, .int (nI mn), .ref m_change, .ref m_table, .ref m_carried])), (m_now, .inl (cy 0, 29, .inl nw))] H := hP9
    replace hD : va_D A [(ta, .inr (8, [.ref m_now, .ref m_undone, .ref m_slots, .ref m_slotKind, .ref m_hasSlot, .ref m_sheetBits, .ref m_sheetSize, .ref m_sheets, .int (nI u), .int fi, .ref m_fresh, .long aa, .long bb, .long dd, .int (nI ro), .ref m_rootWhich, .int db, .ref m_signs, .ref m_atNought, .int (nI mn), .ref m_change, .ref m_table, .ref m_carried])), (m_now, .inl (cy 0, 29, .inl nw))] := hD9
    replace hS := hS9
    clear hP9 hD9 hS9
    refine lv_imul hx hb dX8_slopeAt_27 ?_
    refine lv_iload_n hx hb dX8_slopeAt_28 rfl (lv_at hl 2 rfl) ?_
    refine lv_imul hx hb dX8_slopeAt_29 ?_
    refine lv_iadd hx hb dX8_slopeAt_30 ?_
    refine lv_goto (tgt := 60) hx hb dX8_slopeAt_31 (by decide) ?_
    exact J3 _ _ _ _ ((if_neg hc1).symm) hP hD hS (lv_sub hl [0, 1, 2, 3, 4] rfl)

theorem kX8_slope_0 : Cond.constant RX8 68 (-1000001) ∈ wsX8_slope := by decide +kernel
def f_X8_slope (nw : Nat → Int32) (fi : Int32) (px : Int32) (py : Int32) (pw : Int32) : Int32 × Int32 := ((if (f_X8_isPlace px py) = 0 then (f_X8_found fi (-1000001)).1 else (if (f_X8_in pw 0 3) = 0 then (f_X8_found fi (-1000001)).1 else (f_X8_slopeAt nw px py (if pw ≤ 1 then 0 else 1) (if (pw - pw / 2 * 2) = 1 then 1 else 0)))), (if (f_X8_isPlace px py) = 0 then (f_X8_found fi (-1000001)).2 else (if (f_X8_in pw 0 3) = 0 then (f_X8_found fi (-1000001)).2 else fi)))
set_option maxHeartbeats 400000000 in
set_option maxRecDepth 100000 in
theorem c_X8_slope (l : Launch) (D : va_G) (cy : Nat → ClassId) (ta : Nat) (m_now : Nat) (m_undone : Nat) (m_slots : Nat) (m_slotKind : Nat) (m_hasSlot : Nat) (m_sheetBits : Nat) (m_sheetSize : Nat) (m_sheets : Nat) (m_fresh : Nat) (m_rootWhich : Nat) (m_signs : Nat) (m_atNought : Nat) (m_change : Nat) (m_table : Nat) (m_carried : Nat) (nw : Nat → Int32) (u : Nat) (fi : Int32) (aa : Int64) (bb : Int64) (dd : Int64) (ro : Nat) (db : Int32) (mn : Nat) (px : Int32) (py : Int32) (pw : Int32) : yk_Ci l D vwCl (yk_ty cy) yX8_slope wsX8_slope 2 46 [.ref ta, .int px, .int py, .int pw] [(ta, .inr (8, [.ref m_now, .ref m_undone, .ref m_slots, .ref m_slotKind, .ref m_hasSlot, .ref m_sheetBits, .ref m_sheetSize, .ref m_sheets, .int (nI u), .int fi, .ref m_fresh, .long aa, .long bb, .long dd, .int (nI ro), .ref m_rootWhich, .int db, .ref m_signs, .ref m_atNought, .int (nI mn), .ref m_change, .ref m_table, .ref m_carried])), (m_now, .inl (cy 0, 29, .inl nw))] ((f_X8_slope nw fi px py pw).1) [(ta, .inr (8, [.ref m_now, .ref m_undone, .ref m_slots, .ref m_slotKind, .ref m_hasSlot, .ref m_sheetBits, .ref m_sheetSize, .ref m_sheets, .int (nI u), .int ((f_X8_slope nw fi px py pw).2), .ref m_fresh, .long aa, .long bb, .long dd, .int (nI ro), .ref m_rootWhich, .int db, .ref m_signs, .ref m_atNought, .int (nI mn), .ref m_change, .ref m_table, .ref m_carried])), (m_now, .inl (cy 0, 29, .inl nw))] := by
  refine yk_eI (cc := cX8_slope) (maxL := 4) (by decide) rfl (Nat.le_of_ble_eq_true rfl) rfl ?_
  intro p e R s m args below meth c A Q ls H locs hx hb hml hown hts hRf hRl hA hK hG hP hD hS hl hQ
  have hP : va_P D vwCl [(ta, .inr (8, [.ref m_now, .ref m_undone, .ref m_slots, .ref m_slotKind, .ref m_hasSlot, .ref m_sheetBits, .ref m_sheetSize, .ref m_sheets, .int (nI u), .int fi, .ref m_fresh, .long aa, .long bb, .long dd, .int (nI ro), .ref m_rootWhich, .int db, .ref m_signs, .ref m_atNought, .int (nI mn), .ref m_change, .ref m_table, .ref m_carried])), (m_now, .inl (cy 0, 29, .inl nw))] H := hP
  have hl : lv_has ls 4 [(0, .ref ta), (1, .int px), (2, .int py), (3, .int pw)] := hl
  have hown : s.vm.findClass RX8 = some m.cls := hown
  have hF : (f_X8_slope nw fi px py pw) = (f_X8_slope nw fi px py pw) := rfl
  refine lv_iload_n hx hb dX8_slope_0 rfl (lv_at hl 1 rfl) ?_
  refine lv_iload_n hx hb dX8_slope_1 rfl (lv_at hl 2 rfl) ?_
  refine yk_i [] (va_runS (As := [.int px, .int py]) (rest := []) ⟨hx, hb, hml, hown, hts⟩ (c_X8_isPlace l D cy px py H.size) (va_cwS 2 hts gX8_slope_X8_isPlace rfl rfl rfl hs_X8_isPlace (yk_room hRf hRl rfl rfl)) (yk_ps hG hA hS hK hP hD [] (by decide +kernel) rfl) rfl rfl hl.1 rfl (lv_room (Nat.le_of_ble_eq_true rfl)) dX8_slope_2 ⟨Nat.zero_le _, Nat.zero_le _⟩) hP hD hS hA rfl rfl (fun H locs hP9 hD9 hS9 => ?_)
  replace hP : va_P D vwCl [(ta, .inr (8, [.ref m_now, .ref m_undone, .ref m_slots, .ref m_slotKind, .ref m_hasSlot, .ref m_sheetBits, .ref m_sheetSize, .ref m_sheets, .int (nI u), .int fi, .ref m_fresh, .long aa, .long bb, .long dd, .int (nI ro), .ref m_rootWhich, .int db, .ref m_signs, .ref m_atNought, .int (nI mn), .ref m_change, .ref m_table, .ref m_carried])), (m_now, .inl (cy 0, 29, .inl nw))] H := hP9
  replace hD : va_D A [(ta, .inr (8, [.ref m_now, .ref m_undone, .ref m_slots, .ref m_slotKind, .ref m_hasSlot, .ref m_sheetBits, .ref m_sheetSize, .ref m_sheets, .int (nI u), .int fi, .ref m_fresh, .long aa, .long bb, .long dd, .int (nI ro), .ref m_rootWhich, .int db, .ref m_signs, .ref m_atNought, .int (nI mn), .ref m_change, .ref m_table, .ref m_carried])), (m_now, .inl (cy 0, 29, .inl nw))] := hD9
  replace hS := hS9
  clear hP9 hD9 hS9
  have J11 : ∀ (v9 : Int32) (v10 : Int32) (H : Heap) (locs : List Loc) (ls : Array Slot), v9 = (if (f_X8_isPlace px py) = 0 then (f_X8_found fi (-1000001)).2 else (if (f_X8_in pw 0 3) = 0 then (f_X8_found fi (-1000001)).2 else fi)) → v10 = (if (f_X8_isPlace px py) = 0 then (f_X8_found fi (-1000001)).1 else (if (f_X8_in pw 0 3) = 0 then (f_X8_found fi (-1000001)).1 else (f_X8_slopeAt nw px py (if pw ≤ 1 then 0 else 1) (if (pw - pw / 2 * 2) = 1 then 1 else 0)))) → va_P D vwCl [(ta, .inr (8, [.ref m_now, .ref m_undone, .ref m_slots, .ref m_slotKind, .ref m_hasSlot, .ref m_sheetBits, .ref m_sheetSize, .ref m_sheets, .int (nI u), .int v9, .ref m_fresh, .long aa, .long bb, .long dd, .int (nI ro), .ref m_rootWhich, .int db, .ref m_signs, .ref m_atNought, .int (nI mn), .ref m_change, .ref m_table, .ref m_carried])), (m_now, .inl (cy 0, 29, .inl nw))] H → va_D A [(ta, .inr (8, [.ref m_now, .ref m_undone, .ref m_slots, .ref m_slotKind, .ref m_hasSlot, .ref m_sheetBits, .ref m_sheetSize, .ref m_sheets, .int (nI u), .int v9, .ref m_fresh, .long aa, .long bb, .long dd, .int (nI ro), .ref m_rootWhich, .int db, .ref m_signs, .ref m_atNought, .int (nI mn), .ref m_change, .ref m_table, .ref m_carried])), (m_now, .inl (cy 0, 29, .inl nw))] → va_S A s.heap H locs → lv_has ls 4 [(0, .ref ta), (1, .int px), (2, .int py), (3, .int pw)] → W p l e R s m args below meth c H locs 0 0 Q (F0 m 54 ls [.int v10]) := by
    clear hP hD hS hl
    intro v9 v10 H locs ls ev9 ev10 hP hD hS hl
    subst ev9
    subst ev10
    have hF : f_X8_slope nw fi px py pw = ((if (f_X8_isPlace px py) = 0 then (f_X8_found fi (-1000001)).1 else (if (f_X8_in pw 0 3) = 0 then (f_X8_found fi (-1000001)).1 else (f_X8_slopeAt nw px py (if pw ≤ 1 then 0 else 1) (if (pw - pw / 2 * 2) = 1 then 1 else 0)))), (if (f_X8_isPlace px py) = 0 then (f_X8_found fi (-1000001)).2 else (if (f_X8_in pw 0 3) = 0 then (f_X8_found fi (-1000001)).2 else fi))) := hF
    have hf0 := yk_fst hF
    have hg0 := yk_snd hF
    rw [hf0, hg0] at hQ
    exact hQ _ _ _ _ dX8_slope_54 hP hS
  refine lv_if_eq (tgt := 48) hx hb dX8_slope_5 (by decide) (fun hc1 => ?_) (fun hc1 => ?_)
  · refine lv_aload_n hx hb dX8_slope_48 rfl (lv_at hl 0 rfl) ?_
    refine lv_ldc (v := (-1000001)) hx hb hown (hts _ kX8_slope_0) dX8_slope_49 ?_
    refine yk_i [0] (va_runV (As := [.int (-1000001)]) (rest := []) ⟨hx, hb, hml, hown, hts⟩ (c_X8_found l D cy ta m_now m_undone m_slots m_slotKind m_hasSlot m_sheetBits m_sheetSize m_sheets m_fresh m_rootWhich m_signs m_atNought m_change m_table m_carried u fi aa bb dd ro db mn (-1000001) H.size) (cwV 1 hts gX8_slope_X8_found rfl rfl rfl hv_X8_found (yk_room hRf hRl rfl rfl)) (yk_pv (q := (RX8, TX8, 23)) hG hA hS hK hP hD [0] (by decide +kernel) rfl rfl rfl) rfl rfl hl.1 rfl (lv_room (Nat.le_of_ble_eq_true rfl)) dX8_slope_51 ⟨Nat.zero_le _, Nat.zero_le _⟩) hP hD hS hA rfl rfl (fun H locs hP9 hD9 hS9 => ?_)
    replace hP : va_P D vwCl [(ta, .inr (8, [.ref m_now, .ref m_undone, .ref m_slots, .ref m_slotKind, .ref m_hasSlot, .ref m_sheetBits, .ref m_sheetSize, .ref m_sheets, .int (nI u), .int ((f_X8_found fi (-1000001)).2), .ref m_fresh, .long aa, .long bb, .long dd, .int (nI ro), .ref m_rootWhich, .int db, .ref m_signs, .ref m_atNought, .int (nI mn), .ref m_change, .ref m_table, .ref m_carried])), (m_now, .inl (cy 0, 29, .inl nw))] H := hP9
    replace hD : va_D A [(ta, .inr (8, [.ref m_now, .ref m_undone, .ref m_slots, .ref m_slotKind, .ref m_hasSlot, .ref m_sheetBits, .ref m_sheetSize, .ref m_sheets, .int (nI u), .int ((f_X8_found fi (-1000001)).2), .ref m_fresh, .long aa, .long bb, .long dd, .int (nI ro), .ref m_rootWhich, .int db, .ref m_signs, .ref m_atNought, .int (nI mn), .ref m_change, .ref m_table, .ref m_carried])), (m_now, .inl (cy 0, 29, .inl nw))] := hD9
    replace hS := hS9
    clear hP9 hD9 hS9
    exact J11 _ _ _ _ _ ((if_pos hc1).symm) ((if_pos hc1).symm) hP hD hS (lv_sub hl [0, 1, 2, 3] rfl)
  · refine lv_iload_n hx hb dX8_slope_8 rfl (lv_at hl 3 rfl) ?_
    refine lv_iconst (v := 0) hx hb dX8_slope_9 (by decide) ?_
    refine lv_iconst (v := 3) hx hb dX8_slope_10 (by decide) ?_
    refine yk_i [] (va_runS (As := [.int pw, .int 0, .int 3]) (rest := []) ⟨hx, hb, hml, hown, hts⟩ (c_X8_in l D cy pw 0 3 H.size) (va_cwS 3 hts gX8_slope_X8_in rfl rfl rfl hs_X8_in (yk_room hRf hRl rfl rfl)) (yk_ps hG hA hS hK hP hD [] (by decide +kernel) rfl) rfl rfl hl.1 rfl (lv_room (Nat.le_of_ble_eq_true rfl)) dX8_slope_11 ⟨Nat.zero_le _, Nat.zero_le _⟩) hP hD hS hA rfl rfl (fun H locs hP9 hD9 hS9 => ?_)
    replace hP : va_P D vwCl [(ta, .inr (8, [.ref m_now, .ref m_undone, .ref m_slots, .ref m_slotKind, .ref m_hasSlot, .ref m_sheetBits, .ref m_sheetSize, .ref m_sheets, .int (nI u), .int fi, .ref m_fresh, .long aa, .long bb, .long dd, .int (nI ro), .ref m_rootWhich, .int db, .ref m_signs, .ref m_atNought, .int (nI mn), .ref m_change, .ref m_table, .ref m_carried])), (m_now, .inl (cy 0, 29, .inl nw))] H := hP9
    replace hD : va_D A [(ta, .inr (8, [.ref m_now, .ref m_undone, .ref m_slots, .ref m_slotKind, .ref m_hasSlot, .ref m_sheetBits, .ref m_sheetSize, .ref m_sheets, .int (nI u), .int fi, .ref m_fresh, .long aa, .long bb, .long dd, .int (nI ro), .ref m_rootWhich, .int db, .ref m_signs, .ref m_atNought, .int (nI mn), .ref m_change, .ref m_table, .ref m_carried])), (m_now, .inl (cy 0, 29, .inl nw))] := hD9
    replace hS := hS9
    clear hP9 hD9 hS9
    refine lv_if_eq (tgt := 48) hx hb dX8_slope_14 (by decide) (fun hc2 => ?_) (fun hc2 => ?_)
    · refine lv_aload_n hx hb dX8_slope_48 rfl (lv_at hl 0 rfl) ?_
      refine lv_ldc (v := (-1000001)) hx hb hown (hts _ kX8_slope_0) dX8_slope_49 ?_
      refine yk_i [0] (va_runV (As := [.int (-1000001)]) (rest := []) ⟨hx, hb, hml, hown, hts⟩ (c_X8_found l D cy ta m_now m_undone m_slots m_slotKind m_hasSlot m_sheetBits m_sheetSize m_sheets m_fresh m_rootWhich m_signs m_atNought m_change m_table m_carried u fi aa bb dd ro db mn (-1000001) H.size) (cwV 1 hts gX8_slope_X8_found rfl rfl rfl hv_X8_found (yk_room hRf hRl rfl rfl)) (yk_pv (q := (RX8, TX8, 23)) hG hA hS hK hP hD [0] (by decide +kernel) rfl rfl rfl) rfl rfl hl.1 rfl (lv_room (Nat.le_of_ble_eq_true rfl)) dX8_slope_51 ⟨Nat.zero_le _, Nat.zero_le _⟩) hP hD hS hA rfl rfl (fun H locs hP9 hD9 hS9 => ?_)
      replace hP : va_P D vwCl [(ta, .inr (8, [.ref m_now, .ref m_undone, .ref m_slots, .ref m_slotKind, .ref m_hasSlot, .ref m_sheetBits, .ref m_sheetSize, .ref m_sheets, .int (nI u), .int ((f_X8_found fi (-1000001)).2), .ref m_fresh, .long aa, .long bb, .long dd, .int (nI ro), .ref m_rootWhich, .int db, .ref m_signs, .ref m_atNought, .int (nI mn), .ref m_change, .ref m_table, .ref m_carried])), (m_now, .inl (cy 0, 29, .inl nw))] H := hP9
      replace hD : va_D A [(ta, .inr (8, [.ref m_now, .ref m_undone, .ref m_slots, .ref m_slotKind, .ref m_hasSlot, .ref m_sheetBits, .ref m_sheetSize, .ref m_sheets, .int (nI u), .int ((f_X8_found fi (-1000001)).2), .ref m_fresh, .long aa, .long bb, .long dd, .int (nI ro), .ref m_rootWhich, .int db, .ref m_signs, .ref m_atNought, .int (nI mn), .ref m_change, .ref m_table, .ref m_carried])), (m_now, .inl (cy 0, 29, .inl nw))] := hD9
      replace hS := hS9
      clear hP9 hD9 hS9
      exact J11 _ _ _ _ _ (((if_neg hc1).trans (if_pos hc2)).symm) (((if_neg hc1).trans (if_pos hc2)).symm) hP hD hS (lv_sub hl [0, 1, 2, 3] rfl)
    · refine lv_aload_n hx hb dX8_slope_17 rfl (lv_at hl 0 rfl) ?_
      refine lv_iload_n hx hb dX8_slope_18 rfl (lv_at hl 1 rfl) ?_
      refine lv_iload_n hx hb dX8_slope_19 rfl (lv_at hl 2 rfl) ?_
      refine lv_iload_n hx hb dX8_slope_20 rfl (lv_at hl 3 rfl) ?_
      refine lv_iconst (v := 1) hx hb dX8_slope_21 (by decide) ?_
      have J5 : ∀ (v4 : Int32) (H : Heap) (locs : List Loc) (ls : Array Slot), v4 = (if pw ≤ 1 then 0 else 1) → va_P D vwCl [(ta, .inr (8, [.ref m_now, .ref m_undone, .ref m_slots, .ref m_slotKind, .ref m_hasSlot, .ref m_sheetBits, .ref m_sheetSize, .ref m_sheets, .int (nI u), .int fi, .ref m_fresh, .long aa, .long bb, .long dd, .int (nI ro), .ref m_rootWhich, .int db, .ref m_signs, .ref m_atNought, .int (nI mn), .ref m_change, .ref m_table, .ref m_carried])), (m_now, .inl (cy 0, 29, .inl nw))] H → va_D A [(ta, .inr (8, [.ref m_now, .ref m_undone, .ref m_slots, .ref m_slotKind, .ref m_hasSlot, .ref m_sheetBits, .ref m_sheetSize, .ref m_sheets, .int (nI u), .int fi, .ref m_fresh, .long aa, .long bb, .long dd, .int (nI ro), .ref m_rootWhich, .int db, .ref m_signs, .ref m_atNought, .int (nI mn), .ref m_change, .ref m_table, .ref m_carried])), (m_now, .inl (cy 0, 29, .inl nw))] → va_S A s.heap H locs → lv_has ls 4 [(0, .ref ta), (1, .int px), (2, .int py), (3, .int pw)] → W p l e R s m args below meth c H locs 0 0 Q (F0 m 30 ls [.int v4, .int py, .int px, .ref ta]) := by
        clear hP hD hS hl
        intro v4 H locs ls ev4 hP hD hS hl
        subst ev4
        refine lv_iload_n hx hb dX8_slope_30 rfl (lv_at hl 3 rfl) ?_
        refine lv_iconst (v := 2) hx hb dX8_slope_31 (by decide) ?_
        refine lv_irem hx hb dX8_slope_32 (by decide) ?_
        refine lv_iconst (v := 1) hx hb dX8_slope_33 (by decide) ?_
        have J8 : ∀ (v7 : Int32) (H : Heap) (locs : List Loc) (ls : Array Slot), v7 = (if (pw - pw / 2 * 2) = 1 then 1 else 0) → va_P D vwCl [(ta, .inr (8, [.ref m_now, .ref m_undone, .ref m_slots, .ref m_slotKind, .ref m_hasSlot, .ref m_sheetBits, .ref m_sheetSize, .ref m_sheets, .int (nI u), .int fi, .ref m_fresh, .long aa, .long bb, .long dd, .int (nI ro), .ref m_rootWhich, .int db, .ref m_signs, .ref m_atNought, .int (nI mn), .ref m_change, .ref m_table, .ref m_carried])), (m_now, .inl (cy 0, 29, .inl nw))] H → va_D A [(ta, .inr (8, [.ref m_now, .ref m_undone, .ref m_slots, .ref m_slotKind, .ref m_hasSlot, .ref m_sheetBits, .ref m_sheetSize, .ref m_sheets, .int (nI u), .int fi, .ref m_fresh, .long aa, .long bb, .long dd, .int (nI ro), .ref m_rootWhich, .int db, .ref m_signs, .ref m_atNought, .int (nI mn), .ref m_change, .ref m_table, .ref m_carried])), (m_now, .inl (cy 0, 29, .inl nw))] → va_S A s.heap H locs → lv_has ls 4 [(0, .ref ta), (1, .int px), (2, .int py), (3, .int pw)] → W p l e R s m args below meth c H locs 0 0 Q (F0 m 42 ls [.int v7, .int (if pw ≤ 1 then 0 else 1), .int py, .int px, .ref ta]) := by
          clear hP hD hS hl
          intro v7 H locs ls ev7 hP hD hS hl
          subst ev7
          refine yk_i [0, 1] (va_runV (As := [.int px, .int py, .int (if pw ≤ 1 then 0 else 1), .int (if (pw - pw / 2 * 2) = 1 then 1 else 0)]) (rest := []) ⟨hx, hb, hml, hown, hts⟩ (c_X8_slopeAt l D cy ta m_now m_undone m_slots m_slotKind m_hasSlot m_sheetBits m_sheetSize m_sheets m_fresh m_rootWhich m_signs m_atNought m_change m_table m_carried nw u fi aa bb dd ro db mn px py (if pw ≤ 1 then 0 else 1) (if (pw - pw / 2 * 2) = 1 then 1 else 0) H.size) (cwV 4 hts gX8_slope_X8_slopeAt rfl rfl rfl hv_X8_slopeAt (yk_room hRf hRl rfl rfl)) (yk_pv (q := (RX8, TX8, 23)) hG hA hS hK hP hD [0, 1] (by decide +kernel) rfl rfl rfl) rfl rfl hl.1 rfl (lv_room (Nat.le_of_ble_eq_true rfl)) dX8_slope_42 ⟨Nat.zero_le _, Nat.zero_le _⟩) hP hD hS hA rfl rfl (fun H locs hP9 hD9 hS9 => ?_)
          replace hP : va_P D vwCl [(ta, .inr (8, [.ref m_now, .ref m_undone, .ref m_slots, .ref m_slotKind, .ref m_hasSlot, .ref m_sheetBits, .ref m_sheetSize, .ref m_sheets, .int (nI u), .int fi, .ref m_fresh, .long aa, .long bb, .long dd, .int (nI ro), .ref m_rootWhich, .int db, .ref m_signs, .ref m_atNought, .int (nI mn), .ref m_change, .ref m_table, .ref m_carried])), (m_now, .inl (cy 0, 29, .inl nw))] H := hP9
          replace hD : va_D A [(ta, .inr (8, [.ref m_now, .ref m_undone, .ref m_slots, .ref m_slotKind, .ref m_hasSlot, .ref m_sheetBits, .ref m_sheetSize, .ref m_sheets, .int (nI u), .int fi, .ref m_fresh, .long aa, .long bb, .long dd, .int (nI ro), .ref m_rootWhich, .int db, .ref m_signs, .ref m_atNought, .int (nI mn), .ref m_change, .ref m_table, .ref m_carried])), (m_now, .inl (cy 0, 29, .inl nw))] := hD9
          replace hS := hS9
          clear hP9 hD9 hS9
          refine lv_goto (tgt := 54) hx hb dX8_slope_45 (by decide) ?_
          exact J11 _ _ _ _ _ (((if_neg hc1).trans (if_neg hc2)).symm) (((if_neg hc1).trans (if_neg hc2)).symm) hP hD hS (lv_sub hl [0, 1, 2, 3] rfl)
        refine lv_icmp_ne (tgt := 41) hx hb dX8_slope_34 (by decide) (fun hc6 => ?_) (fun hc6 => ?_)
        · refine lv_iconst (v := 0) hx hb dX8_slope_41 (by decide) ?_
          exact J8 _ _ _ _ ((if_neg hc6).symm) hP hD hS (lv_sub hl [0, 1, 2, 3] rfl)
        · refine lv_iconst (v := 1) hx hb dX8_slope_37 (by decide) ?_
          refine lv_goto (tgt := 42) hx hb dX8_slope_38 (by decide) ?_
          exact J8 _ _ _ _ ((if_pos hc6).symm) hP hD hS (lv_sub hl [0, 1, 2, 3] rfl)
      refine lv_icmp_le (tgt := 29) hx hb dX8_slope_22 (by decide) (fun hc3 => ?_) (fun hc3 => ?_)
      · refine lv_iconst (v := 0) hx hb dX8_slope_29 (by decide) ?_
        exact J5 _ _ _ _ ((if_pos hc3).symm) hP hD hS (lv_sub hl [0, 1, 2, 3] rfl)
      · refine lv_iconst (v := 1) hx hb dX8_slope_25 (by decide) ?_
        refine lv_goto (tgt := 30) hx hb dX8_slope_26 (by decide) ?_
        exact J5 _ _ _ _ ((if_neg hc3).symm) hP hD hS (lv_sub hl [0, 1, 2, 3] rfl)

theorem kX8_back_0 : Cond.fieldLink RX8 7 "FlowPlaneModel" "now" "[I" ∈ wsX8_back := by decide +kernel
theorem uX8_back_X8 : ∀ w ∈ u_ws RX8 TX8 23, w ∈ wsX8_back := by decide +kernel
def l_X8_back_6 (nw : Nat → Int32) (un : Nat → Int32) (u : Nat) : Nat → Nat → (Nat → Int32) → (Nat → Int32)
  | 0, ki, znow_6 => znow_6
  | fu_X8_back_6 + 1, ki, znow_6 => (if 12 ≤ (nI ki) then znow_6 else (l_X8_back_6 nw un u fu_X8_back_6 (ki + 1) (upd znow_6 ki (-(znow_6 ki)))))
def f_X8_back (nw : Nat → Int32) (un : Nat → Int32) (u : Nat) : Int32 × Nat × (Nat → Int32) × (Nat → Int32) := (1, ((f_X8_remember nw un u).1), (l_X8_back_6 nw un u (12 + 1) 0 nw), ((f_X8_remember nw un u).2))
set_option maxHeartbeats 400000000 in
set_option maxRecDepth 100000 in
theorem c_X8_back (l : Launch) (D : va_G) (cy : Nat → ClassId) (ta : Nat) (m_now : Nat) (m_undone : Nat) (m_slots : Nat) (m_slotKind : Nat) (m_hasSlot : Nat) (m_sheetBits : Nat) (m_sheetSize : Nat) (m_sheets : Nat) (m_fresh : Nat) (m_rootWhich : Nat) (m_signs : Nat) (m_atNought : Nat) (m_change : Nat) (m_table : Nat) (m_carried : Nat) (nw : Nat → Int32) (un : Nat → Int32) (u : Nat) (fi : Int32) (aa : Int64) (bb : Int64) (dd : Int64) (ro : Nat) (db : Int32) (mn : Nat) (hu : u ≤ 25) : yk_Ci l D vwCl (yk_ty cy) yX8_back wsX8_back 1 21 [.ref ta] [(ta, .inr (8, [.ref m_now, .ref m_undone, .ref m_slots, .ref m_slotKind, .ref m_hasSlot, .ref m_sheetBits, .ref m_sheetSize, .ref m_sheets, .int (nI u), .int fi, .ref m_fresh, .long aa, .long bb, .long dd, .int (nI ro), .ref m_rootWhich, .int db, .ref m_signs, .ref m_atNought, .int (nI mn), .ref m_change, .ref m_table, .ref m_carried])), (m_now, .inl (cy 0, 29, .inl nw)), (m_undone, .inl (cy 0, 725, .inl un))] ((f_X8_back nw un u).1) [(ta, .inr (8, [.ref m_now, .ref m_undone, .ref m_slots, .ref m_slotKind, .ref m_hasSlot, .ref m_sheetBits, .ref m_sheetSize, .ref m_sheets, .int (nI ((f_X8_back nw un u).2.1)), .int fi, .ref m_fresh, .long aa, .long bb, .long dd, .int (nI ro), .ref m_rootWhich, .int db, .ref m_signs, .ref m_atNought, .int (nI mn), .ref m_change, .ref m_table, .ref m_carried])), (m_now, .inl (cy 0, 29, .inl ((f_X8_back nw un u).2.2.1))), (m_undone, .inl (cy 0, 725, .inl ((f_X8_back nw un u).2.2.2)))] := by
  refine yk_eI (cc := cX8_back) (maxL := 2) (by decide) rfl (Nat.le_of_ble_eq_true rfl) rfl ?_
  intro p e R s m args below meth c A Q ls H locs hx hb hml hown hts hRf hRl hA hK hG hP hD hS hl hQ
  have hP : va_P D vwCl [(ta, .inr (8, [.ref m_now, .ref m_undone, .ref m_slots, .ref m_slotKind, .ref m_hasSlot, .ref m_sheetBits, .ref m_sheetSize, .ref m_sheets, .int (nI u), .int fi, .ref m_fresh, .long aa, .long bb, .long dd, .int (nI ro), .ref m_rootWhich, .int db, .ref m_signs, .ref m_atNought, .int (nI mn), .ref m_change, .ref m_table, .ref m_carried])), (m_now, .inl (cy 0, 29, .inl nw)), (m_undone, .inl (cy 0, 725, .inl un))] H := hP
  have hl : lv_has ls 2 [(0, .ref ta)] := hl
  have hown : s.vm.findClass RX8 = some m.cls := hown
  have hF : (f_X8_back nw un u) = (f_X8_back nw un u) := rfl
  refine lv_aload_n hx hb dX8_back_0 rfl (lv_at hl 0 rfl) ?_
  refine yk_v [0, 1, 2] (va_runV (As := []) (rest := []) ⟨hx, hb, hml, hown, hts⟩ (c_X8_remember l D cy ta m_now m_undone m_slots m_slotKind m_hasSlot m_sheetBits m_sheetSize m_sheets m_fresh m_rootWhich m_signs m_atNought m_change m_table m_carried nw un u fi aa bb dd ro db mn (by first | assumption | omega) H.size) (cwV 0 hts gX8_back_X8_remember rfl rfl rfl hv_X8_remember (yk_room hRf hRl rfl rfl)) (yk_pv (q := (RX8, TX8, 23)) hG hA hS hK hP hD [0, 1, 2] (by decide +kernel) rfl rfl rfl) rfl rfl hl.1 rfl (lv_room (Nat.le_of_ble_eq_true rfl)) dX8_back_1 ⟨Nat.zero_le _, Nat.zero_le _⟩) hP hD hS hA rfl rfl (fun H locs hP9 hD9 hS9 => ?_)
  replace hP : va_P D vwCl [(ta, .inr (8, [.ref m_now, .ref m_undone, .ref m_slots, .ref m_slotKind, .ref m_hasSlot, .ref m_sheetBits, .ref m_sheetSize, .ref m_sheets, .int (nI ((f_X8_remember nw un u).1)), .int fi, .ref m_fresh, .long aa, .long bb, .long dd, .int (nI ro), .ref m_rootWhich, .int db, .ref m_signs, .ref m_atNought, .int (nI mn), .ref m_change, .ref m_table, .ref m_carried])), (m_now, .inl (cy 0, 29, .inl nw)), (m_undone, .inl (cy 0, 725, .inl ((f_X8_remember nw un u).2)))] H := hP9
  replace hD : va_D A [(ta, .inr (8, [.ref m_now, .ref m_undone, .ref m_slots, .ref m_slotKind, .ref m_hasSlot, .ref m_sheetBits, .ref m_sheetSize, .ref m_sheets, .int (nI ((f_X8_remember nw un u).1)), .int fi, .ref m_fresh, .long aa, .long bb, .long dd, .int (nI ro), .ref m_rootWhich, .int db, .ref m_signs, .ref m_atNought, .int (nI mn), .ref m_change, .ref m_table, .ref m_carried])), (m_now, .inl (cy 0, 29, .inl nw)), (m_undone, .inl (cy 0, 725, .inl ((f_X8_remember nw un u).2)))] := hD9
  replace hS := hS9
  clear hP9 hD9 hS9
  refine lv_iconst (v := 0) hx hb dX8_back_4 (by decide) ?_
  refine lv_istore_n (lv' := [(1, .int 0), (0, .ref ta)]) hx hb dX8_back_5 rfl hl (by decide) rfl (fun ls hl9 => ?_)
  replace hl := hl9
  clear hl9
  have J3 : ∀ (H : Heap) (locs : List Loc) (ls : Array Slot), va_P D vwCl [(ta, .inr (8, [.ref m_now, .ref m_undone, .ref m_slots, .ref m_slotKind, .ref m_hasSlot, .ref m_sheetBits, .ref m_sheetSize, .ref m_sheets, .int (nI ((f_X8_remember nw un u).1)), .int fi, .ref m_fresh, .long aa, .long bb, .long dd, .int (nI ro), .ref m_rootWhich, .int db, .ref m_signs, .ref m_atNought, .int (nI mn), .ref m_change, .ref m_table, .ref m_carried])), (m_now, .inl (cy 0, 29, .inl (l_X8_back_6 nw un u (12 + 1) 0 nw))), (m_undone, .inl (cy 0, 725, .inl ((f_X8_remember nw un u).2)))] H → va_D A [(ta, .inr (8, [.ref m_now, .ref m_undone, .ref m_slots, .ref m_slotKind, .ref m_hasSlot, .ref m_sheetBits, .ref m_sheetSize, .ref m_sheets, .int (nI ((f_X8_remember nw un u).1)), .int fi, .ref m_fresh, .long aa, .long bb, .long dd, .int (nI ro), .ref m_rootWhich, .int db, .ref m_signs, .ref m_atNought, .int (nI mn), .ref m_change, .ref m_table, .ref m_carried])), (m_now, .inl (cy 0, 29, .inl (l_X8_back_6 nw un u (12 + 1) 0 nw))), (m_undone, .inl (cy 0, 725, .inl ((f_X8_remember nw un u).2)))] → va_S A s.heap H locs → lv_has ls 2 [(0, .ref ta)] → W p l e R s m args below meth c H locs 0 0 Q (F0 m 31 ls []) := by
    clear hP hD hS hl
    intro H locs ls hP hD hS hl
    refine lv_iconst (v := 1) hx hb dX8_back_31 (by decide) ?_
    have hF : f_X8_back nw un u = (1, ((f_X8_remember nw un u).1), (l_X8_back_6 nw un u (12 + 1) 0 nw), ((f_X8_remember nw un u).2)) := hF
    have hf0 := yk_fst hF
    have hg0 := yk_snd hF
    have hf1 := yk_fst hg0
    have hg1 := yk_snd hg0
    have hf2 := yk_fst hg1
    have hg2 := yk_snd hg1
    rw [hf0, hf1, hf2, hg2] at hQ
    exact hQ _ _ _ _ dX8_back_32 hP hS
  have L6 : ∀ (M9 n6 ki : Nat) (znow_6 : Nat → Int32) (H : Heap) (locs : List Loc) (ls : Array Slot), n6 < M9 → ki + n6 = 12 → (l_X8_back_6 nw un u (12 + 1) 0 nw) = (l_X8_back_6 nw un u (n6 + 1) ki znow_6) → va_P D vwCl [(ta, .inr (8, [.ref m_now, .ref m_undone, .ref m_slots, .ref m_slotKind, .ref m_hasSlot, .ref m_sheetBits, .ref m_sheetSize, .ref m_sheets, .int (nI ((f_X8_remember nw un u).1)), .int fi, .ref m_fresh, .long aa, .long bb, .long dd, .int (nI ro), .ref m_rootWhich, .int db, .ref m_signs, .ref m_atNought, .int (nI mn), .ref m_change, .ref m_table, .ref m_carried])), (m_now, .inl (cy 0, 29, .inl znow_6)), (m_undone, .inl (cy 0, 725, .inl ((f_X8_remember nw un u).2)))] H → va_D A [(ta, .inr (8, [.ref m_now, .ref m_undone, .ref m_slots, .ref m_slotKind, .ref m_hasSlot, .ref m_sheetBits, .ref m_sheetSize, .ref m_sheets, .int (nI ((f_X8_remember nw un u).1)), .int fi, .ref m_fresh, .long aa, .long bb, .long dd, .int (nI ro), .ref m_rootWhich, .int db, .ref m_signs, .ref m_atNought, .int (nI mn), .ref m_change, .ref m_table, .ref m_carried])), (m_now, .inl (cy 0, 29, .inl znow_6)), (m_undone, .inl (cy 0, 725, .inl ((f_X8_remember nw un u).2)))] → va_S A s.heap H locs → lv_has ls 2 [(0, .ref ta), (1, .int (nI ki))] → W p l e R s m args below meth c H locs 0 0 Q (F0 m 6 ls []) := by
    clear hP hD hS hl
    intro M9
    induction M9 with
    | zero => intro n6 ki _ _ _ _ hn; exact absurd hn (Nat.not_lt_zero _)
    | succ M9 ih6 =>
      intro n6 ki znow_6 H locs ls hn6 hk6 hV6 hP hD hS hl
      refine lv_iload_n hx hb dX8_back_6 rfl (lv_at hl 1 rfl) ?_
      refine lv_bipush (v := 12) hx hb dX8_back_7 (by decide) ?_
      refine lv_icmp_ge (tgt := 31) hx hb dX8_back_9 (by decide) (fun hc2 => ?_) (fun hc2 => ?_)
      · replace hV6 := hV6.trans (if_pos hc2)
        have hV6 : (l_X8_back_6 nw un u (12 + 1) 0 nw) = znow_6 := hV6
        have J3 := J3
        rw [hV6] at J3
        exact J3 _ _ _ hP hD hS (lv_sub hl [0] rfl)
      · replace hV6 := hV6.trans (if_neg hc2)
        have hlt6 : ki < 12 := yk_lt hk6 (by omega) hc2
        refine lv_aload_n hx hb dX8_back_12 rfl (lv_at hl 0 rfl) ?_
        refine va_get (D := D) (ci := 8) (v := .ref m_now) (C := RX8) (T := TX8) (N := 23) hx hb hts uX8_back_X8 hown hK hP 0 rfl rfl 0 (by decide) (hts _ kX8_back_0) (fun _ h9 => h9) rfl dX8_back_13 ?_
        refine lv_iload_n hx hb dX8_back_16 rfl (lv_at hl 1 rfl) ?_
        refine lv_aload_n hx hb dX8_back_17 rfl (lv_at hl 0 rfl) ?_
        refine va_get (D := D) (ci := 8) (v := .ref m_now) (C := RX8) (T := TX8) (N := 23) hx hb hts uX8_back_X8 hown hK hP 0 rfl rfl 0 (by decide) (hts _ kX8_back_0) (fun _ h9 => h9) rfl dX8_back_18 ?_
        refine lv_iload_n hx hb dX8_back_21 rfl (lv_at hl 1 rfl) ?_
        refine yk_ild hx hb hK hP 1 0 rfl rfl ki (by omega) (by decide) dX8_back_22 ?_
        refine lv_ineg hx hb dX8_back_23 ?_
        refine yk_ist hx hb hK hP hD hS 1 0 rfl rfl ki (by omega) (by decide) dX8_back_24 (fun H locs hP9 hD9 hS9 => ?_)
        replace hP : va_P D vwCl [(ta, .inr (8, [.ref m_now, .ref m_undone, .ref m_slots, .ref m_slotKind, .ref m_hasSlot, .ref m_sheetBits, .ref m_sheetSize, .ref m_sheets, .int (nI ((f_X8_remember nw un u).1)), .int fi, .ref m_fresh, .long aa, .long bb, .long dd, .int (nI ro), .ref m_rootWhich, .int db, .ref m_signs, .ref m_atNought, .int (nI mn), .ref m_change, .ref m_table, .ref m_carried])), (m_now, .inl (cy 0, 29, .inl (upd znow_6 ki (-(znow_6 ki))))), (m_undone, .inl (cy 0, 725, .inl ((f_X8_remember nw un u).2)))] H := hP9
        replace hD : va_D A [(ta, .inr (8, [.ref m_now, .ref m_undone, .ref m_slots, .ref m_slotKind, .ref m_hasSlot, .ref m_sheetBits, .ref m_sheetSize, .ref m_sheets, .int (nI ((f_X8_remember nw un u).1)), .int fi, .ref m_fresh, .long aa, .long bb, .long dd, .int (nI ro), .ref m_rootWhich, .int db, .ref m_signs, .ref m_atNought, .int (nI mn), .ref m_change, .ref m_table, .ref m_carried])), (m_now, .inl (cy 0, 29, .inl (upd znow_6 ki (-(znow_6 ki))))), (m_undone, .inl (cy 0, 725, .inl ((f_X8_remember nw un u).2)))] := hD9
        replace hS := hS9
        clear hP9 hD9 hS9
        refine lv_iinc (v := nI (ki + 1)) (lv' := [(1, .int (nI (ki + 1))), (0, .ref ta)]) hx hb dX8_back_25 hl (k := 1) rfl (yk_inc ki) (by decide) rfl (fun ls hl9 => ?_)
        replace hl := hl9
        clear hl9
        refine lv_goto (tgt := 6) hx hb dX8_back_28 (by decide) ?_
        obtain ⟨n9, rfl⟩ : ∃ n9, n6 = n9 + 1 := ⟨n6 - 1, by omega⟩
        exact ih6 n9 (ki + 1) (upd znow_6 ki (-(znow_6 ki))) _ _ _ (by omega) (by omega)  hV6 hP hD hS (lv_sub hl [1, 0] rfl)
  exact L6 (12 + 1) 12 0 nw _ _ _ (Nat.lt_succ_self _) (by omega)  rfl hP hD hS (lv_sub hl [1, 0] rfl)

theorem kX8_take_0 : Cond.fieldLink RX8 7 "FlowPlaneModel" "now" "[I" ∈ wsX8_take := by decide +kernel
theorem kX8_take_1 : Cond.fieldLink RX8 35 "FlowPlaneModel" "fresh" "[I" ∈ wsX8_take := by decide +kernel
theorem uX8_take_X8 : ∀ w ∈ u_ws RX8 TX8 23, w ∈ wsX8_take := by decide +kernel
def l_X8_take_2 (nw : Nat → Int32) (fr : Nat → Int32) : Nat → Nat → (Nat → Int32) → (Nat → Int32)
  | 0, ki, znow_2 => znow_2
  | fu_X8_take_2 + 1, ki, znow_2 => (if 12 ≤ (nI ki) then znow_2 else (l_X8_take_2 nw fr fu_X8_take_2 (ki + 1) (upd znow_2 ki (fr ki))))
def f_X8_take (nw : Nat → Int32) (fr : Nat → Int32) : (Nat → Int32) := (l_X8_take_2 nw fr (12 + 1) 0 nw)
set_option maxHeartbeats 400000000 in
set_option maxRecDepth 100000 in
theorem c_X8_take (l : Launch) (D : va_G) (cy : Nat → ClassId) (ta : Nat) (m_now : Nat) (m_fresh : Nat) (m_undone : Nat) (m_slots : Nat) (m_slotKind : Nat) (m_hasSlot : Nat) (m_sheetBits : Nat) (m_sheetSize : Nat) (m_sheets : Nat) (m_rootWhich : Nat) (m_signs : Nat) (m_atNought : Nat) (m_change : Nat) (m_table : Nat) (m_carried : Nat) (nw : Nat → Int32) (u : Nat) (fi : Int32) (fr : Nat → Int32) (aa : Int64) (bb : Int64) (dd : Int64) (ro : Nat) (db : Int32) (mn : Nat) : yk_Cv l D vwCl (yk_ty cy) yX8_take wsX8_take 0 0 [.ref ta] [(ta, .inr (8, [.ref m_now, .ref m_undone, .ref m_slots, .ref m_slotKind, .ref m_hasSlot, .ref m_sheetBits, .ref m_sheetSize, .ref m_sheets, .int (nI u), .int fi, .ref m_fresh, .long aa, .long bb, .long dd, .int (nI ro), .ref m_rootWhich, .int db, .ref m_signs, .ref m_atNought, .int (nI mn), .ref m_change, .ref m_table, .ref m_carried])), (m_now, .inl (cy 0, 29, .inl nw)), (m_fresh, .inl (cy 0, 12, .inl fr))] [(ta, .inr (8, [.ref m_now, .ref m_undone, .ref m_slots, .ref m_slotKind, .ref m_hasSlot, .ref m_sheetBits, .ref m_sheetSize, .ref m_sheets, .int (nI u), .int fi, .ref m_fresh, .long aa, .long bb, .long dd, .int (nI ro), .ref m_rootWhich, .int db, .ref m_signs, .ref m_atNought, .int (nI mn), .ref m_change, .ref m_table, .ref m_carried])), (m_now, .inl (cy 0, 29, .inl (f_X8_take nw fr))), (m_fresh, .inl (cy 0, 12, .inl fr))] := by
  refine yk_eV (cc := cX8_take) (maxL := 2) (by decide) rfl (Nat.le_of_ble_eq_true rfl) ?_
  intro p e R s m args below meth c A Q ls H locs hx hb hml hown hts hRf hRl hA hK hG hP hD hS hl hQ
  have hP : va_P D vwCl [(ta, .inr (8, [.ref m_now, .ref m_undone, .ref m_slots, .ref m_slotKind, .ref m_hasSlot, .ref m_sheetBits, .ref m_sheetSize, .ref m_sheets, .int (nI u), .int fi, .ref m_fresh, .long aa, .long bb, .long dd, .int (nI ro), .ref m_rootWhich, .int db, .ref m_signs, .ref m_atNought, .int (nI mn), .ref m_change, .ref m_table, .ref m_carried])), (m_now, .inl (cy 0, 29, .inl nw)), (m_fresh, .inl (cy 0, 12, .inl fr))] H := hP
  have hl : lv_has ls 2 [(0, .ref ta)] := hl
  have hown : s.vm.findClass RX8 = some m.cls := hown
  have hF : (f_X8_take nw fr) = (f_X8_take nw fr) := rfl
  refine lv_iconst (v := 0) hx hb dX8_take_0 (by decide) ?_
  refine lv_istore_n (lv' := [(1, .int 0), (0, .ref ta)]) hx hb dX8_take_1 rfl hl (by decide) rfl (fun ls hl9 => ?_)
  replace hl := hl9
  clear hl9
  have J3 : ∀ (H : Heap) (locs : List Loc) (ls : Array Slot), va_P D vwCl [(ta, .inr (8, [.ref m_now, .ref m_undone, .ref m_slots, .ref m_slotKind, .ref m_hasSlot, .ref m_sheetBits, .ref m_sheetSize, .ref m_sheets, .int (nI u), .int fi, .ref m_fresh, .long aa, .long bb, .long dd, .int (nI ro), .ref m_rootWhich, .int db, .ref m_signs, .ref m_atNought, .int (nI mn), .ref m_change, .ref m_table, .ref m_carried])), (m_now, .inl (cy 0, 29, .inl (l_X8_take_2 nw fr (12 + 1) 0 nw))), (m_fresh, .inl (cy 0, 12, .inl fr))] H → va_D A [(ta, .inr (8, [.ref m_now, .ref m_undone, .ref m_slots, .ref m_slotKind, .ref m_hasSlot, .ref m_sheetBits, .ref m_sheetSize, .ref m_sheets, .int (nI u), .int fi, .ref m_fresh, .long aa, .long bb, .long dd, .int (nI ro), .ref m_rootWhich, .int db, .ref m_signs, .ref m_atNought, .int (nI mn), .ref m_change, .ref m_table, .ref m_carried])), (m_now, .inl (cy 0, 29, .inl (l_X8_take_2 nw fr (12 + 1) 0 nw))), (m_fresh, .inl (cy 0, 12, .inl fr))] → va_S A s.heap H locs → lv_has ls 2 [(0, .ref ta)] → W p l e R s m args below meth c H locs 0 0 Q (F0 m 26 ls []) := by
    clear hP hD hS hl
    intro H locs ls hP hD hS hl
    have hF : f_X8_take nw fr = (l_X8_take_2 nw fr (12 + 1) 0 nw) := hF
    rw [hF] at hQ
    exact hQ _ _ _ _ dX8_take_26 hP hS
  have L2 : ∀ (M9 n2 ki : Nat) (znow_2 : Nat → Int32) (H : Heap) (locs : List Loc) (ls : Array Slot), n2 < M9 → ki + n2 = 12 → (l_X8_take_2 nw fr (12 + 1) 0 nw) = (l_X8_take_2 nw fr (n2 + 1) ki znow_2) → va_P D vwCl [(ta, .inr (8, [.ref m_now, .ref m_undone, .ref m_slots, .ref m_slotKind, .ref m_hasSlot, .ref m_sheetBits, .ref m_sheetSize, .ref m_sheets, .int (nI u), .int fi, .ref m_fresh, .long aa, .long bb, .long dd, .int (nI ro), .ref m_rootWhich, .int db, .ref m_signs, .ref m_atNought, .int (nI mn), .ref m_change, .ref m_table, .ref m_carried])), (m_now, .inl (cy 0, 29, .inl znow_2)), (m_fresh, .inl (cy 0, 12, .inl fr))] H → va_D A [(ta, .inr (8, [.ref m_now, .ref m_undone, .ref m_slots, .ref m_slotKind, .ref m_hasSlot, .ref m_sheetBits, .ref m_sheetSize, .ref m_sheets, .int (nI u), .int fi, .ref m_fresh, .long aa, .long bb, .long dd, .int (nI ro), .ref m_rootWhich, .int db, .ref m_signs, .ref m_atNought, .int (nI mn), .ref m_change, .ref m_table, .ref m_carried])), (m_now, .inl (cy 0, 29, .inl znow_2)), (m_fresh, .inl (cy 0, 12, .inl fr))] → va_S A s.heap H locs → lv_has ls 2 [(0, .ref ta), (1, .int (nI ki))] → W p l e R s m args below meth c H locs 0 0 Q (F0 m 2 ls []) := by
    clear hP hD hS hl
    intro M9
    induction M9 with
    | zero => intro n2 ki _ _ _ _ hn; exact absurd hn (Nat.not_lt_zero _)
    | succ M9 ih2 =>
      intro n2 ki znow_2 H locs ls hn2 hk2 hV2 hP hD hS hl
      refine lv_iload_n hx hb dX8_take_2 rfl (lv_at hl 1 rfl) ?_
      refine lv_bipush (v := 12) hx hb dX8_take_3 (by decide) ?_
      refine lv_icmp_ge (tgt := 26) hx hb dX8_take_5 (by decide) (fun hc2 => ?_) (fun hc2 => ?_)
      · replace hV2 := hV2.trans (if_pos hc2)
        have hV2 : (l_X8_take_2 nw fr (12 + 1) 0 nw) = znow_2 := hV2
        have J3 := J3
        rw [hV2] at J3
        exact J3 _ _ _ hP hD hS (lv_sub hl [0] rfl)
      · replace hV2 := hV2.trans (if_neg hc2)
        have hlt2 : ki < 12 := yk_lt hk2 (by omega) hc2
        refine lv_aload_n hx hb dX8_take_8 rfl (lv_at hl 0 rfl) ?_
        refine va_get (D := D) (ci := 8) (v := .ref m_now) (C := RX8) (T := TX8) (N := 23) hx hb hts uX8_take_X8 hown hK hP 0 rfl rfl 0 (by decide) (hts _ kX8_take_0) (fun _ h9 => h9) rfl dX8_take_9 ?_
        refine lv_iload_n hx hb dX8_take_12 rfl (lv_at hl 1 rfl) ?_
        refine lv_aload_n hx hb dX8_take_13 rfl (lv_at hl 0 rfl) ?_
        refine va_get (D := D) (ci := 8) (v := .ref m_fresh) (C := RX8) (T := TX8) (N := 23) hx hb hts uX8_take_X8 hown hK hP 0 rfl rfl 10 (by decide) (hts _ kX8_take_1) (fun _ h9 => h9) rfl dX8_take_14 ?_
        refine lv_iload_n hx hb dX8_take_17 rfl (lv_at hl 1 rfl) ?_
        refine yk_ild hx hb hK hP 2 0 rfl rfl ki (by omega) (by decide) dX8_take_18 ?_
        refine yk_ist hx hb hK hP hD hS 1 0 rfl rfl ki (by omega) (by decide) dX8_take_19 (fun H locs hP9 hD9 hS9 => ?_)
        replace hP : va_P D vwCl [(ta, .inr (8, [.ref m_now, .ref m_undone, .ref m_slots, .ref m_slotKind, .ref m_hasSlot, .ref m_sheetBits, .ref m_sheetSize, .ref m_sheets, .int (nI u), .int fi, .ref m_fresh, .long aa, .long bb, .long dd, .int (nI ro), .ref m_rootWhich, .int db, .ref m_signs, .ref m_atNought, .int (nI mn), .ref m_change, .ref m_table, .ref m_carried])), (m_now, .inl (cy 0, 29, .inl (upd znow_2 ki (fr ki)))), (m_fresh, .inl (cy 0, 12, .inl fr))] H := hP9
        replace hD : va_D A [(ta, .inr (8, [.ref m_now, .ref m_undone, .ref m_slots, .ref m_slotKind, .ref m_hasSlot, .ref m_sheetBits, .ref m_sheetSize, .ref m_sheets, .int (nI u), .int fi, .ref m_fresh, .long aa, .long bb, .long dd, .int (nI ro), .ref m_rootWhich, .int db, .ref m_signs, .ref m_atNought, .int (nI mn), .ref m_change, .ref m_table, .ref m_carried])), (m_now, .inl (cy 0, 29, .inl (upd znow_2 ki (fr ki)))), (m_fresh, .inl (cy 0, 12, .inl fr))] := hD9
        replace hS := hS9
        clear hP9 hD9 hS9
        refine lv_iinc (v := nI (ki + 1)) (lv' := [(1, .int (nI (ki + 1))), (0, .ref ta)]) hx hb dX8_take_20 hl (k := 1) rfl (yk_inc ki) (by decide) rfl (fun ls hl9 => ?_)
        replace hl := hl9
        clear hl9
        refine lv_goto (tgt := 2) hx hb dX8_take_23 (by decide) ?_
        obtain ⟨n9, rfl⟩ : ∃ n9, n2 = n9 + 1 := ⟨n2 - 1, by omega⟩
        exact ih2 n9 (ki + 1) (upd znow_2 ki (fr ki)) _ _ _ (by omega) (by omega)  hV2 hP hD hS (lv_sub hl [1, 0] rfl)
  exact L2 (12 + 1) 12 0 nw _ _ _ (Nat.lt_succ_self _) (by omega)  rfl hP hD hS (lv_sub hl [1, 0] rfl)

theorem yk_ne8 {n : Nat} (hn : n ≤ 8) (h : ¬ nI n = 8) : n < 8 := by
  rcases Nat.lt_or_ge n 8 with q | q
  · exact q
  · have : n = 8 := by omega
    subst this
    exact absurd rfl h
theorem ix_inn {x : Int32} {n : Nat} (hn : n ≤ 8) (h : ¬ f_X8_in x 0 (nI n - 1) = 0) : x = nI x.toNatClampNeg ∧ x.toNatClampNeg < n := by
  unfold f_X8_in at h
  by_cases h0 : x < 0
  · exact absurd (if_pos h0) h
  rw [if_neg h0] at h
  by_cases h1 : nI n - 1 < x
  · exact absurd (if_pos h1) h
  obtain ⟨j, hj, rfl⟩ := nI_of h0
  rw [nI_clamp hj]
  refine ⟨rfl, ?_⟩
  rw [Int32.lt_iff_toInt_lt, nI_toInt hj, show (nI n - 1).toInt = (n : Int) - 1 from pk_sub_toInt (b := 1) (by omega) (by decide)] at h1
  omega

theorem kX8_quarter_0 : Cond.fieldLink RX8 35 "FlowPlaneModel" "fresh" "[I" ∈ wsX8_quarter := by decide +kernel
theorem kX8_quarter_1 : Cond.fieldLink RX8 7 "FlowPlaneModel" "now" "[I" ∈ wsX8_quarter := by decide +kernel
theorem uX8_quarter_X8 : ∀ w ∈ u_ws RX8 TX8 23, w ∈ wsX8_quarter := by decide +kernel
def l_X8_quarter_6 (nw : Nat → Int32) (un : Nat → Int32) (u : Nat) (fr : Nat → Int32) : Nat → Nat → (Nat → Int32) → (Nat → Int32)
  | 0, ki, zfresh_6 => zfresh_6
  | fu_X8_quarter_6 + 1, ki, zfresh_6 => (if 2 ≤ (nI ki) then zfresh_6 else (l_X8_quarter_6 nw un u fr fu_X8_quarter_6 (ki + 1) (upd (upd (upd (upd (upd (upd zfresh_6 (6 * ki) ((if (nI ki) = 0 then (-1) else 1) * (nw (if (nI ki) = 0 then 6 else 0)))) ((6 * ki) + 1) ((-(if (nI ki) = 0 then (-1) else 1)) * (nw ((if (nI ki) = 0 then 6 else 0) + 2)))) ((6 * ki) + 2) ((if (nI ki) = 0 then (-1) else 1) * (nw ((if (nI ki) = 0 then 6 else 0) + 1)))) ((6 * ki) + 3) ((if (nI ki) = 0 then (-1) else 1) * (nw ((if (nI ki) = 0 then 6 else 0) + 5)))) ((6 * ki) + 4) ((-(if (nI ki) = 0 then (-1) else 1)) * (nw ((if (nI ki) = 0 then 6 else 0) + 4)))) ((6 * ki) + 5) ((if (nI ki) = 0 then (-1) else 1) * (nw ((if (nI ki) = 0 then 6 else 0) + 3))))))
def f_X8_quarter (nw : Nat → Int32) (un : Nat → Int32) (u : Nat) (fr : Nat → Int32) : Int32 × Nat × (Nat → Int32) × (Nat → Int32) × (Nat → Int32) := (1, ((f_X8_remember nw un u).1), (f_X8_take nw (l_X8_quarter_6 nw un u fr (2 + 1) 0 fr)), ((f_X8_remember nw un u).2), (l_X8_quarter_6 nw un u fr (2 + 1) 0 fr))
set_option maxHeartbeats 400000000 in
set_option maxRecDepth 100000 in
theorem c_X8_quarter (l : Launch) (D : va_G) (cy : Nat → ClassId) (ta : Nat) (m_now : Nat) (m_undone : Nat) (m_fresh : Nat) (m_slots : Nat) (m_slotKind : Nat) (m_hasSlot : Nat) (m_sheetBits : Nat) (m_sheetSize : Nat) (m_sheets : Nat) (m_rootWhich : Nat) (m_signs : Nat) (m_atNought : Nat) (m_change : Nat) (m_table : Nat) (m_carried : Nat) (nw : Nat → Int32) (un : Nat → Int32) (u : Nat) (fi : Int32) (fr : Nat → Int32) (aa : Int64) (bb : Int64) (dd : Int64) (ro : Nat) (db : Int32) (mn : Nat) (hu : u ≤ 25) : yk_Ci l D vwCl (yk_ty cy) yX8_quarter wsX8_quarter 1 21 [.ref ta] [(ta, .inr (8, [.ref m_now, .ref m_undone, .ref m_slots, .ref m_slotKind, .ref m_hasSlot, .ref m_sheetBits, .ref m_sheetSize, .ref m_sheets, .int (nI u), .int fi, .ref m_fresh, .long aa, .long bb, .long dd, .int (nI ro), .ref m_rootWhich, .int db, .ref m_signs, .ref m_atNought, .int (nI mn), .ref m_change, .ref m_table, .ref m_carried])), (m_now, .inl (cy 0, 29, .inl nw)), (m_undone, .inl (cy 0, 725, .inl un)), (m_fresh, .inl (cy 0, 12, .inl fr))] ((f_X8_quarter nw un u fr).1) [(ta, .inr (8, [.ref m_now, .ref m_undone, .ref m_slots, .ref m_slotKind, .ref m_hasSlot, .ref m_sheetBits, .ref m_sheetSize, .ref m_sheets, .int (nI ((f_X8_quarter nw un u fr).2.1)), .int fi, .ref m_fresh, .long aa, .long bb, .long dd, .int (nI ro), .ref m_rootWhich, .int db, .ref m_signs, .ref m_atNought, .int (nI mn), .ref m_change, .ref m_table, .ref m_carried])), (m_now, .inl (cy 0, 29, .inl ((f_X8_quarter nw un u fr).2.2.1))), (m_undone, .inl (cy 0, 725, .inl ((f_X8_quarter nw un u fr).2.2.2.1))), (m_fresh, .inl (cy 0, 12, .inl ((f_X8_quarter nw un u fr).2.2.2.2)))] := by
  refine yk_eI (cc := cX8_quarter) (maxL := 5) (by decide) rfl (Nat.le_of_ble_eq_true rfl) rfl ?_
  intro p e R s m args below meth c A Q ls H locs hx hb hml hown hts hRf hRl hA hK hG hP hD hS hl hQ
  have hP : va_P D vwCl [(ta, .inr (8, [.ref m_now, .ref m_undone, .ref m_slots, .ref m_slotKind, .ref m_hasSlot, .ref m_sheetBits, .ref m_sheetSize, .ref m_sheets, .int (nI u), .int fi, .ref m_fresh, .long aa, .long bb, .long dd, .int (nI ro), .ref m_rootWhich, .int db, .ref m_signs, .ref m_atNought, .int (nI mn), .ref m_change, .ref m_table, .ref m_carried])), (m_now, .inl (cy 0, 29, .inl nw)), (m_undone, .inl (cy 0, 725, .inl un)), (m_fresh, .inl (cy 0, 12, .inl fr))] H := hP
  have hl : lv_has ls 5 [(0, .ref ta)] := hl
  have hown : s.vm.findClass RX8 = some m.cls := hown
  have hF : (f_X8_quarter nw un u fr) = (f_X8_quarter nw un u fr) := rfl
  refine lv_aload_n hx hb dX8_quarter_0 rfl (lv_at hl 0 rfl) ?_
  refine yk_v [0, 1, 2] (va_runV (As := []) (rest := []) ⟨hx, hb, hml, hown, hts⟩ (c_X8_remember l D cy ta m_now m_undone m_slots m_slotKind m_hasSlot m_sheetBits m_sheetSize m_sheets m_fresh m_rootWhich m_signs m_atNought m_change m_table m_carried nw un u fi aa bb dd ro db mn (by first | assumption | omega) H.size) (cwV 0 hts gX8_quarter_X8_remember rfl rfl rfl hv_X8_remember (yk_room hRf hRl rfl rfl)) (yk_pv (q := (RX8, TX8, 23)) hG hA hS hK hP hD [0, 1, 2] (by decide +kernel) rfl rfl rfl) rfl rfl hl.1 rfl (lv_room (Nat.le_of_ble_eq_true rfl)) dX8_quarter_1 ⟨Nat.zero_le _, Nat.zero_le _⟩) hP hD hS hA rfl rfl (fun H locs hP9 hD9 hS9 => ?_)
  replace hP : va_P D vwCl [(ta, .inr (8, [.ref m_now, .ref m_undone, .ref m_slots, .ref m_slotKind, .ref m_hasSlot, .ref m_sheetBits, .ref m_sheetSize, .ref m_sheets, .int (nI ((f_X8_remember nw un u).1)), .int fi, .ref m_fresh, .long aa, .long bb, .long dd, .int (nI ro), .ref m_rootWhich, .int db, .ref m_signs, .ref m_atNought, .int (nI mn), .ref m_change, .ref m_table, .ref m_carried])), (m_now, .inl (cy 0, 29, .inl nw)), (m_undone, .inl (cy 0, 725, .inl ((f_X8_remember nw un u).2))), (m_fresh, .inl (cy 0, 12, .inl fr))] H := hP9
  replace hD : va_D A [(ta, .inr (8, [.ref m_now, .ref m_undone, .ref m_slots, .ref m_slotKind, .ref m_hasSlot, .ref m_sheetBits, .ref m_sheetSize, .ref m_sheets, .int (nI ((f_X8_remember nw un u).1)), .int fi, .ref m_fresh, .long aa, .long bb, .long dd, .int (nI ro), .ref m_rootWhich, .int db, .ref m_signs, .ref m_atNought, .int (nI mn), .ref m_change, .ref m_table, .ref m_carried])), (m_now, .inl (cy 0, 29, .inl nw)), (m_undone, .inl (cy 0, 725, .inl ((f_X8_remember nw un u).2))), (m_fresh, .inl (cy 0, 12, .inl fr))] := hD9
  replace hS := hS9
  clear hP9 hD9 hS9
  refine lv_iconst (v := 0) hx hb dX8_quarter_4 (by decide) ?_
  refine lv_istore_n (lv' := [(1, .int 0), (0, .ref ta)]) hx hb dX8_quarter_5 rfl hl (by decide) rfl (fun ls hl9 => ?_)
  replace hl := hl9
  clear hl9
  have J15 : ∀ (H : Heap) (locs : List Loc) (ls : Array Slot), va_P D vwCl [(ta, .inr (8, [.ref m_now, .ref m_undone, .ref m_slots, .ref m_slotKind, .ref m_hasSlot, .ref m_sheetBits, .ref m_sheetSize, .ref m_sheets, .int (nI ((f_X8_remember nw un u).1)), .int fi, .ref m_fresh, .long aa, .long bb, .long dd, .int (nI ro), .ref m_rootWhich, .int db, .ref m_signs, .ref m_atNought, .int (nI mn), .ref m_change, .ref m_table, .ref m_carried])), (m_now, .inl (cy 0, 29, .inl nw)), (m_undone, .inl (cy 0, 725, .inl ((f_X8_remember nw un u).2))), (m_fresh, .inl (cy 0, 12, .inl (l_X8_quarter_6 nw un u fr (2 + 1) 0 fr)))] H → va_D A [(ta, .inr (8, [.ref m_now, .ref m_undone, .ref m_slots, .ref m_slotKind, .ref m_hasSlot, .ref m_sheetBits, .ref m_sheetSize, .ref m_sheets, .int (nI ((f_X8_remember nw un u).1)), .int fi, .ref m_fresh, .long aa, .long bb, .long dd, .int (nI ro), .ref m_rootWhich, .int db, .ref m_signs, .ref m_atNought, .int (nI mn), .ref m_change, .ref m_table, .ref m_carried])), (m_now, .inl (cy 0, 29, .inl nw)), (m_undone, .inl (cy 0, 725, .inl ((f_X8_remember nw un u).2))), (m_fresh, .inl (cy 0, 12, .inl (l_X8_quarter_6 nw un u fr (2 + 1) 0 fr)))] → va_S A s.heap H locs → lv_has ls 5 [(0, .ref ta)] → W p l e R s m args below meth c H locs 0 0 Q (F0 m 156 ls []) := by
    clear hP hD hS hl
    intro H locs ls hP hD hS hl
    refine lv_aload_n hx hb dX8_quarter_156 rfl (lv_at hl 0 rfl) ?_
    refine yk_v [0, 1, 3] (va_runV (As := []) (rest := []) ⟨hx, hb, hml, hown, hts⟩ (c_X8_take l D cy ta m_now m_fresh m_undone m_slots m_slotKind m_hasSlot m_sheetBits m_sheetSize m_sheets m_rootWhich m_signs m_atNought m_change m_table m_carried nw ((f_X8_remember nw un u).1) fi (l_X8_quarter_6 nw un u fr (2 + 1) 0 fr) aa bb dd ro db mn H.size) (cwV 0 hts gX8_quarter_X8_take rfl rfl rfl hv_X8_take (yk_room hRf hRl rfl rfl)) (yk_pv (q := (RX8, TX8, 23)) hG hA hS hK hP hD [0, 1, 3] (by decide +kernel) rfl rfl rfl) rfl rfl hl.1 rfl (lv_room (Nat.le_of_ble_eq_true rfl)) dX8_quarter_157 ⟨Nat.zero_le _, Nat.zero_le _⟩) hP hD hS hA rfl rfl (fun H locs hP9 hD9 hS9 => ?_)
    replace hP : va_P D vwCl [(ta, .inr (8, [.ref m_now, .ref m_undone, .ref m_slots, .ref m_slotKind, .ref m_hasSlot, .ref m_sheetBits, .ref m_sheetSize, .ref m_sheets, .int (nI ((f_X8_remember nw un u).1)), .int fi, .ref m_fresh, .long aa, .long bb, .long dd, .int (nI ro), .ref m_rootWhich, .int db, .ref m_signs, .ref m_atNought, .int (nI mn), .ref m_change, .ref m_table, .ref m_carried])), (m_now, .inl (cy 0, 29, .inl (f_X8_take nw (l_X8_quarter_6 nw un u fr (2 + 1) 0 fr)))), (m_undone, .inl (cy 0, 725, .inl ((f_X8_remember nw un u).2))), (m_fresh, .inl (cy 0, 12, .inl (l_X8_quarter_6 nw un u fr (2 + 1) 0 fr)))] H := hP9
    replace hD : va_D A [(ta, .inr (8, [.ref m_now, .ref m_undone, .ref m_slots, .ref m_slotKind, .ref m_hasSlot, .ref m_sheetBits, .ref m_sheetSize, .ref m_sheets, .int (nI ((f_X8_remember nw un u).1)), .int fi, .ref m_fresh, .long aa, .long bb, .long dd, .int (nI ro), .ref m_rootWhich, .int db, .ref m_signs, .ref m_atNought, .int (nI mn), .ref m_change, .ref m_table, .ref m_carried])), (m_now, .inl (cy 0, 29, .inl (f_X8_take nw (l_X8_quarter_6 nw un u fr (2 + 1) 0 fr)))), (m_undone, .inl (cy 0, 725, .inl ((f_X8_remember nw un u).2))), (m_fresh, .inl (cy 0, 12, .inl (l_X8_quarter_6 nw un u fr (2 + 1) 0 fr)))] := hD9
    replace hS := hS9
    clear hP9 hD9 hS9
    refine lv_iconst (v := 1) hx hb dX8_quarter_160 (by decide) ?_
    have hF : f_X8_quarter nw un u fr = (1, ((f_X8_remember nw un u).1), (f_X8_take nw (l_X8_quarter_6 nw un u fr (2 + 1) 0 fr)), ((f_X8_remember nw un u).2), (l_X8_quarter_6 nw un u fr (2 + 1) 0 fr)) := hF
    have hf0 := yk_fst hF
    have hg0 := yk_snd hF
    have hf1 := yk_fst hg0
    have hg1 := yk_snd hg0
    have hf2 := yk_fst hg1
    have hg2 := yk_snd hg1
    have hf3 := yk_fst hg2
    have hg3 := yk_snd hg2
    rw [hf0, hf1, hf2, hf3, hg3] at hQ
    exact hQ _ _ _ _ dX8_quarter_161 hP hS
  have L6 : ∀ (M9 n6 ki : Nat) (zfresh_6 : Nat → Int32) (H : Heap) (locs : List Loc) (ls : Array Slot), n6 < M9 → ki + n6 = 2 → (l_X8_quarter_6 nw un u fr (2 + 1) 0 fr) = (l_X8_quarter_6 nw un u fr (n6 + 1) ki zfresh_6) → va_P D vwCl [(ta, .inr (8, [.ref m_now, .ref m_undone, .ref m_slots, .ref m_slotKind, .ref m_hasSlot, .ref m_sheetBits, .ref m_sheetSize, .ref m_sheets, .int (nI ((f_X8_remember nw un u).1)), .int fi, .ref m_fresh, .long aa, .long bb, .long dd, .int (nI ro), .ref m_rootWhich, .int db, .ref m_signs, .ref m_atNought, .int (nI mn), .ref m_change, .ref m_table, .ref m_carried])), (m_now, .inl (cy 0, 29, .inl nw)), (m_undone, .inl (cy 0, 725, .inl ((f_X8_remember nw un u).2))), (m_fresh, .inl (cy 0, 12, .inl zfresh_6))] H → va_D A [(ta, .inr (8, [.ref m_now, .ref m_undone, .ref m_slots, .ref m_slotKind, .ref m_hasSlot, .ref m_sheetBits, .ref m_sheetSize, .ref m_sheets, .int (nI ((f_X8_remember nw un u).1)), .int fi, .ref m_fresh, .long aa, .long bb, .long dd, .int (nI ro), .ref m_rootWhich, .int db, .ref m_signs, .ref m_atNought, .int (nI mn), .ref m_change, .ref m_table, .ref m_carried])), (m_now, .inl (cy 0, 29, .inl nw)), (m_undone, .inl (cy 0, 725, .inl ((f_X8_remember nw un u).2))), (m_fresh, .inl (cy 0, 12, .inl zfresh_6))] → va_S A s.heap H locs → lv_has ls 5 [(0, .ref ta), (1, .int (nI ki))] → W p l e R s m args below meth c H locs 0 0 Q (F0 m 6 ls []) := by
    clear hP hD hS hl
    intro M9
    induction M9 with
    | zero => intro n6 ki _ _ _ _ hn; exact absurd hn (Nat.not_lt_zero _)
    | succ M9 ih6 =>
      intro n6 ki zfresh_6 H locs ls hn6 hk6 hV6 hP hD hS hl
      refine lv_iload_n hx hb dX8_quarter_6 rfl (lv_at hl 1 rfl) ?_
      refine lv_iconst (v := 2) hx hb dX8_quarter_7 (by decide) ?_
      refine lv_icmp_ge (tgt := 156) hx hb dX8_quarter_8 (by decide) (fun hc8 => ?_) (fun hc8 => ?_)
      · replace hV6 := hV6.trans (if_pos hc8)
        have hV6 : (l_X8_quarter_6 nw un u fr (2 + 1) 0 fr) = zfresh_6 := hV6
        have J15 := J15
        rw [hV6] at J15
        exact J15 _ _ _ hP hD hS (lv_sub hl [0] rfl)
      · replace hV6 := hV6.trans (if_neg hc8)
        have hlt6 : ki < 2 := yk_lt hk6 (by omega) hc8
        refine lv_iload_n hx hb dX8_quarter_11 rfl (lv_at hl 1 rfl) ?_
        have J11 : ∀ (v10 : Nat) (H : Heap) (locs : List Loc) (ls : Array Slot), v10 = (if (nI ki) = 0 then 6 else 0) → va_P D vwCl [(ta, .inr (8, [.ref m_now, .ref m_undone, .ref m_slots, .ref m_slotKind, .ref m_hasSlot, .ref m_sheetBits, .ref m_sheetSize, .ref m_sheets, .int (nI ((f_X8_remember nw un u).1)), .int fi, .ref m_fresh, .long aa, .long bb, .long dd, .int (nI ro), .ref m_rootWhich, .int db, .ref m_signs, .ref m_atNought, .int (nI mn), .ref m_change, .ref m_table, .ref m_carried])), (m_now, .inl (cy 0, 29, .inl nw)), (m_undone, .inl (cy 0, 725, .inl ((f_X8_remember nw un u).2))), (m_fresh, .inl (cy 0, 12, .inl zfresh_6))] H → va_D A [(ta, .inr (8, [.ref m_now, .ref m_undone, .ref m_slots, .ref m_slotKind, .ref m_hasSlot, .ref m_sheetBits, .ref m_sheetSize, .ref m_sheets, .int (nI ((f_X8_remember nw un u).1)), .int fi, .ref m_fresh, .long aa, .long bb, .long dd, .int (nI ro), .ref m_rootWhich, .int db, .ref m_signs, .ref m_atNought, .int (nI mn), .ref m_change, .ref m_table, .ref m_carried])), (m_now, .inl (cy 0, 29, .inl nw)), (m_undone, .inl (cy 0, 725, .inl ((f_X8_remember nw un u).2))), (m_fresh, .inl (cy 0, 12, .inl zfresh_6))] → va_S A s.heap H locs → lv_has ls 5 [(0, .ref ta), (1, .int (nI ki))] → W p l e R s m args below meth c H locs 0 0 Q (F0 m 21 ls [.int (nI v10)]) := by
          clear hP hD hS hl
          intro v10 H locs ls ev10 hP hD hS hl
          subst ev10
          refine lv_istore_n (lv' := [(2, .int (nI (if (nI ki) = 0 then 6 else 0))), (0, .ref ta), (1, .int (nI ki))]) hx hb dX8_quarter_21 rfl hl (by decide) rfl (fun ls hl9 => ?_)
          replace hl := hl9
          clear hl9
          refine lv_iload_n hx hb dX8_quarter_22 rfl (lv_at hl 2 rfl) ?_
          have J14 : ∀ (v13 : Int32) (H : Heap) (locs : List Loc) (ls : Array Slot), v13 = (if (nI ki) = 0 then (-1) else 1) → va_P D vwCl [(ta, .inr (8, [.ref m_now, .ref m_undone, .ref m_slots, .ref m_slotKind, .ref m_hasSlot, .ref m_sheetBits, .ref m_sheetSize, .ref m_sheets, .int (nI ((f_X8_remember nw un u).1)), .int fi, .ref m_fresh, .long aa, .long bb, .long dd, .int (nI ro), .ref m_rootWhich, .int db, .ref m_signs, .ref m_atNought, .int (nI mn), .ref m_change, .ref m_table, .ref m_carried])), (m_now, .inl (cy 0, 29, .inl nw)), (m_undone, .inl (cy 0, 725, .inl ((f_X8_remember nw un u).2))), (m_fresh, .inl (cy 0, 12, .inl zfresh_6))] H → va_D A [(ta, .inr (8, [.ref m_now, .ref m_undone, .ref m_slots, .ref m_slotKind, .ref m_hasSlot, .ref m_sheetBits, .ref m_sheetSize, .ref m_sheets, .int (nI ((f_X8_remember nw un u).1)), .int fi, .ref m_fresh, .long aa, .long bb, .long dd, .int (nI ro), .ref m_rootWhich, .int db, .ref m_signs, .ref m_atNought, .int (nI mn), .ref m_change, .ref m_table, .ref m_carried])), (m_now, .inl (cy 0, 29, .inl nw)), (m_undone, .inl (cy 0, 725, .inl ((f_X8_remember nw un u).2))), (m_fresh, .inl (cy 0, 12, .inl zfresh_6))] → va_S A s.heap H locs → lv_has ls 5 [(0, .ref ta), (1, .int (nI ki)), (2, .int (nI (if (nI ki) = 0 then 6 else 0)))] → W p l e R s m args below meth c H locs 0 0 Q (F0 m 31 ls [.int v13]) := by
            clear hP hD hS hl
            intro v13 H locs ls ev13 hP hD hS hl
            subst ev13
            refine lv_istore_n (lv' := [(3, .int (if (nI ki) = 0 then (-1) else 1)), (0, .ref ta), (1, .int (nI ki)), (2, .int (nI (if (nI ki) = 0 then 6 else 0)))]) hx hb dX8_quarter_31 rfl hl (by decide) rfl (fun ls hl9 => ?_)
            replace hl := hl9
            clear hl9
            refine lv_bipush (v := 6) hx hb dX8_quarter_32 (by decide) ?_
            refine lv_iload_n hx hb dX8_quarter_34 rfl (lv_at hl 2 rfl) ?_
            refine lv_imul hx hb dX8_quarter_35 ?_
            refine yk_ti (y := nI (6 * ki)) (pk_mul 6 ki) ?_
            refine lv_istore (lv' := [(4, .int (nI (6 * ki))), (3, .int (if (nI ki) = 0 then (-1) else 1)), (0, .ref ta), (1, .int (nI ki)), (2, .int (nI (if (nI ki) = 0 then 6 else 0)))]) hx hb dX8_quarter_36 hl (by decide) rfl (fun ls hl9 => ?_)
            replace hl := hl9
            clear hl9
            refine lv_aload_n hx hb dX8_quarter_38 rfl (lv_at hl 2 rfl) ?_
            refine va_get (D := D) (ci := 8) (v := .ref m_fresh) (C := RX8) (T := TX8) (N := 23) hx hb hts uX8_quarter_X8 hown hK hP 0 rfl rfl 10 (by decide) (hts _ kX8_quarter_0) (fun _ h9 => h9) rfl dX8_quarter_39 ?_
            refine lv_iload hx hb dX8_quarter_42 (lv_at hl 0 rfl) ?_
            refine lv_iload_n hx hb dX8_quarter_44 rfl (lv_at hl 1 rfl) ?_
            refine lv_aload_n hx hb dX8_quarter_45 rfl (lv_at hl 2 rfl) ?_
            refine va_get (D := D) (ci := 8) (v := .ref m_now) (C := RX8) (T := TX8) (N := 23) hx hb hts uX8_quarter_X8 hown hK hP 0 rfl rfl 0 (by decide) (hts _ kX8_quarter_1) (fun _ h9 => h9) rfl dX8_quarter_46 ?_
            refine lv_iload_n hx hb dX8_quarter_49 rfl (lv_at hl 4 rfl) ?_
            refine yk_ild hx hb hK hP 1 0 rfl rfl (if (nI ki) = 0 then 6 else 0) (by (repeat' split) <;> omega) (by decide) dX8_quarter_50 ?_
            refine lv_imul hx hb dX8_quarter_51 ?_
            refine yk_ist hx hb hK hP hD hS 3 0 rfl rfl (6 * ki) (by omega) (by decide) dX8_quarter_52 (fun H locs hP9 hD9 hS9 => ?_)
            replace hP : va_P D vwCl [(ta, .inr (8, [.ref m_now, .ref m_undone, .ref m_slots, .ref m_slotKind, .ref m_hasSlot, .ref m_sheetBits, .ref m_sheetSize, .ref m_sheets, .int (nI ((f_X8_remember nw un u).1)), .int fi, .ref m_fresh, .long aa, .long bb, .long dd, .int (nI ro), .ref m_rootWhich, .int db, .ref m_signs, .ref m_atNought, .int (nI mn), .ref m_change, .ref m_table, .ref m_carried])), (m_now, .inl (cy 0, 29, .inl nw)), (m_undone, .inl (cy 0, 725, .inl ((f_X8_remember nw un u).2))), (m_fresh, .inl (cy 0, 12, .inl (upd zfresh_6 (6 * ki) ((if (nI ki) = 0 then (-1) else 1) * (nw (if (nI ki) = 0 then 6 else 0))))))] H := hP9
            replace hD : va_D A [(ta, .inr (8, [.ref m_now, .ref m_undone, .ref m_slots, .ref m_slotKind, .ref m_hasSlot, .ref m_sheetBits, .ref m_sheetSize, .ref m_sheets, .int (nI ((f_X8_remember nw un u).1)), .int fi, .ref m_fresh, .long aa, .long bb, .long dd, .int (nI ro), .ref m_rootWhich, .int db, .ref m_signs, .ref m_atNought, .int (nI mn), .ref m_change, .ref m_table, .ref m_carried])), (m_now, .inl (cy 0, 29, .inl nw)), (m_undone, .inl (cy 0, 725, .inl ((f_X8_remember nw un u).2))), (m_fresh, .inl (cy 0, 12, .inl (upd zfresh_6 (6 * ki) ((if (nI ki) = 0 then (-1) else 1) * (nw (if (nI ki) = 0 then 6 else 0))))))] := hD9
            replace hS := hS9
            clear hP9 hD9 hS9
            refine lv_aload_n hx hb dX8_quarter_53 rfl (lv_at hl 2 rfl) ?_
            refine va_get (D := D) (ci := 8) (v := .ref m_fresh) (C := RX8) (T := TX8) (N := 23) hx hb hts uX8_quarter_X8 hown hK hP 0 rfl rfl 10 (by decide) (hts _ kX8_quarter_0) (fun _ h9 => h9) rfl dX8_quarter_54 ?_
            refine lv_iload hx hb dX8_quarter_57 (lv_at hl 0 rfl) ?_
            refine lv_iconst (v := 1) hx hb dX8_quarter_59 (by decide) ?_
            refine lv_iadd hx hb dX8_quarter_60 ?_
            refine yk_ti (y := nI ((6 * ki) + 1)) (nI_add (6 * ki) 1) ?_
            refine lv_iload_n hx hb dX8_quarter_61 rfl (lv_at hl 1 rfl) ?_
            refine lv_ineg hx hb dX8_quarter_62 ?_
            refine lv_aload_n hx hb dX8_quarter_63 rfl (lv_at hl 2 rfl) ?_
            refine va_get (D := D) (ci := 8) (v := .ref m_now) (C := RX8) (T := TX8) (N := 23) hx hb hts uX8_quarter_X8 hown hK hP 0 rfl rfl 0 (by decide) (hts _ kX8_quarter_1) (fun _ h9 => h9) rfl dX8_quarter_64 ?_
            refine lv_iload_n hx hb dX8_quarter_67 rfl (lv_at hl 4 rfl) ?_
            refine lv_iconst (v := 2) hx hb dX8_quarter_68 (by decide) ?_
            refine lv_iadd hx hb dX8_quarter_69 ?_
            refine yk_ti (y := nI ((if (nI ki) = 0 then 6 else 0) + 2)) (nI_add (if (nI ki) = 0 then 6 else 0) 2) ?_
            refine yk_ild hx hb hK hP 1 0 rfl rfl ((if (nI ki) = 0 then 6 else 0) + 2) (by (repeat' split) <;> omega) (by decide) dX8_quarter_70 ?_
            refine lv_imul hx hb dX8_quarter_71 ?_
            refine yk_ist hx hb hK hP hD hS 3 0 rfl rfl ((6 * ki) + 1) (by omega) (by decide) dX8_quarter_72 (fun H locs hP9 hD9 hS9 => ?_)
            replace hP : va_P D vwCl [(ta, .inr (8, [.ref m_now, .ref m_undone, .ref m_slots, .ref m_slotKind, .ref m_hasSlot, .ref m_sheetBits, .ref m_sheetSize, .ref m_sheets, .int (nI ((f_X8_remember nw un u).1)), .int fi, .ref m_fresh, .long aa, .long bb, .long dd, .int (nI ro), .ref m_rootWhich, .int db, .ref m_signs, .ref m_atNought, .int (nI mn), .ref m_change, .ref m_table, .ref m_carried])), (m_now, .inl (cy 0, 29, .inl nw)), (m_undone, .inl (cy 0, 725, .inl ((f_X8_remember nw un u).2))), (m_fresh, .inl (cy 0, 12, .inl (upd (upd zfresh_6 (6 * ki) ((if (nI ki) = 0 then (-1) else 1) * (nw (if (nI ki) = 0 then 6 else 0)))) ((6 * ki) + 1) ((-(if (nI ki) = 0 then (-1) else 1)) * (nw ((if (nI ki) = 0 then 6 else 0) + 2))))))] H := hP9
            replace hD : va_D A [(ta, .inr (8, [.ref m_now, .ref m_undone, .ref m_slots, .ref m_slotKind, .ref m_hasSlot, .ref m_sheetBits, .ref m_sheetSize, .ref m_sheets, .int (nI ((f_X8_remember nw un u).1)), .int fi, .ref m_fresh, .long aa, .long bb, .long dd, .int (nI ro), .ref m_rootWhich, .int db, .ref m_signs, .ref m_atNought, .int (nI mn), .ref m_change, .ref m_table, .ref m_carried])), (m_now, .inl (cy 0, 29, .inl nw)), (m_undone, .inl (cy 0, 725, .inl ((f_X8_remember nw un u).2))), (m_fresh, .inl (cy 0, 12, .inl (upd (upd zfresh_6 (6 * ki) ((if (nI ki) = 0 then (-1) else 1) * (nw (if (nI ki) = 0 then 6 else 0)))) ((6 * ki) + 1) ((-(if (nI ki) = 0 then (-1) else 1)) * (nw ((if (nI ki) = 0 then 6 else 0) + 2))))))] := hD9
            replace hS := hS9
            clear hP9 hD9 hS9
            refine lv_aload_n hx hb dX8_quarter_73 rfl (lv_at hl 2 rfl) ?_
            refine va_get (D := D) (ci := 8) (v := .ref m_fresh) (C := RX8) (T := TX8) (N := 23) hx hb hts uX8_quarter_X8 hown hK hP 0 rfl rfl 10 (by decide) (hts _ kX8_quarter_0) (fun _ h9 => h9) rfl dX8_quarter_74 ?_
            refine lv_iload hx hb dX8_quarter_77 (lv_at hl 0 rfl) ?_
            refine lv_iconst (v := 2) hx hb dX8_quarter_79 (by decide) ?_
            refine lv_iadd hx hb dX8_quarter_80 ?_
            refine yk_ti (y := nI ((6 * ki) + 2)) (nI_add (6 * ki) 2) ?_
            refine lv_iload_n hx hb dX8_quarter_81 rfl (lv_at hl 1 rfl) ?_
            refine lv_aload_n hx hb dX8_quarter_82 rfl (lv_at hl 2 rfl) ?_
            refine va_get (D := D) (ci := 8) (v := .ref m_now) (C := RX8) (T := TX8) (N := 23) hx hb hts uX8_quarter_X8 hown hK hP 0 rfl rfl 0 (by decide) (hts _ kX8_quarter_1) (fun _ h9 => h9) rfl dX8_quarter_83 ?_
            refine lv_iload_n hx hb dX8_quarter_86 rfl (lv_at hl 4 rfl) ?_
            refine lv_iconst (v := 1) hx hb dX8_quarter_87 (by decide) ?_
            refine lv_iadd hx hb dX8_quarter_88 ?_
            refine yk_ti (y := nI ((if (nI ki) = 0 then 6 else 0) + 1)) (nI_add (if (nI ki) = 0 then 6 else 0) 1) ?_
            refine yk_ild hx hb hK hP 1 0 rfl rfl ((if (nI ki) = 0 then 6 else 0) + 1) (by (repeat' split) <;> omega) (by decide) dX8_quarter_89 ?_
            refine lv_imul hx hb dX8_quarter_90 ?_
            refine yk_ist hx hb hK hP hD hS 3 0 rfl rfl ((6 * ki) + 2) (by omega) (by decide) dX8_quarter_91 (fun H locs hP9 hD9 hS9 => ?_)
            replace hP : va_P D vwCl [(ta, .inr (8, [.ref m_now, .ref m_undone, .ref m_slots, .ref m_slotKind, .ref m_hasSlot, .ref m_sheetBits, .ref m_sheetSize, .ref m_sheets, .int (nI ((f_X8_remember nw un u).1)), .int fi, .ref m_fresh, .long aa, .long bb, .long dd, .int (nI ro), .ref m_rootWhich, .int db, .ref m_signs, .ref m_atNought, .int (nI mn), .ref m_change, .ref m_table, .ref m_carried])), (m_now, .inl (cy 0, 29, .inl nw)), (m_undone, .inl (cy 0, 725, .inl ((f_X8_remember nw un u).2))), (m_fresh, .inl (cy 0, 12, .inl (upd (upd (upd zfresh_6 (6 * ki) ((if (nI ki) = 0 then (-1) else 1) * (nw (if (nI ki) = 0 then 6 else 0)))) ((6 * ki) + 1) ((-(if (nI ki) = 0 then (-1) else 1)) * (nw ((if (nI ki) = 0 then 6 else 0) + 2)))) ((6 * ki) + 2) ((if (nI ki) = 0 then (-1) else 1) * (nw ((if (nI ki) = 0 then 6 else 0) + 1))))))] H := hP9
            replace hD : va_D A [(ta, .inr (8, [.ref m_now, .ref m_undone, .ref m_slots, .ref m_slotKind, .ref m_hasSlot, .ref m_sheetBits, .ref m_sheetSize, .ref m_sheets, .int (nI ((f_X8_remember nw un u).1)), .int fi, .ref m_fresh, .long aa, .long bb, .long dd, .int (nI ro), .ref m_rootWhich, .int db, .ref m_signs, .ref m_atNought, .int (nI mn), .ref m_change, .ref m_table, .ref m_carried])), (m_now, .inl (cy 0, 29, .inl nw)), (m_undone, .inl (cy 0, 725, .inl ((f_X8_remember nw un u).2))), (m_fresh, .inl (cy 0, 12, .inl (upd (upd (upd zfresh_6 (6 * ki) ((if (nI ki) = 0 then (-1) else 1) * (nw (if (nI ki) = 0 then 6 else 0)))) ((6 * ki) + 1) ((-(if (nI ki) = 0 then (-1) else 1)) * (nw ((if (nI ki) = 0 then 6 else 0) + 2)))) ((6 * ki) + 2) ((if (nI ki) = 0 then (-1) else 1) * (nw ((if (nI ki) = 0 then 6 else 0) + 1))))))] := hD9
            replace hS := hS9
            clear hP9 hD9 hS9
            refine lv_aload_n hx hb dX8_quarter_92 rfl (lv_at hl 2 rfl) ?_
            refine va_get (D := D) (ci := 8) (v := .ref m_fresh) (C := RX8) (T := TX8) (N := 23) hx hb hts uX8_quarter_X8 hown hK hP 0 rfl rfl 10 (by decide) (hts _ kX8_quarter_0) (fun _ h9 => h9) rfl dX8_quarter_93 ?_
            refine lv_iload hx hb dX8_quarter_96 (lv_at hl 0 rfl) ?_
            refine lv_iconst (v := 3) hx hb dX8_quarter_98 (by decide) ?_
            refine lv_iadd hx hb dX8_quarter_99 ?_
            refine yk_ti (y := nI ((6 * ki) + 3)) (nI_add (6 * ki) 3) ?_
            refine lv_iload_n hx hb dX8_quarter_100 rfl (lv_at hl 1 rfl) ?_
            refine lv_aload_n hx hb dX8_quarter_101 rfl (lv_at hl 2 rfl) ?_
            refine va_get (D := D) (ci := 8) (v := .ref m_now) (C := RX8) (T := TX8) (N := 23) hx hb hts uX8_quarter_X8 hown hK hP 0 rfl rfl 0 (by decide) (hts _ kX8_quarter_1) (fun _ h9 => h9) rfl dX8_quarter_102 ?_
            refine lv_iload_n hx hb dX8_quarter_105 rfl (lv_at hl 4 rfl) ?_
            refine lv_iconst (v := 5) hx hb dX8_quarter_106 (by decide) ?_
            refine lv_iadd hx hb dX8_quarter_107 ?_
            refine yk_ti (y := nI ((if (nI ki) = 0 then 6 else 0) + 5)) (nI_add (if (nI ki) = 0 then 6 else 0) 5) ?_
            refine yk_ild hx hb hK hP 1 0 rfl rfl ((if (nI ki) = 0 then 6 else 0) + 5) (by (repeat' split) <;> omega) (by decide) dX8_quarter_108 ?_
            refine lv_imul hx hb dX8_quarter_109 ?_
            refine yk_ist hx hb hK hP hD hS 3 0 rfl rfl ((6 * ki) + 3) (by omega) (by decide) dX8_quarter_110 (fun H locs hP9 hD9 hS9 => ?_)
            replace hP : va_P D vwCl [(ta, .inr (8, [.ref m_now, .ref m_undone, .ref m_slots, .ref m_slotKind, .ref m_hasSlot, .ref m_sheetBits, .ref m_sheetSize, .ref m_sheets, .int (nI ((f_X8_remember nw un u).1)), .int fi, .ref m_fresh, .long aa, .long bb, .long dd, .int (nI ro), .ref m_rootWhich, .int db, .ref m_signs, .ref m_atNought, .int (nI mn), .ref m_change, .ref m_table, .ref m_carried])), (m_now, .inl (cy 0, 29, .inl nw)), (m_undone, .inl (cy 0, 725, .inl ((f_X8_remember nw un u).2))), (m_fresh, .inl (cy 0, 12, .inl (upd (upd (upd (upd zfresh_6 (6 * ki) ((if (nI ki) = 0 then (-1) else 1) * (nw (if (nI ki) = 0 then 6 else 0)))) ((6 * ki) + 1) ((-(if (nI ki) = 0 then (-1) else 1)) * (nw ((if (nI ki) = 0 then 6 else 0) + 2)))) ((6 * ki) + 2) ((if (nI ki) = 0 then (-1) else 1) * (nw ((if (nI ki) = 0 then 6 else 0) + 1)))) ((6 * ki) + 3) ((if (nI ki) = 0 then (-1) else 1) * (nw ((if (nI ki) = 0 then 6 else 0) + 5))))))] H := hP9
            replace hD : va_D A [(ta, .inr (8, [.ref m_now, .ref m_undone, .ref m_slots, .ref m_slotKind, .ref m_hasSlot, .ref m_sheetBits, .ref m_sheetSize, .ref m_sheets, .int (nI ((f_X8_remember nw un u).1)), .int fi, .ref m_fresh, .long aa, .long bb, .long dd, .int (nI ro), .ref m_rootWhich, .int db, .ref m_signs, .ref m_atNought, .int (nI mn), .ref m_change, .ref m_table, .ref m_carried])), (m_now, .inl (cy 0, 29, .inl nw)), (m_undone, .inl (cy 0, 725, .inl ((f_X8_remember nw un u).2))), (m_fresh, .inl (cy 0, 12, .inl (upd (upd (upd (upd zfresh_6 (6 * ki) ((if (nI ki) = 0 then (-1) else 1) * (nw (if (nI ki) = 0 then 6 else 0)))) ((6 * ki) + 1) ((-(if (nI ki) = 0 then (-1) else 1)) * (nw ((if (nI ki) = 0 then 6 else 0) + 2)))) ((6 * ki) + 2) ((if (nI ki) = 0 then (-1) else 1) * (nw ((if (nI ki) = 0 then 6 else 0) + 1)))) ((6 * ki) + 3) ((if (nI ki) = 0 then (-1) else 1) * (nw ((if (nI ki) = 0 then 6 else 0) + 5))))))] := hD9
            replace hS := hS9
            clear hP9 hD9 hS9
            refine lv_aload_n hx hb dX8_quarter_111 rfl (lv_at hl 2 rfl) ?_
            refine va_get (D := D) (ci := 8) (v := .ref m_fresh) (C := RX8) (T := TX8) (N := 23) hx hb hts uX8_quarter_X8 hown hK hP 0 rfl rfl 10 (by decide) (hts _ kX8_quarter_0) (fun _ h9 => h9) rfl dX8_quarter_112 ?_
            refine lv_iload hx hb dX8_quarter_115 (lv_at hl 0 rfl) ?_
            refine lv_iconst (v := 4) hx hb dX8_quarter_117 (by decide) ?_
            refine lv_iadd hx hb dX8_quarter_118 ?_
            refine yk_ti (y := nI ((6 * ki) + 4)) (nI_add (6 * ki) 4) ?_
            refine lv_iload_n hx hb dX8_quarter_119 rfl (lv_at hl 1 rfl) ?_
            refine lv_ineg hx hb dX8_quarter_120 ?_
            refine lv_aload_n hx hb dX8_quarter_121 rfl (lv_at hl 2 rfl) ?_
            refine va_get (D := D) (ci := 8) (v := .ref m_now) (C := RX8) (T := TX8) (N := 23) hx hb hts uX8_quarter_X8 hown hK hP 0 rfl rfl 0 (by decide) (hts _ kX8_quarter_1) (fun _ h9 => h9) rfl dX8_quarter_122 ?_
            refine lv_iload_n hx hb dX8_quarter_125 rfl (lv_at hl 4 rfl) ?_
            refine lv_iconst (v := 4) hx hb dX8_quarter_126 (by decide) ?_
            refine lv_iadd hx hb dX8_quarter_127 ?_
            refine yk_ti (y := nI ((if (nI ki) = 0 then 6 else 0) + 4)) (nI_add (if (nI ki) = 0 then 6 else 0) 4) ?_
            refine yk_ild hx hb hK hP 1 0 rfl rfl ((if (nI ki) = 0 then 6 else 0) + 4) (by (repeat' split) <;> omega) (by decide) dX8_quarter_128 ?_
            refine lv_imul hx hb dX8_quarter_129 ?_
            refine yk_ist hx hb hK hP hD hS 3 0 rfl rfl ((6 * ki) + 4) (by omega) (by decide) dX8_quarter_130 (fun H locs hP9 hD9 hS9 => ?_)
            replace hP : va_P D vwCl [(ta, .inr (8, [.ref m_now, .ref m_undone, .ref m_slots, .ref m_slotKind, .ref m_hasSlot, .ref m_sheetBits, .ref m_sheetSize, .ref m_sheets, .int (nI ((f_X8_remember nw un u).1)), .int fi, .ref m_fresh, .long aa, .long bb, .long dd, .int (nI ro), .ref m_rootWhich, .int db, .ref m_signs, .ref m_atNought, .int (nI mn), .ref m_change, .ref m_table, .ref m_carried])), (m_now, .inl (cy 0, 29, .inl nw)), (m_undone, .inl (cy 0, 725, .inl ((f_X8_remember nw un u).2))), (m_fresh, .inl (cy 0, 12, .inl (upd (upd (upd (upd (upd zfresh_6 (6 * ki) ((if (nI ki) = 0 then (-1) else 1) * (nw (if (nI ki) = 0 then 6 else 0)))) ((6 * ki) + 1) ((-(if (nI ki) = 0 then (-1) else 1)) * (nw ((if (nI ki) = 0 then 6 else 0) + 2)))) ((6 * ki) + 2) ((if (nI ki) = 0 then (-1) else 1) * (nw ((if (nI ki) = 0 then 6 else 0) + 1)))) ((6 * ki) + 3) ((if (nI ki) = 0 then (-1) else 1) * (nw ((if (nI ki) = 0 then 6 else 0) + 5)))) ((6 * ki) + 4) ((-(if (nI ki) = 0 then (-1) else 1)) * (nw ((if (nI ki) = 0 then 6 else 0) + 4))))))] H := hP9
            replace hD : va_D A [(ta, .inr (8, [.ref m_now, .ref m_undone, .ref m_slots, .ref m_slotKind, .ref m_hasSlot, .ref m_sheetBits, .ref m_sheetSize, .ref m_sheets, .int (nI ((f_X8_remember nw un u).1)), .int fi, .ref m_fresh, .long aa, .long bb, .long dd, .int (nI ro), .ref m_rootWhich, .int db, .ref m_signs, .ref m_atNought, .int (nI mn), .ref m_change, .ref m_table, .ref m_carried])), (m_now, .inl (cy 0, 29, .inl nw)), (m_undone, .inl (cy 0, 725, .inl ((f_X8_remember nw un u).2))), (m_fresh, .inl (cy 0, 12, .inl (upd (upd (upd (upd (upd zfresh_6 (6 * ki) ((if (nI ki) = 0 then (-1) else 1) * (nw (if (nI ki) = 0 then 6 else 0)))) ((6 * ki) + 1) ((-(if (nI ki) = 0 then (-1) else 1)) * (nw ((if (nI ki) = 0 then 6 else 0) + 2)))) ((6 * ki) + 2) ((if (nI ki) = 0 then (-1) else 1) * (nw ((if (nI ki) = 0 then 6 else 0) + 1)))) ((6 * ki) + 3) ((if (nI ki) = 0 then (-1) else 1) * (nw ((if (nI ki) = 0 then 6 else 0) + 5)))) ((6 * ki) + 4) ((-(if (nI ki) = 0 then (-1) else 1)) * (nw ((if (nI ki) = 0 then 6 else 0) + 4))))))] := hD9
            replace hS := hS9
            clear hP9 hD9 hS9
            refine lv_aload_n hx hb dX8_quarter_131 rfl (lv_at hl 2 rfl) ?_
            refine va_get (D := D) (ci := 8) (v := .ref m_fresh) (C := RX8) (T := TX8) (N := 23) hx hb hts uX8_quarter_X8 hown hK hP 0 rfl rfl 10 (by decide) (hts _ kX8_quarter_0) (fun _ h9 => h9) rfl dX8_quarter_132 ?_
            refine lv_iload hx hb dX8_quarter_135 (lv_at hl 0 rfl) ?_
            refine lv_iconst (v := 5) hx hb dX8_quarter_137 (by decide) ?_
            refine lv_iadd hx hb dX8_quarter_138 ?_
            refine yk_ti (y := nI ((6 * ki) + 5)) (nI_add (6 * ki) 5) ?_
            refine lv_iload_n hx hb dX8_quarter_139 rfl (lv_at hl 1 rfl) ?_
            refine lv_aload_n hx hb dX8_quarter_140 rfl (lv_at hl 2 rfl) ?_
            refine va_get (D := D) (ci := 8) (v := .ref m_now) (C := RX8) (T := TX8) (N := 23) hx hb hts uX8_quarter_X8 hown hK hP 0 rfl rfl 0 (by decide) (hts _ kX8_quarter_1) (fun _ h9 => h9) rfl dX8_quarter_141 ?_
            refine lv_iload_n hx hb dX8_quarter_144 rfl (lv_at hl 4 rfl) ?_
            refine lv_iconst (v := 3) hx hb dX8_quarter_145 (by decide) ?_
            refine lv_iadd hx hb dX8_quarter_146 ?_
            refine yk_ti (y := nI ((if (nI ki) = 0 then 6 else 0) + 3)) (nI_add (if (nI ki) = 0 then 6 else 0) 3) ?_
            refine yk_ild hx hb hK hP 1 0 rfl rfl ((if (nI ki) = 0 then 6 else 0) + 3) (by (repeat' split) <;> omega) (by decide) dX8_quarter_147 ?_
            refine lv_imul hx hb dX8_quarter_148 ?_
            refine yk_ist hx hb hK hP hD hS 3 0 rfl rfl ((6 * ki) + 5) (by omega) (by decide) dX8_quarter_149 (fun H locs hP9 hD9 hS9 => ?_)
            replace hP : va_P D vwCl [(ta, .inr (8, [.ref m_now, .ref m_undone, .ref m_slots, .ref m_slotKind, .ref m_hasSlot, .ref m_sheetBits, .ref m_sheetSize, .ref m_sheets, .int (nI ((f_X8_remember nw un u).1)), .int fi, .ref m_fresh, .long aa, .long bb, .long dd, .int (nI ro), .ref m_rootWhich, .int db, .ref m_signs, .ref m_atNought, .int (nI mn), .ref m_change, .ref m_table, .ref m_carried])), (m_now, .inl (cy 0, 29, .inl nw)), (m_undone, .inl (cy 0, 725, .inl ((f_X8_remember nw un u).2))), (m_fresh, .inl (cy 0, 12, .inl (upd (upd (upd (upd (upd (upd zfresh_6 (6 * ki) ((if (nI ki) = 0 then (-1) else 1) * (nw (if (nI ki) = 0 then 6 else 0)))) ((6 * ki) + 1) ((-(if (nI ki) = 0 then (-1) else 1)) * (nw ((if (nI ki) = 0 then 6 else 0) + 2)))) ((6 * ki) + 2) ((if (nI ki) = 0 then (-1) else 1) * (nw ((if (nI ki) = 0 then 6 else 0) + 1)))) ((6 * ki) + 3) ((if (nI ki) = 0 then (-1) else 1) * (nw ((if (nI ki) = 0 then 6 else 0) + 5)))) ((6 * ki) + 4) ((-(if (nI ki) = 0 then (-1) else 1)) * (nw ((if (nI ki) = 0 then 6 else 0) + 4)))) ((6 * ki) + 5) ((if (nI ki) = 0 then (-1) else 1) * (nw ((if (nI ki) = 0 then 6 else 0) + 3))))))] H := hP9
            replace hD : va_D A [(ta, .inr (8, [.ref m_now, .ref m_undone, .ref m_slots, .ref m_slotKind, .ref m_hasSlot, .ref m_sheetBits, .ref m_sheetSize, .ref m_sheets, .int (nI ((f_X8_remember nw un u).1)), .int fi, .ref m_fresh, .long aa, .long bb, .long dd, .int (nI ro), .ref m_rootWhich, .int db, .ref m_signs, .ref m_atNought, .int (nI mn), .ref m_change, .ref m_table, .ref m_carried])), (m_now, .inl (cy 0, 29, .inl nw)), (m_undone, .inl (cy 0, 725, .inl ((f_X8_remember nw un u).2))), (m_fresh, .inl (cy 0, 12, .inl (upd (upd (upd (upd (upd (upd zfresh_6 (6 * ki) ((if (nI ki) = 0 then (-1) else 1) * (nw (if (nI ki) = 0 then 6 else 0)))) ((6 * ki) + 1) ((-(if (nI ki) = 0 then (-1) else 1)) * (nw ((if (nI ki) = 0 then 6 else 0) + 2)))) ((6 * ki) + 2) ((if (nI ki) = 0 then (-1) else 1) * (nw ((if (nI ki) = 0 then 6 else 0) + 1)))) ((6 * ki) + 3) ((if (nI ki) = 0 then (-1) else 1) * (nw ((if (nI ki) = 0 then 6 else 0) + 5)))) ((6 * ki) + 4) ((-(if (nI ki) = 0 then (-1) else 1)) * (nw ((if (nI ki) = 0 then 6 else 0) + 4)))) ((6 * ki) + 5) ((if (nI ki) = 0 then (-1) else 1) * (nw ((if (nI ki) = 0 then 6 else 0) + 3))))))] := hD9
            replace hS := hS9
            clear hP9 hD9 hS9
            refine lv_iinc (v := nI (ki + 1)) (lv' := [(1, .int (nI (ki + 1))), (4, .int (nI (6 * ki))), (3, .int (if (nI ki) = 0 then (-1) else 1)), (0, .ref ta), (2, .int (nI (if (nI ki) = 0 then 6 else 0)))]) hx hb dX8_quarter_150 hl (k := 3) rfl (yk_inc ki) (by decide) rfl (fun ls hl9 => ?_)
            replace hl := hl9
            clear hl9
            refine lv_goto (tgt := 6) hx hb dX8_quarter_153 (by decide) ?_
            obtain ⟨n9, rfl⟩ : ∃ n9, n6 = n9 + 1 := ⟨n6 - 1, by omega⟩
            exact ih6 n9 (ki + 1) (upd (upd (upd (upd (upd (upd zfresh_6 (6 * ki) ((if (nI ki) = 0 then (-1) else 1) * (nw (if (nI ki) = 0 then 6 else 0)))) ((6 * ki) + 1) ((-(if (nI ki) = 0 then (-1) else 1)) * (nw ((if (nI ki) = 0 then 6 else 0) + 2)))) ((6 * ki) + 2) ((if (nI ki) = 0 then (-1) else 1) * (nw ((if (nI ki) = 0 then 6 else 0) + 1)))) ((6 * ki) + 3) ((if (nI ki) = 0 then (-1) else 1) * (nw ((if (nI ki) = 0 then 6 else 0) + 5)))) ((6 * ki) + 4) ((-(if (nI ki) = 0 then (-1) else 1)) * (nw ((if (nI ki) = 0 then 6 else 0) + 4)))) ((6 * ki) + 5) ((if (nI ki) = 0 then (-1) else 1) * (nw ((if (nI ki) = 0 then 6 else 0) + 3)))) _ _ _ (by omega) (by omega)  hV6 hP hD hS (lv_sub hl [3, 0] rfl)
          refine lv_if_ne (tgt := 30) hx hb dX8_quarter_23 (by decide) (fun hc12 => ?_) (fun hc12 => ?_)
          · refine lv_iconst (v := 1) hx hb dX8_quarter_30 (by decide) ?_
            exact J14 _ _ _ _ ((if_neg hc12).symm) hP hD hS (lv_sub hl [1, 2, 0] rfl)
          · refine lv_iconst (v := (-1)) hx hb dX8_quarter_26 (by decide) ?_
            refine lv_goto (tgt := 31) hx hb dX8_quarter_27 (by decide) ?_
            exact J14 _ _ _ _ ((if_pos hc12).symm) hP hD hS (lv_sub hl [1, 2, 0] rfl)
        refine lv_if_ne (tgt := 20) hx hb dX8_quarter_12 (by decide) (fun hc9 => ?_) (fun hc9 => ?_)
        · refine lv_iconst (v := 0) hx hb dX8_quarter_20 (by decide) ?_
          exact J11 _ _ _ _ ((if_neg hc9).symm) hP hD hS (lv_sub hl [0, 1] rfl)
        · refine lv_bipush (v := 6) hx hb dX8_quarter_15 (by decide) ?_
          refine lv_goto (tgt := 21) hx hb dX8_quarter_17 (by decide) ?_
          exact J11 _ _ _ _ ((if_pos hc9).symm) hP hD hS (lv_sub hl [0, 1] rfl)
  exact L6 (2 + 1) 2 0 fr _ _ _ (Nat.lt_succ_self _) (by omega)  rfl hP hD hS (lv_sub hl [1, 0] rfl)

theorem kX8_mirror_0 : Cond.fieldLink RX8 7 "FlowPlaneModel" "now" "[I" ∈ wsX8_mirror := by decide +kernel
theorem uX8_mirror_X8 : ∀ w ∈ u_ws RX8 TX8 23, w ∈ wsX8_mirror := by decide +kernel
def l_X8_mirror_6 (nw : Nat → Int32) (un : Nat → Int32) (u : Nat) : Nat → Nat → (Nat → Int32) → (Nat → Int32)
  | 0, ki, znow_6 => znow_6
  | fu_X8_mirror_6 + 1, ki, znow_6 => (if 12 ≤ (nI ki) then znow_6 else (l_X8_mirror_6 nw un u fu_X8_mirror_6 (ki + 1) (upd znow_6 ki (if (nI (ki % 6)) = 1 then ((-(if 6 ≤ (nI ki) then 1 else (-1))) * (znow_6 ki)) else (if (nI (ki % 6)) = 4 then ((-(if 6 ≤ (nI ki) then 1 else (-1))) * (znow_6 ki)) else ((if 6 ≤ (nI ki) then 1 else (-1)) * (znow_6 ki)))))))
def f_X8_mirror (nw : Nat → Int32) (un : Nat → Int32) (u : Nat) : Int32 × Nat × (Nat → Int32) × (Nat → Int32) := (1, ((f_X8_remember nw un u).1), (l_X8_mirror_6 nw un u (12 + 1) 0 nw), ((f_X8_remember nw un u).2))
set_option maxHeartbeats 400000000 in
set_option maxRecDepth 100000 in
theorem c_X8_mirror (l : Launch) (D : va_G) (cy : Nat → ClassId) (ta : Nat) (m_now : Nat) (m_undone : Nat) (m_slots : Nat) (m_slotKind : Nat) (m_hasSlot : Nat) (m_sheetBits : Nat) (m_sheetSize : Nat) (m_sheets : Nat) (m_fresh : Nat) (m_rootWhich : Nat) (m_signs : Nat) (m_atNought : Nat) (m_change : Nat) (m_table : Nat) (m_carried : Nat) (nw : Nat → Int32) (un : Nat → Int32) (u : Nat) (fi : Int32) (aa : Int64) (bb : Int64) (dd : Int64) (ro : Nat) (db : Int32) (mn : Nat) (hu : u ≤ 25) : yk_Ci l D vwCl (yk_ty cy) yX8_mirror wsX8_mirror 1 21 [.ref ta] [(ta, .inr (8, [.ref m_now, .ref m_undone, .ref m_slots, .ref m_slotKind, .ref m_hasSlot, .ref m_sheetBits, .ref m_sheetSize, .ref m_sheets, .int (nI u), .int fi, .ref m_fresh, .long aa, .long bb, .long dd, .int (nI ro), .ref m_rootWhich, .int db, .ref m_signs, .ref m_atNought, .int (nI mn), .ref m_change, .ref m_table, .ref m_carried])), (m_now, .inl (cy 0, 29, .inl nw)), (m_undone, .inl (cy 0, 725, .inl un))] ((f_X8_mirror nw un u).1) [(ta, .inr (8, [.ref m_now, .ref m_undone, .ref m_slots, .ref m_slotKind, .ref m_hasSlot, .ref m_sheetBits, .ref m_sheetSize, .ref m_sheets, .int (nI ((f_X8_mirror nw un u).2.1)), .int fi, .ref m_fresh, .long aa, .long bb, .long dd, .int (nI ro), .ref m_rootWhich, .int db, .ref m_signs, .ref m_atNought, .int (nI mn), .ref m_change, .ref m_table, .ref m_carried])), (m_now, .inl (cy 0, 29, .inl ((f_X8_mirror nw un u).2.2.1))), (m_undone, .inl (cy 0, 725, .inl ((f_X8_mirror nw un u).2.2.2)))] := by
  refine yk_eI (cc := cX8_mirror) (maxL := 4) (by decide) rfl (Nat.le_of_ble_eq_true rfl) rfl ?_
  intro p e R s m args below meth c A Q ls H locs hx hb hml hown hts hRf hRl hA hK hG hP hD hS hl hQ
  have hP : va_P D vwCl [(ta, .inr (8, [.ref m_now, .ref m_undone, .ref m_slots, .ref m_slotKind, .ref m_hasSlot, .ref m_sheetBits, .ref m_sheetSize, .ref m_sheets, .int (nI u), .int fi, .ref m_fresh, .long aa, .long bb, .long dd, .int (nI ro), .ref m_rootWhich, .int db, .ref m_signs, .ref m_atNought, .int (nI mn), .ref m_change, .ref m_table, .ref m_carried])), (m_now, .inl (cy 0, 29, .inl nw)), (m_undone, .inl (cy 0, 725, .inl un))] H := hP
  have hl : lv_has ls 4 [(0, .ref ta)] := hl
  have hown : s.vm.findClass RX8 = some m.cls := hown
  have hF : (f_X8_mirror nw un u) = (f_X8_mirror nw un u) := rfl
  refine lv_aload_n hx hb dX8_mirror_0 rfl (lv_at hl 0 rfl) ?_
  refine yk_v [0, 1, 2] (va_runV (As := []) (rest := []) ⟨hx, hb, hml, hown, hts⟩ (c_X8_remember l D cy ta m_now m_undone m_slots m_slotKind m_hasSlot m_sheetBits m_sheetSize m_sheets m_fresh m_rootWhich m_signs m_atNought m_change m_table m_carried nw un u fi aa bb dd ro db mn (by first | assumption | omega) H.size) (cwV 0 hts gX8_mirror_X8_remember rfl rfl rfl hv_X8_remember (yk_room hRf hRl rfl rfl)) (yk_pv (q := (RX8, TX8, 23)) hG hA hS hK hP hD [0, 1, 2] (by decide +kernel) rfl rfl rfl) rfl rfl hl.1 rfl (lv_room (Nat.le_of_ble_eq_true rfl)) dX8_mirror_1 ⟨Nat.zero_le _, Nat.zero_le _⟩) hP hD hS hA rfl rfl (fun H locs hP9 hD9 hS9 => ?_)
  replace hP : va_P D vwCl [(ta, .inr (8, [.ref m_now, .ref m_undone, .ref m_slots, .ref m_slotKind, .ref m_hasSlot, .ref m_sheetBits, .ref m_sheetSize, .ref m_sheets, .int (nI ((f_X8_remember nw un u).1)), .int fi, .ref m_fresh, .long aa, .long bb, .long dd, .int (nI ro), .ref m_rootWhich, .int db, .ref m_signs, .ref m_atNought, .int (nI mn), .ref m_change, .ref m_table, .ref m_carried])), (m_now, .inl (cy 0, 29, .inl nw)), (m_undone, .inl (cy 0, 725, .inl ((f_X8_remember nw un u).2)))] H := hP9
  replace hD : va_D A [(ta, .inr (8, [.ref m_now, .ref m_undone, .ref m_slots, .ref m_slotKind, .ref m_hasSlot, .ref m_sheetBits, .ref m_sheetSize, .ref m_sheets, .int (nI ((f_X8_remember nw un u).1)), .int fi, .ref m_fresh, .long aa, .long bb, .long dd, .int (nI ro), .ref m_rootWhich, .int db, .ref m_signs, .ref m_atNought, .int (nI mn), .ref m_change, .ref m_table, .ref m_carried])), (m_now, .inl (cy 0, 29, .inl nw)), (m_undone, .inl (cy 0, 725, .inl ((f_X8_remember nw un u).2)))] := hD9
  replace hS := hS9
  clear hP9 hD9 hS9
  refine lv_iconst (v := 0) hx hb dX8_mirror_4 (by decide) ?_
  refine lv_istore_n (lv' := [(1, .int 0), (0, .ref ta)]) hx hb dX8_mirror_5 rfl hl (by decide) rfl (fun ls hl9 => ?_)
  replace hl := hl9
  clear hl9
  have J17 : ∀ (H : Heap) (locs : List Loc) (ls : Array Slot), va_P D vwCl [(ta, .inr (8, [.ref m_now, .ref m_undone, .ref m_slots, .ref m_slotKind, .ref m_hasSlot, .ref m_sheetBits, .ref m_sheetSize, .ref m_sheets, .int (nI ((f_X8_remember nw un u).1)), .int fi, .ref m_fresh, .long aa, .long bb, .long dd, .int (nI ro), .ref m_rootWhich, .int db, .ref m_signs, .ref m_atNought, .int (nI mn), .ref m_change, .ref m_table, .ref m_carried])), (m_now, .inl (cy 0, 29, .inl (l_X8_mirror_6 nw un u (12 + 1) 0 nw))), (m_undone, .inl (cy 0, 725, .inl ((f_X8_remember nw un u).2)))] H → va_D A [(ta, .inr (8, [.ref m_now, .ref m_undone, .ref m_slots, .ref m_slotKind, .ref m_hasSlot, .ref m_sheetBits, .ref m_sheetSize, .ref m_sheets, .int (nI ((f_X8_remember nw un u).1)), .int fi, .ref m_fresh, .long aa, .long bb, .long dd, .int (nI ro), .ref m_rootWhich, .int db, .ref m_signs, .ref m_atNought, .int (nI mn), .ref m_change, .ref m_table, .ref m_carried])), (m_now, .inl (cy 0, 29, .inl (l_X8_mirror_6 nw un u (12 + 1) 0 nw))), (m_undone, .inl (cy 0, 725, .inl ((f_X8_remember nw un u).2)))] → va_S A s.heap H locs → lv_has ls 4 [(0, .ref ta)] → W p l e R s m args below meth c H locs 0 0 Q (F0 m 71 ls []) := by
    clear hP hD hS hl
    intro H locs ls hP hD hS hl
    refine lv_iconst (v := 1) hx hb dX8_mirror_71 (by decide) ?_
    have hF : f_X8_mirror nw un u = (1, ((f_X8_remember nw un u).1), (l_X8_mirror_6 nw un u (12 + 1) 0 nw), ((f_X8_remember nw un u).2)) := hF
    have hf0 := yk_fst hF
    have hg0 := yk_snd hF
    have hf1 := yk_fst hg0
    have hg1 := yk_snd hg0
    have hf2 := yk_fst hg1
    have hg2 := yk_snd hg1
    rw [hf0, hf1, hf2, hg2] at hQ
    exact hQ _ _ _ _ dX8_mirror_72 hP hS
  have L6 : ∀ (M9 n6 ki : Nat) (znow_6 : Nat → Int32) (H : Heap) (locs : List Loc) (ls : Array Slot), n6 < M9 → ki + n6 = 12 → (l_X8_mirror_6 nw un u (12 + 1) 0 nw) = (l_X8_mirror_6 nw un u (n6 + 1) ki znow_6) → va_P D vwCl [(ta, .inr (8, [.ref m_now, .ref m_undone, .ref m_slots, .ref m_slotKind, .ref m_hasSlot, .ref m_sheetBits, .ref m_sheetSize, .ref m_sheets, .int (nI ((f_X8_remember nw un u).1)), .int fi, .ref m_fresh, .long aa, .long bb, .long dd, .int (nI ro), .ref m_rootWhich, .int db, .ref m_signs, .ref m_atNought, .int (nI mn), .ref m_change, .ref m_table, .ref m_carried])), (m_now, .inl (cy 0, 29, .inl znow_6)), (m_undone, .inl (cy 0, 725, .inl ((f_X8_remember nw un u).2)))] H → va_D A [(ta, .inr (8, [.ref m_now, .ref m_undone, .ref m_slots, .ref m_slotKind, .ref m_hasSlot, .ref m_sheetBits, .ref m_sheetSize, .ref m_sheets, .int (nI ((f_X8_remember nw un u).1)), .int fi, .ref m_fresh, .long aa, .long bb, .long dd, .int (nI ro), .ref m_rootWhich, .int db, .ref m_signs, .ref m_atNought, .int (nI mn), .ref m_change, .ref m_table, .ref m_carried])), (m_now, .inl (cy 0, 29, .inl znow_6)), (m_undone, .inl (cy 0, 725, .inl ((f_X8_remember nw un u).2)))] → va_S A s.heap H locs → lv_has ls 4 [(0, .ref ta), (1, .int (nI ki))] → W p l e R s m args below meth c H locs 0 0 Q (F0 m 6 ls []) := by
    clear hP hD hS hl
    intro M9
    induction M9 with
    | zero => intro n6 ki _ _ _ _ hn; exact absurd hn (Nat.not_lt_zero _)
    | succ M9 ih6 =>
      intro n6 ki znow_6 H locs ls hn6 hk6 hV6 hP hD hS hl
      refine lv_iload_n hx hb dX8_mirror_6 rfl (lv_at hl 1 rfl) ?_
      refine lv_bipush (v := 12) hx hb dX8_mirror_7 (by decide) ?_
      refine lv_icmp_ge (tgt := 71) hx hb dX8_mirror_9 (by decide) (fun hc9 => ?_) (fun hc9 => ?_)
      · replace hV6 := hV6.trans (if_pos hc9)
        have hV6 : (l_X8_mirror_6 nw un u (12 + 1) 0 nw) = znow_6 := hV6
        have J17 := J17
        rw [hV6] at J17
        exact J17 _ _ _ hP hD hS (lv_sub hl [0] rfl)
      · replace hV6 := hV6.trans (if_neg hc9)
        have hlt6 : ki < 12 := yk_lt hk6 (by omega) hc9
        refine lv_iload_n hx hb dX8_mirror_12 rfl (lv_at hl 1 rfl) ?_
        refine lv_bipush (v := 6) hx hb dX8_mirror_13 (by decide) ?_
        refine lv_irem hx hb dX8_mirror_15 (by decide) ?_
        refine yk_ti (y := nI (ki % 6)) (pk_rem (d := 6) (by omega) (by decide) (by decide)) ?_
        refine lv_istore_n (lv' := [(2, .int (nI (ki % 6))), (0, .ref ta), (1, .int (nI ki))]) hx hb dX8_mirror_16 rfl hl (by decide) rfl (fun ls hl9 => ?_)
        replace hl := hl9
        clear hl9
        refine lv_iload_n hx hb dX8_mirror_17 rfl (lv_at hl 2 rfl) ?_
        refine lv_bipush (v := 6) hx hb dX8_mirror_18 (by decide) ?_
        have J12 : ∀ (v11 : Int32) (H : Heap) (locs : List Loc) (ls : Array Slot), v11 = (if 6 ≤ (nI ki) then 1 else (-1)) → va_P D vwCl [(ta, .inr (8, [.ref m_now, .ref m_undone, .ref m_slots, .ref m_slotKind, .ref m_hasSlot, .ref m_sheetBits, .ref m_sheetSize, .ref m_sheets, .int (nI ((f_X8_remember nw un u).1)), .int fi, .ref m_fresh, .long aa, .long bb, .long dd, .int (nI ro), .ref m_rootWhich, .int db, .ref m_signs, .ref m_atNought, .int (nI mn), .ref m_change, .ref m_table, .ref m_carried])), (m_now, .inl (cy 0, 29, .inl znow_6)), (m_undone, .inl (cy 0, 725, .inl ((f_X8_remember nw un u).2)))] H → va_D A [(ta, .inr (8, [.ref m_now, .ref m_undone, .ref m_slots, .ref m_slotKind, .ref m_hasSlot, .ref m_sheetBits, .ref m_sheetSize, .ref m_sheets, .int (nI ((f_X8_remember nw un u).1)), .int fi, .ref m_fresh, .long aa, .long bb, .long dd, .int (nI ro), .ref m_rootWhich, .int db, .ref m_signs, .ref m_atNought, .int (nI mn), .ref m_change, .ref m_table, .ref m_carried])), (m_now, .inl (cy 0, 29, .inl znow_6)), (m_undone, .inl (cy 0, 725, .inl ((f_X8_remember nw un u).2)))] → va_S A s.heap H locs → lv_has ls 4 [(0, .ref ta), (1, .int (nI ki)), (2, .int (nI (ki % 6)))] → W p l e R s m args below meth c H locs 0 0 Q (F0 m 28 ls [.int v11]) := by
          clear hP hD hS hl
          intro v11 H locs ls ev11 hP hD hS hl
          subst ev11
          refine lv_istore_n (lv' := [(3, .int (if 6 ≤ (nI ki) then 1 else (-1))), (0, .ref ta), (1, .int (nI ki)), (2, .int (nI (ki % 6)))]) hx hb dX8_mirror_28 rfl hl (by decide) rfl (fun ls hl9 => ?_)
          replace hl := hl9
          clear hl9
          refine lv_aload_n hx hb dX8_mirror_29 rfl (lv_at hl 1 rfl) ?_
          refine va_get (D := D) (ci := 8) (v := .ref m_now) (C := RX8) (T := TX8) (N := 23) hx hb hts uX8_mirror_X8 hown hK hP 0 rfl rfl 0 (by decide) (hts _ kX8_mirror_0) (fun _ h9 => h9) rfl dX8_mirror_30 ?_
          refine lv_iload_n hx hb dX8_mirror_33 rfl (lv_at hl 2 rfl) ?_
          refine lv_iload_n hx hb dX8_mirror_34 rfl (lv_at hl 3 rfl) ?_
          refine lv_iconst (v := 1) hx hb dX8_mirror_35 (by decide) ?_
          have J16 : ∀ (v15 : Int32) (H : Heap) (locs : List Loc) (ls : Array Slot), v15 = (if (nI (ki % 6)) = 1 then ((-(if 6 ≤ (nI ki) then 1 else (-1))) * (znow_6 ki)) else (if (nI (ki % 6)) = 4 then ((-(if 6 ≤ (nI ki) then 1 else (-1))) * (znow_6 ki)) else ((if 6 ≤ (nI ki) then 1 else (-1)) * (znow_6 ki)))) → va_P D vwCl [(ta, .inr (8, [.ref m_now, .ref m_undone, .ref m_slots, .ref m_slotKind, .ref m_hasSlot, .ref m_sheetBits, .ref m_sheetSize, .ref m_sheets, .int (nI ((f_X8_remember nw un u).1)), .int fi, .ref m_fresh, .long aa, .long bb, .long dd, .int (nI ro), .ref m_rootWhich, .int db, .ref m_signs, .ref m_atNought, .int (nI mn), .ref m_change, .ref m_table, .ref m_carried])), (m_now, .inl (cy 0, 29, .inl znow_6)), (m_undone, .inl (cy 0, 725, .inl ((f_X8_remember nw un u).2)))] H → va_D A [(ta, .inr (8, [.ref m_now, .ref m_undone, .ref m_slots, .ref m_slotKind, .ref m_hasSlot, .ref m_sheetBits, .ref m_sheetSize, .ref m_sheets, .int (nI ((f_X8_remember nw un u).1)), .int fi, .ref m_fresh, .long aa, .long bb, .long dd, .int (nI ro), .ref m_rootWhich, .int db, .ref m_signs, .ref m_atNought, .int (nI mn), .ref m_change, .ref m_table, .ref m_carried])), (m_now, .inl (cy 0, 29, .inl znow_6)), (m_undone, .inl (cy 0, 725, .inl ((f_X8_remember nw un u).2)))] → va_S A s.heap H locs → lv_has ls 4 [(0, .ref ta), (1, .int (nI ki)), (2, .int (nI (ki % 6))), (3, .int (if 6 ≤ (nI ki) then 1 else (-1)))] → W p l e R s m args below meth c H locs 0 0 Q (F0 m 64 ls [.int v15, .int (nI ki), .ref m_now]) := by
            clear hP hD hS hl
            intro v15 H locs ls ev15 hP hD hS hl
            subst ev15
            refine yk_ist hx hb hK hP hD hS 1 0 rfl rfl ki (by omega) (by decide) dX8_mirror_64 (fun H locs hP9 hD9 hS9 => ?_)
            replace hP : va_P D vwCl [(ta, .inr (8, [.ref m_now, .ref m_undone, .ref m_slots, .ref m_slotKind, .ref m_hasSlot, .ref m_sheetBits, .ref m_sheetSize, .ref m_sheets, .int (nI ((f_X8_remember nw un u).1)), .int fi, .ref m_fresh, .long aa, .long bb, .long dd, .int (nI ro), .ref m_rootWhich, .int db, .ref m_signs, .ref m_atNought, .int (nI mn), .ref m_change, .ref m_table, .ref m_carried])), (m_now, .inl (cy 0, 29, .inl (upd znow_6 ki (if (nI (ki % 6)) = 1 then ((-(if 6 ≤ (nI ki) then 1 else (-1))) * (znow_6 ki)) else (if (nI (ki % 6)) = 4 then ((-(if 6 ≤ (nI ki) then 1 else (-1))) * (znow_6 ki)) else ((if 6 ≤ (nI ki) then 1 else (-1)) * (znow_6 ki))))))), (m_undone, .inl (cy 0, 725, .inl ((f_X8_remember nw un u).2)))] H := hP9
            replace hD : va_D A [(ta, .inr (8, [.ref m_now, .ref m_undone, .ref m_slots, .ref m_slotKind, .ref m_hasSlot, .ref m_sheetBits, .ref m_sheetSize, .ref m_sheets, .int (nI ((f_X8_remember nw un u).1)), .int fi, .ref m_fresh, .long aa, .long bb, .long dd, .int (nI ro), .ref m_rootWhich, .int db, .ref m_signs, .ref m_atNought, .int (nI mn), .ref m_change, .ref m_table, .ref m_carried])), (m_now, .inl (cy 0, 29, .inl (upd znow_6 ki (if (nI (ki % 6)) = 1 then ((-(if 6 ≤ (nI ki) then 1 else (-1))) * (znow_6 ki)) else (if (nI (ki % 6)) = 4 then ((-(if 6 ≤ (nI ki) then 1 else (-1))) * (znow_6 ki)) else ((if 6 ≤ (nI ki) then 1 else (-1)) * (znow_6 ki))))))), (m_undone, .inl (cy 0, 725, .inl ((f_X8_remember nw un u).2)))] := hD9
            replace hS := hS9
            clear hP9 hD9 hS9
            refine lv_iinc (v := nI (ki + 1)) (lv' := [(1, .int (nI (ki + 1))), (0, .ref ta), (2, .int (nI (ki % 6))), (3, .int (if 6 ≤ (nI ki) then 1 else (-1)))]) hx hb dX8_mirror_65 hl (k := 1) rfl (yk_inc ki) (by decide) rfl (fun ls hl9 => ?_)
            replace hl := hl9
            clear hl9
            refine lv_goto (tgt := 6) hx hb dX8_mirror_68 (by decide) ?_
            obtain ⟨n9, rfl⟩ : ∃ n9, n6 = n9 + 1 := ⟨n6 - 1, by omega⟩
            exact ih6 n9 (ki + 1) (upd znow_6 ki (if (nI (ki % 6)) = 1 then ((-(if 6 ≤ (nI ki) then 1 else (-1))) * (znow_6 ki)) else (if (nI (ki % 6)) = 4 then ((-(if 6 ≤ (nI ki) then 1 else (-1))) * (znow_6 ki)) else ((if 6 ≤ (nI ki) then 1 else (-1)) * (znow_6 ki))))) _ _ _ (by omega) (by omega)  hV6 hP hD hS (lv_sub hl [1, 0] rfl)
          refine lv_icmp_eq (tgt := 44) hx hb dX8_mirror_36 (by decide) (fun hc13 => ?_) (fun hc13 => ?_)
          · refine lv_iload_n hx hb dX8_mirror_44 rfl (lv_at hl 0 rfl) ?_
            refine lv_ineg hx hb dX8_mirror_45 ?_
            refine lv_aload_n hx hb dX8_mirror_46 rfl (lv_at hl 1 rfl) ?_
            refine va_get (D := D) (ci := 8) (v := .ref m_now) (C := RX8) (T := TX8) (N := 23) hx hb hts uX8_mirror_X8 hown hK hP 0 rfl rfl 0 (by decide) (hts _ kX8_mirror_0) (fun _ h9 => h9) rfl dX8_mirror_47 ?_
            refine lv_iload_n hx hb dX8_mirror_50 rfl (lv_at hl 2 rfl) ?_
            refine yk_ild hx hb hK hP 1 0 rfl rfl ki (by omega) (by decide) dX8_mirror_51 ?_
            refine lv_imul hx hb dX8_mirror_52 ?_
            refine lv_goto (tgt := 64) hx hb dX8_mirror_53 (by decide) ?_
            exact J16 _ _ _ _ ((if_pos hc13).symm) hP hD hS (lv_sub hl [1, 2, 3, 0] rfl)
          · refine lv_iload_n hx hb dX8_mirror_39 rfl (lv_at hl 3 rfl) ?_
            refine lv_iconst (v := 4) hx hb dX8_mirror_40 (by decide) ?_
            refine lv_icmp_ne (tgt := 56) hx hb dX8_mirror_41 (by decide) (fun hc14 => ?_) (fun hc14 => ?_)
            · refine lv_iload_n hx hb dX8_mirror_56 rfl (lv_at hl 0 rfl) ?_
              refine lv_aload_n hx hb dX8_mirror_57 rfl (lv_at hl 1 rfl) ?_
              refine va_get (D := D) (ci := 8) (v := .ref m_now) (C := RX8) (T := TX8) (N := 23) hx hb hts uX8_mirror_X8 hown hK hP 0 rfl rfl 0 (by decide) (hts _ kX8_mirror_0) (fun _ h9 => h9) rfl dX8_mirror_58 ?_
              refine lv_iload_n hx hb dX8_mirror_61 rfl (lv_at hl 2 rfl) ?_
              refine yk_ild hx hb hK hP 1 0 rfl rfl ki (by omega) (by decide) dX8_mirror_62 ?_
              refine lv_imul hx hb dX8_mirror_63 ?_
              exact J16 _ _ _ _ (((if_neg hc13).trans (if_neg hc14)).symm) hP hD hS (lv_sub hl [1, 2, 3, 0] rfl)
            · refine lv_iload_n hx hb dX8_mirror_44 rfl (lv_at hl 0 rfl) ?_
              refine lv_ineg hx hb dX8_mirror_45 ?_
              refine lv_aload_n hx hb dX8_mirror_46 rfl (lv_at hl 1 rfl) ?_
              refine va_get (D := D) (ci := 8) (v := .ref m_now) (C := RX8) (T := TX8) (N := 23) hx hb hts uX8_mirror_X8 hown hK hP 0 rfl rfl 0 (by decide) (hts _ kX8_mirror_0) (fun _ h9 => h9) rfl dX8_mirror_47 ?_
              refine lv_iload_n hx hb dX8_mirror_50 rfl (lv_at hl 2 rfl) ?_
              refine yk_ild hx hb hK hP 1 0 rfl rfl ki (by omega) (by decide) dX8_mirror_51 ?_
              refine lv_imul hx hb dX8_mirror_52 ?_
              refine lv_goto (tgt := 64) hx hb dX8_mirror_53 (by decide) ?_
              exact J16 _ _ _ _ (((if_neg hc13).trans (if_pos hc14)).symm) hP hD hS (lv_sub hl [1, 2, 3, 0] rfl)
        refine lv_icmp_ge (tgt := 27) hx hb dX8_mirror_20 (by decide) (fun hc10 => ?_) (fun hc10 => ?_)
        · refine lv_iconst (v := 1) hx hb dX8_mirror_27 (by decide) ?_
          exact J12 _ _ _ _ ((if_pos hc10).symm) hP hD hS (lv_sub hl [1, 2, 0] rfl)
        · refine lv_iconst (v := (-1)) hx hb dX8_mirror_23 (by decide) ?_
          refine lv_goto (tgt := 28) hx hb dX8_mirror_24 (by decide) ?_
          exact J12 _ _ _ _ ((if_neg hc10).symm) hP hD hS (lv_sub hl [1, 2, 0] rfl)
  exact L6 (12 + 1) 12 0 nw _ _ _ (Nat.lt_succ_self _) (by omega)  rfl hP hD hS (lv_sub hl [1, 0] rfl)

theorem kX8_isSmall_0 : Cond.fieldLink RX8 35 "FlowPlaneModel" "fresh" "[I" ∈ wsX8_isSmall := by decide +kernel
theorem uX8_isSmall_X8 : ∀ w ∈ u_ws RX8 TX8 23, w ∈ wsX8_isSmall := by decide +kernel
def l_X8_isSmall_2 (fr : Nat → Int32) : Nat → Nat → Int32
  | 0, ki => 0
  | fu_X8_isSmall_2 + 1, ki => (if 12 ≤ (nI ki) then 1 else (if (f_X8_in (fr ki) (-4) 4) = 0 then 0 else (l_X8_isSmall_2 fr fu_X8_isSmall_2 (ki + 1))))
def f_X8_isSmall (fr : Nat → Int32) : Int32 := (l_X8_isSmall_2 fr (12 + 1) 0)
theorem bl_X8_isSmall_2 (fr : Nat → Int32) : ∀ (fz : Nat) (q0 : Nat), (l_X8_isSmall_2 fr fz q0) = 0 ∨ (l_X8_isSmall_2 fr fz q0) = 1
  | 0, _ => Or.inl rfl
  | fz + 1, _ => by
    unfold l_X8_isSmall_2
    (repeat' split) <;> first | exact Or.inl (by with_reducible rfl) | exact Or.inr (by with_reducible rfl) | exact bl_X8_isSmall_2 _ fz _ | with_reducible exact b_X8_in _ _ _
theorem b_X8_isSmall (fr : Nat → Int32) : (f_X8_isSmall fr) = 0 ∨ (f_X8_isSmall fr) = 1 := by
  unfold f_X8_isSmall; (repeat' split) <;> first | exact Or.inl (by with_reducible rfl) | exact Or.inr (by with_reducible rfl) | with_reducible exact b_X8_in _ _ _ | with_reducible exact bl_X8_isSmall_2 _ _ _
set_option maxHeartbeats 400000000 in
set_option maxRecDepth 100000 in
theorem c_X8_isSmall (l : Launch) (D : va_G) (cy : Nat → ClassId) (ta : Nat) (m_fresh : Nat) (m_now : Nat) (m_undone : Nat) (m_slots : Nat) (m_slotKind : Nat) (m_hasSlot : Nat) (m_sheetBits : Nat) (m_sheetSize : Nat) (m_sheets : Nat) (m_rootWhich : Nat) (m_signs : Nat) (m_atNought : Nat) (m_change : Nat) (m_table : Nat) (m_carried : Nat) (u : Nat) (fi : Int32) (fr : Nat → Int32) (aa : Int64) (bb : Int64) (dd : Int64) (ro : Nat) (db : Int32) (mn : Nat) : yk_Ci l D vwCl (yk_ty cy) yX8_isSmall wsX8_isSmall 1 22 [.ref ta] [(ta, .inr (8, [.ref m_now, .ref m_undone, .ref m_slots, .ref m_slotKind, .ref m_hasSlot, .ref m_sheetBits, .ref m_sheetSize, .ref m_sheets, .int (nI u), .int fi, .ref m_fresh, .long aa, .long bb, .long dd, .int (nI ro), .ref m_rootWhich, .int db, .ref m_signs, .ref m_atNought, .int (nI mn), .ref m_change, .ref m_table, .ref m_carried])), (m_fresh, .inl (cy 0, 12, .inl fr))] (f_X8_isSmall fr) [(ta, .inr (8, [.ref m_now, .ref m_undone, .ref m_slots, .ref m_slotKind, .ref m_hasSlot, .ref m_sheetBits, .ref m_sheetSize, .ref m_sheets, .int (nI u), .int fi, .ref m_fresh, .long aa, .long bb, .long dd, .int (nI ro), .ref m_rootWhich, .int db, .ref m_signs, .ref m_atNought, .int (nI mn), .ref m_change, .ref m_table, .ref m_carried])), (m_fresh, .inl (cy 0, 12, .inl fr))] := by
  refine yk_eI (cc := cX8_isSmall) (maxL := 2) (by decide) rfl (Nat.le_of_ble_eq_true rfl) (yk_nb (b_X8_isSmall fr)) ?_
  intro p e R s m args below meth c A Q ls H locs hx hb hml hown hts hRf hRl hA hK hG hP hD hS hl hQ
  have hP : va_P D vwCl [(ta, .inr (8, [.ref m_now, .ref m_undone, .ref m_slots, .ref m_slotKind, .ref m_hasSlot, .ref m_sheetBits, .ref m_sheetSize, .ref m_sheets, .int (nI u), .int fi, .ref m_fresh, .long aa, .long bb, .long dd, .int (nI ro), .ref m_rootWhich, .int db, .ref m_signs, .ref m_atNought, .int (nI mn), .ref m_change, .ref m_table, .ref m_carried])), (m_fresh, .inl (cy 0, 12, .inl fr))] H := hP
  have hl : lv_has ls 2 [(0, .ref ta)] := hl
  have hown : s.vm.findClass RX8 = some m.cls := hown
  have hF : (f_X8_isSmall fr) = (f_X8_isSmall fr) := rfl
  refine lv_iconst (v := 0) hx hb dX8_isSmall_0 (by decide) ?_
  refine lv_istore_n (lv' := [(1, .int 0), (0, .ref ta)]) hx hb dX8_isSmall_1 rfl hl (by decide) rfl (fun ls hl9 => ?_)
  replace hl := hl9
  clear hl9
  have L2 : ∀ (M9 n2 ki : Nat) (H : Heap) (locs : List Loc) (ls : Array Slot), n2 < M9 → ki + n2 = 12 → f_X8_isSmall fr = (l_X8_isSmall_2 fr (n2 + 1) ki) → va_P D vwCl [(ta, .inr (8, [.ref m_now, .ref m_undone, .ref m_slots, .ref m_slotKind, .ref m_hasSlot, .ref m_sheetBits, .ref m_sheetSize, .ref m_sheets, .int (nI u), .int fi, .ref m_fresh, .long aa, .long bb, .long dd, .int (nI ro), .ref m_rootWhich, .int db, .ref m_signs, .ref m_atNought, .int (nI mn), .ref m_change, .ref m_table, .ref m_carried])), (m_fresh, .inl (cy 0, 12, .inl fr))] H → va_D A [(ta, .inr (8, [.ref m_now, .ref m_undone, .ref m_slots, .ref m_slotKind, .ref m_hasSlot, .ref m_sheetBits, .ref m_sheetSize, .ref m_sheets, .int (nI u), .int fi, .ref m_fresh, .long aa, .long bb, .long dd, .int (nI ro), .ref m_rootWhich, .int db, .ref m_signs, .ref m_atNought, .int (nI mn), .ref m_change, .ref m_table, .ref m_carried])), (m_fresh, .inl (cy 0, 12, .inl fr))] → va_S A s.heap H locs → lv_has ls 2 [(0, .ref ta), (1, .int (nI ki))] → W p l e R s m args below meth c H locs 0 0 Q (F0 m 2 ls []) := by
    clear hP hD hS hl hF
    intro M9
    induction M9 with
    | zero => intro n2 ki _ _ _ hn; exact absurd hn (Nat.not_lt_zero _)
    | succ M9 ih2 =>
      intro n2 ki H locs ls hn2 hk2 hF hP hD hS hl
      refine lv_iload_n hx hb dX8_isSmall_2 rfl (lv_at hl 1 rfl) ?_
      refine lv_bipush (v := 12) hx hb dX8_isSmall_3 (by decide) ?_
      refine lv_icmp_ge (tgt := 31) hx hb dX8_isSmall_5 (by decide) (fun hc1 => ?_) (fun hc1 => ?_)
      · replace hF := hF.trans (if_pos hc1)
        refine lv_iconst (v := 1) hx hb dX8_isSmall_31 (by decide) ?_
        have hF : f_X8_isSmall fr = 1 := hF
        rw [hF] at hQ
        exact hQ _ _ _ _ dX8_isSmall_32 hP hS
      · replace hF := hF.trans (if_neg hc1)
        have hlt2 : ki < 12 := yk_lt hk2 (by omega) hc1
        refine lv_aload_n hx hb dX8_isSmall_8 rfl (lv_at hl 0 rfl) ?_
        refine va_get (D := D) (ci := 8) (v := .ref m_fresh) (C := RX8) (T := TX8) (N := 23) hx hb hts uX8_isSmall_X8 hown hK hP 0 rfl rfl 10 (by decide) (hts _ kX8_isSmall_0) (fun _ h9 => h9) rfl dX8_isSmall_9 ?_
        refine lv_iload_n hx hb dX8_isSmall_12 rfl (lv_at hl 1 rfl) ?_
        refine yk_ild hx hb hK hP 1 0 rfl rfl ki (by omega) (by decide) dX8_isSmall_13 ?_
        refine lv_bipush (v := (-4)) hx hb dX8_isSmall_14 (by decide) ?_
        refine lv_iconst (v := 4) hx hb dX8_isSmall_16 (by decide) ?_
        refine yk_i [] (va_runS (As := [.int (fr ki), .int (-4), .int 4]) (rest := []) ⟨hx, hb, hml, hown, hts⟩ (c_X8_in l D cy (fr ki) (-4) 4 H.size) (va_cwS 3 hts gX8_isSmall_X8_in rfl rfl rfl hs_X8_in (yk_room hRf hRl rfl rfl)) (yk_ps hG hA hS hK hP hD [] (by decide +kernel) rfl) rfl rfl hl.1 rfl (lv_room (Nat.le_of_ble_eq_true rfl)) dX8_isSmall_17 ⟨Nat.zero_le _, Nat.zero_le _⟩) hP hD hS hA rfl rfl (fun H locs hP9 hD9 hS9 => ?_)
        replace hP : va_P D vwCl [(ta, .inr (8, [.ref m_now, .ref m_undone, .ref m_slots, .ref m_slotKind, .ref m_hasSlot, .ref m_sheetBits, .ref m_sheetSize, .ref m_sheets, .int (nI u), .int fi, .ref m_fresh, .long aa, .long bb, .long dd, .int (nI ro), .ref m_rootWhich, .int db, .ref m_signs, .ref m_atNought, .int (nI mn), .ref m_change, .ref m_table, .ref m_carried])), (m_fresh, .inl (cy 0, 12, .inl fr))] H := hP9
        replace hD : va_D A [(ta, .inr (8, [.ref m_now, .ref m_undone, .ref m_slots, .ref m_slotKind, .ref m_hasSlot, .ref m_sheetBits, .ref m_sheetSize, .ref m_sheets, .int (nI u), .int fi, .ref m_fresh, .long aa, .long bb, .long dd, .int (nI ro), .ref m_rootWhich, .int db, .ref m_signs, .ref m_atNought, .int (nI mn), .ref m_change, .ref m_table, .ref m_carried])), (m_fresh, .inl (cy 0, 12, .inl fr))] := hD9
        replace hS := hS9
        clear hP9 hD9 hS9
        refine lv_if_ne (tgt := 25) hx hb dX8_isSmall_20 (by decide) (fun hc2 => ?_) (fun hc2 => ?_)
        · replace hF := hF.trans (if_neg hc2)
          refine lv_iinc (v := nI (ki + 1)) (lv' := [(1, .int (nI (ki + 1))), (0, .ref ta)]) hx hb dX8_isSmall_25 hl (k := 1) rfl (yk_inc ki) (by decide) rfl (fun ls hl9 => ?_)
          replace hl := hl9
          clear hl9
          refine lv_goto (tgt := 2) hx hb dX8_isSmall_28 (by decide) ?_
          obtain ⟨n9, rfl⟩ : ∃ n9, n2 = n9 + 1 := ⟨n2 - 1, by omega⟩
          exact ih2 n9 (ki + 1) _ _ _ (by omega) (by omega)  hF hP hD hS (lv_sub hl [1, 0] rfl)
        · replace hF := hF.trans (if_pos hc2)
          refine lv_iconst (v := 0) hx hb dX8_isSmall_23 (by decide) ?_
          have hF : f_X8_isSmall fr = 0 := hF
          rw [hF] at hQ
          exact hQ _ _ _ _ dX8_isSmall_24 hP hS
  exact L2 (12 + 1) 12 0  _ _ _ (Nat.lt_succ_self _) (by omega)  hF hP hD hS (lv_sub hl [1, 0] rfl)

theorem kX8_move_0 : Cond.fieldLink RX8 35 "FlowPlaneModel" "fresh" "[I" ∈ wsX8_move := by decide +kernel
theorem kX8_move_1 : Cond.constant RX8 99 (-1000003) ∈ wsX8_move := by decide +kernel
theorem kX8_move_2 : Cond.constant RX8 68 (-1000001) ∈ wsX8_move := by decide +kernel
theorem uX8_move_X8 : ∀ w ∈ u_ws RX8 TX8 23, w ∈ wsX8_move := by decide +kernel
def l_X8_move_37 (nw : Nat → Int32) (un : Nat → Int32) (u : Nat) (fi : Int32) (fr : Nat → Int32) (px : Int32) (py : Int32) (ki : Nat) (zfresh_17 : Nat → Int32) : Nat → Nat → (Nat → Int32) → (Nat → Int32)
  | 0, kj, zfresh_37 => zfresh_37
  | fu_X8_move_37 + 1, kj, zfresh_37 => (if 6 ≤ (nI kj) then zfresh_37 else (l_X8_move_37 nw un u fi fr px py ki zfresh_17 fu_X8_move_37 (kj + 1) (upd zfresh_37 ((6 * ki) + kj) (f_X8_get nw (if (nI ki) = 1 then 1 else 0) kj))))
def l_X8_move_17 (nw : Nat → Int32) (un : Nat → Int32) (u : Nat) (fi : Int32) (fr : Nat → Int32) (px : Int32) (py : Int32) : Nat → Nat → (Nat → Int32) → (Nat → Int32)
  | 0, ki, zfresh_17 => zfresh_17
  | fu_X8_move_17 + 1, ki, zfresh_17 => (if 2 ≤ (nI ki) then zfresh_17 else (l_X8_move_17 nw un u fi fr px py fu_X8_move_17 (ki + 1) (upd (upd (upd (l_X8_move_37 nw un u fi fr px py ki zfresh_17 (6 - 3 + 1) 3 zfresh_17) (6 * ki) (f_X8_speedAt nw px py (if (nI ki) = 1 then 1 else 0))) ((6 * ki) + 1) (f_X8_slopeAt nw px py (if (nI ki) = 1 then 1 else 0) 0)) ((6 * ki) + 2) (f_X8_slopeAt nw px py (if (nI ki) = 1 then 1 else 0) 1))))
def f_X8_move (nw : Nat → Int32) (un : Nat → Int32) (u : Nat) (fi : Int32) (fr : Nat → Int32) (px : Int32) (py : Int32) : Int32 × Nat × Int32 × (Nat → Int32) × (Nat → Int32) × (Nat → Int32) := (if (f_X8_isPlace px py) = 0 then (((f_X8_found fi (-1000001)).1), u, ((f_X8_found fi (-1000001)).2), nw, un, fr) else (if (f_X8_isSmall (l_X8_move_17 nw un u fi fr px py (2 + 1) 0 fr)) = 0 then (((f_X8_found fi (-1000003)).1), u, ((f_X8_found fi (-1000003)).2), nw, un, (l_X8_move_17 nw un u fi fr px py (2 + 1) 0 fr)) else (1, ((f_X8_remember nw un u).1), fi, (f_X8_take nw (l_X8_move_17 nw un u fi fr px py (2 + 1) 0 fr)), ((f_X8_remember nw un u).2), (l_X8_move_17 nw un u fi fr px py (2 + 1) 0 fr))))
set_option maxHeartbeats 400000000 in
set_option maxRecDepth 100000 in
theorem c_X8_move (l : Launch) (D : va_G) (cy : Nat → ClassId) (ta : Nat) (m_now : Nat) (m_undone : Nat) (m_fresh : Nat) (m_slots : Nat) (m_slotKind : Nat) (m_hasSlot : Nat) (m_sheetBits : Nat) (m_sheetSize : Nat) (m_sheets : Nat) (m_rootWhich : Nat) (m_signs : Nat) (m_atNought : Nat) (m_change : Nat) (m_table : Nat) (m_carried : Nat) (nw : Nat → Int32) (un : Nat → Int32) (u : Nat) (fi : Int32) (fr : Nat → Int32) (aa : Int64) (bb : Int64) (dd : Int64) (ro : Nat) (db : Int32) (mn : Nat) (px : Int32) (py : Int32) (hu : u ≤ 25) : yk_Ci l D vwCl (yk_ty cy) yX8_move wsX8_move 2 46 [.ref ta, .int px, .int py] [(ta, .inr (8, [.ref m_now, .ref m_undone, .ref m_slots, .ref m_slotKind, .ref m_hasSlot, .ref m_sheetBits, .ref m_sheetSize, .ref m_sheets, .int (nI u), .int fi, .ref m_fresh, .long aa, .long bb, .long dd, .int (nI ro), .ref m_rootWhich, .int db, .ref m_signs, .ref m_atNought, .int (nI mn), .ref m_change, .ref m_table, .ref m_carried])), (m_now, .inl (cy 0, 29, .inl nw)), (m_undone, .inl (cy 0, 725, .inl un)), (m_fresh, .inl (cy 0, 12, .inl fr))] ((f_X8_move nw un u fi fr px py).1) [(ta, .inr (8, [.ref m_now, .ref m_undone, .ref m_slots, .ref m_slotKind, .ref m_hasSlot, .ref m_sheetBits, .ref m_sheetSize, .ref m_sheets, .int (nI ((f_X8_move nw un u fi fr px py).2.1)), .int ((f_X8_move nw un u fi fr px py).2.2.1), .ref m_fresh, .long aa, .long bb, .long dd, .int (nI ro), .ref m_rootWhich, .int db, .ref m_signs, .ref m_atNought, .int (nI mn), .ref m_change, .ref m_table, .ref m_carried])), (m_now, .inl (cy 0, 29, .inl ((f_X8_move nw un u fi fr px py).2.2.2.1))), (m_undone, .inl (cy 0, 725, .inl ((f_X8_move nw un u fi fr px py).2.2.2.2.1))), (m_fresh, .inl (cy 0, 12, .inl ((f_X8_move nw un u fi fr px py).2.2.2.2.2)))] := by
  refine yk_eI (cc := cX8_move) (maxL := 6) (by decide) rfl (Nat.le_of_ble_eq_true rfl) rfl ?_
  intro p e R s m args below meth c A Q ls H locs hx hb hml hown hts hRf hRl hA hK hG hP hD hS hl hQ
  have hP : va_P D vwCl [(ta, .inr (8, [.ref m_now, .ref m_undone, .ref m_slots, .ref m_slotKind, .ref m_hasSlot, .ref m_sheetBits, .ref m_sheetSize, .ref m_sheets, .int (nI u), .int fi, .ref m_fresh, .long aa, .long bb, .long dd, .int (nI ro), .ref m_rootWhich, .int db, .ref m_signs, .ref m_atNought, .int (nI mn), .ref m_change, .ref m_table, .ref m_carried])), (m_now, .inl (cy 0, 29, .inl nw)), (m_undone, .inl (cy 0, 725, .inl un)), (m_fresh, .inl (cy 0, 12, .inl fr))] H := hP
  have hl : lv_has ls 6 [(0, .ref ta), (1, .int px), (2, .int py)] := hl
  have hown : s.vm.findClass RX8 = some m.cls := hown
  have hF : (f_X8_move nw un u fi fr px py) = (f_X8_move nw un u fi fr px py) := rfl
  refine lv_iload_n hx hb dX8_move_0 rfl (lv_at hl 1 rfl) ?_
  refine lv_iload_n hx hb dX8_move_1 rfl (lv_at hl 2 rfl) ?_
  refine yk_i [] (va_runS (As := [.int px, .int py]) (rest := []) ⟨hx, hb, hml, hown, hts⟩ (c_X8_isPlace l D cy px py H.size) (va_cwS 2 hts gX8_move_X8_isPlace rfl rfl rfl hs_X8_isPlace (yk_room hRf hRl rfl rfl)) (yk_ps hG hA hS hK hP hD [] (by decide +kernel) rfl) rfl rfl hl.1 rfl (lv_room (Nat.le_of_ble_eq_true rfl)) dX8_move_2 ⟨Nat.zero_le _, Nat.zero_le _⟩) hP hD hS hA rfl rfl (fun H locs hP9 hD9 hS9 => ?_)
  replace hP : va_P D vwCl [(ta, .inr (8, [.ref m_now, .ref m_undone, .ref m_slots, .ref m_slotKind, .ref m_hasSlot, .ref m_sheetBits, .ref m_sheetSize, .ref m_sheets, .int (nI u), .int fi, .ref m_fresh, .long aa, .long bb, .long dd, .int (nI ro), .ref m_rootWhich, .int db, .ref m_signs, .ref m_atNought, .int (nI mn), .ref m_change, .ref m_table, .ref m_carried])), (m_now, .inl (cy 0, 29, .inl nw)), (m_undone, .inl (cy 0, 725, .inl un)), (m_fresh, .inl (cy 0, 12, .inl fr))] H := hP9
  replace hD : va_D A [(ta, .inr (8, [.ref m_now, .ref m_undone, .ref m_slots, .ref m_slotKind, .ref m_hasSlot, .ref m_sheetBits, .ref m_sheetSize, .ref m_sheets, .int (nI u), .int fi, .ref m_fresh, .long aa, .long bb, .long dd, .int (nI ro), .ref m_rootWhich, .int db, .ref m_signs, .ref m_atNought, .int (nI mn), .ref m_change, .ref m_table, .ref m_carried])), (m_now, .inl (cy 0, 29, .inl nw)), (m_undone, .inl (cy 0, 725, .inl un)), (m_fresh, .inl (cy 0, 12, .inl fr))] := hD9
  replace hS := hS9
  clear hP9 hD9 hS9
  refine lv_if_ne (tgt := 15) hx hb dX8_move_5 (by decide) (fun hc1 => ?_) (fun hc1 => ?_)
  · replace hF := hF.trans (if_neg hc1)
    refine lv_iconst (v := 0) hx hb dX8_move_15 (by decide) ?_
    refine lv_istore_n (lv' := [(3, .int 0), (0, .ref ta), (1, .int px), (2, .int py)]) hx hb dX8_move_16 rfl hl (by decide) rfl (fun ls hl9 => ?_)
    replace hl := hl9
    clear hl9
    have J16 : ∀ (H : Heap) (locs : List Loc) (ls : Array Slot), va_P D vwCl [(ta, .inr (8, [.ref m_now, .ref m_undone, .ref m_slots, .ref m_slotKind, .ref m_hasSlot, .ref m_sheetBits, .ref m_sheetSize, .ref m_sheets, .int (nI u), .int fi, .ref m_fresh, .long aa, .long bb, .long dd, .int (nI ro), .ref m_rootWhich, .int db, .ref m_signs, .ref m_atNought, .int (nI mn), .ref m_change, .ref m_table, .ref m_carried])), (m_now, .inl (cy 0, 29, .inl nw)), (m_undone, .inl (cy 0, 725, .inl un)), (m_fresh, .inl (cy 0, 12, .inl (l_X8_move_17 nw un u fi fr px py (2 + 1) 0 fr)))] H → va_D A [(ta, .inr (8, [.ref m_now, .ref m_undone, .ref m_slots, .ref m_slotKind, .ref m_hasSlot, .ref m_sheetBits, .ref m_sheetSize, .ref m_sheets, .int (nI u), .int fi, .ref m_fresh, .long aa, .long bb, .long dd, .int (nI ro), .ref m_rootWhich, .int db, .ref m_signs, .ref m_atNought, .int (nI mn), .ref m_change, .ref m_table, .ref m_carried])), (m_now, .inl (cy 0, 29, .inl nw)), (m_undone, .inl (cy 0, 725, .inl un)), (m_fresh, .inl (cy 0, 12, .inl (l_X8_move_17 nw un u fi fr px py (2 + 1) 0 fr)))] → va_S A s.heap H locs → lv_has ls 6 [(0, .ref ta), (1, .int px), (2, .int py)] → W p l e R s m args below meth c H locs 0 0 Q (F0 m 133 ls []) := by
      clear hP hD hS hl
      intro H locs ls hP hD hS hl
      refine lv_aload_n hx hb dX8_move_133 rfl (lv_at hl 0 rfl) ?_
      refine yk_i [0, 3] (va_runV (As := []) (rest := []) ⟨hx, hb, hml, hown, hts⟩ (c_X8_isSmall l D cy ta m_fresh m_now m_undone m_slots m_slotKind m_hasSlot m_sheetBits m_sheetSize m_sheets m_rootWhich m_signs m_atNought m_change m_table m_carried u fi (l_X8_move_17 nw un u fi fr px py (2 + 1) 0 fr) aa bb dd ro db mn H.size) (cwV 0 hts gX8_move_X8_isSmall rfl rfl rfl hv_X8_isSmall (yk_room hRf hRl rfl rfl)) (yk_pv (q := (RX8, TX8, 23)) hG hA hS hK hP hD [0, 3] (by decide +kernel) rfl rfl rfl) rfl rfl hl.1 rfl (lv_room (Nat.le_of_ble_eq_true rfl)) dX8_move_134 ⟨Nat.zero_le _, Nat.zero_le _⟩) hP hD hS hA rfl rfl (fun H locs hP9 hD9 hS9 => ?_)
      replace hP : va_P D vwCl [(ta, .inr (8, [.ref m_now, .ref m_undone, .ref m_slots, .ref m_slotKind, .ref m_hasSlot, .ref m_sheetBits, .ref m_sheetSize, .ref m_sheets, .int (nI u), .int fi, .ref m_fresh, .long aa, .long bb, .long dd, .int (nI ro), .ref m_rootWhich, .int db, .ref m_signs, .ref m_atNought, .int (nI mn), .ref m_change, .ref m_table, .ref m_carried])), (m_now, .inl (cy 0, 29, .inl nw)), (m_undone, .inl (cy 0, 725, .inl un)), (m_fresh, .inl (cy 0, 12, .inl (l_X8_move_17 nw un u fi fr px py (2 + 1) 0 fr)))] H := hP9
      replace hD : va_D A [(ta, .inr (8, [.ref m_now, .ref m_undone, .ref m_slots, .ref m_slotKind, .ref m_hasSlot, .ref m_sheetBits, .ref m_sheetSize, .ref m_sheets, .int (nI u), .int fi, .ref m_fresh, .long aa, .long bb, .long dd, .int (nI ro), .ref m_rootWhich, .int db, .ref m_signs, .ref m_atNought, .int (nI mn), .ref m_change, .ref m_table, .ref m_carried])), (m_now, .inl (cy 0, 29, .inl nw)), (m_undone, .inl (cy 0, 725, .inl un)), (m_fresh, .inl (cy 0, 12, .inl (l_X8_move_17 nw un u fi fr px py (2 + 1) 0 fr)))] := hD9
      replace hS := hS9
      clear hP9 hD9 hS9
      refine lv_if_ne (tgt := 147) hx hb dX8_move_137 (by decide) (fun hc17 => ?_) (fun hc17 => ?_)
      · replace hF := hF.trans (if_neg hc17)
        refine lv_aload_n hx hb dX8_move_147 rfl (lv_at hl 0 rfl) ?_
        refine yk_v [0, 1, 2] (va_runV (As := []) (rest := []) ⟨hx, hb, hml, hown, hts⟩ (c_X8_remember l D cy ta m_now m_undone m_slots m_slotKind m_hasSlot m_sheetBits m_sheetSize m_sheets m_fresh m_rootWhich m_signs m_atNought m_change m_table m_carried nw un u fi aa bb dd ro db mn (by first | assumption | omega) H.size) (cwV 0 hts gX8_move_X8_remember rfl rfl rfl hv_X8_remember (yk_room hRf hRl rfl rfl)) (yk_pv (q := (RX8, TX8, 23)) hG hA hS hK hP hD [0, 1, 2] (by decide +kernel) rfl rfl rfl) rfl rfl hl.1 rfl (lv_room (Nat.le_of_ble_eq_true rfl)) dX8_move_148 ⟨Nat.zero_le _, Nat.zero_le _⟩) hP hD hS hA rfl rfl (fun H locs hP9 hD9 hS9 => ?_)
        replace hP : va_P D vwCl [(ta, .inr (8, [.ref m_now, .ref m_undone, .ref m_slots, .ref m_slotKind, .ref m_hasSlot, .ref m_sheetBits, .ref m_sheetSize, .ref m_sheets, .int (nI ((f_X8_remember nw un u).1)), .int fi, .ref m_fresh, .long aa, .long bb, .long dd, .int (nI ro), .ref m_rootWhich, .int db, .ref m_signs, .ref m_atNought, .int (nI mn), .ref m_change, .ref m_table, .ref m_carried])), (m_now, .inl (cy 0, 29, .inl nw)), (m_undone, .inl (cy 0, 725, .inl ((f_X8_remember nw un u).2))), (m_fresh, .inl (cy 0, 12, .inl (l_X8_move_17 nw un u fi fr px py (2 + 1) 0 fr)))] H := hP9
        replace hD : va_D A [(ta, .inr (8, [.ref m_now, .ref m_undone, .ref m_slots, .ref m_slotKind, .ref m_hasSlot, .ref m_sheetBits, .ref m_sheetSize, .ref m_sheets, .int (nI ((f_X8_remember nw un u).1)), .int fi, .ref m_fresh, .long aa, .long bb, .long dd, .int (nI ro), .ref m_rootWhich, .int db, .ref m_signs, .ref m_atNought, .int (nI mn), .ref m_change, .ref m_table, .ref m_carried])), (m_now, .inl (cy 0, 29, .inl nw)), (m_undone, .inl (cy 0, 725, .inl ((f_X8_remember nw un u).2))), (m_fresh, .inl (cy 0, 12, .inl (l_X8_move_17 nw un u fi fr px py (2 + 1) 0 fr)))] := hD9
        replace hS := hS9
        clear hP9 hD9 hS9
        refine lv_aload_n hx hb dX8_move_151 rfl (lv_at hl 0 rfl) ?_
        refine yk_v [0, 1, 3] (va_runV (As := []) (rest := []) ⟨hx, hb, hml, hown, hts⟩ (c_X8_take l D cy ta m_now m_fresh m_undone m_slots m_slotKind m_hasSlot m_sheetBits m_sheetSize m_sheets m_rootWhich m_signs m_atNought m_change m_table m_carried nw ((f_X8_remember nw un u).1) fi (l_X8_move_17 nw un u fi fr px py (2 + 1) 0 fr) aa bb dd ro db mn H.size) (cwV 0 hts gX8_move_X8_take rfl rfl rfl hv_X8_take (yk_room hRf hRl rfl rfl)) (yk_pv (q := (RX8, TX8, 23)) hG hA hS hK hP hD [0, 1, 3] (by decide +kernel) rfl rfl rfl) rfl rfl hl.1 rfl (lv_room (Nat.le_of_ble_eq_true rfl)) dX8_move_152 ⟨Nat.zero_le _, Nat.zero_le _⟩) hP hD hS hA rfl rfl (fun H locs hP9 hD9 hS9 => ?_)
        replace hP : va_P D vwCl [(ta, .inr (8, [.ref m_now, .ref m_undone, .ref m_slots, .ref m_slotKind, .ref m_hasSlot, .ref m_sheetBits, .ref m_sheetSize, .ref m_sheets, .int (nI ((f_X8_remember nw un u).1)), .int fi, .ref m_fresh, .long aa, .long bb, .long dd, .int (nI ro), .ref m_rootWhich, .int db, .ref m_signs, .ref m_atNought, .int (nI mn), .ref m_change, .ref m_table, .ref m_carried])), (m_now, .inl (cy 0, 29, .inl (f_X8_take nw (l_X8_move_17 nw un u fi fr px py (2 + 1) 0 fr)))), (m_undone, .inl (cy 0, 725, .inl ((f_X8_remember nw un u).2))), (m_fresh, .inl (cy 0, 12, .inl (l_X8_move_17 nw un u fi fr px py (2 + 1) 0 fr)))] H := hP9
        replace hD : va_D A [(ta, .inr (8, [.ref m_now, .ref m_undone, .ref m_slots, .ref m_slotKind, .ref m_hasSlot, .ref m_sheetBits, .ref m_sheetSize, .ref m_sheets, .int (nI ((f_X8_remember nw un u).1)), .int fi, .ref m_fresh, .long aa, .long bb, .long dd, .int (nI ro), .ref m_rootWhich, .int db, .ref m_signs, .ref m_atNought, .int (nI mn), .ref m_change, .ref m_table, .ref m_carried])), (m_now, .inl (cy 0, 29, .inl (f_X8_take nw (l_X8_move_17 nw un u fi fr px py (2 + 1) 0 fr)))), (m_undone, .inl (cy 0, 725, .inl ((f_X8_remember nw un u).2))), (m_fresh, .inl (cy 0, 12, .inl (l_X8_move_17 nw un u fi fr px py (2 + 1) 0 fr)))] := hD9
        replace hS := hS9
        clear hP9 hD9 hS9
        refine lv_iconst (v := 1) hx hb dX8_move_155 (by decide) ?_
        have hF : f_X8_move nw un u fi fr px py = (1, ((f_X8_remember nw un u).1), fi, (f_X8_take nw (l_X8_move_17 nw un u fi fr px py (2 + 1) 0 fr)), ((f_X8_remember nw un u).2), (l_X8_move_17 nw un u fi fr px py (2 + 1) 0 fr)) := hF
        have hf0 := yk_fst hF
        have hg0 := yk_snd hF
        have hf1 := yk_fst hg0
        have hg1 := yk_snd hg0
        have hf2 := yk_fst hg1
        have hg2 := yk_snd hg1
        have hf3 := yk_fst hg2
        have hg3 := yk_snd hg2
        have hf4 := yk_fst hg3
        have hg4 := yk_snd hg3
        rw [hf0, hf1, hf2, hf3, hf4, hg4] at hQ
        exact hQ _ _ _ _ dX8_move_156 hP hS
      · replace hF := hF.trans (if_pos hc17)
        refine lv_aload_n hx hb dX8_move_140 rfl (lv_at hl 0 rfl) ?_
        refine lv_ldc (v := (-1000003)) hx hb hown (hts _ kX8_move_1) dX8_move_141 ?_
        refine yk_i [0] (va_runV (As := [.int (-1000003)]) (rest := []) ⟨hx, hb, hml, hown, hts⟩ (c_X8_found l D cy ta m_now m_undone m_slots m_slotKind m_hasSlot m_sheetBits m_sheetSize m_sheets m_fresh m_rootWhich m_signs m_atNought m_change m_table m_carried u fi aa bb dd ro db mn (-1000003) H.size) (cwV 1 hts gX8_move_X8_found rfl rfl rfl hv_X8_found (yk_room hRf hRl rfl rfl)) (yk_pv (q := (RX8, TX8, 23)) hG hA hS hK hP hD [0] (by decide +kernel) rfl rfl rfl) rfl rfl hl.1 rfl (lv_room (Nat.le_of_ble_eq_true rfl)) dX8_move_143 ⟨Nat.zero_le _, Nat.zero_le _⟩) hP hD hS hA rfl rfl (fun H locs hP9 hD9 hS9 => ?_)
        replace hP : va_P D vwCl [(ta, .inr (8, [.ref m_now, .ref m_undone, .ref m_slots, .ref m_slotKind, .ref m_hasSlot, .ref m_sheetBits, .ref m_sheetSize, .ref m_sheets, .int (nI u), .int ((f_X8_found fi (-1000003)).2), .ref m_fresh, .long aa, .long bb, .long dd, .int (nI ro), .ref m_rootWhich, .int db, .ref m_signs, .ref m_atNought, .int (nI mn), .ref m_change, .ref m_table, .ref m_carried])), (m_now, .inl (cy 0, 29, .inl nw)), (m_undone, .inl (cy 0, 725, .inl un)), (m_fresh, .inl (cy 0, 12, .inl (l_X8_move_17 nw un u fi fr px py (2 + 1) 0 fr)))] H := hP9
        replace hD : va_D A [(ta, .inr (8, [.ref m_now, .ref m_undone, .ref m_slots, .ref m_slotKind, .ref m_hasSlot, .ref m_sheetBits, .ref m_sheetSize, .ref m_sheets, .int (nI u), .int ((f_X8_found fi (-1000003)).2), .ref m_fresh, .long aa, .long bb, .long dd, .int (nI ro), .ref m_rootWhich, .int db, .ref m_signs, .ref m_atNought, .int (nI mn), .ref m_change, .ref m_table, .ref m_carried])), (m_now, .inl (cy 0, 29, .inl nw)), (m_undone, .inl (cy 0, 725, .inl un)), (m_fresh, .inl (cy 0, 12, .inl (l_X8_move_17 nw un u fi fr px py (2 + 1) 0 fr)))] := hD9
        replace hS := hS9
        clear hP9 hD9 hS9
        have hF : f_X8_move nw un u fi fr px py = (((f_X8_found fi (-1000003)).1), u, ((f_X8_found fi (-1000003)).2), nw, un, (l_X8_move_17 nw un u fi fr px py (2 + 1) 0 fr)) := hF
        have hf0 := yk_fst hF
        have hg0 := yk_snd hF
        have hf1 := yk_fst hg0
        have hg1 := yk_snd hg0
        have hf2 := yk_fst hg1
        have hg2 := yk_snd hg1
        have hf3 := yk_fst hg2
        have hg3 := yk_snd hg2
        have hf4 := yk_fst hg3
        have hg4 := yk_snd hg3
        rw [hf0, hf1, hf2, hf3, hf4, hg4] at hQ
        exact hQ _ _ _ _ dX8_move_146 hP hS
    have L17 : ∀ (M9 n17 ki : Nat) (zfresh_17 : Nat → Int32) (H : Heap) (locs : List Loc) (ls : Array Slot), n17 < M9 → ki + n17 = 2 → (l_X8_move_17 nw un u fi fr px py (2 + 1) 0 fr) = (l_X8_move_17 nw un u fi fr px py (n17 + 1) ki zfresh_17) → va_P D vwCl [(ta, .inr (8, [.ref m_now, .ref m_undone, .ref m_slots, .ref m_slotKind, .ref m_hasSlot, .ref m_sheetBits, .ref m_sheetSize, .ref m_sheets, .int (nI u), .int fi, .ref m_fresh, .long aa, .long bb, .long dd, .int (nI ro), .ref m_rootWhich, .int db, .ref m_signs, .ref m_atNought, .int (nI mn), .ref m_change, .ref m_table, .ref m_carried])), (m_now, .inl (cy 0, 29, .inl nw)), (m_undone, .inl (cy 0, 725, .inl un)), (m_fresh, .inl (cy 0, 12, .inl zfresh_17))] H → va_D A [(ta, .inr (8, [.ref m_now, .ref m_undone, .ref m_slots, .ref m_slotKind, .ref m_hasSlot, .ref m_sheetBits, .ref m_sheetSize, .ref m_sheets, .int (nI u), .int fi, .ref m_fresh, .long aa, .long bb, .long dd, .int (nI ro), .ref m_rootWhich, .int db, .ref m_signs, .ref m_atNought, .int (nI mn), .ref m_change, .ref m_table, .ref m_carried])), (m_now, .inl (cy 0, 29, .inl nw)), (m_undone, .inl (cy 0, 725, .inl un)), (m_fresh, .inl (cy 0, 12, .inl zfresh_17))] → va_S A s.heap H locs → lv_has ls 6 [(0, .ref ta), (1, .int px), (2, .int py), (3, .int (nI ki))] → W p l e R s m args below meth c H locs 0 0 Q (F0 m 17 ls []) := by
      clear hP hD hS hl
      intro M9
      induction M9 with
      | zero => intro n17 ki _ _ _ _ hn; exact absurd hn (Nat.not_lt_zero _)
      | succ M9 ih17 =>
        intro n17 ki zfresh_17 H locs ls hn17 hk17 hV17 hP hD hS hl
        refine lv_iload_n hx hb dX8_move_17 rfl (lv_at hl 3 rfl) ?_
        refine lv_iconst (v := 2) hx hb dX8_move_18 (by decide) ?_
        refine lv_icmp_ge (tgt := 133) hx hb dX8_move_19 (by decide) (fun hc9 => ?_) (fun hc9 => ?_)
        · replace hV17 := hV17.trans (if_pos hc9)
          have hV17 : (l_X8_move_17 nw un u fi fr px py (2 + 1) 0 fr) = zfresh_17 := hV17
          have J16 := J16
          rw [hV17] at J16
          exact J16 _ _ _ hP hD hS (lv_sub hl [0, 1, 2] rfl)
        · replace hV17 := hV17.trans (if_neg hc9)
          have hlt17 : ki < 2 := yk_lt hk17 (by omega) hc9
          refine lv_iload_n hx hb dX8_move_22 rfl (lv_at hl 3 rfl) ?_
          refine lv_iconst (v := 1) hx hb dX8_move_23 (by decide) ?_
          have J12 : ∀ (v11 : Int32) (H : Heap) (locs : List Loc) (ls : Array Slot), v11 = (if (nI ki) = 1 then 1 else 0) → va_P D vwCl [(ta, .inr (8, [.ref m_now, .ref m_undone, .ref m_slots, .ref m_slotKind, .ref m_hasSlot, .ref m_sheetBits, .ref m_sheetSize, .ref m_sheets, .int (nI u), .int fi, .ref m_fresh, .long aa, .long bb, .long dd, .int (nI ro), .ref m_rootWhich, .int db, .ref m_signs, .ref m_atNought, .int (nI mn), .ref m_change, .ref m_table, .ref m_carried])), (m_now, .inl (cy 0, 29, .inl nw)), (m_undone, .inl (cy 0, 725, .inl un)), (m_fresh, .inl (cy 0, 12, .inl zfresh_17))] H → va_D A [(ta, .inr (8, [.ref m_now, .ref m_undone, .ref m_slots, .ref m_slotKind, .ref m_hasSlot, .ref m_sheetBits, .ref m_sheetSize, .ref m_sheets, .int (nI u), .int fi, .ref m_fresh, .long aa, .long bb, .long dd, .int (nI ro), .ref m_rootWhich, .int db, .ref m_signs, .ref m_atNought, .int (nI mn), .ref m_change, .ref m_table, .ref m_carried])), (m_now, .inl (cy 0, 29, .inl nw)), (m_undone, .inl (cy 0, 725, .inl un)), (m_fresh, .inl (cy 0, 12, .inl zfresh_17))] → va_S A s.heap H locs → lv_has ls 6 [(0, .ref ta), (1, .int px), (2, .int py), (3, .int (nI ki))] → W p l e R s m args below meth c H locs 0 0 Q (F0 m 32 ls [.int v11]) := by
            clear hP hD hS hl
            intro v11 H locs ls ev11 hP hD hS hl
            subst ev11
            refine lv_istore (lv' := [(4, .int (if (nI ki) = 1 then 1 else 0)), (0, .ref ta), (1, .int px), (2, .int py), (3, .int (nI ki))]) hx hb dX8_move_32 hl (by decide) rfl (fun ls hl9 => ?_)
            replace hl := hl9
            clear hl9
            refine lv_iconst (v := 3) hx hb dX8_move_34 (by decide) ?_
            refine lv_istore (lv' := [(5, .int 3), (4, .int (if (nI ki) = 1 then 1 else 0)), (0, .ref ta), (1, .int px), (2, .int py), (3, .int (nI ki))]) hx hb dX8_move_35 hl (by decide) rfl (fun ls hl9 => ?_)
            replace hl := hl9
            clear hl9
            have J15 : ∀ (H : Heap) (locs : List Loc) (ls : Array Slot), va_P D vwCl [(ta, .inr (8, [.ref m_now, .ref m_undone, .ref m_slots, .ref m_slotKind, .ref m_hasSlot, .ref m_sheetBits, .ref m_sheetSize, .ref m_sheets, .int (nI u), .int fi, .ref m_fresh, .long aa, .long bb, .long dd, .int (nI ro), .ref m_rootWhich, .int db, .ref m_signs, .ref m_atNought, .int (nI mn), .ref m_change, .ref m_table, .ref m_carried])), (m_now, .inl (cy 0, 29, .inl nw)), (m_undone, .inl (cy 0, 725, .inl un)), (m_fresh, .inl (cy 0, 12, .inl (l_X8_move_37 nw un u fi fr px py ki zfresh_17 (6 - 3 + 1) 3 zfresh_17)))] H → va_D A [(ta, .inr (8, [.ref m_now, .ref m_undone, .ref m_slots, .ref m_slotKind, .ref m_hasSlot, .ref m_sheetBits, .ref m_sheetSize, .ref m_sheets, .int (nI u), .int fi, .ref m_fresh, .long aa, .long bb, .long dd, .int (nI ro), .ref m_rootWhich, .int db, .ref m_signs, .ref m_atNought, .int (nI mn), .ref m_change, .ref m_table, .ref m_carried])), (m_now, .inl (cy 0, 29, .inl nw)), (m_undone, .inl (cy 0, 725, .inl un)), (m_fresh, .inl (cy 0, 12, .inl (l_X8_move_37 nw un u fi fr px py ki zfresh_17 (6 - 3 + 1) 3 zfresh_17)))] → va_S A s.heap H locs → lv_has ls 6 [(0, .ref ta), (1, .int px), (2, .int py), (3, .int (nI ki)), (4, .int (if (nI ki) = 1 then 1 else 0))] → W p l e R s m args below meth c H locs 0 0 Q (F0 m 70 ls []) := by
              clear hP hD hS hl
              intro H locs ls hP hD hS hl
              refine lv_aload_n hx hb dX8_move_70 rfl (lv_at hl 0 rfl) ?_
              refine va_get (D := D) (ci := 8) (v := .ref m_fresh) (C := RX8) (T := TX8) (N := 23) hx hb hts uX8_move_X8 hown hK hP 0 rfl rfl 10 (by decide) (hts _ kX8_move_0) (fun _ h9 => h9) rfl dX8_move_71 ?_
              refine lv_bipush (v := 6) hx hb dX8_move_74 (by decide) ?_
              refine lv_iload_n hx hb dX8_move_76 rfl (lv_at hl 3 rfl) ?_
              refine lv_imul hx hb dX8_move_77 ?_
              refine yk_ti (y := nI (6 * ki)) (pk_mul 6 ki) ?_
              refine lv_aload_n hx hb dX8_move_78 rfl (lv_at hl 0 rfl) ?_
              refine lv_iload_n hx hb dX8_move_79 rfl (lv_at hl 1 rfl) ?_
              refine lv_iload_n hx hb dX8_move_80 rfl (lv_at hl 2 rfl) ?_
              refine lv_iload hx hb dX8_move_81 (lv_at hl 4 rfl) ?_
              refine yk_i [0, 1] (va_runV (As := [.int px, .int py, .int (if (nI ki) = 1 then 1 else 0)]) (rest := [.int (nI (6 * ki)), .ref m_fresh]) ⟨hx, hb, hml, hown, hts⟩ (c_X8_speedAt l D cy ta m_now m_undone m_slots m_slotKind m_hasSlot m_sheetBits m_sheetSize m_sheets m_fresh m_rootWhich m_signs m_atNought m_change m_table m_carried nw u fi aa bb dd ro db mn px py (if (nI ki) = 1 then 1 else 0) H.size) (cwV 3 hts gX8_move_X8_speedAt rfl rfl rfl hv_X8_speedAt (yk_room hRf hRl rfl rfl)) (yk_pv (q := (RX8, TX8, 23)) hG hA hS hK hP hD [0, 1] (by decide +kernel) rfl rfl rfl) rfl rfl hl.1 rfl (lv_room (Nat.le_of_ble_eq_true rfl)) dX8_move_83 ⟨Nat.zero_le _, Nat.zero_le _⟩) hP hD hS hA rfl rfl (fun H locs hP9 hD9 hS9 => ?_)
              replace hP : va_P D vwCl [(ta, .inr (8, [.ref m_now, .ref m_undone, .ref m_slots, .ref m_slotKind, .ref m_hasSlot, .ref m_sheetBits, .ref m_sheetSize, .ref m_sheets, .int (nI u), .int fi, .ref m_fresh, .long aa, .long bb, .long dd, .int (nI ro), .ref m_rootWhich, .int db, .ref m_signs, .ref m_atNought, .int (nI mn), .ref m_change, .ref m_table, .ref m_carried])), (m_now, .inl (cy 0, 29, .inl nw)), (m_undone, .inl (cy 0, 725, .inl un)), (m_fresh, .inl (cy 0, 12, .inl (l_X8_move_37 nw un u fi fr px py ki zfresh_17 (6 - 3 + 1) 3 zfresh_17)))] H := hP9
              replace hD : va_D A [(ta, .inr (8, [.ref m_now, .ref m_undone, .ref m_slots, .ref m_slotKind, .ref m_hasSlot, .ref m_sheetBits, .ref m_sheetSize, .ref m_sheets, .int (nI u), .int fi, .ref m_fresh, .long aa, .long bb, .long dd, .int (nI ro), .ref m_rootWhich, .int db, .ref m_signs, .ref m_atNought, .int (nI mn), .ref m_change, .ref m_table, .ref m_carried])), (m_now, .inl (cy 0, 29, .inl nw)), (m_undone, .inl (cy 0, 725, .inl un)), (m_fresh, .inl (cy 0, 12, .inl (l_X8_move_37 nw un u fi fr px py ki zfresh_17 (6 - 3 + 1) 3 zfresh_17)))] := hD9
              replace hS := hS9
              clear hP9 hD9 hS9
              refine yk_ist hx hb hK hP hD hS 3 0 rfl rfl (6 * ki) (by omega) (by decide) dX8_move_86 (fun H locs hP9 hD9 hS9 => ?_)
              replace hP : va_P D vwCl [(ta, .inr (8, [.ref m_now, .ref m_undone, .ref m_slots, .ref m_slotKind, .ref m_hasSlot, .ref m_sheetBits, .ref m_sheetSize, .ref m_sheets, .int (nI u), .int fi, .ref m_fresh, .long aa, .long bb, .long dd, .int (nI ro), .ref m_rootWhich, .int db, .ref m_signs, .ref m_atNought, .int (nI mn), .ref m_change, .ref m_table, .ref m_carried])), (m_now, .inl (cy 0, 29, .inl nw)), (m_undone, .inl (cy 0, 725, .inl un)), (m_fresh, .inl (cy 0, 12, .inl (upd (l_X8_move_37 nw un u fi fr px py ki zfresh_17 (6 - 3 + 1) 3 zfresh_17) (6 * ki) (f_X8_speedAt nw px py (if (nI ki) = 1 then 1 else 0)))))] H := hP9
              replace hD : va_D A [(ta, .inr (8, [.ref m_now, .ref m_undone, .ref m_slots, .ref m_slotKind, .ref m_hasSlot, .ref m_sheetBits, .ref m_sheetSize, .ref m_sheets, .int (nI u), .int fi, .ref m_fresh, .long aa, .long bb, .long dd, .int (nI ro), .ref m_rootWhich, .int db, .ref m_signs, .ref m_atNought, .int (nI mn), .ref m_change, .ref m_table, .ref m_carried])), (m_now, .inl (cy 0, 29, .inl nw)), (m_undone, .inl (cy 0, 725, .inl un)), (m_fresh, .inl (cy 0, 12, .inl (upd (l_X8_move_37 nw un u fi fr px py ki zfresh_17 (6 - 3 + 1) 3 zfresh_17) (6 * ki) (f_X8_speedAt nw px py (if (nI ki) = 1 then 1 else 0)))))] := hD9
              replace hS := hS9
              clear hP9 hD9 hS9
              refine lv_aload_n hx hb dX8_move_87 rfl (lv_at hl 0 rfl) ?_
              refine va_get (D := D) (ci := 8) (v := .ref m_fresh) (C := RX8) (T := TX8) (N := 23) hx hb hts uX8_move_X8 hown hK hP 0 rfl rfl 10 (by decide) (hts _ kX8_move_0) (fun _ h9 => h9) rfl dX8_move_88 ?_
              refine lv_bipush (v := 6) hx hb dX8_move_91 (by decide) ?_
              refine lv_iload_n hx hb dX8_move_93 rfl (lv_at hl 3 rfl) ?_
              refine lv_imul hx hb dX8_move_94 ?_
              refine yk_ti (y := nI (6 * ki)) (pk_mul 6 ki) ?_
              refine lv_iconst (v := 1) hx hb dX8_move_95 (by decide) ?_
              refine lv_iadd hx hb dX8_move_96 ?_
              refine yk_ti (y := nI ((6 * ki) + 1)) (nI_add (6 * ki) 1) ?_
              refine lv_aload_n hx hb dX8_move_97 rfl (lv_at hl 0 rfl) ?_
              refine lv_iload_n hx hb dX8_move_98 rfl (lv_at hl 1 rfl) ?_
              refine lv_iload_n hx hb dX8_move_99 rfl (lv_at hl 2 rfl) ?_
              refine lv_iload hx hb dX8_move_100 (lv_at hl 4 rfl) ?_
              refine lv_iconst (v := 0) hx hb dX8_move_102 (by decide) ?_
              refine yk_i [0, 1] (va_runV (As := [.int px, .int py, .int (if (nI ki) = 1 then 1 else 0), .int 0]) (rest := [.int (nI ((6 * ki) + 1)), .ref m_fresh]) ⟨hx, hb, hml, hown, hts⟩ (c_X8_slopeAt l D cy ta m_now m_undone m_slots m_slotKind m_hasSlot m_sheetBits m_sheetSize m_sheets m_fresh m_rootWhich m_signs m_atNought m_change m_table m_carried nw u fi aa bb dd ro db mn px py (if (nI ki) = 1 then 1 else 0) 0 H.size) (cwV 4 hts gX8_move_X8_slopeAt rfl rfl rfl hv_X8_slopeAt (yk_room hRf hRl rfl rfl)) (yk_pv (q := (RX8, TX8, 23)) hG hA hS hK hP hD [0, 1] (by decide +kernel) rfl rfl rfl) rfl rfl hl.1 rfl (lv_room (Nat.le_of_ble_eq_true rfl)) dX8_move_103 ⟨Nat.zero_le _, Nat.zero_le _⟩) hP hD hS hA rfl rfl (fun H locs hP9 hD9 hS9 => ?_)
              replace hP : va_P D vwCl [(ta, .inr (8, [.ref m_now, .ref m_undone, .ref m_slots, .ref m_slotKind, .ref m_hasSlot, .ref m_sheetBits, .ref m_sheetSize, .ref m_sheets, .int (nI u), .int fi, .ref m_fresh, .long aa, .long bb, .long dd, .int (nI ro), .ref m_rootWhich, .int db, .ref m_signs, .ref m_atNought, .int (nI mn), .ref m_change, .ref m_table, .ref m_carried])), (m_now, .inl (cy 0, 29, .inl nw)), (m_undone, .inl (cy 0, 725, .inl un)), (m_fresh, .inl (cy 0, 12, .inl (upd (l_X8_move_37 nw un u fi fr px py ki zfresh_17 (6 - 3 + 1) 3 zfresh_17) (6 * ki) (f_X8_speedAt nw px py (if (nI ki) = 1 then 1 else 0)))))] H := hP9
              replace hD : va_D A [(ta, .inr (8, [.ref m_now, .ref m_undone, .ref m_slots, .ref m_slotKind, .ref m_hasSlot, .ref m_sheetBits, .ref m_sheetSize, .ref m_sheets, .int (nI u), .int fi, .ref m_fresh, .long aa, .long bb, .long dd, .int (nI ro), .ref m_rootWhich, .int db, .ref m_signs, .ref m_atNought, .int (nI mn), .ref m_change, .ref m_table, .ref m_carried])), (m_now, .inl (cy 0, 29, .inl nw)), (m_undone, .inl (cy 0, 725, .inl un)), (m_fresh, .inl (cy 0, 12, .inl (upd (l_X8_move_37 nw un u fi fr px py ki zfresh_17 (6 - 3 + 1) 3 zfresh_17) (6 * ki) (f_X8_speedAt nw px py (if (nI ki) = 1 then 1 else 0)))))] := hD9
              replace hS := hS9
              clear hP9 hD9 hS9
              refine yk_ist hx hb hK hP hD hS 3 0 rfl rfl ((6 * ki) + 1) (by omega) (by decide) dX8_move_106 (fun H locs hP9 hD9 hS9 => ?_)
              replace hP : va_P D vwCl [(ta, .inr (8, [.ref m_now, .ref m_undone, .ref m_slots, .ref m_slotKind, .ref m_hasSlot, .ref m_sheetBits, .ref m_sheetSize, .ref m_sheets, .int (nI u), .int fi, .ref m_fresh, .long aa, .long bb, .long dd, .int (nI ro), .ref m_rootWhich, .int db, .ref m_signs, .ref m_atNought, .int (nI mn), .ref m_change, .ref m_table, .ref m_carried])), (m_now, .inl (cy 0, 29, .inl nw)), (m_undone, .inl (cy 0, 725, .inl un)), (m_fresh, .inl (cy 0, 12, .inl (upd (upd (l_X8_move_37 nw un u fi fr px py ki zfresh_17 (6 - 3 + 1) 3 zfresh_17) (6 * ki) (f_X8_speedAt nw px py (if (nI ki) = 1 then 1 else 0))) ((6 * ki) + 1) (f_X8_slopeAt nw px py (if (nI ki) = 1 then 1 else 0) 0))))] H := hP9
              replace hD : va_D A [(ta, .inr (8, [.ref m_now, .ref m_undone, .ref m_slots, .ref m_slotKind, .ref m_hasSlot, .ref m_sheetBits, .ref m_sheetSize, .ref m_sheets, .int (nI u), .int fi, .ref m_fresh, .long aa, .long bb, .long dd, .int (nI ro), .ref m_rootWhich, .int db, .ref m_signs, .ref m_atNought, .int (nI mn), .ref m_change, .ref m_table, .ref m_carried])), (m_now, .inl (cy 0, 29, .inl nw)), (m_undone, .inl (cy 0, 725, .inl un)), (m_fresh, .inl (cy 0, 12, .inl (upd (upd (l_X8_move_37 nw un u fi fr px py ki zfresh_17 (6 - 3 + 1) 3 zfresh_17) (6 * ki) (f_X8_speedAt nw px py (if (nI ki) = 1 then 1 else 0))) ((6 * ki) + 1) (f_X8_slopeAt nw px py (if (nI ki) = 1 then 1 else 0) 0))))] := hD9
              replace hS := hS9
              clear hP9 hD9 hS9
              refine lv_aload_n hx hb dX8_move_107 rfl (lv_at hl 0 rfl) ?_
              refine va_get (D := D) (ci := 8) (v := .ref m_fresh) (C := RX8) (T := TX8) (N := 23) hx hb hts uX8_move_X8 hown hK hP 0 rfl rfl 10 (by decide) (hts _ kX8_move_0) (fun _ h9 => h9) rfl dX8_move_108 ?_
              refine lv_bipush (v := 6) hx hb dX8_move_111 (by decide) ?_
              refine lv_iload_n hx hb dX8_move_113 rfl (lv_at hl 3 rfl) ?_
              refine lv_imul hx hb dX8_move_114 ?_
              refine yk_ti (y := nI (6 * ki)) (pk_mul 6 ki) ?_
              refine lv_iconst (v := 2) hx hb dX8_move_115 (by decide) ?_
              refine lv_iadd hx hb dX8_move_116 ?_
              refine yk_ti (y := nI ((6 * ki) + 2)) (nI_add (6 * ki) 2) ?_
              refine lv_aload_n hx hb dX8_move_117 rfl (lv_at hl 0 rfl) ?_
              refine lv_iload_n hx hb dX8_move_118 rfl (lv_at hl 1 rfl) ?_
              refine lv_iload_n hx hb dX8_move_119 rfl (lv_at hl 2 rfl) ?_
              refine lv_iload hx hb dX8_move_120 (lv_at hl 4 rfl) ?_
              refine lv_iconst (v := 1) hx hb dX8_move_122 (by decide) ?_
              refine yk_i [0, 1] (va_runV (As := [.int px, .int py, .int (if (nI ki) = 1 then 1 else 0), .int 1]) (rest := [.int (nI ((6 * ki) + 2)), .ref m_fresh]) ⟨hx, hb, hml, hown, hts⟩ (c_X8_slopeAt l D cy ta m_now m_undone m_slots m_slotKind m_hasSlot m_sheetBits m_sheetSize m_sheets m_fresh m_rootWhich m_signs m_atNought m_change m_table m_carried nw u fi aa bb dd ro db mn px py (if (nI ki) = 1 then 1 else 0) 1 H.size) (cwV 4 hts gX8_move_X8_slopeAt rfl rfl rfl hv_X8_slopeAt (yk_room hRf hRl rfl rfl)) (yk_pv (q := (RX8, TX8, 23)) hG hA hS hK hP hD [0, 1] (by decide +kernel) rfl rfl rfl) rfl rfl hl.1 rfl (lv_room (Nat.le_of_ble_eq_true rfl)) dX8_move_123 ⟨Nat.zero_le _, Nat.zero_le _⟩) hP hD hS hA rfl rfl (fun H locs hP9 hD9 hS9 => ?_)
              replace hP : va_P D vwCl [(ta, .inr (8, [.ref m_now, .ref m_undone, .ref m_slots, .ref m_slotKind, .ref m_hasSlot, .ref m_sheetBits, .ref m_sheetSize, .ref m_sheets, .int (nI u), .int fi, .ref m_fresh, .long aa, .long bb, .long dd, .int (nI ro), .ref m_rootWhich, .int db, .ref m_signs, .ref m_atNought, .int (nI mn), .ref m_change, .ref m_table, .ref m_carried])), (m_now, .inl (cy 0, 29, .inl nw)), (m_undone, .inl (cy 0, 725, .inl un)), (m_fresh, .inl (cy 0, 12, .inl (upd (upd (l_X8_move_37 nw un u fi fr px py ki zfresh_17 (6 - 3 + 1) 3 zfresh_17) (6 * ki) (f_X8_speedAt nw px py (if (nI ki) = 1 then 1 else 0))) ((6 * ki) + 1) (f_X8_slopeAt nw px py (if (nI ki) = 1 then 1 else 0) 0))))] H := hP9
              replace hD : va_D A [(ta, .inr (8, [.ref m_now, .ref m_undone, .ref m_slots, .ref m_slotKind, .ref m_hasSlot, .ref m_sheetBits, .ref m_sheetSize, .ref m_sheets, .int (nI u), .int fi, .ref m_fresh, .long aa, .long bb, .long dd, .int (nI ro), .ref m_rootWhich, .int db, .ref m_signs, .ref m_atNought, .int (nI mn), .ref m_change, .ref m_table, .ref m_carried])), (m_now, .inl (cy 0, 29, .inl nw)), (m_undone, .inl (cy 0, 725, .inl un)), (m_fresh, .inl (cy 0, 12, .inl (upd (upd (l_X8_move_37 nw un u fi fr px py ki zfresh_17 (6 - 3 + 1) 3 zfresh_17) (6 * ki) (f_X8_speedAt nw px py (if (nI ki) = 1 then 1 else 0))) ((6 * ki) + 1) (f_X8_slopeAt nw px py (if (nI ki) = 1 then 1 else 0) 0))))] := hD9
              replace hS := hS9
              clear hP9 hD9 hS9
              refine yk_ist hx hb hK hP hD hS 3 0 rfl rfl ((6 * ki) + 2) (by omega) (by decide) dX8_move_126 (fun H locs hP9 hD9 hS9 => ?_)
              replace hP : va_P D vwCl [(ta, .inr (8, [.ref m_now, .ref m_undone, .ref m_slots, .ref m_slotKind, .ref m_hasSlot, .ref m_sheetBits, .ref m_sheetSize, .ref m_sheets, .int (nI u), .int fi, .ref m_fresh, .long aa, .long bb, .long dd, .int (nI ro), .ref m_rootWhich, .int db, .ref m_signs, .ref m_atNought, .int (nI mn), .ref m_change, .ref m_table, .ref m_carried])), (m_now, .inl (cy 0, 29, .inl nw)), (m_undone, .inl (cy 0, 725, .inl un)), (m_fresh, .inl (cy 0, 12, .inl (upd (upd (upd (l_X8_move_37 nw un u fi fr px py ki zfresh_17 (6 - 3 + 1) 3 zfresh_17) (6 * ki) (f_X8_speedAt nw px py (if (nI ki) = 1 then 1 else 0))) ((6 * ki) + 1) (f_X8_slopeAt nw px py (if (nI ki) = 1 then 1 else 0) 0)) ((6 * ki) + 2) (f_X8_slopeAt nw px py (if (nI ki) = 1 then 1 else 0) 1))))] H := hP9
              replace hD : va_D A [(ta, .inr (8, [.ref m_now, .ref m_undone, .ref m_slots, .ref m_slotKind, .ref m_hasSlot, .ref m_sheetBits, .ref m_sheetSize, .ref m_sheets, .int (nI u), .int fi, .ref m_fresh, .long aa, .long bb, .long dd, .int (nI ro), .ref m_rootWhich, .int db, .ref m_signs, .ref m_atNought, .int (nI mn), .ref m_change, .ref m_table, .ref m_carried])), (m_now, .inl (cy 0, 29, .inl nw)), (m_undone, .inl (cy 0, 725, .inl un)), (m_fresh, .inl (cy 0, 12, .inl (upd (upd (upd (l_X8_move_37 nw un u fi fr px py ki zfresh_17 (6 - 3 + 1) 3 zfresh_17) (6 * ki) (f_X8_speedAt nw px py (if (nI ki) = 1 then 1 else 0))) ((6 * ki) + 1) (f_X8_slopeAt nw px py (if (nI ki) = 1 then 1 else 0) 0)) ((6 * ki) + 2) (f_X8_slopeAt nw px py (if (nI ki) = 1 then 1 else 0) 1))))] := hD9
              replace hS := hS9
              clear hP9 hD9 hS9
              refine lv_iinc (v := nI (ki + 1)) (lv' := [(3, .int (nI (ki + 1))), (0, .ref ta), (1, .int px), (2, .int py), (4, .int (if (nI ki) = 1 then 1 else 0))]) hx hb dX8_move_127 hl (k := 3) rfl (yk_inc ki) (by decide) rfl (fun ls hl9 => ?_)
              replace hl := hl9
              clear hl9
              refine lv_goto (tgt := 17) hx hb dX8_move_130 (by decide) ?_
              obtain ⟨n9, rfl⟩ : ∃ n9, n17 = n9 + 1 := ⟨n17 - 1, by omega⟩
              exact ih17 n9 (ki + 1) (upd (upd (upd (l_X8_move_37 nw un u fi fr px py ki zfresh_17 (6 - 3 + 1) 3 zfresh_17) (6 * ki) (f_X8_speedAt nw px py (if (nI ki) = 1 then 1 else 0))) ((6 * ki) + 1) (f_X8_slopeAt nw px py (if (nI ki) = 1 then 1 else 0) 0)) ((6 * ki) + 2) (f_X8_slopeAt nw px py (if (nI ki) = 1 then 1 else 0) 1)) _ _ _ (by omega) (by omega)  hV17 hP hD hS (lv_sub hl [1, 2, 3, 0] rfl)
            have L37 : ∀ (M9 n37 kj : Nat) (zfresh_37 : Nat → Int32) (H : Heap) (locs : List Loc) (ls : Array Slot), n37 < M9 → kj + n37 = 6 → (l_X8_move_37 nw un u fi fr px py ki zfresh_17 (6 - 3 + 1) 3 zfresh_17) = (l_X8_move_37 nw un u fi fr px py ki zfresh_17 (n37 + 1) kj zfresh_37) → va_P D vwCl [(ta, .inr (8, [.ref m_now, .ref m_undone, .ref m_slots, .ref m_slotKind, .ref m_hasSlot, .ref m_sheetBits, .ref m_sheetSize, .ref m_sheets, .int (nI u), .int fi, .ref m_fresh, .long aa, .long bb, .long dd, .int (nI ro), .ref m_rootWhich, .int db, .ref m_signs, .ref m_atNought, .int (nI mn), .ref m_change, .ref m_table, .ref m_carried])), (m_now, .inl (cy 0, 29, .inl nw)), (m_undone, .inl (cy 0, 725, .inl un)), (m_fresh, .inl (cy 0, 12, .inl zfresh_37))] H → va_D A [(ta, .inr (8, [.ref m_now, .ref m_undone, .ref m_slots, .ref m_slotKind, .ref m_hasSlot, .ref m_sheetBits, .ref m_sheetSize, .ref m_sheets, .int (nI u), .int fi, .ref m_fresh, .long aa, .long bb, .long dd, .int (nI ro), .ref m_rootWhich, .int db, .ref m_signs, .ref m_atNought, .int (nI mn), .ref m_change, .ref m_table, .ref m_carried])), (m_now, .inl (cy 0, 29, .inl nw)), (m_undone, .inl (cy 0, 725, .inl un)), (m_fresh, .inl (cy 0, 12, .inl zfresh_37))] → va_S A s.heap H locs → lv_has ls 6 [(0, .ref ta), (1, .int px), (2, .int py), (3, .int (nI ki)), (4, .int (if (nI ki) = 1 then 1 else 0)), (5, .int (nI kj))] → W p l e R s m args below meth c H locs 0 0 Q (F0 m 37 ls []) := by
              clear hP hD hS hl
              intro M9
              induction M9 with
              | zero => intro n37 kj _ _ _ _ hn; exact absurd hn (Nat.not_lt_zero _)
              | succ M9 ih37 =>
                intro n37 kj zfresh_37 H locs ls hn37 hk37 hV37 hP hD hS hl
                refine lv_iload hx hb dX8_move_37 (lv_at hl 5 rfl) ?_
                refine lv_bipush (v := 6) hx hb dX8_move_39 (by decide) ?_
                refine lv_icmp_ge (tgt := 70) hx hb dX8_move_41 (by decide) (fun hc14 => ?_) (fun hc14 => ?_)
                · replace hV37 := hV37.trans (if_pos hc14)
                  have hV37 : (l_X8_move_37 nw un u fi fr px py ki zfresh_17 (6 - 3 + 1) 3 zfresh_17) = zfresh_37 := hV37
                  have J15 := J15
                  rw [hV37] at J15
                  exact J15 _ _ _ hP hD hS (lv_sub hl [0, 1, 2, 3, 4] rfl)
                · replace hV37 := hV37.trans (if_neg hc14)
                  have hlt37 : kj < 6 := yk_lt hk37 (by omega) hc14
                  refine lv_aload_n hx hb dX8_move_44 rfl (lv_at hl 0 rfl) ?_
                  refine va_get (D := D) (ci := 8) (v := .ref m_fresh) (C := RX8) (T := TX8) (N := 23) hx hb hts uX8_move_X8 hown hK hP 0 rfl rfl 10 (by decide) (hts _ kX8_move_0) (fun _ h9 => h9) rfl dX8_move_45 ?_
                  refine lv_bipush (v := 6) hx hb dX8_move_48 (by decide) ?_
                  refine lv_iload_n hx hb dX8_move_50 rfl (lv_at hl 3 rfl) ?_
                  refine lv_imul hx hb dX8_move_51 ?_
                  refine yk_ti (y := nI (6 * ki)) (pk_mul 6 ki) ?_
                  refine lv_iload hx hb dX8_move_52 (lv_at hl 5 rfl) ?_
                  refine lv_iadd hx hb dX8_move_54 ?_
                  refine yk_ti (y := nI ((6 * ki) + kj)) (nI_add (6 * ki) kj) ?_
                  refine lv_aload_n hx hb dX8_move_55 rfl (lv_at hl 0 rfl) ?_
                  refine lv_iload hx hb dX8_move_56 (lv_at hl 4 rfl) ?_
                  refine lv_iload hx hb dX8_move_58 (lv_at hl 5 rfl) ?_
                  refine yk_i [0, 1] (va_runV (As := [.int (if (nI ki) = 1 then 1 else 0), .int (nI kj)]) (rest := [.int (nI ((6 * ki) + kj)), .ref m_fresh]) ⟨hx, hb, hml, hown, hts⟩ (c_X8_get l D cy ta m_now m_undone m_slots m_slotKind m_hasSlot m_sheetBits m_sheetSize m_sheets m_fresh m_rootWhich m_signs m_atNought m_change m_table m_carried nw u fi aa bb dd ro db mn (if (nI ki) = 1 then 1 else 0) kj (by first | assumption | omega) H.size) (cwV 2 hts gX8_move_X8_get rfl rfl rfl hv_X8_get (yk_room hRf hRl rfl rfl)) (yk_pv (q := (RX8, TX8, 23)) hG hA hS hK hP hD [0, 1] (by decide +kernel) rfl rfl rfl) rfl rfl hl.1 rfl (lv_room (Nat.le_of_ble_eq_true rfl)) dX8_move_60 ⟨Nat.zero_le _, Nat.zero_le _⟩) hP hD hS hA rfl rfl (fun H locs hP9 hD9 hS9 => ?_)
                  replace hP : va_P D vwCl [(ta, .inr (8, [.ref m_now, .ref m_undone, .ref m_slots, .ref m_slotKind, .ref m_hasSlot, .ref m_sheetBits, .ref m_sheetSize, .ref m_sheets, .int (nI u), .int fi, .ref m_fresh, .long aa, .long bb, .long dd, .int (nI ro), .ref m_rootWhich, .int db, .ref m_signs, .ref m_atNought, .int (nI mn), .ref m_change, .ref m_table, .ref m_carried])), (m_now, .inl (cy 0, 29, .inl nw)), (m_undone, .inl (cy 0, 725, .inl un)), (m_fresh, .inl (cy 0, 12, .inl zfresh_37))] H := hP9
                  replace hD : va_D A [(ta, .inr (8, [.ref m_now, .ref m_undone, .ref m_slots, .ref m_slotKind, .ref m_hasSlot, .ref m_sheetBits, .ref m_sheetSize, .ref m_sheets, .int (nI u), .int fi, .ref m_fresh, .long aa, .long bb, .long dd, .int (nI ro), .ref m_rootWhich, .int db, .ref m_signs, .ref m_atNought, .int (nI mn), .ref m_change, .ref m_table, .ref m_carried])), (m_now, .inl (cy 0, 29, .inl nw)), (m_undone, .inl (cy 0, 725, .inl un)), (m_fresh, .inl (cy 0, 12, .inl zfresh_37))] := hD9
                  replace hS := hS9
                  clear hP9 hD9 hS9
                  refine yk_ist hx hb hK hP hD hS 3 0 rfl rfl ((6 * ki) + kj) (by omega) (by decide) dX8_move_63 (fun H locs hP9 hD9 hS9 => ?_)
                  replace hP : va_P D vwCl [(ta, .inr (8, [.ref m_now, .ref m_undone, .ref m_slots, .ref m_slotKind, .ref m_hasSlot, .ref m_sheetBits, .ref m_sheetSize, .ref m_sheets, .int (nI u), .int fi, .ref m_fresh, .long aa, .long bb, .long dd, .int (nI ro), .ref m_rootWhich, .int db, .ref m_signs, .ref m_atNought, .int (nI mn), .ref m_change, .ref m_table, .ref m_carried])), (m_now, .inl (cy 0, 29, .inl nw)), (m_undone, .inl (cy 0, 725, .inl un)), (m_fresh, .inl (cy 0, 12, .inl (upd zfresh_37 ((6 * ki) + kj) (f_X8_get nw (if (nI ki) = 1 then 1 else 0) kj))))] H := hP9
                  replace hD : va_D A [(ta, .inr (8, [.ref m_now, .ref m_undone, .ref m_slots, .ref m_slotKind, .ref m_hasSlot, .ref m_sheetBits, .ref m_sheetSize, .ref m_sheets, .int (nI u), .int fi, .ref m_fresh, .long aa, .long bb, .long dd, .int (nI ro), .ref m_rootWhich, .int db, .ref m_signs, .ref m_atNought, .int (nI mn), .ref m_change, .ref m_table, .ref m_carried])), (m_now, .inl (cy 0, 29, .inl nw)), (m_undone, .inl (cy 0, 725, .inl un)), (m_fresh, .inl (cy 0, 12, .inl (upd zfresh_37 ((6 * ki) + kj) (f_X8_get nw (if (nI ki) = 1 then 1 else 0) kj))))] := hD9
                  replace hS := hS9
                  clear hP9 hD9 hS9
                  refine lv_iinc (v := nI (kj + 1)) (lv' := [(5, .int (nI (kj + 1))), (0, .ref ta), (1, .int px), (2, .int py), (3, .int (nI ki)), (4, .int (if (nI ki) = 1 then 1 else 0))]) hx hb dX8_move_64 hl (k := 5) rfl (yk_inc kj) (by decide) rfl (fun ls hl9 => ?_)
                  replace hl := hl9
                  clear hl9
                  refine lv_goto (tgt := 37) hx hb dX8_move_67 (by decide) ?_
                  obtain ⟨n9, rfl⟩ : ∃ n9, n37 = n9 + 1 := ⟨n37 - 1, by omega⟩
                  exact ih37 n9 (kj + 1) (upd zfresh_37 ((6 * ki) + kj) (f_X8_get nw (if (nI ki) = 1 then 1 else 0) kj)) _ _ _ (by omega) (by omega)  hV37 hP hD hS (lv_sub hl [1, 2, 3, 4, 5, 0] rfl)
            exact L37 ((6 - 3) + 1) (6 - 3) 3 zfresh_17 _ _ _ (Nat.lt_succ_self _) (by omega)  rfl hP hD hS (lv_sub hl [2, 3, 4, 5, 1, 0] rfl)
          refine lv_icmp_ne (tgt := 31) hx hb dX8_move_24 (by decide) (fun hc10 => ?_) (fun hc10 => ?_)
          · refine lv_iconst (v := 0) hx hb dX8_move_31 (by decide) ?_
            exact J12 _ _ _ _ ((if_neg hc10).symm) hP hD hS (lv_sub hl [0, 1, 2, 3] rfl)
          · refine lv_iconst (v := 1) hx hb dX8_move_27 (by decide) ?_
            refine lv_goto (tgt := 32) hx hb dX8_move_28 (by decide) ?_
            exact J12 _ _ _ _ ((if_pos hc10).symm) hP hD hS (lv_sub hl [0, 1, 2, 3] rfl)
    exact L17 (2 + 1) 2 0 fr _ _ _ (Nat.lt_succ_self _) (by omega)  rfl hP hD hS (lv_sub hl [1, 2, 3, 0] rfl)
  · replace hF := hF.trans (if_pos hc1)
    refine lv_aload_n hx hb dX8_move_8 rfl (lv_at hl 0 rfl) ?_
    refine lv_ldc (v := (-1000001)) hx hb hown (hts _ kX8_move_2) dX8_move_9 ?_
    refine yk_i [0] (va_runV (As := [.int (-1000001)]) (rest := []) ⟨hx, hb, hml, hown, hts⟩ (c_X8_found l D cy ta m_now m_undone m_slots m_slotKind m_hasSlot m_sheetBits m_sheetSize m_sheets m_fresh m_rootWhich m_signs m_atNought m_change m_table m_carried u fi aa bb dd ro db mn (-1000001) H.size) (cwV 1 hts gX8_move_X8_found rfl rfl rfl hv_X8_found (yk_room hRf hRl rfl rfl)) (yk_pv (q := (RX8, TX8, 23)) hG hA hS hK hP hD [0] (by decide +kernel) rfl rfl rfl) rfl rfl hl.1 rfl (lv_room (Nat.le_of_ble_eq_true rfl)) dX8_move_11 ⟨Nat.zero_le _, Nat.zero_le _⟩) hP hD hS hA rfl rfl (fun H locs hP9 hD9 hS9 => ?_)
    replace hP : va_P D vwCl [(ta, .inr (8, [.ref m_now, .ref m_undone, .ref m_slots, .ref m_slotKind, .ref m_hasSlot, .ref m_sheetBits, .ref m_sheetSize, .ref m_sheets, .int (nI u), .int ((f_X8_found fi (-1000001)).2), .ref m_fresh, .long aa, .long bb, .long dd, .int (nI ro), .ref m_rootWhich, .int db, .ref m_signs, .ref m_atNought, .int (nI mn), .ref m_change, .ref m_table, .ref m_carried])), (m_now, .inl (cy 0, 29, .inl nw)), (m_undone, .inl (cy 0, 725, .inl un)), (m_fresh, .inl (cy 0, 12, .inl fr))] H := hP9
    replace hD : va_D A [(ta, .inr (8, [.ref m_now, .ref m_undone, .ref m_slots, .ref m_slotKind, .ref m_hasSlot, .ref m_sheetBits, .ref m_sheetSize, .ref m_sheets, .int (nI u), .int ((f_X8_found fi (-1000001)).2), .ref m_fresh, .long aa, .long bb, .long dd, .int (nI ro), .ref m_rootWhich, .int db, .ref m_signs, .ref m_atNought, .int (nI mn), .ref m_change, .ref m_table, .ref m_carried])), (m_now, .inl (cy 0, 29, .inl nw)), (m_undone, .inl (cy 0, 725, .inl un)), (m_fresh, .inl (cy 0, 12, .inl fr))] := hD9
    replace hS := hS9
    clear hP9 hD9 hS9
    have hF : f_X8_move nw un u fi fr px py = (((f_X8_found fi (-1000001)).1), u, ((f_X8_found fi (-1000001)).2), nw, un, fr) := hF
    have hf0 := yk_fst hF
    have hg0 := yk_snd hF
    have hf1 := yk_fst hg0
    have hg1 := yk_snd hg0
    have hf2 := yk_fst hg1
    have hg2 := yk_snd hg1
    have hf3 := yk_fst hg2
    have hg3 := yk_snd hg2
    have hf4 := yk_fst hg3
    have hg4 := yk_snd hg3
    rw [hf0, hf1, hf2, hf3, hf4, hg4] at hQ
    exact hQ _ _ _ _ dX8_move_14 hP hS

theorem kX8_add_0 : Cond.constant RX8 68 (-1000001) ∈ wsX8_add := by decide +kernel
theorem kX8_add_1 : Cond.fieldLink RX8 22 "FlowPlaneModel" "hasSlot" "[Z" ∈ wsX8_add := by decide +kernel
theorem kX8_add_2 : Cond.fieldLink RX8 35 "FlowPlaneModel" "fresh" "[I" ∈ wsX8_add := by decide +kernel
theorem kX8_add_3 : Cond.fieldLink RX8 7 "FlowPlaneModel" "now" "[I" ∈ wsX8_add := by decide +kernel
theorem kX8_add_4 : Cond.fieldLink RX8 16 "FlowPlaneModel" "slots" "[I" ∈ wsX8_add := by decide +kernel
theorem kX8_add_5 : Cond.constant RX8 99 (-1000003) ∈ wsX8_add := by decide +kernel
theorem kX8_add_6 : Cond.constant RX8 100 (-1000006) ∈ wsX8_add := by decide +kernel
theorem uX8_add_X8 : ∀ w ∈ u_ws RX8 TX8 23, w ∈ wsX8_add := by decide +kernel
def l_X8_add_44 (nw : Nat → Int32) (un : Nat → Int32) (sl : Nat → Int32) (hs : Nat → Int32) (u : Nat) (fi : Int32) (fr : Nat → Int32) (px : Int32) (py : Int32) : Nat → Nat → (Nat → Int32) → (Nat → Int32)
  | 0, ki, zfresh_44 => zfresh_44
  | fu_X8_add_44 + 1, ki, zfresh_44 => (if 12 ≤ (nI ki) then zfresh_44 else (l_X8_add_44 nw un sl hs u fi fr px py fu_X8_add_44 (ki + 1) (upd zfresh_44 ki ((nw ki) + (py * (sl ((12 * px.toNatClampNeg) + ki)))))))
def f_X8_add (nw : Nat → Int32) (un : Nat → Int32) (sl : Nat → Int32) (hs : Nat → Int32) (u : Nat) (fi : Int32) (fr : Nat → Int32) (px : Int32) (py : Int32) : Int32 × Nat × Int32 × (Nat → Int32) × (Nat → Int32) × (Nat → Int32) := (if (f_X8_in px 0 3) = 0 then (((f_X8_found fi (-1000001)).1), u, ((f_X8_found fi (-1000001)).2), nw, un, fr) else (if (f_X8_in py (-4) 4) = 0 then (((f_X8_found fi (-1000001)).1), u, ((f_X8_found fi (-1000001)).2), nw, un, fr) else (if (hs px.toNatClampNeg) = 0 then (((f_X8_found fi (-1000006)).1), u, ((f_X8_found fi (-1000006)).2), nw, un, fr) else (if (f_X8_isSmall (l_X8_add_44 nw un sl hs u fi fr px py (12 + 1) 0 fr)) = 0 then (((f_X8_found fi (-1000003)).1), u, ((f_X8_found fi (-1000003)).2), nw, un, (l_X8_add_44 nw un sl hs u fi fr px py (12 + 1) 0 fr)) else (1, ((f_X8_remember nw un u).1), fi, (f_X8_take nw (l_X8_add_44 nw un sl hs u fi fr px py (12 + 1) 0 fr)), ((f_X8_remember nw un u).2), (l_X8_add_44 nw un sl hs u fi fr px py (12 + 1) 0 fr))))))
set_option maxHeartbeats 400000000 in
set_option maxRecDepth 100000 in
theorem c_X8_add (l : Launch) (D : va_G) (cy : Nat → ClassId) (ta : Nat) (m_now : Nat) (m_undone : Nat) (m_slots : Nat) (m_hasSlot : Nat) (m_fresh : Nat) (m_slotKind : Nat) (m_sheetBits : Nat) (m_sheetSize : Nat) (m_sheets : Nat) (m_rootWhich : Nat) (m_signs : Nat) (m_atNought : Nat) (m_change : Nat) (m_table : Nat) (m_carried : Nat) (nw : Nat → Int32) (un : Nat → Int32) (sl : Nat → Int32) (hs : Nat → Int32) (u : Nat) (fi : Int32) (fr : Nat → Int32) (aa : Int64) (bb : Int64) (dd : Int64) (ro : Nat) (db : Int32) (mn : Nat) (px : Int32) (py : Int32) (hu : u ≤ 25) : yk_Ci l D vwCl (yk_ty cy) yX8_add wsX8_add 2 43 [.ref ta, .int px, .int py] [(ta, .inr (8, [.ref m_now, .ref m_undone, .ref m_slots, .ref m_slotKind, .ref m_hasSlot, .ref m_sheetBits, .ref m_sheetSize, .ref m_sheets, .int (nI u), .int fi, .ref m_fresh, .long aa, .long bb, .long dd, .int (nI ro), .ref m_rootWhich, .int db, .ref m_signs, .ref m_atNought, .int (nI mn), .ref m_change, .ref m_table, .ref m_carried])), (m_now, .inl (cy 0, 29, .inl nw)), (m_undone, .inl (cy 0, 725, .inl un)), (m_slots, .inl (cy 0, 48, .inl sl)), (m_hasSlot, .inl (cy 2, 4, .inl hs)), (m_fresh, .inl (cy 0, 12, .inl fr))] ((f_X8_add nw un sl hs u fi fr px py).1) [(ta, .inr (8, [.ref m_now, .ref m_undone, .ref m_slots, .ref m_slotKind, .ref m_hasSlot, .ref m_sheetBits, .ref m_sheetSize, .ref m_sheets, .int (nI ((f_X8_add nw un sl hs u fi fr px py).2.1)), .int ((f_X8_add nw un sl hs u fi fr px py).2.2.1), .ref m_fresh, .long aa, .long bb, .long dd, .int (nI ro), .ref m_rootWhich, .int db, .ref m_signs, .ref m_atNought, .int (nI mn), .ref m_change, .ref m_table, .ref m_carried])), (m_now, .inl (cy 0, 29, .inl ((f_X8_add nw un sl hs u fi fr px py).2.2.2.1))), (m_undone, .inl (cy 0, 725, .inl ((f_X8_add nw un sl hs u fi fr px py).2.2.2.2.1))), (m_slots, .inl (cy 0, 48, .inl sl)), (m_hasSlot, .inl (cy 2, 4, .inl hs)), (m_fresh, .inl (cy 0, 12, .inl ((f_X8_add nw un sl hs u fi fr px py).2.2.2.2.2)))] := by
  refine yk_eI (cc := cX8_add) (maxL := 4) (by decide) rfl (Nat.le_of_ble_eq_true rfl) rfl ?_
  intro p e R s m args below meth c A Q ls H locs hx hb hml hown hts hRf hRl hA hK hG hP hD hS hl hQ
  have hP : va_P D vwCl [(ta, .inr (8, [.ref m_now, .ref m_undone, .ref m_slots, .ref m_slotKind, .ref m_hasSlot, .ref m_sheetBits, .ref m_sheetSize, .ref m_sheets, .int (nI u), .int fi, .ref m_fresh, .long aa, .long bb, .long dd, .int (nI ro), .ref m_rootWhich, .int db, .ref m_signs, .ref m_atNought, .int (nI mn), .ref m_change, .ref m_table, .ref m_carried])), (m_now, .inl (cy 0, 29, .inl nw)), (m_undone, .inl (cy 0, 725, .inl un)), (m_slots, .inl (cy 0, 48, .inl sl)), (m_hasSlot, .inl (cy 2, 4, .inl hs)), (m_fresh, .inl (cy 0, 12, .inl fr))] H := hP
  have hl : lv_has ls 4 [(0, .ref ta), (1, .int px), (2, .int py)] := hl
  have hown : s.vm.findClass RX8 = some m.cls := hown
  have hF : (f_X8_add nw un sl hs u fi fr px py) = (f_X8_add nw un sl hs u fi fr px py) := rfl
  refine lv_iload_n hx hb dX8_add_0 rfl (lv_at hl 1 rfl) ?_
  refine lv_iconst (v := 0) hx hb dX8_add_1 (by decide) ?_
  refine lv_iconst (v := 3) hx hb dX8_add_2 (by decide) ?_
  refine yk_i [] (va_runS (As := [.int px, .int 0, .int 3]) (rest := []) ⟨hx, hb, hml, hown, hts⟩ (c_X8_in l D cy px 0 3 H.size) (va_cwS 3 hts gX8_add_X8_in rfl rfl rfl hs_X8_in (yk_room hRf hRl rfl rfl)) (yk_ps hG hA hS hK hP hD [] (by decide +kernel) rfl) rfl rfl hl.1 rfl (lv_room (Nat.le_of_ble_eq_true rfl)) dX8_add_3 ⟨Nat.zero_le _, Nat.zero_le _⟩) hP hD hS hA rfl rfl (fun H locs hP9 hD9 hS9 => ?_)
  replace hP : va_P D vwCl [(ta, .inr (8, [.ref m_now, .ref m_undone, .ref m_slots, .ref m_slotKind, .ref m_hasSlot, .ref m_sheetBits, .ref m_sheetSize, .ref m_sheets, .int (nI u), .int fi, .ref m_fresh, .long aa, .long bb, .long dd, .int (nI ro), .ref m_rootWhich, .int db, .ref m_signs, .ref m_atNought, .int (nI mn), .ref m_change, .ref m_table, .ref m_carried])), (m_now, .inl (cy 0, 29, .inl nw)), (m_undone, .inl (cy 0, 725, .inl un)), (m_slots, .inl (cy 0, 48, .inl sl)), (m_hasSlot, .inl (cy 2, 4, .inl hs)), (m_fresh, .inl (cy 0, 12, .inl fr))] H := hP9
  replace hD : va_D A [(ta, .inr (8, [.ref m_now, .ref m_undone, .ref m_slots, .ref m_slotKind, .ref m_hasSlot, .ref m_sheetBits, .ref m_sheetSize, .ref m_sheets, .int (nI u), .int fi, .ref m_fresh, .long aa, .long bb, .long dd, .int (nI ro), .ref m_rootWhich, .int db, .ref m_signs, .ref m_atNought, .int (nI mn), .ref m_change, .ref m_table, .ref m_carried])), (m_now, .inl (cy 0, 29, .inl nw)), (m_undone, .inl (cy 0, 725, .inl un)), (m_slots, .inl (cy 0, 48, .inl sl)), (m_hasSlot, .inl (cy 2, 4, .inl hs)), (m_fresh, .inl (cy 0, 12, .inl fr))] := hD9
  replace hS := hS9
  clear hP9 hD9 hS9
  refine lv_if_eq (tgt := 19) hx hb dX8_add_6 (by decide) (fun hc1 => ?_) (fun hc1 => ?_)
  · replace hF := hF.trans (if_pos hc1)
    refine lv_aload_n hx hb dX8_add_19 rfl (lv_at hl 0 rfl) ?_
    refine lv_ldc (v := (-1000001)) hx hb hown (hts _ kX8_add_0) dX8_add_20 ?_
    refine yk_i [0] (va_runV (As := [.int (-1000001)]) (rest := []) ⟨hx, hb, hml, hown, hts⟩ (c_X8_found l D cy ta m_now m_undone m_slots m_slotKind m_hasSlot m_sheetBits m_sheetSize m_sheets m_fresh m_rootWhich m_signs m_atNought m_change m_table m_carried u fi aa bb dd ro db mn (-1000001) H.size) (cwV 1 hts gX8_add_X8_found rfl rfl rfl hv_X8_found (yk_room hRf hRl rfl rfl)) (yk_pv (q := (RX8, TX8, 23)) hG hA hS hK hP hD [0] (by decide +kernel) rfl rfl rfl) rfl rfl hl.1 rfl (lv_room (Nat.le_of_ble_eq_true rfl)) dX8_add_22 ⟨Nat.zero_le _, Nat.zero_le _⟩) hP hD hS hA rfl rfl (fun H locs hP9 hD9 hS9 => ?_)
    replace hP : va_P D vwCl [(ta, .inr (8, [.ref m_now, .ref m_undone, .ref m_slots, .ref m_slotKind, .ref m_hasSlot, .ref m_sheetBits, .ref m_sheetSize, .ref m_sheets, .int (nI u), .int ((f_X8_found fi (-1000001)).2), .ref m_fresh, .long aa, .long bb, .long dd, .int (nI ro), .ref m_rootWhich, .int db, .ref m_signs, .ref m_atNought, .int (nI mn), .ref m_change, .ref m_table, .ref m_carried])), (m_now, .inl (cy 0, 29, .inl nw)), (m_undone, .inl (cy 0, 725, .inl un)), (m_slots, .inl (cy 0, 48, .inl sl)), (m_hasSlot, .inl (cy 2, 4, .inl hs)), (m_fresh, .inl (cy 0, 12, .inl fr))] H := hP9
    replace hD : va_D A [(ta, .inr (8, [.ref m_now, .ref m_undone, .ref m_slots, .ref m_slotKind, .ref m_hasSlot, .ref m_sheetBits, .ref m_sheetSize, .ref m_sheets, .int (nI u), .int ((f_X8_found fi (-1000001)).2), .ref m_fresh, .long aa, .long bb, .long dd, .int (nI ro), .ref m_rootWhich, .int db, .ref m_signs, .ref m_atNought, .int (nI mn), .ref m_change, .ref m_table, .ref m_carried])), (m_now, .inl (cy 0, 29, .inl nw)), (m_undone, .inl (cy 0, 725, .inl un)), (m_slots, .inl (cy 0, 48, .inl sl)), (m_hasSlot, .inl (cy 2, 4, .inl hs)), (m_fresh, .inl (cy 0, 12, .inl fr))] := hD9
    replace hS := hS9
    clear hP9 hD9 hS9
    have hF : f_X8_add nw un sl hs u fi fr px py = (((f_X8_found fi (-1000001)).1), u, ((f_X8_found fi (-1000001)).2), nw, un, fr) := hF
    have hf0 := yk_fst hF
    have hg0 := yk_snd hF
    have hf1 := yk_fst hg0
    have hg1 := yk_snd hg0
    have hf2 := yk_fst hg1
    have hg2 := yk_snd hg1
    have hf3 := yk_fst hg2
    have hg3 := yk_snd hg2
    have hf4 := yk_fst hg3
    have hg4 := yk_snd hg3
    rw [hf0, hf1, hf2, hf3, hf4, hg4] at hQ
    exact hQ _ _ _ _ dX8_add_25 hP hS
  · replace hF := hF.trans (if_neg hc1)
    refine lv_iload_n hx hb dX8_add_9 rfl (lv_at hl 2 rfl) ?_
    refine lv_bipush (v := (-4)) hx hb dX8_add_10 (by decide) ?_
    refine lv_iconst (v := 4) hx hb dX8_add_12 (by decide) ?_
    refine yk_i [] (va_runS (As := [.int py, .int (-4), .int 4]) (rest := []) ⟨hx, hb, hml, hown, hts⟩ (c_X8_in l D cy py (-4) 4 H.size) (va_cwS 3 hts gX8_add_X8_in rfl rfl rfl hs_X8_in (yk_room hRf hRl rfl rfl)) (yk_ps hG hA hS hK hP hD [] (by decide +kernel) rfl) rfl rfl hl.1 rfl (lv_room (Nat.le_of_ble_eq_true rfl)) dX8_add_13 ⟨Nat.zero_le _, Nat.zero_le _⟩) hP hD hS hA rfl rfl (fun H locs hP9 hD9 hS9 => ?_)
    replace hP : va_P D vwCl [(ta, .inr (8, [.ref m_now, .ref m_undone, .ref m_slots, .ref m_slotKind, .ref m_hasSlot, .ref m_sheetBits, .ref m_sheetSize, .ref m_sheets, .int (nI u), .int fi, .ref m_fresh, .long aa, .long bb, .long dd, .int (nI ro), .ref m_rootWhich, .int db, .ref m_signs, .ref m_atNought, .int (nI mn), .ref m_change, .ref m_table, .ref m_carried])), (m_now, .inl (cy 0, 29, .inl nw)), (m_undone, .inl (cy 0, 725, .inl un)), (m_slots, .inl (cy 0, 48, .inl sl)), (m_hasSlot, .inl (cy 2, 4, .inl hs)), (m_fresh, .inl (cy 0, 12, .inl fr))] H := hP9
    replace hD : va_D A [(ta, .inr (8, [.ref m_now, .ref m_undone, .ref m_slots, .ref m_slotKind, .ref m_hasSlot, .ref m_sheetBits, .ref m_sheetSize, .ref m_sheets, .int (nI u), .int fi, .ref m_fresh, .long aa, .long bb, .long dd, .int (nI ro), .ref m_rootWhich, .int db, .ref m_signs, .ref m_atNought, .int (nI mn), .ref m_change, .ref m_table, .ref m_carried])), (m_now, .inl (cy 0, 29, .inl nw)), (m_undone, .inl (cy 0, 725, .inl un)), (m_slots, .inl (cy 0, 48, .inl sl)), (m_hasSlot, .inl (cy 2, 4, .inl hs)), (m_fresh, .inl (cy 0, 12, .inl fr))] := hD9
    replace hS := hS9
    clear hP9 hD9 hS9
    refine lv_if_ne (tgt := 26) hx hb dX8_add_16 (by decide) (fun hc2 => ?_) (fun hc2 => ?_)
    · replace hF := hF.trans (if_neg hc2)
      have hq3 : px = nI px.toNatClampNeg := (ix_in (N := 4) (b := 3) (by decide) rfl (by decide) (by assumption)).1
      have hq3b : px.toNatClampNeg < 4 := (ix_in (N := 4) (b := 3) (by decide) rfl (by decide) (by assumption)).2
      rw [hq3] at hl
      refine lv_aload_n hx hb dX8_add_26 rfl (lv_at hl 0 rfl) ?_
      refine va_get (D := D) (ci := 8) (v := .ref m_hasSlot) (C := RX8) (T := TX8) (N := 23) hx hb hts uX8_add_X8 hown hK hP 0 rfl rfl 4 (by decide) (hts _ kX8_add_1) (fun _ h9 => h9) rfl dX8_add_27 ?_
      refine lv_iload_n hx hb dX8_add_30 rfl (lv_at hl 1 rfl) ?_
      refine yk_zld hx hb hK hP 4 2 rfl rfl px.toNatClampNeg (by omega) (by decide) dX8_add_31 ?_
      refine lv_if_ne (tgt := 42) hx hb dX8_add_32 (by decide) (fun hc4 => ?_) (fun hc4 => ?_)
      · replace hF := hF.trans (if_neg hc4)
        refine lv_iconst (v := 0) hx hb dX8_add_42 (by decide) ?_
        refine lv_istore_n (lv' := [(3, .int 0), (0, .ref ta), (1, .int (nI px.toNatClampNeg)), (2, .int py)]) hx hb dX8_add_43 rfl hl (by decide) rfl (fun ls hl9 => ?_)
        replace hl := hl9
        clear hl9
        have J7 : ∀ (H : Heap) (locs : List Loc) (ls : Array Slot), va_P D vwCl [(ta, .inr (8, [.ref m_now, .ref m_undone, .ref m_slots, .ref m_slotKind, .ref m_hasSlot, .ref m_sheetBits, .ref m_sheetSize, .ref m_sheets, .int (nI u), .int fi, .ref m_fresh, .long aa, .long bb, .long dd, .int (nI ro), .ref m_rootWhich, .int db, .ref m_signs, .ref m_atNought, .int (nI mn), .ref m_change, .ref m_table, .ref m_carried])), (m_now, .inl (cy 0, 29, .inl nw)), (m_undone, .inl (cy 0, 725, .inl un)), (m_slots, .inl (cy 0, 48, .inl sl)), (m_hasSlot, .inl (cy 2, 4, .inl hs)), (m_fresh, .inl (cy 0, 12, .inl (l_X8_add_44 nw un sl hs u fi fr px py (12 + 1) 0 fr)))] H → va_D A [(ta, .inr (8, [.ref m_now, .ref m_undone, .ref m_slots, .ref m_slotKind, .ref m_hasSlot, .ref m_sheetBits, .ref m_sheetSize, .ref m_sheets, .int (nI u), .int fi, .ref m_fresh, .long aa, .long bb, .long dd, .int (nI ro), .ref m_rootWhich, .int db, .ref m_signs, .ref m_atNought, .int (nI mn), .ref m_change, .ref m_table, .ref m_carried])), (m_now, .inl (cy 0, 29, .inl nw)), (m_undone, .inl (cy 0, 725, .inl un)), (m_slots, .inl (cy 0, 48, .inl sl)), (m_hasSlot, .inl (cy 2, 4, .inl hs)), (m_fresh, .inl (cy 0, 12, .inl (l_X8_add_44 nw un sl hs u fi fr px py (12 + 1) 0 fr)))] → va_S A s.heap H locs → lv_has ls 4 [(0, .ref ta), (1, .int (nI px.toNatClampNeg)), (2, .int py)] → W p l e R s m args below meth c H locs 0 0 Q (F0 m 82 ls []) := by
          clear hP hD hS hl
          intro H locs ls hP hD hS hl
          refine lv_aload_n hx hb dX8_add_82 rfl (lv_at hl 0 rfl) ?_
          refine yk_i [0, 5] (va_runV (As := []) (rest := []) ⟨hx, hb, hml, hown, hts⟩ (c_X8_isSmall l D cy ta m_fresh m_now m_undone m_slots m_slotKind m_hasSlot m_sheetBits m_sheetSize m_sheets m_rootWhich m_signs m_atNought m_change m_table m_carried u fi (l_X8_add_44 nw un sl hs u fi fr px py (12 + 1) 0 fr) aa bb dd ro db mn H.size) (cwV 0 hts gX8_add_X8_isSmall rfl rfl rfl hv_X8_isSmall (yk_room hRf hRl rfl rfl)) (yk_pv (q := (RX8, TX8, 23)) hG hA hS hK hP hD [0, 5] (by decide +kernel) rfl rfl rfl) rfl rfl hl.1 rfl (lv_room (Nat.le_of_ble_eq_true rfl)) dX8_add_83 ⟨Nat.zero_le _, Nat.zero_le _⟩) hP hD hS hA rfl rfl (fun H locs hP9 hD9 hS9 => ?_)
          replace hP : va_P D vwCl [(ta, .inr (8, [.ref m_now, .ref m_undone, .ref m_slots, .ref m_slotKind, .ref m_hasSlot, .ref m_sheetBits, .ref m_sheetSize, .ref m_sheets, .int (nI u), .int fi, .ref m_fresh, .long aa, .long bb, .long dd, .int (nI ro), .ref m_rootWhich, .int db, .ref m_signs, .ref m_atNought, .int (nI mn), .ref m_change, .ref m_table, .ref m_carried])), (m_now, .inl (cy 0, 29, .inl nw)), (m_undone, .inl (cy 0, 725, .inl un)), (m_slots, .inl (cy 0, 48, .inl sl)), (m_hasSlot, .inl (cy 2, 4, .inl hs)), (m_fresh, .inl (cy 0, 12, .inl (l_X8_add_44 nw un sl hs u fi fr px py (12 + 1) 0 fr)))] H := hP9
          replace hD : va_D A [(ta, .inr (8, [.ref m_now, .ref m_undone, .ref m_slots, .ref m_slotKind, .ref m_hasSlot, .ref m_sheetBits, .ref m_sheetSize, .ref m_sheets, .int (nI u), .int fi, .ref m_fresh, .long aa, .long bb, .long dd, .int (nI ro), .ref m_rootWhich, .int db, .ref m_signs, .ref m_atNought, .int (nI mn), .ref m_change, .ref m_table, .ref m_carried])), (m_now, .inl (cy 0, 29, .inl nw)), (m_undone, .inl (cy 0, 725, .inl un)), (m_slots, .inl (cy 0, 48, .inl sl)), (m_hasSlot, .inl (cy 2, 4, .inl hs)), (m_fresh, .inl (cy 0, 12, .inl (l_X8_add_44 nw un sl hs u fi fr px py (12 + 1) 0 fr)))] := hD9
          replace hS := hS9
          clear hP9 hD9 hS9
          refine lv_if_ne (tgt := 96) hx hb dX8_add_86 (by decide) (fun hc8 => ?_) (fun hc8 => ?_)
          · replace hF := hF.trans (if_neg hc8)
            refine lv_aload_n hx hb dX8_add_96 rfl (lv_at hl 0 rfl) ?_
            refine yk_v [0, 1, 2] (va_runV (As := []) (rest := []) ⟨hx, hb, hml, hown, hts⟩ (c_X8_remember l D cy ta m_now m_undone m_slots m_slotKind m_hasSlot m_sheetBits m_sheetSize m_sheets m_fresh m_rootWhich m_signs m_atNought m_change m_table m_carried nw un u fi aa bb dd ro db mn (by first | assumption | omega) H.size) (cwV 0 hts gX8_add_X8_remember rfl rfl rfl hv_X8_remember (yk_room hRf hRl rfl rfl)) (yk_pv (q := (RX8, TX8, 23)) hG hA hS hK hP hD [0, 1, 2] (by decide +kernel) rfl rfl rfl) rfl rfl hl.1 rfl (lv_room (Nat.le_of_ble_eq_true rfl)) dX8_add_97 ⟨Nat.zero_le _, Nat.zero_le _⟩) hP hD hS hA rfl rfl (fun H locs hP9 hD9 hS9 => ?_)
            replace hP : va_P D vwCl [(ta, .inr (8, [.ref m_now, .ref m_undone, .ref m_slots, .ref m_slotKind, .ref m_hasSlot, .ref m_sheetBits, .ref m_sheetSize, .ref m_sheets, .int (nI ((f_X8_remember nw un u).1)), .int fi, .ref m_fresh, .long aa, .long bb, .long dd, .int (nI ro), .ref m_rootWhich, .int db, .ref m_signs, .ref m_atNought, .int (nI mn), .ref m_change, .ref m_table, .ref m_carried])), (m_now, .inl (cy 0, 29, .inl nw)), (m_undone, .inl (cy 0, 725, .inl ((f_X8_remember nw un u).2))), (m_slots, .inl (cy 0, 48, .inl sl)), (m_hasSlot, .inl (cy 2, 4, .inl hs)), (m_fresh, .inl (cy 0, 12, .inl (l_X8_add_44 nw un sl hs u fi fr px py (12 + 1) 0 fr)))] H := hP9
            replace hD : va_D A [(ta, .inr (8, [.ref m_now, .ref m_undone, .ref m_slots, .ref m_slotKind, .ref m_hasSlot, .ref m_sheetBits, .ref m_sheetSize, .ref m_sheets, .int (nI ((f_X8_remember nw un u).1)), .int fi, .ref m_fresh, .long aa, .long bb, .long dd, .int (nI ro), .ref m_rootWhich, .int db, .ref m_signs, .ref m_atNought, .int (nI mn), .ref m_change, .ref m_table, .ref m_carried])), (m_now, .inl (cy 0, 29, .inl nw)), (m_undone, .inl (cy 0, 725, .inl ((f_X8_remember nw un u).2))), (m_slots, .inl (cy 0, 48, .inl sl)), (m_hasSlot, .inl (cy 2, 4, .inl hs)), (m_fresh, .inl (cy 0, 12, .inl (l_X8_add_44 nw un sl hs u fi fr px py (12 + 1) 0 fr)))] := hD9
            replace hS := hS9
            clear hP9 hD9 hS9
            refine lv_aload_n hx hb dX8_add_100 rfl (lv_at hl 0 rfl) ?_
            refine yk_v [0, 1, 5] (va_runV (As := []) (rest := []) ⟨hx, hb, hml, hown, hts⟩ (c_X8_take l D cy ta m_now m_fresh m_undone m_slots m_slotKind m_hasSlot m_sheetBits m_sheetSize m_sheets m_rootWhich m_signs m_atNought m_change m_table m_carried nw ((f_X8_remember nw un u).1) fi (l_X8_add_44 nw un sl hs u fi fr px py (12 + 1) 0 fr) aa bb dd ro db mn H.size) (cwV 0 hts gX8_add_X8_take rfl rfl rfl hv_X8_take (yk_room hRf hRl rfl rfl)) (yk_pv (q := (RX8, TX8, 23)) hG hA hS hK hP hD [0, 1, 5] (by decide +kernel) rfl rfl rfl) rfl rfl hl.1 rfl (lv_room (Nat.le_of_ble_eq_true rfl)) dX8_add_101 ⟨Nat.zero_le _, Nat.zero_le _⟩) hP hD hS hA rfl rfl (fun H locs hP9 hD9 hS9 => ?_)
            replace hP : va_P D vwCl [(ta, .inr (8, [.ref m_now, .ref m_undone, .ref m_slots, .ref m_slotKind, .ref m_hasSlot, .ref m_sheetBits, .ref m_sheetSize, .ref m_sheets, .int (nI ((f_X8_remember nw un u).1)), .int fi, .ref m_fresh, .long aa, .long bb, .long dd, .int (nI ro), .ref m_rootWhich, .int db, .ref m_signs, .ref m_atNought, .int (nI mn), .ref m_change, .ref m_table, .ref m_carried])), (m_now, .inl (cy 0, 29, .inl (f_X8_take nw (l_X8_add_44 nw un sl hs u fi fr px py (12 + 1) 0 fr)))), (m_undone, .inl (cy 0, 725, .inl ((f_X8_remember nw un u).2))), (m_slots, .inl (cy 0, 48, .inl sl)), (m_hasSlot, .inl (cy 2, 4, .inl hs)), (m_fresh, .inl (cy 0, 12, .inl (l_X8_add_44 nw un sl hs u fi fr px py (12 + 1) 0 fr)))] H := hP9
            replace hD : va_D A [(ta, .inr (8, [.ref m_now, .ref m_undone, .ref m_slots, .ref m_slotKind, .ref m_hasSlot, .ref m_sheetBits, .ref m_sheetSize, .ref m_sheets, .int (nI ((f_X8_remember nw un u).1)), .int fi, .ref m_fresh, .long aa, .long bb, .long dd, .int (nI ro), .ref m_rootWhich, .int db, .ref m_signs, .ref m_atNought, .int (nI mn), .ref m_change, .ref m_table, .ref m_carried])), (m_now, .inl (cy 0, 29, .inl (f_X8_take nw (l_X8_add_44 nw un sl hs u fi fr px py (12 + 1) 0 fr)))), (m_undone, .inl (cy 0, 725, .inl ((f_X8_remember nw un u).2))), (m_slots, .inl (cy 0, 48, .inl sl)), (m_hasSlot, .inl (cy 2, 4, .inl hs)), (m_fresh, .inl (cy 0, 12, .inl (l_X8_add_44 nw un sl hs u fi fr px py (12 + 1) 0 fr)))] := hD9
            replace hS := hS9
            clear hP9 hD9 hS9
            refine lv_iconst (v := 1) hx hb dX8_add_104 (by decide) ?_
            have hF : f_X8_add nw un sl hs u fi fr px py = (1, ((f_X8_remember nw un u).1), fi, (f_X8_take nw (l_X8_add_44 nw un sl hs u fi fr px py (12 + 1) 0 fr)), ((f_X8_remember nw un u).2), (l_X8_add_44 nw un sl hs u fi fr px py (12 + 1) 0 fr)) := hF
            have hf0 := yk_fst hF
            have hg0 := yk_snd hF
            have hf1 := yk_fst hg0
            have hg1 := yk_snd hg0
            have hf2 := yk_fst hg1
            have hg2 := yk_snd hg1
            have hf3 := yk_fst hg2
            have hg3 := yk_snd hg2
            have hf4 := yk_fst hg3
            have hg4 := yk_snd hg3
            rw [hf0, hf1, hf2, hf3, hf4, hg4] at hQ
            exact hQ _ _ _ _ dX8_add_105 hP hS
          · replace hF := hF.trans (if_pos hc8)
            refine lv_aload_n hx hb dX8_add_89 rfl (lv_at hl 0 rfl) ?_
            refine lv_ldc (v := (-1000003)) hx hb hown (hts _ kX8_add_5) dX8_add_90 ?_
            refine yk_i [0] (va_runV (As := [.int (-1000003)]) (rest := []) ⟨hx, hb, hml, hown, hts⟩ (c_X8_found l D cy ta m_now m_undone m_slots m_slotKind m_hasSlot m_sheetBits m_sheetSize m_sheets m_fresh m_rootWhich m_signs m_atNought m_change m_table m_carried u fi aa bb dd ro db mn (-1000003) H.size) (cwV 1 hts gX8_add_X8_found rfl rfl rfl hv_X8_found (yk_room hRf hRl rfl rfl)) (yk_pv (q := (RX8, TX8, 23)) hG hA hS hK hP hD [0] (by decide +kernel) rfl rfl rfl) rfl rfl hl.1 rfl (lv_room (Nat.le_of_ble_eq_true rfl)) dX8_add_92 ⟨Nat.zero_le _, Nat.zero_le _⟩) hP hD hS hA rfl rfl (fun H locs hP9 hD9 hS9 => ?_)
            replace hP : va_P D vwCl [(ta, .inr (8, [.ref m_now, .ref m_undone, .ref m_slots, .ref m_slotKind, .ref m_hasSlot, .ref m_sheetBits, .ref m_sheetSize, .ref m_sheets, .int (nI u), .int ((f_X8_found fi (-1000003)).2), .ref m_fresh, .long aa, .long bb, .long dd, .int (nI ro), .ref m_rootWhich, .int db, .ref m_signs, .ref m_atNought, .int (nI mn), .ref m_change, .ref m_table, .ref m_carried])), (m_now, .inl (cy 0, 29, .inl nw)), (m_undone, .inl (cy 0, 725, .inl un)), (m_slots, .inl (cy 0, 48, .inl sl)), (m_hasSlot, .inl (cy 2, 4, .inl hs)), (m_fresh, .inl (cy 0, 12, .inl (l_X8_add_44 nw un sl hs u fi fr px py (12 + 1) 0 fr)))] H := hP9
            replace hD : va_D A [(ta, .inr (8, [.ref m_now, .ref m_undone, .ref m_slots, .ref m_slotKind, .ref m_hasSlot, .ref m_sheetBits, .ref m_sheetSize, .ref m_sheets, .int (nI u), .int ((f_X8_found fi (-1000003)).2), .ref m_fresh, .long aa, .long bb, .long dd, .int (nI ro), .ref m_rootWhich, .int db, .ref m_signs, .ref m_atNought, .int (nI mn), .ref m_change, .ref m_table, .ref m_carried])), (m_now, .inl (cy 0, 29, .inl nw)), (m_undone, .inl (cy 0, 725, .inl un)), (m_slots, .inl (cy 0, 48, .inl sl)), (m_hasSlot, .inl (cy 2, 4, .inl hs)), (m_fresh, .inl (cy 0, 12, .inl (l_X8_add_44 nw un sl hs u fi fr px py (12 + 1) 0 fr)))] := hD9
            replace hS := hS9
            clear hP9 hD9 hS9
            have hF : f_X8_add nw un sl hs u fi fr px py = (((f_X8_found fi (-1000003)).1), u, ((f_X8_found fi (-1000003)).2), nw, un, (l_X8_add_44 nw un sl hs u fi fr px py (12 + 1) 0 fr)) := hF
            have hf0 := yk_fst hF
            have hg0 := yk_snd hF
            have hf1 := yk_fst hg0
            have hg1 := yk_snd hg0
            have hf2 := yk_fst hg1
            have hg2 := yk_snd hg1
            have hf3 := yk_fst hg2
            have hg3 := yk_snd hg2
            have hf4 := yk_fst hg3
            have hg4 := yk_snd hg3
            rw [hf0, hf1, hf2, hf3, hf4, hg4] at hQ
            exact hQ _ _ _ _ dX8_add_95 hP hS
        have L44 : ∀ (M9 n44 ki : Nat) (zfresh_44 : Nat → Int32) (H : Heap) (locs : List Loc) (ls : Array Slot), n44 < M9 → ki + n44 = 12 → (l_X8_add_44 nw un sl hs u fi fr px py (12 + 1) 0 fr) = (l_X8_add_44 nw un sl hs u fi fr px py (n44 + 1) ki zfresh_44) → va_P D vwCl [(ta, .inr (8, [.ref m_now, .ref m_undone, .ref m_slots, .ref m_slotKind, .ref m_hasSlot, .ref m_sheetBits, .ref m_sheetSize, .ref m_sheets, .int (nI u), .int fi, .ref m_fresh, .long aa, .long bb, .long dd, .int (nI ro), .ref m_rootWhich, .int db, .ref m_signs, .ref m_atNought, .int (nI mn), .ref m_change, .ref m_table, .ref m_carried])), (m_now, .inl (cy 0, 29, .inl nw)), (m_undone, .inl (cy 0, 725, .inl un)), (m_slots, .inl (cy 0, 48, .inl sl)), (m_hasSlot, .inl (cy 2, 4, .inl hs)), (m_fresh, .inl (cy 0, 12, .inl zfresh_44))] H → va_D A [(ta, .inr (8, [.ref m_now, .ref m_undone, .ref m_slots, .ref m_slotKind, .ref m_hasSlot, .ref m_sheetBits, .ref m_sheetSize, .ref m_sheets, .int (nI u), .int fi, .ref m_fresh, .long aa, .long bb, .long dd, .int (nI ro), .ref m_rootWhich, .int db, .ref m_signs, .ref m_atNought, .int (nI mn), .ref m_change, .ref m_table, .ref m_carried])), (m_now, .inl (cy 0, 29, .inl nw)), (m_undone, .inl (cy 0, 725, .inl un)), (m_slots, .inl (cy 0, 48, .inl sl)), (m_hasSlot, .inl (cy 2, 4, .inl hs)), (m_fresh, .inl (cy 0, 12, .inl zfresh_44))] → va_S A s.heap H locs → lv_has ls 4 [(0, .ref ta), (1, .int (nI px.toNatClampNeg)), (2, .int py), (3, .int (nI ki))] → W p l e R s m args below meth c H locs 0 0 Q (F0 m 44 ls []) := by
          clear hP hD hS hl
          intro M9
          induction M9 with
          | zero => intro n44 ki _ _ _ _ hn; exact absurd hn (Nat.not_lt_zero _)
          | succ M9 ih44 =>
            intro n44 ki zfresh_44 H locs ls hn44 hk44 hV44 hP hD hS hl
            refine lv_iload_n hx hb dX8_add_44 rfl (lv_at hl 3 rfl) ?_
            refine lv_bipush (v := 12) hx hb dX8_add_45 (by decide) ?_
            refine lv_icmp_ge (tgt := 82) hx hb dX8_add_47 (by decide) (fun hc6 => ?_) (fun hc6 => ?_)
            · replace hV44 := hV44.trans (if_pos hc6)
              have hV44 : (l_X8_add_44 nw un sl hs u fi fr px py (12 + 1) 0 fr) = zfresh_44 := hV44
              have J7 := J7
              rw [hV44] at J7
              exact J7 _ _ _ hP hD hS (lv_sub hl [0, 1, 2] rfl)
            · replace hV44 := hV44.trans (if_neg hc6)
              have hlt44 : ki < 12 := yk_lt hk44 (by omega) hc6
              refine lv_aload_n hx hb dX8_add_50 rfl (lv_at hl 0 rfl) ?_
              refine va_get (D := D) (ci := 8) (v := .ref m_fresh) (C := RX8) (T := TX8) (N := 23) hx hb hts uX8_add_X8 hown hK hP 0 rfl rfl 10 (by decide) (hts _ kX8_add_2) (fun _ h9 => h9) rfl dX8_add_51 ?_
              refine lv_iload_n hx hb dX8_add_54 rfl (lv_at hl 3 rfl) ?_
              refine lv_aload_n hx hb dX8_add_55 rfl (lv_at hl 0 rfl) ?_
              refine va_get (D := D) (ci := 8) (v := .ref m_now) (C := RX8) (T := TX8) (N := 23) hx hb hts uX8_add_X8 hown hK hP 0 rfl rfl 0 (by decide) (hts _ kX8_add_3) (fun _ h9 => h9) rfl dX8_add_56 ?_
              refine lv_iload_n hx hb dX8_add_59 rfl (lv_at hl 3 rfl) ?_
              refine yk_ild hx hb hK hP 1 0 rfl rfl ki (by omega) (by decide) dX8_add_60 ?_
              refine lv_iload_n hx hb dX8_add_61 rfl (lv_at hl 2 rfl) ?_
              refine lv_aload_n hx hb dX8_add_62 rfl (lv_at hl 0 rfl) ?_
              refine va_get (D := D) (ci := 8) (v := .ref m_slots) (C := RX8) (T := TX8) (N := 23) hx hb hts uX8_add_X8 hown hK hP 0 rfl rfl 2 (by decide) (hts _ kX8_add_4) (fun _ h9 => h9) rfl dX8_add_63 ?_
              refine lv_bipush (v := 12) hx hb dX8_add_66 (by decide) ?_
              refine lv_iload_n hx hb dX8_add_68 rfl (lv_at hl 1 rfl) ?_
              refine lv_imul hx hb dX8_add_69 ?_
              refine yk_ti (y := nI (12 * px.toNatClampNeg)) (pk_mul 12 px.toNatClampNeg) ?_
              refine lv_iload_n hx hb dX8_add_70 rfl (lv_at hl 3 rfl) ?_
              refine lv_iadd hx hb dX8_add_71 ?_
              refine yk_ti (y := nI ((12 * px.toNatClampNeg) + ki)) (nI_add (12 * px.toNatClampNeg) ki) ?_
              refine yk_ild hx hb hK hP 3 0 rfl rfl ((12 * px.toNatClampNeg) + ki) (by omega) (by decide) dX8_add_72 ?_
              refine lv_imul hx hb dX8_add_73 ?_
              refine lv_iadd hx hb dX8_add_74 ?_
              refine yk_ist hx hb hK hP hD hS 5 0 rfl rfl ki (by omega) (by decide) dX8_add_75 (fun H locs hP9 hD9 hS9 => ?_)
              replace hP : va_P D vwCl [(ta, .inr (8, [.ref m_now, .ref m_undone, .ref m_slots, .ref m_slotKind, .ref m_hasSlot, .ref m_sheetBits, .ref m_sheetSize, .ref m_sheets, .int (nI u), .int fi, .ref m_fresh, .long aa, .long bb, .long dd, .int (nI ro), .ref m_rootWhich, .int db, .ref m_signs, .ref m_atNought, .int (nI mn), .ref m_change, .ref m_table, .ref m_carried])), (m_now, .inl (cy 0, 29, .inl nw)), (m_undone, .inl (cy 0, 725, .inl un)), (m_slots, .inl (cy 0, 48, .inl sl)), (m_hasSlot, .inl (cy 2, 4, .inl hs)), (m_fresh, .inl (cy 0, 12, .inl (upd zfresh_44 ki ((nw ki) + (py * (sl ((12 * px.toNatClampNeg) + ki)))))))] H := hP9
              replace hD : va_D A [(ta, .inr (8, [.ref m_now, .ref m_undone, .ref m_slots, .ref m_slotKind, .ref m_hasSlot, .ref m_sheetBits, .ref m_sheetSize, .ref m_sheets, .int (nI u), .int fi, .ref m_fresh, .long aa, .long bb, .long dd, .int (nI ro), .ref m_rootWhich, .int db, .ref m_signs, .ref m_atNought, .int (nI mn), .ref m_change, .ref m_table, .ref m_carried])), (m_now, .inl (cy 0, 29, .inl nw)), (m_undone, .inl (cy 0, 725, .inl un)), (m_slots, .inl (cy 0, 48, .inl sl)), (m_hasSlot, .inl (cy 2, 4, .inl hs)), (m_fresh, .inl (cy 0, 12, .inl (upd zfresh_44 ki ((nw ki) + (py * (sl ((12 * px.toNatClampNeg) + ki)))))))] := hD9
              replace hS := hS9
              clear hP9 hD9 hS9
              refine lv_iinc (v := nI (ki + 1)) (lv' := [(3, .int (nI (ki + 1))), (0, .ref ta), (1, .int (nI px.toNatClampNeg)), (2, .int py)]) hx hb dX8_add_76 hl (k := 3) rfl (yk_inc ki) (by decide) rfl (fun ls hl9 => ?_)
              replace hl := hl9
              clear hl9
              refine lv_goto (tgt := 44) hx hb dX8_add_79 (by decide) ?_
              obtain ⟨n9, rfl⟩ : ∃ n9, n44 = n9 + 1 := ⟨n44 - 1, by omega⟩
              exact ih44 n9 (ki + 1) (upd zfresh_44 ki ((nw ki) + (py * (sl ((12 * px.toNatClampNeg) + ki))))) _ _ _ (by omega) (by omega)  hV44 hP hD hS (lv_sub hl [1, 2, 3, 0] rfl)
        exact L44 (12 + 1) 12 0 fr _ _ _ (Nat.lt_succ_self _) (by omega)  rfl hP hD hS (lv_sub hl [1, 2, 3, 0] rfl)
      · replace hF := hF.trans (if_pos hc4)
        refine lv_aload_n hx hb dX8_add_35 rfl (lv_at hl 0 rfl) ?_
        refine lv_ldc (v := (-1000006)) hx hb hown (hts _ kX8_add_6) dX8_add_36 ?_
        refine yk_i [0] (va_runV (As := [.int (-1000006)]) (rest := []) ⟨hx, hb, hml, hown, hts⟩ (c_X8_found l D cy ta m_now m_undone m_slots m_slotKind m_hasSlot m_sheetBits m_sheetSize m_sheets m_fresh m_rootWhich m_signs m_atNought m_change m_table m_carried u fi aa bb dd ro db mn (-1000006) H.size) (cwV 1 hts gX8_add_X8_found rfl rfl rfl hv_X8_found (yk_room hRf hRl rfl rfl)) (yk_pv (q := (RX8, TX8, 23)) hG hA hS hK hP hD [0] (by decide +kernel) rfl rfl rfl) rfl rfl hl.1 rfl (lv_room (Nat.le_of_ble_eq_true rfl)) dX8_add_38 ⟨Nat.zero_le _, Nat.zero_le _⟩) hP hD hS hA rfl rfl (fun H locs hP9 hD9 hS9 => ?_)
        replace hP : va_P D vwCl [(ta, .inr (8, [.ref m_now, .ref m_undone, .ref m_slots, .ref m_slotKind, .ref m_hasSlot, .ref m_sheetBits, .ref m_sheetSize, .ref m_sheets, .int (nI u), .int ((f_X8_found fi (-1000006)).2), .ref m_fresh, .long aa, .long bb, .long dd, .int (nI ro), .ref m_rootWhich, .int db, .ref m_signs, .ref m_atNought, .int (nI mn), .ref m_change, .ref m_table, .ref m_carried])), (m_now, .inl (cy 0, 29, .inl nw)), (m_undone, .inl (cy 0, 725, .inl un)), (m_slots, .inl (cy 0, 48, .inl sl)), (m_hasSlot, .inl (cy 2, 4, .inl hs)), (m_fresh, .inl (cy 0, 12, .inl fr))] H := hP9
        replace hD : va_D A [(ta, .inr (8, [.ref m_now, .ref m_undone, .ref m_slots, .ref m_slotKind, .ref m_hasSlot, .ref m_sheetBits, .ref m_sheetSize, .ref m_sheets, .int (nI u), .int ((f_X8_found fi (-1000006)).2), .ref m_fresh, .long aa, .long bb, .long dd, .int (nI ro), .ref m_rootWhich, .int db, .ref m_signs, .ref m_atNought, .int (nI mn), .ref m_change, .ref m_table, .ref m_carried])), (m_now, .inl (cy 0, 29, .inl nw)), (m_undone, .inl (cy 0, 725, .inl un)), (m_slots, .inl (cy 0, 48, .inl sl)), (m_hasSlot, .inl (cy 2, 4, .inl hs)), (m_fresh, .inl (cy 0, 12, .inl fr))] := hD9
        replace hS := hS9
        clear hP9 hD9 hS9
        have hF : f_X8_add nw un sl hs u fi fr px py = (((f_X8_found fi (-1000006)).1), u, ((f_X8_found fi (-1000006)).2), nw, un, fr) := hF
        have hf0 := yk_fst hF
        have hg0 := yk_snd hF
        have hf1 := yk_fst hg0
        have hg1 := yk_snd hg0
        have hf2 := yk_fst hg1
        have hg2 := yk_snd hg1
        have hf3 := yk_fst hg2
        have hg3 := yk_snd hg2
        have hf4 := yk_fst hg3
        have hg4 := yk_snd hg3
        rw [hf0, hf1, hf2, hf3, hf4, hg4] at hQ
        exact hQ _ _ _ _ dX8_add_41 hP hS
    · replace hF := hF.trans (if_pos hc2)
      refine lv_aload_n hx hb dX8_add_19 rfl (lv_at hl 0 rfl) ?_
      refine lv_ldc (v := (-1000001)) hx hb hown (hts _ kX8_add_0) dX8_add_20 ?_
      refine yk_i [0] (va_runV (As := [.int (-1000001)]) (rest := []) ⟨hx, hb, hml, hown, hts⟩ (c_X8_found l D cy ta m_now m_undone m_slots m_slotKind m_hasSlot m_sheetBits m_sheetSize m_sheets m_fresh m_rootWhich m_signs m_atNought m_change m_table m_carried u fi aa bb dd ro db mn (-1000001) H.size) (cwV 1 hts gX8_add_X8_found rfl rfl rfl hv_X8_found (yk_room hRf hRl rfl rfl)) (yk_pv (q := (RX8, TX8, 23)) hG hA hS hK hP hD [0] (by decide +kernel) rfl rfl rfl) rfl rfl hl.1 rfl (lv_room (Nat.le_of_ble_eq_true rfl)) dX8_add_22 ⟨Nat.zero_le _, Nat.zero_le _⟩) hP hD hS hA rfl rfl (fun H locs hP9 hD9 hS9 => ?_)
      replace hP : va_P D vwCl [(ta, .inr (8, [.ref m_now, .ref m_undone, .ref m_slots, .ref m_slotKind, .ref m_hasSlot, .ref m_sheetBits, .ref m_sheetSize, .ref m_sheets, .int (nI u), .int ((f_X8_found fi (-1000001)).2), .ref m_fresh, .long aa, .long bb, .long dd, .int (nI ro), .ref m_rootWhich, .int db, .ref m_signs, .ref m_atNought, .int (nI mn), .ref m_change, .ref m_table, .ref m_carried])), (m_now, .inl (cy 0, 29, .inl nw)), (m_undone, .inl (cy 0, 725, .inl un)), (m_slots, .inl (cy 0, 48, .inl sl)), (m_hasSlot, .inl (cy 2, 4, .inl hs)), (m_fresh, .inl (cy 0, 12, .inl fr))] H := hP9
      replace hD : va_D A [(ta, .inr (8, [.ref m_now, .ref m_undone, .ref m_slots, .ref m_slotKind, .ref m_hasSlot, .ref m_sheetBits, .ref m_sheetSize, .ref m_sheets, .int (nI u), .int ((f_X8_found fi (-1000001)).2), .ref m_fresh, .long aa, .long bb, .long dd, .int (nI ro), .ref m_rootWhich, .int db, .ref m_signs, .ref m_atNought, .int (nI mn), .ref m_change, .ref m_table, .ref m_carried])), (m_now, .inl (cy 0, 29, .inl nw)), (m_undone, .inl (cy 0, 725, .inl un)), (m_slots, .inl (cy 0, 48, .inl sl)), (m_hasSlot, .inl (cy 2, 4, .inl hs)), (m_fresh, .inl (cy 0, 12, .inl fr))] := hD9
      replace hS := hS9
      clear hP9 hD9 hS9
      have hF : f_X8_add nw un sl hs u fi fr px py = (((f_X8_found fi (-1000001)).1), u, ((f_X8_found fi (-1000001)).2), nw, un, fr) := hF
      have hf0 := yk_fst hF
      have hg0 := yk_snd hF
      have hf1 := yk_fst hg0
      have hg1 := yk_snd hg0
      have hf2 := yk_fst hg1
      have hg2 := yk_snd hg1
      have hf3 := yk_fst hg2
      have hg3 := yk_snd hg2
      have hf4 := yk_fst hg3
      have hg4 := yk_snd hg3
      rw [hf0, hf1, hf2, hf3, hf4, hg4] at hQ
      exact hQ _ _ _ _ dX8_add_25 hP hS

def f_X8_isRest (nw : Nat → Int32) (px : Int32) (py : Int32) : Int32 := (if (f_X8_speedAt nw px py 0) = 0 then (if (f_X8_speedAt nw px py 1) = 0 then 1 else 0) else 0)
theorem b_X8_isRest (nw : Nat → Int32) (px : Int32) (py : Int32) : (f_X8_isRest nw px py) = 0 ∨ (f_X8_isRest nw px py) = 1 := by
  unfold f_X8_isRest; (repeat' split) <;> first | exact Or.inl (by with_reducible rfl) | exact Or.inr (by with_reducible rfl)
set_option maxHeartbeats 400000000 in
set_option maxRecDepth 100000 in
theorem c_X8_isRest (l : Launch) (D : va_G) (cy : Nat → ClassId) (ta : Nat) (m_now : Nat) (m_undone : Nat) (m_slots : Nat) (m_slotKind : Nat) (m_hasSlot : Nat) (m_sheetBits : Nat) (m_sheetSize : Nat) (m_sheets : Nat) (m_fresh : Nat) (m_rootWhich : Nat) (m_signs : Nat) (m_atNought : Nat) (m_change : Nat) (m_table : Nat) (m_carried : Nat) (nw : Nat → Int32) (u : Nat) (fi : Int32) (aa : Int64) (bb : Int64) (dd : Int64) (ro : Nat) (db : Int32) (mn : Nat) (px : Int32) (py : Int32) : yk_Ci l D vwCl (yk_ty cy) yX8_isRest wsX8_isRest 2 45 [.ref ta, .int px, .int py] [(ta, .inr (8, [.ref m_now, .ref m_undone, .ref m_slots, .ref m_slotKind, .ref m_hasSlot, .ref m_sheetBits, .ref m_sheetSize, .ref m_sheets, .int (nI u), .int fi, .ref m_fresh, .long aa, .long bb, .long dd, .int (nI ro), .ref m_rootWhich, .int db, .ref m_signs, .ref m_atNought, .int (nI mn), .ref m_change, .ref m_table, .ref m_carried])), (m_now, .inl (cy 0, 29, .inl nw))] (f_X8_isRest nw px py) [(ta, .inr (8, [.ref m_now, .ref m_undone, .ref m_slots, .ref m_slotKind, .ref m_hasSlot, .ref m_sheetBits, .ref m_sheetSize, .ref m_sheets, .int (nI u), .int fi, .ref m_fresh, .long aa, .long bb, .long dd, .int (nI ro), .ref m_rootWhich, .int db, .ref m_signs, .ref m_atNought, .int (nI mn), .ref m_change, .ref m_table, .ref m_carried])), (m_now, .inl (cy 0, 29, .inl nw))] := by
  refine yk_eI (cc := cX8_isRest) (maxL := 3) (by decide) rfl (Nat.le_of_ble_eq_true rfl) (yk_nb (b_X8_isRest nw px py)) ?_
  intro p e R s m args below meth c A Q ls H locs hx hb hml hown hts hRf hRl hA hK hG hP hD hS hl hQ
  have hP : va_P D vwCl [(ta, .inr (8, [.ref m_now, .ref m_undone, .ref m_slots, .ref m_slotKind, .ref m_hasSlot, .ref m_sheetBits, .ref m_sheetSize, .ref m_sheets, .int (nI u), .int fi, .ref m_fresh, .long aa, .long bb, .long dd, .int (nI ro), .ref m_rootWhich, .int db, .ref m_signs, .ref m_atNought, .int (nI mn), .ref m_change, .ref m_table, .ref m_carried])), (m_now, .inl (cy 0, 29, .inl nw))] H := hP
  have hl : lv_has ls 3 [(0, .ref ta), (1, .int px), (2, .int py)] := hl
  have hown : s.vm.findClass RX8 = some m.cls := hown
  have hF : (f_X8_isRest nw px py) = (f_X8_isRest nw px py) := rfl
  refine lv_aload_n hx hb dX8_isRest_0 rfl (lv_at hl 0 rfl) ?_
  refine lv_iload_n hx hb dX8_isRest_1 rfl (lv_at hl 1 rfl) ?_
  refine lv_iload_n hx hb dX8_isRest_2 rfl (lv_at hl 2 rfl) ?_
  refine lv_iconst (v := 0) hx hb dX8_isRest_3 (by decide) ?_
  refine yk_i [0, 1] (va_runV (As := [.int px, .int py, .int 0]) (rest := []) ⟨hx, hb, hml, hown, hts⟩ (c_X8_speedAt l D cy ta m_now m_undone m_slots m_slotKind m_hasSlot m_sheetBits m_sheetSize m_sheets m_fresh m_rootWhich m_signs m_atNought m_change m_table m_carried nw u fi aa bb dd ro db mn px py 0 H.size) (cwV 3 hts gX8_isRest_X8_speedAt rfl rfl rfl hv_X8_speedAt (yk_room hRf hRl rfl rfl)) (yk_pv (q := (RX8, TX8, 23)) hG hA hS hK hP hD [0, 1] (by decide +kernel) rfl rfl rfl) rfl rfl hl.1 rfl (lv_room (Nat.le_of_ble_eq_true rfl)) dX8_isRest_4 ⟨Nat.zero_le _, Nat.zero_le _⟩) hP hD hS hA rfl rfl (fun H locs hP9 hD9 hS9 => ?_)
  replace hP : va_P D vwCl [(ta, .inr (8, [.ref m_now, .ref m_undone, .ref m_slots, .ref m_slotKind, .ref m_hasSlot, .ref m_sheetBits, .ref m_sheetSize, .ref m_sheets, .int (nI u), .int fi, .ref m_fresh, .long aa, .long bb, .long dd, .int (nI ro), .ref m_rootWhich, .int db, .ref m_signs, .ref m_atNought, .int (nI mn), .ref m_change, .ref m_table, .ref m_carried])), (m_now, .inl (cy 0, 29, .inl nw))] H := hP9
  replace hD : va_D A [(ta, .inr (8, [.ref m_now, .ref m_undone, .ref m_slots, .ref m_slotKind, .ref m_hasSlot, .ref m_sheetBits, .ref m_sheetSize, .ref m_sheets, .int (nI u), .int fi, .ref m_fresh, .long aa, .long bb, .long dd, .int (nI ro), .ref m_rootWhich, .int db, .ref m_signs, .ref m_atNought, .int (nI mn), .ref m_change, .ref m_table, .ref m_carried])), (m_now, .inl (cy 0, 29, .inl nw))] := hD9
  replace hS := hS9
  clear hP9 hD9 hS9
  have J4 : ∀ (v3 : Int32) (H : Heap) (locs : List Loc) (ls : Array Slot), v3 = (if (f_X8_speedAt nw px py 0) = 0 then (if (f_X8_speedAt nw px py 1) = 0 then 1 else 0) else 0) → va_P D vwCl [(ta, .inr (8, [.ref m_now, .ref m_undone, .ref m_slots, .ref m_slotKind, .ref m_hasSlot, .ref m_sheetBits, .ref m_sheetSize, .ref m_sheets, .int (nI u), .int fi, .ref m_fresh, .long aa, .long bb, .long dd, .int (nI ro), .ref m_rootWhich, .int db, .ref m_signs, .ref m_atNought, .int (nI mn), .ref m_change, .ref m_table, .ref m_carried])), (m_now, .inl (cy 0, 29, .inl nw))] H → va_D A [(ta, .inr (8, [.ref m_now, .ref m_undone, .ref m_slots, .ref m_slotKind, .ref m_hasSlot, .ref m_sheetBits, .ref m_sheetSize, .ref m_sheets, .int (nI u), .int fi, .ref m_fresh, .long aa, .long bb, .long dd, .int (nI ro), .ref m_rootWhich, .int db, .ref m_signs, .ref m_atNought, .int (nI mn), .ref m_change, .ref m_table, .ref m_carried])), (m_now, .inl (cy 0, 29, .inl nw))] → va_S A s.heap H locs → lv_has ls 3 [(0, .ref ta), (1, .int px), (2, .int py)] → W p l e R s m args below meth c H locs 0 0 Q (F0 m 25 ls [.int v3]) := by
    clear hP hD hS hl
    intro v3 H locs ls ev3 hP hD hS hl
    subst ev3
    have hF : f_X8_isRest nw px py = (if (f_X8_speedAt nw px py 0) = 0 then (if (f_X8_speedAt nw px py 1) = 0 then 1 else 0) else 0) := hF
    rw [hF] at hQ
    exact hQ _ _ _ _ dX8_isRest_25 hP hS
  refine lv_if_ne (tgt := 24) hx hb dX8_isRest_7 (by decide) (fun hc1 => ?_) (fun hc1 => ?_)
  · refine lv_iconst (v := 0) hx hb dX8_isRest_24 (by decide) ?_
    exact J4 _ _ _ _ ((if_neg hc1).symm) hP hD hS (lv_sub hl [0, 1, 2] rfl)
  · refine lv_aload_n hx hb dX8_isRest_10 rfl (lv_at hl 0 rfl) ?_
    refine lv_iload_n hx hb dX8_isRest_11 rfl (lv_at hl 1 rfl) ?_
    refine lv_iload_n hx hb dX8_isRest_12 rfl (lv_at hl 2 rfl) ?_
    refine lv_iconst (v := 1) hx hb dX8_isRest_13 (by decide) ?_
    refine yk_i [0, 1] (va_runV (As := [.int px, .int py, .int 1]) (rest := []) ⟨hx, hb, hml, hown, hts⟩ (c_X8_speedAt l D cy ta m_now m_undone m_slots m_slotKind m_hasSlot m_sheetBits m_sheetSize m_sheets m_fresh m_rootWhich m_signs m_atNought m_change m_table m_carried nw u fi aa bb dd ro db mn px py 1 H.size) (cwV 3 hts gX8_isRest_X8_speedAt rfl rfl rfl hv_X8_speedAt (yk_room hRf hRl rfl rfl)) (yk_pv (q := (RX8, TX8, 23)) hG hA hS hK hP hD [0, 1] (by decide +kernel) rfl rfl rfl) rfl rfl hl.1 rfl (lv_room (Nat.le_of_ble_eq_true rfl)) dX8_isRest_14 ⟨Nat.zero_le _, Nat.zero_le _⟩) hP hD hS hA rfl rfl (fun H locs hP9 hD9 hS9 => ?_)
    replace hP : va_P D vwCl [(ta, .inr (8, [.ref m_now, .ref m_undone, .ref m_slots, .ref m_slotKind, .ref m_hasSlot, .ref m_sheetBits, .ref m_sheetSize, .ref m_sheets, .int (nI u), .int fi, .ref m_fresh, .long aa, .long bb, .long dd, .int (nI ro), .ref m_rootWhich, .int db, .ref m_signs, .ref m_atNought, .int (nI mn), .ref m_change, .ref m_table, .ref m_carried])), (m_now, .inl (cy 0, 29, .inl nw))] H := hP9
    replace hD : va_D A [(ta, .inr (8, [.ref m_now, .ref m_undone, .ref m_slots, .ref m_slotKind, .ref m_hasSlot, .ref m_sheetBits, .ref m_sheetSize, .ref m_sheets, .int (nI u), .int fi, .ref m_fresh, .long aa, .long bb, .long dd, .int (nI ro), .ref m_rootWhich, .int db, .ref m_signs, .ref m_atNought, .int (nI mn), .ref m_change, .ref m_table, .ref m_carried])), (m_now, .inl (cy 0, 29, .inl nw))] := hD9
    replace hS := hS9
    clear hP9 hD9 hS9
    refine lv_if_ne (tgt := 24) hx hb dX8_isRest_17 (by decide) (fun hc2 => ?_) (fun hc2 => ?_)
    · refine lv_iconst (v := 0) hx hb dX8_isRest_24 (by decide) ?_
      exact J4 _ _ _ _ (((if_pos hc1).trans (if_neg hc2)).symm) hP hD hS (lv_sub hl [0, 1, 2] rfl)
    · refine lv_iconst (v := 1) hx hb dX8_isRest_20 (by decide) ?_
      refine lv_goto (tgt := 25) hx hb dX8_isRest_21 (by decide) ?_
      exact J4 _ _ _ _ (((if_pos hc1).trans (if_pos hc2)).symm) hP hD hS (lv_sub hl [0, 1, 2] rfl)

def l_X8_rests_14 (nw : Nat → Int32) (ki : Nat) (z1_5 : Int32) : Nat → Nat → Int32 → Int32
  | 0, kj, z1_14 => z1_14
  | fu_X8_rests_14 + 1, kj, z1_14 => (if 6 < (nI kj - 6) then z1_14 else (l_X8_rests_14 nw ki z1_5 fu_X8_rests_14 (kj + 1) (z1_14 + (if (f_X8_isRest nw (nI ki - 6) (nI kj - 6)) = 0 then 0 else 1))))
def l_X8_rests_5 (nw : Nat → Int32) : Nat → Nat → Int32 → Int32
  | 0, ki, z1_5 => z1_5
  | fu_X8_rests_5 + 1, ki, z1_5 => (if 6 < (nI ki - 6) then z1_5 else (l_X8_rests_5 nw fu_X8_rests_5 (ki + 1) (l_X8_rests_14 nw ki z1_5 (13 + 1) 0 z1_5)))
def f_X8_rests (nw : Nat → Int32) : Int32 := (l_X8_rests_5 nw (13 + 1) 0 0)
set_option maxHeartbeats 400000000 in
set_option maxRecDepth 100000 in
theorem c_X8_rests (l : Launch) (D : va_G) (cy : Nat → ClassId) (ta : Nat) (m_now : Nat) (m_undone : Nat) (m_slots : Nat) (m_slotKind : Nat) (m_hasSlot : Nat) (m_sheetBits : Nat) (m_sheetSize : Nat) (m_sheets : Nat) (m_fresh : Nat) (m_rootWhich : Nat) (m_signs : Nat) (m_atNought : Nat) (m_change : Nat) (m_table : Nat) (m_carried : Nat) (nw : Nat → Int32) (u : Nat) (fi : Int32) (aa : Int64) (bb : Int64) (dd : Int64) (ro : Nat) (db : Int32) (mn : Nat) : yk_Ci l D vwCl (yk_ty cy) yX8_rests wsX8_rests 3 67 [.ref ta] [(ta, .inr (8, [.ref m_now, .ref m_undone, .ref m_slots, .ref m_slotKind, .ref m_hasSlot, .ref m_sheetBits, .ref m_sheetSize, .ref m_sheets, .int (nI u), .int fi, .ref m_fresh, .long aa, .long bb, .long dd, .int (nI ro), .ref m_rootWhich, .int db, .ref m_signs, .ref m_atNought, .int (nI mn), .ref m_change, .ref m_table, .ref m_carried])), (m_now, .inl (cy 0, 29, .inl nw))] (f_X8_rests nw) [(ta, .inr (8, [.ref m_now, .ref m_undone, .ref m_slots, .ref m_slotKind, .ref m_hasSlot, .ref m_sheetBits, .ref m_sheetSize, .ref m_sheets, .int (nI u), .int fi, .ref m_fresh, .long aa, .long bb, .long dd, .int (nI ro), .ref m_rootWhich, .int db, .ref m_signs, .ref m_atNought, .int (nI mn), .ref m_change, .ref m_table, .ref m_carried])), (m_now, .inl (cy 0, 29, .inl nw))] := by
  refine yk_eI (cc := cX8_rests) (maxL := 4) (by decide) rfl (Nat.le_of_ble_eq_true rfl) rfl ?_
  intro p e R s m args below meth c A Q ls H locs hx hb hml hown hts hRf hRl hA hK hG hP hD hS hl hQ
  have hP : va_P D vwCl [(ta, .inr (8, [.ref m_now, .ref m_undone, .ref m_slots, .ref m_slotKind, .ref m_hasSlot, .ref m_sheetBits, .ref m_sheetSize, .ref m_sheets, .int (nI u), .int fi, .ref m_fresh, .long aa, .long bb, .long dd, .int (nI ro), .ref m_rootWhich, .int db, .ref m_signs, .ref m_atNought, .int (nI mn), .ref m_change, .ref m_table, .ref m_carried])), (m_now, .inl (cy 0, 29, .inl nw))] H := hP
  have hl : lv_has ls 4 [(0, .ref ta)] := hl
  have hown : s.vm.findClass RX8 = some m.cls := hown
  have hF : (f_X8_rests nw) = (f_X8_rests nw) := rfl
  refine lv_iconst (v := 0) hx hb dX8_rests_0 (by decide) ?_
  refine lv_istore_n (lv' := [(1, .int 0), (0, .ref ta)]) hx hb dX8_rests_1 rfl hl (by decide) rfl (fun ls hl9 => ?_)
  replace hl := hl9
  clear hl9
  refine lv_bipush (v := (-6)) hx hb dX8_rests_2 (by decide) ?_
  refine lv_istore_n (lv' := [(2, .int (-6)), (1, .int 0), (0, .ref ta)]) hx hb dX8_rests_4 rfl hl (by decide) rfl (fun ls hl9 => ?_)
  replace hl := hl9
  clear hl9
  have J7 : ∀ (H : Heap) (locs : List Loc) (ls : Array Slot), va_P D vwCl [(ta, .inr (8, [.ref m_now, .ref m_undone, .ref m_slots, .ref m_slotKind, .ref m_hasSlot, .ref m_sheetBits, .ref m_sheetSize, .ref m_sheets, .int (nI u), .int fi, .ref m_fresh, .long aa, .long bb, .long dd, .int (nI ro), .ref m_rootWhich, .int db, .ref m_signs, .ref m_atNought, .int (nI mn), .ref m_change, .ref m_table, .ref m_carried])), (m_now, .inl (cy 0, 29, .inl nw))] H → va_D A [(ta, .inr (8, [.ref m_now, .ref m_undone, .ref m_slots, .ref m_slotKind, .ref m_hasSlot, .ref m_sheetBits, .ref m_sheetSize, .ref m_sheets, .int (nI u), .int fi, .ref m_fresh, .long aa, .long bb, .long dd, .int (nI ro), .ref m_rootWhich, .int db, .ref m_signs, .ref m_atNought, .int (nI mn), .ref m_change, .ref m_table, .ref m_carried])), (m_now, .inl (cy 0, 29, .inl nw))] → va_S A s.heap H locs → lv_has ls 4 [(0, .ref ta), (1, .int (l_X8_rests_5 nw (13 + 1) 0 0))] → W p l e R s m args below meth c H locs 0 0 Q (F0 m 49 ls []) := by
    clear hP hD hS hl
    intro H locs ls hP hD hS hl
    refine lv_iload_n hx hb dX8_rests_49 rfl (lv_at hl 1 rfl) ?_
    have hF : f_X8_rests nw = (l_X8_rests_5 nw (13 + 1) 0 0) := hF
    rw [hF] at hQ
    exact hQ _ _ _ _ dX8_rests_50 hP hS
  have L5 : ∀ (M9 n5 ki : Nat) (z1_5 : Int32) (H : Heap) (locs : List Loc) (ls : Array Slot), n5 < M9 → ki + n5 = 13 → (l_X8_rests_5 nw (13 + 1) 0 0) = (l_X8_rests_5 nw (n5 + 1) ki z1_5) → va_P D vwCl [(ta, .inr (8, [.ref m_now, .ref m_undone, .ref m_slots, .ref m_slotKind, .ref m_hasSlot, .ref m_sheetBits, .ref m_sheetSize, .ref m_sheets, .int (nI u), .int fi, .ref m_fresh, .long aa, .long bb, .long dd, .int (nI ro), .ref m_rootWhich, .int db, .ref m_signs, .ref m_atNought, .int (nI mn), .ref m_change, .ref m_table, .ref m_carried])), (m_now, .inl (cy 0, 29, .inl nw))] H → va_D A [(ta, .inr (8, [.ref m_now, .ref m_undone, .ref m_slots, .ref m_slotKind, .ref m_hasSlot, .ref m_sheetBits, .ref m_sheetSize, .ref m_sheets, .int (nI u), .int fi, .ref m_fresh, .long aa, .long bb, .long dd, .int (nI ro), .ref m_rootWhich, .int db, .ref m_signs, .ref m_atNought, .int (nI mn), .ref m_change, .ref m_table, .ref m_carried])), (m_now, .inl (cy 0, 29, .inl nw))] → va_S A s.heap H locs → lv_has ls 4 [(0, .ref ta), (1, .int z1_5), (2, .int (nI ki - 6))] → W p l e R s m args below meth c H locs 0 0 Q (F0 m 5 ls []) := by
    clear hP hD hS hl
    intro M9
    induction M9 with
    | zero => intro n5 ki _ _ _ _ hn; exact absurd hn (Nat.not_lt_zero _)
    | succ M9 ih5 =>
      intro n5 ki z1_5 H locs ls hn5 hk5 hV5 hP hD hS hl
      refine lv_iload_n hx hb dX8_rests_5 rfl (lv_at hl 2 rfl) ?_
      refine lv_bipush (v := 6) hx hb dX8_rests_6 (by decide) ?_
      refine lv_icmp_gt (tgt := 49) hx hb dX8_rests_8 (by decide) (fun hc1 => ?_) (fun hc1 => ?_)
      · replace hV5 := hV5.trans (if_pos hc1)
        have hV5 : (l_X8_rests_5 nw (13 + 1) 0 0) = z1_5 := hV5
        have J7 := J7
        rw [hV5] at J7
        exact J7 _ _ _ hP hD hS (lv_sub hl [0, 1] rfl)
      · replace hV5 := hV5.trans (if_neg hc1)
        have hlt5 : ki < 13 := yk_lt6 hk5 hc1
        refine lv_bipush (v := (-6)) hx hb dX8_rests_11 (by decide) ?_
        refine lv_istore_n (lv' := [(3, .int (-6)), (0, .ref ta), (1, .int z1_5), (2, .int (nI ki - 6))]) hx hb dX8_rests_13 rfl hl (by decide) rfl (fun ls hl9 => ?_)
        replace hl := hl9
        clear hl9
        have J6 : ∀ (H : Heap) (locs : List Loc) (ls : Array Slot), va_P D vwCl [(ta, .inr (8, [.ref m_now, .ref m_undone, .ref m_slots, .ref m_slotKind, .ref m_hasSlot, .ref m_sheetBits, .ref m_sheetSize, .ref m_sheets, .int (nI u), .int fi, .ref m_fresh, .long aa, .long bb, .long dd, .int (nI ro), .ref m_rootWhich, .int db, .ref m_signs, .ref m_atNought, .int (nI mn), .ref m_change, .ref m_table, .ref m_carried])), (m_now, .inl (cy 0, 29, .inl nw))] H → va_D A [(ta, .inr (8, [.ref m_now, .ref m_undone, .ref m_slots, .ref m_slotKind, .ref m_hasSlot, .ref m_sheetBits, .ref m_sheetSize, .ref m_sheets, .int (nI u), .int fi, .ref m_fresh, .long aa, .long bb, .long dd, .int (nI ro), .ref m_rootWhich, .int db, .ref m_signs, .ref m_atNought, .int (nI mn), .ref m_change, .ref m_table, .ref m_carried])), (m_now, .inl (cy 0, 29, .inl nw))] → va_S A s.heap H locs → lv_has ls 4 [(0, .ref ta), (1, .int (l_X8_rests_14 nw ki z1_5 (13 + 1) 0 z1_5)), (2, .int (nI ki - 6))] → W p l e R s m args below meth c H locs 0 0 Q (F0 m 43 ls []) := by
          clear hP hD hS hl
          intro H locs ls hP hD hS hl
          refine lv_iinc (v := ((nI ki - 6) + 1)) (lv' := [(2, .int ((nI ki - 6) + 1)), (0, .ref ta), (1, .int (l_X8_rests_14 nw ki z1_5 (13 + 1) 0 z1_5))]) hx hb dX8_rests_43 hl (k := 2) rfl (yk_incg _) (by decide) rfl (fun ls hl9 => ?_)
          replace hl := hl9
          clear hl9
          refine lv_goto (tgt := 5) hx hb dX8_rests_46 (by decide) ?_
          obtain ⟨n9, rfl⟩ : ∃ n9, n5 = n9 + 1 := ⟨n5 - 1, by omega⟩
          rw [yk_off ki 6] at hl
          exact ih5 n9 (ki + 1) (l_X8_rests_14 nw ki z1_5 (13 + 1) 0 z1_5) _ _ _ (by omega) (by omega)  hV5 hP hD hS (lv_sub hl [1, 2, 0] rfl)
        have L14 : ∀ (M9 n14 kj : Nat) (z1_14 : Int32) (H : Heap) (locs : List Loc) (ls : Array Slot), n14 < M9 → kj + n14 = 13 → (l_X8_rests_14 nw ki z1_5 (13 + 1) 0 z1_5) = (l_X8_rests_14 nw ki z1_5 (n14 + 1) kj z1_14) → va_P D vwCl [(ta, .inr (8, [.ref m_now, .ref m_undone, .ref m_slots, .ref m_slotKind, .ref m_hasSlot, .ref m_sheetBits, .ref m_sheetSize, .ref m_sheets, .int (nI u), .int fi, .ref m_fresh, .long aa, .long bb, .long dd, .int (nI ro), .ref m_rootWhich, .int db, .ref m_signs, .ref m_atNought, .int (nI mn), .ref m_change, .ref m_table, .ref m_carried])), (m_now, .inl (cy 0, 29, .inl nw))] H → va_D A [(ta, .inr (8, [.ref m_now, .ref m_undone, .ref m_slots, .ref m_slotKind, .ref m_hasSlot, .ref m_sheetBits, .ref m_sheetSize, .ref m_sheets, .int (nI u), .int fi, .ref m_fresh, .long aa, .long bb, .long dd, .int (nI ro), .ref m_rootWhich, .int db, .ref m_signs, .ref m_atNought, .int (nI mn), .ref m_change, .ref m_table, .ref m_carried])), (m_now, .inl (cy 0, 29, .inl nw))] → va_S A s.heap H locs → lv_has ls 4 [(0, .ref ta), (1, .int z1_14), (2, .int (nI ki - 6)), (3, .int (nI kj - 6))] → W p l e R s m args below meth c H locs 0 0 Q (F0 m 14 ls []) := by
          clear hP hD hS hl
          intro M9
          induction M9 with
          | zero => intro n14 kj _ _ _ _ hn; exact absurd hn (Nat.not_lt_zero _)
          | succ M9 ih14 =>
            intro n14 kj z1_14 H locs ls hn14 hk14 hV14 hP hD hS hl
            refine lv_iload_n hx hb dX8_rests_14 rfl (lv_at hl 3 rfl) ?_
            refine lv_bipush (v := 6) hx hb dX8_rests_15 (by decide) ?_
            refine lv_icmp_gt (tgt := 43) hx hb dX8_rests_17 (by decide) (fun hc2 => ?_) (fun hc2 => ?_)
            · replace hV14 := hV14.trans (if_pos hc2)
              have hV14 : (l_X8_rests_14 nw ki z1_5 (13 + 1) 0 z1_5) = z1_14 := hV14
              have J6 := J6
              rw [hV14] at J6
              exact J6 _ _ _ hP hD hS (lv_sub hl [0, 1, 2] rfl)
            · replace hV14 := hV14.trans (if_neg hc2)
              have hlt14 : kj < 13 := yk_lt6 hk14 hc2
              refine lv_iload_n hx hb dX8_rests_20 rfl (lv_at hl 1 rfl) ?_
              refine lv_aload_n hx hb dX8_rests_21 rfl (lv_at hl 0 rfl) ?_
              refine lv_iload_n hx hb dX8_rests_22 rfl (lv_at hl 2 rfl) ?_
              refine lv_iload_n hx hb dX8_rests_23 rfl (lv_at hl 3 rfl) ?_
              refine yk_i [0, 1] (va_runV (As := [.int (nI ki - 6), .int (nI kj - 6)]) (rest := [.int z1_14]) ⟨hx, hb, hml, hown, hts⟩ (c_X8_isRest l D cy ta m_now m_undone m_slots m_slotKind m_hasSlot m_sheetBits m_sheetSize m_sheets m_fresh m_rootWhich m_signs m_atNought m_change m_table m_carried nw u fi aa bb dd ro db mn (nI ki - 6) (nI kj - 6) H.size) (cwV 2 hts gX8_rests_X8_isRest rfl rfl rfl hv_X8_isRest (yk_room hRf hRl rfl rfl)) (yk_pv (q := (RX8, TX8, 23)) hG hA hS hK hP hD [0, 1] (by decide +kernel) rfl rfl rfl) rfl rfl hl.1 rfl (lv_room (Nat.le_of_ble_eq_true rfl)) dX8_rests_24 ⟨Nat.zero_le _, Nat.zero_le _⟩) hP hD hS hA rfl rfl (fun H locs hP9 hD9 hS9 => ?_)
              replace hP : va_P D vwCl [(ta, .inr (8, [.ref m_now, .ref m_undone, .ref m_slots, .ref m_slotKind, .ref m_hasSlot, .ref m_sheetBits, .ref m_sheetSize, .ref m_sheets, .int (nI u), .int fi, .ref m_fresh, .long aa, .long bb, .long dd, .int (nI ro), .ref m_rootWhich, .int db, .ref m_signs, .ref m_atNought, .int (nI mn), .ref m_change, .ref m_table, .ref m_carried])), (m_now, .inl (cy 0, 29, .inl nw))] H := hP9
              replace hD : va_D A [(ta, .inr (8, [.ref m_now, .ref m_undone, .ref m_slots, .ref m_slotKind, .ref m_hasSlot, .ref m_sheetBits, .ref m_sheetSize, .ref m_sheets, .int (nI u), .int fi, .ref m_fresh, .long aa, .long bb, .long dd, .int (nI ro), .ref m_rootWhich, .int db, .ref m_signs, .ref m_atNought, .int (nI mn), .ref m_change, .ref m_table, .ref m_carried])), (m_now, .inl (cy 0, 29, .inl nw))] := hD9
              replace hS := hS9
              clear hP9 hD9 hS9
              have J5 : ∀ (v4 : Int32) (H : Heap) (locs : List Loc) (ls : Array Slot), v4 = (if (f_X8_isRest nw (nI ki - 6) (nI kj - 6)) = 0 then 0 else 1) → va_P D vwCl [(ta, .inr (8, [.ref m_now, .ref m_undone, .ref m_slots, .ref m_slotKind, .ref m_hasSlot, .ref m_sheetBits, .ref m_sheetSize, .ref m_sheets, .int (nI u), .int fi, .ref m_fresh, .long aa, .long bb, .long dd, .int (nI ro), .ref m_rootWhich, .int db, .ref m_signs, .ref m_atNought, .int (nI mn), .ref m_change, .ref m_table, .ref m_carried])), (m_now, .inl (cy 0, 29, .inl nw))] H → va_D A [(ta, .inr (8, [.ref m_now, .ref m_undone, .ref m_slots, .ref m_slotKind, .ref m_hasSlot, .ref m_sheetBits, .ref m_sheetSize, .ref m_sheets, .int (nI u), .int fi, .ref m_fresh, .long aa, .long bb, .long dd, .int (nI ro), .ref m_rootWhich, .int db, .ref m_signs, .ref m_atNought, .int (nI mn), .ref m_change, .ref m_table, .ref m_carried])), (m_now, .inl (cy 0, 29, .inl nw))] → va_S A s.heap H locs → lv_has ls 4 [(0, .ref ta), (1, .int z1_14), (2, .int (nI ki - 6)), (3, .int (nI kj - 6))] → W p l e R s m args below meth c H locs 0 0 Q (F0 m 35 ls [.int v4, .int z1_14]) := by
                clear hP hD hS hl
                intro v4 H locs ls ev4 hP hD hS hl
                subst ev4
                refine lv_iadd hx hb dX8_rests_35 ?_
                refine lv_istore_n (lv' := [(1, .int (z1_14 + (if (f_X8_isRest nw (nI ki - 6) (nI kj - 6)) = 0 then 0 else 1))), (0, .ref ta), (2, .int (nI ki - 6)), (3, .int (nI kj - 6))]) hx hb dX8_rests_36 rfl hl (by decide) rfl (fun ls hl9 => ?_)
                replace hl := hl9
                clear hl9
                refine lv_iinc (v := ((nI kj - 6) + 1)) (lv' := [(3, .int ((nI kj - 6) + 1)), (1, .int (z1_14 + (if (f_X8_isRest nw (nI ki - 6) (nI kj - 6)) = 0 then 0 else 1))), (0, .ref ta), (2, .int (nI ki - 6))]) hx hb dX8_rests_37 hl (k := 3) rfl (yk_incg _) (by decide) rfl (fun ls hl9 => ?_)
                replace hl := hl9
                clear hl9
                refine lv_goto (tgt := 14) hx hb dX8_rests_40 (by decide) ?_
                obtain ⟨n9, rfl⟩ : ∃ n9, n14 = n9 + 1 := ⟨n14 - 1, by omega⟩
                rw [yk_off kj 6] at hl
                exact ih14 n9 (kj + 1) (z1_14 + (if (f_X8_isRest nw (nI ki - 6) (nI kj - 6)) = 0 then 0 else 1)) _ _ _ (by omega) (by omega)  hV14 hP hD hS (lv_sub hl [2, 1, 3, 0] rfl)
              refine lv_if_eq (tgt := 34) hx hb dX8_rests_27 (by decide) (fun hc3 => ?_) (fun hc3 => ?_)
              · refine lv_iconst (v := 0) hx hb dX8_rests_34 (by decide) ?_
                exact J5 _ _ _ _ ((if_pos hc3).symm) hP hD hS (lv_sub hl [0, 1, 2, 3] rfl)
              · refine lv_iconst (v := 1) hx hb dX8_rests_30 (by decide) ?_
                refine lv_goto (tgt := 35) hx hb dX8_rests_31 (by decide) ?_
                exact J5 _ _ _ _ ((if_neg hc3).symm) hP hD hS (lv_sub hl [0, 1, 2, 3] rfl)
        rw [show (-6 : Int32) = nI 0 - 6 from rfl] at hl
        exact L14 (13 + 1) 13 0 z1_5 _ _ _ (Nat.lt_succ_self _) (by omega)  rfl hP hD hS (lv_sub hl [1, 2, 3, 0] rfl)
  rw [show (-6 : Int32) = nI 0 - 6 from rfl] at hl
  exact L5 (13 + 1) 13 0 0 _ _ _ (Nat.lt_succ_self _) (by omega)  rfl hP hD hS (lv_sub hl [2, 1, 0] rfl)

theorem kX8_rest_0 : Cond.constant RX8 100 (-1000006) ∈ wsX8_rest := by decide +kernel
def l_X8_rest_17 (nw : Nat → Int32) (fi : Int32) (px : Int32) (bq : Int32) (ki : Nat) (z3_6 : Int32) (kc : Nat → Int32 → Int32 × Int32) : Nat → Nat → Int32 → Int32 × Int32
  | 0, kj, z3_17 => (0, fi)
  | fu_X8_rest_17 + 1, kj, z3_17 => (if 6 < (nI kj - 6) then (kc (ki + 1) z3_17) else (if (f_X8_isRest nw (nI ki - 6) (nI kj - 6)) = 0 then (l_X8_rest_17 nw fi px bq ki z3_6 kc fu_X8_rest_17 (kj + 1) z3_17) else (if z3_17 = 0 then ((if bq = 0 then (nI ki - 6) else (nI kj - 6)), fi) else (l_X8_rest_17 nw fi px bq ki z3_6 kc fu_X8_rest_17 (kj + 1) (z3_17 - 1)))))
def l_X8_rest_6 (nw : Nat → Int32) (fi : Int32) (px : Int32) (bq : Int32) : Nat → Nat → Int32 → Int32 × Int32
  | 0, ki, z3_6 => (0, fi)
  | fu_X8_rest_6 + 1, ki, z3_6 => (if 6 < (nI ki - 6) then (((f_X8_found fi (-1000006)).1), ((f_X8_found fi (-1000006)).2)) else (l_X8_rest_17 nw fi px bq ki z3_6 (fun ki' z3_6' => l_X8_rest_6 nw fi px bq fu_X8_rest_6 (ki') (z3_6')) (13 + 1) 0 z3_6))
def f_X8_rest (nw : Nat → Int32) (fi : Int32) (px : Int32) (bq : Int32) : Int32 × Int32 := (l_X8_rest_6 nw fi px bq (13 + 1) 0 px)
set_option maxHeartbeats 400000000 in
set_option maxRecDepth 100000 in
theorem c_X8_rest (l : Launch) (D : va_G) (cy : Nat → ClassId) (ta : Nat) (m_now : Nat) (m_undone : Nat) (m_slots : Nat) (m_slotKind : Nat) (m_hasSlot : Nat) (m_sheetBits : Nat) (m_sheetSize : Nat) (m_sheets : Nat) (m_fresh : Nat) (m_rootWhich : Nat) (m_signs : Nat) (m_atNought : Nat) (m_change : Nat) (m_table : Nat) (m_carried : Nat) (nw : Nat → Int32) (u : Nat) (fi : Int32) (aa : Int64) (bb : Int64) (dd : Int64) (ro : Nat) (db : Int32) (mn : Nat) (px : Int32) (bq : Int32) : yk_Ci l D vwCl (yk_ty cy) yX8_rest wsX8_rest 3 67 [.ref ta, .int px, .int bq] [(ta, .inr (8, [.ref m_now, .ref m_undone, .ref m_slots, .ref m_slotKind, .ref m_hasSlot, .ref m_sheetBits, .ref m_sheetSize, .ref m_sheets, .int (nI u), .int fi, .ref m_fresh, .long aa, .long bb, .long dd, .int (nI ro), .ref m_rootWhich, .int db, .ref m_signs, .ref m_atNought, .int (nI mn), .ref m_change, .ref m_table, .ref m_carried])), (m_now, .inl (cy 0, 29, .inl nw))] ((f_X8_rest nw fi px bq).1) [(ta, .inr (8, [.ref m_now, .ref m_undone, .ref m_slots, .ref m_slotKind, .ref m_hasSlot, .ref m_sheetBits, .ref m_sheetSize, .ref m_sheets, .int (nI u), .int ((f_X8_rest nw fi px bq).2), .ref m_fresh, .long aa, .long bb, .long dd, .int (nI ro), .ref m_rootWhich, .int db, .ref m_signs, .ref m_atNought, .int (nI mn), .ref m_change, .ref m_table, .ref m_carried])), (m_now, .inl (cy 0, 29, .inl nw))] := by
  refine yk_eI (cc := cX8_rest) (maxL := 6) (by decide) rfl (Nat.le_of_ble_eq_true rfl) rfl ?_
  intro p e R s m args below meth c A Q ls H locs hx hb hml hown hts hRf hRl hA hK hG hP hD hS hl hQ
  have hP : va_P D vwCl [(ta, .inr (8, [.ref m_now, .ref m_undone, .ref m_slots, .ref m_slotKind, .ref m_hasSlot, .ref m_sheetBits, .ref m_sheetSize, .ref m_sheets, .int (nI u), .int fi, .ref m_fresh, .long aa, .long bb, .long dd, .int (nI ro), .ref m_rootWhich, .int db, .ref m_signs, .ref m_atNought, .int (nI mn), .ref m_change, .ref m_table, .ref m_carried])), (m_now, .inl (cy 0, 29, .inl nw))] H := hP
  have hl : lv_has ls 6 [(0, .ref ta), (1, .int px), (2, .int bq)] := hl
  have hown : s.vm.findClass RX8 = some m.cls := hown
  have hF : (f_X8_rest nw fi px bq) = (f_X8_rest nw fi px bq) := rfl
  refine lv_iload_n hx hb dX8_rest_0 rfl (lv_at hl 1 rfl) ?_
  refine lv_istore_n (lv' := [(3, .int px), (0, .ref ta), (1, .int px), (2, .int bq)]) hx hb dX8_rest_1 rfl hl (by decide) rfl (fun ls hl9 => ?_)
  replace hl := hl9
  clear hl9
  refine lv_bipush (v := (-6)) hx hb dX8_rest_2 (by decide) ?_
  refine lv_istore (lv' := [(4, .int (-6)), (3, .int px), (0, .ref ta), (1, .int px), (2, .int bq)]) hx hb dX8_rest_4 hl (by decide) rfl (fun ls hl9 => ?_)
  replace hl := hl9
  clear hl9
  have L6 : ∀ (M9 n6 ki : Nat) (z3_6 : Int32) (H : Heap) (locs : List Loc) (ls : Array Slot), n6 < M9 → ki + n6 = 13 → f_X8_rest nw fi px bq = (l_X8_rest_6 nw fi px bq (n6 + 1) ki z3_6) → va_P D vwCl [(ta, .inr (8, [.ref m_now, .ref m_undone, .ref m_slots, .ref m_slotKind, .ref m_hasSlot, .ref m_sheetBits, .ref m_sheetSize, .ref m_sheets, .int (nI u), .int fi, .ref m_fresh, .long aa, .long bb, .long dd, .int (nI ro), .ref m_rootWhich, .int db, .ref m_signs, .ref m_atNought, .int (nI mn), .ref m_change, .ref m_table, .ref m_carried])), (m_now, .inl (cy 0, 29, .inl nw))] H → va_D A [(ta, .inr (8, [.ref m_now, .ref m_undone, .ref m_slots, .ref m_slotKind, .ref m_hasSlot, .ref m_sheetBits, .ref m_sheetSize, .ref m_sheets, .int (nI u), .int fi, .ref m_fresh, .long aa, .long bb, .long dd, .int (nI ro), .ref m_rootWhich, .int db, .ref m_signs, .ref m_atNought, .int (nI mn), .ref m_change, .ref m_table, .ref m_carried])), (m_now, .inl (cy 0, 29, .inl nw))] → va_S A s.heap H locs → lv_has ls 6 [(0, .ref ta), (1, .int px), (2, .int bq), (3, .int z3_6), (4, .int (nI ki - 6))] → W p l e R s m args below meth c H locs 0 0 Q (F0 m 6 ls []) := by
    clear hP hD hS hl hF
    intro M9
    induction M9 with
    | zero => intro n6 ki _ _ _ _ hn; exact absurd hn (Nat.not_lt_zero _)
    | succ M9 ih6 =>
      intro n6 ki z3_6 H locs ls hn6 hk6 hF hP hD hS hl
      refine lv_iload hx hb dX8_rest_6 (lv_at hl 4 rfl) ?_
      refine lv_bipush (v := 6) hx hb dX8_rest_8 (by decide) ?_
      refine lv_icmp_gt (tgt := 69) hx hb dX8_rest_10 (by decide) (fun hc1 => ?_) (fun hc1 => ?_)
      · replace hF := hF.trans (if_pos hc1)
        refine lv_aload_n hx hb dX8_rest_69 rfl (lv_at hl 0 rfl) ?_
        refine lv_ldc (v := (-1000006)) hx hb hown (hts _ kX8_rest_0) dX8_rest_70 ?_
        refine yk_i [0] (va_runV (As := [.int (-1000006)]) (rest := []) ⟨hx, hb, hml, hown, hts⟩ (c_X8_found l D cy ta m_now m_undone m_slots m_slotKind m_hasSlot m_sheetBits m_sheetSize m_sheets m_fresh m_rootWhich m_signs m_atNought m_change m_table m_carried u fi aa bb dd ro db mn (-1000006) H.size) (cwV 1 hts gX8_rest_X8_found rfl rfl rfl hv_X8_found (yk_room hRf hRl rfl rfl)) (yk_pv (q := (RX8, TX8, 23)) hG hA hS hK hP hD [0] (by decide +kernel) rfl rfl rfl) rfl rfl hl.1 rfl (lv_room (Nat.le_of_ble_eq_true rfl)) dX8_rest_72 ⟨Nat.zero_le _, Nat.zero_le _⟩) hP hD hS hA rfl rfl (fun H locs hP9 hD9 hS9 => ?_)
        replace hP : va_P D vwCl [(ta, .inr (8, [.ref m_now, .ref m_undone, .ref m_slots, .ref m_slotKind, .ref m_hasSlot, .ref m_sheetBits, .ref m_sheetSize, .ref m_sheets, .int (nI u), .int ((f_X8_found fi (-1000006)).2), .ref m_fresh, .long aa, .long bb, .long dd, .int (nI ro), .ref m_rootWhich, .int db, .ref m_signs, .ref m_atNought, .int (nI mn), .ref m_change, .ref m_table, .ref m_carried])), (m_now, .inl (cy 0, 29, .inl nw))] H := hP9
        replace hD : va_D A [(ta, .inr (8, [.ref m_now, .ref m_undone, .ref m_slots, .ref m_slotKind, .ref m_hasSlot, .ref m_sheetBits, .ref m_sheetSize, .ref m_sheets, .int (nI u), .int ((f_X8_found fi (-1000006)).2), .ref m_fresh, .long aa, .long bb, .long dd, .int (nI ro), .ref m_rootWhich, .int db, .ref m_signs, .ref m_atNought, .int (nI mn), .ref m_change, .ref m_table, .ref m_carried])), (m_now, .inl (cy 0, 29, .inl nw))] := hD9
        replace hS := hS9
        clear hP9 hD9 hS9
        have hF : f_X8_rest nw fi px bq = (((f_X8_found fi (-1000006)).1), ((f_X8_found fi (-1000006)).2)) := hF
        have hf0 := yk_fst hF
        have hg0 := yk_snd hF
        rw [hf0, hg0] at hQ
        exact hQ _ _ _ _ dX8_rest_75 hP hS
      · replace hF := hF.trans (if_neg hc1)
        have hlt6 : ki < 13 := yk_lt6 hk6 hc1
        refine lv_bipush (v := (-6)) hx hb dX8_rest_13 (by decide) ?_
        refine lv_istore (lv' := [(5, .int (-6)), (0, .ref ta), (1, .int px), (2, .int bq), (3, .int z3_6), (4, .int (nI ki - 6))]) hx hb dX8_rest_15 hl (by decide) rfl (fun ls hl9 => ?_)
        replace hl := hl9
        clear hl9
        have L17 : ∀ (M9 n17 kj : Nat) (z3_17 : Int32) (H : Heap) (locs : List Loc) (ls : Array Slot), n17 < M9 → kj + n17 = 13 → f_X8_rest nw fi px bq = (l_X8_rest_17 nw fi px bq ki z3_6 (fun ki' z3_6' => l_X8_rest_6 nw fi px bq n6 ki' z3_6') (n17 + 1) kj z3_17) → va_P D vwCl [(ta, .inr (8, [.ref m_now, .ref m_undone, .ref m_slots, .ref m_slotKind, .ref m_hasSlot, .ref m_sheetBits, .ref m_sheetSize, .ref m_sheets, .int (nI u), .int fi, .ref m_fresh, .long aa, .long bb, .long dd, .int (nI ro), .ref m_rootWhich, .int db, .ref m_signs, .ref m_atNought, .int (nI mn), .ref m_change, .ref m_table, .ref m_carried])), (m_now, .inl (cy 0, 29, .inl nw))] H → va_D A [(ta, .inr (8, [.ref m_now, .ref m_undone, .ref m_slots, .ref m_slotKind, .ref m_hasSlot, .ref m_sheetBits, .ref m_sheetSize, .ref m_sheets, .int (nI u), .int fi, .ref m_fresh, .long aa, .long bb, .long dd, .int (nI ro), .ref m_rootWhich, .int db, .ref m_signs, .ref m_atNought, .int (nI mn), .ref m_change, .ref m_table, .ref m_carried])), (m_now, .inl (cy 0, 29, .inl nw))] → va_S A s.heap H locs → lv_has ls 6 [(0, .ref ta), (1, .int px), (2, .int bq), (3, .int z3_17), (4, .int (nI ki - 6)), (5, .int (nI kj - 6))] → W p l e R s m args below meth c H locs 0 0 Q (F0 m 17 ls []) := by
          clear hP hD hS hl hF
          intro M9
          induction M9 with
          | zero => intro n17 kj _ _ _ _ hn; exact absurd hn (Nat.not_lt_zero _)
          | succ M9 ih17 =>
            intro n17 kj z3_17 H locs ls hn17 hk17 hF hP hD hS hl
            refine lv_iload hx hb dX8_rest_17 (lv_at hl 5 rfl) ?_
            refine lv_bipush (v := 6) hx hb dX8_rest_19 (by decide) ?_
            refine lv_icmp_gt (tgt := 63) hx hb dX8_rest_21 (by decide) (fun hc2 => ?_) (fun hc2 => ?_)
            · replace hF := hF.trans (if_pos hc2)
              refine lv_iinc (v := ((nI ki - 6) + 1)) (lv' := [(4, .int ((nI ki - 6) + 1)), (0, .ref ta), (1, .int px), (2, .int bq), (3, .int z3_17), (5, .int (nI kj - 6))]) hx hb dX8_rest_63 hl (k := 4) rfl (yk_incg _) (by decide) rfl (fun ls hl9 => ?_)
              replace hl := hl9
              clear hl9
              refine lv_goto (tgt := 6) hx hb dX8_rest_66 (by decide) ?_
              obtain ⟨n9, rfl⟩ : ∃ n9, n6 = n9 + 1 := ⟨n6 - 1, by omega⟩
              rw [yk_off ki 6] at hl
              exact ih6 n9 (ki + 1) z3_17 _ _ _ (by omega) (by omega)  hF hP hD hS (lv_sub hl [1, 2, 3, 4, 0] rfl)
            · replace hF := hF.trans (if_neg hc2)
              have hlt17 : kj < 13 := yk_lt6 hk17 hc2
              refine lv_aload_n hx hb dX8_rest_24 rfl (lv_at hl 0 rfl) ?_
              refine lv_iload hx hb dX8_rest_25 (lv_at hl 4 rfl) ?_
              refine lv_iload hx hb dX8_rest_27 (lv_at hl 5 rfl) ?_
              refine yk_i [0, 1] (va_runV (As := [.int (nI ki - 6), .int (nI kj - 6)]) (rest := []) ⟨hx, hb, hml, hown, hts⟩ (c_X8_isRest l D cy ta m_now m_undone m_slots m_slotKind m_hasSlot m_sheetBits m_sheetSize m_sheets m_fresh m_rootWhich m_signs m_atNought m_change m_table m_carried nw u fi aa bb dd ro db mn (nI ki - 6) (nI kj - 6) H.size) (cwV 2 hts gX8_rest_X8_isRest rfl rfl rfl hv_X8_isRest (yk_room hRf hRl rfl rfl)) (yk_pv (q := (RX8, TX8, 23)) hG hA hS hK hP hD [0, 1] (by decide +kernel) rfl rfl rfl) rfl rfl hl.1 rfl (lv_room (Nat.le_of_ble_eq_true rfl)) dX8_rest_29 ⟨Nat.zero_le _, Nat.zero_le _⟩) hP hD hS hA rfl rfl (fun H locs hP9 hD9 hS9 => ?_)
              replace hP : va_P D vwCl [(ta, .inr (8, [.ref m_now, .ref m_undone, .ref m_slots, .ref m_slotKind, .ref m_hasSlot, .ref m_sheetBits, .ref m_sheetSize, .ref m_sheets, .int (nI u), .int fi, .ref m_fresh, .long aa, .long bb, .long dd, .int (nI ro), .ref m_rootWhich, .int db, .ref m_signs, .ref m_atNought, .int (nI mn), .ref m_change, .ref m_table, .ref m_carried])), (m_now, .inl (cy 0, 29, .inl nw))] H := hP9
              replace hD : va_D A [(ta, .inr (8, [.ref m_now, .ref m_undone, .ref m_slots, .ref m_slotKind, .ref m_hasSlot, .ref m_sheetBits, .ref m_sheetSize, .ref m_sheets, .int (nI u), .int fi, .ref m_fresh, .long aa, .long bb, .long dd, .int (nI ro), .ref m_rootWhich, .int db, .ref m_signs, .ref m_atNought, .int (nI mn), .ref m_change, .ref m_table, .ref m_carried])), (m_now, .inl (cy 0, 29, .inl nw))] := hD9
              replace hS := hS9
              clear hP9 hD9 hS9
              refine lv_if_ne (tgt := 38) hx hb dX8_rest_32 (by decide) (fun hc3 => ?_) (fun hc3 => ?_)
              · replace hF := hF.trans (if_neg hc3)
                refine lv_iload_n hx hb dX8_rest_38 rfl (lv_at hl 3 rfl) ?_
                refine lv_if_ne (tgt := 54) hx hb dX8_rest_39 (by decide) (fun hc4 => ?_) (fun hc4 => ?_)
                · replace hF := hF.trans (if_neg hc4)
                  refine lv_iinc (v := (z3_17 - 1)) (lv' := [(3, .int (z3_17 - 1)), (0, .ref ta), (1, .int px), (2, .int bq), (4, .int (nI ki - 6)), (5, .int (nI kj - 6))]) hx hb dX8_rest_54 hl (k := 3) rfl (yk_decg _) (by decide) rfl (fun ls hl9 => ?_)
                  replace hl := hl9
                  clear hl9
                  refine lv_iinc (v := ((nI kj - 6) + 1)) (lv' := [(5, .int ((nI kj - 6) + 1)), (3, .int (z3_17 - 1)), (0, .ref ta), (1, .int px), (2, .int bq), (4, .int (nI ki - 6))]) hx hb dX8_rest_57 hl (k := 5) rfl (yk_incg _) (by decide) rfl (fun ls hl9 => ?_)
                  replace hl := hl9
                  clear hl9
                  refine lv_goto (tgt := 17) hx hb dX8_rest_60 (by decide) ?_
                  obtain ⟨n9, rfl⟩ : ∃ n9, n17 = n9 + 1 := ⟨n17 - 1, by omega⟩
                  rw [yk_off kj 6] at hl
                  exact ih17 n9 (kj + 1) (z3_17 - 1) _ _ _ (by omega) (by omega)  hF hP hD hS (lv_sub hl [2, 3, 4, 1, 5, 0] rfl)
                · replace hF := hF.trans (if_pos hc4)
                  refine lv_iload_n hx hb dX8_rest_42 rfl (lv_at hl 2 rfl) ?_
                  have J7 : ∀ (v6 : Int32) (H : Heap) (locs : List Loc) (ls : Array Slot), v6 = (if bq = 0 then (nI ki - 6) else (nI kj - 6)) → va_P D vwCl [(ta, .inr (8, [.ref m_now, .ref m_undone, .ref m_slots, .ref m_slotKind, .ref m_hasSlot, .ref m_sheetBits, .ref m_sheetSize, .ref m_sheets, .int (nI u), .int fi, .ref m_fresh, .long aa, .long bb, .long dd, .int (nI ro), .ref m_rootWhich, .int db, .ref m_signs, .ref m_atNought, .int (nI mn), .ref m_change, .ref m_table, .ref m_carried])), (m_now, .inl (cy 0, 29, .inl nw))] H → va_D A [(ta, .inr (8, [.ref m_now, .ref m_undone, .ref m_slots, .ref m_slotKind, .ref m_hasSlot, .ref m_sheetBits, .ref m_sheetSize, .ref m_sheets, .int (nI u), .int fi, .ref m_fresh, .long aa, .long bb, .long dd, .int (nI ro), .ref m_rootWhich, .int db, .ref m_signs, .ref m_atNought, .int (nI mn), .ref m_change, .ref m_table, .ref m_carried])), (m_now, .inl (cy 0, 29, .inl nw))] → va_S A s.heap H locs → lv_has ls 6 [(0, .ref ta), (1, .int px), (2, .int bq), (3, .int z3_17), (4, .int (nI ki - 6)), (5, .int (nI kj - 6))] → W p l e R s m args below meth c H locs 0 0 Q (F0 m 53 ls [.int v6]) := by
                    clear hP hD hS hl
                    intro v6 H locs ls ev6 hP hD hS hl
                    subst ev6
                    have hF : f_X8_rest nw fi px bq = ((if bq = 0 then (nI ki - 6) else (nI kj - 6)), fi) := hF
                    have hf0 := yk_fst hF
                    have hg0 := yk_snd hF
                    rw [hf0, hg0] at hQ
                    exact hQ _ _ _ _ dX8_rest_53 hP hS
                  refine lv_if_eq (tgt := 51) hx hb dX8_rest_43 (by decide) (fun hc5 => ?_) (fun hc5 => ?_)
                  · refine lv_iload hx hb dX8_rest_51 (lv_at hl 4 rfl) ?_
                    exact J7 _ _ _ _ ((if_pos hc5).symm) hP hD hS (lv_sub hl [0, 1, 2, 3, 4, 5] rfl)
                  · refine lv_iload hx hb dX8_rest_46 (lv_at hl 5 rfl) ?_
                    refine lv_goto (tgt := 53) hx hb dX8_rest_48 (by decide) ?_
                    exact J7 _ _ _ _ ((if_neg hc5).symm) hP hD hS (lv_sub hl [0, 1, 2, 3, 4, 5] rfl)
              · replace hF := hF.trans (if_pos hc3)
                refine lv_goto (tgt := 57) hx hb dX8_rest_35 (by decide) ?_
                refine lv_iinc (v := ((nI kj - 6) + 1)) (lv' := [(5, .int ((nI kj - 6) + 1)), (0, .ref ta), (1, .int px), (2, .int bq), (3, .int z3_17), (4, .int (nI ki - 6))]) hx hb dX8_rest_57 hl (k := 5) rfl (yk_incg _) (by decide) rfl (fun ls hl9 => ?_)
                replace hl := hl9
                clear hl9
                refine lv_goto (tgt := 17) hx hb dX8_rest_60 (by decide) ?_
                obtain ⟨n9, rfl⟩ : ∃ n9, n17 = n9 + 1 := ⟨n17 - 1, by omega⟩
                rw [yk_off kj 6] at hl
                exact ih17 n9 (kj + 1) z3_17 _ _ _ (by omega) (by omega)  hF hP hD hS (lv_sub hl [1, 2, 3, 4, 5, 0] rfl)
        rw [show (-6 : Int32) = nI 0 - 6 from rfl] at hl
        exact L17 (13 + 1) 13 0 z3_6 _ _ _ (Nat.lt_succ_self _) (by omega)  hF hP hD hS (lv_sub hl [1, 2, 3, 4, 5, 0] rfl)
  rw [show (-6 : Int32) = nI 0 - 6 from rfl] at hl
  exact L6 (13 + 1) 13 0 px _ _ _ (Nat.lt_succ_self _) (by omega)  hF hP hD hS (lv_sub hl [2, 3, 4, 1, 0] rfl)

def f_X8_sortAt (nw : Nat → Int32) (px : Int32) (py : Int32) : Int32 := (if 0 ≤ (((f_X8_slopeAt nw px py 0 0) * (f_X8_slopeAt nw px py 1 1)) - ((f_X8_slopeAt nw px py 0 1) * (f_X8_slopeAt nw px py 1 0))) then (if (((f_X8_slopeAt nw px py 0 0) * (f_X8_slopeAt nw px py 1 1)) - ((f_X8_slopeAt nw px py 0 1) * (f_X8_slopeAt nw px py 1 0))) = 0 then 5 else (if ((f_X8_slopeAt nw px py 0 0) + (f_X8_slopeAt nw px py 1 1)) = 0 then 4 else (if (((f_X8_slopeAt nw px py 0 0) + (f_X8_slopeAt nw px py 1 1)) * ((f_X8_slopeAt nw px py 0 0) + (f_X8_slopeAt nw px py 1 1))) < (4 * (((f_X8_slopeAt nw px py 0 0) * (f_X8_slopeAt nw px py 1 1)) - ((f_X8_slopeAt nw px py 0 1) * (f_X8_slopeAt nw px py 1 0)))) then 3 else 2))) else 1)
set_option maxHeartbeats 400000000 in
set_option maxRecDepth 100000 in
theorem c_X8_sortAt (l : Launch) (D : va_G) (cy : Nat → ClassId) (ta : Nat) (m_now : Nat) (m_undone : Nat) (m_slots : Nat) (m_slotKind : Nat) (m_hasSlot : Nat) (m_sheetBits : Nat) (m_sheetSize : Nat) (m_sheets : Nat) (m_fresh : Nat) (m_rootWhich : Nat) (m_signs : Nat) (m_atNought : Nat) (m_change : Nat) (m_table : Nat) (m_carried : Nat) (nw : Nat → Int32) (u : Nat) (fi : Int32) (aa : Int64) (bb : Int64) (dd : Int64) (ro : Nat) (db : Int32) (mn : Nat) (px : Int32) (py : Int32) : yk_Ci l D vwCl (yk_ty cy) yX8_sortAt wsX8_sortAt 2 46 [.ref ta, .int px, .int py] [(ta, .inr (8, [.ref m_now, .ref m_undone, .ref m_slots, .ref m_slotKind, .ref m_hasSlot, .ref m_sheetBits, .ref m_sheetSize, .ref m_sheets, .int (nI u), .int fi, .ref m_fresh, .long aa, .long bb, .long dd, .int (nI ro), .ref m_rootWhich, .int db, .ref m_signs, .ref m_atNought, .int (nI mn), .ref m_change, .ref m_table, .ref m_carried])), (m_now, .inl (cy 0, 29, .inl nw))] (f_X8_sortAt nw px py) [(ta, .inr (8, [.ref m_now, .ref m_undone, .ref m_slots, .ref m_slotKind, .ref m_hasSlot, .ref m_sheetBits, .ref m_sheetSize, .ref m_sheets, .int (nI u), .int fi, .ref m_fresh, .long aa, .long bb, .long dd, .int (nI ro), .ref m_rootWhich, .int db, .ref m_signs, .ref m_atNought, .int (nI mn), .ref m_change, .ref m_table, .ref m_carried])), (m_now, .inl (cy 0, 29, .inl nw))] := by
  refine yk_eI (cc := cX8_sortAt) (maxL := 7) (by decide) rfl (Nat.le_of_ble_eq_true rfl) rfl ?_
  intro p e R s m args below meth c A Q ls H locs hx hb hml hown hts hRf hRl hA hK hG hP hD hS hl hQ
  have hP : va_P D vwCl [(ta, .inr (8, [.ref m_now, .ref m_undone, .ref m_slots, .ref m_slotKind, .ref m_hasSlot, .ref m_sheetBits, .ref m_sheetSize, .ref m_sheets, .int (nI u), .int fi, .ref m_fresh, .long aa, .long bb, .long dd, .int (nI ro), .ref m_rootWhich, .int db, .ref m_signs, .ref m_atNought, .int (nI mn), .ref m_change, .ref m_table, .ref m_carried])), (m_now, .inl (cy 0, 29, .inl nw))] H := hP
  have hl : lv_has ls 7 [(0, .ref ta), (1, .int px), (2, .int py)] := hl
  have hown : s.vm.findClass RX8 = some m.cls := hown
  have hF : (f_X8_sortAt nw px py) = (f_X8_sortAt nw px py) := rfl
  refine lv_aload_n hx hb dX8_sortAt_0 rfl (lv_at hl 0 rfl) ?_
  refine lv_iload_n hx hb dX8_sortAt_1 rfl (lv_at hl 1 rfl) ?_
  refine lv_iload_n hx hb dX8_sortAt_2 rfl (lv_at hl 2 rfl) ?_
  refine lv_iconst (v := 0) hx hb dX8_sortAt_3 (by decide) ?_
  refine lv_iconst (v := 0) hx hb dX8_sortAt_4 (by decide) ?_
  refine yk_i [0, 1] (va_runV (As := [.int px, .int py, .int 0, .int 0]) (rest := []) ⟨hx, hb, hml, hown, hts⟩ (c_X8_slopeAt l D cy ta m_now m_undone m_slots m_slotKind m_hasSlot m_sheetBits m_sheetSize m_sheets m_fresh m_rootWhich m_signs m_atNought m_change m_table m_carried nw u fi aa bb dd ro db mn px py 0 0 H.size) (cwV 4 hts gX8_sortAt_X8_slopeAt rfl rfl rfl hv_X8_slopeAt (yk_room hRf hRl rfl rfl)) (yk_pv (q := (RX8, TX8, 23)) hG hA hS hK hP hD [0, 1] (by decide +kernel) rfl rfl rfl) rfl rfl hl.1 rfl (lv_room (Nat.le_of_ble_eq_true rfl)) dX8_sortAt_5 ⟨Nat.zero_le _, Nat.zero_le _⟩) hP hD hS hA rfl rfl (fun H locs hP9 hD9 hS9 => ?_)
  replace hP : va_P D vwCl [(ta, .inr (8, [.ref m_now, .ref m_undone, .ref m_slots, .ref m_slotKind, .ref m_hasSlot, .ref m_sheetBits, .ref m_sheetSize, .ref m_sheets, .int (nI u), .int fi, .ref m_fresh, .long aa, .long bb, .long dd, .int (nI ro), .ref m_rootWhich, .int db, .ref m_signs, .ref m_atNought, .int (nI mn), .ref m_change, .ref m_table, .ref m_carried])), (m_now, .inl (cy 0, 29, .inl nw))] H := hP9
  replace hD : va_D A [(ta, .inr (8, [.ref m_now, .ref m_undone, .ref m_slots, .ref m_slotKind, .ref m_hasSlot, .ref m_sheetBits, .ref m_sheetSize, .ref m_sheets, .int (nI u), .int fi, .ref m_fresh, .long aa, .long bb, .long dd, .int (nI ro), .ref m_rootWhich, .int db, .ref m_signs, .ref m_atNought, .int (nI mn), .ref m_change, .ref m_table, .ref m_carried])), (m_now, .inl (cy 0, 29, .inl nw))] := hD9
  replace hS := hS9
  clear hP9 hD9 hS9
  refine lv_istore_n (lv' := [(3, .int (f_X8_slopeAt nw px py 0 0)), (0, .ref ta), (1, .int px), (2, .int py)]) hx hb dX8_sortAt_8 rfl hl (by decide) rfl (fun ls hl9 => ?_)
  replace hl := hl9
  clear hl9
  refine lv_aload_n hx hb dX8_sortAt_9 rfl (lv_at hl 1 rfl) ?_
  refine lv_iload_n hx hb dX8_sortAt_10 rfl (lv_at hl 2 rfl) ?_
  refine lv_iload_n hx hb dX8_sortAt_11 rfl (lv_at hl 3 rfl) ?_
  refine lv_iconst (v := 1) hx hb dX8_sortAt_12 (by decide) ?_
  refine lv_iconst (v := 1) hx hb dX8_sortAt_13 (by decide) ?_
  refine yk_i [0, 1] (va_runV (As := [.int px, .int py, .int 1, .int 1]) (rest := []) ⟨hx, hb, hml, hown, hts⟩ (c_X8_slopeAt l D cy ta m_now m_undone m_slots m_slotKind m_hasSlot m_sheetBits m_sheetSize m_sheets m_fresh m_rootWhich m_signs m_atNought m_change m_table m_carried nw u fi aa bb dd ro db mn px py 1 1 H.size) (cwV 4 hts gX8_sortAt_X8_slopeAt rfl rfl rfl hv_X8_slopeAt (yk_room hRf hRl rfl rfl)) (yk_pv (q := (RX8, TX8, 23)) hG hA hS hK hP hD [0, 1] (by decide +kernel) rfl rfl rfl) rfl rfl hl.1 rfl (lv_room (Nat.le_of_ble_eq_true rfl)) dX8_sortAt_14 ⟨Nat.zero_le _, Nat.zero_le _⟩) hP hD hS hA rfl rfl (fun H locs hP9 hD9 hS9 => ?_)
  replace hP : va_P D vwCl [(ta, .inr (8, [.ref m_now, .ref m_undone, .ref m_slots, .ref m_slotKind, .ref m_hasSlot, .ref m_sheetBits, .ref m_sheetSize, .ref m_sheets, .int (nI u), .int fi, .ref m_fresh, .long aa, .long bb, .long dd, .int (nI ro), .ref m_rootWhich, .int db, .ref m_signs, .ref m_atNought, .int (nI mn), .ref m_change, .ref m_table, .ref m_carried])), (m_now, .inl (cy 0, 29, .inl nw))] H := hP9
  replace hD : va_D A [(ta, .inr (8, [.ref m_now, .ref m_undone, .ref m_slots, .ref m_slotKind, .ref m_hasSlot, .ref m_sheetBits, .ref m_sheetSize, .ref m_sheets, .int (nI u), .int fi, .ref m_fresh, .long aa, .long bb, .long dd, .int (nI ro), .ref m_rootWhich, .int db, .ref m_signs, .ref m_atNought, .int (nI mn), .ref m_change, .ref m_table, .ref m_carried])), (m_now, .inl (cy 0, 29, .inl nw))] := hD9
  replace hS := hS9
  clear hP9 hD9 hS9
  refine lv_istore (lv' := [(4, .int (f_X8_slopeAt nw px py 1 1)), (3, .int (f_X8_slopeAt nw px py 0 0)), (0, .ref ta), (1, .int px), (2, .int py)]) hx hb dX8_sortAt_17 hl (by decide) rfl (fun ls hl9 => ?_)
  replace hl := hl9
  clear hl9
  refine lv_iload_n hx hb dX8_sortAt_19 rfl (lv_at hl 1 rfl) ?_
  refine lv_iload hx hb dX8_sortAt_20 (lv_at hl 0 rfl) ?_
  refine lv_imul hx hb dX8_sortAt_22 ?_
  refine lv_aload_n hx hb dX8_sortAt_23 rfl (lv_at hl 2 rfl) ?_
  refine lv_iload_n hx hb dX8_sortAt_24 rfl (lv_at hl 3 rfl) ?_
  refine lv_iload_n hx hb dX8_sortAt_25 rfl (lv_at hl 4 rfl) ?_
  refine lv_iconst (v := 0) hx hb dX8_sortAt_26 (by decide) ?_
  refine lv_iconst (v := 1) hx hb dX8_sortAt_27 (by decide) ?_
  refine yk_i [0, 1] (va_runV (As := [.int px, .int py, .int 0, .int 1]) (rest := [.int ((f_X8_slopeAt nw px py 0 0) * (f_X8_slopeAt nw px py 1 1))]) ⟨hx, hb, hml, hown, hts⟩ (c_X8_slopeAt l D cy ta m_now m_undone m_slots m_slotKind m_hasSlot m_sheetBits m_sheetSize m_sheets m_fresh m_rootWhich m_signs m_atNought m_change m_table m_carried nw u fi aa bb dd ro db mn px py 0 1 H.size) (cwV 4 hts gX8_sortAt_X8_slopeAt rfl rfl rfl hv_X8_slopeAt (yk_room hRf hRl rfl rfl)) (yk_pv (q := (RX8, TX8, 23)) hG hA hS hK hP hD [0, 1] (by decide +kernel) rfl rfl rfl) rfl rfl hl.1 rfl (lv_room (Nat.le_of_ble_eq_true rfl)) dX8_sortAt_28 ⟨Nat.zero_le _, Nat.zero_le _⟩) hP hD hS hA rfl rfl (fun H locs hP9 hD9 hS9 => ?_)
  replace hP : va_P D vwCl [(ta, .inr (8, [.ref m_now, .ref m_undone, .ref m_slots, .ref m_slotKind, .ref m_hasSlot, .ref m_sheetBits, .ref m_sheetSize, .ref m_sheets, .int (nI u), .int fi, .ref m_fresh, .long aa, .long bb, .long dd, .int (nI ro), .ref m_rootWhich, .int db, .ref m_signs, .ref m_atNought, .int (nI mn), .ref m_change, .ref m_table, .ref m_carried])), (m_now, .inl (cy 0, 29, .inl nw))] H := hP9
  replace hD : va_D A [(ta, .inr (8, [.ref m_now, .ref m_undone, .ref m_slots, .ref m_slotKind, .ref m_hasSlot, .ref m_sheetBits, .ref m_sheetSize, .ref m_sheets, .int (nI u), .int fi, .ref m_fresh, .long aa, .long bb, .long dd, .int (nI ro), .ref m_rootWhich, .int db, .ref m_signs, .ref m_atNought, .int (nI mn), .ref m_change, .ref m_table, .ref m_carried])), (m_now, .inl (cy 0, 29, .inl nw))] := hD9
  replace hS := hS9
  clear hP9 hD9 hS9
  refine lv_aload_n hx hb dX8_sortAt_31 rfl (lv_at hl 2 rfl) ?_
  refine lv_iload_n hx hb dX8_sortAt_32 rfl (lv_at hl 3 rfl) ?_
  refine lv_iload_n hx hb dX8_sortAt_33 rfl (lv_at hl 4 rfl) ?_
  refine lv_iconst (v := 1) hx hb dX8_sortAt_34 (by decide) ?_
  refine lv_iconst (v := 0) hx hb dX8_sortAt_35 (by decide) ?_
  refine yk_i [0, 1] (va_runV (As := [.int px, .int py, .int 1, .int 0]) (rest := [.int (f_X8_slopeAt nw px py 0 1), .int ((f_X8_slopeAt nw px py 0 0) * (f_X8_slopeAt nw px py 1 1))]) ⟨hx, hb, hml, hown, hts⟩ (c_X8_slopeAt l D cy ta m_now m_undone m_slots m_slotKind m_hasSlot m_sheetBits m_sheetSize m_sheets m_fresh m_rootWhich m_signs m_atNought m_change m_table m_carried nw u fi aa bb dd ro db mn px py 1 0 H.size) (cwV 4 hts gX8_sortAt_X8_slopeAt rfl rfl rfl hv_X8_slopeAt (yk_room hRf hRl rfl rfl)) (yk_pv (q := (RX8, TX8, 23)) hG hA hS hK hP hD [0, 1] (by decide +kernel) rfl rfl rfl) rfl rfl hl.1 rfl (lv_room (Nat.le_of_ble_eq_true rfl)) dX8_sortAt_36 ⟨Nat.zero_le _, Nat.zero_le _⟩) hP hD hS hA rfl rfl (fun H locs hP9 hD9 hS9 => ?_)
  replace hP : va_P D vwCl [(ta, .inr (8, [.ref m_now, .ref m_undone, .ref m_slots, .ref m_slotKind, .ref m_hasSlot, .ref m_sheetBits, .ref m_sheetSize, .ref m_sheets, .int (nI u), .int fi, .ref m_fresh, .long aa, .long bb, .long dd, .int (nI ro), .ref m_rootWhich, .int db, .ref m_signs, .ref m_atNought, .int (nI mn), .ref m_change, .ref m_table, .ref m_carried])), (m_now, .inl (cy 0, 29, .inl nw))] H := hP9
  replace hD : va_D A [(ta, .inr (8, [.ref m_now, .ref m_undone, .ref m_slots, .ref m_slotKind, .ref m_hasSlot, .ref m_sheetBits, .ref m_sheetSize, .ref m_sheets, .int (nI u), .int fi, .ref m_fresh, .long aa, .long bb, .long dd, .int (nI ro), .ref m_rootWhich, .int db, .ref m_signs, .ref m_atNought, .int (nI mn), .ref m_change, .ref m_table, .ref m_carried])), (m_now, .inl (cy 0, 29, .inl nw))] := hD9
  replace hS := hS9
  clear hP9 hD9 hS9
  refine lv_imul hx hb dX8_sortAt_39 ?_
  refine lv_isub hx hb dX8_sortAt_40 ?_
  refine lv_istore (lv' := [(5, .int (((f_X8_slopeAt nw px py 0 0) * (f_X8_slopeAt nw px py 1 1)) - ((f_X8_slopeAt nw px py 0 1) * (f_X8_slopeAt nw px py 1 0)))), (4, .int (f_X8_slopeAt nw px py 1 1)), (3, .int (f_X8_slopeAt nw px py 0 0)), (0, .ref ta), (1, .int px), (2, .int py)]) hx hb dX8_sortAt_41 hl (by decide) rfl (fun ls hl9 => ?_)
  replace hl := hl9
  clear hl9
  refine lv_iload_n hx hb dX8_sortAt_43 rfl (lv_at hl 2 rfl) ?_
  refine lv_iload hx hb dX8_sortAt_44 (lv_at hl 1 rfl) ?_
  refine lv_iadd hx hb dX8_sortAt_46 ?_
  refine lv_istore (lv' := [(6, .int ((f_X8_slopeAt nw px py 0 0) + (f_X8_slopeAt nw px py 1 1))), (5, .int (((f_X8_slopeAt nw px py 0 0) * (f_X8_slopeAt nw px py 1 1)) - ((f_X8_slopeAt nw px py 0 1) * (f_X8_slopeAt nw px py 1 0)))), (4, .int (f_X8_slopeAt nw px py 1 1)), (3, .int (f_X8_slopeAt nw px py 0 0)), (0, .ref ta), (1, .int px), (2, .int py)]) hx hb dX8_sortAt_47 hl (by decide) rfl (fun ls hl9 => ?_)
  replace hl := hl9
  clear hl9
  refine lv_iload hx hb dX8_sortAt_49 (lv_at hl 1 rfl) ?_
  have J6 : ∀ (v5 : Int32) (H : Heap) (locs : List Loc) (ls : Array Slot), v5 = (if 0 ≤ (((f_X8_slopeAt nw px py 0 0) * (f_X8_slopeAt nw px py 1 1)) - ((f_X8_slopeAt nw px py 0 1) * (f_X8_slopeAt nw px py 1 0))) then (if (((f_X8_slopeAt nw px py 0 0) * (f_X8_slopeAt nw px py 1 1)) - ((f_X8_slopeAt nw px py 0 1) * (f_X8_slopeAt nw px py 1 0))) = 0 then 5 else (if ((f_X8_slopeAt nw px py 0 0) + (f_X8_slopeAt nw px py 1 1)) = 0 then 4 else (if (((f_X8_slopeAt nw px py 0 0) + (f_X8_slopeAt nw px py 1 1)) * ((f_X8_slopeAt nw px py 0 0) + (f_X8_slopeAt nw px py 1 1))) < (4 * (((f_X8_slopeAt nw px py 0 0) * (f_X8_slopeAt nw px py 1 1)) - ((f_X8_slopeAt nw px py 0 1) * (f_X8_slopeAt nw px py 1 0)))) then 3 else 2))) else 1) → va_P D vwCl [(ta, .inr (8, [.ref m_now, .ref m_undone, .ref m_slots, .ref m_slotKind, .ref m_hasSlot, .ref m_sheetBits, .ref m_sheetSize, .ref m_sheets, .int (nI u), .int fi, .ref m_fresh, .long aa, .long bb, .long dd, .int (nI ro), .ref m_rootWhich, .int db, .ref m_signs, .ref m_atNought, .int (nI mn), .ref m_change, .ref m_table, .ref m_carried])), (m_now, .inl (cy 0, 29, .inl nw))] H → va_D A [(ta, .inr (8, [.ref m_now, .ref m_undone, .ref m_slots, .ref m_slotKind, .ref m_hasSlot, .ref m_sheetBits, .ref m_sheetSize, .ref m_sheets, .int (nI u), .int fi, .ref m_fresh, .long aa, .long bb, .long dd, .int (nI ro), .ref m_rootWhich, .int db, .ref m_signs, .ref m_atNought, .int (nI mn), .ref m_change, .ref m_table, .ref m_carried])), (m_now, .inl (cy 0, 29, .inl nw))] → va_S A s.heap H locs → lv_has ls 7 [(0, .ref ta), (1, .int px), (2, .int py), (3, .int (f_X8_slopeAt nw px py 0 0)), (4, .int (f_X8_slopeAt nw px py 1 1)), (5, .int (((f_X8_slopeAt nw px py 0 0) * (f_X8_slopeAt nw px py 1 1)) - ((f_X8_slopeAt nw px py 0 1) * (f_X8_slopeAt nw px py 1 0)))), (6, .int ((f_X8_slopeAt nw px py 0 0) + (f_X8_slopeAt nw px py 1 1)))] → W p l e R s m args below meth c H locs 0 0 Q (F0 m 93 ls [.int v5]) := by
    clear hP hD hS hl
    intro v5 H locs ls ev5 hP hD hS hl
    subst ev5
    have hF : f_X8_sortAt nw px py = (if 0 ≤ (((f_X8_slopeAt nw px py 0 0) * (f_X8_slopeAt nw px py 1 1)) - ((f_X8_slopeAt nw px py 0 1) * (f_X8_slopeAt nw px py 1 0))) then (if (((f_X8_slopeAt nw px py 0 0) * (f_X8_slopeAt nw px py 1 1)) - ((f_X8_slopeAt nw px py 0 1) * (f_X8_slopeAt nw px py 1 0))) = 0 then 5 else (if ((f_X8_slopeAt nw px py 0 0) + (f_X8_slopeAt nw px py 1 1)) = 0 then 4 else (if (((f_X8_slopeAt nw px py 0 0) + (f_X8_slopeAt nw px py 1 1)) * ((f_X8_slopeAt nw px py 0 0) + (f_X8_slopeAt nw px py 1 1))) < (4 * (((f_X8_slopeAt nw px py 0 0) * (f_X8_slopeAt nw px py 1 1)) - ((f_X8_slopeAt nw px py 0 1) * (f_X8_slopeAt nw px py 1 0)))) then 3 else 2))) else 1) := hF
    rw [hF] at hQ
    exact hQ _ _ _ _ dX8_sortAt_93 hP hS
  refine lv_if_ge (tgt := 58) hx hb dX8_sortAt_51 (by decide) (fun hc1 => ?_) (fun hc1 => ?_)
  · refine lv_iload hx hb dX8_sortAt_58 (lv_at hl 1 rfl) ?_
    refine lv_if_ne (tgt := 67) hx hb dX8_sortAt_60 (by decide) (fun hc2 => ?_) (fun hc2 => ?_)
    · refine lv_iload hx hb dX8_sortAt_67 (lv_at hl 0 rfl) ?_
      refine lv_if_ne (tgt := 76) hx hb dX8_sortAt_69 (by decide) (fun hc3 => ?_) (fun hc3 => ?_)
      · refine lv_iload hx hb dX8_sortAt_76 (lv_at hl 0 rfl) ?_
        refine lv_iload hx hb dX8_sortAt_78 (lv_at hl 0 rfl) ?_
        refine lv_imul hx hb dX8_sortAt_80 ?_
        refine lv_iconst (v := 4) hx hb dX8_sortAt_81 (by decide) ?_
        refine lv_iload hx hb dX8_sortAt_82 (lv_at hl 1 rfl) ?_
        refine lv_imul hx hb dX8_sortAt_84 ?_
        refine lv_icmp_lt (tgt := 92) hx hb dX8_sortAt_85 (by decide) (fun hc4 => ?_) (fun hc4 => ?_)
        · refine lv_iconst (v := 3) hx hb dX8_sortAt_92 (by decide) ?_
          exact J6 _ _ _ _ (((if_pos hc1).trans ((if_neg hc2).trans ((if_neg hc3).trans (if_pos hc4)))).symm) hP hD hS (lv_sub hl [4, 5, 6, 3, 2, 1, 0] rfl)
        · refine lv_iconst (v := 2) hx hb dX8_sortAt_88 (by decide) ?_
          refine lv_goto (tgt := 93) hx hb dX8_sortAt_89 (by decide) ?_
          exact J6 _ _ _ _ (((if_pos hc1).trans ((if_neg hc2).trans ((if_neg hc3).trans (if_neg hc4)))).symm) hP hD hS (lv_sub hl [4, 5, 6, 3, 2, 1, 0] rfl)
      · refine lv_iconst (v := 4) hx hb dX8_sortAt_72 (by decide) ?_
        refine lv_goto (tgt := 93) hx hb dX8_sortAt_73 (by decide) ?_
        exact J6 _ _ _ _ (((if_pos hc1).trans ((if_neg hc2).trans (if_pos hc3))).symm) hP hD hS (lv_sub hl [4, 5, 6, 3, 2, 1, 0] rfl)
    · refine lv_iconst (v := 5) hx hb dX8_sortAt_63 (by decide) ?_
      refine lv_goto (tgt := 93) hx hb dX8_sortAt_64 (by decide) ?_
      exact J6 _ _ _ _ (((if_pos hc1).trans (if_pos hc2)).symm) hP hD hS (lv_sub hl [4, 5, 6, 3, 2, 1, 0] rfl)
  · refine lv_iconst (v := 1) hx hb dX8_sortAt_54 (by decide) ?_
    refine lv_goto (tgt := 93) hx hb dX8_sortAt_55 (by decide) ?_
    exact J6 _ _ _ _ ((if_neg hc1).symm) hP hD hS (lv_sub hl [4, 5, 6, 3, 2, 1, 0] rfl)

theorem kX8_sort_0 : Cond.constant RX8 100 (-1000006) ∈ wsX8_sort := by decide +kernel
theorem kX8_sort_1 : Cond.constant RX8 68 (-1000001) ∈ wsX8_sort := by decide +kernel
def f_X8_sort (nw : Nat → Int32) (fi : Int32) (px : Int32) (py : Int32) : Int32 × Int32 := (if (f_X8_isPlace px py) = 0 then (((f_X8_found fi (-1000001)).1), ((f_X8_found fi (-1000001)).2)) else ((if (f_X8_isRest nw px py) = 0 then (f_X8_found fi (-1000006)).1 else (f_X8_sortAt nw px py)), (if (f_X8_isRest nw px py) = 0 then (f_X8_found fi (-1000006)).2 else fi)))
set_option maxHeartbeats 400000000 in
set_option maxRecDepth 100000 in
theorem c_X8_sort (l : Launch) (D : va_G) (cy : Nat → ClassId) (ta : Nat) (m_now : Nat) (m_undone : Nat) (m_slots : Nat) (m_slotKind : Nat) (m_hasSlot : Nat) (m_sheetBits : Nat) (m_sheetSize : Nat) (m_sheets : Nat) (m_fresh : Nat) (m_rootWhich : Nat) (m_signs : Nat) (m_atNought : Nat) (m_change : Nat) (m_table : Nat) (m_carried : Nat) (nw : Nat → Int32) (u : Nat) (fi : Int32) (aa : Int64) (bb : Int64) (dd : Int64) (ro : Nat) (db : Int32) (mn : Nat) (px : Int32) (py : Int32) : yk_Ci l D vwCl (yk_ty cy) yX8_sort wsX8_sort 3 72 [.ref ta, .int px, .int py] [(ta, .inr (8, [.ref m_now, .ref m_undone, .ref m_slots, .ref m_slotKind, .ref m_hasSlot, .ref m_sheetBits, .ref m_sheetSize, .ref m_sheets, .int (nI u), .int fi, .ref m_fresh, .long aa, .long bb, .long dd, .int (nI ro), .ref m_rootWhich, .int db, .ref m_signs, .ref m_atNought, .int (nI mn), .ref m_change, .ref m_table, .ref m_carried])), (m_now, .inl (cy 0, 29, .inl nw))] ((f_X8_sort nw fi px py).1) [(ta, .inr (8, [.ref m_now, .ref m_undone, .ref m_slots, .ref m_slotKind, .ref m_hasSlot, .ref m_sheetBits, .ref m_sheetSize, .ref m_sheets, .int (nI u), .int ((f_X8_sort nw fi px py).2), .ref m_fresh, .long aa, .long bb, .long dd, .int (nI ro), .ref m_rootWhich, .int db, .ref m_signs, .ref m_atNought, .int (nI mn), .ref m_change, .ref m_table, .ref m_carried])), (m_now, .inl (cy 0, 29, .inl nw))] := by
  refine yk_eI (cc := cX8_sort) (maxL := 3) (by decide) rfl (Nat.le_of_ble_eq_true rfl) rfl ?_
  intro p e R s m args below meth c A Q ls H locs hx hb hml hown hts hRf hRl hA hK hG hP hD hS hl hQ
  have hP : va_P D vwCl [(ta, .inr (8, [.ref m_now, .ref m_undone, .ref m_slots, .ref m_slotKind, .ref m_hasSlot, .ref m_sheetBits, .ref m_sheetSize, .ref m_sheets, .int (nI u), .int fi, .ref m_fresh, .long aa, .long bb, .long dd, .int (nI ro), .ref m_rootWhich, .int db, .ref m_signs, .ref m_atNought, .int (nI mn), .ref m_change, .ref m_table, .ref m_carried])), (m_now, .inl (cy 0, 29, .inl nw))] H := hP
  have hl : lv_has ls 3 [(0, .ref ta), (1, .int px), (2, .int py)] := hl
  have hown : s.vm.findClass RX8 = some m.cls := hown
  have hF : (f_X8_sort nw fi px py) = (f_X8_sort nw fi px py) := rfl
  refine lv_iload_n hx hb dX8_sort_0 rfl (lv_at hl 1 rfl) ?_
  refine lv_iload_n hx hb dX8_sort_1 rfl (lv_at hl 2 rfl) ?_
  refine yk_i [] (va_runS (As := [.int px, .int py]) (rest := []) ⟨hx, hb, hml, hown, hts⟩ (c_X8_isPlace l D cy px py H.size) (va_cwS 2 hts gX8_sort_X8_isPlace rfl rfl rfl hs_X8_isPlace (yk_room hRf hRl rfl rfl)) (yk_ps hG hA hS hK hP hD [] (by decide +kernel) rfl) rfl rfl hl.1 rfl (lv_room (Nat.le_of_ble_eq_true rfl)) dX8_sort_2 ⟨Nat.zero_le _, Nat.zero_le _⟩) hP hD hS hA rfl rfl (fun H locs hP9 hD9 hS9 => ?_)
  replace hP : va_P D vwCl [(ta, .inr (8, [.ref m_now, .ref m_undone, .ref m_slots, .ref m_slotKind, .ref m_hasSlot, .ref m_sheetBits, .ref m_sheetSize, .ref m_sheets, .int (nI u), .int fi, .ref m_fresh, .long aa, .long bb, .long dd, .int (nI ro), .ref m_rootWhich, .int db, .ref m_signs, .ref m_atNought, .int (nI mn), .ref m_change, .ref m_table, .ref m_carried])), (m_now, .inl (cy 0, 29, .inl nw))] H := hP9
  replace hD : va_D A [(ta, .inr (8, [.ref m_now, .ref m_undone, .ref m_slots, .ref m_slotKind, .ref m_hasSlot, .ref m_sheetBits, .ref m_sheetSize, .ref m_sheets, .int (nI u), .int fi, .ref m_fresh, .long aa, .long bb, .long dd, .int (nI ro), .ref m_rootWhich, .int db, .ref m_signs, .ref m_atNought, .int (nI mn), .ref m_change, .ref m_table, .ref m_carried])), (m_now, .inl (cy 0, 29, .inl nw))] := hD9
  replace hS := hS9
  clear hP9 hD9 hS9
  refine lv_if_ne (tgt := 15) hx hb dX8_sort_5 (by decide) (fun hc1 => ?_) (fun hc1 => ?_)
  · replace hF := hF.trans (if_neg hc1)
    refine lv_aload_n hx hb dX8_sort_15 rfl (lv_at hl 0 rfl) ?_
    refine lv_iload_n hx hb dX8_sort_16 rfl (lv_at hl 1 rfl) ?_
    refine lv_iload_n hx hb dX8_sort_17 rfl (lv_at hl 2 rfl) ?_
    refine yk_i [0, 1] (va_runV (As := [.int px, .int py]) (rest := []) ⟨hx, hb, hml, hown, hts⟩ (c_X8_isRest l D cy ta m_now m_undone m_slots m_slotKind m_hasSlot m_sheetBits m_sheetSize m_sheets m_fresh m_rootWhich m_signs m_atNought m_change m_table m_carried nw u fi aa bb dd ro db mn px py H.size) (cwV 2 hts gX8_sort_X8_isRest rfl rfl rfl hv_X8_isRest (yk_room hRf hRl rfl rfl)) (yk_pv (q := (RX8, TX8, 23)) hG hA hS hK hP hD [0, 1] (by decide +kernel) rfl rfl rfl) rfl rfl hl.1 rfl (lv_room (Nat.le_of_ble_eq_true rfl)) dX8_sort_18 ⟨Nat.zero_le _, Nat.zero_le _⟩) hP hD hS hA rfl rfl (fun H locs hP9 hD9 hS9 => ?_)
    replace hP : va_P D vwCl [(ta, .inr (8, [.ref m_now, .ref m_undone, .ref m_slots, .ref m_slotKind, .ref m_hasSlot, .ref m_sheetBits, .ref m_sheetSize, .ref m_sheets, .int (nI u), .int fi, .ref m_fresh, .long aa, .long bb, .long dd, .int (nI ro), .ref m_rootWhich, .int db, .ref m_signs, .ref m_atNought, .int (nI mn), .ref m_change, .ref m_table, .ref m_carried])), (m_now, .inl (cy 0, 29, .inl nw))] H := hP9
    replace hD : va_D A [(ta, .inr (8, [.ref m_now, .ref m_undone, .ref m_slots, .ref m_slotKind, .ref m_hasSlot, .ref m_sheetBits, .ref m_sheetSize, .ref m_sheets, .int (nI u), .int fi, .ref m_fresh, .long aa, .long bb, .long dd, .int (nI ro), .ref m_rootWhich, .int db, .ref m_signs, .ref m_atNought, .int (nI mn), .ref m_change, .ref m_table, .ref m_carried])), (m_now, .inl (cy 0, 29, .inl nw))] := hD9
    replace hS := hS9
    clear hP9 hD9 hS9
    have J5 : ∀ (v3 : Int32) (v4 : Int32) (H : Heap) (locs : List Loc) (ls : Array Slot), v3 = (if (f_X8_isRest nw px py) = 0 then (f_X8_found fi (-1000006)).2 else fi) → v4 = (if (f_X8_isRest nw px py) = 0 then (f_X8_found fi (-1000006)).1 else (f_X8_sortAt nw px py)) → va_P D vwCl [(ta, .inr (8, [.ref m_now, .ref m_undone, .ref m_slots, .ref m_slotKind, .ref m_hasSlot, .ref m_sheetBits, .ref m_sheetSize, .ref m_sheets, .int (nI u), .int v3, .ref m_fresh, .long aa, .long bb, .long dd, .int (nI ro), .ref m_rootWhich, .int db, .ref m_signs, .ref m_atNought, .int (nI mn), .ref m_change, .ref m_table, .ref m_carried])), (m_now, .inl (cy 0, 29, .inl nw))] H → va_D A [(ta, .inr (8, [.ref m_now, .ref m_undone, .ref m_slots, .ref m_slotKind, .ref m_hasSlot, .ref m_sheetBits, .ref m_sheetSize, .ref m_sheets, .int (nI u), .int v3, .ref m_fresh, .long aa, .long bb, .long dd, .int (nI ro), .ref m_rootWhich, .int db, .ref m_signs, .ref m_atNought, .int (nI mn), .ref m_change, .ref m_table, .ref m_carried])), (m_now, .inl (cy 0, 29, .inl nw))] → va_S A s.heap H locs → lv_has ls 3 [(0, .ref ta), (1, .int px), (2, .int py)] → W p l e R s m args below meth c H locs 0 0 Q (F0 m 39 ls [.int v4]) := by
      clear hP hD hS hl
      intro v3 v4 H locs ls ev3 ev4 hP hD hS hl
      subst ev3
      subst ev4
      have hF : f_X8_sort nw fi px py = ((if (f_X8_isRest nw px py) = 0 then (f_X8_found fi (-1000006)).1 else (f_X8_sortAt nw px py)), (if (f_X8_isRest nw px py) = 0 then (f_X8_found fi (-1000006)).2 else fi)) := hF
      have hf0 := yk_fst hF
      have hg0 := yk_snd hF
      rw [hf0, hg0] at hQ
      exact hQ _ _ _ _ dX8_sort_39 hP hS
    refine lv_if_eq (tgt := 33) hx hb dX8_sort_21 (by decide) (fun hc2 => ?_) (fun hc2 => ?_)
    · refine lv_aload_n hx hb dX8_sort_33 rfl (lv_at hl 0 rfl) ?_
      refine lv_ldc (v := (-1000006)) hx hb hown (hts _ kX8_sort_0) dX8_sort_34 ?_
      refine yk_i [0] (va_runV (As := [.int (-1000006)]) (rest := []) ⟨hx, hb, hml, hown, hts⟩ (c_X8_found l D cy ta m_now m_undone m_slots m_slotKind m_hasSlot m_sheetBits m_sheetSize m_sheets m_fresh m_rootWhich m_signs m_atNought m_change m_table m_carried u fi aa bb dd ro db mn (-1000006) H.size) (cwV 1 hts gX8_sort_X8_found rfl rfl rfl hv_X8_found (yk_room hRf hRl rfl rfl)) (yk_pv (q := (RX8, TX8, 23)) hG hA hS hK hP hD [0] (by decide +kernel) rfl rfl rfl) rfl rfl hl.1 rfl (lv_room (Nat.le_of_ble_eq_true rfl)) dX8_sort_36 ⟨Nat.zero_le _, Nat.zero_le _⟩) hP hD hS hA rfl rfl (fun H locs hP9 hD9 hS9 => ?_)
      replace hP : va_P D vwCl [(ta, .inr (8, [.ref m_now, .ref m_undone, .ref m_slots, .ref m_slotKind, .ref m_hasSlot, .ref m_sheetBits, .ref m_sheetSize, .ref m_sheets, .int (nI u), .int ((f_X8_found fi (-1000006)).2), .ref m_fresh, .long aa, .long bb, .long dd, .int (nI ro), .ref m_rootWhich, .int db, .ref m_signs, .ref m_atNought, .int (nI mn), .ref m_change, .ref m_table, .ref m_carried])), (m_now, .inl (cy 0, 29, .inl nw))] H := hP9
      replace hD : va_D A [(ta, .inr (8, [.ref m_now, .ref m_undone, .ref m_slots, .ref m_slotKind, .ref m_hasSlot, .ref m_sheetBits, .ref m_sheetSize, .ref m_sheets, .int (nI u), .int ((f_X8_found fi (-1000006)).2), .ref m_fresh, .long aa, .long bb, .long dd, .int (nI ro), .ref m_rootWhich, .int db, .ref m_signs, .ref m_atNought, .int (nI mn), .ref m_change, .ref m_table, .ref m_carried])), (m_now, .inl (cy 0, 29, .inl nw))] := hD9
      replace hS := hS9
      clear hP9 hD9 hS9
      exact J5 _ _ _ _ _ ((if_pos hc2).symm) ((if_pos hc2).symm) hP hD hS (lv_sub hl [0, 1, 2] rfl)
    · refine lv_aload_n hx hb dX8_sort_24 rfl (lv_at hl 0 rfl) ?_
      refine lv_iload_n hx hb dX8_sort_25 rfl (lv_at hl 1 rfl) ?_
      refine lv_iload_n hx hb dX8_sort_26 rfl (lv_at hl 2 rfl) ?_
      refine yk_i [0, 1] (va_runV (As := [.int px, .int py]) (rest := []) ⟨hx, hb, hml, hown, hts⟩ (c_X8_sortAt l D cy ta m_now m_undone m_slots m_slotKind m_hasSlot m_sheetBits m_sheetSize m_sheets m_fresh m_rootWhich m_signs m_atNought m_change m_table m_carried nw u fi aa bb dd ro db mn px py H.size) (cwV 2 hts gX8_sort_X8_sortAt rfl rfl rfl hv_X8_sortAt (yk_room hRf hRl rfl rfl)) (yk_pv (q := (RX8, TX8, 23)) hG hA hS hK hP hD [0, 1] (by decide +kernel) rfl rfl rfl) rfl rfl hl.1 rfl (lv_room (Nat.le_of_ble_eq_true rfl)) dX8_sort_27 ⟨Nat.zero_le _, Nat.zero_le _⟩) hP hD hS hA rfl rfl (fun H locs hP9 hD9 hS9 => ?_)
      replace hP : va_P D vwCl [(ta, .inr (8, [.ref m_now, .ref m_undone, .ref m_slots, .ref m_slotKind, .ref m_hasSlot, .ref m_sheetBits, .ref m_sheetSize, .ref m_sheets, .int (nI u), .int fi, .ref m_fresh, .long aa, .long bb, .long dd, .int (nI ro), .ref m_rootWhich, .int db, .ref m_signs, .ref m_atNought, .int (nI mn), .ref m_change, .ref m_table, .ref m_carried])), (m_now, .inl (cy 0, 29, .inl nw))] H := hP9
      replace hD : va_D A [(ta, .inr (8, [.ref m_now, .ref m_undone, .ref m_slots, .ref m_slotKind, .ref m_hasSlot, .ref m_sheetBits, .ref m_sheetSize, .ref m_sheets, .int (nI u), .int fi, .ref m_fresh, .long aa, .long bb, .long dd, .int (nI ro), .ref m_rootWhich, .int db, .ref m_signs, .ref m_atNought, .int (nI mn), .ref m_change, .ref m_table, .ref m_carried])), (m_now, .inl (cy 0, 29, .inl nw))] := hD9
      replace hS := hS9
      clear hP9 hD9 hS9
      refine lv_goto (tgt := 39) hx hb dX8_sort_30 (by decide) ?_
      exact J5 _ _ _ _ _ ((if_neg hc2).symm) ((if_neg hc2).symm) hP hD hS (lv_sub hl [0, 1, 2] rfl)
  · replace hF := hF.trans (if_pos hc1)
    refine lv_aload_n hx hb dX8_sort_8 rfl (lv_at hl 0 rfl) ?_
    refine lv_ldc (v := (-1000001)) hx hb hown (hts _ kX8_sort_1) dX8_sort_9 ?_
    refine yk_i [0] (va_runV (As := [.int (-1000001)]) (rest := []) ⟨hx, hb, hml, hown, hts⟩ (c_X8_found l D cy ta m_now m_undone m_slots m_slotKind m_hasSlot m_sheetBits m_sheetSize m_sheets m_fresh m_rootWhich m_signs m_atNought m_change m_table m_carried u fi aa bb dd ro db mn (-1000001) H.size) (cwV 1 hts gX8_sort_X8_found rfl rfl rfl hv_X8_found (yk_room hRf hRl rfl rfl)) (yk_pv (q := (RX8, TX8, 23)) hG hA hS hK hP hD [0] (by decide +kernel) rfl rfl rfl) rfl rfl hl.1 rfl (lv_room (Nat.le_of_ble_eq_true rfl)) dX8_sort_11 ⟨Nat.zero_le _, Nat.zero_le _⟩) hP hD hS hA rfl rfl (fun H locs hP9 hD9 hS9 => ?_)
    replace hP : va_P D vwCl [(ta, .inr (8, [.ref m_now, .ref m_undone, .ref m_slots, .ref m_slotKind, .ref m_hasSlot, .ref m_sheetBits, .ref m_sheetSize, .ref m_sheets, .int (nI u), .int ((f_X8_found fi (-1000001)).2), .ref m_fresh, .long aa, .long bb, .long dd, .int (nI ro), .ref m_rootWhich, .int db, .ref m_signs, .ref m_atNought, .int (nI mn), .ref m_change, .ref m_table, .ref m_carried])), (m_now, .inl (cy 0, 29, .inl nw))] H := hP9
    replace hD : va_D A [(ta, .inr (8, [.ref m_now, .ref m_undone, .ref m_slots, .ref m_slotKind, .ref m_hasSlot, .ref m_sheetBits, .ref m_sheetSize, .ref m_sheets, .int (nI u), .int ((f_X8_found fi (-1000001)).2), .ref m_fresh, .long aa, .long bb, .long dd, .int (nI ro), .ref m_rootWhich, .int db, .ref m_signs, .ref m_atNought, .int (nI mn), .ref m_change, .ref m_table, .ref m_carried])), (m_now, .inl (cy 0, 29, .inl nw))] := hD9
    replace hS := hS9
    clear hP9 hD9 hS9
    have hF : f_X8_sort nw fi px py = (((f_X8_found fi (-1000001)).1), ((f_X8_found fi (-1000001)).2)) := hF
    have hf0 := yk_fst hF
    have hg0 := yk_snd hF
    rw [hf0, hg0] at hQ
    exact hQ _ _ _ _ dX8_sort_14 hP hS

theorem kX8_corners_0 : Cond.fieldLink RX8 7 "FlowPlaneModel" "now" "[I" ∈ wsX8_corners := by decide +kernel
theorem uX8_corners_X8 : ∀ w ∈ u_ws RX8 TX8 23, w ∈ wsX8_corners := by decide +kernel
def f_X8_corners (nw : Nat → Int32) : Int32 := (nw 12)
set_option maxHeartbeats 400000000 in
set_option maxRecDepth 100000 in
theorem c_X8_corners (l : Launch) (D : va_G) (cy : Nat → ClassId) (ta : Nat) (m_now : Nat) (m_undone : Nat) (m_slots : Nat) (m_slotKind : Nat) (m_hasSlot : Nat) (m_sheetBits : Nat) (m_sheetSize : Nat) (m_sheets : Nat) (m_fresh : Nat) (m_rootWhich : Nat) (m_signs : Nat) (m_atNought : Nat) (m_change : Nat) (m_table : Nat) (m_carried : Nat) (nw : Nat → Int32) (u : Nat) (fi : Int32) (aa : Int64) (bb : Int64) (dd : Int64) (ro : Nat) (db : Int32) (mn : Nat) : yk_Ci l D vwCl (yk_ty cy) yX8_corners wsX8_corners 0 0 [.ref ta] [(ta, .inr (8, [.ref m_now, .ref m_undone, .ref m_slots, .ref m_slotKind, .ref m_hasSlot, .ref m_sheetBits, .ref m_sheetSize, .ref m_sheets, .int (nI u), .int fi, .ref m_fresh, .long aa, .long bb, .long dd, .int (nI ro), .ref m_rootWhich, .int db, .ref m_signs, .ref m_atNought, .int (nI mn), .ref m_change, .ref m_table, .ref m_carried])), (m_now, .inl (cy 0, 29, .inl nw))] (f_X8_corners nw) [(ta, .inr (8, [.ref m_now, .ref m_undone, .ref m_slots, .ref m_slotKind, .ref m_hasSlot, .ref m_sheetBits, .ref m_sheetSize, .ref m_sheets, .int (nI u), .int fi, .ref m_fresh, .long aa, .long bb, .long dd, .int (nI ro), .ref m_rootWhich, .int db, .ref m_signs, .ref m_atNought, .int (nI mn), .ref m_change, .ref m_table, .ref m_carried])), (m_now, .inl (cy 0, 29, .inl nw))] := by
  refine yk_eI (cc := cX8_corners) (maxL := 1) (by decide) rfl (Nat.le_of_ble_eq_true rfl) rfl ?_
  intro p e R s m args below meth c A Q ls H locs hx hb hml hown hts hRf hRl hA hK hG hP hD hS hl hQ
  have hP : va_P D vwCl [(ta, .inr (8, [.ref m_now, .ref m_undone, .ref m_slots, .ref m_slotKind, .ref m_hasSlot, .ref m_sheetBits, .ref m_sheetSize, .ref m_sheets, .int (nI u), .int fi, .ref m_fresh, .long aa, .long bb, .long dd, .int (nI ro), .ref m_rootWhich, .int db, .ref m_signs, .ref m_atNought, .int (nI mn), .ref m_change, .ref m_table, .ref m_carried])), (m_now, .inl (cy 0, 29, .inl nw))] H := hP
  have hl : lv_has ls 1 [(0, .ref ta)] := hl
  have hown : s.vm.findClass RX8 = some m.cls := hown
  have hF : (f_X8_corners nw) = (f_X8_corners nw) := rfl
  refine lv_aload_n hx hb dX8_corners_0 rfl (lv_at hl 0 rfl) ?_
  refine va_get (D := D) (ci := 8) (v := .ref m_now) (C := RX8) (T := TX8) (N := 23) hx hb hts uX8_corners_X8 hown hK hP 0 rfl rfl 0 (by decide) (hts _ kX8_corners_0) (fun _ h9 => h9) rfl dX8_corners_1 ?_
  refine lv_bipush (v := 12) hx hb dX8_corners_4 (by decide) ?_
  refine yk_ild hx hb hK hP 1 0 rfl rfl 12 (by omega) (by decide) dX8_corners_6 ?_
  have hF : f_X8_corners nw = (nw 12) := hF
  rw [hF] at hQ
  exact hQ _ _ _ _ dX8_corners_7 hP hS

theorem kX8_xOf_0 : Cond.fieldLink RX8 7 "FlowPlaneModel" "now" "[I" ∈ wsX8_xOf := by decide +kernel
theorem uX8_xOf_X8 : ∀ w ∈ u_ws RX8 TX8 23, w ∈ wsX8_xOf := by decide +kernel
def f_X8_xOf (nw : Nat → Int32) (k : Nat) (n : Nat) : Int32 := (nw (13 + (k % n)))
set_option maxHeartbeats 400000000 in
set_option maxRecDepth 100000 in
theorem c_X8_xOf (l : Launch) (D : va_G) (cy : Nat → ClassId) (ta : Nat) (m_now : Nat) (m_undone : Nat) (m_slots : Nat) (m_slotKind : Nat) (m_hasSlot : Nat) (m_sheetBits : Nat) (m_sheetSize : Nat) (m_sheets : Nat) (m_fresh : Nat) (m_rootWhich : Nat) (m_signs : Nat) (m_atNought : Nat) (m_change : Nat) (m_table : Nat) (m_carried : Nat) (nw : Nat → Int32) (u : Nat) (fi : Int32) (aa : Int64) (bb : Int64) (dd : Int64) (ro : Nat) (db : Int32) (mn : Nat) (k : Nat) (n : Nat) (hn12 : nw 12 = nI n) (hn : n ≤ 8) (hn0 : 0 < n) (hk : k < 64) : yk_Ci l D vwCl (yk_ty cy) yX8_xOf wsX8_xOf 1 20 [.ref ta, .int (nI k)] [(ta, .inr (8, [.ref m_now, .ref m_undone, .ref m_slots, .ref m_slotKind, .ref m_hasSlot, .ref m_sheetBits, .ref m_sheetSize, .ref m_sheets, .int (nI u), .int fi, .ref m_fresh, .long aa, .long bb, .long dd, .int (nI ro), .ref m_rootWhich, .int db, .ref m_signs, .ref m_atNought, .int (nI mn), .ref m_change, .ref m_table, .ref m_carried])), (m_now, .inl (cy 0, 29, .inl nw))] (f_X8_xOf nw k n) [(ta, .inr (8, [.ref m_now, .ref m_undone, .ref m_slots, .ref m_slotKind, .ref m_hasSlot, .ref m_sheetBits, .ref m_sheetSize, .ref m_sheets, .int (nI u), .int fi, .ref m_fresh, .long aa, .long bb, .long dd, .int (nI ro), .ref m_rootWhich, .int db, .ref m_signs, .ref m_atNought, .int (nI mn), .ref m_change, .ref m_table, .ref m_carried])), (m_now, .inl (cy 0, 29, .inl nw))] := by
  refine yk_eI (cc := cX8_xOf) (maxL := 2) (by decide) rfl (Nat.le_of_ble_eq_true rfl) rfl ?_
  intro p e R s m args below meth c A Q ls H locs hx hb hml hown hts hRf hRl hA hK hG hP hD hS hl hQ
  have hP : va_P D vwCl [(ta, .inr (8, [.ref m_now, .ref m_undone, .ref m_slots, .ref m_slotKind, .ref m_hasSlot, .ref m_sheetBits, .ref m_sheetSize, .ref m_sheets, .int (nI u), .int fi, .ref m_fresh, .long aa, .long bb, .long dd, .int (nI ro), .ref m_rootWhich, .int db, .ref m_signs, .ref m_atNought, .int (nI mn), .ref m_change, .ref m_table, .ref m_carried])), (m_now, .inl (cy 0, 29, .inl nw))] H := hP
  have hl : lv_has ls 2 [(0, .ref ta), (1, .int (nI k))] := hl
  have hown : s.vm.findClass RX8 = some m.cls := hown
  have hF : (f_X8_xOf nw k n) = (f_X8_xOf nw k n) := rfl
  refine lv_aload_n hx hb dX8_xOf_0 rfl (lv_at hl 0 rfl) ?_
  refine va_get (D := D) (ci := 8) (v := .ref m_now) (C := RX8) (T := TX8) (N := 23) hx hb hts uX8_xOf_X8 hown hK hP 0 rfl rfl 0 (by decide) (hts _ kX8_xOf_0) (fun _ h9 => h9) rfl dX8_xOf_1 ?_
  refine lv_bipush (v := 13) hx hb dX8_xOf_4 (by decide) ?_
  refine lv_iload_n hx hb dX8_xOf_6 rfl (lv_at hl 1 rfl) ?_
  refine lv_aload_n hx hb dX8_xOf_7 rfl (lv_at hl 0 rfl) ?_
  refine yk_i [0, 1] (va_runV (As := []) (rest := [.int (nI k), .int 13, .ref m_now]) ⟨hx, hb, hml, hown, hts⟩ (c_X8_corners l D cy ta m_now m_undone m_slots m_slotKind m_hasSlot m_sheetBits m_sheetSize m_sheets m_fresh m_rootWhich m_signs m_atNought m_change m_table m_carried nw u fi aa bb dd ro db mn H.size) (cwV 0 hts gX8_xOf_X8_corners rfl rfl rfl hv_X8_corners (yk_room hRf hRl rfl rfl)) (yk_pv (q := (RX8, TX8, 23)) hG hA hS hK hP hD [0, 1] (by decide +kernel) rfl rfl rfl) rfl rfl hl.1 rfl (lv_room (Nat.le_of_ble_eq_true rfl)) dX8_xOf_8 ⟨Nat.zero_le _, Nat.zero_le _⟩) hP hD hS hA rfl rfl (fun H locs hP9 hD9 hS9 => ?_)
  replace hP : va_P D vwCl [(ta, .inr (8, [.ref m_now, .ref m_undone, .ref m_slots, .ref m_slotKind, .ref m_hasSlot, .ref m_sheetBits, .ref m_sheetSize, .ref m_sheets, .int (nI u), .int fi, .ref m_fresh, .long aa, .long bb, .long dd, .int (nI ro), .ref m_rootWhich, .int db, .ref m_signs, .ref m_atNought, .int (nI mn), .ref m_change, .ref m_table, .ref m_carried])), (m_now, .inl (cy 0, 29, .inl nw))] H := hP9
  replace hD : va_D A [(ta, .inr (8, [.ref m_now, .ref m_undone, .ref m_slots, .ref m_slotKind, .ref m_hasSlot, .ref m_sheetBits, .ref m_sheetSize, .ref m_sheets, .int (nI u), .int fi, .ref m_fresh, .long aa, .long bb, .long dd, .int (nI ro), .ref m_rootWhich, .int db, .ref m_signs, .ref m_atNought, .int (nI mn), .ref m_change, .ref m_table, .ref m_carried])), (m_now, .inl (cy 0, 29, .inl nw))] := hD9
  replace hS := hS9
  clear hP9 hD9 hS9
  refine yk_ti (y := nI n) (hn12) ?_
  refine lv_irem hx hb dX8_xOf_11 (nI_ne0 hn0 (by omega)) ?_
  refine yk_ti (y := nI (k % n)) (pk_rem (by omega) hn0 (by omega)) ?_
  refine lv_iadd hx hb dX8_xOf_12 ?_
  refine yk_ti (y := nI (13 + (k % n))) (nI_add 13 (k % n)) ?_
  have hmod := Nat.mod_lt k hn0
  refine yk_ild hx hb hK hP 1 0 rfl rfl (13 + (k % n)) (by omega) (by decide) dX8_xOf_13 ?_
  have hF : f_X8_xOf nw k n = (nw (13 + (k % n))) := hF
  rw [hF] at hQ
  exact hQ _ _ _ _ dX8_xOf_14 hP hS

theorem kX8_yOf_0 : Cond.fieldLink RX8 7 "FlowPlaneModel" "now" "[I" ∈ wsX8_yOf := by decide +kernel
theorem uX8_yOf_X8 : ∀ w ∈ u_ws RX8 TX8 23, w ∈ wsX8_yOf := by decide +kernel
def f_X8_yOf (nw : Nat → Int32) (k : Nat) (n : Nat) : Int32 := (nw (21 + (k % n)))
set_option maxHeartbeats 400000000 in
set_option maxRecDepth 100000 in
theorem c_X8_yOf (l : Launch) (D : va_G) (cy : Nat → ClassId) (ta : Nat) (m_now : Nat) (m_undone : Nat) (m_slots : Nat) (m_slotKind : Nat) (m_hasSlot : Nat) (m_sheetBits : Nat) (m_sheetSize : Nat) (m_sheets : Nat) (m_fresh : Nat) (m_rootWhich : Nat) (m_signs : Nat) (m_atNought : Nat) (m_change : Nat) (m_table : Nat) (m_carried : Nat) (nw : Nat → Int32) (u : Nat) (fi : Int32) (aa : Int64) (bb : Int64) (dd : Int64) (ro : Nat) (db : Int32) (mn : Nat) (k : Nat) (n : Nat) (hn12 : nw 12 = nI n) (hn : n ≤ 8) (hn0 : 0 < n) (hk : k < 64) : yk_Ci l D vwCl (yk_ty cy) yX8_yOf wsX8_yOf 1 20 [.ref ta, .int (nI k)] [(ta, .inr (8, [.ref m_now, .ref m_undone, .ref m_slots, .ref m_slotKind, .ref m_hasSlot, .ref m_sheetBits, .ref m_sheetSize, .ref m_sheets, .int (nI u), .int fi, .ref m_fresh, .long aa, .long bb, .long dd, .int (nI ro), .ref m_rootWhich, .int db, .ref m_signs, .ref m_atNought, .int (nI mn), .ref m_change, .ref m_table, .ref m_carried])), (m_now, .inl (cy 0, 29, .inl nw))] (f_X8_yOf nw k n) [(ta, .inr (8, [.ref m_now, .ref m_undone, .ref m_slots, .ref m_slotKind, .ref m_hasSlot, .ref m_sheetBits, .ref m_sheetSize, .ref m_sheets, .int (nI u), .int fi, .ref m_fresh, .long aa, .long bb, .long dd, .int (nI ro), .ref m_rootWhich, .int db, .ref m_signs, .ref m_atNought, .int (nI mn), .ref m_change, .ref m_table, .ref m_carried])), (m_now, .inl (cy 0, 29, .inl nw))] := by
  refine yk_eI (cc := cX8_yOf) (maxL := 2) (by decide) rfl (Nat.le_of_ble_eq_true rfl) rfl ?_
  intro p e R s m args below meth c A Q ls H locs hx hb hml hown hts hRf hRl hA hK hG hP hD hS hl hQ
  have hP : va_P D vwCl [(ta, .inr (8, [.ref m_now, .ref m_undone, .ref m_slots, .ref m_slotKind, .ref m_hasSlot, .ref m_sheetBits, .ref m_sheetSize, .ref m_sheets, .int (nI u), .int fi, .ref m_fresh, .long aa, .long bb, .long dd, .int (nI ro), .ref m_rootWhich, .int db, .ref m_signs, .ref m_atNought, .int (nI mn), .ref m_change, .ref m_table, .ref m_carried])), (m_now, .inl (cy 0, 29, .inl nw))] H := hP
  have hl : lv_has ls 2 [(0, .ref ta), (1, .int (nI k))] := hl
  have hown : s.vm.findClass RX8 = some m.cls := hown
  have hF : (f_X8_yOf nw k n) = (f_X8_yOf nw k n) := rfl
  refine lv_aload_n hx hb dX8_yOf_0 rfl (lv_at hl 0 rfl) ?_
  refine va_get (D := D) (ci := 8) (v := .ref m_now) (C := RX8) (T := TX8) (N := 23) hx hb hts uX8_yOf_X8 hown hK hP 0 rfl rfl 0 (by decide) (hts _ kX8_yOf_0) (fun _ h9 => h9) rfl dX8_yOf_1 ?_
  refine lv_bipush (v := 21) hx hb dX8_yOf_4 (by decide) ?_
  refine lv_iload_n hx hb dX8_yOf_6 rfl (lv_at hl 1 rfl) ?_
  refine lv_aload_n hx hb dX8_yOf_7 rfl (lv_at hl 0 rfl) ?_
  refine yk_i [0, 1] (va_runV (As := []) (rest := [.int (nI k), .int 21, .ref m_now]) ⟨hx, hb, hml, hown, hts⟩ (c_X8_corners l D cy ta m_now m_undone m_slots m_slotKind m_hasSlot m_sheetBits m_sheetSize m_sheets m_fresh m_rootWhich m_signs m_atNought m_change m_table m_carried nw u fi aa bb dd ro db mn H.size) (cwV 0 hts gX8_yOf_X8_corners rfl rfl rfl hv_X8_corners (yk_room hRf hRl rfl rfl)) (yk_pv (q := (RX8, TX8, 23)) hG hA hS hK hP hD [0, 1] (by decide +kernel) rfl rfl rfl) rfl rfl hl.1 rfl (lv_room (Nat.le_of_ble_eq_true rfl)) dX8_yOf_8 ⟨Nat.zero_le _, Nat.zero_le _⟩) hP hD hS hA rfl rfl (fun H locs hP9 hD9 hS9 => ?_)
  replace hP : va_P D vwCl [(ta, .inr (8, [.ref m_now, .ref m_undone, .ref m_slots, .ref m_slotKind, .ref m_hasSlot, .ref m_sheetBits, .ref m_sheetSize, .ref m_sheets, .int (nI u), .int fi, .ref m_fresh, .long aa, .long bb, .long dd, .int (nI ro), .ref m_rootWhich, .int db, .ref m_signs, .ref m_atNought, .int (nI mn), .ref m_change, .ref m_table, .ref m_carried])), (m_now, .inl (cy 0, 29, .inl nw))] H := hP9
  replace hD : va_D A [(ta, .inr (8, [.ref m_now, .ref m_undone, .ref m_slots, .ref m_slotKind, .ref m_hasSlot, .ref m_sheetBits, .ref m_sheetSize, .ref m_sheets, .int (nI u), .int fi, .ref m_fresh, .long aa, .long bb, .long dd, .int (nI ro), .ref m_rootWhich, .int db, .ref m_signs, .ref m_atNought, .int (nI mn), .ref m_change, .ref m_table, .ref m_carried])), (m_now, .inl (cy 0, 29, .inl nw))] := hD9
  replace hS := hS9
  clear hP9 hD9 hS9
  refine yk_ti (y := nI n) (hn12) ?_
  refine lv_irem hx hb dX8_yOf_11 (nI_ne0 hn0 (by omega)) ?_
  refine yk_ti (y := nI (k % n)) (pk_rem (by omega) hn0 (by omega)) ?_
  refine lv_iadd hx hb dX8_yOf_12 ?_
  refine yk_ti (y := nI (21 + (k % n))) (nI_add 21 (k % n)) ?_
  have hmod := Nat.mod_lt k hn0
  refine yk_ild hx hb hK hP 1 0 rfl rfl (21 + (k % n)) (by omega) (by decide) dX8_yOf_13 ?_
  have hF : f_X8_yOf nw k n = (nw (21 + (k % n))) := hF
  rw [hF] at hQ
  exact hQ _ _ _ _ dX8_yOf_14 hP hS

theorem kX8_sorts_0 : Cond.constant RX8 68 (-1000001) ∈ wsX8_sorts := by decide +kernel
def l_X8_sorts_31 (nw : Nat → Int32) (fi : Int32) (px : Int32) (ki : Nat) (z2_21 : Int32) : Nat → Nat → Int32 → Int32
  | 0, kj, z2_31 => z2_31
  | fu_X8_sorts_31 + 1, kj, z2_31 => (if 6 < (nI kj - 6) then z2_31 else (l_X8_sorts_31 nw fi px ki z2_21 fu_X8_sorts_31 (kj + 1) (z2_31 + (if (f_X8_isRest nw (nI ki - 6) (nI kj - 6)) = 0 then 0 else (if (f_X8_sortAt nw (nI ki - 6) (nI kj - 6)) = px then 1 else 0)))))
def l_X8_sorts_21 (nw : Nat → Int32) (fi : Int32) (px : Int32) : Nat → Nat → Int32 → Int32
  | 0, ki, z2_21 => z2_21
  | fu_X8_sorts_21 + 1, ki, z2_21 => (if 6 < (nI ki - 6) then z2_21 else (l_X8_sorts_21 nw fi px fu_X8_sorts_21 (ki + 1) (l_X8_sorts_31 nw fi px ki z2_21 (13 + 1) 0 z2_21)))
def f_X8_sorts (nw : Nat → Int32) (fi : Int32) (px : Int32) : Int32 × Int32 := (if (f_X8_in px 1 5) = 0 then (((f_X8_found fi (-1000001)).1), ((f_X8_found fi (-1000001)).2)) else ((l_X8_sorts_21 nw fi px (13 + 1) 0 0), fi))
set_option maxHeartbeats 400000000 in
set_option maxRecDepth 100000 in
theorem c_X8_sorts (l : Launch) (D : va_G) (cy : Nat → ClassId) (ta : Nat) (m_now : Nat) (m_undone : Nat) (m_slots : Nat) (m_slotKind : Nat) (m_hasSlot : Nat) (m_sheetBits : Nat) (m_sheetSize : Nat) (m_sheets : Nat) (m_fresh : Nat) (m_rootWhich : Nat) (m_signs : Nat) (m_atNought : Nat) (m_change : Nat) (m_table : Nat) (m_carried : Nat) (nw : Nat → Int32) (u : Nat) (fi : Int32) (aa : Int64) (bb : Int64) (dd : Int64) (ro : Nat) (db : Int32) (mn : Nat) (px : Int32) : yk_Ci l D vwCl (yk_ty cy) yX8_sorts wsX8_sorts 3 72 [.ref ta, .int px] [(ta, .inr (8, [.ref m_now, .ref m_undone, .ref m_slots, .ref m_slotKind, .ref m_hasSlot, .ref m_sheetBits, .ref m_sheetSize, .ref m_sheets, .int (nI u), .int fi, .ref m_fresh, .long aa, .long bb, .long dd, .int (nI ro), .ref m_rootWhich, .int db, .ref m_signs, .ref m_atNought, .int (nI mn), .ref m_change, .ref m_table, .ref m_carried])), (m_now, .inl (cy 0, 29, .inl nw))] ((f_X8_sorts nw fi px).1) [(ta, .inr (8, [.ref m_now, .ref m_undone, .ref m_slots, .ref m_slotKind, .ref m_hasSlot, .ref m_sheetBits, .ref m_sheetSize, .ref m_sheets, .int (nI u), .int ((f_X8_sorts nw fi px).2), .ref m_fresh, .long aa, .long bb, .long dd, .int (nI ro), .ref m_rootWhich, .int db, .ref m_signs, .ref m_atNought, .int (nI mn), .ref m_change, .ref m_table, .ref m_carried])), (m_now, .inl (cy 0, 29, .inl nw))] := by
  refine yk_eI (cc := cX8_sorts) (maxL := 5) (by decide) rfl (Nat.le_of_ble_eq_true rfl) rfl ?_
  intro p e R s m args below meth c A Q ls H locs hx hb hml hown hts hRf hRl hA hK hG hP hD hS hl hQ
  have hP : va_P D vwCl [(ta, .inr (8, [.ref m_now, .ref m_undone, .ref m_slots, .ref m_slotKind, .ref m_hasSlot, .ref m_sheetBits, .ref m_sheetSize, .ref m_sheets, .int (nI u), .int fi, .ref m_fresh, .long aa, .long bb, .long dd, .int (nI ro), .ref m_rootWhich, .int db, .ref m_signs, .ref m_atNought, .int (nI mn), .ref m_change, .ref m_table, .ref m_carried])), (m_now, .inl (cy 0, 29, .inl nw))] H := hP
  have hl : lv_has ls 5 [(0, .ref ta), (1, .int px)] := hl
  have hown : s.vm.findClass RX8 = some m.cls := hown
  have hF : (f_X8_sorts nw fi px) = (f_X8_sorts nw fi px) := rfl
  refine lv_iload_n hx hb dX8_sorts_0 rfl (lv_at hl 1 rfl) ?_
  refine lv_iconst (v := 1) hx hb dX8_sorts_1 (by decide) ?_
  refine lv_iconst (v := 5) hx hb dX8_sorts_2 (by decide) ?_
  refine yk_i [] (va_runS (As := [.int px, .int 1, .int 5]) (rest := []) ⟨hx, hb, hml, hown, hts⟩ (c_X8_in l D cy px 1 5 H.size) (va_cwS 3 hts gX8_sorts_X8_in rfl rfl rfl hs_X8_in (yk_room hRf hRl rfl rfl)) (yk_ps hG hA hS hK hP hD [] (by decide +kernel) rfl) rfl rfl hl.1 rfl (lv_room (Nat.le_of_ble_eq_true rfl)) dX8_sorts_3 ⟨Nat.zero_le _, Nat.zero_le _⟩) hP hD hS hA rfl rfl (fun H locs hP9 hD9 hS9 => ?_)
  replace hP : va_P D vwCl [(ta, .inr (8, [.ref m_now, .ref m_undone, .ref m_slots, .ref m_slotKind, .ref m_hasSlot, .ref m_sheetBits, .ref m_sheetSize, .ref m_sheets, .int (nI u), .int fi, .ref m_fresh, .long aa, .long bb, .long dd, .int (nI ro), .ref m_rootWhich, .int db, .ref m_signs, .ref m_atNought, .int (nI mn), .ref m_change, .ref m_table, .ref m_carried])), (m_now, .inl (cy 0, 29, .inl nw))] H := hP9
  replace hD : va_D A [(ta, .inr (8, [.ref m_now, .ref m_undone, .ref m_slots, .ref m_slotKind, .ref m_hasSlot, .ref m_sheetBits, .ref m_sheetSize, .ref m_sheets, .int (nI u), .int fi, .ref m_fresh, .long aa, .long bb, .long dd, .int (nI ro), .ref m_rootWhich, .int db, .ref m_signs, .ref m_atNought, .int (nI mn), .ref m_change, .ref m_table, .ref m_carried])), (m_now, .inl (cy 0, 29, .inl nw))] := hD9
  replace hS := hS9
  clear hP9 hD9 hS9
  refine lv_if_ne (tgt := 16) hx hb dX8_sorts_6 (by decide) (fun hc1 => ?_) (fun hc1 => ?_)
  · replace hF := hF.trans (if_neg hc1)
    refine lv_iconst (v := 0) hx hb dX8_sorts_16 (by decide) ?_
    refine lv_istore_n (lv' := [(2, .int 0), (0, .ref ta), (1, .int px)]) hx hb dX8_sorts_17 rfl hl (by decide) rfl (fun ls hl9 => ?_)
    replace hl := hl9
    clear hl9
    refine lv_bipush (v := (-6)) hx hb dX8_sorts_18 (by decide) ?_
    refine lv_istore_n (lv' := [(3, .int (-6)), (2, .int 0), (0, .ref ta), (1, .int px)]) hx hb dX8_sorts_20 rfl hl (by decide) rfl (fun ls hl9 => ?_)
    replace hl := hl9
    clear hl9
    have J9 : ∀ (H : Heap) (locs : List Loc) (ls : Array Slot), va_P D vwCl [(ta, .inr (8, [.ref m_now, .ref m_undone, .ref m_slots, .ref m_slotKind, .ref m_hasSlot, .ref m_sheetBits, .ref m_sheetSize, .ref m_sheets, .int (nI u), .int fi, .ref m_fresh, .long aa, .long bb, .long dd, .int (nI ro), .ref m_rootWhich, .int db, .ref m_signs, .ref m_atNought, .int (nI mn), .ref m_change, .ref m_table, .ref m_carried])), (m_now, .inl (cy 0, 29, .inl nw))] H → va_D A [(ta, .inr (8, [.ref m_now, .ref m_undone, .ref m_slots, .ref m_slotKind, .ref m_hasSlot, .ref m_sheetBits, .ref m_sheetSize, .ref m_sheets, .int (nI u), .int fi, .ref m_fresh, .long aa, .long bb, .long dd, .int (nI ro), .ref m_rootWhich, .int db, .ref m_signs, .ref m_atNought, .int (nI mn), .ref m_change, .ref m_table, .ref m_carried])), (m_now, .inl (cy 0, 29, .inl nw))] → va_S A s.heap H locs → lv_has ls 5 [(0, .ref ta), (1, .int px), (2, .int (l_X8_sorts_21 nw fi px (13 + 1) 0 0))] → W p l e R s m args below meth c H locs 0 0 Q (F0 m 79 ls []) := by
      clear hP hD hS hl
      intro H locs ls hP hD hS hl
      refine lv_iload_n hx hb dX8_sorts_79 rfl (lv_at hl 2 rfl) ?_
      have hF : f_X8_sorts nw fi px = ((l_X8_sorts_21 nw fi px (13 + 1) 0 0), fi) := hF
      have hf0 := yk_fst hF
      have hg0 := yk_snd hF
      rw [hf0, hg0] at hQ
      exact hQ _ _ _ _ dX8_sorts_80 hP hS
    have L21 : ∀ (M9 n21 ki : Nat) (z2_21 : Int32) (H : Heap) (locs : List Loc) (ls : Array Slot), n21 < M9 → ki + n21 = 13 → (l_X8_sorts_21 nw fi px (13 + 1) 0 0) = (l_X8_sorts_21 nw fi px (n21 + 1) ki z2_21) → va_P D vwCl [(ta, .inr (8, [.ref m_now, .ref m_undone, .ref m_slots, .ref m_slotKind, .ref m_hasSlot, .ref m_sheetBits, .ref m_sheetSize, .ref m_sheets, .int (nI u), .int fi, .ref m_fresh, .long aa, .long bb, .long dd, .int (nI ro), .ref m_rootWhich, .int db, .ref m_signs, .ref m_atNought, .int (nI mn), .ref m_change, .ref m_table, .ref m_carried])), (m_now, .inl (cy 0, 29, .inl nw))] H → va_D A [(ta, .inr (8, [.ref m_now, .ref m_undone, .ref m_slots, .ref m_slotKind, .ref m_hasSlot, .ref m_sheetBits, .ref m_sheetSize, .ref m_sheets, .int (nI u), .int fi, .ref m_fresh, .long aa, .long bb, .long dd, .int (nI ro), .ref m_rootWhich, .int db, .ref m_signs, .ref m_atNought, .int (nI mn), .ref m_change, .ref m_table, .ref m_carried])), (m_now, .inl (cy 0, 29, .inl nw))] → va_S A s.heap H locs → lv_has ls 5 [(0, .ref ta), (1, .int px), (2, .int z2_21), (3, .int (nI ki - 6))] → W p l e R s m args below meth c H locs 0 0 Q (F0 m 21 ls []) := by
      clear hP hD hS hl
      intro M9
      induction M9 with
      | zero => intro n21 ki _ _ _ _ hn; exact absurd hn (Nat.not_lt_zero _)
      | succ M9 ih21 =>
        intro n21 ki z2_21 H locs ls hn21 hk21 hV21 hP hD hS hl
        refine lv_iload_n hx hb dX8_sorts_21 rfl (lv_at hl 3 rfl) ?_
        refine lv_bipush (v := 6) hx hb dX8_sorts_22 (by decide) ?_
        refine lv_icmp_gt (tgt := 79) hx hb dX8_sorts_24 (by decide) (fun hc2 => ?_) (fun hc2 => ?_)
        · replace hV21 := hV21.trans (if_pos hc2)
          have hV21 : (l_X8_sorts_21 nw fi px (13 + 1) 0 0) = z2_21 := hV21
          have J9 := J9
          rw [hV21] at J9
          exact J9 _ _ _ hP hD hS (lv_sub hl [0, 1, 2] rfl)
        · replace hV21 := hV21.trans (if_neg hc2)
          have hlt21 : ki < 13 := yk_lt6 hk21 hc2
          refine lv_bipush (v := (-6)) hx hb dX8_sorts_27 (by decide) ?_
          refine lv_istore (lv' := [(4, .int (-6)), (0, .ref ta), (1, .int px), (2, .int z2_21), (3, .int (nI ki - 6))]) hx hb dX8_sorts_29 hl (by decide) rfl (fun ls hl9 => ?_)
          replace hl := hl9
          clear hl9
          have J8 : ∀ (H : Heap) (locs : List Loc) (ls : Array Slot), va_P D vwCl [(ta, .inr (8, [.ref m_now, .ref m_undone, .ref m_slots, .ref m_slotKind, .ref m_hasSlot, .ref m_sheetBits, .ref m_sheetSize, .ref m_sheets, .int (nI u), .int fi, .ref m_fresh, .long aa, .long bb, .long dd, .int (nI ro), .ref m_rootWhich, .int db, .ref m_signs, .ref m_atNought, .int (nI mn), .ref m_change, .ref m_table, .ref m_carried])), (m_now, .inl (cy 0, 29, .inl nw))] H → va_D A [(ta, .inr (8, [.ref m_now, .ref m_undone, .ref m_slots, .ref m_slotKind, .ref m_hasSlot, .ref m_sheetBits, .ref m_sheetSize, .ref m_sheets, .int (nI u), .int fi, .ref m_fresh, .long aa, .long bb, .long dd, .int (nI ro), .ref m_rootWhich, .int db, .ref m_signs, .ref m_atNought, .int (nI mn), .ref m_change, .ref m_table, .ref m_carried])), (m_now, .inl (cy 0, 29, .inl nw))] → va_S A s.heap H locs → lv_has ls 5 [(0, .ref ta), (1, .int px), (2, .int (l_X8_sorts_31 nw fi px ki z2_21 (13 + 1) 0 z2_21)), (3, .int (nI ki - 6))] → W p l e R s m args below meth c H locs 0 0 Q (F0 m 73 ls []) := by
            clear hP hD hS hl
            intro H locs ls hP hD hS hl
            refine lv_iinc (v := ((nI ki - 6) + 1)) (lv' := [(3, .int ((nI ki - 6) + 1)), (0, .ref ta), (1, .int px), (2, .int (l_X8_sorts_31 nw fi px ki z2_21 (13 + 1) 0 z2_21))]) hx hb dX8_sorts_73 hl (k := 3) rfl (yk_incg _) (by decide) rfl (fun ls hl9 => ?_)
            replace hl := hl9
            clear hl9
            refine lv_goto (tgt := 21) hx hb dX8_sorts_76 (by decide) ?_
            obtain ⟨n9, rfl⟩ : ∃ n9, n21 = n9 + 1 := ⟨n21 - 1, by omega⟩
            rw [yk_off ki 6] at hl
            exact ih21 n9 (ki + 1) (l_X8_sorts_31 nw fi px ki z2_21 (13 + 1) 0 z2_21) _ _ _ (by omega) (by omega)  hV21 hP hD hS (lv_sub hl [1, 2, 3, 0] rfl)
          have L31 : ∀ (M9 n31 kj : Nat) (z2_31 : Int32) (H : Heap) (locs : List Loc) (ls : Array Slot), n31 < M9 → kj + n31 = 13 → (l_X8_sorts_31 nw fi px ki z2_21 (13 + 1) 0 z2_21) = (l_X8_sorts_31 nw fi px ki z2_21 (n31 + 1) kj z2_31) → va_P D vwCl [(ta, .inr (8, [.ref m_now, .ref m_undone, .ref m_slots, .ref m_slotKind, .ref m_hasSlot, .ref m_sheetBits, .ref m_sheetSize, .ref m_sheets, .int (nI u), .int fi, .ref m_fresh, .long aa, .long bb, .long dd, .int (nI ro), .ref m_rootWhich, .int db, .ref m_signs, .ref m_atNought, .int (nI mn), .ref m_change, .ref m_table, .ref m_carried])), (m_now, .inl (cy 0, 29, .inl nw))] H → va_D A [(ta, .inr (8, [.ref m_now, .ref m_undone, .ref m_slots, .ref m_slotKind, .ref m_hasSlot, .ref m_sheetBits, .ref m_sheetSize, .ref m_sheets, .int (nI u), .int fi, .ref m_fresh, .long aa, .long bb, .long dd, .int (nI ro), .ref m_rootWhich, .int db, .ref m_signs, .ref m_atNought, .int (nI mn), .ref m_change, .ref m_table, .ref m_carried])), (m_now, .inl (cy 0, 29, .inl nw))] → va_S A s.heap H locs → lv_has ls 5 [(0, .ref ta), (1, .int px), (2, .int z2_31), (3, .int (nI ki - 6)), (4, .int (nI kj - 6))] → W p l e R s m args below meth c H locs 0 0 Q (F0 m 31 ls []) := by
            clear hP hD hS hl
            intro M9
            induction M9 with
            | zero => intro n31 kj _ _ _ _ hn; exact absurd hn (Nat.not_lt_zero _)
            | succ M9 ih31 =>
              intro n31 kj z2_31 H locs ls hn31 hk31 hV31 hP hD hS hl
              refine lv_iload hx hb dX8_sorts_31 (lv_at hl 4 rfl) ?_
              refine lv_bipush (v := 6) hx hb dX8_sorts_33 (by decide) ?_
              refine lv_icmp_gt (tgt := 73) hx hb dX8_sorts_35 (by decide) (fun hc3 => ?_) (fun hc3 => ?_)
              · replace hV31 := hV31.trans (if_pos hc3)
                have hV31 : (l_X8_sorts_31 nw fi px ki z2_21 (13 + 1) 0 z2_21) = z2_31 := hV31
                have J8 := J8
                rw [hV31] at J8
                exact J8 _ _ _ hP hD hS (lv_sub hl [0, 1, 2, 3] rfl)
              · replace hV31 := hV31.trans (if_neg hc3)
                have hlt31 : kj < 13 := yk_lt6 hk31 hc3
                refine lv_iload_n hx hb dX8_sorts_38 rfl (lv_at hl 2 rfl) ?_
                refine lv_aload_n hx hb dX8_sorts_39 rfl (lv_at hl 0 rfl) ?_
                refine lv_iload_n hx hb dX8_sorts_40 rfl (lv_at hl 3 rfl) ?_
                refine lv_iload hx hb dX8_sorts_41 (lv_at hl 4 rfl) ?_
                refine yk_i [0, 1] (va_runV (As := [.int (nI ki - 6), .int (nI kj - 6)]) (rest := [.int z2_31]) ⟨hx, hb, hml, hown, hts⟩ (c_X8_isRest l D cy ta m_now m_undone m_slots m_slotKind m_hasSlot m_sheetBits m_sheetSize m_sheets m_fresh m_rootWhich m_signs m_atNought m_change m_table m_carried nw u fi aa bb dd ro db mn (nI ki - 6) (nI kj - 6) H.size) (cwV 2 hts gX8_sorts_X8_isRest rfl rfl rfl hv_X8_isRest (yk_room hRf hRl rfl rfl)) (yk_pv (q := (RX8, TX8, 23)) hG hA hS hK hP hD [0, 1] (by decide +kernel) rfl rfl rfl) rfl rfl hl.1 rfl (lv_room (Nat.le_of_ble_eq_true rfl)) dX8_sorts_43 ⟨Nat.zero_le _, Nat.zero_le _⟩) hP hD hS hA rfl rfl (fun H locs hP9 hD9 hS9 => ?_)
                replace hP : va_P D vwCl [(ta, .inr (8, [.ref m_now, .ref m_undone, .ref m_slots, .ref m_slotKind, .ref m_hasSlot, .ref m_sheetBits, .ref m_sheetSize, .ref m_sheets, .int (nI u), .int fi, .ref m_fresh, .long aa, .long bb, .long dd, .int (nI ro), .ref m_rootWhich, .int db, .ref m_signs, .ref m_atNought, .int (nI mn), .ref m_change, .ref m_table, .ref m_carried])), (m_now, .inl (cy 0, 29, .inl nw))] H := hP9
                replace hD : va_D A [(ta, .inr (8, [.ref m_now, .ref m_undone, .ref m_slots, .ref m_slotKind, .ref m_hasSlot, .ref m_sheetBits, .ref m_sheetSize, .ref m_sheets, .int (nI u), .int fi, .ref m_fresh, .long aa, .long bb, .long dd, .int (nI ro), .ref m_rootWhich, .int db, .ref m_signs, .ref m_atNought, .int (nI mn), .ref m_change, .ref m_table, .ref m_carried])), (m_now, .inl (cy 0, 29, .inl nw))] := hD9
                replace hS := hS9
                clear hP9 hD9 hS9
                have J7 : ∀ (v6 : Int32) (H : Heap) (locs : List Loc) (ls : Array Slot), v6 = (if (f_X8_isRest nw (nI ki - 6) (nI kj - 6)) = 0 then 0 else (if (f_X8_sortAt nw (nI ki - 6) (nI kj - 6)) = px then 1 else 0)) → va_P D vwCl [(ta, .inr (8, [.ref m_now, .ref m_undone, .ref m_slots, .ref m_slotKind, .ref m_hasSlot, .ref m_sheetBits, .ref m_sheetSize, .ref m_sheets, .int (nI u), .int fi, .ref m_fresh, .long aa, .long bb, .long dd, .int (nI ro), .ref m_rootWhich, .int db, .ref m_signs, .ref m_atNought, .int (nI mn), .ref m_change, .ref m_table, .ref m_carried])), (m_now, .inl (cy 0, 29, .inl nw))] H → va_D A [(ta, .inr (8, [.ref m_now, .ref m_undone, .ref m_slots, .ref m_slotKind, .ref m_hasSlot, .ref m_sheetBits, .ref m_sheetSize, .ref m_sheets, .int (nI u), .int fi, .ref m_fresh, .long aa, .long bb, .long dd, .int (nI ro), .ref m_rootWhich, .int db, .ref m_signs, .ref m_atNought, .int (nI mn), .ref m_change, .ref m_table, .ref m_carried])), (m_now, .inl (cy 0, 29, .inl nw))] → va_S A s.heap H locs → lv_has ls 5 [(0, .ref ta), (1, .int px), (2, .int z2_31), (3, .int (nI ki - 6)), (4, .int (nI kj - 6))] → W p l e R s m args below meth c H locs 0 0 Q (F0 m 65 ls [.int v6, .int z2_31]) := by
                  clear hP hD hS hl
                  intro v6 H locs ls ev6 hP hD hS hl
                  subst ev6
                  refine lv_iadd hx hb dX8_sorts_65 ?_
                  refine lv_istore_n (lv' := [(2, .int (z2_31 + (if (f_X8_isRest nw (nI ki - 6) (nI kj - 6)) = 0 then 0 else (if (f_X8_sortAt nw (nI ki - 6) (nI kj - 6)) = px then 1 else 0)))), (0, .ref ta), (1, .int px), (3, .int (nI ki - 6)), (4, .int (nI kj - 6))]) hx hb dX8_sorts_66 rfl hl (by decide) rfl (fun ls hl9 => ?_)
                  replace hl := hl9
                  clear hl9
                  refine lv_iinc (v := ((nI kj - 6) + 1)) (lv' := [(4, .int ((nI kj - 6) + 1)), (2, .int (z2_31 + (if (f_X8_isRest nw (nI ki - 6) (nI kj - 6)) = 0 then 0 else (if (f_X8_sortAt nw (nI ki - 6) (nI kj - 6)) = px then 1 else 0)))), (0, .ref ta), (1, .int px), (3, .int (nI ki - 6))]) hx hb dX8_sorts_67 hl (k := 4) rfl (yk_incg _) (by decide) rfl (fun ls hl9 => ?_)
                  replace hl := hl9
                  clear hl9
                  refine lv_goto (tgt := 31) hx hb dX8_sorts_70 (by decide) ?_
                  obtain ⟨n9, rfl⟩ : ∃ n9, n31 = n9 + 1 := ⟨n31 - 1, by omega⟩
                  rw [yk_off kj 6] at hl
                  exact ih31 n9 (kj + 1) (z2_31 + (if (f_X8_isRest nw (nI ki - 6) (nI kj - 6)) = 0 then 0 else (if (f_X8_sortAt nw (nI ki - 6) (nI kj - 6)) = px then 1 else 0))) _ _ _ (by omega) (by omega)  hV31 hP hD hS (lv_sub hl [2, 3, 1, 4, 0] rfl)
                refine lv_if_eq (tgt := 64) hx hb dX8_sorts_46 (by decide) (fun hc4 => ?_) (fun hc4 => ?_)
                · refine lv_iconst (v := 0) hx hb dX8_sorts_64 (by decide) ?_
                  exact J7 _ _ _ _ ((if_pos hc4).symm) hP hD hS (lv_sub hl [0, 1, 2, 3, 4] rfl)
                · refine lv_aload_n hx hb dX8_sorts_49 rfl (lv_at hl 0 rfl) ?_
                  refine lv_iload_n hx hb dX8_sorts_50 rfl (lv_at hl 3 rfl) ?_
                  refine lv_iload hx hb dX8_sorts_51 (lv_at hl 4 rfl) ?_
                  refine yk_i [0, 1] (va_runV (As := [.int (nI ki - 6), .int (nI kj - 6)]) (rest := [.int z2_31]) ⟨hx, hb, hml, hown, hts⟩ (c_X8_sortAt l D cy ta m_now m_undone m_slots m_slotKind m_hasSlot m_sheetBits m_sheetSize m_sheets m_fresh m_rootWhich m_signs m_atNought m_change m_table m_carried nw u fi aa bb dd ro db mn (nI ki - 6) (nI kj - 6) H.size) (cwV 2 hts gX8_sorts_X8_sortAt rfl rfl rfl hv_X8_sortAt (yk_room hRf hRl rfl rfl)) (yk_pv (q := (RX8, TX8, 23)) hG hA hS hK hP hD [0, 1] (by decide +kernel) rfl rfl rfl) rfl rfl hl.1 rfl (lv_room (Nat.le_of_ble_eq_true rfl)) dX8_sorts_53 ⟨Nat.zero_le _, Nat.zero_le _⟩) hP hD hS hA rfl rfl (fun H locs hP9 hD9 hS9 => ?_)
                  replace hP : va_P D vwCl [(ta, .inr (8, [.ref m_now, .ref m_undone, .ref m_slots, .ref m_slotKind, .ref m_hasSlot, .ref m_sheetBits, .ref m_sheetSize, .ref m_sheets, .int (nI u), .int fi, .ref m_fresh, .long aa, .long bb, .long dd, .int (nI ro), .ref m_rootWhich, .int db, .ref m_signs, .ref m_atNought, .int (nI mn), .ref m_change, .ref m_table, .ref m_carried])), (m_now, .inl (cy 0, 29, .inl nw))] H := hP9
                  replace hD : va_D A [(ta, .inr (8, [.ref m_now, .ref m_undone, .ref m_slots, .ref m_slotKind, .ref m_hasSlot, .ref m_sheetBits, .ref m_sheetSize, .ref m_sheets, .int (nI u), .int fi, .ref m_fresh, .long aa, .long bb, .long dd, .int (nI ro), .ref m_rootWhich, .int db, .ref m_signs, .ref m_atNought, .int (nI mn), .ref m_change, .ref m_table, .ref m_carried])), (m_now, .inl (cy 0, 29, .inl nw))] := hD9
                  replace hS := hS9
                  clear hP9 hD9 hS9
                  refine lv_iload_n hx hb dX8_sorts_56 rfl (lv_at hl 1 rfl) ?_
                  refine lv_icmp_ne (tgt := 64) hx hb dX8_sorts_57 (by decide) (fun hc5 => ?_) (fun hc5 => ?_)
                  · refine lv_iconst (v := 0) hx hb dX8_sorts_64 (by decide) ?_
                    exact J7 _ _ _ _ (((if_neg hc4).trans (if_neg hc5)).symm) hP hD hS (lv_sub hl [0, 1, 2, 3, 4] rfl)
                  · refine lv_iconst (v := 1) hx hb dX8_sorts_60 (by decide) ?_
                    refine lv_goto (tgt := 65) hx hb dX8_sorts_61 (by decide) ?_
                    exact J7 _ _ _ _ (((if_neg hc4).trans (if_pos hc5)).symm) hP hD hS (lv_sub hl [0, 1, 2, 3, 4] rfl)
          rw [show (-6 : Int32) = nI 0 - 6 from rfl] at hl
          exact L31 (13 + 1) 13 0 z2_21 _ _ _ (Nat.lt_succ_self _) (by omega)  rfl hP hD hS (lv_sub hl [1, 2, 3, 4, 0] rfl)
    rw [show (-6 : Int32) = nI 0 - 6 from rfl] at hl
    exact L21 (13 + 1) 13 0 0 _ _ _ (Nat.lt_succ_self _) (by omega)  rfl hP hD hS (lv_sub hl [2, 3, 1, 0] rfl)
  · replace hF := hF.trans (if_pos hc1)
    refine lv_aload_n hx hb dX8_sorts_9 rfl (lv_at hl 0 rfl) ?_
    refine lv_ldc (v := (-1000001)) hx hb hown (hts _ kX8_sorts_0) dX8_sorts_10 ?_
    refine yk_i [0] (va_runV (As := [.int (-1000001)]) (rest := []) ⟨hx, hb, hml, hown, hts⟩ (c_X8_found l D cy ta m_now m_undone m_slots m_slotKind m_hasSlot m_sheetBits m_sheetSize m_sheets m_fresh m_rootWhich m_signs m_atNought m_change m_table m_carried u fi aa bb dd ro db mn (-1000001) H.size) (cwV 1 hts gX8_sorts_X8_found rfl rfl rfl hv_X8_found (yk_room hRf hRl rfl rfl)) (yk_pv (q := (RX8, TX8, 23)) hG hA hS hK hP hD [0] (by decide +kernel) rfl rfl rfl) rfl rfl hl.1 rfl (lv_room (Nat.le_of_ble_eq_true rfl)) dX8_sorts_12 ⟨Nat.zero_le _, Nat.zero_le _⟩) hP hD hS hA rfl rfl (fun H locs hP9 hD9 hS9 => ?_)
    replace hP : va_P D vwCl [(ta, .inr (8, [.ref m_now, .ref m_undone, .ref m_slots, .ref m_slotKind, .ref m_hasSlot, .ref m_sheetBits, .ref m_sheetSize, .ref m_sheets, .int (nI u), .int ((f_X8_found fi (-1000001)).2), .ref m_fresh, .long aa, .long bb, .long dd, .int (nI ro), .ref m_rootWhich, .int db, .ref m_signs, .ref m_atNought, .int (nI mn), .ref m_change, .ref m_table, .ref m_carried])), (m_now, .inl (cy 0, 29, .inl nw))] H := hP9
    replace hD : va_D A [(ta, .inr (8, [.ref m_now, .ref m_undone, .ref m_slots, .ref m_slotKind, .ref m_hasSlot, .ref m_sheetBits, .ref m_sheetSize, .ref m_sheets, .int (nI u), .int ((f_X8_found fi (-1000001)).2), .ref m_fresh, .long aa, .long bb, .long dd, .int (nI ro), .ref m_rootWhich, .int db, .ref m_signs, .ref m_atNought, .int (nI mn), .ref m_change, .ref m_table, .ref m_carried])), (m_now, .inl (cy 0, 29, .inl nw))] := hD9
    replace hS := hS9
    clear hP9 hD9 hS9
    have hF : f_X8_sorts nw fi px = (((f_X8_found fi (-1000001)).1), ((f_X8_found fi (-1000001)).2)) := hF
    have hf0 := yk_fst hF
    have hg0 := yk_snd hF
    rw [hf0, hg0] at hQ
    exact hQ _ _ _ _ dX8_sorts_15 hP hS
