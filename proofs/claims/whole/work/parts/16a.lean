theorem hv_X8_in : yX8_in.cls = RX8 ∧ yX8_in.cls ≠ "java/lang/invoke/MethodHandle" ∧ yX8_in.cls ≠ "java/lang/invoke/VarHandle" ∧ (parseMethodDescriptor yX8_in.desc).map (fun d => d.parameters.length) = some 3 := by decide +kernel
theorem hs_X8_in : yX8_in.cls ≠ "java/lang/invoke/MethodHandle" ∧ yX8_in.cls ≠ "java/lang/invoke/VarHandle" ∧ (parseMethodDescriptor yX8_in.desc).map (fun d => d.parameters.length) = some 3 := by decide +kernel
theorem hv_X8_found : yX8_found.cls = RX8 ∧ yX8_found.cls ≠ "java/lang/invoke/MethodHandle" ∧ yX8_found.cls ≠ "java/lang/invoke/VarHandle" ∧ (parseMethodDescriptor yX8_found.desc).map (fun d => d.parameters.length) = some 1 := by decide +kernel
theorem hs_X8_found : yX8_found.cls ≠ "java/lang/invoke/MethodHandle" ∧ yX8_found.cls ≠ "java/lang/invoke/VarHandle" ∧ (parseMethodDescriptor yX8_found.desc).map (fun d => d.parameters.length) = some 1 := by decide +kernel
theorem hv_X8_remember : yX8_remember.cls = RX8 ∧ yX8_remember.cls ≠ "java/lang/invoke/MethodHandle" ∧ yX8_remember.cls ≠ "java/lang/invoke/VarHandle" ∧ (parseMethodDescriptor yX8_remember.desc).map (fun d => d.parameters.length) = some 0 := by decide +kernel
theorem hs_X8_remember : yX8_remember.cls ≠ "java/lang/invoke/MethodHandle" ∧ yX8_remember.cls ≠ "java/lang/invoke/VarHandle" ∧ (parseMethodDescriptor yX8_remember.desc).map (fun d => d.parameters.length) = some 0 := by decide +kernel
theorem hv_X8_get : yX8_get.cls = RX8 ∧ yX8_get.cls ≠ "java/lang/invoke/MethodHandle" ∧ yX8_get.cls ≠ "java/lang/invoke/VarHandle" ∧ (parseMethodDescriptor yX8_get.desc).map (fun d => d.parameters.length) = some 2 := by decide +kernel
theorem hs_X8_get : yX8_get.cls ≠ "java/lang/invoke/MethodHandle" ∧ yX8_get.cls ≠ "java/lang/invoke/VarHandle" ∧ (parseMethodDescriptor yX8_get.desc).map (fun d => d.parameters.length) = some 2 := by decide +kernel
theorem hv_X8_isPlace : yX8_isPlace.cls = RX8 ∧ yX8_isPlace.cls ≠ "java/lang/invoke/MethodHandle" ∧ yX8_isPlace.cls ≠ "java/lang/invoke/VarHandle" ∧ (parseMethodDescriptor yX8_isPlace.desc).map (fun d => d.parameters.length) = some 2 := by decide +kernel
theorem hs_X8_isPlace : yX8_isPlace.cls ≠ "java/lang/invoke/MethodHandle" ∧ yX8_isPlace.cls ≠ "java/lang/invoke/VarHandle" ∧ (parseMethodDescriptor yX8_isPlace.desc).map (fun d => d.parameters.length) = some 2 := by decide +kernel
theorem hv_X8_speedAt : yX8_speedAt.cls = RX8 ∧ yX8_speedAt.cls ≠ "java/lang/invoke/MethodHandle" ∧ yX8_speedAt.cls ≠ "java/lang/invoke/VarHandle" ∧ (parseMethodDescriptor yX8_speedAt.desc).map (fun d => d.parameters.length) = some 3 := by decide +kernel
theorem hs_X8_speedAt : yX8_speedAt.cls ≠ "java/lang/invoke/MethodHandle" ∧ yX8_speedAt.cls ≠ "java/lang/invoke/VarHandle" ∧ (parseMethodDescriptor yX8_speedAt.desc).map (fun d => d.parameters.length) = some 3 := by decide +kernel
theorem hv_X8_slopeAt : yX8_slopeAt.cls = RX8 ∧ yX8_slopeAt.cls ≠ "java/lang/invoke/MethodHandle" ∧ yX8_slopeAt.cls ≠ "java/lang/invoke/VarHandle" ∧ (parseMethodDescriptor yX8_slopeAt.desc).map (fun d => d.parameters.length) = some 4 := by decide +kernel
theorem hs_X8_slopeAt : yX8_slopeAt.cls ≠ "java/lang/invoke/MethodHandle" ∧ yX8_slopeAt.cls ≠ "java/lang/invoke/VarHandle" ∧ (parseMethodDescriptor yX8_slopeAt.desc).map (fun d => d.parameters.length) = some 4 := by decide +kernel
def f_X8_in (x : Int32) (lo : Int32) (hi : Int32) : Int32 := (if x < lo then 0 else (if hi < x then 0 else 1))
theorem b_X8_in (x : Int32) (lo : Int32) (hi : Int32) : (f_X8_in x lo hi) = 0 ∨ (f_X8_in x lo hi) = 1 := by
  unfold f_X8_in; (repeat' split) <;> first | exact Or.inl (by with_reducible rfl) | exact Or.inr (by with_reducible rfl)
set_option maxHeartbeats 400000000 in
set_option maxRecDepth 100000 in
theorem c_X8_in (l : Launch) (D : va_G) (cy : Nat → ClassId) (x : Int32) (lo : Int32) (hi : Int32) : yk_Ci l D vwCl (yk_ty cy) yX8_in wsX8_in 0 0 [.int x, .int lo, .int hi] [] (f_X8_in x lo hi) [] := by
  refine yk_eI (cc := cX8_in) (maxL := 3) (by decide) rfl (Nat.le_of_ble_eq_true rfl) (yk_nb (b_X8_in x lo hi)) ?_
  intro p e R s m args below meth c A Q ls H locs hx hb hml hown hts hRf hRl hA hK hG hP hD hS hl hQ
  have hP : va_P D vwCl [] H := hP
  have hl : lv_has ls 3 [(0, .int x), (1, .int lo), (2, .int hi)] := hl
  have hown : s.vm.findClass RX8 = some m.cls := hown
  have hF : (f_X8_in x lo hi) = (f_X8_in x lo hi) := rfl
  refine lv_iload_n hx hb dX8_in_0 rfl (lv_at hl 0 rfl) ?_
  refine lv_iload_n hx hb dX8_in_1 rfl (lv_at hl 1 rfl) ?_
  have J4 : ∀ (v3 : Int32) (H : Heap) (locs : List Loc) (ls : Array Slot), v3 = (if x < lo then 0 else (if hi < x then 0 else 1)) → va_P D vwCl [] H → va_D A [] → va_S A s.heap H locs → lv_has ls 3 [(0, .int x), (1, .int lo), (2, .int hi)] → W p l e R s m args below meth c H locs 0 0 Q (F0 m 15 ls [.int v3]) := by
    clear hP hD hS hl
    intro v3 H locs ls ev3
    rw [ev3]
    clear ev3
    intro hP hD hS hl
    have hF : f_X8_in x lo hi = (if x < lo then 0 else (if hi < x then 0 else 1)) := hF
    rw [hF] at hQ
    exact hQ _ _ _ _ dX8_in_15 hP hS
  refine lv_icmp_lt (tgt := 14) hx hb dX8_in_2 (by decide) (fun hc1 => ?_) (fun hc1 => ?_)
  · refine lv_iconst (v := 0) hx hb dX8_in_14 (by decide) ?_
    exact J4 _ _ _ _ ((if_pos hc1).symm) hP hD hS (lv_sub hl [0, 1, 2] rfl)
  · refine lv_iload_n hx hb dX8_in_5 rfl (lv_at hl 0 rfl) ?_
    refine lv_iload_n hx hb dX8_in_6 rfl (lv_at hl 2 rfl) ?_
    refine lv_icmp_gt (tgt := 14) hx hb dX8_in_7 (by decide) (fun hc2 => ?_) (fun hc2 => ?_)
    · refine lv_iconst (v := 0) hx hb dX8_in_14 (by decide) ?_
      exact J4 _ _ _ _ (((if_neg hc1).trans (if_pos hc2)).symm) hP hD hS (lv_sub hl [0, 1, 2] rfl)
    · refine lv_iconst (v := 1) hx hb dX8_in_10 (by decide) ?_
      refine lv_goto (tgt := 15) hx hb dX8_in_11 (by decide) ?_
      exact J4 _ _ _ _ (((if_neg hc1).trans (if_neg hc2)).symm) hP hD hS (lv_sub hl [0, 1, 2] rfl)

theorem yk_fb {r : Int32} (h : r = 0 ∨ r = 1) : fits .boolean (.int r) = true := by rcases h with rfl | rfl <;> rfl
theorem yk_vb {r : Int32} (h : r = 0 ∨ r = 1) : vp_nar .boolean r = r := by rcases h with rfl | rfl <;> rfl
section YZ
variable {p : Program} {l : Launch} {e : Env} {R : Room} {s : State} {m : MethodId} {args : Array Value} {below : List Frame} {meth : Method} {c : Code} {H : Heap} {locs : List Loc} {cells slots : Nat} {Q : State → Prop}
variable {cc : ByteArray} {pc : Nat} {ls : Array Slot} {rest : List Value} {D : va_G} {cl : List vw_C} {A : Nat → Prop} {a : Nat} {tys : List (ClassId × FieldType)} {ws : va_W} {H0 : Heap}
theorem yk_zst (hexec : p.tables.exec = Jvm.exec) (hb : c.code = cc) (hK : va_K D cl tys s) (hP : va_P D cl ws H) (hD : va_D A ws) (hS : va_S A H0 H locs) (q0 t0 : Nat) {cA : ClassId} {n : Nat} {f : Nat → Int32} (ha : ws[q0]? = some (a, .inl (cA, n, .inl f))) (ht : tys[t0]? = some (cA, .boolean)) (k : Nat) {x : Int32} (hk : k < n) (hn : n < 2 ^ 31) (hx : x = 0 ∨ x = 1) (hdg : decode cc pc = .ok (.bastore, 1))
    (kk : ∀ (H1 : Heap) (locs1 : List Loc), va_P D cl (ws.set q0 (a, .inl (cA, n, .inl (upd f k x)))) H1 → va_D A (ws.set q0 (a, .inl (cA, n, .inl (upd f k x)))) → va_S A H0 H1 locs1 → W p l e R s m args below meth c H1 locs1 cells slots Q (F0 m (pc + 1) ls rest)) : W p l e R s m args below meth c H locs cells slots Q (F0 m pc ls (.int x :: .int (nI k) :: .ref a :: rest)) := by
  refine va_zast hexec hb hK hP hD hS q0 t0 ha ht (vp_in_nI hk hn) hdg ?_
  rw [nI_clamp (by omega), yk_vb hx]
  exact kk
end YZ
theorem yk_u25 {u : Nat} (hu : u ≤ 25) (h : nI u = 25) : 1 ≤ u := by
  have := (nI_eq (a := u) (b := 25) (by omega) (by decide)).mp h
  omega
theorem yk_u24 {u : Nat} (hu : u ≤ 25) : (if nI u = 25 then u - 1 else u) ≤ 24 := by
  split
  · omega
  · rename_i h
    rcases Nat.lt_or_ge u 25 with q | q
    · omega
    · have : u = 25 := by omega
      subst this
      exact absurd rfl h
theorem ix_in {x : Int32} {N : Nat} {b : Int32} (hN : N < 2 ^ 31) (hb : b + 1 = nI N) (hb2 : b < b + 1) (h : ¬ f_X8_in x 0 b = 0) : x = nI x.toNatClampNeg ∧ x.toNatClampNeg < N := by
  unfold f_X8_in at h
  by_cases h0 : x < 0
  · exact absurd (if_pos h0) h
  rw [if_neg h0] at h
  by_cases h1 : b < x
  · exact absurd (if_pos h1) h
  refine yk_ix hN h0 (fun h2 => ?_)
  rw [← hb] at h2
  exact h1 (Int32.lt_of_lt_of_le hb2 h2)

theorem kX8_found_0 : Cond.fieldLink RX8 57 "FlowPlaneModel" "findings" "I" ∈ wsX8_found := by decide +kernel
theorem uX8_found_X8 : ∀ w ∈ u_ws RX8 TX8 23, w ∈ wsX8_found := by decide +kernel
def f_X8_found (fi : Int32) (px : Int32) : Int32 × Int32 := (px, (fi + 1))
set_option maxHeartbeats 400000000 in
set_option maxRecDepth 100000 in
theorem c_X8_found (l : Launch) (D : va_G) (cy : Nat → ClassId) (ta : Nat) (m_now : Nat) (m_undone : Nat) (m_slots : Nat) (m_slotKind : Nat) (m_hasSlot : Nat) (m_sheetBits : Nat) (m_sheetSize : Nat) (m_sheets : Nat) (m_fresh : Nat) (m_rootWhich : Nat) (m_signs : Nat) (m_atNought : Nat) (m_change : Nat) (m_table : Nat) (m_carried : Nat) (u : Nat) (fi : Int32) (aa : Int64) (bb : Int64) (dd : Int64) (ro : Nat) (db : Int32) (mn : Nat) (px : Int32) : yk_Ci l D vwCl (yk_ty cy) yX8_found wsX8_found 0 0 [.ref ta, .int px] [(ta, .inr (8, [.ref m_now, .ref m_undone, .ref m_slots, .ref m_slotKind, .ref m_hasSlot, .ref m_sheetBits, .ref m_sheetSize, .ref m_sheets, .int (nI u), .int fi, .ref m_fresh, .long aa, .long bb, .long dd, .int (nI ro), .ref m_rootWhich, .int db, .ref m_signs, .ref m_atNought, .int (nI mn), .ref m_change, .ref m_table, .ref m_carried]))] ((f_X8_found fi px).1) [(ta, .inr (8, [.ref m_now, .ref m_undone, .ref m_slots, .ref m_slotKind, .ref m_hasSlot, .ref m_sheetBits, .ref m_sheetSize, .ref m_sheets, .int (nI u), .int ((f_X8_found fi px).2), .ref m_fresh, .long aa, .long bb, .long dd, .int (nI ro), .ref m_rootWhich, .int db, .ref m_signs, .ref m_atNought, .int (nI mn), .ref m_change, .ref m_table, .ref m_carried]))] := by
  refine yk_eI (cc := cX8_found) (maxL := 2) (by decide) rfl (Nat.le_of_ble_eq_true rfl) rfl ?_
  intro p e R s m args below meth c A Q ls H locs hx hb hml hown hts hRf hRl hA hK hG hP hD hS hl hQ
  have hP : va_P D vwCl [(ta, .inr (8, [.ref m_now, .ref m_undone, .ref m_slots, .ref m_slotKind, .ref m_hasSlot, .ref m_sheetBits, .ref m_sheetSize, .ref m_sheets, .int (nI u), .int fi, .ref m_fresh, .long aa, .long bb, .long dd, .int (nI ro), .ref m_rootWhich, .int db, .ref m_signs, .ref m_atNought, .int (nI mn), .ref m_change, .ref m_table, .ref m_carried]))] H := hP
  have hl : lv_has ls 2 [(0, .ref ta), (1, .int px)] := hl
  have hown : s.vm.findClass RX8 = some m.cls := hown
  have hF : (f_X8_found fi px) = (f_X8_found fi px) := rfl
  refine lv_aload_n hx hb dX8_found_0 rfl (lv_at hl 0 rfl) ?_
  refine lv_dup hx hb dX8_found_1 rfl ?_
  refine va_get (D := D) (ci := 8) (v := .int fi) (C := RX8) (T := TX8) (N := 23) hx hb hts uX8_found_X8 hown hK hP 0 rfl rfl 9 (by decide) (hts _ kX8_found_0) (fun _ h9 => h9) rfl dX8_found_2 ?_
  refine lv_iconst (v := 1) hx hb dX8_found_5 (by decide) ?_
  refine lv_iadd hx hb dX8_found_6 ?_
  refine va_put (D := D) (ci := 8) (v := .int (fi + 1)) (ty := .int) (C := RX8) (T := TX8) (N := 23) hx hb hts uX8_found_X8 tyX8 tyX8_ok nmX8 hown hK hP hD hS 0 rfl rfl 9 (by decide) (hts _ kX8_found_0) (fun _ h9 => h9) rfl (by decide +kernel) (yk_ni _) (yk_fi _) (Nat.le_of_ble_eq_true rfl) dX8_found_7 (fun H locs hP9 hD9 hS9 => ?_)
  replace hP : va_P D vwCl [(ta, .inr (8, [.ref m_now, .ref m_undone, .ref m_slots, .ref m_slotKind, .ref m_hasSlot, .ref m_sheetBits, .ref m_sheetSize, .ref m_sheets, .int (nI u), .int (fi + 1), .ref m_fresh, .long aa, .long bb, .long dd, .int (nI ro), .ref m_rootWhich, .int db, .ref m_signs, .ref m_atNought, .int (nI mn), .ref m_change, .ref m_table, .ref m_carried]))] H := hP9
  replace hD : va_D A [(ta, .inr (8, [.ref m_now, .ref m_undone, .ref m_slots, .ref m_slotKind, .ref m_hasSlot, .ref m_sheetBits, .ref m_sheetSize, .ref m_sheets, .int (nI u), .int (fi + 1), .ref m_fresh, .long aa, .long bb, .long dd, .int (nI ro), .ref m_rootWhich, .int db, .ref m_signs, .ref m_atNought, .int (nI mn), .ref m_change, .ref m_table, .ref m_carried]))] := hD9
  replace hS := hS9
  clear hP9 hD9 hS9
  refine lv_iload_n hx hb dX8_found_10 rfl (lv_at hl 1 rfl) ?_
  have hF : f_X8_found fi px = (px, (fi + 1)) := hF
  have hf0 := yk_fst hF
  have hg0 := yk_snd hF
  rw [hf0, hg0] at hQ
  exact hQ _ _ _ _ dX8_found_11 hP hS

def f_X8_isPlace (x : Int32) (y : Int32) : Int32 := (if (f_X8_in x (-6) 6) = 0 then 0 else (if (f_X8_in y (-6) 6) = 0 then 0 else 1))
theorem b_X8_isPlace (x : Int32) (y : Int32) : (f_X8_isPlace x y) = 0 ∨ (f_X8_isPlace x y) = 1 := by
  unfold f_X8_isPlace; (repeat' split) <;> first | exact Or.inl (by with_reducible rfl) | exact Or.inr (by with_reducible rfl) | with_reducible exact b_X8_in _ _ _
set_option maxHeartbeats 400000000 in
set_option maxRecDepth 100000 in
theorem c_X8_isPlace (l : Launch) (D : va_G) (cy : Nat → ClassId) (x : Int32) (y : Int32) : yk_Ci l D vwCl (yk_ty cy) yX8_isPlace wsX8_isPlace 1 22 [.int x, .int y] [] (f_X8_isPlace x y) [] := by
  refine yk_eI (cc := cX8_isPlace) (maxL := 2) (by decide) rfl (Nat.le_of_ble_eq_true rfl) (yk_nb (b_X8_isPlace x y)) ?_
  intro p e R s m args below meth c A Q ls H locs hx hb hml hown hts hRf hRl hA hK hG hP hD hS hl hQ
  have hP : va_P D vwCl [] H := hP
  have hl : lv_has ls 2 [(0, .int x), (1, .int y)] := hl
  have hown : s.vm.findClass RX8 = some m.cls := hown
  have hF : (f_X8_isPlace x y) = (f_X8_isPlace x y) := rfl
  refine lv_iload_n hx hb dX8_isPlace_0 rfl (lv_at hl 0 rfl) ?_
  refine lv_bipush (v := (-6)) hx hb dX8_isPlace_1 (by decide) ?_
  refine lv_bipush (v := 6) hx hb dX8_isPlace_3 (by decide) ?_
  refine yk_i [] (va_runS (As := [.int x, .int (-6), .int 6]) (rest := []) ⟨hx, hb, hml, hown, hts⟩ (c_X8_in l D cy x (-6) 6 H.size) (va_cwS 3 hts gX8_isPlace_X8_in rfl rfl rfl hs_X8_in (yk_room hRf hRl rfl rfl)) (yk_ps hG hA hS hK hP hD [] (by decide +kernel) rfl) rfl rfl hl.1 rfl (lv_room (Nat.le_of_ble_eq_true rfl)) dX8_isPlace_5 ⟨Nat.zero_le _, Nat.zero_le _⟩) hP hD hS hA rfl rfl (fun H locs hP9 hD9 hS9 => ?_)
  replace hP : va_P D vwCl [] H := hP9
  replace hD : va_D A [] := hD9
  replace hS := hS9
  clear hP9 hD9 hS9
  have J4 : ∀ (v3 : Int32) (H : Heap) (locs : List Loc) (ls : Array Slot), v3 = (if (f_X8_in x (-6) 6) = 0 then 0 else (if (f_X8_in y (-6) 6) = 0 then 0 else 1)) → va_P D vwCl [] H → va_D A [] → va_S A s.heap H locs → lv_has ls 2 [(0, .int x), (1, .int y)] → W p l e R s m args below meth c H locs 0 0 Q (F0 m 27 ls [.int v3]) := by
    clear hP hD hS hl
    intro v3 H locs ls ev3
    rw [ev3]
    clear ev3
    intro hP hD hS hl
    have hF : f_X8_isPlace x y = (if (f_X8_in x (-6) 6) = 0 then 0 else (if (f_X8_in y (-6) 6) = 0 then 0 else 1)) := hF
    rw [hF] at hQ
    exact hQ _ _ _ _ dX8_isPlace_27 hP hS
  refine lv_if_eq (tgt := 26) hx hb dX8_isPlace_8 (by decide) (fun hc1 => ?_) (fun hc1 => ?_)
  · refine lv_iconst (v := 0) hx hb dX8_isPlace_26 (by decide) ?_
    exact J4 _ _ _ _ ((if_pos hc1).symm) hP hD hS (lv_sub hl [0, 1] rfl)
  · refine lv_iload_n hx hb dX8_isPlace_11 rfl (lv_at hl 1 rfl) ?_
    refine lv_bipush (v := (-6)) hx hb dX8_isPlace_12 (by decide) ?_
    refine lv_bipush (v := 6) hx hb dX8_isPlace_14 (by decide) ?_
    refine yk_i [] (va_runS (As := [.int y, .int (-6), .int 6]) (rest := []) ⟨hx, hb, hml, hown, hts⟩ (c_X8_in l D cy y (-6) 6 H.size) (va_cwS 3 hts gX8_isPlace_X8_in rfl rfl rfl hs_X8_in (yk_room hRf hRl rfl rfl)) (yk_ps hG hA hS hK hP hD [] (by decide +kernel) rfl) rfl rfl hl.1 rfl (lv_room (Nat.le_of_ble_eq_true rfl)) dX8_isPlace_16 ⟨Nat.zero_le _, Nat.zero_le _⟩) hP hD hS hA rfl rfl (fun H locs hP9 hD9 hS9 => ?_)
    replace hP : va_P D vwCl [] H := hP9
    replace hD : va_D A [] := hD9
    replace hS := hS9
    clear hP9 hD9 hS9
    refine lv_if_eq (tgt := 26) hx hb dX8_isPlace_19 (by decide) (fun hc2 => ?_) (fun hc2 => ?_)
    · refine lv_iconst (v := 0) hx hb dX8_isPlace_26 (by decide) ?_
      exact J4 _ _ _ _ (((if_neg hc1).trans (if_pos hc2)).symm) hP hD hS (lv_sub hl [0, 1] rfl)
    · refine lv_iconst (v := 1) hx hb dX8_isPlace_22 (by decide) ?_
      refine lv_goto (tgt := 27) hx hb dX8_isPlace_23 (by decide) ?_
      exact J4 _ _ _ _ (((if_neg hc1).trans (if_neg hc2)).symm) hP hD hS (lv_sub hl [0, 1] rfl)

theorem kX8_remember_0 : Cond.fieldLink RX8 65 "FlowPlaneModel" "undos" "I" ∈ wsX8_remember := by decide +kernel
theorem kX8_remember_1 : Cond.fieldLink RX8 13 "FlowPlaneModel" "undone" "[I" ∈ wsX8_remember := by decide +kernel
theorem kX8_remember_2 : Cond.fieldLink RX8 7 "FlowPlaneModel" "now" "[I" ∈ wsX8_remember := by decide +kernel
theorem uX8_remember_X8 : ∀ w ∈ u_ws RX8 TX8 23, w ∈ wsX8_remember := by decide +kernel
def l_X8_remember_12 (nw : Nat → Int32) (un : Nat → Int32) (u : Nat) : Nat → Nat → (Nat → Int32) → (Nat → Int32)
  | 0, ki, zundone_12 => zundone_12
  | fu_X8_remember_12 + 1, ki, zundone_12 => (if 725 ≤ (nI ki) then zundone_12 else (l_X8_remember_12 nw un u fu_X8_remember_12 (ki + 1) (upd zundone_12 (ki - 29) (zundone_12 ki))))
def l_X8_remember_52 (nw : Nat → Int32) (un : Nat → Int32) (u : Nat) : Nat → Nat → (Nat → Int32) → (Nat → Int32)
  | 0, kj, zundone_52 => zundone_52
  | fu_X8_remember_52 + 1, kj, zundone_52 => (if 29 ≤ (nI kj) then zundone_52 else (l_X8_remember_52 nw un u fu_X8_remember_52 (kj + 1) (upd zundone_52 ((29 * (if (nI u) = 25 then u - 1 else u)) + kj) (nw kj))))
def f_X8_remember (nw : Nat → Int32) (un : Nat → Int32) (u : Nat) : Nat × (Nat → Int32) := (((if (nI u) = 25 then u - 1 else u) + 1), (l_X8_remember_52 nw un u (29 + 1) 0 (if (nI u) = 25 then (l_X8_remember_12 nw un u (725 - 29 + 1) 29 un) else un)))
set_option maxHeartbeats 400000000 in
set_option maxRecDepth 100000 in
theorem c_X8_remember (l : Launch) (D : va_G) (cy : Nat → ClassId) (ta : Nat) (m_now : Nat) (m_undone : Nat) (m_slots : Nat) (m_slotKind : Nat) (m_hasSlot : Nat) (m_sheetBits : Nat) (m_sheetSize : Nat) (m_sheets : Nat) (m_fresh : Nat) (m_rootWhich : Nat) (m_signs : Nat) (m_atNought : Nat) (m_change : Nat) (m_table : Nat) (m_carried : Nat) (nw : Nat → Int32) (un : Nat → Int32) (u : Nat) (fi : Int32) (aa : Int64) (bb : Int64) (dd : Int64) (ro : Nat) (db : Int32) (mn : Nat) (hu : u ≤ 25) : yk_Cv l D vwCl (yk_ty cy) yX8_remember wsX8_remember 0 0 [.ref ta] [(ta, .inr (8, [.ref m_now, .ref m_undone, .ref m_slots, .ref m_slotKind, .ref m_hasSlot, .ref m_sheetBits, .ref m_sheetSize, .ref m_sheets, .int (nI u), .int fi, .ref m_fresh, .long aa, .long bb, .long dd, .int (nI ro), .ref m_rootWhich, .int db, .ref m_signs, .ref m_atNought, .int (nI mn), .ref m_change, .ref m_table, .ref m_carried])), (m_now, .inl (cy 0, 29, .inl nw)), (m_undone, .inl (cy 0, 725, .inl un))] [(ta, .inr (8, [.ref m_now, .ref m_undone, .ref m_slots, .ref m_slotKind, .ref m_hasSlot, .ref m_sheetBits, .ref m_sheetSize, .ref m_sheets, .int (nI ((f_X8_remember nw un u).1)), .int fi, .ref m_fresh, .long aa, .long bb, .long dd, .int (nI ro), .ref m_rootWhich, .int db, .ref m_signs, .ref m_atNought, .int (nI mn), .ref m_change, .ref m_table, .ref m_carried])), (m_now, .inl (cy 0, 29, .inl nw)), (m_undone, .inl (cy 0, 725, .inl ((f_X8_remember nw un u).2)))] := by
  refine yk_eV (cc := cX8_remember) (maxL := 2) (by decide) rfl (Nat.le_of_ble_eq_true rfl) ?_
  intro p e R s m args below meth c A Q ls H locs hx hb hml hown hts hRf hRl hA hK hG hP hD hS hl hQ
  have hP : va_P D vwCl [(ta, .inr (8, [.ref m_now, .ref m_undone, .ref m_slots, .ref m_slotKind, .ref m_hasSlot, .ref m_sheetBits, .ref m_sheetSize, .ref m_sheets, .int (nI u), .int fi, .ref m_fresh, .long aa, .long bb, .long dd, .int (nI ro), .ref m_rootWhich, .int db, .ref m_signs, .ref m_atNought, .int (nI mn), .ref m_change, .ref m_table, .ref m_carried])), (m_now, .inl (cy 0, 29, .inl nw)), (m_undone, .inl (cy 0, 725, .inl un))] H := hP
  have hl : lv_has ls 2 [(0, .ref ta)] := hl
  have hown : s.vm.findClass RX8 = some m.cls := hown
  have hF : (f_X8_remember nw un u) = (f_X8_remember nw un u) := rfl
  refine lv_aload_n hx hb dX8_remember_0 rfl (lv_at hl 0 rfl) ?_
  refine va_get (D := D) (ci := 8) (v := .int (nI u)) (C := RX8) (T := TX8) (N := 23) hx hb hts uX8_remember_X8 hown hK hP 0 rfl rfl 8 (by decide) (hts _ kX8_remember_0) (fun _ h9 => h9) rfl dX8_remember_1 ?_
  refine lv_bipush (v := 25) hx hb dX8_remember_4 (by decide) ?_
  have J7 : ∀ (v5 : Nat) (v6 : Nat → Int32) (H : Heap) (locs : List Loc) (ls : Array Slot), v5 = (if (nI u) = 25 then u - 1 else u) → v6 = (if (nI u) = 25 then (l_X8_remember_12 nw un u (725 - 29 + 1) 29 un) else un) → va_P D vwCl [(ta, .inr (8, [.ref m_now, .ref m_undone, .ref m_slots, .ref m_slotKind, .ref m_hasSlot, .ref m_sheetBits, .ref m_sheetSize, .ref m_sheets, .int (nI v5), .int fi, .ref m_fresh, .long aa, .long bb, .long dd, .int (nI ro), .ref m_rootWhich, .int db, .ref m_signs, .ref m_atNought, .int (nI mn), .ref m_change, .ref m_table, .ref m_carried])), (m_now, .inl (cy 0, 29, .inl nw)), (m_undone, .inl (cy 0, 725, .inl v6))] H → va_D A [(ta, .inr (8, [.ref m_now, .ref m_undone, .ref m_slots, .ref m_slotKind, .ref m_hasSlot, .ref m_sheetBits, .ref m_sheetSize, .ref m_sheets, .int (nI v5), .int fi, .ref m_fresh, .long aa, .long bb, .long dd, .int (nI ro), .ref m_rootWhich, .int db, .ref m_signs, .ref m_atNought, .int (nI mn), .ref m_change, .ref m_table, .ref m_carried])), (m_now, .inl (cy 0, 29, .inl nw)), (m_undone, .inl (cy 0, 725, .inl v6))] → va_S A s.heap H locs → lv_has ls 2 [(0, .ref ta)] → W p l e R s m args below meth c H locs 0 0 Q (F0 m 50 ls []) := by
    clear hP hD hS hl
    intro v5 v6 H locs ls ev5 ev6
    rw [ev5, ev6]
    clear ev5
    clear ev6
    intro hP hD hS hl
    have hu24 : (if (nI u) = 25 then u - 1 else u) ≤ 24 := yk_u24 hu
    refine lv_iconst (v := 0) hx hb dX8_remember_50 (by decide) ?_
    refine lv_istore_n (lv' := [(1, .int 0), (0, .ref ta)]) hx hb dX8_remember_51 rfl hl (by decide) rfl (fun ls hl9 => ?_)
    replace hl := hl9
    clear hl9
    have J10 : ∀ (H : Heap) (locs : List Loc) (ls : Array Slot), va_P D vwCl [(ta, .inr (8, [.ref m_now, .ref m_undone, .ref m_slots, .ref m_slotKind, .ref m_hasSlot, .ref m_sheetBits, .ref m_sheetSize, .ref m_sheets, .int (nI (if (nI u) = 25 then u - 1 else u)), .int fi, .ref m_fresh, .long aa, .long bb, .long dd, .int (nI ro), .ref m_rootWhich, .int db, .ref m_signs, .ref m_atNought, .int (nI mn), .ref m_change, .ref m_table, .ref m_carried])), (m_now, .inl (cy 0, 29, .inl nw)), (m_undone, .inl (cy 0, 725, .inl (l_X8_remember_52 nw un u (29 + 1) 0 (if (nI u) = 25 then (l_X8_remember_12 nw un u (725 - 29 + 1) 29 un) else un))))] H → va_D A [(ta, .inr (8, [.ref m_now, .ref m_undone, .ref m_slots, .ref m_slotKind, .ref m_hasSlot, .ref m_sheetBits, .ref m_sheetSize, .ref m_sheets, .int (nI (if (nI u) = 25 then u - 1 else u)), .int fi, .ref m_fresh, .long aa, .long bb, .long dd, .int (nI ro), .ref m_rootWhich, .int db, .ref m_signs, .ref m_atNought, .int (nI mn), .ref m_change, .ref m_table, .ref m_carried])), (m_now, .inl (cy 0, 29, .inl nw)), (m_undone, .inl (cy 0, 725, .inl (l_X8_remember_52 nw un u (29 + 1) 0 (if (nI u) = 25 then (l_X8_remember_12 nw un u (725 - 29 + 1) 29 un) else un))))] → va_S A s.heap H locs → lv_has ls 2 [(0, .ref ta)] → W p l e R s m args below meth c H locs 0 0 Q (F0 m 84 ls []) := by
      clear hP hD hS hl
      intro H locs ls hP hD hS hl
      refine lv_aload_n hx hb dX8_remember_84 rfl (lv_at hl 0 rfl) ?_
      refine lv_dup hx hb dX8_remember_85 rfl ?_
      refine va_get (D := D) (ci := 8) (v := .int (nI (if (nI u) = 25 then u - 1 else u))) (C := RX8) (T := TX8) (N := 23) hx hb hts uX8_remember_X8 hown hK hP 0 rfl rfl 8 (by decide) (hts _ kX8_remember_0) (fun _ h9 => h9) rfl dX8_remember_86 ?_
      refine lv_iconst (v := 1) hx hb dX8_remember_89 (by decide) ?_
      refine lv_iadd hx hb dX8_remember_90 ?_
      refine yk_ti (y := nI ((if (nI u) = 25 then u - 1 else u) + 1)) (nI_add (if (nI u) = 25 then u - 1 else u) 1) ?_
      refine va_put (D := D) (ci := 8) (v := .int (nI ((if (nI u) = 25 then u - 1 else u) + 1))) (ty := .int) (C := RX8) (T := TX8) (N := 23) hx hb hts uX8_remember_X8 tyX8 tyX8_ok nmX8 hown hK hP hD hS 0 rfl rfl 8 (by decide) (hts _ kX8_remember_0) (fun _ h9 => h9) rfl (by decide +kernel) (yk_ni _) (yk_fi _) (Nat.le_of_ble_eq_true rfl) dX8_remember_91 (fun H locs hP9 hD9 hS9 => ?_)
      replace hP : va_P D vwCl [(ta, .inr (8, [.ref m_now, .ref m_undone, .ref m_slots, .ref m_slotKind, .ref m_hasSlot, .ref m_sheetBits, .ref m_sheetSize, .ref m_sheets, .int (nI ((if (nI u) = 25 then u - 1 else u) + 1)), .int fi, .ref m_fresh, .long aa, .long bb, .long dd, .int (nI ro), .ref m_rootWhich, .int db, .ref m_signs, .ref m_atNought, .int (nI mn), .ref m_change, .ref m_table, .ref m_carried])), (m_now, .inl (cy 0, 29, .inl nw)), (m_undone, .inl (cy 0, 725, .inl (l_X8_remember_52 nw un u (29 + 1) 0 (if (nI u) = 25 then (l_X8_remember_12 nw un u (725 - 29 + 1) 29 un) else un))))] H := hP9
      replace hD : va_D A [(ta, .inr (8, [.ref m_now, .ref m_undone, .ref m_slots, .ref m_slotKind, .ref m_hasSlot, .ref m_sheetBits, .ref m_sheetSize, .ref m_sheets, .int (nI ((if (nI u) = 25 then u - 1 else u) + 1)), .int fi, .ref m_fresh, .long aa, .long bb, .long dd, .int (nI ro), .ref m_rootWhich, .int db, .ref m_signs, .ref m_atNought, .int (nI mn), .ref m_change, .ref m_table, .ref m_carried])), (m_now, .inl (cy 0, 29, .inl nw)), (m_undone, .inl (cy 0, 725, .inl (l_X8_remember_52 nw un u (29 + 1) 0 (if (nI u) = 25 then (l_X8_remember_12 nw un u (725 - 29 + 1) 29 un) else un))))] := hD9
      replace hS := hS9
      clear hP9 hD9 hS9
      have hF : f_X8_remember nw un u = (((if (nI u) = 25 then u - 1 else u) + 1), (l_X8_remember_52 nw un u (29 + 1) 0 (if (nI u) = 25 then (l_X8_remember_12 nw un u (725 - 29 + 1) 29 un) else un))) := hF
      have hf0 := yk_fst hF
      have hg0 := yk_snd hF
      rw [hf0, hg0] at hQ
      exact hQ _ _ _ _ dX8_remember_94 hP hS
    have L52 : ∀ (M9 n52 kj : Nat) (zundone_52 : Nat → Int32) (H : Heap) (locs : List Loc) (ls : Array Slot), n52 < M9 → kj + n52 = 29 → (l_X8_remember_52 nw un u (29 + 1) 0 (if (nI u) = 25 then (l_X8_remember_12 nw un u (725 - 29 + 1) 29 un) else un)) = (l_X8_remember_52 nw un u (n52 + 1) kj zundone_52) → va_P D vwCl [(ta, .inr (8, [.ref m_now, .ref m_undone, .ref m_slots, .ref m_slotKind, .ref m_hasSlot, .ref m_sheetBits, .ref m_sheetSize, .ref m_sheets, .int (nI (if (nI u) = 25 then u - 1 else u)), .int fi, .ref m_fresh, .long aa, .long bb, .long dd, .int (nI ro), .ref m_rootWhich, .int db, .ref m_signs, .ref m_atNought, .int (nI mn), .ref m_change, .ref m_table, .ref m_carried])), (m_now, .inl (cy 0, 29, .inl nw)), (m_undone, .inl (cy 0, 725, .inl zundone_52))] H → va_D A [(ta, .inr (8, [.ref m_now, .ref m_undone, .ref m_slots, .ref m_slotKind, .ref m_hasSlot, .ref m_sheetBits, .ref m_sheetSize, .ref m_sheets, .int (nI (if (nI u) = 25 then u - 1 else u)), .int fi, .ref m_fresh, .long aa, .long bb, .long dd, .int (nI ro), .ref m_rootWhich, .int db, .ref m_signs, .ref m_atNought, .int (nI mn), .ref m_change, .ref m_table, .ref m_carried])), (m_now, .inl (cy 0, 29, .inl nw)), (m_undone, .inl (cy 0, 725, .inl zundone_52))] → va_S A s.heap H locs → lv_has ls 2 [(0, .ref ta), (1, .int (nI kj))] → W p l e R s m args below meth c H locs 0 0 Q (F0 m 52 ls []) := by
      clear hP hD hS hl
      intro M9
      induction M9 with
      | zero => intro n52 kj _ _ _ _ hn; exact absurd hn (Nat.not_lt_zero _)
      | succ M9 ih52 =>
        intro n52 kj zundone_52 H locs ls hn52 hk52 hV52 hP hD hS hl
        refine lv_iload_n hx hb dX8_remember_52 rfl (lv_at hl 1 rfl) ?_
        refine lv_bipush (v := 29) hx hb dX8_remember_53 (by decide) ?_
        refine lv_icmp_ge (tgt := 84) hx hb dX8_remember_55 (by decide) (fun hc9 => ?_) (fun hc9 => ?_)
        · replace hV52 := hV52.trans (if_pos hc9)
          have hV52 : (l_X8_remember_52 nw un u (29 + 1) 0 (if (nI u) = 25 then (l_X8_remember_12 nw un u (725 - 29 + 1) 29 un) else un)) = zundone_52 := hV52
          have J10 := J10
          rw [hV52] at J10
          exact J10 _ _ _ hP hD hS (lv_sub hl [0] rfl)
        · replace hV52 := hV52.trans (if_neg hc9)
          have hlt52 : kj < 29 := yk_lt hk52 (by omega) hc9
          refine lv_aload_n hx hb dX8_remember_58 rfl (lv_at hl 0 rfl) ?_
          refine va_get (D := D) (ci := 8) (v := .ref m_undone) (C := RX8) (T := TX8) (N := 23) hx hb hts uX8_remember_X8 hown hK hP 0 rfl rfl 1 (by decide) (hts _ kX8_remember_1) (fun _ h9 => h9) rfl dX8_remember_59 ?_
          refine lv_bipush (v := 29) hx hb dX8_remember_62 (by decide) ?_
          refine lv_aload_n hx hb dX8_remember_64 rfl (lv_at hl 0 rfl) ?_
          refine va_get (D := D) (ci := 8) (v := .int (nI (if (nI u) = 25 then u - 1 else u))) (C := RX8) (T := TX8) (N := 23) hx hb hts uX8_remember_X8 hown hK hP 0 rfl rfl 8 (by decide) (hts _ kX8_remember_0) (fun _ h9 => h9) rfl dX8_remember_65 ?_
          refine lv_imul hx hb dX8_remember_68 ?_
          refine yk_ti (y := nI (29 * (if (nI u) = 25 then u - 1 else u))) (pk_mul 29 (if (nI u) = 25 then u - 1 else u)) ?_
          refine lv_iload_n hx hb dX8_remember_69 rfl (lv_at hl 1 rfl) ?_
          refine lv_iadd hx hb dX8_remember_70 ?_
          refine yk_ti (y := nI ((29 * (if (nI u) = 25 then u - 1 else u)) + kj)) (nI_add (29 * (if (nI u) = 25 then u - 1 else u)) kj) ?_
          refine lv_aload_n hx hb dX8_remember_71 rfl (lv_at hl 0 rfl) ?_
          refine va_get (D := D) (ci := 8) (v := .ref m_now) (C := RX8) (T := TX8) (N := 23) hx hb hts uX8_remember_X8 hown hK hP 0 rfl rfl 0 (by decide) (hts _ kX8_remember_2) (fun _ h9 => h9) rfl dX8_remember_72 ?_
          refine lv_iload_n hx hb dX8_remember_75 rfl (lv_at hl 1 rfl) ?_
          refine yk_ild hx hb hK hP 1 0 rfl rfl kj (by omega) (by decide) dX8_remember_76 ?_
          refine yk_ist hx hb hK hP hD hS 2 0 rfl rfl ((29 * (if (nI u) = 25 then u - 1 else u)) + kj) (by omega) (by decide) dX8_remember_77 (fun H locs hP9 hD9 hS9 => ?_)
          replace hP : va_P D vwCl [(ta, .inr (8, [.ref m_now, .ref m_undone, .ref m_slots, .ref m_slotKind, .ref m_hasSlot, .ref m_sheetBits, .ref m_sheetSize, .ref m_sheets, .int (nI (if (nI u) = 25 then u - 1 else u)), .int fi, .ref m_fresh, .long aa, .long bb, .long dd, .int (nI ro), .ref m_rootWhich, .int db, .ref m_signs, .ref m_atNought, .int (nI mn), .ref m_change, .ref m_table, .ref m_carried])), (m_now, .inl (cy 0, 29, .inl nw)), (m_undone, .inl (cy 0, 725, .inl (upd zundone_52 ((29 * (if (nI u) = 25 then u - 1 else u)) + kj) (nw kj))))] H := hP9
          replace hD : va_D A [(ta, .inr (8, [.ref m_now, .ref m_undone, .ref m_slots, .ref m_slotKind, .ref m_hasSlot, .ref m_sheetBits, .ref m_sheetSize, .ref m_sheets, .int (nI (if (nI u) = 25 then u - 1 else u)), .int fi, .ref m_fresh, .long aa, .long bb, .long dd, .int (nI ro), .ref m_rootWhich, .int db, .ref m_signs, .ref m_atNought, .int (nI mn), .ref m_change, .ref m_table, .ref m_carried])), (m_now, .inl (cy 0, 29, .inl nw)), (m_undone, .inl (cy 0, 725, .inl (upd zundone_52 ((29 * (if (nI u) = 25 then u - 1 else u)) + kj) (nw kj))))] := hD9
          replace hS := hS9
          clear hP9 hD9 hS9
          refine lv_iinc (v := nI (kj + 1)) (lv' := [(1, .int (nI (kj + 1))), (0, .ref ta)]) hx hb dX8_remember_78 hl (k := 1) rfl (yk_inc kj) (by decide) rfl (fun ls hl9 => ?_)
          replace hl := hl9
          clear hl9
          refine lv_goto (tgt := 52) hx hb dX8_remember_81 (by decide) ?_
          obtain ⟨n9, rfl⟩ : ∃ n9, n52 = n9 + 1 := ⟨n52 - 1, by omega⟩
          exact ih52 n9 (kj + 1) (upd zundone_52 ((29 * (if (nI u) = 25 then u - 1 else u)) + kj) (nw kj)) _ _ _ (by omega) (by omega)  hV52 hP hD hS (lv_sub hl [1, 0] rfl)
    exact L52 (29 + 1) 29 0 (if (nI u) = 25 then (l_X8_remember_12 nw un u (725 - 29 + 1) 29 un) else un) _ _ _ (Nat.lt_succ_self _) (by omega)  rfl hP hD hS (lv_sub hl [1, 0] rfl)
  refine lv_icmp_ne (tgt := 50) hx hb dX8_remember_6 (by decide) (fun hc1 => ?_) (fun hc1 => ?_)
  · exact J7 _ _ _ _ _ ((if_neg hc1).symm) ((if_neg hc1).symm) hP hD hS (lv_sub hl [0] rfl)
  · refine lv_bipush (v := 29) hx hb dX8_remember_9 (by decide) ?_
    refine lv_istore_n (lv' := [(1, .int 29), (0, .ref ta)]) hx hb dX8_remember_11 rfl hl (by decide) rfl (fun ls hl9 => ?_)
    replace hl := hl9
    clear hl9
    have J4 : ∀ (H : Heap) (locs : List Loc) (ls : Array Slot), va_P D vwCl [(ta, .inr (8, [.ref m_now, .ref m_undone, .ref m_slots, .ref m_slotKind, .ref m_hasSlot, .ref m_sheetBits, .ref m_sheetSize, .ref m_sheets, .int (nI u), .int fi, .ref m_fresh, .long aa, .long bb, .long dd, .int (nI ro), .ref m_rootWhich, .int db, .ref m_signs, .ref m_atNought, .int (nI mn), .ref m_change, .ref m_table, .ref m_carried])), (m_now, .inl (cy 0, 29, .inl nw)), (m_undone, .inl (cy 0, 725, .inl (l_X8_remember_12 nw un u (725 - 29 + 1) 29 un)))] H → va_D A [(ta, .inr (8, [.ref m_now, .ref m_undone, .ref m_slots, .ref m_slotKind, .ref m_hasSlot, .ref m_sheetBits, .ref m_sheetSize, .ref m_sheets, .int (nI u), .int fi, .ref m_fresh, .long aa, .long bb, .long dd, .int (nI ro), .ref m_rootWhich, .int db, .ref m_signs, .ref m_atNought, .int (nI mn), .ref m_change, .ref m_table, .ref m_carried])), (m_now, .inl (cy 0, 29, .inl nw)), (m_undone, .inl (cy 0, 725, .inl (l_X8_remember_12 nw un u (725 - 29 + 1) 29 un)))] → va_S A s.heap H locs → lv_has ls 2 [(0, .ref ta)] → W p l e R s m args below meth c H locs 0 0 Q (F0 m 40 ls []) := by
      clear hP hD hS hl
      intro H locs ls hP hD hS hl
      refine lv_aload_n hx hb dX8_remember_40 rfl (lv_at hl 0 rfl) ?_
      refine lv_dup hx hb dX8_remember_41 rfl ?_
      refine va_get (D := D) (ci := 8) (v := .int (nI u)) (C := RX8) (T := TX8) (N := 23) hx hb hts uX8_remember_X8 hown hK hP 0 rfl rfl 8 (by decide) (hts _ kX8_remember_0) (fun _ h9 => h9) rfl dX8_remember_42 ?_
      refine lv_iconst (v := 1) hx hb dX8_remember_45 (by decide) ?_
      refine lv_isub hx hb dX8_remember_46 ?_
      refine yk_ti (y := nI (u - 1)) (pk_sub (b := 1) (yk_u25 hu (by assumption))) ?_
      refine va_put (D := D) (ci := 8) (v := .int (nI (u - 1))) (ty := .int) (C := RX8) (T := TX8) (N := 23) hx hb hts uX8_remember_X8 tyX8 tyX8_ok nmX8 hown hK hP hD hS 0 rfl rfl 8 (by decide) (hts _ kX8_remember_0) (fun _ h9 => h9) rfl (by decide +kernel) (yk_ni _) (yk_fi _) (Nat.le_of_ble_eq_true rfl) dX8_remember_47 (fun H locs hP9 hD9 hS9 => ?_)
      replace hP : va_P D vwCl [(ta, .inr (8, [.ref m_now, .ref m_undone, .ref m_slots, .ref m_slotKind, .ref m_hasSlot, .ref m_sheetBits, .ref m_sheetSize, .ref m_sheets, .int (nI (u - 1)), .int fi, .ref m_fresh, .long aa, .long bb, .long dd, .int (nI ro), .ref m_rootWhich, .int db, .ref m_signs, .ref m_atNought, .int (nI mn), .ref m_change, .ref m_table, .ref m_carried])), (m_now, .inl (cy 0, 29, .inl nw)), (m_undone, .inl (cy 0, 725, .inl (l_X8_remember_12 nw un u (725 - 29 + 1) 29 un)))] H := hP9
      replace hD : va_D A [(ta, .inr (8, [.ref m_now, .ref m_undone, .ref m_slots, .ref m_slotKind, .ref m_hasSlot, .ref m_sheetBits, .ref m_sheetSize, .ref m_sheets, .int (nI (u - 1)), .int fi, .ref m_fresh, .long aa, .long bb, .long dd, .int (nI ro), .ref m_rootWhich, .int db, .ref m_signs, .ref m_atNought, .int (nI mn), .ref m_change, .ref m_table, .ref m_carried])), (m_now, .inl (cy 0, 29, .inl nw)), (m_undone, .inl (cy 0, 725, .inl (l_X8_remember_12 nw un u (725 - 29 + 1) 29 un)))] := hD9
      replace hS := hS9
      clear hP9 hD9 hS9
      exact J7 _ _ _ _ _ ((if_pos hc1).symm) ((if_pos hc1).symm) hP hD hS (lv_sub hl [0] rfl)
    have L12 : ∀ (M9 n12 ki : Nat) (zundone_12 : Nat → Int32) (H : Heap) (locs : List Loc) (ls : Array Slot), n12 < M9 → ki + n12 = 725 → (29 ≤ ki) → (l_X8_remember_12 nw un u (725 - 29 + 1) 29 un) = (l_X8_remember_12 nw un u (n12 + 1) ki zundone_12) → va_P D vwCl [(ta, .inr (8, [.ref m_now, .ref m_undone, .ref m_slots, .ref m_slotKind, .ref m_hasSlot, .ref m_sheetBits, .ref m_sheetSize, .ref m_sheets, .int (nI u), .int fi, .ref m_fresh, .long aa, .long bb, .long dd, .int (nI ro), .ref m_rootWhich, .int db, .ref m_signs, .ref m_atNought, .int (nI mn), .ref m_change, .ref m_table, .ref m_carried])), (m_now, .inl (cy 0, 29, .inl nw)), (m_undone, .inl (cy 0, 725, .inl zundone_12))] H → va_D A [(ta, .inr (8, [.ref m_now, .ref m_undone, .ref m_slots, .ref m_slotKind, .ref m_hasSlot, .ref m_sheetBits, .ref m_sheetSize, .ref m_sheets, .int (nI u), .int fi, .ref m_fresh, .long aa, .long bb, .long dd, .int (nI ro), .ref m_rootWhich, .int db, .ref m_signs, .ref m_atNought, .int (nI mn), .ref m_change, .ref m_table, .ref m_carried])), (m_now, .inl (cy 0, 29, .inl nw)), (m_undone, .inl (cy 0, 725, .inl zundone_12))] → va_S A s.heap H locs → lv_has ls 2 [(0, .ref ta), (1, .int (nI ki))] → W p l e R s m args below meth c H locs 0 0 Q (F0 m 12 ls []) := by
      clear hP hD hS hl
      intro M9
      induction M9 with
      | zero => intro n12 ki _ _ _ _ hn; exact absurd hn (Nat.not_lt_zero _)
      | succ M9 ih12 =>
        intro n12 ki zundone_12 H locs ls hn12 hk12 hki hV12 hP hD hS hl
        refine lv_iload_n hx hb dX8_remember_12 rfl (lv_at hl 1 rfl) ?_
        refine lv_sipush (v := 725) hx hb dX8_remember_13 (by decide) ?_
        refine lv_icmp_ge (tgt := 40) hx hb dX8_remember_16 (by decide) (fun hc3 => ?_) (fun hc3 => ?_)
        · replace hV12 := hV12.trans (if_pos hc3)
          have hV12 : (l_X8_remember_12 nw un u (725 - 29 + 1) 29 un) = zundone_12 := hV12
          have J4 := J4
          rw [hV12] at J4
          exact J4 _ _ _ hP hD hS (lv_sub hl [0] rfl)
        · replace hV12 := hV12.trans (if_neg hc3)
          have hlt12 : ki < 725 := yk_lt hk12 (by omega) hc3
          refine lv_aload_n hx hb dX8_remember_19 rfl (lv_at hl 0 rfl) ?_
          refine va_get (D := D) (ci := 8) (v := .ref m_undone) (C := RX8) (T := TX8) (N := 23) hx hb hts uX8_remember_X8 hown hK hP 0 rfl rfl 1 (by decide) (hts _ kX8_remember_1) (fun _ h9 => h9) rfl dX8_remember_20 ?_
          refine lv_iload_n hx hb dX8_remember_23 rfl (lv_at hl 1 rfl) ?_
          refine lv_bipush (v := 29) hx hb dX8_remember_24 (by decide) ?_
          refine lv_isub hx hb dX8_remember_26 ?_
          refine yk_ti (y := nI (ki - 29)) (pk_sub (b := 29) (by omega)) ?_
          refine lv_aload_n hx hb dX8_remember_27 rfl (lv_at hl 0 rfl) ?_
          refine va_get (D := D) (ci := 8) (v := .ref m_undone) (C := RX8) (T := TX8) (N := 23) hx hb hts uX8_remember_X8 hown hK hP 0 rfl rfl 1 (by decide) (hts _ kX8_remember_1) (fun _ h9 => h9) rfl dX8_remember_28 ?_
          refine lv_iload_n hx hb dX8_remember_31 rfl (lv_at hl 1 rfl) ?_
          refine yk_ild hx hb hK hP 2 0 rfl rfl ki (by omega) (by decide) dX8_remember_32 ?_
          refine yk_ist hx hb hK hP hD hS 2 0 rfl rfl (ki - 29) (by omega) (by decide) dX8_remember_33 (fun H locs hP9 hD9 hS9 => ?_)
          replace hP : va_P D vwCl [(ta, .inr (8, [.ref m_now, .ref m_undone, .ref m_slots, .ref m_slotKind, .ref m_hasSlot, .ref m_sheetBits, .ref m_sheetSize, .ref m_sheets, .int (nI u), .int fi, .ref m_fresh, .long aa, .long bb, .long dd, .int (nI ro), .ref m_rootWhich, .int db, .ref m_signs, .ref m_atNought, .int (nI mn), .ref m_change, .ref m_table, .ref m_carried])), (m_now, .inl (cy 0, 29, .inl nw)), (m_undone, .inl (cy 0, 725, .inl (upd zundone_12 (ki - 29) (zundone_12 ki))))] H := hP9
          replace hD : va_D A [(ta, .inr (8, [.ref m_now, .ref m_undone, .ref m_slots, .ref m_slotKind, .ref m_hasSlot, .ref m_sheetBits, .ref m_sheetSize, .ref m_sheets, .int (nI u), .int fi, .ref m_fresh, .long aa, .long bb, .long dd, .int (nI ro), .ref m_rootWhich, .int db, .ref m_signs, .ref m_atNought, .int (nI mn), .ref m_change, .ref m_table, .ref m_carried])), (m_now, .inl (cy 0, 29, .inl nw)), (m_undone, .inl (cy 0, 725, .inl (upd zundone_12 (ki - 29) (zundone_12 ki))))] := hD9
          replace hS := hS9
          clear hP9 hD9 hS9
          refine lv_iinc (v := nI (ki + 1)) (lv' := [(1, .int (nI (ki + 1))), (0, .ref ta)]) hx hb dX8_remember_34 hl (k := 1) rfl (yk_inc ki) (by decide) rfl (fun ls hl9 => ?_)
          replace hl := hl9
          clear hl9
          refine lv_goto (tgt := 12) hx hb dX8_remember_37 (by decide) ?_
          obtain ⟨n9, rfl⟩ : ∃ n9, n12 = n9 + 1 := ⟨n12 - 1, by omega⟩
          exact ih12 n9 (ki + 1) (upd zundone_12 (ki - 29) (zundone_12 ki)) _ _ _ (by omega) (by omega) (by omega) hV12 hP hD hS (lv_sub hl [1, 0] rfl)
    exact L12 ((725 - 29) + 1) (725 - 29) 29 un _ _ _ (Nat.lt_succ_self _) (by omega) (by decide) rfl hP hD hS (lv_sub hl [1, 0] rfl)

theorem kX8_get_0 : Cond.fieldLink RX8 7 "FlowPlaneModel" "now" "[I" ∈ wsX8_get := by decide +kernel
theorem uX8_get_X8 : ∀ w ∈ u_ws RX8 TX8 23, w ∈ wsX8_get := by decide +kernel
def f_X8_get (nw : Nat → Int32) (bq : Int32) (k : Nat) : Int32 := (nw (if bq = 0 then k else (6 + k)))
set_option maxHeartbeats 400000000 in
set_option maxRecDepth 100000 in
theorem c_X8_get (l : Launch) (D : va_G) (cy : Nat → ClassId) (ta : Nat) (m_now : Nat) (m_undone : Nat) (m_slots : Nat) (m_slotKind : Nat) (m_hasSlot : Nat) (m_sheetBits : Nat) (m_sheetSize : Nat) (m_sheets : Nat) (m_fresh : Nat) (m_rootWhich : Nat) (m_signs : Nat) (m_atNought : Nat) (m_change : Nat) (m_table : Nat) (m_carried : Nat) (nw : Nat → Int32) (u : Nat) (fi : Int32) (aa : Int64) (bb : Int64) (dd : Int64) (ro : Nat) (db : Int32) (mn : Nat) (bq : Int32) (k : Nat) (hk : k < 6) : yk_Ci l D vwCl (yk_ty cy) yX8_get wsX8_get 0 0 [.ref ta, .int bq, .int (nI k)] [(ta, .inr (8, [.ref m_now, .ref m_undone, .ref m_slots, .ref m_slotKind, .ref m_hasSlot, .ref m_sheetBits, .ref m_sheetSize, .ref m_sheets, .int (nI u), .int fi, .ref m_fresh, .long aa, .long bb, .long dd, .int (nI ro), .ref m_rootWhich, .int db, .ref m_signs, .ref m_atNought, .int (nI mn), .ref m_change, .ref m_table, .ref m_carried])), (m_now, .inl (cy 0, 29, .inl nw))] (f_X8_get nw bq k) [(ta, .inr (8, [.ref m_now, .ref m_undone, .ref m_slots, .ref m_slotKind, .ref m_hasSlot, .ref m_sheetBits, .ref m_sheetSize, .ref m_sheets, .int (nI u), .int fi, .ref m_fresh, .long aa, .long bb, .long dd, .int (nI ro), .ref m_rootWhich, .int db, .ref m_signs, .ref m_atNought, .int (nI mn), .ref m_change, .ref m_table, .ref m_carried])), (m_now, .inl (cy 0, 29, .inl nw))] := by
  refine yk_eI (cc := cX8_get) (maxL := 3) (by decide) rfl (Nat.le_of_ble_eq_true rfl) rfl ?_
  intro p e R s m args below meth c A Q ls H locs hx hb hml hown hts hRf hRl hA hK hG hP hD hS hl hQ
  have hP : va_P D vwCl [(ta, .inr (8, [.ref m_now, .ref m_undone, .ref m_slots, .ref m_slotKind, .ref m_hasSlot, .ref m_sheetBits, .ref m_sheetSize, .ref m_sheets, .int (nI u), .int fi, .ref m_fresh, .long aa, .long bb, .long dd, .int (nI ro), .ref m_rootWhich, .int db, .ref m_signs, .ref m_atNought, .int (nI mn), .ref m_change, .ref m_table, .ref m_carried])), (m_now, .inl (cy 0, 29, .inl nw))] H := hP
  have hl : lv_has ls 3 [(0, .ref ta), (1, .int bq), (2, .int (nI k))] := hl
  have hown : s.vm.findClass RX8 = some m.cls := hown
  have hF : (f_X8_get nw bq k) = (f_X8_get nw bq k) := rfl
  refine lv_aload_n hx hb dX8_get_0 rfl (lv_at hl 0 rfl) ?_
  refine va_get (D := D) (ci := 8) (v := .ref m_now) (C := RX8) (T := TX8) (N := 23) hx hb hts uX8_get_X8 hown hK hP 0 rfl rfl 0 (by decide) (hts _ kX8_get_0) (fun _ h9 => h9) rfl dX8_get_1 ?_
  refine lv_iload_n hx hb dX8_get_4 rfl (lv_at hl 1 rfl) ?_
  have J3 : ∀ (v2 : Nat) (H : Heap) (locs : List Loc) (ls : Array Slot), v2 = (if bq = 0 then k else (6 + k)) → va_P D vwCl [(ta, .inr (8, [.ref m_now, .ref m_undone, .ref m_slots, .ref m_slotKind, .ref m_hasSlot, .ref m_sheetBits, .ref m_sheetSize, .ref m_sheets, .int (nI u), .int fi, .ref m_fresh, .long aa, .long bb, .long dd, .int (nI ro), .ref m_rootWhich, .int db, .ref m_signs, .ref m_atNought, .int (nI mn), .ref m_change, .ref m_table, .ref m_carried])), (m_now, .inl (cy 0, 29, .inl nw))] H → va_D A [(ta, .inr (8, [.ref m_now, .ref m_undone, .ref m_slots, .ref m_slotKind, .ref m_hasSlot, .ref m_sheetBits, .ref m_sheetSize, .ref m_sheets, .int (nI u), .int fi, .ref m_fresh, .long aa, .long bb, .long dd, .int (nI ro), .ref m_rootWhich, .int db, .ref m_signs, .ref m_atNought, .int (nI mn), .ref m_change, .ref m_table, .ref m_carried])), (m_now, .inl (cy 0, 29, .inl nw))] → va_S A s.heap H locs → lv_has ls 3 [(0, .ref ta), (1, .int bq), (2, .int (nI k))] → W p l e R s m args below meth c H locs 0 0 Q (F0 m 16 ls [.int (nI v2), .ref m_now]) := by
    clear hP hD hS hl
    intro v2 H locs ls ev2
    rw [ev2]
    clear ev2
    intro hP hD hS hl
    refine yk_ild hx hb hK hP 1 0 rfl rfl (if bq = 0 then k else (6 + k)) (by split <;> omega) (by decide) dX8_get_16 ?_
    have hF : f_X8_get nw bq k = (nw (if bq = 0 then k else (6 + k))) := hF
    rw [hF] at hQ
    exact hQ _ _ _ _ dX8_get_17 hP hS
  refine lv_if_eq (tgt := 15) hx hb dX8_get_5 (by decide) (fun hc1 => ?_) (fun hc1 => ?_)
  · refine lv_iload_n hx hb dX8_get_15 rfl (lv_at hl 2 rfl) ?_
    exact J3 _ _ _ _ ((if_pos hc1).symm) hP hD hS (lv_sub hl [0, 1, 2] rfl)
  · refine lv_bipush (v := 6) hx hb dX8_get_8 (by decide) ?_
    refine lv_iload_n hx hb dX8_get_10 rfl (lv_at hl 2 rfl) ?_
    refine lv_iadd hx hb dX8_get_11 ?_
    refine yk_ti (y := nI (6 + k)) (nI_add 6 k) ?_
    refine lv_goto (tgt := 16) hx hb dX8_get_12 (by decide) ?_
    exact J3 _ _ _ _ ((if_neg hc1).symm) hP hD hS (lv_sub hl [0, 1, 2] rfl)

theorem kX8_put_0 : Cond.constant RX8 68 (-1000001) ∈ wsX8_put := by decide +kernel
theorem kX8_put_1 : Cond.fieldLink RX8 7 "FlowPlaneModel" "now" "[I" ∈ wsX8_put := by decide +kernel
theorem uX8_put_X8 : ∀ w ∈ u_ws RX8 TX8 23, w ∈ wsX8_put := by decide +kernel
def f_X8_put (nw : Nat → Int32) (un : Nat → Int32) (u : Nat) (fi : Int32) (bq : Int32) (pm : Int32) (pv : Int32) : Int32 × Nat × Int32 × (Nat → Int32) × (Nat → Int32) := (if (f_X8_in pm 0 5) = 0 then (((f_X8_found fi (-1000001)).1), u, ((f_X8_found fi (-1000001)).2), nw, un) else (if (f_X8_in pv (-4) 4) = 0 then (((f_X8_found fi (-1000001)).1), u, ((f_X8_found fi (-1000001)).2), nw, un) else ((f_X8_get nw bq pm.toNatClampNeg), ((f_X8_remember nw un u).1), fi, (upd nw (if bq = 0 then pm.toNatClampNeg else (6 + pm.toNatClampNeg)) pv), ((f_X8_remember nw un u).2))))
set_option maxHeartbeats 400000000 in
set_option maxRecDepth 100000 in
theorem c_X8_put (l : Launch) (D : va_G) (cy : Nat → ClassId) (ta : Nat) (m_now : Nat) (m_undone : Nat) (m_slots : Nat) (m_slotKind : Nat) (m_hasSlot : Nat) (m_sheetBits : Nat) (m_sheetSize : Nat) (m_sheets : Nat) (m_fresh : Nat) (m_rootWhich : Nat) (m_signs : Nat) (m_atNought : Nat) (m_change : Nat) (m_table : Nat) (m_carried : Nat) (nw : Nat → Int32) (un : Nat → Int32) (u : Nat) (fi : Int32) (aa : Int64) (bb : Int64) (dd : Int64) (ro : Nat) (db : Int32) (mn : Nat) (bq : Int32) (pm : Int32) (pv : Int32) (hu : u ≤ 25) : yk_Ci l D vwCl (yk_ty cy) yX8_put wsX8_put 1 22 [.ref ta, .int bq, .int pm, .int pv] [(ta, .inr (8, [.ref m_now, .ref m_undone, .ref m_slots, .ref m_slotKind, .ref m_hasSlot, .ref m_sheetBits, .ref m_sheetSize, .ref m_sheets, .int (nI u), .int fi, .ref m_fresh, .long aa, .long bb, .long dd, .int (nI ro), .ref m_rootWhich, .int db, .ref m_signs, .ref m_atNought, .int (nI mn), .ref m_change, .ref m_table, .ref m_carried])), (m_now, .inl (cy 0, 29, .inl nw)), (m_undone, .inl (cy 0, 725, .inl un))] ((f_X8_put nw un u fi bq pm pv).1) [(ta, .inr (8, [.ref m_now, .ref m_undone, .ref m_slots, .ref m_slotKind, .ref m_hasSlot, .ref m_sheetBits, .ref m_sheetSize, .ref m_sheets, .int (nI ((f_X8_put nw un u fi bq pm pv).2.1)), .int ((f_X8_put nw un u fi bq pm pv).2.2.1), .ref m_fresh, .long aa, .long bb, .long dd, .int (nI ro), .ref m_rootWhich, .int db, .ref m_signs, .ref m_atNought, .int (nI mn), .ref m_change, .ref m_table, .ref m_carried])), (m_now, .inl (cy 0, 29, .inl ((f_X8_put nw un u fi bq pm pv).2.2.2.1))), (m_undone, .inl (cy 0, 725, .inl ((f_X8_put nw un u fi bq pm pv).2.2.2.2)))] := by
  refine yk_eI (cc := cX8_put) (maxL := 5) (by decide) rfl (Nat.le_of_ble_eq_true rfl) rfl ?_
  intro p e R s m args below meth c A Q ls H locs hx hb hml hown hts hRf hRl hA hK hG hP hD hS hl hQ
  have hP : va_P D vwCl [(ta, .inr (8, [.ref m_now, .ref m_undone, .ref m_slots, .ref m_slotKind, .ref m_hasSlot, .ref m_sheetBits, .ref m_sheetSize, .ref m_sheets, .int (nI u), .int fi, .ref m_fresh, .long aa, .long bb, .long dd, .int (nI ro), .ref m_rootWhich, .int db, .ref m_signs, .ref m_atNought, .int (nI mn), .ref m_change, .ref m_table, .ref m_carried])), (m_now, .inl (cy 0, 29, .inl nw)), (m_undone, .inl (cy 0, 725, .inl un))] H := hP
  have hl : lv_has ls 5 [(0, .ref ta), (1, .int bq), (2, .int pm), (3, .int pv)] := hl
  have hown : s.vm.findClass RX8 = some m.cls := hown
  have hF : (f_X8_put nw un u fi bq pm pv) = (f_X8_put nw un u fi bq pm pv) := rfl
  refine lv_iload_n hx hb dX8_put_0 rfl (lv_at hl 2 rfl) ?_
  refine lv_iconst (v := 0) hx hb dX8_put_1 (by decide) ?_
  refine lv_iconst (v := 5) hx hb dX8_put_2 (by decide) ?_
  refine yk_i [] (va_runS (As := [.int pm, .int 0, .int 5]) (rest := []) ⟨hx, hb, hml, hown, hts⟩ (c_X8_in l D cy pm 0 5 H.size) (va_cwS 3 hts gX8_put_X8_in rfl rfl rfl hs_X8_in (yk_room hRf hRl rfl rfl)) (yk_ps hG hA hS hK hP hD [] (by decide +kernel) rfl) rfl rfl hl.1 rfl (lv_room (Nat.le_of_ble_eq_true rfl)) dX8_put_3 ⟨Nat.zero_le _, Nat.zero_le _⟩) hP hD hS hA rfl rfl (fun H locs hP9 hD9 hS9 => ?_)
  replace hP : va_P D vwCl [(ta, .inr (8, [.ref m_now, .ref m_undone, .ref m_slots, .ref m_slotKind, .ref m_hasSlot, .ref m_sheetBits, .ref m_sheetSize, .ref m_sheets, .int (nI u), .int fi, .ref m_fresh, .long aa, .long bb, .long dd, .int (nI ro), .ref m_rootWhich, .int db, .ref m_signs, .ref m_atNought, .int (nI mn), .ref m_change, .ref m_table, .ref m_carried])), (m_now, .inl (cy 0, 29, .inl nw)), (m_undone, .inl (cy 0, 725, .inl un))] H := hP9
  replace hD : va_D A [(ta, .inr (8, [.ref m_now, .ref m_undone, .ref m_slots, .ref m_slotKind, .ref m_hasSlot, .ref m_sheetBits, .ref m_sheetSize, .ref m_sheets, .int (nI u), .int fi, .ref m_fresh, .long aa, .long bb, .long dd, .int (nI ro), .ref m_rootWhich, .int db, .ref m_signs, .ref m_atNought, .int (nI mn), .ref m_change, .ref m_table, .ref m_carried])), (m_now, .inl (cy 0, 29, .inl nw)), (m_undone, .inl (cy 0, 725, .inl un))] := hD9
  replace hS := hS9
  clear hP9 hD9 hS9
  refine lv_if_eq (tgt := 19) hx hb dX8_put_6 (by decide) (fun hc1 => ?_) (fun hc1 => ?_)
  · replace hF := hF.trans (if_pos hc1)
    refine lv_aload_n hx hb dX8_put_19 rfl (lv_at hl 0 rfl) ?_
    refine lv_ldc (v := (-1000001)) hx hb hown (hts _ kX8_put_0) dX8_put_20 ?_
    refine yk_i [0] (va_runV (As := [.int (-1000001)]) (rest := []) ⟨hx, hb, hml, hown, hts⟩ (c_X8_found l D cy ta m_now m_undone m_slots m_slotKind m_hasSlot m_sheetBits m_sheetSize m_sheets m_fresh m_rootWhich m_signs m_atNought m_change m_table m_carried u fi aa bb dd ro db mn (-1000001) H.size) (cwV 1 hts gX8_put_X8_found rfl rfl rfl hv_X8_found (yk_room hRf hRl rfl rfl)) (yk_pv (q := (RX8, TX8, 23)) hG hA hS hK hP hD [0] (by decide +kernel) rfl rfl rfl) rfl rfl hl.1 rfl (lv_room (Nat.le_of_ble_eq_true rfl)) dX8_put_22 ⟨Nat.zero_le _, Nat.zero_le _⟩) hP hD hS hA rfl (Eq.trans (b := [ta]) rfl rfl) (fun H locs hP9 hD9 hS9 => ?_)
    replace hP : va_P D vwCl [(ta, .inr (8, [.ref m_now, .ref m_undone, .ref m_slots, .ref m_slotKind, .ref m_hasSlot, .ref m_sheetBits, .ref m_sheetSize, .ref m_sheets, .int (nI u), .int ((f_X8_found fi (-1000001)).2), .ref m_fresh, .long aa, .long bb, .long dd, .int (nI ro), .ref m_rootWhich, .int db, .ref m_signs, .ref m_atNought, .int (nI mn), .ref m_change, .ref m_table, .ref m_carried])), (m_now, .inl (cy 0, 29, .inl nw)), (m_undone, .inl (cy 0, 725, .inl un))] H := hP9
    replace hD : va_D A [(ta, .inr (8, [.ref m_now, .ref m_undone, .ref m_slots, .ref m_slotKind, .ref m_hasSlot, .ref m_sheetBits, .ref m_sheetSize, .ref m_sheets, .int (nI u), .int ((f_X8_found fi (-1000001)).2), .ref m_fresh, .long aa, .long bb, .long dd, .int (nI ro), .ref m_rootWhich, .int db, .ref m_signs, .ref m_atNought, .int (nI mn), .ref m_change, .ref m_table, .ref m_carried])), (m_now, .inl (cy 0, 29, .inl nw)), (m_undone, .inl (cy 0, 725, .inl un))] := hD9
    replace hS := hS9
    clear hP9 hD9 hS9
    have hF : f_X8_put nw un u fi bq pm pv = (((f_X8_found fi (-1000001)).1), u, ((f_X8_found fi (-1000001)).2), nw, un) := hF
    have hf0 := yk_fst hF
    have hg0 := yk_snd hF
    have hf1 := yk_fst hg0
    have hg1 := yk_snd hg0
    have hf2 := yk_fst hg1
    have hg2 := yk_snd hg1
    have hf3 := yk_fst hg2
    have hg3 := yk_snd hg2
    rw [hf0, hf1, hf2, hf3, hg3] at hQ
    exact hQ _ _ _ _ dX8_put_25 hP hS
  · replace hF := hF.trans (if_neg hc1)
    refine lv_iload_n hx hb dX8_put_9 rfl (lv_at hl 3 rfl) ?_
    refine lv_bipush (v := (-4)) hx hb dX8_put_10 (by decide) ?_
    refine lv_iconst (v := 4) hx hb dX8_put_12 (by decide) ?_
    refine yk_i [] (va_runS (As := [.int pv, .int (-4), .int 4]) (rest := []) ⟨hx, hb, hml, hown, hts⟩ (c_X8_in l D cy pv (-4) 4 H.size) (va_cwS 3 hts gX8_put_X8_in rfl rfl rfl hs_X8_in (yk_room hRf hRl rfl rfl)) (yk_ps hG hA hS hK hP hD [] (by decide +kernel) rfl) rfl rfl hl.1 rfl (lv_room (Nat.le_of_ble_eq_true rfl)) dX8_put_13 ⟨Nat.zero_le _, Nat.zero_le _⟩) hP hD hS hA rfl rfl (fun H locs hP9 hD9 hS9 => ?_)
    replace hP : va_P D vwCl [(ta, .inr (8, [.ref m_now, .ref m_undone, .ref m_slots, .ref m_slotKind, .ref m_hasSlot, .ref m_sheetBits, .ref m_sheetSize, .ref m_sheets, .int (nI u), .int fi, .ref m_fresh, .long aa, .long bb, .long dd, .int (nI ro), .ref m_rootWhich, .int db, .ref m_signs, .ref m_atNought, .int (nI mn), .ref m_change, .ref m_table, .ref m_carried])), (m_now, .inl (cy 0, 29, .inl nw)), (m_undone, .inl (cy 0, 725, .inl un))] H := hP9
    replace hD : va_D A [(ta, .inr (8, [.ref m_now, .ref m_undone, .ref m_slots, .ref m_slotKind, .ref m_hasSlot, .ref m_sheetBits, .ref m_sheetSize, .ref m_sheets, .int (nI u), .int fi, .ref m_fresh, .long aa, .long bb, .long dd, .int (nI ro), .ref m_rootWhich, .int db, .ref m_signs, .ref m_atNought, .int (nI mn), .ref m_change, .ref m_table, .ref m_carried])), (m_now, .inl (cy 0, 29, .inl nw)), (m_undone, .inl (cy 0, 725, .inl un))] := hD9
    replace hS := hS9
    clear hP9 hD9 hS9
    refine lv_if_ne (tgt := 26) hx hb dX8_put_16 (by decide) (fun hc2 => ?_) (fun hc2 => ?_)
    · replace hF := hF.trans (if_neg hc2)
      have hq3 : pm = nI pm.toNatClampNeg := (ix_in (N := 6) (b := 5) (by decide) rfl (by decide) (by assumption)).1
      have hq3b : pm.toNatClampNeg < 6 := (ix_in (N := 6) (b := 5) (by decide) rfl (by decide) (by assumption)).2
      rw [hq3] at hl
      refine lv_aload_n hx hb dX8_put_26 rfl (lv_at hl 0 rfl) ?_
      refine yk_v [0, 1, 2] (va_runV (As := []) (rest := []) ⟨hx, hb, hml, hown, hts⟩ (c_X8_remember l D cy ta m_now m_undone m_slots m_slotKind m_hasSlot m_sheetBits m_sheetSize m_sheets m_fresh m_rootWhich m_signs m_atNought m_change m_table m_carried nw un u fi aa bb dd ro db mn hu H.size) (cwV 0 hts gX8_put_X8_remember rfl rfl rfl hv_X8_remember (yk_room hRf hRl rfl rfl)) (yk_pv (q := (RX8, TX8, 23)) hG hA hS hK hP hD [0, 1, 2] (by decide +kernel) rfl rfl rfl) rfl rfl hl.1 rfl (lv_room (Nat.le_of_ble_eq_true rfl)) dX8_put_27 ⟨Nat.zero_le _, Nat.zero_le _⟩) hP hD hS hA rfl (Eq.trans (b := [ta, m_now, m_undone]) rfl rfl) (fun H locs hP9 hD9 hS9 => ?_)
      replace hP : va_P D vwCl [(ta, .inr (8, [.ref m_now, .ref m_undone, .ref m_slots, .ref m_slotKind, .ref m_hasSlot, .ref m_sheetBits, .ref m_sheetSize, .ref m_sheets, .int (nI ((f_X8_remember nw un u).1)), .int fi, .ref m_fresh, .long aa, .long bb, .long dd, .int (nI ro), .ref m_rootWhich, .int db, .ref m_signs, .ref m_atNought, .int (nI mn), .ref m_change, .ref m_table, .ref m_carried])), (m_now, .inl (cy 0, 29, .inl nw)), (m_undone, .inl (cy 0, 725, .inl ((f_X8_remember nw un u).2)))] H := hP9
      replace hD : va_D A [(ta, .inr (8, [.ref m_now, .ref m_undone, .ref m_slots, .ref m_slotKind, .ref m_hasSlot, .ref m_sheetBits, .ref m_sheetSize, .ref m_sheets, .int (nI ((f_X8_remember nw un u).1)), .int fi, .ref m_fresh, .long aa, .long bb, .long dd, .int (nI ro), .ref m_rootWhich, .int db, .ref m_signs, .ref m_atNought, .int (nI mn), .ref m_change, .ref m_table, .ref m_carried])), (m_now, .inl (cy 0, 29, .inl nw)), (m_undone, .inl (cy 0, 725, .inl ((f_X8_remember nw un u).2)))] := hD9
      replace hS := hS9
      clear hP9 hD9 hS9
      refine lv_aload_n hx hb dX8_put_30 rfl (lv_at hl 0 rfl) ?_
      refine lv_iload_n hx hb dX8_put_31 rfl (lv_at hl 1 rfl) ?_
      refine lv_iload_n hx hb dX8_put_32 rfl (lv_at hl 2 rfl) ?_
      refine yk_i [0, 1] (va_runV (As := [.int bq, .int (nI pm.toNatClampNeg)]) (rest := []) ⟨hx, hb, hml, hown, hts⟩ (c_X8_get l D cy ta m_now m_undone m_slots m_slotKind m_hasSlot m_sheetBits m_sheetSize m_sheets m_fresh m_rootWhich m_signs m_atNought m_change m_table m_carried nw ((f_X8_remember nw un u).1) fi aa bb dd ro db mn bq pm.toNatClampNeg (by omega) H.size) (cwV 2 hts gX8_put_X8_get rfl rfl rfl hv_X8_get (yk_room hRf hRl rfl rfl)) (yk_pv (q := (RX8, TX8, 23)) hG hA hS hK hP hD [0, 1] (by decide +kernel) rfl rfl rfl) rfl rfl hl.1 rfl (lv_room (Nat.le_of_ble_eq_true rfl)) dX8_put_33 ⟨Nat.zero_le _, Nat.zero_le _⟩) hP hD hS hA rfl (Eq.trans (b := [ta, m_now]) rfl rfl) (fun H locs hP9 hD9 hS9 => ?_)
      replace hP : va_P D vwCl [(ta, .inr (8, [.ref m_now, .ref m_undone, .ref m_slots, .ref m_slotKind, .ref m_hasSlot, .ref m_sheetBits, .ref m_sheetSize, .ref m_sheets, .int (nI ((f_X8_remember nw un u).1)), .int fi, .ref m_fresh, .long aa, .long bb, .long dd, .int (nI ro), .ref m_rootWhich, .int db, .ref m_signs, .ref m_atNought, .int (nI mn), .ref m_change, .ref m_table, .ref m_carried])), (m_now, .inl (cy 0, 29, .inl nw)), (m_undone, .inl (cy 0, 725, .inl ((f_X8_remember nw un u).2)))] H := hP9
      replace hD : va_D A [(ta, .inr (8, [.ref m_now, .ref m_undone, .ref m_slots, .ref m_slotKind, .ref m_hasSlot, .ref m_sheetBits, .ref m_sheetSize, .ref m_sheets, .int (nI ((f_X8_remember nw un u).1)), .int fi, .ref m_fresh, .long aa, .long bb, .long dd, .int (nI ro), .ref m_rootWhich, .int db, .ref m_signs, .ref m_atNought, .int (nI mn), .ref m_change, .ref m_table, .ref m_carried])), (m_now, .inl (cy 0, 29, .inl nw)), (m_undone, .inl (cy 0, 725, .inl ((f_X8_remember nw un u).2)))] := hD9
      replace hS := hS9
      clear hP9 hD9 hS9
      refine lv_istore (lv' := [(4, .int (f_X8_get nw bq pm.toNatClampNeg)), (0, .ref ta), (1, .int bq), (2, .int (nI pm.toNatClampNeg)), (3, .int pv)]) hx hb dX8_put_36 hl (by decide) rfl (fun ls hl9 => ?_)
      replace hl := hl9
      clear hl9
      refine lv_aload_n hx hb dX8_put_38 rfl (lv_at hl 1 rfl) ?_
      refine va_get (D := D) (ci := 8) (v := .ref m_now) (C := RX8) (T := TX8) (N := 23) hx hb hts uX8_put_X8 hown hK hP 0 rfl rfl 0 (by decide) (hts _ kX8_put_1) (fun _ h9 => h9) rfl dX8_put_39 ?_
      refine lv_iload_n hx hb dX8_put_42 rfl (lv_at hl 2 rfl) ?_
      have J6 : ∀ (v5 : Nat) (H : Heap) (locs : List Loc) (ls : Array Slot), v5 = (if bq = 0 then pm.toNatClampNeg else (6 + pm.toNatClampNeg)) → va_P D vwCl [(ta, .inr (8, [.ref m_now, .ref m_undone, .ref m_slots, .ref m_slotKind, .ref m_hasSlot, .ref m_sheetBits, .ref m_sheetSize, .ref m_sheets, .int (nI ((f_X8_remember nw un u).1)), .int fi, .ref m_fresh, .long aa, .long bb, .long dd, .int (nI ro), .ref m_rootWhich, .int db, .ref m_signs, .ref m_atNought, .int (nI mn), .ref m_change, .ref m_table, .ref m_carried])), (m_now, .inl (cy 0, 29, .inl nw)), (m_undone, .inl (cy 0, 725, .inl ((f_X8_remember nw un u).2)))] H → va_D A [(ta, .inr (8, [.ref m_now, .ref m_undone, .ref m_slots, .ref m_slotKind, .ref m_hasSlot, .ref m_sheetBits, .ref m_sheetSize, .ref m_sheets, .int (nI ((f_X8_remember nw un u).1)), .int fi, .ref m_fresh, .long aa, .long bb, .long dd, .int (nI ro), .ref m_rootWhich, .int db, .ref m_signs, .ref m_atNought, .int (nI mn), .ref m_change, .ref m_table, .ref m_carried])), (m_now, .inl (cy 0, 29, .inl nw)), (m_undone, .inl (cy 0, 725, .inl ((f_X8_remember nw un u).2)))] → va_S A s.heap H locs → lv_has ls 5 [(0, .ref ta), (1, .int bq), (2, .int (nI pm.toNatClampNeg)), (3, .int pv), (4, .int (f_X8_get nw bq pm.toNatClampNeg))] → W p l e R s m args below meth c H locs 0 0 Q (F0 m 54 ls [.int (nI v5), .ref m_now]) := by
        clear hP hD hS hl
        intro v5 H locs ls ev5
        rw [ev5]
        clear ev5
        intro hP hD hS hl
        refine lv_iload_n hx hb dX8_put_54 rfl (lv_at hl 3 rfl) ?_
        refine yk_ist hx hb hK hP hD hS 1 0 rfl rfl (if bq = 0 then pm.toNatClampNeg else (6 + pm.toNatClampNeg)) (by split <;> omega) (by decide) dX8_put_55 (fun H locs hP9 hD9 hS9 => ?_)
        replace hP : va_P D vwCl [(ta, .inr (8, [.ref m_now, .ref m_undone, .ref m_slots, .ref m_slotKind, .ref m_hasSlot, .ref m_sheetBits, .ref m_sheetSize, .ref m_sheets, .int (nI ((f_X8_remember nw un u).1)), .int fi, .ref m_fresh, .long aa, .long bb, .long dd, .int (nI ro), .ref m_rootWhich, .int db, .ref m_signs, .ref m_atNought, .int (nI mn), .ref m_change, .ref m_table, .ref m_carried])), (m_now, .inl (cy 0, 29, .inl (upd nw (if bq = 0 then pm.toNatClampNeg else (6 + pm.toNatClampNeg)) pv))), (m_undone, .inl (cy 0, 725, .inl ((f_X8_remember nw un u).2)))] H := hP9
        replace hD : va_D A [(ta, .inr (8, [.ref m_now, .ref m_undone, .ref m_slots, .ref m_slotKind, .ref m_hasSlot, .ref m_sheetBits, .ref m_sheetSize, .ref m_sheets, .int (nI ((f_X8_remember nw un u).1)), .int fi, .ref m_fresh, .long aa, .long bb, .long dd, .int (nI ro), .ref m_rootWhich, .int db, .ref m_signs, .ref m_atNought, .int (nI mn), .ref m_change, .ref m_table, .ref m_carried])), (m_now, .inl (cy 0, 29, .inl (upd nw (if bq = 0 then pm.toNatClampNeg else (6 + pm.toNatClampNeg)) pv))), (m_undone, .inl (cy 0, 725, .inl ((f_X8_remember nw un u).2)))] := hD9
        replace hS := hS9
        clear hP9 hD9 hS9
        refine lv_iload hx hb dX8_put_56 (lv_at hl 4 rfl) ?_
        have hF : f_X8_put nw un u fi bq pm pv = ((f_X8_get nw bq pm.toNatClampNeg), ((f_X8_remember nw un u).1), fi, (upd nw (if bq = 0 then pm.toNatClampNeg else (6 + pm.toNatClampNeg)) pv), ((f_X8_remember nw un u).2)) := hF
        have hf0 := yk_fst hF
        have hg0 := yk_snd hF
        have hf1 := yk_fst hg0
        have hg1 := yk_snd hg0
        have hf2 := yk_fst hg1
        have hg2 := yk_snd hg1
        have hf3 := yk_fst hg2
        have hg3 := yk_snd hg2
        rw [hf0, hf1, hf2, hf3, hg3] at hQ
        exact hQ _ _ _ _ dX8_put_58 hP hS
      refine lv_if_eq (tgt := 53) hx hb dX8_put_43 (by decide) (fun hc4 => ?_) (fun hc4 => ?_)
      · refine lv_iload_n hx hb dX8_put_53 rfl (lv_at hl 3 rfl) ?_
        exact J6 _ _ _ _ ((if_pos hc4).symm) hP hD hS (lv_sub hl [1, 2, 3, 4, 0] rfl)
      · refine lv_bipush (v := 6) hx hb dX8_put_46 (by decide) ?_
        refine lv_iload_n hx hb dX8_put_48 rfl (lv_at hl 3 rfl) ?_
        refine lv_iadd hx hb dX8_put_49 ?_
        refine yk_ti (y := nI (6 + pm.toNatClampNeg)) (nI_add 6 pm.toNatClampNeg) ?_
        refine lv_goto (tgt := 54) hx hb dX8_put_50 (by decide) ?_
        exact J6 _ _ _ _ ((if_neg hc4).symm) hP hD hS (lv_sub hl [1, 2, 3, 4, 0] rfl)
    · replace hF := hF.trans (if_pos hc2)
      refine lv_aload_n hx hb dX8_put_19 rfl (lv_at hl 0 rfl) ?_
      refine lv_ldc (v := (-1000001)) hx hb hown (hts _ kX8_put_0) dX8_put_20 ?_
      refine yk_i [0] (va_runV (As := [.int (-1000001)]) (rest := []) ⟨hx, hb, hml, hown, hts⟩ (c_X8_found l D cy ta m_now m_undone m_slots m_slotKind m_hasSlot m_sheetBits m_sheetSize m_sheets m_fresh m_rootWhich m_signs m_atNought m_change m_table m_carried u fi aa bb dd ro db mn (-1000001) H.size) (cwV 1 hts gX8_put_X8_found rfl rfl rfl hv_X8_found (yk_room hRf hRl rfl rfl)) (yk_pv (q := (RX8, TX8, 23)) hG hA hS hK hP hD [0] (by decide +kernel) rfl rfl rfl) rfl rfl hl.1 rfl (lv_room (Nat.le_of_ble_eq_true rfl)) dX8_put_22 ⟨Nat.zero_le _, Nat.zero_le _⟩) hP hD hS hA rfl (Eq.trans (b := [ta]) rfl rfl) (fun H locs hP9 hD9 hS9 => ?_)
      replace hP : va_P D vwCl [(ta, .inr (8, [.ref m_now, .ref m_undone, .ref m_slots, .ref m_slotKind, .ref m_hasSlot, .ref m_sheetBits, .ref m_sheetSize, .ref m_sheets, .int (nI u), .int ((f_X8_found fi (-1000001)).2), .ref m_fresh, .long aa, .long bb, .long dd, .int (nI ro), .ref m_rootWhich, .int db, .ref m_signs, .ref m_atNought, .int (nI mn), .ref m_change, .ref m_table, .ref m_carried])), (m_now, .inl (cy 0, 29, .inl nw)), (m_undone, .inl (cy 0, 725, .inl un))] H := hP9
      replace hD : va_D A [(ta, .inr (8, [.ref m_now, .ref m_undone, .ref m_slots, .ref m_slotKind, .ref m_hasSlot, .ref m_sheetBits, .ref m_sheetSize, .ref m_sheets, .int (nI u), .int ((f_X8_found fi (-1000001)).2), .ref m_fresh, .long aa, .long bb, .long dd, .int (nI ro), .ref m_rootWhich, .int db, .ref m_signs, .ref m_atNought, .int (nI mn), .ref m_change, .ref m_table, .ref m_carried])), (m_now, .inl (cy 0, 29, .inl nw)), (m_undone, .inl (cy 0, 725, .inl un))] := hD9
      replace hS := hS9
      clear hP9 hD9 hS9
      have hF : f_X8_put nw un u fi bq pm pv = (((f_X8_found fi (-1000001)).1), u, ((f_X8_found fi (-1000001)).2), nw, un) := hF
      have hf0 := yk_fst hF
      have hg0 := yk_snd hF
      have hf1 := yk_fst hg0
      have hg1 := yk_snd hg0
      have hf2 := yk_fst hg1
      have hg2 := yk_snd hg1
      have hf3 := yk_fst hg2
      have hg3 := yk_snd hg2
      rw [hf0, hf1, hf2, hf3, hg3] at hQ
      exact hQ _ _ _ _ dX8_put_25 hP hS

theorem kX8_number_0 : Cond.constant RX8 68 (-1000001) ∈ wsX8_number := by decide +kernel
def f_X8_number (nw : Nat → Int32) (fi : Int32) (bq : Int32) (pm : Int32) : Int32 × Int32 := ((if (f_X8_in pm 0 5) = 0 then (f_X8_found fi (-1000001)).1 else (f_X8_get nw bq pm.toNatClampNeg)), (if (f_X8_in pm 0 5) = 0 then (f_X8_found fi (-1000001)).2 else fi))
set_option maxHeartbeats 400000000 in
set_option maxRecDepth 100000 in
theorem c_X8_number (l : Launch) (D : va_G) (cy : Nat → ClassId) (ta : Nat) (m_now : Nat) (m_undone : Nat) (m_slots : Nat) (m_slotKind : Nat) (m_hasSlot : Nat) (m_sheetBits : Nat) (m_sheetSize : Nat) (m_sheets : Nat) (m_fresh : Nat) (m_rootWhich : Nat) (m_signs : Nat) (m_atNought : Nat) (m_change : Nat) (m_table : Nat) (m_carried : Nat) (nw : Nat → Int32) (u : Nat) (fi : Int32) (aa : Int64) (bb : Int64) (dd : Int64) (ro : Nat) (db : Int32) (mn : Nat) (bq : Int32) (pm : Int32) : yk_Ci l D vwCl (yk_ty cy) yX8_number wsX8_number 1 22 [.ref ta, .int bq, .int pm] [(ta, .inr (8, [.ref m_now, .ref m_undone, .ref m_slots, .ref m_slotKind, .ref m_hasSlot, .ref m_sheetBits, .ref m_sheetSize, .ref m_sheets, .int (nI u), .int fi, .ref m_fresh, .long aa, .long bb, .long dd, .int (nI ro), .ref m_rootWhich, .int db, .ref m_signs, .ref m_atNought, .int (nI mn), .ref m_change, .ref m_table, .ref m_carried])), (m_now, .inl (cy 0, 29, .inl nw))] ((f_X8_number nw fi bq pm).1) [(ta, .inr (8, [.ref m_now, .ref m_undone, .ref m_slots, .ref m_slotKind, .ref m_hasSlot, .ref m_sheetBits, .ref m_sheetSize, .ref m_sheets, .int (nI u), .int ((f_X8_number nw fi bq pm).2), .ref m_fresh, .long aa, .long bb, .long dd, .int (nI ro), .ref m_rootWhich, .int db, .ref m_signs, .ref m_atNought, .int (nI mn), .ref m_change, .ref m_table, .ref m_carried])), (m_now, .inl (cy 0, 29, .inl nw))] := by
  refine yk_eI (cc := cX8_number) (maxL := 3) (by decide) rfl (Nat.le_of_ble_eq_true rfl) rfl ?_
  intro p e R s m args below meth c A Q ls H locs hx hb hml hown hts hRf hRl hA hK hG hP hD hS hl hQ
  have hP : va_P D vwCl [(ta, .inr (8, [.ref m_now, .ref m_undone, .ref m_slots, .ref m_slotKind, .ref m_hasSlot, .ref m_sheetBits, .ref m_sheetSize, .ref m_sheets, .int (nI u), .int fi, .ref m_fresh, .long aa, .long bb, .long dd, .int (nI ro), .ref m_rootWhich, .int db, .ref m_signs, .ref m_atNought, .int (nI mn), .ref m_change, .ref m_table, .ref m_carried])), (m_now, .inl (cy 0, 29, .inl nw))] H := hP
  have hl : lv_has ls 3 [(0, .ref ta), (1, .int bq), (2, .int pm)] := hl
  have hown : s.vm.findClass RX8 = some m.cls := hown
  have hF : (f_X8_number nw fi bq pm) = (f_X8_number nw fi bq pm) := rfl
  refine lv_iload_n hx hb dX8_number_0 rfl (lv_at hl 2 rfl) ?_
  refine lv_iconst (v := 0) hx hb dX8_number_1 (by decide) ?_
  refine lv_iconst (v := 5) hx hb dX8_number_2 (by decide) ?_
  refine yk_i [] (va_runS (As := [.int pm, .int 0, .int 5]) (rest := []) ⟨hx, hb, hml, hown, hts⟩ (c_X8_in l D cy pm 0 5 H.size) (va_cwS 3 hts gX8_number_X8_in rfl rfl rfl hs_X8_in (yk_room hRf hRl rfl rfl)) (yk_ps hG hA hS hK hP hD [] (by decide +kernel) rfl) rfl rfl hl.1 rfl (lv_room (Nat.le_of_ble_eq_true rfl)) dX8_number_3 ⟨Nat.zero_le _, Nat.zero_le _⟩) hP hD hS hA rfl rfl (fun H locs hP9 hD9 hS9 => ?_)
  replace hP : va_P D vwCl [(ta, .inr (8, [.ref m_now, .ref m_undone, .ref m_slots, .ref m_slotKind, .ref m_hasSlot, .ref m_sheetBits, .ref m_sheetSize, .ref m_sheets, .int (nI u), .int fi, .ref m_fresh, .long aa, .long bb, .long dd, .int (nI ro), .ref m_rootWhich, .int db, .ref m_signs, .ref m_atNought, .int (nI mn), .ref m_change, .ref m_table, .ref m_carried])), (m_now, .inl (cy 0, 29, .inl nw))] H := hP9
  replace hD : va_D A [(ta, .inr (8, [.ref m_now, .ref m_undone, .ref m_slots, .ref m_slotKind, .ref m_hasSlot, .ref m_sheetBits, .ref m_sheetSize, .ref m_sheets, .int (nI u), .int fi, .ref m_fresh, .long aa, .long bb, .long dd, .int (nI ro), .ref m_rootWhich, .int db, .ref m_signs, .ref m_atNought, .int (nI mn), .ref m_change, .ref m_table, .ref m_carried])), (m_now, .inl (cy 0, 29, .inl nw))] := hD9
  replace hS := hS9
  clear hP9 hD9 hS9
  have J6 : ∀ (v3 : Int32) (v4 : Int32) (v5 : Int32) (H : Heap) (locs : List Loc) (ls : Array Slot), v3 = (if (f_X8_in pm 0 5) = 0 then pm else nI pm.toNatClampNeg) → v4 = (if (f_X8_in pm 0 5) = 0 then (f_X8_found fi (-1000001)).2 else fi) → v5 = (if (f_X8_in pm 0 5) = 0 then (f_X8_found fi (-1000001)).1 else (f_X8_get nw bq pm.toNatClampNeg)) → va_P D vwCl [(ta, .inr (8, [.ref m_now, .ref m_undone, .ref m_slots, .ref m_slotKind, .ref m_hasSlot, .ref m_sheetBits, .ref m_sheetSize, .ref m_sheets, .int (nI u), .int v4, .ref m_fresh, .long aa, .long bb, .long dd, .int (nI ro), .ref m_rootWhich, .int db, .ref m_signs, .ref m_atNought, .int (nI mn), .ref m_change, .ref m_table, .ref m_carried])), (m_now, .inl (cy 0, 29, .inl nw))] H → va_D A [(ta, .inr (8, [.ref m_now, .ref m_undone, .ref m_slots, .ref m_slotKind, .ref m_hasSlot, .ref m_sheetBits, .ref m_sheetSize, .ref m_sheets, .int (nI u), .int v4, .ref m_fresh, .long aa, .long bb, .long dd, .int (nI ro), .ref m_rootWhich, .int db, .ref m_signs, .ref m_atNought, .int (nI mn), .ref m_change, .ref m_table, .ref m_carried])), (m_now, .inl (cy 0, 29, .inl nw))] → va_S A s.heap H locs → lv_has ls 3 [(0, .ref ta), (1, .int bq), (2, .int v3)] → W p l e R s m args below meth c H locs 0 0 Q (F0 m 24 ls [.int v5]) := by
    clear hP hD hS hl
    intro v3 v4 v5 H locs ls ev3 ev4 ev5
    rw [ev3, ev4, ev5]
    clear ev3
    clear ev4
    clear ev5
    intro hP hD hS hl
    have hF : f_X8_number nw fi bq pm = ((if (f_X8_in pm 0 5) = 0 then (f_X8_found fi (-1000001)).1 else (f_X8_get nw bq pm.toNatClampNeg)), (if (f_X8_in pm 0 5) = 0 then (f_X8_found fi (-1000001)).2 else fi)) := hF
    have hf0 := yk_fst hF
    have hg0 := yk_snd hF
    rw [hf0, hg0] at hQ
    exact hQ _ _ _ _ dX8_number_24 hP hS
  refine lv_if_eq (tgt := 18) hx hb dX8_number_6 (by decide) (fun hc1 => ?_) (fun hc1 => ?_)
  · refine lv_aload_n hx hb dX8_number_18 rfl (lv_at hl 0 rfl) ?_
    refine lv_ldc (v := (-1000001)) hx hb hown (hts _ kX8_number_0) dX8_number_19 ?_
    refine yk_i [0] (va_runV (As := [.int (-1000001)]) (rest := []) ⟨hx, hb, hml, hown, hts⟩ (c_X8_found l D cy ta m_now m_undone m_slots m_slotKind m_hasSlot m_sheetBits m_sheetSize m_sheets m_fresh m_rootWhich m_signs m_atNought m_change m_table m_carried u fi aa bb dd ro db mn (-1000001) H.size) (cwV 1 hts gX8_number_X8_found rfl rfl rfl hv_X8_found (yk_room hRf hRl rfl rfl)) (yk_pv (q := (RX8, TX8, 23)) hG hA hS hK hP hD [0] (by decide +kernel) rfl rfl rfl) rfl rfl hl.1 rfl (lv_room (Nat.le_of_ble_eq_true rfl)) dX8_number_21 ⟨Nat.zero_le _, Nat.zero_le _⟩) hP hD hS hA rfl (Eq.trans (b := [ta]) rfl rfl) (fun H locs hP9 hD9 hS9 => ?_)
    replace hP : va_P D vwCl [(ta, .inr (8, [.ref m_now, .ref m_undone, .ref m_slots, .ref m_slotKind, .ref m_hasSlot, .ref m_sheetBits, .ref m_sheetSize, .ref m_sheets, .int (nI u), .int ((f_X8_found fi (-1000001)).2), .ref m_fresh, .long aa, .long bb, .long dd, .int (nI ro), .ref m_rootWhich, .int db, .ref m_signs, .ref m_atNought, .int (nI mn), .ref m_change, .ref m_table, .ref m_carried])), (m_now, .inl (cy 0, 29, .inl nw))] H := hP9
    replace hD : va_D A [(ta, .inr (8, [.ref m_now, .ref m_undone, .ref m_slots, .ref m_slotKind, .ref m_hasSlot, .ref m_sheetBits, .ref m_sheetSize, .ref m_sheets, .int (nI u), .int ((f_X8_found fi (-1000001)).2), .ref m_fresh, .long aa, .long bb, .long dd, .int (nI ro), .ref m_rootWhich, .int db, .ref m_signs, .ref m_atNought, .int (nI mn), .ref m_change, .ref m_table, .ref m_carried])), (m_now, .inl (cy 0, 29, .inl nw))] := hD9
    replace hS := hS9
    clear hP9 hD9 hS9
    exact J6 _ _ _ _ _ _ ((if_pos hc1).symm) ((if_pos hc1).symm) ((if_pos hc1).symm) hP hD hS (lv_sub hl [0, 1, 2] rfl)
  · have hq2 : pm = nI pm.toNatClampNeg := (ix_in (N := 6) (b := 5) (by decide) rfl (by decide) (by assumption)).1
    have hq2b : pm.toNatClampNeg < 6 := (ix_in (N := 6) (b := 5) (by decide) rfl (by decide) (by assumption)).2
    rw [hq2] at hl
    refine lv_aload_n hx hb dX8_number_9 rfl (lv_at hl 0 rfl) ?_
    refine lv_iload_n hx hb dX8_number_10 rfl (lv_at hl 1 rfl) ?_
    refine lv_iload_n hx hb dX8_number_11 rfl (lv_at hl 2 rfl) ?_
    refine yk_i [0, 1] (va_runV (As := [.int bq, .int (nI pm.toNatClampNeg)]) (rest := []) ⟨hx, hb, hml, hown, hts⟩ (c_X8_get l D cy ta m_now m_undone m_slots m_slotKind m_hasSlot m_sheetBits m_sheetSize m_sheets m_fresh m_rootWhich m_signs m_atNought m_change m_table m_carried nw u fi aa bb dd ro db mn bq pm.toNatClampNeg (by omega) H.size) (cwV 2 hts gX8_number_X8_get rfl rfl rfl hv_X8_get (yk_room hRf hRl rfl rfl)) (yk_pv (q := (RX8, TX8, 23)) hG hA hS hK hP hD [0, 1] (by decide +kernel) rfl rfl rfl) rfl rfl hl.1 rfl (lv_room (Nat.le_of_ble_eq_true rfl)) dX8_number_12 ⟨Nat.zero_le _, Nat.zero_le _⟩) hP hD hS hA rfl (Eq.trans (b := [ta, m_now]) rfl rfl) (fun H locs hP9 hD9 hS9 => ?_)
    replace hP : va_P D vwCl [(ta, .inr (8, [.ref m_now, .ref m_undone, .ref m_slots, .ref m_slotKind, .ref m_hasSlot, .ref m_sheetBits, .ref m_sheetSize, .ref m_sheets, .int (nI u), .int fi, .ref m_fresh, .long aa, .long bb, .long dd, .int (nI ro), .ref m_rootWhich, .int db, .ref m_signs, .ref m_atNought, .int (nI mn), .ref m_change, .ref m_table, .ref m_carried])), (m_now, .inl (cy 0, 29, .inl nw))] H := hP9
    replace hD : va_D A [(ta, .inr (8, [.ref m_now, .ref m_undone, .ref m_slots, .ref m_slotKind, .ref m_hasSlot, .ref m_sheetBits, .ref m_sheetSize, .ref m_sheets, .int (nI u), .int fi, .ref m_fresh, .long aa, .long bb, .long dd, .int (nI ro), .ref m_rootWhich, .int db, .ref m_signs, .ref m_atNought, .int (nI mn), .ref m_change, .ref m_table, .ref m_carried])), (m_now, .inl (cy 0, 29, .inl nw))] := hD9
    replace hS := hS9
    clear hP9 hD9 hS9
    refine lv_goto (tgt := 24) hx hb dX8_number_15 (by decide) ?_
    exact J6 _ _ _ _ _ _ ((if_neg hc1).symm) ((if_neg hc1).symm) ((if_neg hc1).symm) hP hD hS (lv_sub hl [0, 1, 2] rfl)

def f_X8_speedAt (nw : Nat → Int32) (px : Int32) (py : Int32) (bq : Int32) : Int32 := ((((((f_X8_get nw bq 0) + ((f_X8_get nw bq 1) * px)) + ((f_X8_get nw bq 2) * py)) + (((f_X8_get nw bq 3) * px) * px)) + (((f_X8_get nw bq 4) * px) * py)) + (((f_X8_get nw bq 5) * py) * py))
set_option maxHeartbeats 400000000 in
set_option maxRecDepth 100000 in
theorem c_X8_speedAt (l : Launch) (D : va_G) (cy : Nat → ClassId) (ta : Nat) (m_now : Nat) (m_undone : Nat) (m_slots : Nat) (m_slotKind : Nat) (m_hasSlot : Nat) (m_sheetBits : Nat) (m_sheetSize : Nat) (m_sheets : Nat) (m_fresh : Nat) (m_rootWhich : Nat) (m_signs : Nat) (m_atNought : Nat) (m_change : Nat) (m_table : Nat) (m_carried : Nat) (nw : Nat → Int32) (u : Nat) (fi : Int32) (aa : Int64) (bb : Int64) (dd : Int64) (ro : Nat) (db : Int32) (mn : Nat) (px : Int32) (py : Int32) (bq : Int32) : yk_Ci l D vwCl (yk_ty cy) yX8_speedAt wsX8_speedAt 1 22 [.ref ta, .int px, .int py, .int bq] [(ta, .inr (8, [.ref m_now, .ref m_undone, .ref m_slots, .ref m_slotKind, .ref m_hasSlot, .ref m_sheetBits, .ref m_sheetSize, .ref m_sheets, .int (nI u), .int fi, .ref m_fresh, .long aa, .long bb, .long dd, .int (nI ro), .ref m_rootWhich, .int db, .ref m_signs, .ref m_atNought, .int (nI mn), .ref m_change, .ref m_table, .ref m_carried])), (m_now, .inl (cy 0, 29, .inl nw))] (f_X8_speedAt nw px py bq) [(ta, .inr (8, [.ref m_now, .ref m_undone, .ref m_slots, .ref m_slotKind, .ref m_hasSlot, .ref m_sheetBits, .ref m_sheetSize, .ref m_sheets, .int (nI u), .int fi, .ref m_fresh, .long aa, .long bb, .long dd, .int (nI ro), .ref m_rootWhich, .int db, .ref m_signs, .ref m_atNought, .int (nI mn), .ref m_change, .ref m_table, .ref m_carried])), (m_now, .inl (cy 0, 29, .inl nw))] := by
  refine yk_eI (cc := cX8_speedAt) (maxL := 4) (by decide) rfl (Nat.le_of_ble_eq_true rfl) rfl ?_
  intro p e R s m args below meth c A Q ls H locs hx hb hml hown hts hRf hRl hA hK hG hP hD hS hl hQ
  have hP : va_P D vwCl [(ta, .inr (8, [.ref m_now, .ref m_undone, .ref m_slots, .ref m_slotKind, .ref m_hasSlot, .ref m_sheetBits, .ref m_sheetSize, .ref m_sheets, .int (nI u), .int fi, .ref m_fresh, .long aa, .long bb, .long dd, .int (nI ro), .ref m_rootWhich, .int db, .ref m_signs, .ref m_atNought, .int (nI mn), .ref m_change, .ref m_table, .ref m_carried])), (m_now, .inl (cy 0, 29, .inl nw))] H := hP
  have hl : lv_has ls 4 [(0, .ref ta), (1, .int px), (2, .int py), (3, .int bq)] := hl
  have hown : s.vm.findClass RX8 = some m.cls := hown
  have hF : (f_X8_speedAt nw px py bq) = (f_X8_speedAt nw px py bq) := rfl
  refine lv_aload_n hx hb dX8_speedAt_0 rfl (lv_at hl 0 rfl) ?_
  refine lv_iload_n hx hb dX8_speedAt_1 rfl (lv_at hl 3 rfl) ?_
  refine lv_iconst (v := 0) hx hb dX8_speedAt_2 (by decide) ?_
  refine yk_i [0, 1] (va_runV (As := [.int bq, .int 0]) (rest := []) ⟨hx, hb, hml, hown, hts⟩ (c_X8_get l D cy ta m_now m_undone m_slots m_slotKind m_hasSlot m_sheetBits m_sheetSize m_sheets m_fresh m_rootWhich m_signs m_atNought m_change m_table m_carried nw u fi aa bb dd ro db mn bq 0 (by omega) H.size) (cwV 2 hts gX8_speedAt_X8_get rfl rfl rfl hv_X8_get (yk_room hRf hRl rfl rfl)) (yk_pv (q := (RX8, TX8, 23)) hG hA hS hK hP hD [0, 1] (by decide +kernel) rfl rfl rfl) rfl rfl hl.1 rfl (lv_room (Nat.le_of_ble_eq_true rfl)) dX8_speedAt_3 ⟨Nat.zero_le _, Nat.zero_le _⟩) hP hD hS hA rfl (Eq.trans (b := [ta, m_now]) rfl rfl) (fun H locs hP9 hD9 hS9 => ?_)
  replace hP : va_P D vwCl [(ta, .inr (8, [.ref m_now, .ref m_undone, .ref m_slots, .ref m_slotKind, .ref m_hasSlot, .ref m_sheetBits, .ref m_sheetSize, .ref m_sheets, .int (nI u), .int fi, .ref m_fresh, .long aa, .long bb, .long dd, .int (nI ro), .ref m_rootWhich, .int db, .ref m_signs, .ref m_atNought, .int (nI mn), .ref m_change, .ref m_table, .ref m_carried])), (m_now, .inl (cy 0, 29, .inl nw))] H := hP9
  replace hD : va_D A [(ta, .inr (8, [.ref m_now, .ref m_undone, .ref m_slots, .ref m_slotKind, .ref m_hasSlot, .ref m_sheetBits, .ref m_sheetSize, .ref m_sheets, .int (nI u), .int fi, .ref m_fresh, .long aa, .long bb, .long dd, .int (nI ro), .ref m_rootWhich, .int db, .ref m_signs, .ref m_atNought, .int (nI mn), .ref m_change, .ref m_table, .ref m_carried])), (m_now, .inl (cy 0, 29, .inl nw))] := hD9
  replace hS := hS9
  clear hP9 hD9 hS9
  refine lv_aload_n hx hb dX8_speedAt_6 rfl (lv_at hl 0 rfl) ?_
  refine lv_iload_n hx hb dX8_speedAt_7 rfl (lv_at hl 3 rfl) ?_
  refine lv_iconst (v := 1) hx hb dX8_speedAt_8 (by decide) ?_
  refine yk_i [0, 1] (va_runV (As := [.int bq, .int 1]) (rest := [.int (f_X8_get nw bq 0)]) ⟨hx, hb, hml, hown, hts⟩ (c_X8_get l D cy ta m_now m_undone m_slots m_slotKind m_hasSlot m_sheetBits m_sheetSize m_sheets m_fresh m_rootWhich m_signs m_atNought m_change m_table m_carried nw u fi aa bb dd ro db mn bq 1 (by omega) H.size) (cwV 2 hts gX8_speedAt_X8_get rfl rfl rfl hv_X8_get (yk_room hRf hRl rfl rfl)) (yk_pv (q := (RX8, TX8, 23)) hG hA hS hK hP hD [0, 1] (by decide +kernel) rfl rfl rfl) rfl rfl hl.1 rfl (lv_room (Nat.le_of_ble_eq_true rfl)) dX8_speedAt_9 ⟨Nat.zero_le _, Nat.zero_le _⟩) hP hD hS hA rfl (Eq.trans (b := [ta, m_now]) rfl rfl) (fun H locs hP9 hD9 hS9 => ?_)
  replace hP : va_P D vwCl [(ta, .inr (8, [.ref m_now, .ref m_undone, .ref m_slots, .ref m_slotKind, .ref m_hasSlot, .ref m_sheetBits, .ref m_sheetSize, .ref m_sheets, .int (nI u), .int fi, .ref m_fresh, .long aa, .long bb, .long dd, .int (nI ro), .ref m_rootWhich, .int db, .ref m_signs, .ref m_atNought, .int (nI mn), .ref m_change, .ref m_table, .ref m_carried])), (m_now, .inl (cy 0, 29, .inl nw))] H := hP9
  replace hD : va_D A [(ta, .inr (8, [.ref m_now, .ref m_undone, .ref m_slots, .ref m_slotKind, .ref m_hasSlot, .ref m_sheetBits, .ref m_sheetSize, .ref m_sheets, .int (nI u), .int fi, .ref m_fresh, .long aa, .long bb, .long dd, .int (nI ro), .ref m_rootWhich, .int db, .ref m_signs, .ref m_atNought, .int (nI mn), .ref m_change, .ref m_table, .ref m_carried])), (m_now, .inl (cy 0, 29, .inl nw))] := hD9
  replace hS := hS9
  clear hP9 hD9 hS9
  refine lv_iload_n hx hb dX8_speedAt_12 rfl (lv_at hl 1 rfl) ?_
  refine lv_imul hx hb dX8_speedAt_13 ?_
  refine lv_iadd hx hb dX8_speedAt_14 ?_
  refine lv_aload_n hx hb dX8_speedAt_15 rfl (lv_at hl 0 rfl) ?_
  refine lv_iload_n hx hb dX8_speedAt_16 rfl (lv_at hl 3 rfl) ?_
  refine lv_iconst (v := 2) hx hb dX8_speedAt_17 (by decide) ?_
  refine yk_i [0, 1] (va_runV (As := [.int bq, .int 2]) (rest := [.int ((f_X8_get nw bq 0) + ((f_X8_get nw bq 1) * px))]) ⟨hx, hb, hml, hown, hts⟩ (c_X8_get l D cy ta m_now m_undone m_slots m_slotKind m_hasSlot m_sheetBits m_sheetSize m_sheets m_fresh m_rootWhich m_signs m_atNought m_change m_table m_carried nw u fi aa bb dd ro db mn bq 2 (by omega) H.size) (cwV 2 hts gX8_speedAt_X8_get rfl rfl rfl hv_X8_get (yk_room hRf hRl rfl rfl)) (yk_pv (q := (RX8, TX8, 23)) hG hA hS hK hP hD [0, 1] (by decide +kernel) rfl rfl rfl) rfl rfl hl.1 rfl (lv_room (Nat.le_of_ble_eq_true rfl)) dX8_speedAt_18 ⟨Nat.zero_le _, Nat.zero_le _⟩) hP hD hS hA rfl (Eq.trans (b := [ta, m_now]) rfl rfl) (fun H locs hP9 hD9 hS9 => ?_)
  replace hP : va_P D vwCl [(ta, .inr (8, [.ref m_now, .ref m_undone, .ref m_slots, .ref m_slotKind, .ref m_hasSlot, .ref m_sheetBits, .ref m_sheetSize, .ref m_sheets, .int (nI u), .int fi, .ref m_fresh, .long aa, .long bb, .long dd, .int (nI ro), .ref m_rootWhich, .int db, .ref m_signs, .ref m_atNought, .int (nI mn), .ref m_change, .ref m_table, .ref m_carried])), (m_now, .inl (cy 0, 29, .inl nw))] H := hP9
  replace hD : va_D A [(ta, .inr (8, [.ref m_now, .ref m_undone, .ref m_slots, .ref m_slotKind, .ref m_hasSlot, .ref m_sheetBits, .ref m_sheetSize, .ref m_sheets, .int (nI u), .int fi, .ref m_fresh, .long aa, .long bb, .long dd, .int (nI ro), .ref m_rootWhich, .int db, .ref m_signs, .ref m_atNought, .int (nI mn), .ref m_change, .ref m_table, .ref m_carried])), (m_now, .inl (cy 0, 29, .inl nw))] := hD9
  replace hS := hS9
  clear hP9 hD9 hS9
  refine lv_iload_n hx hb dX8_speedAt_21 rfl (lv_at hl 2 rfl) ?_
  refine lv_imul hx hb dX8_speedAt_22 ?_
  refine lv_iadd hx hb dX8_speedAt_23 ?_
  refine lv_aload_n hx hb dX8_speedAt_24 rfl (lv_at hl 0 rfl) ?_
  refine lv_iload_n hx hb dX8_speedAt_25 rfl (lv_at hl 3 rfl) ?_
  refine lv_iconst (v := 3) hx hb dX8_speedAt_26 (by decide) ?_
  refine yk_i [0, 1] (va_runV (As := [.int bq, .int 3]) (rest := [.int (((f_X8_get nw bq 0) + ((f_X8_get nw bq 1) * px)) + ((f_X8_get nw bq 2) * py))]) ⟨hx, hb, hml, hown, hts⟩ (c_X8_get l D cy ta m_now m_undone m_slots m_slotKind m_hasSlot m_sheetBits m_sheetSize m_sheets m_fresh m_rootWhich m_signs m_atNought m_change m_table m_carried nw u fi aa bb dd ro db mn bq 3 (by omega) H.size) (cwV 2 hts gX8_speedAt_X8_get rfl rfl rfl hv_X8_get (yk_room hRf hRl rfl rfl)) (yk_pv (q := (RX8, TX8, 23)) hG hA hS hK hP hD [0, 1] (by decide +kernel) rfl rfl rfl) rfl rfl hl.1 rfl (lv_room (Nat.le_of_ble_eq_true rfl)) dX8_speedAt_27 ⟨Nat.zero_le _, Nat.zero_le _⟩) hP hD hS hA rfl (Eq.trans (b := [ta, m_now]) rfl rfl) (fun H locs hP9 hD9 hS9 => ?_)
  replace hP : va_P D vwCl [(ta, .inr (8, [.ref m_now, .ref m_undone, .ref m_slots, .ref m_slotKind, .ref m_hasSlot, .ref m_sheetBits, .ref m_sheetSize, .ref m_sheets, .int (nI u), .int fi, .ref m_fresh, .long aa, .long bb, .long dd, .int (nI ro), .ref m_rootWhich, .int db, .ref m_signs, .ref m_atNought, .int (nI mn), .ref m_change, .ref m_table, .ref m_carried])), (m_now, .inl (cy 0, 29, .inl nw))] H := hP9
  replace hD : va_D A [(ta, .inr (8, [.ref m_now, .ref m_undone, .ref m_slots, .ref m_slotKind, .ref m_hasSlot, .ref m_sheetBits, .ref m_sheetSize, .ref m_sheets, .int (nI u), .int fi, .ref m_fresh, .long aa, .long bb, .long dd, .int (nI ro), .ref m_rootWhich, .int db, .ref m_signs, .ref m_atNought, .int (nI mn), .ref m_change, .ref m_table, .ref m_carried])), (m_now, .inl (cy 0, 29, .inl nw))] := hD9
  replace hS := hS9
  clear hP9 hD9 hS9
  refine lv_iload_n hx hb dX8_speedAt_30 rfl (lv_at hl 1 rfl) ?_
  refine lv_imul hx hb dX8_speedAt_31 ?_
  refine lv_iload_n hx hb dX8_speedAt_32 rfl (lv_at hl 1 rfl) ?_
  refine lv_imul hx hb dX8_speedAt_33 ?_
  refine lv_iadd hx hb dX8_speedAt_34 ?_
  refine lv_aload_n hx hb dX8_speedAt_35 rfl (lv_at hl 0 rfl) ?_
  refine lv_iload_n hx hb dX8_speedAt_36 rfl (lv_at hl 3 rfl) ?_
  refine lv_iconst (v := 4) hx hb dX8_speedAt_37 (by decide) ?_
  refine yk_i [0, 1] (va_runV (As := [.int bq, .int 4]) (rest := [.int ((((f_X8_get nw bq 0) + ((f_X8_get nw bq 1) * px)) + ((f_X8_get nw bq 2) * py)) + (((f_X8_get nw bq 3) * px) * px))]) ⟨hx, hb, hml, hown, hts⟩ (c_X8_get l D cy ta m_now m_undone m_slots m_slotKind m_hasSlot m_sheetBits m_sheetSize m_sheets m_fresh m_rootWhich m_signs m_atNought m_change m_table m_carried nw u fi aa bb dd ro db mn bq 4 (by omega) H.size) (cwV 2 hts gX8_speedAt_X8_get rfl rfl rfl hv_X8_get (yk_room hRf hRl rfl rfl)) (yk_pv (q := (RX8, TX8, 23)) hG hA hS hK hP hD [0, 1] (by decide +kernel) rfl rfl rfl) rfl rfl hl.1 rfl (lv_room (Nat.le_of_ble_eq_true rfl)) dX8_speedAt_38 ⟨Nat.zero_le _, Nat.zero_le _⟩) hP hD hS hA rfl (Eq.trans (b := [ta, m_now]) rfl rfl) (fun H locs hP9 hD9 hS9 => ?_)
  replace hP : va_P D vwCl [(ta, .inr (8, [.ref m_now, .ref m_undone, .ref m_slots, .ref m_slotKind, .ref m_hasSlot, .ref m_sheetBits, .ref m_sheetSize, .ref m_sheets, .int (nI u), .int fi, .ref m_fresh, .long aa, .long bb, .long dd, .int (nI ro), .ref m_rootWhich, .int db, .ref m_signs, .ref m_atNought, .int (nI mn), .ref m_change, .ref m_table, .ref m_carried])), (m_now, .inl (cy 0, 29, .inl nw))] H := hP9
  replace hD : va_D A [(ta, .inr (8, [.ref m_now, .ref m_undone, .ref m_slots, .ref m_slotKind, .ref m_hasSlot, .ref m_sheetBits, .ref m_sheetSize, .ref m_sheets, .int (nI u), .int fi, .ref m_fresh, .long aa, .long bb, .long dd, .int (nI ro), .ref m_rootWhich, .int db, .ref m_signs, .ref m_atNought, .int (nI mn), .ref m_change, .ref m_table, .ref m_carried])), (m_now, .inl (cy 0, 29, .inl nw))] := hD9
  replace hS := hS9
  clear hP9 hD9 hS9
  refine lv_iload_n hx hb dX8_speedAt_41 rfl (lv_at hl 1 rfl) ?_
  refine lv_imul hx hb dX8_speedAt_42 ?_
  refine lv_iload_n hx hb dX8_speedAt_43 rfl (lv_at hl 2 rfl) ?_
  refine lv_imul hx hb dX8_speedAt_44 ?_
  refine lv_iadd hx hb dX8_speedAt_45 ?_
  refine lv_aload_n hx hb dX8_speedAt_46 rfl (lv_at hl 0 rfl) ?_
  refine lv_iload_n hx hb dX8_speedAt_47 rfl (lv_at hl 3 rfl) ?_
  refine lv_iconst (v := 5) hx hb dX8_speedAt_48 (by decide) ?_
  refine yk_i [0, 1] (va_runV (As := [.int bq, .int 5]) (rest := [.int (((((f_X8_get nw bq 0) + ((f_X8_get nw bq 1) * px)) + ((f_X8_get nw bq 2) * py)) + (((f_X8_get nw bq 3) * px) * px)) + (((f_X8_get nw bq 4) * px) * py))]) ⟨hx, hb, hml, hown, hts⟩ (c_X8_get l D cy ta m_now m_undone m_slots m_slotKind m_hasSlot m_sheetBits m_sheetSize m_sheets m_fresh m_rootWhich m_signs m_atNought m_change m_table m_carried nw u fi aa bb dd ro db mn bq 5 (by omega) H.size) (cwV 2 hts gX8_speedAt_X8_get rfl rfl rfl hv_X8_get (yk_room hRf hRl rfl rfl)) (yk_pv (q := (RX8, TX8, 23)) hG hA hS hK hP hD [0, 1] (by decide +kernel) rfl rfl rfl) rfl rfl hl.1 rfl (lv_room (Nat.le_of_ble_eq_true rfl)) dX8_speedAt_49 ⟨Nat.zero_le _, Nat.zero_le _⟩) hP hD hS hA rfl (Eq.trans (b := [ta, m_now]) rfl rfl) (fun H locs hP9 hD9 hS9 => ?_)
  replace hP : va_P D vwCl [(ta, .inr (8, [.ref m_now, .ref m_undone, .ref m_slots, .ref m_slotKind, .ref m_hasSlot, .ref m_sheetBits, .ref m_sheetSize, .ref m_sheets, .int (nI u), .int fi, .ref m_fresh, .long aa, .long bb, .long dd, .int (nI ro), .ref m_rootWhich, .int db, .ref m_signs, .ref m_atNought, .int (nI mn), .ref m_change, .ref m_table, .ref m_carried])), (m_now, .inl (cy 0, 29, .inl nw))] H := hP9
  replace hD : va_D A [(ta, .inr (8, [.ref m_now, .ref m_undone, .ref m_slots, .ref m_slotKind, .ref m_hasSlot, .ref m_sheetBits, .ref m_sheetSize, .ref m_sheets, .int (nI u), .int fi, .ref m_fresh, .long aa, .long bb, .long dd, .int (nI ro), .ref m_rootWhich, .int db, .ref m_signs, .ref m_atNought, .int (nI mn), .ref m_change, .ref m_table, .ref m_carried])), (m_now, .inl (cy 0, 29, .inl nw))] := hD9
  replace hS := hS9
  clear hP9 hD9 hS9
  refine lv_iload_n hx hb dX8_speedAt_52 rfl (lv_at hl 2 rfl) ?_
  refine lv_imul hx hb dX8_speedAt_53 ?_
  refine lv_iload_n hx hb dX8_speedAt_54 rfl (lv_at hl 2 rfl) ?_
  refine lv_imul hx hb dX8_speedAt_55 ?_
  refine lv_iadd hx hb dX8_speedAt_56 ?_
  have hF : f_X8_speedAt nw px py bq = ((((((f_X8_get nw bq 0) + ((f_X8_get nw bq 1) * px)) + ((f_X8_get nw bq 2) * py)) + (((f_X8_get nw bq 3) * px) * px)) + (((f_X8_get nw bq 4) * px) * py)) + (((f_X8_get nw bq 5) * py) * py)) := hF
  rw [hF] at hQ
  exact hQ _ _ _ _ dX8_speedAt_57 hP hS

theorem kX8_speed_0 : Cond.constant RX8 68 (-1000001) ∈ wsX8_speed := by decide +kernel
def f_X8_speed (nw : Nat → Int32) (fi : Int32) (px : Int32) (py : Int32) (bq : Int32) : Int32 × Int32 := ((if (f_X8_isPlace px py) = 0 then (f_X8_found fi (-1000001)).1 else (f_X8_speedAt nw px py bq)), (if (f_X8_isPlace px py) = 0 then (f_X8_found fi (-1000001)).2 else fi))
set_option maxHeartbeats 400000000 in
set_option maxRecDepth 100000 in
theorem c_X8_speed (l : Launch) (D : va_G) (cy : Nat → ClassId) (ta : Nat) (m_now : Nat) (m_undone : Nat) (m_slots : Nat) (m_slotKind : Nat) (m_hasSlot : Nat) (m_sheetBits : Nat) (m_sheetSize : Nat) (m_sheets : Nat) (m_fresh : Nat) (m_rootWhich : Nat) (m_signs : Nat) (m_atNought : Nat) (m_change : Nat) (m_table : Nat) (m_carried : Nat) (nw : Nat → Int32) (u : Nat) (fi : Int32) (aa : Int64) (bb : Int64) (dd : Int64) (ro : Nat) (db : Int32) (mn : Nat) (px : Int32) (py : Int32) (bq : Int32) : yk_Ci l D vwCl (yk_ty cy) yX8_speed wsX8_speed 2 45 [.ref ta, .int px, .int py, .int bq] [(ta, .inr (8, [.ref m_now, .ref m_undone, .ref m_slots, .ref m_slotKind, .ref m_hasSlot, .ref m_sheetBits, .ref m_sheetSize, .ref m_sheets, .int (nI u), .int fi, .ref m_fresh, .long aa, .long bb, .long dd, .int (nI ro), .ref m_rootWhich, .int db, .ref m_signs, .ref m_atNought, .int (nI mn), .ref m_change, .ref m_table, .ref m_carried])), (m_now, .inl (cy 0, 29, .inl nw))] ((f_X8_speed nw fi px py bq).1) [(ta, .inr (8, [.ref m_now, .ref m_undone, .ref m_slots, .ref m_slotKind, .ref m_hasSlot, .ref m_sheetBits, .ref m_sheetSize, .ref m_sheets, .int (nI u), .int ((f_X8_speed nw fi px py bq).2), .ref m_fresh, .long aa, .long bb, .long dd, .int (nI ro), .ref m_rootWhich, .int db, .ref m_signs, .ref m_atNought, .int (nI mn), .ref m_change, .ref m_table, .ref m_carried])), (m_now, .inl (cy 0, 29, .inl nw))] := by
  refine yk_eI (cc := cX8_speed) (maxL := 4) (by decide) rfl (Nat.le_of_ble_eq_true rfl) rfl ?_
  intro p e R s m args below meth c A Q ls H locs hx hb hml hown hts hRf hRl hA hK hG hP hD hS hl hQ
  have hP : va_P D vwCl [(ta, .inr (8, [.ref m_now, .ref m_undone, .ref m_slots, .ref m_slotKind, .ref m_hasSlot, .ref m_sheetBits, .ref m_sheetSize, .ref m_sheets, .int (nI u), .int fi, .ref m_fresh, .long aa, .long bb, .long dd, .int (nI ro), .ref m_rootWhich, .int db, .ref m_signs, .ref m_atNought, .int (nI mn), .ref m_change, .ref m_table, .ref m_carried])), (m_now, .inl (cy 0, 29, .inl nw))] H := hP
  have hl : lv_has ls 4 [(0, .ref ta), (1, .int px), (2, .int py), (3, .int bq)] := hl
  have hown : s.vm.findClass RX8 = some m.cls := hown
  have hF : (f_X8_speed nw fi px py bq) = (f_X8_speed nw fi px py bq) := rfl
  refine lv_iload_n hx hb dX8_speed_0 rfl (lv_at hl 1 rfl) ?_
  refine lv_iload_n hx hb dX8_speed_1 rfl (lv_at hl 2 rfl) ?_
  refine yk_i [] (va_runS (As := [.int px, .int py]) (rest := []) ⟨hx, hb, hml, hown, hts⟩ (c_X8_isPlace l D cy px py H.size) (va_cwS 2 hts gX8_speed_X8_isPlace rfl rfl rfl hs_X8_isPlace (yk_room hRf hRl rfl rfl)) (yk_ps hG hA hS hK hP hD [] (by decide +kernel) rfl) rfl rfl hl.1 rfl (lv_room (Nat.le_of_ble_eq_true rfl)) dX8_speed_2 ⟨Nat.zero_le _, Nat.zero_le _⟩) hP hD hS hA rfl rfl (fun H locs hP9 hD9 hS9 => ?_)
  replace hP : va_P D vwCl [(ta, .inr (8, [.ref m_now, .ref m_undone, .ref m_slots, .ref m_slotKind, .ref m_hasSlot, .ref m_sheetBits, .ref m_sheetSize, .ref m_sheets, .int (nI u), .int fi, .ref m_fresh, .long aa, .long bb, .long dd, .int (nI ro), .ref m_rootWhich, .int db, .ref m_signs, .ref m_atNought, .int (nI mn), .ref m_change, .ref m_table, .ref m_carried])), (m_now, .inl (cy 0, 29, .inl nw))] H := hP9
  replace hD : va_D A [(ta, .inr (8, [.ref m_now, .ref m_undone, .ref m_slots, .ref m_slotKind, .ref m_hasSlot, .ref m_sheetBits, .ref m_sheetSize, .ref m_sheets, .int (nI u), .int fi, .ref m_fresh, .long aa, .long bb, .long dd, .int (nI ro), .ref m_rootWhich, .int db, .ref m_signs, .ref m_atNought, .int (nI mn), .ref m_change, .ref m_table, .ref m_carried])), (m_now, .inl (cy 0, 29, .inl nw))] := hD9
  replace hS := hS9
  clear hP9 hD9 hS9
  have J4 : ∀ (v2 : Int32) (v3 : Int32) (H : Heap) (locs : List Loc) (ls : Array Slot), v2 = (if (f_X8_isPlace px py) = 0 then (f_X8_found fi (-1000001)).2 else fi) → v3 = (if (f_X8_isPlace px py) = 0 then (f_X8_found fi (-1000001)).1 else (f_X8_speedAt nw px py bq)) → va_P D vwCl [(ta, .inr (8, [.ref m_now, .ref m_undone, .ref m_slots, .ref m_slotKind, .ref m_hasSlot, .ref m_sheetBits, .ref m_sheetSize, .ref m_sheets, .int (nI u), .int v2, .ref m_fresh, .long aa, .long bb, .long dd, .int (nI ro), .ref m_rootWhich, .int db, .ref m_signs, .ref m_atNought, .int (nI mn), .ref m_change, .ref m_table, .ref m_carried])), (m_now, .inl (cy 0, 29, .inl nw))] H → va_D A [(ta, .inr (8, [.ref m_now, .ref m_undone, .ref m_slots, .ref m_slotKind, .ref m_hasSlot, .ref m_sheetBits, .ref m_sheetSize, .ref m_sheets, .int (nI u), .int v2, .ref m_fresh, .long aa, .long bb, .long dd, .int (nI ro), .ref m_rootWhich, .int db, .ref m_signs, .ref m_atNought, .int (nI mn), .ref m_change, .ref m_table, .ref m_carried])), (m_now, .inl (cy 0, 29, .inl nw))] → va_S A s.heap H locs → lv_has ls 4 [(0, .ref ta), (1, .int px), (2, .int py), (3, .int bq)] → W p l e R s m args below meth c H locs 0 0 Q (F0 m 24 ls [.int v3]) := by
    clear hP hD hS hl
    intro v2 v3 H locs ls ev2 ev3
    rw [ev2, ev3]
    clear ev2
    clear ev3
    intro hP hD hS hl
    have hF : f_X8_speed nw fi px py bq = ((if (f_X8_isPlace px py) = 0 then (f_X8_found fi (-1000001)).1 else (f_X8_speedAt nw px py bq)), (if (f_X8_isPlace px py) = 0 then (f_X8_found fi (-1000001)).2 else fi)) := hF
    have hf0 := yk_fst hF
    have hg0 := yk_snd hF
    rw [hf0, hg0] at hQ
    exact hQ _ _ _ _ dX8_speed_24 hP hS
  refine lv_if_eq (tgt := 18) hx hb dX8_speed_5 (by decide) (fun hc1 => ?_) (fun hc1 => ?_)
  · refine lv_aload_n hx hb dX8_speed_18 rfl (lv_at hl 0 rfl) ?_
    refine lv_ldc (v := (-1000001)) hx hb hown (hts _ kX8_speed_0) dX8_speed_19 ?_
    refine yk_i [0] (va_runV (As := [.int (-1000001)]) (rest := []) ⟨hx, hb, hml, hown, hts⟩ (c_X8_found l D cy ta m_now m_undone m_slots m_slotKind m_hasSlot m_sheetBits m_sheetSize m_sheets m_fresh m_rootWhich m_signs m_atNought m_change m_table m_carried u fi aa bb dd ro db mn (-1000001) H.size) (cwV 1 hts gX8_speed_X8_found rfl rfl rfl hv_X8_found (yk_room hRf hRl rfl rfl)) (yk_pv (q := (RX8, TX8, 23)) hG hA hS hK hP hD [0] (by decide +kernel) rfl rfl rfl) rfl rfl hl.1 rfl (lv_room (Nat.le_of_ble_eq_true rfl)) dX8_speed_21 ⟨Nat.zero_le _, Nat.zero_le _⟩) hP hD hS hA rfl (Eq.trans (b := [ta]) rfl rfl) (fun H locs hP9 hD9 hS9 => ?_)
    replace hP : va_P D vwCl [(ta, .inr (8, [.ref m_now, .ref m_undone, .ref m_slots, .ref m_slotKind, .ref m_hasSlot, .ref m_sheetBits, .ref m_sheetSize, .ref m_sheets, .int (nI u), .int ((f_X8_found fi (-1000001)).2), .ref m_fresh, .long aa, .long bb, .long dd, .int (nI ro), .ref m_rootWhich, .int db, .ref m_signs, .ref m_atNought, .int (nI mn), .ref m_change, .ref m_table, .ref m_carried])), (m_now, .inl (cy 0, 29, .inl nw))] H := hP9
    replace hD : va_D A [(ta, .inr (8, [.ref m_now, .ref m_undone, .ref m_slots, .ref m_slotKind, .ref m_hasSlot, .ref m_sheetBits, .ref m_sheetSize, .ref m_sheets, .int (nI u), .int ((f_X8_found fi (-1000001)).2), .ref m_fresh, .long aa, .long bb, .long dd, .int (nI ro), .ref m_rootWhich, .int db, .ref m_signs, .ref m_atNought, .int (nI mn), .ref m_change, .ref m_table, .ref m_carried])), (m_now, .inl (cy 0, 29, .inl nw))] := hD9
    replace hS := hS9
    clear hP9 hD9 hS9
    exact J4 _ _ _ _ _ ((if_pos hc1).symm) ((if_pos hc1).symm) hP hD hS (lv_sub hl [0, 1, 2, 3] rfl)
  · refine lv_aload_n hx hb dX8_speed_8 rfl (lv_at hl 0 rfl) ?_
    refine lv_iload_n hx hb dX8_speed_9 rfl (lv_at hl 1 rfl) ?_
    refine lv_iload_n hx hb dX8_speed_10 rfl (lv_at hl 2 rfl) ?_
    refine lv_iload_n hx hb dX8_speed_11 rfl (lv_at hl 3 rfl) ?_
    refine yk_i [0, 1] (va_runV (As := [.int px, .int py, .int bq]) (rest := []) ⟨hx, hb, hml, hown, hts⟩ (c_X8_speedAt l D cy ta m_now m_undone m_slots m_slotKind m_hasSlot m_sheetBits m_sheetSize m_sheets m_fresh m_rootWhich m_signs m_atNought m_change m_table m_carried nw u fi aa bb dd ro db mn px py bq H.size) (cwV 3 hts gX8_speed_X8_speedAt rfl rfl rfl hv_X8_speedAt (yk_room hRf hRl rfl rfl)) (yk_pv (q := (RX8, TX8, 23)) hG hA hS hK hP hD [0, 1] (by decide +kernel) rfl rfl rfl) rfl rfl hl.1 rfl (lv_room (Nat.le_of_ble_eq_true rfl)) dX8_speed_12 ⟨Nat.zero_le _, Nat.zero_le _⟩) hP hD hS hA rfl (Eq.trans (b := [ta, m_now]) rfl rfl) (fun H locs hP9 hD9 hS9 => ?_)
    replace hP : va_P D vwCl [(ta, .inr (8, [.ref m_now, .ref m_undone, .ref m_slots, .ref m_slotKind, .ref m_hasSlot, .ref m_sheetBits, .ref m_sheetSize, .ref m_sheets, .int (nI u), .int fi, .ref m_fresh, .long aa, .long bb, .long dd, .int (nI ro), .ref m_rootWhich, .int db, .ref m_signs, .ref m_atNought, .int (nI mn), .ref m_change, .ref m_table, .ref m_carried])), (m_now, .inl (cy 0, 29, .inl nw))] H := hP9
    replace hD : va_D A [(ta, .inr (8, [.ref m_now, .ref m_undone, .ref m_slots, .ref m_slotKind, .ref m_hasSlot, .ref m_sheetBits, .ref m_sheetSize, .ref m_sheets, .int (nI u), .int fi, .ref m_fresh, .long aa, .long bb, .long dd, .int (nI ro), .ref m_rootWhich, .int db, .ref m_signs, .ref m_atNought, .int (nI mn), .ref m_change, .ref m_table, .ref m_carried])), (m_now, .inl (cy 0, 29, .inl nw))] := hD9
    replace hS := hS9
    clear hP9 hD9 hS9
    refine lv_goto (tgt := 24) hx hb dX8_speed_15 (by decide) ?_
    exact J4 _ _ _ _ _ ((if_neg hc1).symm) ((if_neg hc1).symm) hP hD hS (lv_sub hl [0, 1, 2, 3] rfl)

def f_X8_slopeAt (nw : Nat → Int32) (px : Int32) (py : Int32) (bq : Int32) (bz : Int32) : Int32 := (if bz = 0 then (((f_X8_get nw bq 1) + ((2 * (f_X8_get nw bq 3)) * px)) + ((f_X8_get nw bq 4) * py)) else (((f_X8_get nw bq 2) + ((f_X8_get nw bq 4) * px)) + ((2 * (f_X8_get nw bq 5)) * py)))
set_option maxHeartbeats 400000000 in
set_option maxRecDepth 100000 in
theorem c_X8_slopeAt (l : Launch) (D : va_G) (cy : Nat → ClassId) (ta : Nat) (m_now : Nat) (m_undone : Nat) (m_slots : Nat) (m_slotKind : Nat) (m_hasSlot : Nat) (m_sheetBits : Nat) (m_sheetSize : Nat) (m_sheets : Nat) (m_fresh : Nat) (m_rootWhich : Nat) (m_signs : Nat) (m_atNought : Nat) (m_change : Nat) (m_table : Nat) (m_carried : Nat) (nw : Nat → Int32) (u : Nat) (fi : Int32) (aa : Int64) (bb : Int64) (dd : Int64) (ro : Nat) (db : Int32) (mn : Nat) (px : Int32) (py : Int32) (bq : Int32) (bz : Int32) : yk_Ci l D vwCl (yk_ty cy) yX8_slopeAt wsX8_slopeAt 1 22 [.ref ta, .int px, .int py, .int bq, .int bz] [(ta, .inr (8, [.ref m_now, .ref m_undone, .ref m_slots, .ref m_slotKind, .ref m_hasSlot, .ref m_sheetBits, .ref m_sheetSize, .ref m_sheets, .int (nI u), .int fi, .ref m_fresh, .long aa, .long bb, .long dd, .int (nI ro), .ref m_rootWhich, .int db, .ref m_signs, .ref m_atNought, .int (nI mn), .ref m_change, .ref m_table, .ref m_carried])), (m_now, .inl (cy 0, 29, .inl nw))] (f_X8_slopeAt nw px py bq bz) [(ta, .inr (8, [.ref m_now, .ref m_undone, .ref m_slots, .ref m_slotKind, .ref m_hasSlot, .ref m_sheetBits, .ref m_sheetSize, .ref m_sheets, .int (nI u), .int fi, .ref m_fresh, .long aa, .long bb, .long dd, .int (nI ro), .ref m_rootWhich, .int db, .ref m_signs, .ref m_atNought, .int (nI mn), .ref m_change, .ref m_table, .ref m_carried])), (m_now, .inl (cy 0, 29, .inl nw))] := by
  refine yk_eI (cc := cX8_slopeAt) (maxL := 5) (by decide) rfl (Nat.le_of_ble_eq_true rfl) rfl ?_
  intro p e R s m args below meth c A Q ls H locs hx hb hml hown hts hRf hRl hA hK hG hP hD hS hl hQ
  have hP : va_P D vwCl [(ta, .inr (8, [.ref m_now, .ref m_undone, .ref m_slots, .ref m_slotKind, .ref m_hasSlot, .ref m_sheetBits, .ref m_sheetSize, .ref m_sheets, .int (nI u), .int fi, .ref m_fresh, .long aa, .long bb, .long dd, .int (nI ro), .ref m_rootWhich, .int db, .ref m_signs, .ref m_atNought, .int (nI mn), .ref m_change, .ref m_table, .ref m_carried])), (m_now, .inl (cy 0, 29, .inl nw))] H := hP
  have hl : lv_has ls 5 [(0, .ref ta), (1, .int px), (2, .int py), (3, .int bq), (4, .int bz)] := hl
  have hown : s.vm.findClass RX8 = some m.cls := hown
  have hF : (f_X8_slopeAt nw px py bq bz) = (f_X8_slopeAt nw px py bq bz) := rfl
  refine lv_iload hx hb dX8_slopeAt_0 (lv_at hl 4 rfl) ?_
  have J3 : ∀ (v2 : Int32) (H : Heap) (locs : List Loc) (ls : Array Slot), v2 = (if bz = 0 then (((f_X8_get nw bq 1) + ((2 * (f_X8_get nw bq 3)) * px)) + ((f_X8_get nw bq 4) * py)) else (((f_X8_get nw bq 2) + ((f_X8_get nw bq 4) * px)) + ((2 * (f_X8_get nw bq 5)) * py))) → va_P D vwCl [(ta, .inr (8, [.ref m_now, .ref m_undone, .ref m_slots, .ref m_slotKind, .ref m_hasSlot, .ref m_sheetBits, .ref m_sheetSize, .ref m_sheets, .int (nI u), .int fi, .ref m_fresh, .long aa, .long bb, .long dd, .int (nI ro), .ref m_rootWhich, .int db, .ref m_signs, .ref m_atNought, .int (nI mn), .ref m_change, .ref m_table, .ref m_carried])), (m_now, .inl (cy 0, 29, .inl nw))] H → va_D A [(ta, .inr (8, [.ref m_now, .ref m_undone, .ref m_slots, .ref m_slotKind, .ref m_hasSlot, .ref m_sheetBits, .ref m_sheetSize, .ref m_sheets, .int (nI u), .int fi, .ref m_fresh, .long aa, .long bb, .long dd, .int (nI ro), .ref m_rootWhich, .int db, .ref m_signs, .ref m_atNought, .int (nI mn), .ref m_change, .ref m_table, .ref m_carried])), (m_now, .inl (cy 0, 29, .inl nw))] → va_S A s.heap H locs → lv_has ls 5 [(0, .ref ta), (1, .int px), (2, .int py), (3, .int bq), (4, .int bz)] → W p l e R s m args below meth c H locs 0 0 Q (F0 m 60 ls [.int v2]) := by
    clear hP hD hS hl
    intro v2 H locs ls ev2
    rw [ev2]
    clear ev2
    intro hP hD hS hl
    have hF : f_X8_slopeAt nw px py bq bz = (if bz = 0 then (((f_X8_get nw bq 1) + ((2 * (f_X8_get nw bq 3)) * px)) + ((f_X8_get nw bq 4) * py)) else (((f_X8_get nw bq 2) + ((f_X8_get nw bq 4) * px)) + ((2 * (f_X8_get nw bq 5)) * py))) := hF
    rw [hF] at hQ
    exact hQ _ _ _ _ dX8_slopeAt_60 hP hS
  refine lv_if_eq (tgt := 34) hx hb dX8_slopeAt_2 (by decide) (fun hc1 => ?_) (fun hc1 => ?_)
  · refine lv_aload_n hx hb dX8_slopeAt_34 rfl (lv_at hl 0 rfl) ?_
    refine lv_iload_n hx hb dX8_slopeAt_35 rfl (lv_at hl 3 rfl) ?_
    refine lv_iconst (v := 1) hx hb dX8_slopeAt_36 (by decide) ?_
    refine yk_i [0, 1] (va_runV (As := [.int bq, .int 1]) (rest := []) ⟨hx, hb, hml, hown, hts⟩ (c_X8_get l D cy ta m_now m_undone m_slots m_slotKind m_hasSlot m_sheetBits m_sheetSize m_sheets m_fresh m_rootWhich m_signs m_atNought m_change m_table m_carried nw u fi aa bb dd ro db mn bq 1 (by omega) H.size) (cwV 2 hts gX8_slopeAt_X8_get rfl rfl rfl hv_X8_get (yk_room hRf hRl rfl rfl)) (yk_pv (q := (RX8, TX8, 23)) hG hA hS hK hP hD [0, 1] (by decide +kernel) rfl rfl rfl) rfl rfl hl.1 rfl (lv_room (Nat.le_of_ble_eq_true rfl)) dX8_slopeAt_37 ⟨Nat.zero_le _, Nat.zero_le _⟩) hP hD hS hA rfl (Eq.trans (b := [ta, m_now]) rfl rfl) (fun H locs hP9 hD9 hS9 => ?_)
    replace hP : va_P D vwCl [(ta, .inr (8, [.ref m_now, .ref m_undone, .ref m_slots, .ref m_slotKind, .ref m_hasSlot, .ref m_sheetBits, .ref m_sheetSize, .ref m_sheets, .int (nI u), .int fi, .ref m_fresh, .long aa, .long bb, .long dd, .int (nI ro), .ref m_rootWhich, .int db, .ref m_signs, .ref m_atNought, .int (nI mn), .ref m_change, .ref m_table, .ref m_carried])), (m_now, .inl (cy 0, 29, .inl nw))] H := hP9
    replace hD : va_D A [(ta, .inr (8, [.ref m_now, .ref m_undone, .ref m_slots, .ref m_slotKind, .ref m_hasSlot, .ref m_sheetBits, .ref m_sheetSize, .ref m_sheets, .int (nI u), .int fi, .ref m_fresh, .long aa, .long bb, .long dd, .int (nI ro), .ref m_rootWhich, .int db, .ref m_signs, .ref m_atNought, .int (nI mn), .ref m_change, .ref m_table, .ref m_carried])), (m_now, .inl (cy 0, 29, .inl nw))] := hD9
    replace hS := hS9
    clear hP9 hD9 hS9
    refine lv_iconst (v := 2) hx hb dX8_slopeAt_40 (by decide) ?_
    refine lv_aload_n hx hb dX8_slopeAt_41 rfl (lv_at hl 0 rfl) ?_
    refine lv_iload_n hx hb dX8_slopeAt_42 rfl (lv_at hl 3 rfl) ?_
    refine lv_iconst (v := 3) hx hb dX8_slopeAt_43 (by decide) ?_
    refine yk_i [0, 1] (va_runV (As := [.int bq, .int 3]) (rest := [.int 2, .int (f_X8_get nw bq 1)]) ⟨hx, hb, hml, hown, hts⟩ (c_X8_get l D cy ta m_now m_undone m_slots m_slotKind m_hasSlot m_sheetBits m_sheetSize m_sheets m_fresh m_rootWhich m_signs m_atNought m_change m_table m_carried nw u fi aa bb dd ro db mn bq 3 (by omega) H.size) (cwV 2 hts gX8_slopeAt_X8_get rfl rfl rfl hv_X8_get (yk_room hRf hRl rfl rfl)) (yk_pv (q := (RX8, TX8, 23)) hG hA hS hK hP hD [0, 1] (by decide +kernel) rfl rfl rfl) rfl rfl hl.1 rfl (lv_room (Nat.le_of_ble_eq_true rfl)) dX8_slopeAt_44 ⟨Nat.zero_le _, Nat.zero_le _⟩) hP hD hS hA rfl (Eq.trans (b := [ta, m_now]) rfl rfl) (fun H locs hP9 hD9 hS9 => ?_)
    replace hP : va_P D vwCl [(ta, .inr (8, [.ref m_now, .ref m_undone, .ref m_slots, .ref m_slotKind, .ref m_hasSlot, .ref m_sheetBits, .ref m_sheetSize, .ref m_sheets, .int (nI u), .int fi, .ref m_fresh, .long aa, .long bb, .long dd, .int (nI ro), .ref m_rootWhich, .int db, .ref m_signs, .ref m_atNought, .int (nI mn), .ref m_change, .ref m_table, .ref m_carried])), (m_now, .inl (cy 0, 29, .inl nw))] H := hP9
    replace hD : va_D A [(ta, .inr (8, [.ref m_now, .ref m_undone, .ref m_slots, .ref m_slotKind, .ref m_hasSlot, .ref m_sheetBits, .ref m_sheetSize, .ref m_sheets, .int (nI u), .int fi, .ref m_fresh, .long aa, .long bb, .long dd, .int (nI ro), .ref m_rootWhich, .int db, .ref m_signs, .ref m_atNought, .int (nI mn), .ref m_change, .ref m_table, .ref m_carried])), (m_now, .inl (cy 0, 29, .inl nw))] := hD9
    replace hS := hS9
    clear hP9 hD9 hS9
    refine lv_imul hx hb dX8_slopeAt_47 ?_
    refine lv_iload_n hx hb dX8_slopeAt_48 rfl (lv_at hl 1 rfl) ?_
    refine lv_imul hx hb dX8_slopeAt_49 ?_
    refine lv_iadd hx hb dX8_slopeAt_50 ?_
    refine lv_aload_n hx hb dX8_slopeAt_51 rfl (lv_at hl 0 rfl) ?_
    refine lv_iload_n hx hb dX8_slopeAt_52 rfl (lv_at hl 3 rfl) ?_
    refine lv_iconst (v := 4) hx hb dX8_slopeAt_53 (by decide) ?_
    refine yk_i [0, 1] (va_runV (As := [.int bq, .int 4]) (rest := [.int ((f_X8_get nw bq 1) + ((2 * (f_X8_get nw bq 3)) * px))]) ⟨hx, hb, hml, hown, hts⟩ (c_X8_get l D cy ta m_now m_undone m_slots m_slotKind m_hasSlot m_sheetBits m_sheetSize m_sheets m_fresh m_rootWhich m_signs m_atNought m_change m_table m_carried nw u fi aa bb dd ro db mn bq 4 (by omega) H.size) (cwV 2 hts gX8_slopeAt_X8_get rfl rfl rfl hv_X8_get (yk_room hRf hRl rfl rfl)) (yk_pv (q := (RX8, TX8, 23)) hG hA hS hK hP hD [0, 1] (by decide +kernel) rfl rfl rfl) rfl rfl hl.1 rfl (lv_room (Nat.le_of_ble_eq_true rfl)) dX8_slopeAt_54 ⟨Nat.zero_le _, Nat.zero_le _⟩) hP hD hS hA rfl (Eq.trans (b := [ta, m_now]) rfl rfl) (fun H locs hP9 hD9 hS9 => ?_)
    replace hP : va_P D vwCl [(ta, .inr (8, [.ref m_now, .ref m_undone, .ref m_slots, .ref m_slotKind, .ref m_hasSlot, .ref m_sheetBits, .ref m_sheetSize, .ref m_sheets, .int (nI u), .int fi, .ref m_fresh, .long aa, .long bb, .long dd, .int (nI ro), .ref m_rootWhich, .int db, .ref m_signs, .ref m_atNought, .int (nI mn), .ref m_change, .ref m_table, .ref m_carried])), (m_now, .inl (cy 0, 29, .inl nw))] H := hP9
    replace hD : va_D A [(ta, .inr (8, [.ref m_now, .ref m_undone, .ref m_slots, .ref m_slotKind, .ref m_hasSlot, .ref m_sheetBits, .ref m_sheetSize, .ref m_sheets, .int (nI u), .int fi, .ref m_fresh, .long aa, .long bb, .long dd, .int (nI ro), .ref m_rootWhich, .int db, .ref m_signs, .ref m_atNought, .int (nI mn), .ref m_change, .ref m_table, .ref m_carried])), (m_now, .inl (cy 0, 29, .inl nw))] := hD9
    replace hS := hS9
    clear hP9 hD9 hS9
    refine lv_iload_n hx hb dX8_slopeAt_57 rfl (lv_at hl 2 rfl) ?_
    refine lv_imul hx hb dX8_slopeAt_58 ?_
    refine lv_iadd hx hb dX8_slopeAt_59 ?_
    exact J3 _ _ _ _ ((if_pos hc1).symm) hP hD hS (lv_sub hl [0, 1, 2, 3, 4] rfl)
  · refine lv_aload_n hx hb dX8_slopeAt_5 rfl (lv_at hl 0 rfl) ?_
    refine lv_iload_n hx hb dX8_slopeAt_6 rfl (lv_at hl 3 rfl) ?_
    refine lv_iconst (v := 2) hx hb dX8_slopeAt_7 (by decide) ?_
    refine yk_i [0, 1] (va_runV (As := [.int bq, .int 2]) (rest := []) ⟨hx, hb, hml, hown, hts⟩ (c_X8_get l D cy ta m_now m_undone m_slots m_slotKind m_hasSlot m_sheetBits m_sheetSize m_sheets m_fresh m_rootWhich m_signs m_atNought m_change m_table m_carried nw u fi aa bb dd ro db mn bq 2 (by omega) H.size) (cwV 2 hts gX8_slopeAt_X8_get rfl rfl rfl hv_X8_get (yk_room hRf hRl rfl rfl)) (yk_pv (q := (RX8, TX8, 23)) hG hA hS hK hP hD [0, 1] (by decide +kernel) rfl rfl rfl) rfl rfl hl.1 rfl (lv_room (Nat.le_of_ble_eq_true rfl)) dX8_slopeAt_8 ⟨Nat.zero_le _, Nat.zero_le _⟩) hP hD hS hA rfl (Eq.trans (b := [ta, m_now]) rfl rfl) (fun H locs hP9 hD9 hS9 => ?_)
    replace hP : va_P D vwCl [(ta, .inr (8, [.ref m_now, .ref m_undone, .ref m_slots, .ref m_slotKind, .ref m_hasSlot, .ref m_sheetBits, .ref m_sheetSize, .ref m_sheets, .int (nI u), .int fi, .ref m_fresh, .long aa, .long bb, .long dd, .int (nI ro), .ref m_rootWhich, .int db, .ref m_signs, .ref m_atNought, .int (nI mn), .ref m_change, .ref m_table, .ref m_carried])), (m_now, .inl (cy 0, 29, .inl nw))] H := hP9
    replace hD : va_D A [(ta, .inr (8, [.ref m_now, .ref m_undone, .ref m_slots, .ref m_slotKind, .ref m_hasSlot, .ref m_sheetBits, .ref m_sheetSize, .ref m_sheets, .int (nI u), .int fi, .ref m_fresh, .long aa, .long bb, .long dd, .int (nI ro), .ref m_rootWhich, .int db, .ref m_signs, .ref m_atNought, .int (nI mn), .ref m_change, .ref m_table, .ref m_carried])), (m_now, .inl (cy 0, 29, .inl nw))] := hD9
    replace hS := hS9
    clear hP9 hD9 hS9
    refine lv_aload_n hx hb dX8_slopeAt_11 rfl (lv_at hl 0 rfl) ?_
    refine lv_iload_n hx hb dX8_slopeAt_12 rfl (lv_at hl 3 rfl) ?_
    refine lv_iconst (v := 4) hx hb dX8_slopeAt_13 (by decide) ?_
    refine yk_i [0, 1] (va_runV (As := [.int bq, .int 4]) (rest := [.int (f_X8_get nw bq 2)]) ⟨hx, hb, hml, hown, hts⟩ (c_X8_get l D cy ta m_now m_undone m_slots m_slotKind m_hasSlot m_sheetBits m_sheetSize m_sheets m_fresh m_rootWhich m_signs m_atNought m_change m_table m_carried nw u fi aa bb dd ro db mn bq 4 (by omega) H.size) (cwV 2 hts gX8_slopeAt_X8_get rfl rfl rfl hv_X8_get (yk_room hRf hRl rfl rfl)) (yk_pv (q := (RX8, TX8, 23)) hG hA hS hK hP hD [0, 1] (by decide +kernel) rfl rfl rfl) rfl rfl hl.1 rfl (lv_room (Nat.le_of_ble_eq_true rfl)) dX8_slopeAt_14 ⟨Nat.zero_le _, Nat.zero_le _⟩) hP hD hS hA rfl (Eq.trans (b := [ta, m_now]) rfl rfl) (fun H locs hP9 hD9 hS9 => ?_)
    replace hP : va_P D vwCl [(ta, .inr (8, [.ref m_now, .ref m_undone, .ref m_slots, .ref m_slotKind, .ref m_hasSlot, .ref m_sheetBits, .ref m_sheetSize, .ref m_sheets, .int (nI u), .int fi, .ref m_fresh, .long aa, .long bb, .long dd, .int (nI ro), .ref m_rootWhich, .int db, .ref m_signs, .ref m_atNought, .int (nI mn), .ref m_change, .ref m_table, .ref m_carried])), (m_now, .inl (cy 0, 29, .inl nw))] H := hP9
    replace hD : va_D A [(ta, .inr (8, [.ref m_now, .ref m_undone, .ref m_slots, .ref m_slotKind, .ref m_hasSlot, .ref m_sheetBits, .ref m_sheetSize, .ref m_sheets, .int (nI u), .int fi, .ref m_fresh, .long aa, .long bb, .long dd, .int (nI ro), .ref m_rootWhich, .int db, .ref m_signs, .ref m_atNought, .int (nI mn), .ref m_change, .ref m_table, .ref m_carried])), (m_now, .inl (cy 0, 29, .inl nw))] := hD9
    replace hS := hS9
    clear hP9 hD9 hS9
    refine lv_iload_n hx hb dX8_slopeAt_17 rfl (lv_at hl 1 rfl) ?_
    refine lv_imul hx hb dX8_slopeAt_18 ?_
    refine lv_iadd hx hb dX8_slopeAt_19 ?_
    refine lv_iconst (v := 2) hx hb dX8_slopeAt_20 (by decide) ?_
    refine lv_aload_n hx hb dX8_slopeAt_21 rfl (lv_at hl 0 rfl) ?_
    refine lv_iload_n hx hb dX8_slopeAt_22 rfl (lv_at hl 3 rfl) ?_
    refine lv_iconst (v := 5) hx hb dX8_slopeAt_23 (by decide) ?_
    refine yk_i [0, 1] (va_runV (As := [.int bq, .int 5]) (rest := [.int 2, .int ((f_X8_get nw bq 2) + ((f_X8_get nw bq 4) * px))]) ⟨hx, hb, hml, hown, hts⟩ (c_X8_get l D cy ta m_now m_undone m_slots m_slotKind m_hasSlot m_sheetBits m_sheetSize m_sheets m_fresh m_rootWhich m_signs m_atNought m_change m_table m_carried nw u fi aa bb dd ro db mn bq 5 (by omega) H.size) (cwV 2 hts gX8_slopeAt_X8_get rfl rfl rfl hv_X8_get (yk_room hRf hRl rfl rfl)) (yk_pv (q := (RX8, TX8, 23)) hG hA hS hK hP hD [0, 1] (by decide +kernel) rfl rfl rfl) rfl rfl hl.1 rfl (lv_room (Nat.le_of_ble_eq_true rfl)) dX8_slopeAt_24 ⟨Nat.zero_le _, Nat.zero_le _⟩) hP hD hS hA rfl (Eq.trans (b := [ta, m_now]) rfl rfl) (fun H locs hP9 hD9 hS9 => ?_)
    replace hP : va_P D vwCl [(ta, .inr (8, [.ref m_now, .ref m_undone, .ref m_slots, .ref m_slotKind, .ref m_hasSlot, .ref m_sheetBits, .ref m_sheetSize, .ref m_sheets, .int (nI u), .int fi, .ref m_fresh, .long aa, .long bb, .long dd, .int (nI ro), .ref m_rootWhich, .int db, .ref m_signs, .ref m_atNought, .int (nI mn), .ref m_change, .ref m_table, .ref m_carried])), (m_now, .inl (cy 0, 29, .inl nw))] H := hP9
    replace hD : va_D A [(ta, .inr (8, [.ref m_now, .ref m_undone, .ref m_slots, .ref m_slotKind, .ref m_hasSlot, .ref m_sheetBits, .ref m_sheetSize, .ref m_sheets, .int (nI u), .int fi, .ref m_fresh, .long aa, .long bb, .long dd, .int (nI ro), .ref m_rootWhich, .int db, .ref m_signs, .ref m_atNought, .int (nI mn), .ref m_change, .ref m_table, .ref m_carried])), (m_now, .inl (cy 0, 29, .inl nw))] := hD9
    replace hS := hS9
    clear hP9 hD9 hS9
    refine lv_imul hx hb dX8_slopeAt_27 ?_
    refine lv_iload_n hx hb dX8_slopeAt_28 rfl (lv_at hl 2 rfl) ?_
    refine lv_imul hx hb dX8_slopeAt_29 ?_
    refine lv_iadd hx hb dX8_slopeAt_30 ?_
    refine lv_goto (tgt := 60) hx hb dX8_slopeAt_31 (by decide) ?_
    exact J3 _ _ _ _ ((if_neg hc1).symm) hP hD hS (lv_sub hl [0, 1, 2, 3, 4] rfl)

theorem kX8_slope_0 : Cond.constant RX8 68 (-1000001) ∈ wsX8_slope := by decide +kernel
def f_X8_slope (nw : Nat → Int32) (fi : Int32) (px : Int32) (py : Int32) (pw : Int32) : Int32 × Int32 := ((if (f_X8_isPlace px py) = 0 then (f_X8_found fi (-1000001)).1 else (if (f_X8_in pw 0 3) = 0 then (f_X8_found fi (-1000001)).1 else (f_X8_slopeAt nw px py (if pw ≤ 1 then 0 else 1) (if (pw - pw / 2 * 2) = 1 then 1 else 0)))), (if (f_X8_isPlace px py) = 0 then (f_X8_found fi (-1000001)).2 else (if (f_X8_in pw 0 3) = 0 then (f_X8_found fi (-1000001)).2 else fi)))
set_option maxHeartbeats 400000000 in
set_option maxRecDepth 100000 in
theorem c_X8_slope (l : Launch) (D : va_G) (cy : Nat → ClassId) (ta : Nat) (m_now : Nat) (m_undone : Nat) (m_slots : Nat) (m_slotKind : Nat) (m_hasSlot : Nat) (m_sheetBits : Nat) (m_sheetSize : Nat) (m_sheets : Nat) (m_fresh : Nat) (m_rootWhich : Nat) (m_signs : Nat) (m_atNought : Nat) (m_change : Nat) (m_table : Nat) (m_carried : Nat) (nw : Nat → Int32) (u : Nat) (fi : Int32) (aa : Int64) (bb : Int64) (dd : Int64) (ro : Nat) (db : Int32) (mn : Nat) (px : Int32) (py : Int32) (pw : Int32) : yk_Ci l D vwCl (yk_ty cy) yX8_slope wsX8_slope 2 46 [.ref ta, .int px, .int py, .int pw] [(ta, .inr (8, [.ref m_now, .ref m_undone, .ref m_slots, .ref m_slotKind, .ref m_hasSlot, .ref m_sheetBits, .ref m_sheetSize, .ref m_sheets, .int (nI u), .int fi, .ref m_fresh, .long aa, .long bb, .long dd, .int (nI ro), .ref m_rootWhich, .int db, .ref m_signs, .ref m_atNought, .int (nI mn), .ref m_change, .ref m_table, .ref m_carried])), (m_now, .inl (cy 0, 29, .inl nw))] ((f_X8_slope nw fi px py pw).1) [(ta, .inr (8, [.ref m_now, .ref m_undone, .ref m_slots, .ref m_slotKind, .ref m_hasSlot, .ref m_sheetBits, .ref m_sheetSize, .ref m_sheets, .int (nI u), .int ((f_X8_slope nw fi px py pw).2), .ref m_fresh, .long aa, .long bb, .long dd, .int (nI ro), .ref m_rootWhich, .int db, .ref m_signs, .ref m_atNought, .int (nI mn), .ref m_change, .ref m_table, .ref m_carried])), (m_now, .inl (cy 0, 29, .inl nw))] := by
  refine yk_eI (cc := cX8_slope) (maxL := 4) (by decide) rfl (Nat.le_of_ble_eq_true rfl) rfl ?_
  intro p e R s m args below meth c A Q ls H locs hx hb hml hown hts hRf hRl hA hK hG hP hD hS hl hQ
  have hP : va_P D vwCl [(ta, .inr (8, [.ref m_now, .ref m_undone, .ref m_slots, .ref m_slotKind, .ref m_hasSlot, .ref m_sheetBits, .ref m_sheetSize, .ref m_sheets, .int (nI u), .int fi, .ref m_fresh, .long aa, .long bb, .long dd, .int (nI ro), .ref m_rootWhich, .int db, .ref m_signs, .ref m_atNought, .int (nI mn), .ref m_change, .ref m_table, .ref m_carried])), (m_now, .inl (cy 0, 29, .inl nw))] H := hP
  have hl : lv_has ls 4 [(0, .ref ta), (1, .int px), (2, .int py), (3, .int pw)] := hl
  have hown : s.vm.findClass RX8 = some m.cls := hown
  have hF : (f_X8_slope nw fi px py pw) = (f_X8_slope nw fi px py pw) := rfl
  refine lv_iload_n hx hb dX8_slope_0 rfl (lv_at hl 1 rfl) ?_
  refine lv_iload_n hx hb dX8_slope_1 rfl (lv_at hl 2 rfl) ?_
  refine yk_i [] (va_runS (As := [.int px, .int py]) (rest := []) ⟨hx, hb, hml, hown, hts⟩ (c_X8_isPlace l D cy px py H.size) (va_cwS 2 hts gX8_slope_X8_isPlace rfl rfl rfl hs_X8_isPlace (yk_room hRf hRl rfl rfl)) (yk_ps hG hA hS hK hP hD [] (by decide +kernel) rfl) rfl rfl hl.1 rfl (lv_room (Nat.le_of_ble_eq_true rfl)) dX8_slope_2 ⟨Nat.zero_le _, Nat.zero_le _⟩) hP hD hS hA rfl rfl (fun H locs hP9 hD9 hS9 => ?_)
  replace hP : va_P D vwCl [(ta, .inr (8, [.ref m_now, .ref m_undone, .ref m_slots, .ref m_slotKind, .ref m_hasSlot, .ref m_sheetBits, .ref m_sheetSize, .ref m_sheets, .int (nI u), .int fi, .ref m_fresh, .long aa, .long bb, .long dd, .int (nI ro), .ref m_rootWhich, .int db, .ref m_signs, .ref m_atNought, .int (nI mn), .ref m_change, .ref m_table, .ref m_carried])), (m_now, .inl (cy 0, 29, .inl nw))] H := hP9
  replace hD : va_D A [(ta, .inr (8, [.ref m_now, .ref m_undone, .ref m_slots, .ref m_slotKind, .ref m_hasSlot, .ref m_sheetBits, .ref m_sheetSize, .ref m_sheets, .int (nI u), .int fi, .ref m_fresh, .long aa, .long bb, .long dd, .int (nI ro), .ref m_rootWhich, .int db, .ref m_signs, .ref m_atNought, .int (nI mn), .ref m_change, .ref m_table, .ref m_carried])), (m_now, .inl (cy 0, 29, .inl nw))] := hD9
  replace hS := hS9
  clear hP9 hD9 hS9
  have J11 : ∀ (v9 : Int32) (v10 : Int32) (H : Heap) (locs : List Loc) (ls : Array Slot), v9 = (if (f_X8_isPlace px py) = 0 then (f_X8_found fi (-1000001)).2 else (if (f_X8_in pw 0 3) = 0 then (f_X8_found fi (-1000001)).2 else fi)) → v10 = (if (f_X8_isPlace px py) = 0 then (f_X8_found fi (-1000001)).1 else (if (f_X8_in pw 0 3) = 0 then (f_X8_found fi (-1000001)).1 else (f_X8_slopeAt nw px py (if pw ≤ 1 then 0 else 1) (if (pw - pw / 2 * 2) = 1 then 1 else 0)))) → va_P D vwCl [(ta, .inr (8, [.ref m_now, .ref m_undone, .ref m_slots, .ref m_slotKind, .ref m_hasSlot, .ref m_sheetBits, .ref m_sheetSize, .ref m_sheets, .int (nI u), .int v9, .ref m_fresh, .long aa, .long bb, .long dd, .int (nI ro), .ref m_rootWhich, .int db, .ref m_signs, .ref m_atNought, .int (nI mn), .ref m_change, .ref m_table, .ref m_carried])), (m_now, .inl (cy 0, 29, .inl nw))] H → va_D A [(ta, .inr (8, [.ref m_now, .ref m_undone, .ref m_slots, .ref m_slotKind, .ref m_hasSlot, .ref m_sheetBits, .ref m_sheetSize, .ref m_sheets, .int (nI u), .int v9, .ref m_fresh, .long aa, .long bb, .long dd, .int (nI ro), .ref m_rootWhich, .int db, .ref m_signs, .ref m_atNought, .int (nI mn), .ref m_change, .ref m_table, .ref m_carried])), (m_now, .inl (cy 0, 29, .inl nw))] → va_S A s.heap H locs → lv_has ls 4 [(0, .ref ta), (1, .int px), (2, .int py), (3, .int pw)] → W p l e R s m args below meth c H locs 0 0 Q (F0 m 54 ls [.int v10]) := by
    clear hP hD hS hl
    intro v9 v10 H locs ls ev9 ev10
    rw [ev9, ev10]
    clear ev9
    clear ev10
    intro hP hD hS hl
    have hF : f_X8_slope nw fi px py pw = ((if (f_X8_isPlace px py) = 0 then (f_X8_found fi (-1000001)).1 else (if (f_X8_in pw 0 3) = 0 then (f_X8_found fi (-1000001)).1 else (f_X8_slopeAt nw px py (if pw ≤ 1 then 0 else 1) (if (pw - pw / 2 * 2) = 1 then 1 else 0)))), (if (f_X8_isPlace px py) = 0 then (f_X8_found fi (-1000001)).2 else (if (f_X8_in pw 0 3) = 0 then (f_X8_found fi (-1000001)).2 else fi))) := hF
    have hf0 := yk_fst hF
    have hg0 := yk_snd hF
    rw [hf0, hg0] at hQ
    exact hQ _ _ _ _ dX8_slope_54 hP hS
  refine lv_if_eq (tgt := 48) hx hb dX8_slope_5 (by decide) (fun hc1 => ?_) (fun hc1 => ?_)
  · refine lv_aload_n hx hb dX8_slope_48 rfl (lv_at hl 0 rfl) ?_
    refine lv_ldc (v := (-1000001)) hx hb hown (hts _ kX8_slope_0) dX8_slope_49 ?_
    refine yk_i [0] (va_runV (As := [.int (-1000001)]) (rest := []) ⟨hx, hb, hml, hown, hts⟩ (c_X8_found l D cy ta m_now m_undone m_slots m_slotKind m_hasSlot m_sheetBits m_sheetSize m_sheets m_fresh m_rootWhich m_signs m_atNought m_change m_table m_carried u fi aa bb dd ro db mn (-1000001) H.size) (cwV 1 hts gX8_slope_X8_found rfl rfl rfl hv_X8_found (yk_room hRf hRl rfl rfl)) (yk_pv (q := (RX8, TX8, 23)) hG hA hS hK hP hD [0] (by decide +kernel) rfl rfl rfl) rfl rfl hl.1 rfl (lv_room (Nat.le_of_ble_eq_true rfl)) dX8_slope_51 ⟨Nat.zero_le _, Nat.zero_le _⟩) hP hD hS hA rfl (Eq.trans (b := [ta]) rfl rfl) (fun H locs hP9 hD9 hS9 => ?_)
    replace hP : va_P D vwCl [(ta, .inr (8, [.ref m_now, .ref m_undone, .ref m_slots, .ref m_slotKind, .ref m_hasSlot, .ref m_sheetBits, .ref m_sheetSize, .ref m_sheets, .int (nI u), .int ((f_X8_found fi (-1000001)).2), .ref m_fresh, .long aa, .long bb, .long dd, .int (nI ro), .ref m_rootWhich, .int db, .ref m_signs, .ref m_atNought, .int (nI mn), .ref m_change, .ref m_table, .ref m_carried])), (m_now, .inl (cy 0, 29, .inl nw))] H := hP9
    replace hD : va_D A [(ta, .inr (8, [.ref m_now, .ref m_undone, .ref m_slots, .ref m_slotKind, .ref m_hasSlot, .ref m_sheetBits, .ref m_sheetSize, .ref m_sheets, .int (nI u), .int ((f_X8_found fi (-1000001)).2), .ref m_fresh, .long aa, .long bb, .long dd, .int (nI ro), .ref m_rootWhich, .int db, .ref m_signs, .ref m_atNought, .int (nI mn), .ref m_change, .ref m_table, .ref m_carried])), (m_now, .inl (cy 0, 29, .inl nw))] := hD9
    replace hS := hS9
    clear hP9 hD9 hS9
    exact J11 _ _ _ _ _ ((if_pos hc1).symm) ((if_pos hc1).symm) hP hD hS (lv_sub hl [0, 1, 2, 3] rfl)
  · refine lv_iload_n hx hb dX8_slope_8 rfl (lv_at hl 3 rfl) ?_
    refine lv_iconst (v := 0) hx hb dX8_slope_9 (by decide) ?_
    refine lv_iconst (v := 3) hx hb dX8_slope_10 (by decide) ?_
    refine yk_i [] (va_runS (As := [.int pw, .int 0, .int 3]) (rest := []) ⟨hx, hb, hml, hown, hts⟩ (c_X8_in l D cy pw 0 3 H.size) (va_cwS 3 hts gX8_slope_X8_in rfl rfl rfl hs_X8_in (yk_room hRf hRl rfl rfl)) (yk_ps hG hA hS hK hP hD [] (by decide +kernel) rfl) rfl rfl hl.1 rfl (lv_room (Nat.le_of_ble_eq_true rfl)) dX8_slope_11 ⟨Nat.zero_le _, Nat.zero_le _⟩) hP hD hS hA rfl rfl (fun H locs hP9 hD9 hS9 => ?_)
    replace hP : va_P D vwCl [(ta, .inr (8, [.ref m_now, .ref m_undone, .ref m_slots, .ref m_slotKind, .ref m_hasSlot, .ref m_sheetBits, .ref m_sheetSize, .ref m_sheets, .int (nI u), .int fi, .ref m_fresh, .long aa, .long bb, .long dd, .int (nI ro), .ref m_rootWhich, .int db, .ref m_signs, .ref m_atNought, .int (nI mn), .ref m_change, .ref m_table, .ref m_carried])), (m_now, .inl (cy 0, 29, .inl nw))] H := hP9
    replace hD : va_D A [(ta, .inr (8, [.ref m_now, .ref m_undone, .ref m_slots, .ref m_slotKind, .ref m_hasSlot, .ref m_sheetBits, .ref m_sheetSize, .ref m_sheets, .int (nI u), .int fi, .ref m_fresh, .long aa, .long bb, .long dd, .int (nI ro), .ref m_rootWhich, .int db, .ref m_signs, .ref m_atNought, .int (nI mn), .ref m_change, .ref m_table, .ref m_carried])), (m_now, .inl (cy 0, 29, .inl nw))] := hD9
    replace hS := hS9
    clear hP9 hD9 hS9
    refine lv_if_eq (tgt := 48) hx hb dX8_slope_14 (by decide) (fun hc2 => ?_) (fun hc2 => ?_)
    · refine lv_aload_n hx hb dX8_slope_48 rfl (lv_at hl 0 rfl) ?_
      refine lv_ldc (v := (-1000001)) hx hb hown (hts _ kX8_slope_0) dX8_slope_49 ?_
      refine yk_i [0] (va_runV (As := [.int (-1000001)]) (rest := []) ⟨hx, hb, hml, hown, hts⟩ (c_X8_found l D cy ta m_now m_undone m_slots m_slotKind m_hasSlot m_sheetBits m_sheetSize m_sheets m_fresh m_rootWhich m_signs m_atNought m_change m_table m_carried u fi aa bb dd ro db mn (-1000001) H.size) (cwV 1 hts gX8_slope_X8_found rfl rfl rfl hv_X8_found (yk_room hRf hRl rfl rfl)) (yk_pv (q := (RX8, TX8, 23)) hG hA hS hK hP hD [0] (by decide +kernel) rfl rfl rfl) rfl rfl hl.1 rfl (lv_room (Nat.le_of_ble_eq_true rfl)) dX8_slope_51 ⟨Nat.zero_le _, Nat.zero_le _⟩) hP hD hS hA rfl (Eq.trans (b := [ta]) rfl rfl) (fun H locs hP9 hD9 hS9 => ?_)
      replace hP : va_P D vwCl [(ta, .inr (8, [.ref m_now, .ref m_undone, .ref m_slots, .ref m_slotKind, .ref m_hasSlot, .ref m_sheetBits, .ref m_sheetSize, .ref m_sheets, .int (nI u), .int ((f_X8_found fi (-1000001)).2), .ref m_fresh, .long aa, .long bb, .long dd, .int (nI ro), .ref m_rootWhich, .int db, .ref m_signs, .ref m_atNought, .int (nI mn), .ref m_change, .ref m_table, .ref m_carried])), (m_now, .inl (cy 0, 29, .inl nw))] H := hP9
      replace hD : va_D A [(ta, .inr (8, [.ref m_now, .ref m_undone, .ref m_slots, .ref m_slotKind, .ref m_hasSlot, .ref m_sheetBits, .ref m_sheetSize, .ref m_sheets, .int (nI u), .int ((f_X8_found fi (-1000001)).2), .ref m_fresh, .long aa, .long bb, .long dd, .int (nI ro), .ref m_rootWhich, .int db, .ref m_signs, .ref m_atNought, .int (nI mn), .ref m_change, .ref m_table, .ref m_carried])), (m_now, .inl (cy 0, 29, .inl nw))] := hD9
      replace hS := hS9
      clear hP9 hD9 hS9
      exact J11 _ _ _ _ _ (((if_neg hc1).trans (if_pos hc2)).symm) (((if_neg hc1).trans (if_pos hc2)).symm) hP hD hS (lv_sub hl [0, 1, 2, 3] rfl)
    · refine lv_aload_n hx hb dX8_slope_17 rfl (lv_at hl 0 rfl) ?_
      refine lv_iload_n hx hb dX8_slope_18 rfl (lv_at hl 1 rfl) ?_
      refine lv_iload_n hx hb dX8_slope_19 rfl (lv_at hl 2 rfl) ?_
      refine lv_iload_n hx hb dX8_slope_20 rfl (lv_at hl 3 rfl) ?_
      refine lv_iconst (v := 1) hx hb dX8_slope_21 (by decide) ?_
      have J5 : ∀ (v4 : Int32) (H : Heap) (locs : List Loc) (ls : Array Slot), v4 = (if pw ≤ 1 then 0 else 1) → va_P D vwCl [(ta, .inr (8, [.ref m_now, .ref m_undone, .ref m_slots, .ref m_slotKind, .ref m_hasSlot, .ref m_sheetBits, .ref m_sheetSize, .ref m_sheets, .int (nI u), .int fi, .ref m_fresh, .long aa, .long bb, .long dd, .int (nI ro), .ref m_rootWhich, .int db, .ref m_signs, .ref m_atNought, .int (nI mn), .ref m_change, .ref m_table, .ref m_carried])), (m_now, .inl (cy 0, 29, .inl nw))] H → va_D A [(ta, .inr (8, [.ref m_now, .ref m_undone, .ref m_slots, .ref m_slotKind, .ref m_hasSlot, .ref m_sheetBits, .ref m_sheetSize, .ref m_sheets, .int (nI u), .int fi, .ref m_fresh, .long aa, .long bb, .long dd, .int (nI ro), .ref m_rootWhich, .int db, .ref m_signs, .ref m_atNought, .int (nI mn), .ref m_change, .ref m_table, .ref m_carried])), (m_now, .inl (cy 0, 29, .inl nw))] → va_S A s.heap H locs → lv_has ls 4 [(0, .ref ta), (1, .int px), (2, .int py), (3, .int pw)] → W p l e R s m args below meth c H locs 0 0 Q (F0 m 30 ls [.int v4, .int py, .int px, .ref ta]) := by
        clear hP hD hS hl
        intro v4 H locs ls ev4
        rw [ev4]
        clear ev4
        intro hP hD hS hl
        refine lv_iload_n hx hb dX8_slope_30 rfl (lv_at hl 3 rfl) ?_
        refine lv_iconst (v := 2) hx hb dX8_slope_31 (by decide) ?_
        refine lv_irem hx hb dX8_slope_32 (by decide) ?_
        refine lv_iconst (v := 1) hx hb dX8_slope_33 (by decide) ?_
        have J8 : ∀ (v7 : Int32) (H : Heap) (locs : List Loc) (ls : Array Slot), v7 = (if (pw - pw / 2 * 2) = 1 then 1 else 0) → va_P D vwCl [(ta, .inr (8, [.ref m_now, .ref m_undone, .ref m_slots, .ref m_slotKind, .ref m_hasSlot, .ref m_sheetBits, .ref m_sheetSize, .ref m_sheets, .int (nI u), .int fi, .ref m_fresh, .long aa, .long bb, .long dd, .int (nI ro), .ref m_rootWhich, .int db, .ref m_signs, .ref m_atNought, .int (nI mn), .ref m_change, .ref m_table, .ref m_carried])), (m_now, .inl (cy 0, 29, .inl nw))] H → va_D A [(ta, .inr (8, [.ref m_now, .ref m_undone, .ref m_slots, .ref m_slotKind, .ref m_hasSlot, .ref m_sheetBits, .ref m_sheetSize, .ref m_sheets, .int (nI u), .int fi, .ref m_fresh, .long aa, .long bb, .long dd, .int (nI ro), .ref m_rootWhich, .int db, .ref m_signs, .ref m_atNought, .int (nI mn), .ref m_change, .ref m_table, .ref m_carried])), (m_now, .inl (cy 0, 29, .inl nw))] → va_S A s.heap H locs → lv_has ls 4 [(0, .ref ta), (1, .int px), (2, .int py), (3, .int pw)] → W p l e R s m args below meth c H locs 0 0 Q (F0 m 42 ls [.int v7, .int (if pw ≤ 1 then 0 else 1), .int py, .int px, .ref ta]) := by
          clear hP hD hS hl
          intro v7 H locs ls ev7
          rw [ev7]
          clear ev7
          intro hP hD hS hl
          refine yk_i [0, 1] (va_runV (As := [.int px, .int py, .int (if pw ≤ 1 then 0 else 1), .int (if (pw - pw / 2 * 2) = 1 then 1 else 0)]) (rest := []) ⟨hx, hb, hml, hown, hts⟩ (c_X8_slopeAt l D cy ta m_now m_undone m_slots m_slotKind m_hasSlot m_sheetBits m_sheetSize m_sheets m_fresh m_rootWhich m_signs m_atNought m_change m_table m_carried nw u fi aa bb dd ro db mn px py (if pw ≤ 1 then 0 else 1) (if (pw - pw / 2 * 2) = 1 then 1 else 0) H.size) (cwV 4 hts gX8_slope_X8_slopeAt rfl rfl rfl hv_X8_slopeAt (yk_room hRf hRl rfl rfl)) (yk_pv (q := (RX8, TX8, 23)) hG hA hS hK hP hD [0, 1] (by decide +kernel) rfl rfl rfl) rfl rfl hl.1 rfl (lv_room (Nat.le_of_ble_eq_true rfl)) dX8_slope_42 ⟨Nat.zero_le _, Nat.zero_le _⟩) hP hD hS hA rfl (Eq.trans (b := [ta, m_now]) rfl rfl) (fun H locs hP9 hD9 hS9 => ?_)
          replace hP : va_P D vwCl [(ta, .inr (8, [.ref m_now, .ref m_undone, .ref m_slots, .ref m_slotKind, .ref m_hasSlot, .ref m_sheetBits, .ref m_sheetSize, .ref m_sheets, .int (nI u), .int fi, .ref m_fresh, .long aa, .long bb, .long dd, .int (nI ro), .ref m_rootWhich, .int db, .ref m_signs, .ref m_atNought, .int (nI mn), .ref m_change, .ref m_table, .ref m_carried])), (m_now, .inl (cy 0, 29, .inl nw))] H := hP9
          replace hD : va_D A [(ta, .inr (8, [.ref m_now, .ref m_undone, .ref m_slots, .ref m_slotKind, .ref m_hasSlot, .ref m_sheetBits, .ref m_sheetSize, .ref m_sheets, .int (nI u), .int fi, .ref m_fresh, .long aa, .long bb, .long dd, .int (nI ro), .ref m_rootWhich, .int db, .ref m_signs, .ref m_atNought, .int (nI mn), .ref m_change, .ref m_table, .ref m_carried])), (m_now, .inl (cy 0, 29, .inl nw))] := hD9
          replace hS := hS9
          clear hP9 hD9 hS9
          refine lv_goto (tgt := 54) hx hb dX8_slope_45 (by decide) ?_
          exact J11 _ _ _ _ _ (((if_neg hc1).trans (if_neg hc2)).symm) (((if_neg hc1).trans (if_neg hc2)).symm) hP hD hS (lv_sub hl [0, 1, 2, 3] rfl)
        refine lv_icmp_ne (tgt := 41) hx hb dX8_slope_34 (by decide) (fun hc6 => ?_) (fun hc6 => ?_)
        · refine lv_iconst (v := 0) hx hb dX8_slope_41 (by decide) ?_
          exact J8 _ _ _ _ ((if_neg hc6).symm) hP hD hS (lv_sub hl [0, 1, 2, 3] rfl)
        · refine lv_iconst (v := 1) hx hb dX8_slope_37 (by decide) ?_
          refine lv_goto (tgt := 42) hx hb dX8_slope_38 (by decide) ?_
          exact J8 _ _ _ _ ((if_pos hc6).symm) hP hD hS (lv_sub hl [0, 1, 2, 3] rfl)
      refine lv_icmp_le (tgt := 29) hx hb dX8_slope_22 (by decide) (fun hc3 => ?_) (fun hc3 => ?_)
      · refine lv_iconst (v := 0) hx hb dX8_slope_29 (by decide) ?_
        exact J5 _ _ _ _ ((if_pos hc3).symm) hP hD hS (lv_sub hl [0, 1, 2, 3] rfl)
      · refine lv_iconst (v := 1) hx hb dX8_slope_25 (by decide) ?_
        refine lv_goto (tgt := 30) hx hb dX8_slope_26 (by decide) ?_
        exact J5 _ _ _ _ ((if_neg hc3).symm) hP hD hS (lv_sub hl [0, 1, 2, 3] rfl)
