theorem hv_X6_swapRows : yX6_swapRows.cls = RX6 ∧ yX6_swapRows.cls ≠ "java/lang/invoke/MethodHandle" ∧ yX6_swapRows.cls ≠ "java/lang/invoke/VarHandle" ∧ (parseMethodDescriptor yX6_swapRows.desc).map (fun d => d.parameters.length) = some 2 := by decide +kernel
theorem hs_X6_swapRows : yX6_swapRows.cls ≠ "java/lang/invoke/MethodHandle" ∧ yX6_swapRows.cls ≠ "java/lang/invoke/VarHandle" ∧ (parseMethodDescriptor yX6_swapRows.desc).map (fun d => d.parameters.length) = some 2 := by decide +kernel
theorem hv_X6_raisePivot : yX6_raisePivot.cls = RX6 ∧ yX6_raisePivot.cls ≠ "java/lang/invoke/MethodHandle" ∧ yX6_raisePivot.cls ≠ "java/lang/invoke/VarHandle" ∧ (parseMethodDescriptor yX6_raisePivot.desc).map (fun d => d.parameters.length) = some 2 := by decide +kernel
theorem hs_X6_raisePivot : yX6_raisePivot.cls ≠ "java/lang/invoke/MethodHandle" ∧ yX6_raisePivot.cls ≠ "java/lang/invoke/VarHandle" ∧ (parseMethodDescriptor yX6_raisePivot.desc).map (fun d => d.parameters.length) = some 2 := by decide +kernel
theorem hv_X6_clearBelow : yX6_clearBelow.cls = RX6 ∧ yX6_clearBelow.cls ≠ "java/lang/invoke/MethodHandle" ∧ yX6_clearBelow.cls ≠ "java/lang/invoke/VarHandle" ∧ (parseMethodDescriptor yX6_clearBelow.desc).map (fun d => d.parameters.length) = some 3 := by decide +kernel
theorem hs_X6_clearBelow : yX6_clearBelow.cls ≠ "java/lang/invoke/MethodHandle" ∧ yX6_clearBelow.cls ≠ "java/lang/invoke/VarHandle" ∧ (parseMethodDescriptor yX6_clearBelow.desc).map (fun d => d.parameters.length) = some 3 := by decide +kernel
theorem yk_lne {x : Int64} (h : ¬ lg_cmp x 0 = 0) : ¬ x = 0 := fun e => h (by subst e; rfl)
theorem yk_lt5 {n : Nat} (hn : n ≤ 5) (h : ¬ (5 : Int32) ≤ nI n) : n < 5 := by
  rcases Nat.lt_or_ge n 5 with q | q
  · exact q
  · exact absurd (nI_le (a := 5) q (by omega)) h
theorem yk_pos0 {n : Nat} (h : ¬ nI n = 0) : 1 ≤ n := by
  rcases Nat.eq_zero_or_pos n with q | q
  · subst q; exact absurd rfl h
  · exact q

theorem kX2_remember_0 : Cond.fieldLink RX2 20 "FlowPlane$Past" "latest" "I" ∈ wsX2_remember := by decide +kernel
theorem kX2_remember_1 : Cond.fieldLink RX2 16 "FlowPlane$Past" "count" "I" ∈ wsX2_remember := by decide +kernel
theorem kX2_remember_2 : Cond.methodLink RX2 23 Lib.Math.min.name ∈ wsX2_remember := by decide +kernel
theorem kX2_remember_3 : Cond.static Lib.Math.min.name ∈ wsX2_remember := by decide +kernel
theorem kX2_remember_4 : Cond.initialized "java/lang/Math" ∈ wsX2_remember := by decide +kernel
theorem kX2_remember_5 : Cond.code Lib.Math.min.name Lib.Math.min.code 2 (some .int) ∈ wsX2_remember := by decide +kernel
theorem kX2_remember_6 : Cond.fieldLink RX2 13 "FlowPlane$Past" "rows" "[[I" ∈ wsX2_remember := by decide +kernel
theorem kX2_remember_7 : Cond.fieldLink RX2 29 "FlowPlane$Flow" "p" "LFlowPlane$Polynomial;" ∈ wsX2_remember := by decide +kernel
theorem kX2_remember_8 : Cond.fieldLink RX2 35 "FlowPlane$Polynomial" "numbers" "[I" ∈ wsX2_remember := by decide +kernel
theorem kX2_remember_9 : Cond.methodLink RX2 41 arraycopyName ∈ wsX2_remember := by decide +kernel
theorem kX2_remember_10 : Cond.native arraycopyName ∈ wsX2_remember := by decide +kernel
theorem kX2_remember_11 : Cond.static arraycopyName ∈ wsX2_remember := by decide +kernel
theorem kX2_remember_12 : Cond.initialized "java/lang/System" ∈ wsX2_remember := by decide +kernel
theorem kX2_remember_13 : Cond.fieldLink RX2 47 "FlowPlane$Flow" "q" "LFlowPlane$Polynomial;" ∈ wsX2_remember := by decide +kernel
theorem kX2_remember_14 : Cond.fieldLink RX2 50 "FlowPlane$Fence" "count" "I" ∈ wsX2_remember := by decide +kernel
theorem kX2_remember_15 : Cond.fieldLink RX2 53 "FlowPlane$Fence" "xs" "[I" ∈ wsX2_remember := by decide +kernel
theorem kX2_remember_16 : Cond.fieldLink RX2 56 "FlowPlane$Fence" "ys" "[I" ∈ wsX2_remember := by decide +kernel
theorem uX2_remember_X2 : ∀ w ∈ u_ws RX2 TX2 3, w ∈ wsX2_remember := by decide +kernel
theorem uX2_remember_X1 : ∀ w ∈ u_ws RX1 TX1 2, w ∈ wsX2_remember := by decide +kernel
theorem uX2_remember_X3 : ∀ w ∈ u_ws RX3 TX3 1, w ∈ wsX2_remember := by decide +kernel
theorem uX2_remember_X0 : ∀ w ∈ u_ws RX0 TX0 3, w ∈ wsX2_remember := by decide +kernel
def f_X2_remember (rw : Nat → Nat → Int32) (co : Nat) (la : Nat) (fu : Nat → Int32) (fv : Nat → Int32) (xs : Nat → Int32) (ys : Nat → Int32) (n : Nat) : Nat × Nat × (Nat → Nat → Int32) := ((if 25 < nI (co + 1) then 25 else (co + 1)), (if 25 ≤ (nI (la + 1)) then 0 else (la + 1)), (yk_upr (yk_upr (yk_upr (yk_upr (yk_upr rw (if 25 ≤ (nI (la + 1)) then 0 else (la + 1)) (va_cpy fu (rw (if 25 ≤ (nI (la + 1)) then 0 else (la + 1))) 0 0 6)) (if 25 ≤ (nI (la + 1)) then 0 else (la + 1)) (va_cpy fv ((yk_upr rw (if 25 ≤ (nI (la + 1)) then 0 else (la + 1)) (va_cpy fu (rw (if 25 ≤ (nI (la + 1)) then 0 else (la + 1))) 0 0 6)) (if 25 ≤ (nI (la + 1)) then 0 else (la + 1))) 0 6 6)) (if 25 ≤ (nI (la + 1)) then 0 else (la + 1)) (upd ((yk_upr (yk_upr rw (if 25 ≤ (nI (la + 1)) then 0 else (la + 1)) (va_cpy fu (rw (if 25 ≤ (nI (la + 1)) then 0 else (la + 1))) 0 0 6)) (if 25 ≤ (nI (la + 1)) then 0 else (la + 1)) (va_cpy fv ((yk_upr rw (if 25 ≤ (nI (la + 1)) then 0 else (la + 1)) (va_cpy fu (rw (if 25 ≤ (nI (la + 1)) then 0 else (la + 1))) 0 0 6)) (if 25 ≤ (nI (la + 1)) then 0 else (la + 1))) 0 6 6)) (if 25 ≤ (nI (la + 1)) then 0 else (la + 1))) 12 (nI n))) (if 25 ≤ (nI (la + 1)) then 0 else (la + 1)) (va_cpy xs ((yk_upr (yk_upr (yk_upr rw (if 25 ≤ (nI (la + 1)) then 0 else (la + 1)) (va_cpy fu (rw (if 25 ≤ (nI (la + 1)) then 0 else (la + 1))) 0 0 6)) (if 25 ≤ (nI (la + 1)) then 0 else (la + 1)) (va_cpy fv ((yk_upr rw (if 25 ≤ (nI (la + 1)) then 0 else (la + 1)) (va_cpy fu (rw (if 25 ≤ (nI (la + 1)) then 0 else (la + 1))) 0 0 6)) (if 25 ≤ (nI (la + 1)) then 0 else (la + 1))) 0 6 6)) (if 25 ≤ (nI (la + 1)) then 0 else (la + 1)) (upd ((yk_upr (yk_upr rw (if 25 ≤ (nI (la + 1)) then 0 else (la + 1)) (va_cpy fu (rw (if 25 ≤ (nI (la + 1)) then 0 else (la + 1))) 0 0 6)) (if 25 ≤ (nI (la + 1)) then 0 else (la + 1)) (va_cpy fv ((yk_upr rw (if 25 ≤ (nI (la + 1)) then 0 else (la + 1)) (va_cpy fu (rw (if 25 ≤ (nI (la + 1)) then 0 else (la + 1))) 0 0 6)) (if 25 ≤ (nI (la + 1)) then 0 else (la + 1))) 0 6 6)) (if 25 ≤ (nI (la + 1)) then 0 else (la + 1))) 12 (nI n))) (if 25 ≤ (nI (la + 1)) then 0 else (la + 1))) 0 13 9)) (if 25 ≤ (nI (la + 1)) then 0 else (la + 1)) (va_cpy ys ((yk_upr (yk_upr (yk_upr (yk_upr rw (if 25 ≤ (nI (la + 1)) then 0 else (la + 1)) (va_cpy fu (rw (if 25 ≤ (nI (la + 1)) then 0 else (la + 1))) 0 0 6)) (if 25 ≤ (nI (la + 1)) then 0 else (la + 1)) (va_cpy fv ((yk_upr rw (if 25 ≤ (nI (la + 1)) then 0 else (la + 1)) (va_cpy fu (rw (if 25 ≤ (nI (la + 1)) then 0 else (la + 1))) 0 0 6)) (if 25 ≤ (nI (la + 1)) then 0 else (la + 1))) 0 6 6)) (if 25 ≤ (nI (la + 1)) then 0 else (la + 1)) (upd ((yk_upr (yk_upr rw (if 25 ≤ (nI (la + 1)) then 0 else (la + 1)) (va_cpy fu (rw (if 25 ≤ (nI (la + 1)) then 0 else (la + 1))) 0 0 6)) (if 25 ≤ (nI (la + 1)) then 0 else (la + 1)) (va_cpy fv ((yk_upr rw (if 25 ≤ (nI (la + 1)) then 0 else (la + 1)) (va_cpy fu (rw (if 25 ≤ (nI (la + 1)) then 0 else (la + 1))) 0 0 6)) (if 25 ≤ (nI (la + 1)) then 0 else (la + 1))) 0 6 6)) (if 25 ≤ (nI (la + 1)) then 0 else (la + 1))) 12 (nI n))) (if 25 ≤ (nI (la + 1)) then 0 else (la + 1)) (va_cpy xs ((yk_upr (yk_upr (yk_upr rw (if 25 ≤ (nI (la + 1)) then 0 else (la + 1)) (va_cpy fu (rw (if 25 ≤ (nI (la + 1)) then 0 else (la + 1))) 0 0 6)) (if 25 ≤ (nI (la + 1)) then 0 else (la + 1)) (va_cpy fv ((yk_upr rw (if 25 ≤ (nI (la + 1)) then 0 else (la + 1)) (va_cpy fu (rw (if 25 ≤ (nI (la + 1)) then 0 else (la + 1))) 0 0 6)) (if 25 ≤ (nI (la + 1)) then 0 else (la + 1))) 0 6 6)) (if 25 ≤ (nI (la + 1)) then 0 else (la + 1)) (upd ((yk_upr (yk_upr rw (if 25 ≤ (nI (la + 1)) then 0 else (la + 1)) (va_cpy fu (rw (if 25 ≤ (nI (la + 1)) then 0 else (la + 1))) 0 0 6)) (if 25 ≤ (nI (la + 1)) then 0 else (la + 1)) (va_cpy fv ((yk_upr rw (if 25 ≤ (nI (la + 1)) then 0 else (la + 1)) (va_cpy fu (rw (if 25 ≤ (nI (la + 1)) then 0 else (la + 1))) 0 0 6)) (if 25 ≤ (nI (la + 1)) then 0 else (la + 1))) 0 6 6)) (if 25 ≤ (nI (la + 1)) then 0 else (la + 1))) 12 (nI n))) (if 25 ≤ (nI (la + 1)) then 0 else (la + 1))) 0 13 9)) (if 25 ≤ (nI (la + 1)) then 0 else (la + 1))) 0 22 9)))
set_option maxHeartbeats 400000000 in
set_option maxRecDepth 100000 in
theorem c_X2_remember (l : Launch) (D : va_G) (cy : Nat → ClassId) (ta : Nat) (tar : Nat) (oa : Nat) (oap : Nat) (oapn : Nat) (oaq : Nat) (oaqn : Nat) (ea : Nat) (eax : Nat) (eay : Nat) (taf : Nat → Nat) (rw : Nat → Nat → Int32) (co : Nat) (la : Nat) (fu : Nat → Int32) (fv : Nat → Int32) (xs : Nat → Int32) (ys : Nat → Int32) (n : Nat) (hco : co ≤ 25) (hla : la < 25) (hn : n ≤ 8) : yk_Cv l D vwCl (yk_ty cy) yX2_remember wsX2_remember 1 18 [.ref ta, .ref oa, .ref ea] ([(ta, .inr (2, [.ref tar, .int (nI co), .int (nI la)])), (tar, .inl (cy 5, 25, .inr (.inr (.inr (.inr (fun i => if i < 25 then some (taf i) else none)))))), (oa, .inr (1, [.ref oap, .ref oaq])), (oap, .inr (3, [.ref oapn])), (oapn, .inl (cy 0, 6, .inl fu)), (oaq, .inr (3, [.ref oaqn])), (oaqn, .inl (cy 0, 6, .inl fv)), (ea, .inr (0, [.ref eax, .ref eay, .int (nI n)])), (eax, .inl (cy 0, 9, .inl xs)), (eay, .inl (cy 0, 9, .inl ys))] ++ yk_fam 25 taf (fun i => .inl (cy 0, 31, .inl (rw i)))) ([(ta, .inr (2, [.ref tar, .int (nI ((f_X2_remember rw co la fu fv xs ys n).1)), .int (nI ((f_X2_remember rw co la fu fv xs ys n).2.1))])), (tar, .inl (cy 5, 25, .inr (.inr (.inr (.inr (fun i => if i < 25 then some (taf i) else none)))))), (oa, .inr (1, [.ref oap, .ref oaq])), (oap, .inr (3, [.ref oapn])), (oapn, .inl (cy 0, 6, .inl fu)), (oaq, .inr (3, [.ref oaqn])), (oaqn, .inl (cy 0, 6, .inl fv)), (ea, .inr (0, [.ref eax, .ref eay, .int (nI n)])), (eax, .inl (cy 0, 9, .inl xs)), (eay, .inl (cy 0, 9, .inl ys))] ++ yk_fam 25 taf (fun i => .inl (cy 0, 31, .inl (((f_X2_remember rw co la fu fv xs ys n).2.2) i)))) := by
  refine yk_eV (cc := cX2_remember) (maxL := 4) (by decide) rfl (Nat.le_of_ble_eq_true rfl) ?_
  intro p e R s m args below meth c A Q ls H locs hx hb hml hown hts hRf hRl hA hK hG hP hD hS hl hQ
  have hP : va_P D vwCl ([(ta, .inr (2, [.ref tar, .int (nI co), .int (nI la)])), (tar, .inl (cy 5, 25, .inr (.inr (.inr (.inr (fun i => if i < 25 then some (taf i) else none)))))), (oa, .inr (1, [.ref oap, .ref oaq])), (oap, .inr (3, [.ref oapn])), (oapn, .inl (cy 0, 6, .inl fu)), (oaq, .inr (3, [.ref oaqn])), (oaqn, .inl (cy 0, 6, .inl fv)), (ea, .inr (0, [.ref eax, .ref eay, .int (nI n)])), (eax, .inl (cy 0, 9, .inl xs)), (eay, .inl (cy 0, 9, .inl ys))] ++ yk_fam 25 taf (fun i => .inl (cy 0, 31, .inl (rw i)))) H := hP
  have hl : lv_has ls 4 [(0, .ref ta), (1, .ref oa), (2, .ref ea)] := hl
  have hown : s.vm.findClass RX2 = some m.cls := hown
  have hF : (f_X2_remember rw co la fu fv xs ys n) = (f_X2_remember rw co la fu fv xs ys n) := rfl
  refine lv_aload_n hx hb dX2_remember_0 rfl (lv_at hl 0 rfl) ?_
  refine lv_aload_n hx hb dX2_remember_1 rfl (lv_at hl 0 rfl) ?_
  refine va_get (D := D) (ci := 2) (v := .int (nI la)) (C := RX2) (T := TX2) (N := 3) hx hb hts uX2_remember_X2 hown hK hP 0 rfl rfl 2 (by decide) (hts _ kX2_remember_0) (fun _ h9 => h9) rfl dX2_remember_2 ?_
  refine lv_iconst (v := 1) hx hb dX2_remember_5 (by decide) ?_
  refine lv_iadd hx hb dX2_remember_6 ?_
  refine yk_ti (y := nI (la + 1)) (nI_add la 1) ?_
  refine lv_bipush (v := 25) hx hb dX2_remember_7 (by decide) ?_
  have J3 : ∀ (v2 : Nat) (H : Heap) (locs : List Loc) (ls : Array Slot), v2 = (if 25 ≤ (nI (la + 1)) then 0 else (la + 1)) → va_P D vwCl ([(ta, .inr (2, [.ref tar, .int (nI co), .int (nI la)])), (tar, .inl (cy 5, 25, .inr (.inr (.inr (.inr (fun i => if i < 25 then some (taf i) else none)))))), (oa, .inr (1, [.ref oap, .ref oaq])), (oap, .inr (3, [.ref oapn])), (oapn, .inl (cy 0, 6, .inl fu)), (oaq, .inr (3, [.ref oaqn])), (oaqn, .inl (cy 0, 6, .inl fv)), (ea, .inr (0, [.ref eax, .ref eay, .int (nI n)])), (eax, .inl (cy 0, 9, .inl xs)), (eay, .inl (cy 0, 9, .inl ys))] ++ yk_fam 25 taf (fun i => .inl (cy 0, 31, .inl (rw i)))) H → va_D A ([(ta, .inr (2, [.ref tar, .int (nI co), .int (nI la)])), (tar, .inl (cy 5, 25, .inr (.inr (.inr (.inr (fun i => if i < 25 then some (taf i) else none)))))), (oa, .inr (1, [.ref oap, .ref oaq])), (oap, .inr (3, [.ref oapn])), (oapn, .inl (cy 0, 6, .inl fu)), (oaq, .inr (3, [.ref oaqn])), (oaqn, .inl (cy 0, 6, .inl fv)), (ea, .inr (0, [.ref eax, .ref eay, .int (nI n)])), (eax, .inl (cy 0, 9, .inl xs)), (eay, .inl (cy 0, 9, .inl ys))] ++ yk_fam 25 taf (fun i => .inl (cy 0, 31, .inl (rw i)))) → va_S A s.heap H locs → lv_has ls 4 [(0, .ref ta), (1, .ref oa), (2, .ref ea)] → W p l e R s m args below meth c H locs 0 0 Q (F0 m 22 ls [.int (nI v2), .ref ta]) := by
    clear hP hD hS hl
    intro v2 H locs ls ev2
    rw [ev2]
    clear ev2
    intro hP hD hS hl
    refine va_put (D := D) (ci := 2) (v := .int (nI (if 25 ≤ (nI (la + 1)) then 0 else (la + 1)))) (ty := .int) (C := RX2) (T := TX2) (N := 3) hx hb hts uX2_remember_X2 tyX2 tyX2_ok nmX2 hown hK hP hD hS 0 rfl rfl 2 (by decide) (hts _ kX2_remember_0) (fun _ h9 => h9) rfl (by decide +kernel) (rfl) (rfl) (Nat.le_of_ble_eq_true rfl) dX2_remember_22 (fun H locs hP9 hD9 hS9 => ?_)
    replace hP : va_P D vwCl ([(ta, .inr (2, [.ref tar, .int (nI co), .int (nI (if 25 ≤ (nI (la + 1)) then 0 else (la + 1)))])), (tar, .inl (cy 5, 25, .inr (.inr (.inr (.inr (fun i => if i < 25 then some (taf i) else none)))))), (oa, .inr (1, [.ref oap, .ref oaq])), (oap, .inr (3, [.ref oapn])), (oapn, .inl (cy 0, 6, .inl fu)), (oaq, .inr (3, [.ref oaqn])), (oaqn, .inl (cy 0, 6, .inl fv)), (ea, .inr (0, [.ref eax, .ref eay, .int (nI n)])), (eax, .inl (cy 0, 9, .inl xs)), (eay, .inl (cy 0, 9, .inl ys))] ++ yk_fam 25 taf (fun i => .inl (cy 0, 31, .inl (rw i)))) H := hP9
    replace hD : va_D A ([(ta, .inr (2, [.ref tar, .int (nI co), .int (nI (if 25 ≤ (nI (la + 1)) then 0 else (la + 1)))])), (tar, .inl (cy 5, 25, .inr (.inr (.inr (.inr (fun i => if i < 25 then some (taf i) else none)))))), (oa, .inr (1, [.ref oap, .ref oaq])), (oap, .inr (3, [.ref oapn])), (oapn, .inl (cy 0, 6, .inl fu)), (oaq, .inr (3, [.ref oaqn])), (oaqn, .inl (cy 0, 6, .inl fv)), (ea, .inr (0, [.ref eax, .ref eay, .int (nI n)])), (eax, .inl (cy 0, 9, .inl xs)), (eay, .inl (cy 0, 9, .inl ys))] ++ yk_fam 25 taf (fun i => .inl (cy 0, 31, .inl (rw i)))) := hD9
    replace hS := hS9
    clear hP9 hD9 hS9
    refine lv_aload_n hx hb dX2_remember_25 rfl (lv_at hl 0 rfl) ?_
    refine lv_aload_n hx hb dX2_remember_26 rfl (lv_at hl 0 rfl) ?_
    refine va_get (D := D) (ci := 2) (v := .int (nI co)) (C := RX2) (T := TX2) (N := 3) hx hb hts uX2_remember_X2 hown hK hP 0 rfl rfl 1 (by decide) (hts _ kX2_remember_1) (fun _ h9 => h9) rfl dX2_remember_27 ?_
    refine lv_iconst (v := 1) hx hb dX2_remember_30 (by decide) ?_
    refine lv_iadd hx hb dX2_remember_31 ?_
    refine yk_ti (y := nI (co + 1)) (nI_add co 1) ?_
    refine lv_bipush (v := 25) hx hb dX2_remember_32 (by decide) ?_
    refine va_mmin hx hb (hml.trans hl.1.symm) hown (hts _ kX2_remember_2) (hts _ kX2_remember_3) (hts _ kX2_remember_4) (hts _ kX2_remember_5) (by rw [hRf]; exact Nat.le_of_ble_eq_true rfl) (by rw [hRl]; exact Nat.le_of_ble_eq_true rfl) (Nat.zero_le _) (Nat.zero_le _) dX2_remember_34 ?_
    refine yk_ti (y := nI (if 25 < nI (co + 1) then 25 else (co + 1))) (yk_ite 25 (co + 1)) ?_
    refine va_put (D := D) (ci := 2) (v := .int (nI (if 25 < nI (co + 1) then 25 else (co + 1)))) (ty := .int) (C := RX2) (T := TX2) (N := 3) hx hb hts uX2_remember_X2 tyX2 tyX2_ok nmX2 hown hK hP hD hS 0 rfl rfl 1 (by decide) (hts _ kX2_remember_1) (fun _ h9 => h9) rfl (by decide +kernel) (rfl) (rfl) (Nat.le_of_ble_eq_true rfl) dX2_remember_37 (fun H locs hP9 hD9 hS9 => ?_)
    replace hP : va_P D vwCl ([(ta, .inr (2, [.ref tar, .int (nI (if 25 < nI (co + 1) then 25 else (co + 1))), .int (nI (if 25 ≤ (nI (la + 1)) then 0 else (la + 1)))])), (tar, .inl (cy 5, 25, .inr (.inr (.inr (.inr (fun i => if i < 25 then some (taf i) else none)))))), (oa, .inr (1, [.ref oap, .ref oaq])), (oap, .inr (3, [.ref oapn])), (oapn, .inl (cy 0, 6, .inl fu)), (oaq, .inr (3, [.ref oaqn])), (oaqn, .inl (cy 0, 6, .inl fv)), (ea, .inr (0, [.ref eax, .ref eay, .int (nI n)])), (eax, .inl (cy 0, 9, .inl xs)), (eay, .inl (cy 0, 9, .inl ys))] ++ yk_fam 25 taf (fun i => .inl (cy 0, 31, .inl (rw i)))) H := hP9
    replace hD : va_D A ([(ta, .inr (2, [.ref tar, .int (nI (if 25 < nI (co + 1) then 25 else (co + 1))), .int (nI (if 25 ≤ (nI (la + 1)) then 0 else (la + 1)))])), (tar, .inl (cy 5, 25, .inr (.inr (.inr (.inr (fun i => if i < 25 then some (taf i) else none)))))), (oa, .inr (1, [.ref oap, .ref oaq])), (oap, .inr (3, [.ref oapn])), (oapn, .inl (cy 0, 6, .inl fu)), (oaq, .inr (3, [.ref oaqn])), (oaqn, .inl (cy 0, 6, .inl fv)), (ea, .inr (0, [.ref eax, .ref eay, .int (nI n)])), (eax, .inl (cy 0, 9, .inl xs)), (eay, .inl (cy 0, 9, .inl ys))] ++ yk_fam 25 taf (fun i => .inl (cy 0, 31, .inl (rw i)))) := hD9
    replace hS := hS9
    clear hP9 hD9 hS9
    refine lv_aload_n hx hb dX2_remember_40 rfl (lv_at hl 0 rfl) ?_
    refine va_get (D := D) (ci := 2) (v := .ref tar) (C := RX2) (T := TX2) (N := 3) hx hb hts uX2_remember_X2 hown hK hP 0 rfl rfl 0 (by decide) (hts _ kX2_remember_6) (fun _ h9 => h9) rfl dX2_remember_41 ?_
    refine lv_aload_n hx hb dX2_remember_44 rfl (lv_at hl 0 rfl) ?_
    refine va_get (D := D) (ci := 2) (v := .int (nI (if 25 ≤ (nI (la + 1)) then 0 else (la + 1)))) (C := RX2) (T := TX2) (N := 3) hx hb hts uX2_remember_X2 hown hK hP 0 rfl rfl 2 (by decide) (hts _ kX2_remember_0) (fun _ h9 => h9) rfl dX2_remember_45 ?_
    refine yk_alda hx hb hK hP 1 5 rfl rfl (if 25 ≤ (nI (la + 1)) then 0 else (la + 1)) (yk_wrap hla) (by decide) dX2_remember_48 ?_
    refine lv_astore_n (lv' := [(3, .ref (taf (if 25 ≤ (nI (la + 1)) then 0 else (la + 1)))), (0, .ref ta), (1, .ref oa), (2, .ref ea)]) hx hb dX2_remember_49 rfl hl (by decide) rfl (fun ls hl9 => ?_)
    replace hl := hl9
    clear hl9
    refine lv_aload_n hx hb dX2_remember_50 rfl (lv_at hl 2 rfl) ?_
    refine va_get (D := D) (ci := 1) (v := .ref oap) (C := RX1) (T := TX1) (N := 2) hx hb hts uX2_remember_X1 hown hK hP 2 rfl rfl 0 (by decide) (hts _ kX2_remember_7) (fun _ h9 => h9) rfl dX2_remember_51 ?_
    refine va_get (D := D) (ci := 3) (v := .ref oapn) (C := RX3) (T := TX3) (N := 1) hx hb hts uX2_remember_X3 hown hK hP 3 rfl rfl 0 (by decide) (hts _ kX2_remember_8) (fun _ h9 => h9) rfl dX2_remember_54 ?_
    refine lv_iconst (v := 0) hx hb dX2_remember_57 (by decide) ?_
    refine lv_aload_n hx hb dX2_remember_58 rfl (lv_at hl 0 rfl) ?_
    refine lv_iconst (v := 0) hx hb dX2_remember_59 (by decide) ?_
    refine lv_bipush (v := 6) hx hb dX2_remember_60 (by decide) ?_
    refine yk_cpy (sp := 0) (dp := 0) (n := 6) hx hb (hml.trans hl.1.symm) hown (hts _ kX2_remember_9) (hts _ kX2_remember_10) (hts _ kX2_remember_11) (hts _ kX2_remember_12) hK hP hD hS 4 (10 + (if 25 ≤ (nI (la + 1)) then 0 else (la + 1))) rfl (yk_fg _ (yk_wrap hla)) rfl rfl (⟨by omega, by omega⟩) (by omega) (by omega) (by rw [hRf]; exact Nat.le_of_ble_eq_true rfl) (by rw [hRl]; exact Nat.le_of_ble_eq_true rfl) dX2_remember_62 (fun H locs hP9 hD9 hS9 => ?_)
    replace hP9 := yk_fPi _ (yk_wrap hla) hP9
    replace hD9 := yk_fDi _ (yk_wrap hla) hD9
    replace hP : va_P D vwCl ([(ta, .inr (2, [.ref tar, .int (nI (if 25 < nI (co + 1) then 25 else (co + 1))), .int (nI (if 25 ≤ (nI (la + 1)) then 0 else (la + 1)))])), (tar, .inl (cy 5, 25, .inr (.inr (.inr (.inr (fun i => if i < 25 then some (taf i) else none)))))), (oa, .inr (1, [.ref oap, .ref oaq])), (oap, .inr (3, [.ref oapn])), (oapn, .inl (cy 0, 6, .inl fu)), (oaq, .inr (3, [.ref oaqn])), (oaqn, .inl (cy 0, 6, .inl fv)), (ea, .inr (0, [.ref eax, .ref eay, .int (nI n)])), (eax, .inl (cy 0, 9, .inl xs)), (eay, .inl (cy 0, 9, .inl ys))] ++ yk_fam 25 taf (fun i => .inl (cy 0, 31, .inl ((yk_upr rw (if 25 ≤ (nI (la + 1)) then 0 else (la + 1)) (va_cpy fu (rw (if 25 ≤ (nI (la + 1)) then 0 else (la + 1))) 0 0 6)) i)))) H := hP9
    replace hD : va_D A ([(ta, .inr (2, [.ref tar, .int (nI (if 25 < nI (co + 1) then 25 else (co + 1))), .int (nI (if 25 ≤ (nI (la + 1)) then 0 else (la + 1)))])), (tar, .inl (cy 5, 25, .inr (.inr (.inr (.inr (fun i => if i < 25 then some (taf i) else none)))))), (oa, .inr (1, [.ref oap, .ref oaq])), (oap, .inr (3, [.ref oapn])), (oapn, .inl (cy 0, 6, .inl fu)), (oaq, .inr (3, [.ref oaqn])), (oaqn, .inl (cy 0, 6, .inl fv)), (ea, .inr (0, [.ref eax, .ref eay, .int (nI n)])), (eax, .inl (cy 0, 9, .inl xs)), (eay, .inl (cy 0, 9, .inl ys))] ++ yk_fam 25 taf (fun i => .inl (cy 0, 31, .inl ((yk_upr rw (if 25 ≤ (nI (la + 1)) then 0 else (la + 1)) (va_cpy fu (rw (if 25 ≤ (nI (la + 1)) then 0 else (la + 1))) 0 0 6)) i)))) := hD9
    replace hS := hS9
    clear hP9 hD9 hS9
    refine lv_aload_n hx hb dX2_remember_65 rfl (lv_at hl 2 rfl) ?_
    refine va_get (D := D) (ci := 1) (v := .ref oaq) (C := RX1) (T := TX1) (N := 2) hx hb hts uX2_remember_X1 hown hK hP 2 rfl rfl 1 (by decide) (hts _ kX2_remember_13) (fun _ h9 => h9) rfl dX2_remember_66 ?_
    refine va_get (D := D) (ci := 3) (v := .ref oaqn) (C := RX3) (T := TX3) (N := 1) hx hb hts uX2_remember_X3 hown hK hP 5 rfl rfl 0 (by decide) (hts _ kX2_remember_8) (fun _ h9 => h9) rfl dX2_remember_69 ?_
    refine lv_iconst (v := 0) hx hb dX2_remember_72 (by decide) ?_
    refine lv_aload_n hx hb dX2_remember_73 rfl (lv_at hl 0 rfl) ?_
    refine lv_bipush (v := 6) hx hb dX2_remember_74 (by decide) ?_
    refine lv_bipush (v := 6) hx hb dX2_remember_76 (by decide) ?_
    refine yk_cpy (sp := 0) (dp := 6) (n := 6) hx hb (hml.trans hl.1.symm) hown (hts _ kX2_remember_9) (hts _ kX2_remember_10) (hts _ kX2_remember_11) (hts _ kX2_remember_12) hK hP hD hS 6 (10 + (if 25 ≤ (nI (la + 1)) then 0 else (la + 1))) rfl (yk_fg _ (yk_wrap hla)) rfl rfl (⟨by omega, by omega⟩) (by omega) (by omega) (by rw [hRf]; exact Nat.le_of_ble_eq_true rfl) (by rw [hRl]; exact Nat.le_of_ble_eq_true rfl) dX2_remember_78 (fun H locs hP9 hD9 hS9 => ?_)
    replace hP9 := yk_fPi _ (yk_wrap hla) hP9
    replace hD9 := yk_fDi _ (yk_wrap hla) hD9
    replace hP : va_P D vwCl ([(ta, .inr (2, [.ref tar, .int (nI (if 25 < nI (co + 1) then 25 else (co + 1))), .int (nI (if 25 ≤ (nI (la + 1)) then 0 else (la + 1)))])), (tar, .inl (cy 5, 25, .inr (.inr (.inr (.inr (fun i => if i < 25 then some (taf i) else none)))))), (oa, .inr (1, [.ref oap, .ref oaq])), (oap, .inr (3, [.ref oapn])), (oapn, .inl (cy 0, 6, .inl fu)), (oaq, .inr (3, [.ref oaqn])), (oaqn, .inl (cy 0, 6, .inl fv)), (ea, .inr (0, [.ref eax, .ref eay, .int (nI n)])), (eax, .inl (cy 0, 9, .inl xs)), (eay, .inl (cy 0, 9, .inl ys))] ++ yk_fam 25 taf (fun i => .inl (cy 0, 31, .inl ((yk_upr (yk_upr rw (if 25 ≤ (nI (la + 1)) then 0 else (la + 1)) (va_cpy fu (rw (if 25 ≤ (nI (la + 1)) then 0 else (la + 1))) 0 0 6)) (if 25 ≤ (nI (la + 1)) then 0 else (la + 1)) (va_cpy fv ((yk_upr rw (if 25 ≤ (nI (la + 1)) then 0 else (la + 1)) (va_cpy fu (rw (if 25 ≤ (nI (la + 1)) then 0 else (la + 1))) 0 0 6)) (if 25 ≤ (nI (la + 1)) then 0 else (la + 1))) 0 6 6)) i)))) H := hP9
    replace hD : va_D A ([(ta, .inr (2, [.ref tar, .int (nI (if 25 < nI (co + 1) then 25 else (co + 1))), .int (nI (if 25 ≤ (nI (la + 1)) then 0 else (la + 1)))])), (tar, .inl (cy 5, 25, .inr (.inr (.inr (.inr (fun i => if i < 25 then some (taf i) else none)))))), (oa, .inr (1, [.ref oap, .ref oaq])), (oap, .inr (3, [.ref oapn])), (oapn, .inl (cy 0, 6, .inl fu)), (oaq, .inr (3, [.ref oaqn])), (oaqn, .inl (cy 0, 6, .inl fv)), (ea, .inr (0, [.ref eax, .ref eay, .int (nI n)])), (eax, .inl (cy 0, 9, .inl xs)), (eay, .inl (cy 0, 9, .inl ys))] ++ yk_fam 25 taf (fun i => .inl (cy 0, 31, .inl ((yk_upr (yk_upr rw (if 25 ≤ (nI (la + 1)) then 0 else (la + 1)) (va_cpy fu (rw (if 25 ≤ (nI (la + 1)) then 0 else (la + 1))) 0 0 6)) (if 25 ≤ (nI (la + 1)) then 0 else (la + 1)) (va_cpy fv ((yk_upr rw (if 25 ≤ (nI (la + 1)) then 0 else (la + 1)) (va_cpy fu (rw (if 25 ≤ (nI (la + 1)) then 0 else (la + 1))) 0 0 6)) (if 25 ≤ (nI (la + 1)) then 0 else (la + 1))) 0 6 6)) i)))) := hD9
    replace hS := hS9
    clear hP9 hD9 hS9
    refine lv_aload_n hx hb dX2_remember_81 rfl (lv_at hl 0 rfl) ?_
    refine lv_bipush (v := 12) hx hb dX2_remember_82 (by decide) ?_
    refine lv_aload_n hx hb dX2_remember_84 rfl (lv_at hl 3 rfl) ?_
    refine va_get (D := D) (ci := 0) (v := .int (nI n)) (C := RX0) (T := TX0) (N := 3) hx hb hts uX2_remember_X0 hown hK hP 7 rfl rfl 2 (by decide) (hts _ kX2_remember_14) (fun _ h9 => h9) rfl dX2_remember_85 ?_
    refine yk_ist hx hb hK hP hD hS (10 + (if 25 ≤ (nI (la + 1)) then 0 else (la + 1))) 0 (yk_fg _ (yk_wrap hla)) rfl 12 (by omega) (by decide) dX2_remember_88 (fun H locs hP9 hD9 hS9 => ?_)
    replace hP9 := yk_fPi _ (yk_wrap hla) hP9
    replace hD9 := yk_fDi _ (yk_wrap hla) hD9
    replace hP : va_P D vwCl ([(ta, .inr (2, [.ref tar, .int (nI (if 25 < nI (co + 1) then 25 else (co + 1))), .int (nI (if 25 ≤ (nI (la + 1)) then 0 else (la + 1)))])), (tar, .inl (cy 5, 25, .inr (.inr (.inr (.inr (fun i => if i < 25 then some (taf i) else none)))))), (oa, .inr (1, [.ref oap, .ref oaq])), (oap, .inr (3, [.ref oapn])), (oapn, .inl (cy 0, 6, .inl fu)), (oaq, .inr (3, [.ref oaqn])), (oaqn, .inl (cy 0, 6, .inl fv)), (ea, .inr (0, [.ref eax, .ref eay, .int (nI n)])), (eax, .inl (cy 0, 9, .inl xs)), (eay, .inl (cy 0, 9, .inl ys))] ++ yk_fam 25 taf (fun i => .inl (cy 0, 31, .inl ((yk_upr (yk_upr (yk_upr rw (if 25 ≤ (nI (la + 1)) then 0 else (la + 1)) (va_cpy fu (rw (if 25 ≤ (nI (la + 1)) then 0 else (la + 1))) 0 0 6)) (if 25 ≤ (nI (la + 1)) then 0 else (la + 1)) (va_cpy fv ((yk_upr rw (if 25 ≤ (nI (la + 1)) then 0 else (la + 1)) (va_cpy fu (rw (if 25 ≤ (nI (la + 1)) then 0 else (la + 1))) 0 0 6)) (if 25 ≤ (nI (la + 1)) then 0 else (la + 1))) 0 6 6)) (if 25 ≤ (nI (la + 1)) then 0 else (la + 1)) (upd ((yk_upr (yk_upr rw (if 25 ≤ (nI (la + 1)) then 0 else (la + 1)) (va_cpy fu (rw (if 25 ≤ (nI (la + 1)) then 0 else (la + 1))) 0 0 6)) (if 25 ≤ (nI (la + 1)) then 0 else (la + 1)) (va_cpy fv ((yk_upr rw (if 25 ≤ (nI (la + 1)) then 0 else (la + 1)) (va_cpy fu (rw (if 25 ≤ (nI (la + 1)) then 0 else (la + 1))) 0 0 6)) (if 25 ≤ (nI (la + 1)) then 0 else (la + 1))) 0 6 6)) (if 25 ≤ (nI (la + 1)) then 0 else (la + 1))) 12 (nI n))) i)))) H := hP9
    replace hD : va_D A ([(ta, .inr (2, [.ref tar, .int (nI (if 25 < nI (co + 1) then 25 else (co + 1))), .int (nI (if 25 ≤ (nI (la + 1)) then 0 else (la + 1)))])), (tar, .inl (cy 5, 25, .inr (.inr (.inr (.inr (fun i => if i < 25 then some (taf i) else none)))))), (oa, .inr (1, [.ref oap, .ref oaq])), (oap, .inr (3, [.ref oapn])), (oapn, .inl (cy 0, 6, .inl fu)), (oaq, .inr (3, [.ref oaqn])), (oaqn, .inl (cy 0, 6, .inl fv)), (ea, .inr (0, [.ref eax, .ref eay, .int (nI n)])), (eax, .inl (cy 0, 9, .inl xs)), (eay, .inl (cy 0, 9, .inl ys))] ++ yk_fam 25 taf (fun i => .inl (cy 0, 31, .inl ((yk_upr (yk_upr (yk_upr rw (if 25 ≤ (nI (la + 1)) then 0 else (la + 1)) (va_cpy fu (rw (if 25 ≤ (nI (la + 1)) then 0 else (la + 1))) 0 0 6)) (if 25 ≤ (nI (la + 1)) then 0 else (la + 1)) (va_cpy fv ((yk_upr rw (if 25 ≤ (nI (la + 1)) then 0 else (la + 1)) (va_cpy fu (rw (if 25 ≤ (nI (la + 1)) then 0 else (la + 1))) 0 0 6)) (if 25 ≤ (nI (la + 1)) then 0 else (la + 1))) 0 6 6)) (if 25 ≤ (nI (la + 1)) then 0 else (la + 1)) (upd ((yk_upr (yk_upr rw (if 25 ≤ (nI (la + 1)) then 0 else (la + 1)) (va_cpy fu (rw (if 25 ≤ (nI (la + 1)) then 0 else (la + 1))) 0 0 6)) (if 25 ≤ (nI (la + 1)) then 0 else (la + 1)) (va_cpy fv ((yk_upr rw (if 25 ≤ (nI (la + 1)) then 0 else (la + 1)) (va_cpy fu (rw (if 25 ≤ (nI (la + 1)) then 0 else (la + 1))) 0 0 6)) (if 25 ≤ (nI (la + 1)) then 0 else (la + 1))) 0 6 6)) (if 25 ≤ (nI (la + 1)) then 0 else (la + 1))) 12 (nI n))) i)))) := hD9
    replace hS := hS9
    clear hP9 hD9 hS9
    refine lv_aload_n hx hb dX2_remember_89 rfl (lv_at hl 3 rfl) ?_
    refine va_get (D := D) (ci := 0) (v := .ref eax) (C := RX0) (T := TX0) (N := 3) hx hb hts uX2_remember_X0 hown hK hP 7 rfl rfl 0 (by decide) (hts _ kX2_remember_15) (fun _ h9 => h9) rfl dX2_remember_90 ?_
    refine lv_iconst (v := 0) hx hb dX2_remember_93 (by decide) ?_
    refine lv_aload_n hx hb dX2_remember_94 rfl (lv_at hl 0 rfl) ?_
    refine lv_bipush (v := 13) hx hb dX2_remember_95 (by decide) ?_
    refine lv_bipush (v := 9) hx hb dX2_remember_97 (by decide) ?_
    refine yk_cpy (sp := 0) (dp := 13) (n := 9) hx hb (hml.trans hl.1.symm) hown (hts _ kX2_remember_9) (hts _ kX2_remember_10) (hts _ kX2_remember_11) (hts _ kX2_remember_12) hK hP hD hS 8 (10 + (if 25 ≤ (nI (la + 1)) then 0 else (la + 1))) rfl (yk_fg _ (yk_wrap hla)) rfl rfl (⟨by omega, by omega⟩) (by omega) (by omega) (by rw [hRf]; exact Nat.le_of_ble_eq_true rfl) (by rw [hRl]; exact Nat.le_of_ble_eq_true rfl) dX2_remember_99 (fun H locs hP9 hD9 hS9 => ?_)
    replace hP9 := yk_fPi _ (yk_wrap hla) hP9
    replace hD9 := yk_fDi _ (yk_wrap hla) hD9
    replace hP : va_P D vwCl ([(ta, .inr (2, [.ref tar, .int (nI (if 25 < nI (co + 1) then 25 else (co + 1))), .int (nI (if 25 ≤ (nI (la + 1)) then 0 else (la + 1)))])), (tar, .inl (cy 5, 25, .inr (.inr (.inr (.inr (fun i => if i < 25 then some (taf i) else none)))))), (oa, .inr (1, [.ref oap, .ref oaq])), (oap, .inr (3, [.ref oapn])), (oapn, .inl (cy 0, 6, .inl fu)), (oaq, .inr (3, [.ref oaqn])), (oaqn, .inl (cy 0, 6, .inl fv)), (ea, .inr (0, [.ref eax, .ref eay, .int (nI n)])), (eax, .inl (cy 0, 9, .inl xs)), (eay, .inl (cy 0, 9, .inl ys))] ++ yk_fam 25 taf (fun i => .inl (cy 0, 31, .inl ((yk_upr (yk_upr (yk_upr (yk_upr rw (if 25 ≤ (nI (la + 1)) then 0 else (la + 1)) (va_cpy fu (rw (if 25 ≤ (nI (la + 1)) then 0 else (la + 1))) 0 0 6)) (if 25 ≤ (nI (la + 1)) then 0 else (la + 1)) (va_cpy fv ((yk_upr rw (if 25 ≤ (nI (la + 1)) then 0 else (la + 1)) (va_cpy fu (rw (if 25 ≤ (nI (la + 1)) then 0 else (la + 1))) 0 0 6)) (if 25 ≤ (nI (la + 1)) then 0 else (la + 1))) 0 6 6)) (if 25 ≤ (nI (la + 1)) then 0 else (la + 1)) (upd ((yk_upr (yk_upr rw (if 25 ≤ (nI (la + 1)) then 0 else (la + 1)) (va_cpy fu (rw (if 25 ≤ (nI (la + 1)) then 0 else (la + 1))) 0 0 6)) (if 25 ≤ (nI (la + 1)) then 0 else (la + 1)) (va_cpy fv ((yk_upr rw (if 25 ≤ (nI (la + 1)) then 0 else (la + 1)) (va_cpy fu (rw (if 25 ≤ (nI (la + 1)) then 0 else (la + 1))) 0 0 6)) (if 25 ≤ (nI (la + 1)) then 0 else (la + 1))) 0 6 6)) (if 25 ≤ (nI (la + 1)) then 0 else (la + 1))) 12 (nI n))) (if 25 ≤ (nI (la + 1)) then 0 else (la + 1)) (va_cpy xs ((yk_upr (yk_upr (yk_upr rw (if 25 ≤ (nI (la + 1)) then 0 else (la + 1)) (va_cpy fu (rw (if 25 ≤ (nI (la + 1)) then 0 else (la + 1))) 0 0 6)) (if 25 ≤ (nI (la + 1)) then 0 else (la + 1)) (va_cpy fv ((yk_upr rw (if 25 ≤ (nI (la + 1)) then 0 else (la + 1)) (va_cpy fu (rw (if 25 ≤ (nI (la + 1)) then 0 else (la + 1))) 0 0 6)) (if 25 ≤ (nI (la + 1)) then 0 else (la + 1))) 0 6 6)) (if 25 ≤ (nI (la + 1)) then 0 else (la + 1)) (upd ((yk_upr (yk_upr rw (if 25 ≤ (nI (la + 1)) then 0 else (la + 1)) (va_cpy fu (rw (if 25 ≤ (nI (la + 1)) then 0 else (la + 1))) 0 0 6)) (if 25 ≤ (nI (la + 1)) then 0 else (la + 1)) (va_cpy fv ((yk_upr rw (if 25 ≤ (nI (la + 1)) then 0 else (la + 1)) (va_cpy fu (rw (if 25 ≤ (nI (la + 1)) then 0 else (la + 1))) 0 0 6)) (if 25 ≤ (nI (la + 1)) then 0 else (la + 1))) 0 6 6)) (if 25 ≤ (nI (la + 1)) then 0 else (la + 1))) 12 (nI n))) (if 25 ≤ (nI (la + 1)) then 0 else (la + 1))) 0 13 9)) i)))) H := hP9
    replace hD : va_D A ([(ta, .inr (2, [.ref tar, .int (nI (if 25 < nI (co + 1) then 25 else (co + 1))), .int (nI (if 25 ≤ (nI (la + 1)) then 0 else (la + 1)))])), (tar, .inl (cy 5, 25, .inr (.inr (.inr (.inr (fun i => if i < 25 then some (taf i) else none)))))), (oa, .inr (1, [.ref oap, .ref oaq])), (oap, .inr (3, [.ref oapn])), (oapn, .inl (cy 0, 6, .inl fu)), (oaq, .inr (3, [.ref oaqn])), (oaqn, .inl (cy 0, 6, .inl fv)), (ea, .inr (0, [.ref eax, .ref eay, .int (nI n)])), (eax, .inl (cy 0, 9, .inl xs)), (eay, .inl (cy 0, 9, .inl ys))] ++ yk_fam 25 taf (fun i => .inl (cy 0, 31, .inl ((yk_upr (yk_upr (yk_upr (yk_upr rw (if 25 ≤ (nI (la + 1)) then 0 else (la + 1)) (va_cpy fu (rw (if 25 ≤ (nI (la + 1)) then 0 else (la + 1))) 0 0 6)) (if 25 ≤ (nI (la + 1)) then 0 else (la + 1)) (va_cpy fv ((yk_upr rw (if 25 ≤ (nI (la + 1)) then 0 else (la + 1)) (va_cpy fu (rw (if 25 ≤ (nI (la + 1)) then 0 else (la + 1))) 0 0 6)) (if 25 ≤ (nI (la + 1)) then 0 else (la + 1))) 0 6 6)) (if 25 ≤ (nI (la + 1)) then 0 else (la + 1)) (upd ((yk_upr (yk_upr rw (if 25 ≤ (nI (la + 1)) then 0 else (la + 1)) (va_cpy fu (rw (if 25 ≤ (nI (la + 1)) then 0 else (la + 1))) 0 0 6)) (if 25 ≤ (nI (la + 1)) then 0 else (la + 1)) (va_cpy fv ((yk_upr rw (if 25 ≤ (nI (la + 1)) then 0 else (la + 1)) (va_cpy fu (rw (if 25 ≤ (nI (la + 1)) then 0 else (la + 1))) 0 0 6)) (if 25 ≤ (nI (la + 1)) then 0 else (la + 1))) 0 6 6)) (if 25 ≤ (nI (la + 1)) then 0 else (la + 1))) 12 (nI n))) (if 25 ≤ (nI (la + 1)) then 0 else (la + 1)) (va_cpy xs ((yk_upr (yk_upr (yk_upr rw (if 25 ≤ (nI (la + 1)) then 0 else (la + 1)) (va_cpy fu (rw (if 25 ≤ (nI (la + 1)) then 0 else (la + 1))) 0 0 6)) (if 25 ≤ (nI (la + 1)) then 0 else (la + 1)) (va_cpy fv ((yk_upr rw (if 25 ≤ (nI (la + 1)) then 0 else (la + 1)) (va_cpy fu (rw (if 25 ≤ (nI (la + 1)) then 0 else (la + 1))) 0 0 6)) (if 25 ≤ (nI (la + 1)) then 0 else (la + 1))) 0 6 6)) (if 25 ≤ (nI (la + 1)) then 0 else (la + 1)) (upd ((yk_upr (yk_upr rw (if 25 ≤ (nI (la + 1)) then 0 else (la + 1)) (va_cpy fu (rw (if 25 ≤ (nI (la + 1)) then 0 else (la + 1))) 0 0 6)) (if 25 ≤ (nI (la + 1)) then 0 else (la + 1)) (va_cpy fv ((yk_upr rw (if 25 ≤ (nI (la + 1)) then 0 else (la + 1)) (va_cpy fu (rw (if 25 ≤ (nI (la + 1)) then 0 else (la + 1))) 0 0 6)) (if 25 ≤ (nI (la + 1)) then 0 else (la + 1))) 0 6 6)) (if 25 ≤ (nI (la + 1)) then 0 else (la + 1))) 12 (nI n))) (if 25 ≤ (nI (la + 1)) then 0 else (la + 1))) 0 13 9)) i)))) := hD9
    replace hS := hS9
    clear hP9 hD9 hS9
    refine lv_aload_n hx hb dX2_remember_102 rfl (lv_at hl 3 rfl) ?_
    refine va_get (D := D) (ci := 0) (v := .ref eay) (C := RX0) (T := TX0) (N := 3) hx hb hts uX2_remember_X0 hown hK hP 7 rfl rfl 1 (by decide) (hts _ kX2_remember_16) (fun _ h9 => h9) rfl dX2_remember_103 ?_
    refine lv_iconst (v := 0) hx hb dX2_remember_106 (by decide) ?_
    refine lv_aload_n hx hb dX2_remember_107 rfl (lv_at hl 0 rfl) ?_
    refine lv_bipush (v := 22) hx hb dX2_remember_108 (by decide) ?_
    refine lv_bipush (v := 9) hx hb dX2_remember_110 (by decide) ?_
    refine yk_cpy (sp := 0) (dp := 22) (n := 9) hx hb (hml.trans hl.1.symm) hown (hts _ kX2_remember_9) (hts _ kX2_remember_10) (hts _ kX2_remember_11) (hts _ kX2_remember_12) hK hP hD hS 9 (10 + (if 25 ≤ (nI (la + 1)) then 0 else (la + 1))) rfl (yk_fg _ (yk_wrap hla)) rfl rfl (⟨by omega, by omega⟩) (by omega) (by omega) (by rw [hRf]; exact Nat.le_of_ble_eq_true rfl) (by rw [hRl]; exact Nat.le_of_ble_eq_true rfl) dX2_remember_112 (fun H locs hP9 hD9 hS9 => ?_)
    replace hP9 := yk_fPi _ (yk_wrap hla) hP9
    replace hD9 := yk_fDi _ (yk_wrap hla) hD9
    replace hP : va_P D vwCl ([(ta, .inr (2, [.ref tar, .int (nI (if 25 < nI (co + 1) then 25 else (co + 1))), .int (nI (if 25 ≤ (nI (la + 1)) then 0 else (la + 1)))])), (tar, .inl (cy 5, 25, .inr (.inr (.inr (.inr (fun i => if i < 25 then some (taf i) else none)))))), (oa, .inr (1, [.ref oap, .ref oaq])), (oap, .inr (3, [.ref oapn])), (oapn, .inl (cy 0, 6, .inl fu)), (oaq, .inr (3, [.ref oaqn])), (oaqn, .inl (cy 0, 6, .inl fv)), (ea, .inr (0, [.ref eax, .ref eay, .int (nI n)])), (eax, .inl (cy 0, 9, .inl xs)), (eay, .inl (cy 0, 9, .inl ys))] ++ yk_fam 25 taf (fun i => .inl (cy 0, 31, .inl ((yk_upr (yk_upr (yk_upr (yk_upr (yk_upr rw (if 25 ≤ (nI (la + 1)) then 0 else (la + 1)) (va_cpy fu (rw (if 25 ≤ (nI (la + 1)) then 0 else (la + 1))) 0 0 6)) (if 25 ≤ (nI (la + 1)) then 0 else (la + 1)) (va_cpy fv ((yk_upr rw (if 25 ≤ (nI (la + 1)) then 0 else (la + 1)) (va_cpy fu (rw (if 25 ≤ (nI (la + 1)) then 0 else (la + 1))) 0 0 6)) (if 25 ≤ (nI (la + 1)) then 0 else (la + 1))) 0 6 6)) (if 25 ≤ (nI (la + 1)) then 0 else (la + 1)) (upd ((yk_upr (yk_upr rw (if 25 ≤ (nI (la + 1)) then 0 else (la + 1)) (va_cpy fu (rw (if 25 ≤ (nI (la + 1)) then 0 else (la + 1))) 0 0 6)) (if 25 ≤ (nI (la + 1)) then 0 else (la + 1)) (va_cpy fv ((yk_upr rw (if 25 ≤ (nI (la + 1)) then 0 else (la + 1)) (va_cpy fu (rw (if 25 ≤ (nI (la + 1)) then 0 else (la + 1))) 0 0 6)) (if 25 ≤ (nI (la + 1)) then 0 else (la + 1))) 0 6 6)) (if 25 ≤ (nI (la + 1)) then 0 else (la + 1))) 12 (nI n))) (if 25 ≤ (nI (la + 1)) then 0 else (la + 1)) (va_cpy xs ((yk_upr (yk_upr (yk_upr rw (if 25 ≤ (nI (la + 1)) then 0 else (la + 1)) (va_cpy fu (rw (if 25 ≤ (nI (la + 1)) then 0 else (la + 1))) 0 0 6)) (if 25 ≤ (nI (la + 1)) then 0 else (la + 1)) (va_cpy fv ((yk_upr rw (if 25 ≤ (nI (la + 1)) then 0 else (la + 1)) (va_cpy fu (rw (if 25 ≤ (nI (la + 1)) then 0 else (la + 1))) 0 0 6)) (if 25 ≤ (nI (la + 1)) then 0 else (la + 1))) 0 6 6)) (if 25 ≤ (nI (la + 1)) then 0 else (la + 1)) (upd ((yk_upr (yk_upr rw (if 25 ≤ (nI (la + 1)) then 0 else (la + 1)) (va_cpy fu (rw (if 25 ≤ (nI (la + 1)) then 0 else (la + 1))) 0 0 6)) (if 25 ≤ (nI (la + 1)) then 0 else (la + 1)) (va_cpy fv ((yk_upr rw (if 25 ≤ (nI (la + 1)) then 0 else (la + 1)) (va_cpy fu (rw (if 25 ≤ (nI (la + 1)) then 0 else (la + 1))) 0 0 6)) (if 25 ≤ (nI (la + 1)) then 0 else (la + 1))) 0 6 6)) (if 25 ≤ (nI (la + 1)) then 0 else (la + 1))) 12 (nI n))) (if 25 ≤ (nI (la + 1)) then 0 else (la + 1))) 0 13 9)) (if 25 ≤ (nI (la + 1)) then 0 else (la + 1)) (va_cpy ys ((yk_upr (yk_upr (yk_upr (yk_upr rw (if 25 ≤ (nI (la + 1)) then 0 else (la + 1)) (va_cpy fu (rw (if 25 ≤ (nI (la + 1)) then 0 else (la + 1))) 0 0 6)) (if 25 ≤ (nI (la + 1)) then 0 else (la + 1)) (va_cpy fv ((yk_upr rw (if 25 ≤ (nI (la + 1)) then 0 else (la + 1)) (va_cpy fu (rw (if 25 ≤ (nI (la + 1)) then 0 else (la + 1))) 0 0 6)) (if 25 ≤ (nI (la + 1)) then 0 else (la + 1))) 0 6 6)) (if 25 ≤ (nI (la + 1)) then 0 else (la + 1)) (upd ((yk_upr (yk_upr rw (if 25 ≤ (nI (la + 1)) then 0 else (la + 1)) (va_cpy fu (rw (if 25 ≤ (nI (la + 1)) then 0 else (la + 1))) 0 0 6)) (if 25 ≤ (nI (la + 1)) then 0 else (la + 1)) (va_cpy fv ((yk_upr rw (if 25 ≤ (nI (la + 1)) then 0 else (la + 1)) (va_cpy fu (rw (if 25 ≤ (nI (la + 1)) then 0 else (la + 1))) 0 0 6)) (if 25 ≤ (nI (la + 1)) then 0 else (la + 1))) 0 6 6)) (if 25 ≤ (nI (la + 1)) then 0 else (la + 1))) 12 (nI n))) (if 25 ≤ (nI (la + 1)) then 0 else (la + 1)) (va_cpy xs ((yk_upr (yk_upr (yk_upr rw (if 25 ≤ (nI (la + 1)) then 0 else (la + 1)) (va_cpy fu (rw (if 25 ≤ (nI (la + 1)) then 0 else (la + 1))) 0 0 6)) (if 25 ≤ (nI (la + 1)) then 0 else (la + 1)) (va_cpy fv ((yk_upr rw (if 25 ≤ (nI (la + 1)) then 0 else (la + 1)) (va_cpy fu (rw (if 25 ≤ (nI (la + 1)) then 0 else (la + 1))) 0 0 6)) (if 25 ≤ (nI (la + 1)) then 0 else (la + 1))) 0 6 6)) (if 25 ≤ (nI (la + 1)) then 0 else (la + 1)) (upd ((yk_upr (yk_upr rw (if 25 ≤ (nI (la + 1)) then 0 else (la + 1)) (va_cpy fu (rw (if 25 ≤ (nI (la + 1)) then 0 else (la + 1))) 0 0 6)) (if 25 ≤ (nI (la + 1)) then 0 else (la + 1)) (va_cpy fv ((yk_upr rw (if 25 ≤ (nI (la + 1)) then 0 else (la + 1)) (va_cpy fu (rw (if 25 ≤ (nI (la + 1)) then 0 else (la + 1))) 0 0 6)) (if 25 ≤ (nI (la + 1)) then 0 else (la + 1))) 0 6 6)) (if 25 ≤ (nI (la + 1)) then 0 else (la + 1))) 12 (nI n))) (if 25 ≤ (nI (la + 1)) then 0 else (la + 1))) 0 13 9)) (if 25 ≤ (nI (la + 1)) then 0 else (la + 1))) 0 22 9)) i)))) H := hP9
    replace hD : va_D A ([(ta, .inr (2, [.ref tar, .int (nI (if 25 < nI (co + 1) then 25 else (co + 1))), .int (nI (if 25 ≤ (nI (la + 1)) then 0 else (la + 1)))])), (tar, .inl (cy 5, 25, .inr (.inr (.inr (.inr (fun i => if i < 25 then some (taf i) else none)))))), (oa, .inr (1, [.ref oap, .ref oaq])), (oap, .inr (3, [.ref oapn])), (oapn, .inl (cy 0, 6, .inl fu)), (oaq, .inr (3, [.ref oaqn])), (oaqn, .inl (cy 0, 6, .inl fv)), (ea, .inr (0, [.ref eax, .ref eay, .int (nI n)])), (eax, .inl (cy 0, 9, .inl xs)), (eay, .inl (cy 0, 9, .inl ys))] ++ yk_fam 25 taf (fun i => .inl (cy 0, 31, .inl ((yk_upr (yk_upr (yk_upr (yk_upr (yk_upr rw (if 25 ≤ (nI (la + 1)) then 0 else (la + 1)) (va_cpy fu (rw (if 25 ≤ (nI (la + 1)) then 0 else (la + 1))) 0 0 6)) (if 25 ≤ (nI (la + 1)) then 0 else (la + 1)) (va_cpy fv ((yk_upr rw (if 25 ≤ (nI (la + 1)) then 0 else (la + 1)) (va_cpy fu (rw (if 25 ≤ (nI (la + 1)) then 0 else (la + 1))) 0 0 6)) (if 25 ≤ (nI (la + 1)) then 0 else (la + 1))) 0 6 6)) (if 25 ≤ (nI (la + 1)) then 0 else (la + 1)) (upd ((yk_upr (yk_upr rw (if 25 ≤ (nI (la + 1)) then 0 else (la + 1)) (va_cpy fu (rw (if 25 ≤ (nI (la + 1)) then 0 else (la + 1))) 0 0 6)) (if 25 ≤ (nI (la + 1)) then 0 else (la + 1)) (va_cpy fv ((yk_upr rw (if 25 ≤ (nI (la + 1)) then 0 else (la + 1)) (va_cpy fu (rw (if 25 ≤ (nI (la + 1)) then 0 else (la + 1))) 0 0 6)) (if 25 ≤ (nI (la + 1)) then 0 else (la + 1))) 0 6 6)) (if 25 ≤ (nI (la + 1)) then 0 else (la + 1))) 12 (nI n))) (if 25 ≤ (nI (la + 1)) then 0 else (la + 1)) (va_cpy xs ((yk_upr (yk_upr (yk_upr rw (if 25 ≤ (nI (la + 1)) then 0 else (la + 1)) (va_cpy fu (rw (if 25 ≤ (nI (la + 1)) then 0 else (la + 1))) 0 0 6)) (if 25 ≤ (nI (la + 1)) then 0 else (la + 1)) (va_cpy fv ((yk_upr rw (if 25 ≤ (nI (la + 1)) then 0 else (la + 1)) (va_cpy fu (rw (if 25 ≤ (nI (la + 1)) then 0 else (la + 1))) 0 0 6)) (if 25 ≤ (nI (la + 1)) then 0 else (la + 1))) 0 6 6)) (if 25 ≤ (nI (la + 1)) then 0 else (la + 1)) (upd ((yk_upr (yk_upr rw (if 25 ≤ (nI (la + 1)) then 0 else (la + 1)) (va_cpy fu (rw (if 25 ≤ (nI (la + 1)) then 0 else (la + 1))) 0 0 6)) (if 25 ≤ (nI (la + 1)) then 0 else (la + 1)) (va_cpy fv ((yk_upr rw (if 25 ≤ (nI (la + 1)) then 0 else (la + 1)) (va_cpy fu (rw (if 25 ≤ (nI (la + 1)) then 0 else (la + 1))) 0 0 6)) (if 25 ≤ (nI (la + 1)) then 0 else (la + 1))) 0 6 6)) (if 25 ≤ (nI (la + 1)) then 0 else (la + 1))) 12 (nI n))) (if 25 ≤ (nI (la + 1)) then 0 else (la + 1))) 0 13 9)) (if 25 ≤ (nI (la + 1)) then 0 else (la + 1)) (va_cpy ys ((yk_upr (yk_upr (yk_upr (yk_upr rw (if 25 ≤ (nI (la + 1)) then 0 else (la + 1)) (va_cpy fu (rw (if 25 ≤ (nI (la + 1)) then 0 else (la + 1))) 0 0 6)) (if 25 ≤ (nI (la + 1)) then 0 else (la + 1)) (va_cpy fv ((yk_upr rw (if 25 ≤ (nI (la + 1)) then 0 else (la + 1)) (va_cpy fu (rw (if 25 ≤ (nI (la + 1)) then 0 else (la + 1))) 0 0 6)) (if 25 ≤ (nI (la + 1)) then 0 else (la + 1))) 0 6 6)) (if 25 ≤ (nI (la + 1)) then 0 else (la + 1)) (upd ((yk_upr (yk_upr rw (if 25 ≤ (nI (la + 1)) then 0 else (la + 1)) (va_cpy fu (rw (if 25 ≤ (nI (la + 1)) then 0 else (la + 1))) 0 0 6)) (if 25 ≤ (nI (la + 1)) then 0 else (la + 1)) (va_cpy fv ((yk_upr rw (if 25 ≤ (nI (la + 1)) then 0 else (la + 1)) (va_cpy fu (rw (if 25 ≤ (nI (la + 1)) then 0 else (la + 1))) 0 0 6)) (if 25 ≤ (nI (la + 1)) then 0 else (la + 1))) 0 6 6)) (if 25 ≤ (nI (la + 1)) then 0 else (la + 1))) 12 (nI n))) (if 25 ≤ (nI (la + 1)) then 0 else (la + 1)) (va_cpy xs ((yk_upr (yk_upr (yk_upr rw (if 25 ≤ (nI (la + 1)) then 0 else (la + 1)) (va_cpy fu (rw (if 25 ≤ (nI (la + 1)) then 0 else (la + 1))) 0 0 6)) (if 25 ≤ (nI (la + 1)) then 0 else (la + 1)) (va_cpy fv ((yk_upr rw (if 25 ≤ (nI (la + 1)) then 0 else (la + 1)) (va_cpy fu (rw (if 25 ≤ (nI (la + 1)) then 0 else (la + 1))) 0 0 6)) (if 25 ≤ (nI (la + 1)) then 0 else (la + 1))) 0 6 6)) (if 25 ≤ (nI (la + 1)) then 0 else (la + 1)) (upd ((yk_upr (yk_upr rw (if 25 ≤ (nI (la + 1)) then 0 else (la + 1)) (va_cpy fu (rw (if 25 ≤ (nI (la + 1)) then 0 else (la + 1))) 0 0 6)) (if 25 ≤ (nI (la + 1)) then 0 else (la + 1)) (va_cpy fv ((yk_upr rw (if 25 ≤ (nI (la + 1)) then 0 else (la + 1)) (va_cpy fu (rw (if 25 ≤ (nI (la + 1)) then 0 else (la + 1))) 0 0 6)) (if 25 ≤ (nI (la + 1)) then 0 else (la + 1))) 0 6 6)) (if 25 ≤ (nI (la + 1)) then 0 else (la + 1))) 12 (nI n))) (if 25 ≤ (nI (la + 1)) then 0 else (la + 1))) 0 13 9)) (if 25 ≤ (nI (la + 1)) then 0 else (la + 1))) 0 22 9)) i)))) := hD9
    replace hS := hS9
    clear hP9 hD9 hS9
    have hF : f_X2_remember rw co la fu fv xs ys n = ((if 25 < nI (co + 1) then 25 else (co + 1)), (if 25 ≤ (nI (la + 1)) then 0 else (la + 1)), (yk_upr (yk_upr (yk_upr (yk_upr (yk_upr rw (if 25 ≤ (nI (la + 1)) then 0 else (la + 1)) (va_cpy fu (rw (if 25 ≤ (nI (la + 1)) then 0 else (la + 1))) 0 0 6)) (if 25 ≤ (nI (la + 1)) then 0 else (la + 1)) (va_cpy fv ((yk_upr rw (if 25 ≤ (nI (la + 1)) then 0 else (la + 1)) (va_cpy fu (rw (if 25 ≤ (nI (la + 1)) then 0 else (la + 1))) 0 0 6)) (if 25 ≤ (nI (la + 1)) then 0 else (la + 1))) 0 6 6)) (if 25 ≤ (nI (la + 1)) then 0 else (la + 1)) (upd ((yk_upr (yk_upr rw (if 25 ≤ (nI (la + 1)) then 0 else (la + 1)) (va_cpy fu (rw (if 25 ≤ (nI (la + 1)) then 0 else (la + 1))) 0 0 6)) (if 25 ≤ (nI (la + 1)) then 0 else (la + 1)) (va_cpy fv ((yk_upr rw (if 25 ≤ (nI (la + 1)) then 0 else (la + 1)) (va_cpy fu (rw (if 25 ≤ (nI (la + 1)) then 0 else (la + 1))) 0 0 6)) (if 25 ≤ (nI (la + 1)) then 0 else (la + 1))) 0 6 6)) (if 25 ≤ (nI (la + 1)) then 0 else (la + 1))) 12 (nI n))) (if 25 ≤ (nI (la + 1)) then 0 else (la + 1)) (va_cpy xs ((yk_upr (yk_upr (yk_upr rw (if 25 ≤ (nI (la + 1)) then 0 else (la + 1)) (va_cpy fu (rw (if 25 ≤ (nI (la + 1)) then 0 else (la + 1))) 0 0 6)) (if 25 ≤ (nI (la + 1)) then 0 else (la + 1)) (va_cpy fv ((yk_upr rw (if 25 ≤ (nI (la + 1)) then 0 else (la + 1)) (va_cpy fu (rw (if 25 ≤ (nI (la + 1)) then 0 else (la + 1))) 0 0 6)) (if 25 ≤ (nI (la + 1)) then 0 else (la + 1))) 0 6 6)) (if 25 ≤ (nI (la + 1)) then 0 else (la + 1)) (upd ((yk_upr (yk_upr rw (if 25 ≤ (nI (la + 1)) then 0 else (la + 1)) (va_cpy fu (rw (if 25 ≤ (nI (la + 1)) then 0 else (la + 1))) 0 0 6)) (if 25 ≤ (nI (la + 1)) then 0 else (la + 1)) (va_cpy fv ((yk_upr rw (if 25 ≤ (nI (la + 1)) then 0 else (la + 1)) (va_cpy fu (rw (if 25 ≤ (nI (la + 1)) then 0 else (la + 1))) 0 0 6)) (if 25 ≤ (nI (la + 1)) then 0 else (la + 1))) 0 6 6)) (if 25 ≤ (nI (la + 1)) then 0 else (la + 1))) 12 (nI n))) (if 25 ≤ (nI (la + 1)) then 0 else (la + 1))) 0 13 9)) (if 25 ≤ (nI (la + 1)) then 0 else (la + 1)) (va_cpy ys ((yk_upr (yk_upr (yk_upr (yk_upr rw (if 25 ≤ (nI (la + 1)) then 0 else (la + 1)) (va_cpy fu (rw (if 25 ≤ (nI (la + 1)) then 0 else (la + 1))) 0 0 6)) (if 25 ≤ (nI (la + 1)) then 0 else (la + 1)) (va_cpy fv ((yk_upr rw (if 25 ≤ (nI (la + 1)) then 0 else (la + 1)) (va_cpy fu (rw (if 25 ≤ (nI (la + 1)) then 0 else (la + 1))) 0 0 6)) (if 25 ≤ (nI (la + 1)) then 0 else (la + 1))) 0 6 6)) (if 25 ≤ (nI (la + 1)) then 0 else (la + 1)) (upd ((yk_upr (yk_upr rw (if 25 ≤ (nI (la + 1)) then 0 else (la + 1)) (va_cpy fu (rw (if 25 ≤ (nI (la + 1)) then 0 else (la + 1))) 0 0 6)) (if 25 ≤ (nI (la + 1)) then 0 else (la + 1)) (va_cpy fv ((yk_upr rw (if 25 ≤ (nI (la + 1)) then 0 else (la + 1)) (va_cpy fu (rw (if 25 ≤ (nI (la + 1)) then 0 else (la + 1))) 0 0 6)) (if 25 ≤ (nI (la + 1)) then 0 else (la + 1))) 0 6 6)) (if 25 ≤ (nI (la + 1)) then 0 else (la + 1))) 12 (nI n))) (if 25 ≤ (nI (la + 1)) then 0 else (la + 1)) (va_cpy xs ((yk_upr (yk_upr (yk_upr rw (if 25 ≤ (nI (la + 1)) then 0 else (la + 1)) (va_cpy fu (rw (if 25 ≤ (nI (la + 1)) then 0 else (la + 1))) 0 0 6)) (if 25 ≤ (nI (la + 1)) then 0 else (la + 1)) (va_cpy fv ((yk_upr rw (if 25 ≤ (nI (la + 1)) then 0 else (la + 1)) (va_cpy fu (rw (if 25 ≤ (nI (la + 1)) then 0 else (la + 1))) 0 0 6)) (if 25 ≤ (nI (la + 1)) then 0 else (la + 1))) 0 6 6)) (if 25 ≤ (nI (la + 1)) then 0 else (la + 1)) (upd ((yk_upr (yk_upr rw (if 25 ≤ (nI (la + 1)) then 0 else (la + 1)) (va_cpy fu (rw (if 25 ≤ (nI (la + 1)) then 0 else (la + 1))) 0 0 6)) (if 25 ≤ (nI (la + 1)) then 0 else (la + 1)) (va_cpy fv ((yk_upr rw (if 25 ≤ (nI (la + 1)) then 0 else (la + 1)) (va_cpy fu (rw (if 25 ≤ (nI (la + 1)) then 0 else (la + 1))) 0 0 6)) (if 25 ≤ (nI (la + 1)) then 0 else (la + 1))) 0 6 6)) (if 25 ≤ (nI (la + 1)) then 0 else (la + 1))) 12 (nI n))) (if 25 ≤ (nI (la + 1)) then 0 else (la + 1))) 0 13 9)) (if 25 ≤ (nI (la + 1)) then 0 else (la + 1))) 0 22 9))) := hF
    rw [hF] at hQ
    exact hQ _ _ _ _ dX2_remember_115 hP hS
  refine lv_icmp_ge (tgt := 21) hx hb dX2_remember_9 (by decide) (fun hc1 => ?_) (fun hc1 => ?_)
  · refine lv_iconst (v := 0) hx hb dX2_remember_21 (by decide) ?_
    exact J3 _ _ _ _ ((if_pos hc1).symm) hP hD hS (lv_sub hl [0, 1, 2] rfl)
  · refine lv_aload_n hx hb dX2_remember_12 rfl (lv_at hl 0 rfl) ?_
    refine va_get (D := D) (ci := 2) (v := .int (nI la)) (C := RX2) (T := TX2) (N := 3) hx hb hts uX2_remember_X2 hown hK hP 0 rfl rfl 2 (by decide) (hts _ kX2_remember_0) (fun _ h9 => h9) rfl dX2_remember_13 ?_
    refine lv_iconst (v := 1) hx hb dX2_remember_16 (by decide) ?_
    refine lv_iadd hx hb dX2_remember_17 ?_
    refine yk_ti (y := nI (la + 1)) (nI_add la 1) ?_
    refine lv_goto (tgt := 22) hx hb dX2_remember_18 (by decide) ?_
    exact J3 _ _ _ _ ((if_neg hc1).symm) hP hD hS (lv_sub hl [0, 1, 2] rfl)

theorem kX2_bringBack_0 : Cond.fieldLink RX2 16 "FlowPlane$Past" "count" "I" ∈ wsX2_bringBack := by decide +kernel
theorem kX2_bringBack_1 : Cond.fieldLink RX2 13 "FlowPlane$Past" "rows" "[[I" ∈ wsX2_bringBack := by decide +kernel
theorem kX2_bringBack_2 : Cond.fieldLink RX2 20 "FlowPlane$Past" "latest" "I" ∈ wsX2_bringBack := by decide +kernel
theorem kX2_bringBack_3 : Cond.fieldLink RX2 29 "FlowPlane$Flow" "p" "LFlowPlane$Polynomial;" ∈ wsX2_bringBack := by decide +kernel
theorem kX2_bringBack_4 : Cond.fieldLink RX2 35 "FlowPlane$Polynomial" "numbers" "[I" ∈ wsX2_bringBack := by decide +kernel
theorem kX2_bringBack_5 : Cond.methodLink RX2 41 arraycopyName ∈ wsX2_bringBack := by decide +kernel
theorem kX2_bringBack_6 : Cond.native arraycopyName ∈ wsX2_bringBack := by decide +kernel
theorem kX2_bringBack_7 : Cond.static arraycopyName ∈ wsX2_bringBack := by decide +kernel
theorem kX2_bringBack_8 : Cond.initialized "java/lang/System" ∈ wsX2_bringBack := by decide +kernel
theorem kX2_bringBack_9 : Cond.fieldLink RX2 47 "FlowPlane$Flow" "q" "LFlowPlane$Polynomial;" ∈ wsX2_bringBack := by decide +kernel
theorem kX2_bringBack_10 : Cond.fieldLink RX2 50 "FlowPlane$Fence" "count" "I" ∈ wsX2_bringBack := by decide +kernel
theorem kX2_bringBack_11 : Cond.fieldLink RX2 53 "FlowPlane$Fence" "xs" "[I" ∈ wsX2_bringBack := by decide +kernel
theorem kX2_bringBack_12 : Cond.fieldLink RX2 56 "FlowPlane$Fence" "ys" "[I" ∈ wsX2_bringBack := by decide +kernel
theorem uX2_bringBack_X2 : ∀ w ∈ u_ws RX2 TX2 3, w ∈ wsX2_bringBack := by decide +kernel
theorem uX2_bringBack_X1 : ∀ w ∈ u_ws RX1 TX1 2, w ∈ wsX2_bringBack := by decide +kernel
theorem uX2_bringBack_X3 : ∀ w ∈ u_ws RX3 TX3 1, w ∈ wsX2_bringBack := by decide +kernel
theorem uX2_bringBack_X0 : ∀ w ∈ u_ws RX0 TX0 3, w ∈ wsX2_bringBack := by decide +kernel
def f_X2_bringBack (rw : Nat → Nat → Int32) (co : Nat) (la : Nat) (fu : Nat → Int32) (fv : Nat → Int32) (xs : Nat → Int32) (ys : Nat → Int32) (n2 : Nat) : Nat × Nat × (Nat → Int32) × (Nat → Int32) × Nat × (Nat → Int32) × (Nat → Int32) := ((co - 1), (if (nI la) ≤ 0 then 24 else la - 1), (va_cpy (rw la) fu 0 0 6), (va_cpy (rw la) fv 6 0 6), n2, (va_cpy (rw la) xs 13 0 9), (va_cpy (rw la) ys 22 0 9))
set_option maxHeartbeats 400000000 in
set_option maxRecDepth 100000 in
theorem c_X2_bringBack (l : Launch) (D : va_G) (cy : Nat → ClassId) (ta : Nat) (tar : Nat) (oa : Nat) (oap : Nat) (oapn : Nat) (oaq : Nat) (oaqn : Nat) (ea : Nat) (eax : Nat) (eay : Nat) (taf : Nat → Nat) (rw : Nat → Nat → Int32) (co : Nat) (la : Nat) (fu : Nat → Int32) (fv : Nat → Int32) (xs : Nat → Int32) (ys : Nat → Int32) (n : Nat) (n2 : Nat) (hco : 0 < co ∧ co ≤ 25) (hla : la < 25) (h12 : rw la 12 = nI n2) (hn2 : n2 ≤ 8) : yk_Cv l D vwCl (yk_ty cy) yX2_bringBack wsX2_bringBack 1 18 [.ref ta, .ref oa, .ref ea] ([(ta, .inr (2, [.ref tar, .int (nI co), .int (nI la)])), (tar, .inl (cy 5, 25, .inr (.inr (.inr (.inr (fun i => if i < 25 then some (taf i) else none)))))), (oa, .inr (1, [.ref oap, .ref oaq])), (oap, .inr (3, [.ref oapn])), (oapn, .inl (cy 0, 6, .inl fu)), (oaq, .inr (3, [.ref oaqn])), (oaqn, .inl (cy 0, 6, .inl fv)), (ea, .inr (0, [.ref eax, .ref eay, .int (nI n)])), (eax, .inl (cy 0, 9, .inl xs)), (eay, .inl (cy 0, 9, .inl ys))] ++ yk_fam 25 taf (fun i => .inl (cy 0, 31, .inl (rw i)))) ([(ta, .inr (2, [.ref tar, .int (nI ((f_X2_bringBack rw co la fu fv xs ys n2).1)), .int (nI ((f_X2_bringBack rw co la fu fv xs ys n2).2.1))])), (tar, .inl (cy 5, 25, .inr (.inr (.inr (.inr (fun i => if i < 25 then some (taf i) else none)))))), (oa, .inr (1, [.ref oap, .ref oaq])), (oap, .inr (3, [.ref oapn])), (oapn, .inl (cy 0, 6, .inl ((f_X2_bringBack rw co la fu fv xs ys n2).2.2.1))), (oaq, .inr (3, [.ref oaqn])), (oaqn, .inl (cy 0, 6, .inl ((f_X2_bringBack rw co la fu fv xs ys n2).2.2.2.1))), (ea, .inr (0, [.ref eax, .ref eay, .int (nI ((f_X2_bringBack rw co la fu fv xs ys n2).2.2.2.2.1))])), (eax, .inl (cy 0, 9, .inl ((f_X2_bringBack rw co la fu fv xs ys n2).2.2.2.2.2.1))), (eay, .inl (cy 0, 9, .inl ((f_X2_bringBack rw co la fu fv xs ys n2).2.2.2.2.2.2)))] ++ yk_fam 25 taf (fun i => .inl (cy 0, 31, .inl (rw i)))) := by
  refine yk_eV (cc := cX2_bringBack) (maxL := 4) (by decide) rfl (Nat.le_of_ble_eq_true rfl) ?_
  intro p e R s m args below meth c A Q ls H locs hx hb hml hown hts hRf hRl hA hK hG hP hD hS hl hQ
  have hP : va_P D vwCl ([(ta, .inr (2, [.ref tar, .int (nI co), .int (nI la)])), (tar, .inl (cy 5, 25, .inr (.inr (.inr (.inr (fun i => if i < 25 then some (taf i) else none)))))), (oa, .inr (1, [.ref oap, .ref oaq])), (oap, .inr (3, [.ref oapn])), (oapn, .inl (cy 0, 6, .inl fu)), (oaq, .inr (3, [.ref oaqn])), (oaqn, .inl (cy 0, 6, .inl fv)), (ea, .inr (0, [.ref eax, .ref eay, .int (nI n)])), (eax, .inl (cy 0, 9, .inl xs)), (eay, .inl (cy 0, 9, .inl ys))] ++ yk_fam 25 taf (fun i => .inl (cy 0, 31, .inl (rw i)))) H := hP
  have hl : lv_has ls 4 [(0, .ref ta), (1, .ref oa), (2, .ref ea)] := hl
  have hown : s.vm.findClass RX2 = some m.cls := hown
  have hF : (f_X2_bringBack rw co la fu fv xs ys n2) = (f_X2_bringBack rw co la fu fv xs ys n2) := rfl
  refine lv_aload_n hx hb dX2_bringBack_0 rfl (lv_at hl 0 rfl) ?_
  refine va_get (D := D) (ci := 2) (v := .int (nI co)) (C := RX2) (T := TX2) (N := 3) hx hb hts uX2_bringBack_X2 hown hK hP 0 rfl rfl 1 (by decide) (hts _ kX2_bringBack_0) (fun _ h9 => h9) rfl dX2_bringBack_1 ?_
  refine lv_if_ne (tgt := 8) hx hb dX2_bringBack_4 (by decide) (fun hc1 => ?_) (fun hc1 => absurd hc1 (nI_ne0 hco.1 (by omega)))
  refine lv_aload_n hx hb dX2_bringBack_8 rfl (lv_at hl 0 rfl) ?_
  refine va_get (D := D) (ci := 2) (v := .ref tar) (C := RX2) (T := TX2) (N := 3) hx hb hts uX2_bringBack_X2 hown hK hP 0 rfl rfl 0 (by decide) (hts _ kX2_bringBack_1) (fun _ h9 => h9) rfl dX2_bringBack_9 ?_
  refine lv_aload_n hx hb dX2_bringBack_12 rfl (lv_at hl 0 rfl) ?_
  refine va_get (D := D) (ci := 2) (v := .int (nI la)) (C := RX2) (T := TX2) (N := 3) hx hb hts uX2_bringBack_X2 hown hK hP 0 rfl rfl 2 (by decide) (hts _ kX2_bringBack_2) (fun _ h9 => h9) rfl dX2_bringBack_13 ?_
  refine yk_alda hx hb hK hP 1 5 rfl rfl la (by omega) (by decide) dX2_bringBack_16 ?_
  refine lv_astore_n (lv' := [(3, .ref (taf la)), (0, .ref ta), (1, .ref oa), (2, .ref ea)]) hx hb dX2_bringBack_17 rfl hl (by decide) rfl (fun ls hl9 => ?_)
  replace hl := hl9
  clear hl9
  refine lv_aload_n hx hb dX2_bringBack_18 rfl (lv_at hl 0 rfl) ?_
  refine lv_iconst (v := 0) hx hb dX2_bringBack_19 (by decide) ?_
  refine lv_aload_n hx hb dX2_bringBack_20 rfl (lv_at hl 2 rfl) ?_
  refine va_get (D := D) (ci := 1) (v := .ref oap) (C := RX1) (T := TX1) (N := 2) hx hb hts uX2_bringBack_X1 hown hK hP 2 rfl rfl 0 (by decide) (hts _ kX2_bringBack_3) (fun _ h9 => h9) rfl dX2_bringBack_21 ?_
  refine va_get (D := D) (ci := 3) (v := .ref oapn) (C := RX3) (T := TX3) (N := 1) hx hb hts uX2_bringBack_X3 hown hK hP 3 rfl rfl 0 (by decide) (hts _ kX2_bringBack_4) (fun _ h9 => h9) rfl dX2_bringBack_24 ?_
  refine lv_iconst (v := 0) hx hb dX2_bringBack_27 (by decide) ?_
  refine lv_bipush (v := 6) hx hb dX2_bringBack_28 (by decide) ?_
  refine yk_cpy (sp := 0) (dp := 0) (n := 6) hx hb (hml.trans hl.1.symm) hown (hts _ kX2_bringBack_5) (hts _ kX2_bringBack_6) (hts _ kX2_bringBack_7) (hts _ kX2_bringBack_8) hK hP hD hS (10 + la) 4 (yk_fg _ (by omega)) rfl rfl rfl (⟨by omega, by omega⟩) (by omega) (by omega) (by rw [hRf]; exact Nat.le_of_ble_eq_true rfl) (by rw [hRl]; exact Nat.le_of_ble_eq_true rfl) dX2_bringBack_30 (fun H locs hP9 hD9 hS9 => ?_)
  replace hP : va_P D vwCl ([(ta, .inr (2, [.ref tar, .int (nI co), .int (nI la)])), (tar, .inl (cy 5, 25, .inr (.inr (.inr (.inr (fun i => if i < 25 then some (taf i) else none)))))), (oa, .inr (1, [.ref oap, .ref oaq])), (oap, .inr (3, [.ref oapn])), (oapn, .inl (cy 0, 6, .inl (va_cpy (rw la) fu 0 0 6))), (oaq, .inr (3, [.ref oaqn])), (oaqn, .inl (cy 0, 6, .inl fv)), (ea, .inr (0, [.ref eax, .ref eay, .int (nI n)])), (eax, .inl (cy 0, 9, .inl xs)), (eay, .inl (cy 0, 9, .inl ys))] ++ yk_fam 25 taf (fun i => .inl (cy 0, 31, .inl (rw i)))) H := hP9
  replace hD : va_D A ([(ta, .inr (2, [.ref tar, .int (nI co), .int (nI la)])), (tar, .inl (cy 5, 25, .inr (.inr (.inr (.inr (fun i => if i < 25 then some (taf i) else none)))))), (oa, .inr (1, [.ref oap, .ref oaq])), (oap, .inr (3, [.ref oapn])), (oapn, .inl (cy 0, 6, .inl (va_cpy (rw la) fu 0 0 6))), (oaq, .inr (3, [.ref oaqn])), (oaqn, .inl (cy 0, 6, .inl fv)), (ea, .inr (0, [.ref eax, .ref eay, .int (nI n)])), (eax, .inl (cy 0, 9, .inl xs)), (eay, .inl (cy 0, 9, .inl ys))] ++ yk_fam 25 taf (fun i => .inl (cy 0, 31, .inl (rw i)))) := hD9
  replace hS := hS9
  clear hP9 hD9 hS9
  refine lv_aload_n hx hb dX2_bringBack_33 rfl (lv_at hl 0 rfl) ?_
  refine lv_bipush (v := 6) hx hb dX2_bringBack_34 (by decide) ?_
  refine lv_aload_n hx hb dX2_bringBack_36 rfl (lv_at hl 2 rfl) ?_
  refine va_get (D := D) (ci := 1) (v := .ref oaq) (C := RX1) (T := TX1) (N := 2) hx hb hts uX2_bringBack_X1 hown hK hP 2 rfl rfl 1 (by decide) (hts _ kX2_bringBack_9) (fun _ h9 => h9) rfl dX2_bringBack_37 ?_
  refine va_get (D := D) (ci := 3) (v := .ref oaqn) (C := RX3) (T := TX3) (N := 1) hx hb hts uX2_bringBack_X3 hown hK hP 5 rfl rfl 0 (by decide) (hts _ kX2_bringBack_4) (fun _ h9 => h9) rfl dX2_bringBack_40 ?_
  refine lv_iconst (v := 0) hx hb dX2_bringBack_43 (by decide) ?_
  refine lv_bipush (v := 6) hx hb dX2_bringBack_44 (by decide) ?_
  refine yk_cpy (sp := 6) (dp := 0) (n := 6) hx hb (hml.trans hl.1.symm) hown (hts _ kX2_bringBack_5) (hts _ kX2_bringBack_6) (hts _ kX2_bringBack_7) (hts _ kX2_bringBack_8) hK hP hD hS (10 + la) 6 (yk_fg _ (by omega)) rfl rfl rfl (⟨by omega, by omega⟩) (by omega) (by omega) (by rw [hRf]; exact Nat.le_of_ble_eq_true rfl) (by rw [hRl]; exact Nat.le_of_ble_eq_true rfl) dX2_bringBack_46 (fun H locs hP9 hD9 hS9 => ?_)
  replace hP : va_P D vwCl ([(ta, .inr (2, [.ref tar, .int (nI co), .int (nI la)])), (tar, .inl (cy 5, 25, .inr (.inr (.inr (.inr (fun i => if i < 25 then some (taf i) else none)))))), (oa, .inr (1, [.ref oap, .ref oaq])), (oap, .inr (3, [.ref oapn])), (oapn, .inl (cy 0, 6, .inl (va_cpy (rw la) fu 0 0 6))), (oaq, .inr (3, [.ref oaqn])), (oaqn, .inl (cy 0, 6, .inl (va_cpy (rw la) fv 6 0 6))), (ea, .inr (0, [.ref eax, .ref eay, .int (nI n)])), (eax, .inl (cy 0, 9, .inl xs)), (eay, .inl (cy 0, 9, .inl ys))] ++ yk_fam 25 taf (fun i => .inl (cy 0, 31, .inl (rw i)))) H := hP9
  replace hD : va_D A ([(ta, .inr (2, [.ref tar, .int (nI co), .int (nI la)])), (tar, .inl (cy 5, 25, .inr (.inr (.inr (.inr (fun i => if i < 25 then some (taf i) else none)))))), (oa, .inr (1, [.ref oap, .ref oaq])), (oap, .inr (3, [.ref oapn])), (oapn, .inl (cy 0, 6, .inl (va_cpy (rw la) fu 0 0 6))), (oaq, .inr (3, [.ref oaqn])), (oaqn, .inl (cy 0, 6, .inl (va_cpy (rw la) fv 6 0 6))), (ea, .inr (0, [.ref eax, .ref eay, .int (nI n)])), (eax, .inl (cy 0, 9, .inl xs)), (eay, .inl (cy 0, 9, .inl ys))] ++ yk_fam 25 taf (fun i => .inl (cy 0, 31, .inl (rw i)))) := hD9
  replace hS := hS9
  clear hP9 hD9 hS9
  refine lv_aload_n hx hb dX2_bringBack_49 rfl (lv_at hl 3 rfl) ?_
  refine lv_aload_n hx hb dX2_bringBack_50 rfl (lv_at hl 0 rfl) ?_
  refine lv_bipush (v := 12) hx hb dX2_bringBack_51 (by decide) ?_
  refine yk_ild hx hb hK hP (10 + la) 0 (yk_fg _ (by omega)) rfl 12 (by omega) (by decide) dX2_bringBack_53 ?_
  refine yk_ti (y := nI n2) (h12) ?_
  refine va_put (D := D) (ci := 0) (v := .int (nI n2)) (ty := .int) (C := RX0) (T := TX0) (N := 3) hx hb hts uX2_bringBack_X0 tyX0 tyX0_ok nmX0 hown hK hP hD hS 7 rfl rfl 2 (by decide) (hts _ kX2_bringBack_10) (fun _ h9 => h9) rfl (by decide +kernel) (rfl) (rfl) (Nat.le_of_ble_eq_true rfl) dX2_bringBack_54 (fun H locs hP9 hD9 hS9 => ?_)
  replace hP : va_P D vwCl ([(ta, .inr (2, [.ref tar, .int (nI co), .int (nI la)])), (tar, .inl (cy 5, 25, .inr (.inr (.inr (.inr (fun i => if i < 25 then some (taf i) else none)))))), (oa, .inr (1, [.ref oap, .ref oaq])), (oap, .inr (3, [.ref oapn])), (oapn, .inl (cy 0, 6, .inl (va_cpy (rw la) fu 0 0 6))), (oaq, .inr (3, [.ref oaqn])), (oaqn, .inl (cy 0, 6, .inl (va_cpy (rw la) fv 6 0 6))), (ea, .inr (0, [.ref eax, .ref eay, .int (nI n2)])), (eax, .inl (cy 0, 9, .inl xs)), (eay, .inl (cy 0, 9, .inl ys))] ++ yk_fam 25 taf (fun i => .inl (cy 0, 31, .inl (rw i)))) H := hP9
  replace hD : va_D A ([(ta, .inr (2, [.ref tar, .int (nI co), .int (nI la)])), (tar, .inl (cy 5, 25, .inr (.inr (.inr (.inr (fun i => if i < 25 then some (taf i) else none)))))), (oa, .inr (1, [.ref oap, .ref oaq])), (oap, .inr (3, [.ref oapn])), (oapn, .inl (cy 0, 6, .inl (va_cpy (rw la) fu 0 0 6))), (oaq, .inr (3, [.ref oaqn])), (oaqn, .inl (cy 0, 6, .inl (va_cpy (rw la) fv 6 0 6))), (ea, .inr (0, [.ref eax, .ref eay, .int (nI n2)])), (eax, .inl (cy 0, 9, .inl xs)), (eay, .inl (cy 0, 9, .inl ys))] ++ yk_fam 25 taf (fun i => .inl (cy 0, 31, .inl (rw i)))) := hD9
  replace hS := hS9
  clear hP9 hD9 hS9
  refine lv_aload_n hx hb dX2_bringBack_57 rfl (lv_at hl 0 rfl) ?_
  refine lv_bipush (v := 13) hx hb dX2_bringBack_58 (by decide) ?_
  refine lv_aload_n hx hb dX2_bringBack_60 rfl (lv_at hl 3 rfl) ?_
  refine va_get (D := D) (ci := 0) (v := .ref eax) (C := RX0) (T := TX0) (N := 3) hx hb hts uX2_bringBack_X0 hown hK hP 7 rfl rfl 0 (by decide) (hts _ kX2_bringBack_11) (fun _ h9 => h9) rfl dX2_bringBack_61 ?_
  refine lv_iconst (v := 0) hx hb dX2_bringBack_64 (by decide) ?_
  refine lv_bipush (v := 9) hx hb dX2_bringBack_65 (by decide) ?_
  refine yk_cpy (sp := 13) (dp := 0) (n := 9) hx hb (hml.trans hl.1.symm) hown (hts _ kX2_bringBack_5) (hts _ kX2_bringBack_6) (hts _ kX2_bringBack_7) (hts _ kX2_bringBack_8) hK hP hD hS (10 + la) 8 (yk_fg _ (by omega)) rfl rfl rfl (⟨by omega, by omega⟩) (by omega) (by omega) (by rw [hRf]; exact Nat.le_of_ble_eq_true rfl) (by rw [hRl]; exact Nat.le_of_ble_eq_true rfl) dX2_bringBack_67 (fun H locs hP9 hD9 hS9 => ?_)
  replace hP : va_P D vwCl ([(ta, .inr (2, [.ref tar, .int (nI co), .int (nI la)])), (tar, .inl (cy 5, 25, .inr (.inr (.inr (.inr (fun i => if i < 25 then some (taf i) else none)))))), (oa, .inr (1, [.ref oap, .ref oaq])), (oap, .inr (3, [.ref oapn])), (oapn, .inl (cy 0, 6, .inl (va_cpy (rw la) fu 0 0 6))), (oaq, .inr (3, [.ref oaqn])), (oaqn, .inl (cy 0, 6, .inl (va_cpy (rw la) fv 6 0 6))), (ea, .inr (0, [.ref eax, .ref eay, .int (nI n2)])), (eax, .inl (cy 0, 9, .inl (va_cpy (rw la) xs 13 0 9))), (eay, .inl (cy 0, 9, .inl ys))] ++ yk_fam 25 taf (fun i => .inl (cy 0, 31, .inl (rw i)))) H := hP9
  replace hD : va_D A ([(ta, .inr (2, [.ref tar, .int (nI co), .int (nI la)])), (tar, .inl (cy 5, 25, .inr (.inr (.inr (.inr (fun i => if i < 25 then some (taf i) else none)))))), (oa, .inr (1, [.ref oap, .ref oaq])), (oap, .inr (3, [.ref oapn])), (oapn, .inl (cy 0, 6, .inl (va_cpy (rw la) fu 0 0 6))), (oaq, .inr (3, [.ref oaqn])), (oaqn, .inl (cy 0, 6, .inl (va_cpy (rw la) fv 6 0 6))), (ea, .inr (0, [.ref eax, .ref eay, .int (nI n2)])), (eax, .inl (cy 0, 9, .inl (va_cpy (rw la) xs 13 0 9))), (eay, .inl (cy 0, 9, .inl ys))] ++ yk_fam 25 taf (fun i => .inl (cy 0, 31, .inl (rw i)))) := hD9
  replace hS := hS9
  clear hP9 hD9 hS9
  refine lv_aload_n hx hb dX2_bringBack_70 rfl (lv_at hl 0 rfl) ?_
  refine lv_bipush (v := 22) hx hb dX2_bringBack_71 (by decide) ?_
  refine lv_aload_n hx hb dX2_bringBack_73 rfl (lv_at hl 3 rfl) ?_
  refine va_get (D := D) (ci := 0) (v := .ref eay) (C := RX0) (T := TX0) (N := 3) hx hb hts uX2_bringBack_X0 hown hK hP 7 rfl rfl 1 (by decide) (hts _ kX2_bringBack_12) (fun _ h9 => h9) rfl dX2_bringBack_74 ?_
  refine lv_iconst (v := 0) hx hb dX2_bringBack_77 (by decide) ?_
  refine lv_bipush (v := 9) hx hb dX2_bringBack_78 (by decide) ?_
  refine yk_cpy (sp := 22) (dp := 0) (n := 9) hx hb (hml.trans hl.1.symm) hown (hts _ kX2_bringBack_5) (hts _ kX2_bringBack_6) (hts _ kX2_bringBack_7) (hts _ kX2_bringBack_8) hK hP hD hS (10 + la) 9 (yk_fg _ (by omega)) rfl rfl rfl (⟨by omega, by omega⟩) (by omega) (by omega) (by rw [hRf]; exact Nat.le_of_ble_eq_true rfl) (by rw [hRl]; exact Nat.le_of_ble_eq_true rfl) dX2_bringBack_80 (fun H locs hP9 hD9 hS9 => ?_)
  replace hP : va_P D vwCl ([(ta, .inr (2, [.ref tar, .int (nI co), .int (nI la)])), (tar, .inl (cy 5, 25, .inr (.inr (.inr (.inr (fun i => if i < 25 then some (taf i) else none)))))), (oa, .inr (1, [.ref oap, .ref oaq])), (oap, .inr (3, [.ref oapn])), (oapn, .inl (cy 0, 6, .inl (va_cpy (rw la) fu 0 0 6))), (oaq, .inr (3, [.ref oaqn])), (oaqn, .inl (cy 0, 6, .inl (va_cpy (rw la) fv 6 0 6))), (ea, .inr (0, [.ref eax, .ref eay, .int (nI n2)])), (eax, .inl (cy 0, 9, .inl (va_cpy (rw la) xs 13 0 9))), (eay, .inl (cy 0, 9, .inl (va_cpy (rw la) ys 22 0 9)))] ++ yk_fam 25 taf (fun i => .inl (cy 0, 31, .inl (rw i)))) H := hP9
  replace hD : va_D A ([(ta, .inr (2, [.ref tar, .int (nI co), .int (nI la)])), (tar, .inl (cy 5, 25, .inr (.inr (.inr (.inr (fun i => if i < 25 then some (taf i) else none)))))), (oa, .inr (1, [.ref oap, .ref oaq])), (oap, .inr (3, [.ref oapn])), (oapn, .inl (cy 0, 6, .inl (va_cpy (rw la) fu 0 0 6))), (oaq, .inr (3, [.ref oaqn])), (oaqn, .inl (cy 0, 6, .inl (va_cpy (rw la) fv 6 0 6))), (ea, .inr (0, [.ref eax, .ref eay, .int (nI n2)])), (eax, .inl (cy 0, 9, .inl (va_cpy (rw la) xs 13 0 9))), (eay, .inl (cy 0, 9, .inl (va_cpy (rw la) ys 22 0 9)))] ++ yk_fam 25 taf (fun i => .inl (cy 0, 31, .inl (rw i)))) := hD9
  replace hS := hS9
  clear hP9 hD9 hS9
  refine lv_aload_n hx hb dX2_bringBack_83 rfl (lv_at hl 1 rfl) ?_
  refine lv_aload_n hx hb dX2_bringBack_84 rfl (lv_at hl 1 rfl) ?_
  refine va_get (D := D) (ci := 2) (v := .int (nI la)) (C := RX2) (T := TX2) (N := 3) hx hb hts uX2_bringBack_X2 hown hK hP 0 rfl rfl 2 (by decide) (hts _ kX2_bringBack_2) (fun _ h9 => h9) rfl dX2_bringBack_85 ?_
  have J4 : ∀ (v3 : Nat) (H : Heap) (locs : List Loc) (ls : Array Slot), v3 = (if (nI la) ≤ 0 then 24 else la - 1) → va_P D vwCl ([(ta, .inr (2, [.ref tar, .int (nI co), .int (nI la)])), (tar, .inl (cy 5, 25, .inr (.inr (.inr (.inr (fun i => if i < 25 then some (taf i) else none)))))), (oa, .inr (1, [.ref oap, .ref oaq])), (oap, .inr (3, [.ref oapn])), (oapn, .inl (cy 0, 6, .inl (va_cpy (rw la) fu 0 0 6))), (oaq, .inr (3, [.ref oaqn])), (oaqn, .inl (cy 0, 6, .inl (va_cpy (rw la) fv 6 0 6))), (ea, .inr (0, [.ref eax, .ref eay, .int (nI n2)])), (eax, .inl (cy 0, 9, .inl (va_cpy (rw la) xs 13 0 9))), (eay, .inl (cy 0, 9, .inl (va_cpy (rw la) ys 22 0 9)))] ++ yk_fam 25 taf (fun i => .inl (cy 0, 31, .inl (rw i)))) H → va_D A ([(ta, .inr (2, [.ref tar, .int (nI co), .int (nI la)])), (tar, .inl (cy 5, 25, .inr (.inr (.inr (.inr (fun i => if i < 25 then some (taf i) else none)))))), (oa, .inr (1, [.ref oap, .ref oaq])), (oap, .inr (3, [.ref oapn])), (oapn, .inl (cy 0, 6, .inl (va_cpy (rw la) fu 0 0 6))), (oaq, .inr (3, [.ref oaqn])), (oaqn, .inl (cy 0, 6, .inl (va_cpy (rw la) fv 6 0 6))), (ea, .inr (0, [.ref eax, .ref eay, .int (nI n2)])), (eax, .inl (cy 0, 9, .inl (va_cpy (rw la) xs 13 0 9))), (eay, .inl (cy 0, 9, .inl (va_cpy (rw la) ys 22 0 9)))] ++ yk_fam 25 taf (fun i => .inl (cy 0, 31, .inl (rw i)))) → va_S A s.heap H locs → lv_has ls 4 [(0, .ref ta), (1, .ref oa), (2, .ref ea), (3, .ref (taf la))] → W p l e R s m args below meth c H locs 0 0 Q (F0 m 102 ls [.int (nI v3), .ref ta]) := by
    clear hP hD hS hl
    intro v3 H locs ls ev3
    rw [ev3]
    clear ev3
    intro hP hD hS hl
    refine va_put (D := D) (ci := 2) (v := .int (nI (if (nI la) ≤ 0 then 24 else la - 1))) (ty := .int) (C := RX2) (T := TX2) (N := 3) hx hb hts uX2_bringBack_X2 tyX2 tyX2_ok nmX2 hown hK hP hD hS 0 rfl rfl 2 (by decide) (hts _ kX2_bringBack_2) (fun _ h9 => h9) rfl (by decide +kernel) (rfl) (rfl) (Nat.le_of_ble_eq_true rfl) dX2_bringBack_102 (fun H locs hP9 hD9 hS9 => ?_)
    replace hP : va_P D vwCl ([(ta, .inr (2, [.ref tar, .int (nI co), .int (nI (if (nI la) ≤ 0 then 24 else la - 1))])), (tar, .inl (cy 5, 25, .inr (.inr (.inr (.inr (fun i => if i < 25 then some (taf i) else none)))))), (oa, .inr (1, [.ref oap, .ref oaq])), (oap, .inr (3, [.ref oapn])), (oapn, .inl (cy 0, 6, .inl (va_cpy (rw la) fu 0 0 6))), (oaq, .inr (3, [.ref oaqn])), (oaqn, .inl (cy 0, 6, .inl (va_cpy (rw la) fv 6 0 6))), (ea, .inr (0, [.ref eax, .ref eay, .int (nI n2)])), (eax, .inl (cy 0, 9, .inl (va_cpy (rw la) xs 13 0 9))), (eay, .inl (cy 0, 9, .inl (va_cpy (rw la) ys 22 0 9)))] ++ yk_fam 25 taf (fun i => .inl (cy 0, 31, .inl (rw i)))) H := hP9
    replace hD : va_D A ([(ta, .inr (2, [.ref tar, .int (nI co), .int (nI (if (nI la) ≤ 0 then 24 else la - 1))])), (tar, .inl (cy 5, 25, .inr (.inr (.inr (.inr (fun i => if i < 25 then some (taf i) else none)))))), (oa, .inr (1, [.ref oap, .ref oaq])), (oap, .inr (3, [.ref oapn])), (oapn, .inl (cy 0, 6, .inl (va_cpy (rw la) fu 0 0 6))), (oaq, .inr (3, [.ref oaqn])), (oaqn, .inl (cy 0, 6, .inl (va_cpy (rw la) fv 6 0 6))), (ea, .inr (0, [.ref eax, .ref eay, .int (nI n2)])), (eax, .inl (cy 0, 9, .inl (va_cpy (rw la) xs 13 0 9))), (eay, .inl (cy 0, 9, .inl (va_cpy (rw la) ys 22 0 9)))] ++ yk_fam 25 taf (fun i => .inl (cy 0, 31, .inl (rw i)))) := hD9
    replace hS := hS9
    clear hP9 hD9 hS9
    refine lv_aload_n hx hb dX2_bringBack_105 rfl (lv_at hl 0 rfl) ?_
    refine lv_dup hx hb dX2_bringBack_106 rfl ?_
    refine va_get (D := D) (ci := 2) (v := .int (nI co)) (C := RX2) (T := TX2) (N := 3) hx hb hts uX2_bringBack_X2 hown hK hP 0 rfl rfl 1 (by decide) (hts _ kX2_bringBack_0) (fun _ h9 => h9) rfl dX2_bringBack_107 ?_
    refine lv_iconst (v := 1) hx hb dX2_bringBack_110 (by decide) ?_
    refine lv_isub hx hb dX2_bringBack_111 ?_
    refine yk_ti (y := nI (co - 1)) (pk_sub (b := 1) hco.1) ?_
    refine va_put (D := D) (ci := 2) (v := .int (nI (co - 1))) (ty := .int) (C := RX2) (T := TX2) (N := 3) hx hb hts uX2_bringBack_X2 tyX2 tyX2_ok nmX2 hown hK hP hD hS 0 rfl rfl 1 (by decide) (hts _ kX2_bringBack_0) (fun _ h9 => h9) rfl (by decide +kernel) (rfl) (rfl) (Nat.le_of_ble_eq_true rfl) dX2_bringBack_112 (fun H locs hP9 hD9 hS9 => ?_)
    replace hP : va_P D vwCl ([(ta, .inr (2, [.ref tar, .int (nI (co - 1)), .int (nI (if (nI la) ≤ 0 then 24 else la - 1))])), (tar, .inl (cy 5, 25, .inr (.inr (.inr (.inr (fun i => if i < 25 then some (taf i) else none)))))), (oa, .inr (1, [.ref oap, .ref oaq])), (oap, .inr (3, [.ref oapn])), (oapn, .inl (cy 0, 6, .inl (va_cpy (rw la) fu 0 0 6))), (oaq, .inr (3, [.ref oaqn])), (oaqn, .inl (cy 0, 6, .inl (va_cpy (rw la) fv 6 0 6))), (ea, .inr (0, [.ref eax, .ref eay, .int (nI n2)])), (eax, .inl (cy 0, 9, .inl (va_cpy (rw la) xs 13 0 9))), (eay, .inl (cy 0, 9, .inl (va_cpy (rw la) ys 22 0 9)))] ++ yk_fam 25 taf (fun i => .inl (cy 0, 31, .inl (rw i)))) H := hP9
    replace hD : va_D A ([(ta, .inr (2, [.ref tar, .int (nI (co - 1)), .int (nI (if (nI la) ≤ 0 then 24 else la - 1))])), (tar, .inl (cy 5, 25, .inr (.inr (.inr (.inr (fun i => if i < 25 then some (taf i) else none)))))), (oa, .inr (1, [.ref oap, .ref oaq])), (oap, .inr (3, [.ref oapn])), (oapn, .inl (cy 0, 6, .inl (va_cpy (rw la) fu 0 0 6))), (oaq, .inr (3, [.ref oaqn])), (oaqn, .inl (cy 0, 6, .inl (va_cpy (rw la) fv 6 0 6))), (ea, .inr (0, [.ref eax, .ref eay, .int (nI n2)])), (eax, .inl (cy 0, 9, .inl (va_cpy (rw la) xs 13 0 9))), (eay, .inl (cy 0, 9, .inl (va_cpy (rw la) ys 22 0 9)))] ++ yk_fam 25 taf (fun i => .inl (cy 0, 31, .inl (rw i)))) := hD9
    replace hS := hS9
    clear hP9 hD9 hS9
    have hF : f_X2_bringBack rw co la fu fv xs ys n2 = ((co - 1), (if (nI la) ≤ 0 then 24 else la - 1), (va_cpy (rw la) fu 0 0 6), (va_cpy (rw la) fv 6 0 6), n2, (va_cpy (rw la) xs 13 0 9), (va_cpy (rw la) ys 22 0 9)) := hF
    rw [hF] at hQ
    exact hQ _ _ _ _ dX2_bringBack_115 hP hS
  refine lv_if_le (tgt := 100) hx hb dX2_bringBack_88 (by decide) (fun hc2 => ?_) (fun hc2 => ?_)
  · refine lv_bipush (v := 24) hx hb dX2_bringBack_100 (by decide) ?_
    exact J4 _ _ _ _ ((if_pos hc2).symm) hP hD hS (lv_sub hl [1, 2, 3, 0] rfl)
  · refine lv_aload_n hx hb dX2_bringBack_91 rfl (lv_at hl 1 rfl) ?_
    refine va_get (D := D) (ci := 2) (v := .int (nI la)) (C := RX2) (T := TX2) (N := 3) hx hb hts uX2_bringBack_X2 hown hK hP 0 rfl rfl 2 (by decide) (hts _ kX2_bringBack_2) (fun _ h9 => h9) rfl dX2_bringBack_92 ?_
    refine lv_iconst (v := 1) hx hb dX2_bringBack_95 (by decide) ?_
    refine lv_isub hx hb dX2_bringBack_96 ?_
    refine yk_ti (y := nI (la - 1)) (pk_sub (b := 1) (yk_pos (by assumption))) ?_
    refine lv_goto (tgt := 102) hx hb dX2_bringBack_97 (by decide) ?_
    exact J4 _ _ _ _ ((if_neg hc2).symm) hP hD hS (lv_sub hl [1, 2, 3, 0] rfl)

theorem kX6_fillRow_0 : Cond.fieldLink RX6 11 "FlowPlane$Table" "rows" "[[J" ∈ wsX6_fillRow := by decide +kernel
theorem uX6_fillRow_X6 : ∀ w ∈ u_ws RX6 TX6 1, w ∈ wsX6_fillRow := by decide +kernel
def l_X6_fillRow_2 (tb : Nat → Nat → Int64) (k : Nat) (fu : Nat → Int32) : Nat → Nat → (Nat → Nat → Int64) → (Nat → Nat → Int64)
  | 0, ki, zTf_2 => zTf_2
  | fu_X6_fillRow_2 + 1, ki, zTf_2 => (if 10 ≤ (nI ki) then zTf_2 else (l_X6_fillRow_2 tb k fu fu_X6_fillRow_2 (ki + 1) (yk_upr zTf_2 k (vp_updL (zTf_2 k) ki (((fu ki)).toInt64)))))
def f_X6_fillRow (tb : Nat → Nat → Int64) (k : Nat) (fu : Nat → Int32) : (Nat → Nat → Int64) := (l_X6_fillRow_2 tb k fu (10 + 1) 0 tb)
set_option maxHeartbeats 400000000 in
set_option maxRecDepth 100000 in
theorem c_X6_fillRow (l : Launch) (D : va_G) (cy : Nat → ClassId) (ta : Nat) (tar : Nat) (oa : Nat) (taf : Nat → Nat) (tb : Nat → Nat → Int64) (k : Nat) (fu : Nat → Int32) (hk : k < 5) : yk_Cv l D vwCl (yk_ty cy) yX6_fillRow wsX6_fillRow 0 0 [.ref ta, .int (nI k), .ref oa] ([(ta, .inr (6, [.ref tar])), (tar, .inl (cy 6, 5, .inr (.inr (.inr (.inr (fun i => if i < 5 then some (taf i) else none)))))), (oa, .inl (cy 0, 10, .inl fu))] ++ yk_fam 5 taf (fun i => .inl (cy 1, 10, .inr (.inl (tb i))))) ([(ta, .inr (6, [.ref tar])), (tar, .inl (cy 6, 5, .inr (.inr (.inr (.inr (fun i => if i < 5 then some (taf i) else none)))))), (oa, .inl (cy 0, 10, .inl fu))] ++ yk_fam 5 taf (fun i => .inl (cy 1, 10, .inr (.inl ((f_X6_fillRow tb k fu) i))))) := by
  refine yk_eV (cc := cX6_fillRow) (maxL := 4) (by decide) rfl (Nat.le_of_ble_eq_true rfl) ?_
  intro p e R s m args below meth c A Q ls H locs hx hb hml hown hts hRf hRl hA hK hG hP hD hS hl hQ
  have hP : va_P D vwCl ([(ta, .inr (6, [.ref tar])), (tar, .inl (cy 6, 5, .inr (.inr (.inr (.inr (fun i => if i < 5 then some (taf i) else none)))))), (oa, .inl (cy 0, 10, .inl fu))] ++ yk_fam 5 taf (fun i => .inl (cy 1, 10, .inr (.inl (tb i))))) H := hP
  have hl : lv_has ls 4 [(0, .ref ta), (1, .int (nI k)), (2, .ref oa)] := hl
  have hown : s.vm.findClass RX6 = some m.cls := hown
  have hF : (f_X6_fillRow tb k fu) = (f_X6_fillRow tb k fu) := rfl
  refine lv_iconst (v := 0) hx hb dX6_fillRow_0 (by decide) ?_
  refine lv_istore_n (lv' := [(3, .int 0), (0, .ref ta), (1, .int (nI k)), (2, .ref oa)]) hx hb dX6_fillRow_1 rfl hl (by decide) rfl (fun ls hl9 => ?_)
  replace hl := hl9
  clear hl9
  have J3 : ∀ (H : Heap) (locs : List Loc) (ls : Array Slot), va_P D vwCl ([(ta, .inr (6, [.ref tar])), (tar, .inl (cy 6, 5, .inr (.inr (.inr (.inr (fun i => if i < 5 then some (taf i) else none)))))), (oa, .inl (cy 0, 10, .inl fu))] ++ yk_fam 5 taf (fun i => .inl (cy 1, 10, .inr (.inl ((l_X6_fillRow_2 tb k fu (10 + 1) 0 tb) i))))) H → va_D A ([(ta, .inr (6, [.ref tar])), (tar, .inl (cy 6, 5, .inr (.inr (.inr (.inr (fun i => if i < 5 then some (taf i) else none)))))), (oa, .inl (cy 0, 10, .inl fu))] ++ yk_fam 5 taf (fun i => .inl (cy 1, 10, .inr (.inl ((l_X6_fillRow_2 tb k fu (10 + 1) 0 tb) i))))) → va_S A s.heap H locs → lv_has ls 4 [(0, .ref ta), (1, .int (nI k)), (2, .ref oa)] → W p l e R s m args below meth c H locs 0 0 Q (F0 m 26 ls []) := by
    clear hP hD hS hl
    intro H locs ls hP hD hS hl
    have hF : f_X6_fillRow tb k fu = (l_X6_fillRow_2 tb k fu (10 + 1) 0 tb) := hF
    rw [hF] at hQ
    exact hQ _ _ _ _ dX6_fillRow_26 hP hS
  have L2 : ∀ (M9 n2 ki : Nat) (zTf_2 : Nat → Nat → Int64) (H : Heap) (locs : List Loc) (ls : Array Slot), n2 < M9 → ki + n2 = 10 → (l_X6_fillRow_2 tb k fu (10 + 1) 0 tb) = (l_X6_fillRow_2 tb k fu (n2 + 1) ki zTf_2) → va_P D vwCl ([(ta, .inr (6, [.ref tar])), (tar, .inl (cy 6, 5, .inr (.inr (.inr (.inr (fun i => if i < 5 then some (taf i) else none)))))), (oa, .inl (cy 0, 10, .inl fu))] ++ yk_fam 5 taf (fun i => .inl (cy 1, 10, .inr (.inl (zTf_2 i))))) H → va_D A ([(ta, .inr (6, [.ref tar])), (tar, .inl (cy 6, 5, .inr (.inr (.inr (.inr (fun i => if i < 5 then some (taf i) else none)))))), (oa, .inl (cy 0, 10, .inl fu))] ++ yk_fam 5 taf (fun i => .inl (cy 1, 10, .inr (.inl (zTf_2 i))))) → va_S A s.heap H locs → lv_has ls 4 [(0, .ref ta), (1, .int (nI k)), (2, .ref oa), (3, .int (nI ki))] → W p l e R s m args below meth c H locs 0 0 Q (F0 m 2 ls []) := by
    clear hP hD hS hl
    intro M9
    induction M9 with
    | zero => intro n2 ki _ _ _ _ hn; exact absurd hn (Nat.not_lt_zero _)
    | succ M9 ih2 =>
      intro n2 ki zTf_2 H locs ls hn2 hk2 hV2 hP hD hS hl
      refine lv_iload_n hx hb dX6_fillRow_2 rfl (lv_at hl 3 rfl) ?_
      refine lv_bipush (v := 10) hx hb dX6_fillRow_3 (by decide) ?_
      refine lv_icmp_ge (tgt := 26) hx hb dX6_fillRow_5 (by decide) (fun hc2 => ?_) (fun hc2 => ?_)
      · replace hV2 := hV2.trans (if_pos hc2)
        have hV2 : (l_X6_fillRow_2 tb k fu (10 + 1) 0 tb) = zTf_2 := hV2
        have J3 := J3
        rw [hV2] at J3
        exact J3 _ _ _ hP hD hS (lv_sub hl [0, 1, 2] rfl)
      · replace hV2 := hV2.trans (if_neg hc2)
        have hlt2 : ki < 10 := yk_lt hk2 (by omega) hc2
        refine lv_aload_n hx hb dX6_fillRow_8 rfl (lv_at hl 0 rfl) ?_
        refine va_get (D := D) (ci := 6) (v := .ref tar) (C := RX6) (T := TX6) (N := 1) hx hb hts uX6_fillRow_X6 hown hK hP 0 rfl rfl 0 (by decide) (hts _ kX6_fillRow_0) (fun _ h9 => h9) rfl dX6_fillRow_9 ?_
        refine lv_iload_n hx hb dX6_fillRow_12 rfl (lv_at hl 1 rfl) ?_
        refine yk_alda hx hb hK hP 1 6 rfl rfl k (by omega) (by decide) dX6_fillRow_13 ?_
        refine lv_iload_n hx hb dX6_fillRow_14 rfl (lv_at hl 3 rfl) ?_
        refine lv_aload_n hx hb dX6_fillRow_15 rfl (lv_at hl 2 rfl) ?_
        refine lv_iload_n hx hb dX6_fillRow_16 rfl (lv_at hl 3 rfl) ?_
        refine yk_ild hx hb hK hP 2 0 rfl rfl ki (by omega) (by decide) dX6_fillRow_17 ?_
        refine lv_i2l hx hb dX6_fillRow_18 rfl ?_
        refine yk_lst hx hb hK hP hD hS (3 + k) 1 (yk_fg _ (by omega)) rfl ki (by omega) (by decide) dX6_fillRow_19 (fun H locs hP9 hD9 hS9 => ?_)
        replace hP9 := yk_fPl _ (by omega) hP9
        replace hD9 := yk_fDl _ (by omega) hD9
        replace hP : va_P D vwCl ([(ta, .inr (6, [.ref tar])), (tar, .inl (cy 6, 5, .inr (.inr (.inr (.inr (fun i => if i < 5 then some (taf i) else none)))))), (oa, .inl (cy 0, 10, .inl fu))] ++ yk_fam 5 taf (fun i => .inl (cy 1, 10, .inr (.inl ((yk_upr zTf_2 k (vp_updL (zTf_2 k) ki (((fu ki)).toInt64))) i))))) H := hP9
        replace hD : va_D A ([(ta, .inr (6, [.ref tar])), (tar, .inl (cy 6, 5, .inr (.inr (.inr (.inr (fun i => if i < 5 then some (taf i) else none)))))), (oa, .inl (cy 0, 10, .inl fu))] ++ yk_fam 5 taf (fun i => .inl (cy 1, 10, .inr (.inl ((yk_upr zTf_2 k (vp_updL (zTf_2 k) ki (((fu ki)).toInt64))) i))))) := hD9
        replace hS := hS9
        clear hP9 hD9 hS9
        refine lv_iinc (v := nI (ki + 1)) (lv' := [(3, .int (nI (ki + 1))), (0, .ref ta), (1, .int (nI k)), (2, .ref oa)]) hx hb dX6_fillRow_20 hl (k := 3) rfl (yk_inc ki) (by decide) rfl (fun ls hl9 => ?_)
        replace hl := hl9
        clear hl9
        refine lv_goto (tgt := 2) hx hb dX6_fillRow_23 (by decide) ?_
        obtain ⟨n9, rfl⟩ : ∃ n9, n2 = n9 + 1 := ⟨n2 - 1, by omega⟩
        exact ih2 n9 (ki + 1) (yk_upr zTf_2 k (vp_updL (zTf_2 k) ki (((fu ki)).toInt64))) _ _ _ (by omega) (by omega)  hV2 hP hD hS (lv_sub hl [1, 2, 3, 0] rfl)
  exact L2 (10 + 1) 10 0 tb _ _ _ (Nat.lt_succ_self _) (by omega)  rfl hP hD hS (lv_sub hl [1, 2, 3, 0] rfl)

theorem kX6_swapRows_0 : Cond.fieldLink RX6 11 "FlowPlane$Table" "rows" "[[J" ∈ wsX6_swapRows := by decide +kernel
theorem uX6_swapRows_X6 : ∀ w ∈ u_ws RX6 TX6 1, w ∈ wsX6_swapRows := by decide +kernel
def l_X6_swapRows_2 (tb : Nat → Nat → Int64) (j : Nat) (k : Nat) : Nat → Nat → (Nat → Nat → Int64) → (Nat → Nat → Int64)
  | 0, ki, zTf_2 => zTf_2
  | fu_X6_swapRows_2 + 1, ki, zTf_2 => (if 10 ≤ (nI ki) then zTf_2 else (l_X6_swapRows_2 tb j k fu_X6_swapRows_2 (ki + 1) (yk_upr (yk_upr zTf_2 j (vp_updL (zTf_2 j) ki (zTf_2 k ki))) k (vp_updL ((yk_upr zTf_2 j (vp_updL (zTf_2 j) ki (zTf_2 k ki))) k) ki (zTf_2 j ki)))))
def f_X6_swapRows (tb : Nat → Nat → Int64) (j : Nat) (k : Nat) : (Nat → Nat → Int64) := (l_X6_swapRows_2 tb j k (10 + 1) 0 tb)
set_option maxHeartbeats 400000000 in
set_option maxRecDepth 100000 in
theorem c_X6_swapRows (l : Launch) (D : va_G) (cy : Nat → ClassId) (ta : Nat) (tar : Nat) (taf : Nat → Nat) (tb : Nat → Nat → Int64) (j : Nat) (k : Nat) (hj : j < 5) (hk : k < 5) : yk_Cv l D vwCl (yk_ty cy) yX6_swapRows wsX6_swapRows 0 0 [.ref ta, .int (nI j), .int (nI k)] ([(ta, .inr (6, [.ref tar])), (tar, .inl (cy 6, 5, .inr (.inr (.inr (.inr (fun i => if i < 5 then some (taf i) else none))))))] ++ yk_fam 5 taf (fun i => .inl (cy 1, 10, .inr (.inl (tb i))))) ([(ta, .inr (6, [.ref tar])), (tar, .inl (cy 6, 5, .inr (.inr (.inr (.inr (fun i => if i < 5 then some (taf i) else none))))))] ++ yk_fam 5 taf (fun i => .inl (cy 1, 10, .inr (.inl ((f_X6_swapRows tb j k) i))))) := by
  refine yk_eV (cc := cX6_swapRows) (maxL := 6) (by decide) rfl (Nat.le_of_ble_eq_true rfl) ?_
  intro p e R s m args below meth c A Q ls H locs hx hb hml hown hts hRf hRl hA hK hG hP hD hS hl hQ
  have hP : va_P D vwCl ([(ta, .inr (6, [.ref tar])), (tar, .inl (cy 6, 5, .inr (.inr (.inr (.inr (fun i => if i < 5 then some (taf i) else none))))))] ++ yk_fam 5 taf (fun i => .inl (cy 1, 10, .inr (.inl (tb i))))) H := hP
  have hl : lv_has ls 6 [(0, .ref ta), (1, .int (nI j)), (2, .int (nI k))] := hl
  have hown : s.vm.findClass RX6 = some m.cls := hown
  have hF : (f_X6_swapRows tb j k) = (f_X6_swapRows tb j k) := rfl
  refine lv_iconst (v := 0) hx hb dX6_swapRows_0 (by decide) ?_
  refine lv_istore_n (lv' := [(3, .int 0), (0, .ref ta), (1, .int (nI j)), (2, .int (nI k))]) hx hb dX6_swapRows_1 rfl hl (by decide) rfl (fun ls hl9 => ?_)
  replace hl := hl9
  clear hl9
  have J3 : ∀ (H : Heap) (locs : List Loc) (ls : Array Slot), va_P D vwCl ([(ta, .inr (6, [.ref tar])), (tar, .inl (cy 6, 5, .inr (.inr (.inr (.inr (fun i => if i < 5 then some (taf i) else none))))))] ++ yk_fam 5 taf (fun i => .inl (cy 1, 10, .inr (.inl ((l_X6_swapRows_2 tb j k (10 + 1) 0 tb) i))))) H → va_D A ([(ta, .inr (6, [.ref tar])), (tar, .inl (cy 6, 5, .inr (.inr (.inr (.inr (fun i => if i < 5 then some (taf i) else none))))))] ++ yk_fam 5 taf (fun i => .inl (cy 1, 10, .inr (.inl ((l_X6_swapRows_2 tb j k (10 + 1) 0 tb) i))))) → va_S A s.heap H locs → lv_has ls 6 [(0, .ref ta), (1, .int (nI j)), (2, .int (nI k))] → W p l e R s m args below meth c H locs 0 0 Q (F0 m 50 ls []) := by
    clear hP hD hS hl
    intro H locs ls hP hD hS hl
    have hF : f_X6_swapRows tb j k = (l_X6_swapRows_2 tb j k (10 + 1) 0 tb) := hF
    rw [hF] at hQ
    exact hQ _ _ _ _ dX6_swapRows_50 hP hS
  have L2 : ∀ (M9 n2 ki : Nat) (zTf_2 : Nat → Nat → Int64) (H : Heap) (locs : List Loc) (ls : Array Slot), n2 < M9 → ki + n2 = 10 → (l_X6_swapRows_2 tb j k (10 + 1) 0 tb) = (l_X6_swapRows_2 tb j k (n2 + 1) ki zTf_2) → va_P D vwCl ([(ta, .inr (6, [.ref tar])), (tar, .inl (cy 6, 5, .inr (.inr (.inr (.inr (fun i => if i < 5 then some (taf i) else none))))))] ++ yk_fam 5 taf (fun i => .inl (cy 1, 10, .inr (.inl (zTf_2 i))))) H → va_D A ([(ta, .inr (6, [.ref tar])), (tar, .inl (cy 6, 5, .inr (.inr (.inr (.inr (fun i => if i < 5 then some (taf i) else none))))))] ++ yk_fam 5 taf (fun i => .inl (cy 1, 10, .inr (.inl (zTf_2 i))))) → va_S A s.heap H locs → lv_has ls 6 [(0, .ref ta), (1, .int (nI j)), (2, .int (nI k)), (3, .int (nI ki))] → W p l e R s m args below meth c H locs 0 0 Q (F0 m 2 ls []) := by
    clear hP hD hS hl
    intro M9
    induction M9 with
    | zero => intro n2 ki _ _ _ _ hn; exact absurd hn (Nat.not_lt_zero _)
    | succ M9 ih2 =>
      intro n2 ki zTf_2 H locs ls hn2 hk2 hV2 hP hD hS hl
      refine lv_iload_n hx hb dX6_swapRows_2 rfl (lv_at hl 3 rfl) ?_
      refine lv_bipush (v := 10) hx hb dX6_swapRows_3 (by decide) ?_
      refine lv_icmp_ge (tgt := 50) hx hb dX6_swapRows_5 (by decide) (fun hc2 => ?_) (fun hc2 => ?_)
      · replace hV2 := hV2.trans (if_pos hc2)
        have hV2 : (l_X6_swapRows_2 tb j k (10 + 1) 0 tb) = zTf_2 := hV2
        have J3 := J3
        rw [hV2] at J3
        exact J3 _ _ _ hP hD hS (lv_sub hl [0, 1, 2] rfl)
      · replace hV2 := hV2.trans (if_neg hc2)
        have hlt2 : ki < 10 := yk_lt hk2 (by omega) hc2
        refine lv_aload_n hx hb dX6_swapRows_8 rfl (lv_at hl 0 rfl) ?_
        refine va_get (D := D) (ci := 6) (v := .ref tar) (C := RX6) (T := TX6) (N := 1) hx hb hts uX6_swapRows_X6 hown hK hP 0 rfl rfl 0 (by decide) (hts _ kX6_swapRows_0) (fun _ h9 => h9) rfl dX6_swapRows_9 ?_
        refine lv_iload_n hx hb dX6_swapRows_12 rfl (lv_at hl 1 rfl) ?_
        refine yk_alda hx hb hK hP 1 6 rfl rfl j (by omega) (by decide) dX6_swapRows_13 ?_
        refine lv_iload_n hx hb dX6_swapRows_14 rfl (lv_at hl 3 rfl) ?_
        refine yk_lld hx hb hK hP (2 + j) 1 (yk_fg _ (by omega)) rfl ki (by omega) (by decide) dX6_swapRows_15 ?_
        refine lv_lstore (lv' := [(4, .long (zTf_2 j ki)), (0, .ref ta), (1, .int (nI j)), (2, .int (nI k)), (3, .int (nI ki))]) hx hb dX6_swapRows_16 hl (by decide) rfl (fun ls hl9 => ?_)
        replace hl := hl9
        clear hl9
        refine lv_aload_n hx hb dX6_swapRows_18 rfl (lv_at hl 1 rfl) ?_
        refine va_get (D := D) (ci := 6) (v := .ref tar) (C := RX6) (T := TX6) (N := 1) hx hb hts uX6_swapRows_X6 hown hK hP 0 rfl rfl 0 (by decide) (hts _ kX6_swapRows_0) (fun _ h9 => h9) rfl dX6_swapRows_19 ?_
        refine lv_iload_n hx hb dX6_swapRows_22 rfl (lv_at hl 2 rfl) ?_
        refine yk_alda hx hb hK hP 1 6 rfl rfl j (by omega) (by decide) dX6_swapRows_23 ?_
        refine lv_iload_n hx hb dX6_swapRows_24 rfl (lv_at hl 4 rfl) ?_
        refine lv_aload_n hx hb dX6_swapRows_25 rfl (lv_at hl 1 rfl) ?_
        refine va_get (D := D) (ci := 6) (v := .ref tar) (C := RX6) (T := TX6) (N := 1) hx hb hts uX6_swapRows_X6 hown hK hP 0 rfl rfl 0 (by decide) (hts _ kX6_swapRows_0) (fun _ h9 => h9) rfl dX6_swapRows_26 ?_
        refine lv_iload_n hx hb dX6_swapRows_29 rfl (lv_at hl 3 rfl) ?_
        refine yk_alda hx hb hK hP 1 6 rfl rfl k (by omega) (by decide) dX6_swapRows_30 ?_
        refine lv_iload_n hx hb dX6_swapRows_31 rfl (lv_at hl 4 rfl) ?_
        refine yk_lld hx hb hK hP (2 + k) 1 (yk_fg _ (by omega)) rfl ki (by omega) (by decide) dX6_swapRows_32 ?_
        refine yk_lst hx hb hK hP hD hS (2 + j) 1 (yk_fg _ (by omega)) rfl ki (by omega) (by decide) dX6_swapRows_33 (fun H locs hP9 hD9 hS9 => ?_)
        replace hP9 := yk_fPl _ (by omega) hP9
        replace hD9 := yk_fDl _ (by omega) hD9
        replace hP : va_P D vwCl ([(ta, .inr (6, [.ref tar])), (tar, .inl (cy 6, 5, .inr (.inr (.inr (.inr (fun i => if i < 5 then some (taf i) else none))))))] ++ yk_fam 5 taf (fun i => .inl (cy 1, 10, .inr (.inl ((yk_upr zTf_2 j (vp_updL (zTf_2 j) ki (zTf_2 k ki))) i))))) H := hP9
        replace hD : va_D A ([(ta, .inr (6, [.ref tar])), (tar, .inl (cy 6, 5, .inr (.inr (.inr (.inr (fun i => if i < 5 then some (taf i) else none))))))] ++ yk_fam 5 taf (fun i => .inl (cy 1, 10, .inr (.inl ((yk_upr zTf_2 j (vp_updL (zTf_2 j) ki (zTf_2 k ki))) i))))) := hD9
        replace hS := hS9
        clear hP9 hD9 hS9
        refine lv_aload_n hx hb dX6_swapRows_34 rfl (lv_at hl 1 rfl) ?_
        refine va_get (D := D) (ci := 6) (v := .ref tar) (C := RX6) (T := TX6) (N := 1) hx hb hts uX6_swapRows_X6 hown hK hP 0 rfl rfl 0 (by decide) (hts _ kX6_swapRows_0) (fun _ h9 => h9) rfl dX6_swapRows_35 ?_
        refine lv_iload_n hx hb dX6_swapRows_38 rfl (lv_at hl 3 rfl) ?_
        refine yk_alda hx hb hK hP 1 6 rfl rfl k (by omega) (by decide) dX6_swapRows_39 ?_
        refine lv_iload_n hx hb dX6_swapRows_40 rfl (lv_at hl 4 rfl) ?_
        refine lv_lload hx hb dX6_swapRows_41 (lv_at hl 0 rfl) ?_
        refine yk_lst hx hb hK hP hD hS (2 + k) 1 (yk_fg _ (by omega)) rfl ki (by omega) (by decide) dX6_swapRows_43 (fun H locs hP9 hD9 hS9 => ?_)
        replace hP9 := yk_fPl _ (by omega) hP9
        replace hD9 := yk_fDl _ (by omega) hD9
        replace hP : va_P D vwCl ([(ta, .inr (6, [.ref tar])), (tar, .inl (cy 6, 5, .inr (.inr (.inr (.inr (fun i => if i < 5 then some (taf i) else none))))))] ++ yk_fam 5 taf (fun i => .inl (cy 1, 10, .inr (.inl ((yk_upr (yk_upr zTf_2 j (vp_updL (zTf_2 j) ki (zTf_2 k ki))) k (vp_updL ((yk_upr zTf_2 j (vp_updL (zTf_2 j) ki (zTf_2 k ki))) k) ki (zTf_2 j ki))) i))))) H := hP9
        replace hD : va_D A ([(ta, .inr (6, [.ref tar])), (tar, .inl (cy 6, 5, .inr (.inr (.inr (.inr (fun i => if i < 5 then some (taf i) else none))))))] ++ yk_fam 5 taf (fun i => .inl (cy 1, 10, .inr (.inl ((yk_upr (yk_upr zTf_2 j (vp_updL (zTf_2 j) ki (zTf_2 k ki))) k (vp_updL ((yk_upr zTf_2 j (vp_updL (zTf_2 j) ki (zTf_2 k ki))) k) ki (zTf_2 j ki))) i))))) := hD9
        replace hS := hS9
        clear hP9 hD9 hS9
        refine lv_iinc (v := nI (ki + 1)) (lv' := [(3, .int (nI (ki + 1))), (4, .long (zTf_2 j ki)), (0, .ref ta), (1, .int (nI j)), (2, .int (nI k))]) hx hb dX6_swapRows_44 hl (k := 4) rfl (yk_inc ki) (by decide) rfl (fun ls hl9 => ?_)
        replace hl := hl9
        clear hl9
        refine lv_goto (tgt := 2) hx hb dX6_swapRows_47 (by decide) ?_
        obtain ⟨n9, rfl⟩ : ∃ n9, n2 = n9 + 1 := ⟨n2 - 1, by omega⟩
        exact ih2 n9 (ki + 1) (yk_upr (yk_upr zTf_2 j (vp_updL (zTf_2 j) ki (zTf_2 k ki))) k (vp_updL ((yk_upr zTf_2 j (vp_updL (zTf_2 j) ki (zTf_2 k ki))) k) ki (zTf_2 j ki))) _ _ _ (by omega) (by omega)  hV2 hP hD hS (lv_sub hl [2, 3, 4, 0] rfl)
  exact L2 (10 + 1) 10 0 tb _ _ _ (Nat.lt_succ_self _) (by omega)  rfl hP hD hS (lv_sub hl [1, 2, 3, 0] rfl)

theorem kX6_raisePivot_0 : Cond.fieldLink RX6 11 "FlowPlane$Table" "rows" "[[J" ∈ wsX6_raisePivot := by decide +kernel
theorem uX6_raisePivot_X6 : ∀ w ∈ u_ws RX6 TX6 1, w ∈ wsX6_raisePivot := by decide +kernel
def l_X6_raisePivot_2 (tb : Nat → Nat → Int64) (j : Nat) (k : Nat) : Nat → Nat → Int32 × (Nat → Nat → Int64)
  | 0, ki => (0, tb)
  | fu_X6_raisePivot_2 + 1, ki => (if 5 ≤ (nI ki) then (0, tb) else (if (lg_cmp (tb ki k) 0) = 0 then (l_X6_raisePivot_2 tb j k fu_X6_raisePivot_2 (ki + 1)) else (1, (f_X6_swapRows tb ki j))))
def f_X6_raisePivot (tb : Nat → Nat → Int64) (j : Nat) (k : Nat) : Int32 × (Nat → Nat → Int64) := (l_X6_raisePivot_2 tb j k (5 - j + 1) j)
theorem bl_X6_raisePivot_2 (tb : Nat → Nat → Int64) (j : Nat) (k : Nat) : ∀ (fz : Nat) (q0 : Nat), (l_X6_raisePivot_2 tb j k fz q0).1 = 0 ∨ (l_X6_raisePivot_2 tb j k fz q0).1 = 1
  | 0, _ => Or.inl rfl
  | fz + 1, _ => by
    unfold l_X6_raisePivot_2
    (repeat' split) <;> first | exact Or.inl (by with_reducible rfl) | exact Or.inr (by with_reducible rfl) | exact bl_X6_raisePivot_2 _ _ _ fz _
theorem b_X6_raisePivot (tb : Nat → Nat → Int64) (j : Nat) (k : Nat) : (f_X6_raisePivot tb j k).1 = 0 ∨ (f_X6_raisePivot tb j k).1 = 1 := by
  unfold f_X6_raisePivot; (repeat' split) <;> first | exact Or.inl (by with_reducible rfl) | exact Or.inr (by with_reducible rfl) | with_reducible exact bl_X6_raisePivot_2 _ _ _ _ _
set_option maxHeartbeats 400000000 in
set_option maxRecDepth 100000 in
theorem c_X6_raisePivot (l : Launch) (D : va_G) (cy : Nat → ClassId) (ta : Nat) (tar : Nat) (taf : Nat → Nat) (tb : Nat → Nat → Int64) (j : Nat) (k : Nat) (hj : j < 5) (hk : k < 10) : yk_Ci l D vwCl (yk_ty cy) yX6_raisePivot wsX6_raisePivot 1 25 [.ref ta, .int (nI j), .int (nI k)] ([(ta, .inr (6, [.ref tar])), (tar, .inl (cy 6, 5, .inr (.inr (.inr (.inr (fun i => if i < 5 then some (taf i) else none))))))] ++ yk_fam 5 taf (fun i => .inl (cy 1, 10, .inr (.inl (tb i))))) ((f_X6_raisePivot tb j k).1) ([(ta, .inr (6, [.ref tar])), (tar, .inl (cy 6, 5, .inr (.inr (.inr (.inr (fun i => if i < 5 then some (taf i) else none))))))] ++ yk_fam 5 taf (fun i => .inl (cy 1, 10, .inr (.inl (((f_X6_raisePivot tb j k).2) i))))) := by
  refine yk_eI (cc := cX6_raisePivot) (maxL := 4) (by decide) rfl (Nat.le_of_ble_eq_true rfl) (yk_nb (b_X6_raisePivot tb j k)) ?_
  intro p e R s m args below meth c A Q ls H locs hx hb hml hown hts hRf hRl hA hK hG hP hD hS hl hQ
  have hP : va_P D vwCl ([(ta, .inr (6, [.ref tar])), (tar, .inl (cy 6, 5, .inr (.inr (.inr (.inr (fun i => if i < 5 then some (taf i) else none))))))] ++ yk_fam 5 taf (fun i => .inl (cy 1, 10, .inr (.inl (tb i))))) H := hP
  have hl : lv_has ls 4 [(0, .ref ta), (1, .int (nI j)), (2, .int (nI k))] := hl
  have hown : s.vm.findClass RX6 = some m.cls := hown
  have hF : (f_X6_raisePivot tb j k) = (f_X6_raisePivot tb j k) := rfl
  refine lv_iload_n hx hb dX6_raisePivot_0 rfl (lv_at hl 1 rfl) ?_
  refine lv_istore_n (lv' := [(3, .int (nI j)), (0, .ref ta), (1, .int (nI j)), (2, .int (nI k))]) hx hb dX6_raisePivot_1 rfl hl (by decide) rfl (fun ls hl9 => ?_)
  replace hl := hl9
  clear hl9
  have L2 : ∀ (M9 n2 ki : Nat) (H : Heap) (locs : List Loc) (ls : Array Slot), n2 < M9 → ki + n2 = 5 → f_X6_raisePivot tb j k = (l_X6_raisePivot_2 tb j k (n2 + 1) ki) → va_P D vwCl ([(ta, .inr (6, [.ref tar])), (tar, .inl (cy 6, 5, .inr (.inr (.inr (.inr (fun i => if i < 5 then some (taf i) else none))))))] ++ yk_fam 5 taf (fun i => .inl (cy 1, 10, .inr (.inl (tb i))))) H → va_D A ([(ta, .inr (6, [.ref tar])), (tar, .inl (cy 6, 5, .inr (.inr (.inr (.inr (fun i => if i < 5 then some (taf i) else none))))))] ++ yk_fam 5 taf (fun i => .inl (cy 1, 10, .inr (.inl (tb i))))) → va_S A s.heap H locs → lv_has ls 4 [(0, .ref ta), (1, .int (nI j)), (2, .int (nI k)), (3, .int (nI ki))] → W p l e R s m args below meth c H locs 0 0 Q (F0 m 2 ls []) := by
    clear hP hD hS hl hF
    intro M9
    induction M9 with
    | zero => intro n2 ki _ _ _ hn; exact absurd hn (Nat.not_lt_zero _)
    | succ M9 ih2 =>
      intro n2 ki H locs ls hn2 hk2 hF hP hD hS hl
      refine lv_iload_n hx hb dX6_raisePivot_2 rfl (lv_at hl 3 rfl) ?_
      refine lv_iconst (v := 5) hx hb dX6_raisePivot_3 (by decide) ?_
      refine lv_icmp_ge (tgt := 34) hx hb dX6_raisePivot_4 (by decide) (fun hc1 => ?_) (fun hc1 => ?_)
      · replace hF := hF.trans (if_pos hc1)
        refine lv_iconst (v := 0) hx hb dX6_raisePivot_34 (by decide) ?_
        have hF : f_X6_raisePivot tb j k = (0, tb) := hF
        rw [hF] at hQ
        exact hQ _ _ _ _ dX6_raisePivot_35 hP hS
      · replace hF := hF.trans (if_neg hc1)
        have hlt2 : ki < 5 := yk_lt hk2 (by omega) hc1
        refine lv_aload_n hx hb dX6_raisePivot_7 rfl (lv_at hl 0 rfl) ?_
        refine va_get (D := D) (ci := 6) (v := .ref tar) (C := RX6) (T := TX6) (N := 1) hx hb hts uX6_raisePivot_X6 hown hK hP 0 rfl rfl 0 (by decide) (hts _ kX6_raisePivot_0) (fun _ h9 => h9) rfl dX6_raisePivot_8 ?_
        refine lv_iload_n hx hb dX6_raisePivot_11 rfl (lv_at hl 3 rfl) ?_
        refine yk_alda hx hb hK hP 1 6 rfl rfl ki (by omega) (by decide) dX6_raisePivot_12 ?_
        refine lv_iload_n hx hb dX6_raisePivot_13 rfl (lv_at hl 2 rfl) ?_
        refine yk_lld hx hb hK hP (2 + ki) 1 (yk_fg _ (by omega)) rfl k (by omega) (by decide) dX6_raisePivot_14 ?_
        refine lv_lconst (v := 0) hx hb dX6_raisePivot_15 (by decide) ?_
        refine W.lcmp hx hb dX6_raisePivot_16 ?_
        refine lv_if_eq (tgt := 28) hx hb dX6_raisePivot_17 (by decide) (fun hc2 => ?_) (fun hc2 => ?_)
        · replace hF := hF.trans (if_pos hc2)
          refine lv_iinc (v := nI (ki + 1)) (lv' := [(3, .int (nI (ki + 1))), (0, .ref ta), (1, .int (nI j)), (2, .int (nI k))]) hx hb dX6_raisePivot_28 hl (k := 3) rfl (yk_inc ki) (by decide) rfl (fun ls hl9 => ?_)
          replace hl := hl9
          clear hl9
          refine lv_goto (tgt := 2) hx hb dX6_raisePivot_31 (by decide) ?_
          obtain ⟨n9, rfl⟩ : ∃ n9, n2 = n9 + 1 := ⟨n2 - 1, by omega⟩
          exact ih2 n9 (ki + 1) _ _ _ (by omega) (by omega)  hF hP hD hS (lv_sub hl [1, 2, 3, 0] rfl)
        · replace hF := hF.trans (if_neg hc2)
          refine lv_aload_n hx hb dX6_raisePivot_20 rfl (lv_at hl 0 rfl) ?_
          refine lv_iload_n hx hb dX6_raisePivot_21 rfl (lv_at hl 3 rfl) ?_
          refine lv_iload_n hx hb dX6_raisePivot_22 rfl (lv_at hl 1 rfl) ?_
          refine yk_v [0, 1, 2, 3, 4, 5, 6] (va_runV (As := [.int (nI ki), .int (nI j)]) (rest := []) ⟨hx, hb, hml, hown, hts⟩ (c_X6_swapRows l D cy ta tar taf tb ki j (by omega) hj H.size) (cwV 2 hts gX6_raisePivot_X6_swapRows rfl rfl rfl hv_X6_swapRows (yk_room hRf hRl rfl rfl)) (yk_pv (q := (RX6, TX6, 1)) hG hA hS hK hP hD [0, 1, 2, 3, 4, 5, 6] (by decide +kernel) rfl rfl rfl) rfl rfl hl.1 rfl (lv_room (Nat.le_of_ble_eq_true rfl)) dX6_raisePivot_23 ⟨Nat.zero_le _, Nat.zero_le _⟩) hP hD hS hA rfl (Eq.trans (b := [ta, tar, taf 0, taf 1, taf 2, taf 3, taf 4]) rfl rfl) (fun H locs hP9 hD9 hS9 => ?_)
          replace hP : va_P D vwCl ([(ta, .inr (6, [.ref tar])), (tar, .inl (cy 6, 5, .inr (.inr (.inr (.inr (fun i => if i < 5 then some (taf i) else none))))))] ++ yk_fam 5 taf (fun i => .inl (cy 1, 10, .inr (.inl ((f_X6_swapRows tb ki j) i))))) H := hP9
          replace hD : va_D A ([(ta, .inr (6, [.ref tar])), (tar, .inl (cy 6, 5, .inr (.inr (.inr (.inr (fun i => if i < 5 then some (taf i) else none))))))] ++ yk_fam 5 taf (fun i => .inl (cy 1, 10, .inr (.inl ((f_X6_swapRows tb ki j) i))))) := hD9
          replace hS := hS9
          clear hP9 hD9 hS9
          refine lv_iconst (v := 1) hx hb dX6_raisePivot_26 (by decide) ?_
          have hF : f_X6_raisePivot tb j k = (1, (f_X6_swapRows tb ki j)) := hF
          rw [hF] at hQ
          exact hQ _ _ _ _ dX6_raisePivot_27 hP hS
  exact L2 ((5 - j) + 1) (5 - j) j  _ _ _ (Nat.lt_succ_self _) (by omega)  hF hP hD hS (lv_sub hl [1, 2, 3, 0] rfl)

theorem kX6_clearBelow_0 : Cond.fieldLink RX6 11 "FlowPlane$Table" "rows" "[[J" ∈ wsX6_clearBelow := by decide +kernel
theorem uX6_clearBelow_X6 : ∀ w ∈ u_ws RX6 TX6 1, w ∈ wsX6_clearBelow := by decide +kernel
def l_X6_clearBelow_35 (tb : Nat → Nat → Int64) (j : Nat) (k : Nat) (z : Int64) (ki : Nat) (zTf_15 : Nat → Nat → Int64) : Nat → Nat → (Nat → Nat → Int64) → (Nat → Nat → Int64)
  | 0, kj, zTf_35 => zTf_35
  | fu_X6_clearBelow_35 + 1, kj, zTf_35 => (if 10 ≤ (nI kj) then zTf_35 else (l_X6_clearBelow_35 tb j k z ki zTf_15 fu_X6_clearBelow_35 (kj + 1) (yk_upr zTf_35 ki (vp_updL (zTf_35 ki) kj (if (lg_cmp z 0) = 0 then (((zTf_35 ki kj) * (tb j k)) - ((zTf_15 ki k) * (zTf_35 j kj))) else ((((zTf_35 ki kj) * (tb j k)) - ((zTf_15 ki k) * (zTf_35 j kj))) / z))))))
def l_X6_clearBelow_15 (tb : Nat → Nat → Int64) (j : Nat) (k : Nat) (z : Int64) : Nat → Nat → (Nat → Nat → Int64) → (Nat → Nat → Int64)
  | 0, ki, zTf_15 => zTf_15
  | fu_X6_clearBelow_15 + 1, ki, zTf_15 => (if 5 ≤ (nI ki) then zTf_15 else (l_X6_clearBelow_15 tb j k z fu_X6_clearBelow_15 (ki + 1) (l_X6_clearBelow_35 tb j k z ki zTf_15 (10 - k + 1) k zTf_15)))
def f_X6_clearBelow (tb : Nat → Nat → Int64) (j : Nat) (k : Nat) (z : Int64) : (Nat → Nat → Int64) := (l_X6_clearBelow_15 tb j k z (5 - (j + 1) + 1) (j + 1) tb)
set_option maxHeartbeats 400000000 in
set_option maxRecDepth 100000 in
theorem c_X6_clearBelow (l : Launch) (D : va_G) (cy : Nat → ClassId) (ta : Nat) (tar : Nat) (taf : Nat → Nat) (tb : Nat → Nat → Int64) (j : Nat) (k : Nat) (z : Int64) (hj : j < 5) (hk : k < 10) : yk_Cv l D vwCl (yk_ty cy) yX6_clearBelow wsX6_clearBelow 0 0 [.ref ta, .int (nI j), .int (nI k), .long z] ([(ta, .inr (6, [.ref tar])), (tar, .inl (cy 6, 5, .inr (.inr (.inr (.inr (fun i => if i < 5 then some (taf i) else none))))))] ++ yk_fam 5 taf (fun i => .inl (cy 1, 10, .inr (.inl (tb i))))) ([(ta, .inr (6, [.ref tar])), (tar, .inl (cy 6, 5, .inr (.inr (.inr (.inr (fun i => if i < 5 then some (taf i) else none))))))] ++ yk_fam 5 taf (fun i => .inl (cy 1, 10, .inr (.inl ((f_X6_clearBelow tb j k z) i))))) := by
  refine yk_eV (cc := cX6_clearBelow) (maxL := 13) (by decide) rfl (Nat.le_of_ble_eq_true rfl) ?_
  intro p e R s m args below meth c A Q ls H locs hx hb hml hown hts hRf hRl hA hK hG hP hD hS hl hQ
  have hP : va_P D vwCl ([(ta, .inr (6, [.ref tar])), (tar, .inl (cy 6, 5, .inr (.inr (.inr (.inr (fun i => if i < 5 then some (taf i) else none))))))] ++ yk_fam 5 taf (fun i => .inl (cy 1, 10, .inr (.inl (tb i))))) H := hP
  have hl : lv_has ls 13 [(0, .ref ta), (1, .int (nI j)), (2, .int (nI k)), (3, .long z)] := hl
  have hown : s.vm.findClass RX6 = some m.cls := hown
  have hF : (f_X6_clearBelow tb j k z) = (f_X6_clearBelow tb j k z) := rfl
  refine lv_aload_n hx hb dX6_clearBelow_0 rfl (lv_at hl 0 rfl) ?_
  refine va_get (D := D) (ci := 6) (v := .ref tar) (C := RX6) (T := TX6) (N := 1) hx hb hts uX6_clearBelow_X6 hown hK hP 0 rfl rfl 0 (by decide) (hts _ kX6_clearBelow_0) (fun _ h9 => h9) rfl dX6_clearBelow_1 ?_
  refine lv_iload_n hx hb dX6_clearBelow_4 rfl (lv_at hl 1 rfl) ?_
  refine yk_alda hx hb hK hP 1 6 rfl rfl j (by omega) (by decide) dX6_clearBelow_5 ?_
  refine lv_iload_n hx hb dX6_clearBelow_6 rfl (lv_at hl 2 rfl) ?_
  refine yk_lld hx hb hK hP (2 + j) 1 (yk_fg _ (by omega)) rfl k (by omega) (by decide) dX6_clearBelow_7 ?_
  refine lv_lstore (lv' := [(5, .long (tb j k)), (0, .ref ta), (1, .int (nI j)), (2, .int (nI k)), (3, .long z)]) hx hb dX6_clearBelow_8 hl (by decide) rfl (fun ls hl9 => ?_)
  replace hl := hl9
  clear hl9
  refine lv_iload_n hx hb dX6_clearBelow_10 rfl (lv_at hl 2 rfl) ?_
  refine lv_iconst (v := 1) hx hb dX6_clearBelow_11 (by decide) ?_
  refine lv_iadd hx hb dX6_clearBelow_12 ?_
  refine yk_ti (y := nI (j + 1)) (nI_add j 1) ?_
  refine lv_istore (lv' := [(7, .int (nI (j + 1))), (5, .long (tb j k)), (0, .ref ta), (1, .int (nI j)), (2, .int (nI k)), (3, .long z)]) hx hb dX6_clearBelow_13 hl (by decide) rfl (fun ls hl9 => ?_)
  replace hl := hl9
  clear hl9
  have J21 : ∀ (H : Heap) (locs : List Loc) (ls : Array Slot), va_P D vwCl ([(ta, .inr (6, [.ref tar])), (tar, .inl (cy 6, 5, .inr (.inr (.inr (.inr (fun i => if i < 5 then some (taf i) else none))))))] ++ yk_fam 5 taf (fun i => .inl (cy 1, 10, .inr (.inl ((l_X6_clearBelow_15 tb j k z (5 - (j + 1) + 1) (j + 1) tb) i))))) H → va_D A ([(ta, .inr (6, [.ref tar])), (tar, .inl (cy 6, 5, .inr (.inr (.inr (.inr (fun i => if i < 5 then some (taf i) else none))))))] ++ yk_fam 5 taf (fun i => .inl (cy 1, 10, .inr (.inl ((l_X6_clearBelow_15 tb j k z (5 - (j + 1) + 1) (j + 1) tb) i))))) → va_S A s.heap H locs → lv_has ls 13 [(0, .ref ta), (1, .int (nI j)), (2, .int (nI k)), (3, .long z), (5, .long (tb j k))] → W p l e R s m args below meth c H locs 0 0 Q (F0 m 107 ls []) := by
    clear hP hD hS hl
    intro H locs ls hP hD hS hl
    have hF : f_X6_clearBelow tb j k z = (l_X6_clearBelow_15 tb j k z (5 - (j + 1) + 1) (j + 1) tb) := hF
    rw [hF] at hQ
    exact hQ _ _ _ _ dX6_clearBelow_107 hP hS
  have L15 : ∀ (M9 n15 ki : Nat) (zTf_15 : Nat → Nat → Int64) (H : Heap) (locs : List Loc) (ls : Array Slot), n15 < M9 → ki + n15 = 5 → (l_X6_clearBelow_15 tb j k z (5 - (j + 1) + 1) (j + 1) tb) = (l_X6_clearBelow_15 tb j k z (n15 + 1) ki zTf_15) → va_P D vwCl ([(ta, .inr (6, [.ref tar])), (tar, .inl (cy 6, 5, .inr (.inr (.inr (.inr (fun i => if i < 5 then some (taf i) else none))))))] ++ yk_fam 5 taf (fun i => .inl (cy 1, 10, .inr (.inl (zTf_15 i))))) H → va_D A ([(ta, .inr (6, [.ref tar])), (tar, .inl (cy 6, 5, .inr (.inr (.inr (.inr (fun i => if i < 5 then some (taf i) else none))))))] ++ yk_fam 5 taf (fun i => .inl (cy 1, 10, .inr (.inl (zTf_15 i))))) → va_S A s.heap H locs → lv_has ls 13 [(0, .ref ta), (1, .int (nI j)), (2, .int (nI k)), (3, .long z), (5, .long (tb j k)), (7, .int (nI ki))] → W p l e R s m args below meth c H locs 0 0 Q (F0 m 15 ls []) := by
    clear hP hD hS hl
    intro M9
    induction M9 with
    | zero => intro n15 ki _ _ _ _ hn; exact absurd hn (Nat.not_lt_zero _)
    | succ M9 ih15 =>
      intro n15 ki zTf_15 H locs ls hn15 hk15 hV15 hP hD hS hl
      refine lv_iload hx hb dX6_clearBelow_15 (lv_at hl 5 rfl) ?_
      refine lv_iconst (v := 5) hx hb dX6_clearBelow_17 (by decide) ?_
      refine lv_icmp_ge (tgt := 107) hx hb dX6_clearBelow_18 (by decide) (fun hc11 => ?_) (fun hc11 => ?_)
      · replace hV15 := hV15.trans (if_pos hc11)
        have hV15 : (l_X6_clearBelow_15 tb j k z (5 - (j + 1) + 1) (j + 1) tb) = zTf_15 := hV15
        have J21 := J21
        rw [hV15] at J21
        exact J21 _ _ _ hP hD hS (lv_sub hl [0, 1, 2, 3, 4] rfl)
      · replace hV15 := hV15.trans (if_neg hc11)
        have hlt15 : ki < 5 := yk_lt hk15 (by omega) hc11
        refine lv_aload_n hx hb dX6_clearBelow_21 rfl (lv_at hl 0 rfl) ?_
        refine va_get (D := D) (ci := 6) (v := .ref tar) (C := RX6) (T := TX6) (N := 1) hx hb hts uX6_clearBelow_X6 hown hK hP 0 rfl rfl 0 (by decide) (hts _ kX6_clearBelow_0) (fun _ h9 => h9) rfl dX6_clearBelow_22 ?_
        refine lv_iload hx hb dX6_clearBelow_25 (lv_at hl 5 rfl) ?_
        refine yk_alda hx hb hK hP 1 6 rfl rfl ki (by omega) (by decide) dX6_clearBelow_27 ?_
        refine lv_iload_n hx hb dX6_clearBelow_28 rfl (lv_at hl 2 rfl) ?_
        refine yk_lld hx hb hK hP (2 + ki) 1 (yk_fg _ (by omega)) rfl k (by omega) (by decide) dX6_clearBelow_29 ?_
        refine lv_lstore (lv' := [(8, .long (zTf_15 ki k)), (0, .ref ta), (1, .int (nI j)), (2, .int (nI k)), (3, .long z), (5, .long (tb j k)), (7, .int (nI ki))]) hx hb dX6_clearBelow_30 hl (by decide) rfl (fun ls hl9 => ?_)
        replace hl := hl9
        clear hl9
        refine lv_iload_n hx hb dX6_clearBelow_32 rfl (lv_at hl 3 rfl) ?_
        refine lv_istore (lv' := [(10, .int (nI k)), (8, .long (zTf_15 ki k)), (0, .ref ta), (1, .int (nI j)), (2, .int (nI k)), (3, .long z), (5, .long (tb j k)), (7, .int (nI ki))]) hx hb dX6_clearBelow_33 hl (by decide) rfl (fun ls hl9 => ?_)
        replace hl := hl9
        clear hl9
        have J20 : ∀ (H : Heap) (locs : List Loc) (ls : Array Slot), va_P D vwCl ([(ta, .inr (6, [.ref tar])), (tar, .inl (cy 6, 5, .inr (.inr (.inr (.inr (fun i => if i < 5 then some (taf i) else none))))))] ++ yk_fam 5 taf (fun i => .inl (cy 1, 10, .inr (.inl ((l_X6_clearBelow_35 tb j k z ki zTf_15 (10 - k + 1) k zTf_15) i))))) H → va_D A ([(ta, .inr (6, [.ref tar])), (tar, .inl (cy 6, 5, .inr (.inr (.inr (.inr (fun i => if i < 5 then some (taf i) else none))))))] ++ yk_fam 5 taf (fun i => .inl (cy 1, 10, .inr (.inl ((l_X6_clearBelow_35 tb j k z ki zTf_15 (10 - k + 1) k zTf_15) i))))) → va_S A s.heap H locs → lv_has ls 13 [(0, .ref ta), (1, .int (nI j)), (2, .int (nI k)), (3, .long z), (5, .long (tb j k)), (7, .int (nI ki)), (8, .long (zTf_15 ki k))] → W p l e R s m args below meth c H locs 0 0 Q (F0 m 101 ls []) := by
          clear hP hD hS hl
          intro H locs ls hP hD hS hl
          refine lv_iinc (v := nI (ki + 1)) (lv' := [(7, .int (nI (ki + 1))), (0, .ref ta), (1, .int (nI j)), (2, .int (nI k)), (3, .long z), (5, .long (tb j k)), (8, .long (zTf_15 ki k))]) hx hb dX6_clearBelow_101 hl (k := 5) rfl (yk_inc ki) (by decide) rfl (fun ls hl9 => ?_)
          replace hl := hl9
          clear hl9
          refine lv_goto (tgt := 15) hx hb dX6_clearBelow_104 (by decide) ?_
          obtain ⟨n9, rfl⟩ : ∃ n9, n15 = n9 + 1 := ⟨n15 - 1, by omega⟩
          exact ih15 n9 (ki + 1) (l_X6_clearBelow_35 tb j k z ki zTf_15 (10 - k + 1) k zTf_15) _ _ _ (by omega) (by omega)  hV15 hP hD hS (lv_sub hl [1, 2, 3, 4, 5, 0] rfl)
        have L35 : ∀ (M9 n35 kj : Nat) (zTf_35 : Nat → Nat → Int64) (H : Heap) (locs : List Loc) (ls : Array Slot), n35 < M9 → kj + n35 = 10 → (l_X6_clearBelow_35 tb j k z ki zTf_15 (10 - k + 1) k zTf_15) = (l_X6_clearBelow_35 tb j k z ki zTf_15 (n35 + 1) kj zTf_35) → va_P D vwCl ([(ta, .inr (6, [.ref tar])), (tar, .inl (cy 6, 5, .inr (.inr (.inr (.inr (fun i => if i < 5 then some (taf i) else none))))))] ++ yk_fam 5 taf (fun i => .inl (cy 1, 10, .inr (.inl (zTf_35 i))))) H → va_D A ([(ta, .inr (6, [.ref tar])), (tar, .inl (cy 6, 5, .inr (.inr (.inr (.inr (fun i => if i < 5 then some (taf i) else none))))))] ++ yk_fam 5 taf (fun i => .inl (cy 1, 10, .inr (.inl (zTf_35 i))))) → va_S A s.heap H locs → lv_has ls 13 [(0, .ref ta), (1, .int (nI j)), (2, .int (nI k)), (3, .long z), (5, .long (tb j k)), (7, .int (nI ki)), (8, .long (zTf_15 ki k)), (10, .int (nI kj))] → W p l e R s m args below meth c H locs 0 0 Q (F0 m 35 ls []) := by
          clear hP hD hS hl
          intro M9
          induction M9 with
          | zero => intro n35 kj _ _ _ _ hn; exact absurd hn (Nat.not_lt_zero _)
          | succ M9 ih35 =>
            intro n35 kj zTf_35 H locs ls hn35 hk35 hV35 hP hD hS hl
            refine lv_iload hx hb dX6_clearBelow_35 (lv_at hl 7 rfl) ?_
            refine lv_bipush (v := 10) hx hb dX6_clearBelow_37 (by decide) ?_
            refine lv_icmp_ge (tgt := 101) hx hb dX6_clearBelow_39 (by decide) (fun hc16 => ?_) (fun hc16 => ?_)
            · replace hV35 := hV35.trans (if_pos hc16)
              have hV35 : (l_X6_clearBelow_35 tb j k z ki zTf_15 (10 - k + 1) k zTf_15) = zTf_35 := hV35
              have J20 := J20
              rw [hV35] at J20
              exact J20 _ _ _ hP hD hS (lv_sub hl [0, 1, 2, 3, 4, 5, 6] rfl)
            · replace hV35 := hV35.trans (if_neg hc16)
              have hlt35 : kj < 10 := yk_lt hk35 (by omega) hc16
              refine lv_aload_n hx hb dX6_clearBelow_42 rfl (lv_at hl 0 rfl) ?_
              refine va_get (D := D) (ci := 6) (v := .ref tar) (C := RX6) (T := TX6) (N := 1) hx hb hts uX6_clearBelow_X6 hown hK hP 0 rfl rfl 0 (by decide) (hts _ kX6_clearBelow_0) (fun _ h9 => h9) rfl dX6_clearBelow_43 ?_
              refine lv_iload hx hb dX6_clearBelow_46 (lv_at hl 5 rfl) ?_
              refine yk_alda hx hb hK hP 1 6 rfl rfl ki (by omega) (by decide) dX6_clearBelow_48 ?_
              refine lv_iload hx hb dX6_clearBelow_49 (lv_at hl 7 rfl) ?_
              refine yk_lld hx hb hK hP (2 + ki) 1 (yk_fg _ (by omega)) rfl kj (by omega) (by decide) dX6_clearBelow_51 ?_
              refine lv_lload hx hb dX6_clearBelow_52 (lv_at hl 4 rfl) ?_
              refine lv_lmul hx hb dX6_clearBelow_54 ?_
              refine lv_lload hx hb dX6_clearBelow_55 (lv_at hl 6 rfl) ?_
              refine lv_aload_n hx hb dX6_clearBelow_57 rfl (lv_at hl 0 rfl) ?_
              refine va_get (D := D) (ci := 6) (v := .ref tar) (C := RX6) (T := TX6) (N := 1) hx hb hts uX6_clearBelow_X6 hown hK hP 0 rfl rfl 0 (by decide) (hts _ kX6_clearBelow_0) (fun _ h9 => h9) rfl dX6_clearBelow_58 ?_
              refine lv_iload_n hx hb dX6_clearBelow_61 rfl (lv_at hl 1 rfl) ?_
              refine yk_alda hx hb hK hP 1 6 rfl rfl j (by omega) (by decide) dX6_clearBelow_62 ?_
              refine lv_iload hx hb dX6_clearBelow_63 (lv_at hl 7 rfl) ?_
              refine yk_lld hx hb hK hP (2 + j) 1 (yk_fg _ (by omega)) rfl kj (by omega) (by decide) dX6_clearBelow_65 ?_
              refine lv_lmul hx hb dX6_clearBelow_66 ?_
              refine lv_lsub hx hb dX6_clearBelow_67 ?_
              refine lv_lstore (lv' := [(11, .long (((zTf_35 ki kj) * (tb j k)) - ((zTf_15 ki k) * (zTf_35 j kj)))), (0, .ref ta), (1, .int (nI j)), (2, .int (nI k)), (3, .long z), (5, .long (tb j k)), (7, .int (nI ki)), (8, .long (zTf_15 ki k)), (10, .int (nI kj))]) hx hb dX6_clearBelow_68 hl (by decide) rfl (fun ls hl9 => ?_)
              replace hl := hl9
              clear hl9
              refine lv_aload_n hx hb dX6_clearBelow_70 rfl (lv_at hl 1 rfl) ?_
              refine va_get (D := D) (ci := 6) (v := .ref tar) (C := RX6) (T := TX6) (N := 1) hx hb hts uX6_clearBelow_X6 hown hK hP 0 rfl rfl 0 (by decide) (hts _ kX6_clearBelow_0) (fun _ h9 => h9) rfl dX6_clearBelow_71 ?_
              refine lv_iload hx hb dX6_clearBelow_74 (lv_at hl 6 rfl) ?_
              refine yk_alda hx hb hK hP 1 6 rfl rfl ki (by omega) (by decide) dX6_clearBelow_76 ?_
              refine lv_iload hx hb dX6_clearBelow_77 (lv_at hl 8 rfl) ?_
              refine lv_lload_n hx hb dX6_clearBelow_79 rfl (lv_at hl 4 rfl) ?_
              refine lv_lconst (v := 0) hx hb dX6_clearBelow_80 (by decide) ?_
              refine W.lcmp hx hb dX6_clearBelow_81 ?_
              have J19 : ∀ (v18 : Int64) (H : Heap) (locs : List Loc) (ls : Array Slot), v18 = (if (lg_cmp z 0) = 0 then (((zTf_35 ki kj) * (tb j k)) - ((zTf_15 ki k) * (zTf_35 j kj))) else ((((zTf_35 ki kj) * (tb j k)) - ((zTf_15 ki k) * (zTf_35 j kj))) / z)) → va_P D vwCl ([(ta, .inr (6, [.ref tar])), (tar, .inl (cy 6, 5, .inr (.inr (.inr (.inr (fun i => if i < 5 then some (taf i) else none))))))] ++ yk_fam 5 taf (fun i => .inl (cy 1, 10, .inr (.inl (zTf_35 i))))) H → va_D A ([(ta, .inr (6, [.ref tar])), (tar, .inl (cy 6, 5, .inr (.inr (.inr (.inr (fun i => if i < 5 then some (taf i) else none))))))] ++ yk_fam 5 taf (fun i => .inl (cy 1, 10, .inr (.inl (zTf_35 i))))) → va_S A s.heap H locs → lv_has ls 13 [(0, .ref ta), (1, .int (nI j)), (2, .int (nI k)), (3, .long z), (5, .long (tb j k)), (7, .int (nI ki)), (8, .long (zTf_15 ki k)), (10, .int (nI kj)), (11, .long (((zTf_35 ki kj) * (tb j k)) - ((zTf_15 ki k) * (zTf_35 j kj))))] → W p l e R s m args below meth c H locs 0 0 Q (F0 m 94 ls [.long v18, .int (nI kj), .ref (taf ki)]) := by
                clear hP hD hS hl
                intro v18 H locs ls ev18
                rw [ev18]
                clear ev18
                intro hP hD hS hl
                refine yk_lst hx hb hK hP hD hS (2 + ki) 1 (yk_fg _ (by omega)) rfl kj (by omega) (by decide) dX6_clearBelow_94 (fun H locs hP9 hD9 hS9 => ?_)
                replace hP9 := yk_fPl _ (by omega) hP9
                replace hD9 := yk_fDl _ (by omega) hD9
                replace hP : va_P D vwCl ([(ta, .inr (6, [.ref tar])), (tar, .inl (cy 6, 5, .inr (.inr (.inr (.inr (fun i => if i < 5 then some (taf i) else none))))))] ++ yk_fam 5 taf (fun i => .inl (cy 1, 10, .inr (.inl ((yk_upr zTf_35 ki (vp_updL (zTf_35 ki) kj (if (lg_cmp z 0) = 0 then (((zTf_35 ki kj) * (tb j k)) - ((zTf_15 ki k) * (zTf_35 j kj))) else ((((zTf_35 ki kj) * (tb j k)) - ((zTf_15 ki k) * (zTf_35 j kj))) / z)))) i))))) H := hP9
                replace hD : va_D A ([(ta, .inr (6, [.ref tar])), (tar, .inl (cy 6, 5, .inr (.inr (.inr (.inr (fun i => if i < 5 then some (taf i) else none))))))] ++ yk_fam 5 taf (fun i => .inl (cy 1, 10, .inr (.inl ((yk_upr zTf_35 ki (vp_updL (zTf_35 ki) kj (if (lg_cmp z 0) = 0 then (((zTf_35 ki kj) * (tb j k)) - ((zTf_15 ki k) * (zTf_35 j kj))) else ((((zTf_35 ki kj) * (tb j k)) - ((zTf_15 ki k) * (zTf_35 j kj))) / z)))) i))))) := hD9
                replace hS := hS9
                clear hP9 hD9 hS9
                refine lv_iinc (v := nI (kj + 1)) (lv' := [(10, .int (nI (kj + 1))), (0, .ref ta), (1, .int (nI j)), (2, .int (nI k)), (3, .long z), (5, .long (tb j k)), (7, .int (nI ki)), (8, .long (zTf_15 ki k)), (11, .long (((zTf_35 ki kj) * (tb j k)) - ((zTf_15 ki k) * (zTf_35 j kj))))]) hx hb dX6_clearBelow_95 hl (k := 7) rfl (yk_inc kj) (by decide) rfl (fun ls hl9 => ?_)
                replace hl := hl9
                clear hl9
                refine lv_goto (tgt := 35) hx hb dX6_clearBelow_98 (by decide) ?_
                obtain ⟨n9, rfl⟩ : ∃ n9, n35 = n9 + 1 := ⟨n35 - 1, by omega⟩
                exact ih35 n9 (kj + 1) (yk_upr zTf_35 ki (vp_updL (zTf_35 ki) kj (if (lg_cmp z 0) = 0 then (((zTf_35 ki kj) * (tb j k)) - ((zTf_15 ki k) * (zTf_35 j kj))) else ((((zTf_35 ki kj) * (tb j k)) - ((zTf_15 ki k) * (zTf_35 j kj))) / z)))) _ _ _ (by omega) (by omega)  hV35 hP hD hS (lv_sub hl [1, 2, 3, 4, 5, 6, 7, 0] rfl)
              refine lv_if_ne (tgt := 90) hx hb dX6_clearBelow_82 (by decide) (fun hc17 => ?_) (fun hc17 => ?_)
              · refine lv_lload hx hb dX6_clearBelow_90 (lv_at hl 0 rfl) ?_
                refine lv_lload_n hx hb dX6_clearBelow_92 rfl (lv_at hl 4 rfl) ?_
                refine lv_ldiv hx hb dX6_clearBelow_93 (yk_lne (by assumption)) ?_
                exact J19 _ _ _ _ ((if_neg hc17).symm) hP hD hS (lv_sub hl [1, 2, 3, 4, 5, 6, 7, 8, 0] rfl)
              · refine lv_lload hx hb dX6_clearBelow_85 (lv_at hl 0 rfl) ?_
                refine lv_goto (tgt := 94) hx hb dX6_clearBelow_87 (by decide) ?_
                exact J19 _ _ _ _ ((if_pos hc17).symm) hP hD hS (lv_sub hl [1, 2, 3, 4, 5, 6, 7, 8, 0] rfl)
        exact L35 ((10 - k) + 1) (10 - k) k zTf_15 _ _ _ (Nat.lt_succ_self _) (by omega)  rfl hP hD hS (lv_sub hl [2, 3, 4, 5, 6, 7, 1, 0] rfl)
  exact L15 ((5 - (j + 1)) + 1) (5 - (j + 1)) (j + 1) tb _ _ _ (Nat.lt_succ_self _) (by omega)  rfl hP hD hS (lv_sub hl [2, 3, 4, 5, 1, 0] rfl)

theorem kX6_rank_0 : Cond.fieldLink RX6 11 "FlowPlane$Table" "rows" "[[J" ∈ wsX6_rank := by decide +kernel
theorem uX6_rank_X6 : ∀ w ∈ u_ws RX6 TX6 1, w ∈ wsX6_rank := by decide +kernel
def l_X6_rank_7 (tb : Nat → Nat → Int64) : Nat → Nat → Nat → Int64 → (Nat → Nat → Int64) → Nat × Int64 × (Nat → Nat → Int64)
  | 0, ki, rk, z2_7, zTf_7 => (rk, z2_7, zTf_7)
  | fu_X6_rank_7 + 1, ki, rk, z2_7, zTf_7 => (if 10 ≤ (nI ki) then (rk, z2_7, zTf_7) else (if 5 ≤ (nI rk) then (rk, z2_7, zTf_7) else (l_X6_rank_7 tb fu_X6_rank_7 (ki + 1) (if ((f_X6_raisePivot zTf_7 rk ki).1) = 0 then rk else (rk + 1)) (if ((f_X6_raisePivot zTf_7 rk ki).1) = 0 then z2_7 else ((f_X6_clearBelow ((f_X6_raisePivot zTf_7 rk ki).2) rk ki z2_7) rk ki)) (if ((f_X6_raisePivot zTf_7 rk ki).1) = 0 then (f_X6_raisePivot zTf_7 rk ki).2 else (f_X6_clearBelow ((f_X6_raisePivot zTf_7 rk ki).2) rk ki z2_7)))))
def f_X6_rank (tb : Nat → Nat → Int64) : Int32 × (Nat → Nat → Int64) := ((nI ((l_X6_rank_7 tb (10 + 1) 0 0 1 tb).1)), ((l_X6_rank_7 tb (10 + 1) 0 0 1 tb).2.2))
set_option maxHeartbeats 400000000 in
set_option maxRecDepth 100000 in
theorem c_X6_rank (l : Launch) (D : va_G) (cy : Nat → ClassId) (ta : Nat) (tar : Nat) (taf : Nat → Nat) (tb : Nat → Nat → Int64) : yk_Ci l D vwCl (yk_ty cy) yX6_rank wsX6_rank 2 48 [.ref ta] ([(ta, .inr (6, [.ref tar])), (tar, .inl (cy 6, 5, .inr (.inr (.inr (.inr (fun i => if i < 5 then some (taf i) else none))))))] ++ yk_fam 5 taf (fun i => .inl (cy 1, 10, .inr (.inl (tb i))))) ((f_X6_rank tb).1) ([(ta, .inr (6, [.ref tar])), (tar, .inl (cy 6, 5, .inr (.inr (.inr (.inr (fun i => if i < 5 then some (taf i) else none))))))] ++ yk_fam 5 taf (fun i => .inl (cy 1, 10, .inr (.inl (((f_X6_rank tb).2) i))))) := by
  refine yk_eI (cc := cX6_rank) (maxL := 5) (by decide) rfl (Nat.le_of_ble_eq_true rfl) rfl ?_
  intro p e R s m args below meth c A Q ls H locs hx hb hml hown hts hRf hRl hA hK hG hP hD hS hl hQ
  have hP : va_P D vwCl ([(ta, .inr (6, [.ref tar])), (tar, .inl (cy 6, 5, .inr (.inr (.inr (.inr (fun i => if i < 5 then some (taf i) else none))))))] ++ yk_fam 5 taf (fun i => .inl (cy 1, 10, .inr (.inl (tb i))))) H := hP
  have hl : lv_has ls 5 [(0, .ref ta)] := hl
  have hown : s.vm.findClass RX6 = some m.cls := hown
  have hF : (f_X6_rank tb) = (f_X6_rank tb) := rfl
  refine lv_iconst (v := 0) hx hb dX6_rank_0 (by decide) ?_
  refine lv_istore_n (lv' := [(1, .int 0), (0, .ref ta)]) hx hb dX6_rank_1 rfl hl (by decide) rfl (fun ls hl9 => ?_)
  replace hl := hl9
  clear hl9
  refine lv_lconst (v := 1) hx hb dX6_rank_2 (by decide) ?_
  refine lv_lstore_n (lv' := [(2, .long 1), (1, .int 0), (0, .ref ta)]) hx hb dX6_rank_3 rfl hl (by decide) rfl (fun ls hl9 => ?_)
  replace hl := hl9
  clear hl9
  refine lv_iconst (v := 0) hx hb dX6_rank_4 (by decide) ?_
  refine lv_istore (lv' := [(4, .int 0), (2, .long 1), (1, .int 0), (0, .ref ta)]) hx hb dX6_rank_5 hl (by decide) rfl (fun ls hl9 => ?_)
  replace hl := hl9
  clear hl9
  have J15 : ∀ (H : Heap) (locs : List Loc) (ls : Array Slot), va_P D vwCl ([(ta, .inr (6, [.ref tar])), (tar, .inl (cy 6, 5, .inr (.inr (.inr (.inr (fun i => if i < 5 then some (taf i) else none))))))] ++ yk_fam 5 taf (fun i => .inl (cy 1, 10, .inr (.inl (((l_X6_rank_7 tb (10 + 1) 0 0 1 tb).2.2) i))))) H → va_D A ([(ta, .inr (6, [.ref tar])), (tar, .inl (cy 6, 5, .inr (.inr (.inr (.inr (fun i => if i < 5 then some (taf i) else none))))))] ++ yk_fam 5 taf (fun i => .inl (cy 1, 10, .inr (.inl (((l_X6_rank_7 tb (10 + 1) 0 0 1 tb).2.2) i))))) → va_S A s.heap H locs → lv_has ls 5 [(0, .ref ta), (1, .int (nI ((l_X6_rank_7 tb (10 + 1) 0 0 1 tb).1))), (2, .long ((l_X6_rank_7 tb (10 + 1) 0 0 1 tb).2.1))] → W p l e R s m args below meth c H locs 0 0 Q (F0 m 59 ls []) := by
    clear hP hD hS hl
    intro H locs ls hP hD hS hl
    refine lv_iload_n hx hb dX6_rank_59 rfl (lv_at hl 1 rfl) ?_
    have hF : f_X6_rank tb = ((nI ((l_X6_rank_7 tb (10 + 1) 0 0 1 tb).1)), ((l_X6_rank_7 tb (10 + 1) 0 0 1 tb).2.2)) := hF
    rw [hF] at hQ
    exact hQ _ _ _ _ dX6_rank_60 hP hS
  have L7 : ∀ (M9 n7 ki : Nat) (rk : Nat) (z2_7 : Int64) (zTf_7 : Nat → Nat → Int64) (H : Heap) (locs : List Loc) (ls : Array Slot), n7 < M9 → ki + n7 = 10 → (rk ≤ 5) → (l_X6_rank_7 tb (10 + 1) 0 0 1 tb) = (l_X6_rank_7 tb (n7 + 1) ki rk z2_7 zTf_7) → va_P D vwCl ([(ta, .inr (6, [.ref tar])), (tar, .inl (cy 6, 5, .inr (.inr (.inr (.inr (fun i => if i < 5 then some (taf i) else none))))))] ++ yk_fam 5 taf (fun i => .inl (cy 1, 10, .inr (.inl (zTf_7 i))))) H → va_D A ([(ta, .inr (6, [.ref tar])), (tar, .inl (cy 6, 5, .inr (.inr (.inr (.inr (fun i => if i < 5 then some (taf i) else none))))))] ++ yk_fam 5 taf (fun i => .inl (cy 1, 10, .inr (.inl (zTf_7 i))))) → va_S A s.heap H locs → lv_has ls 5 [(0, .ref ta), (1, .int (nI rk)), (2, .long z2_7), (4, .int (nI ki))] → W p l e R s m args below meth c H locs 0 0 Q (F0 m 7 ls []) := by
    clear hP hD hS hl
    intro M9
    induction M9 with
    | zero => intro n7 ki _ _ _ _ _ _ hn; exact absurd hn (Nat.not_lt_zero _)
    | succ M9 ih7 =>
      intro n7 ki rk z2_7 zTf_7 H locs ls hn7 hk7 hrk hV7 hP hD hS hl
      refine lv_iload hx hb dX6_rank_7 (lv_at hl 3 rfl) ?_
      refine lv_bipush (v := 10) hx hb dX6_rank_9 (by decide) ?_
      refine lv_icmp_ge (tgt := 59) hx hb dX6_rank_11 (by decide) (fun hc8 => ?_) (fun hc8 => ?_)
      · replace hV7 := hV7.trans (if_pos hc8)
        have hV7 : (l_X6_rank_7 tb (10 + 1) 0 0 1 tb) = (rk, z2_7, zTf_7) := hV7
        have J15 := J15
        rw [hV7] at J15
        exact J15 _ _ _ hP hD hS (lv_sub hl [0, 1, 2] rfl)
      · replace hV7 := hV7.trans (if_neg hc8)
        have hlt7 : ki < 10 := yk_lt hk7 (by omega) hc8
        refine lv_iload_n hx hb dX6_rank_14 rfl (lv_at hl 1 rfl) ?_
        refine lv_iconst (v := 5) hx hb dX6_rank_15 (by decide) ?_
        refine lv_icmp_ge (tgt := 59) hx hb dX6_rank_16 (by decide) (fun hc9 => ?_) (fun hc9 => ?_)
        · replace hV7 := hV7.trans (if_pos hc9)
          have hV7 : (l_X6_rank_7 tb (10 + 1) 0 0 1 tb) = (rk, z2_7, zTf_7) := hV7
          have J15 := J15
          rw [hV7] at J15
          exact J15 _ _ _ hP hD hS (lv_sub hl [0, 1, 2] rfl)
        · replace hV7 := hV7.trans (if_neg hc9)
          have hrk5 : rk < 5 := yk_lt5 hrk (by assumption)
          refine lv_aload_n hx hb dX6_rank_19 rfl (lv_at hl 0 rfl) ?_
          refine lv_iload_n hx hb dX6_rank_20 rfl (lv_at hl 1 rfl) ?_
          refine lv_iload hx hb dX6_rank_21 (lv_at hl 3 rfl) ?_
          refine yk_i [0, 1, 2, 3, 4, 5, 6] (va_runV (As := [.int (nI rk), .int (nI ki)]) (rest := []) ⟨hx, hb, hml, hown, hts⟩ (c_X6_raisePivot l D cy ta tar taf zTf_7 rk ki (by omega) (by omega) H.size) (cwV 2 hts gX6_rank_X6_raisePivot rfl rfl rfl hv_X6_raisePivot (yk_room hRf hRl rfl rfl)) (yk_pv (q := (RX6, TX6, 1)) hG hA hS hK hP hD [0, 1, 2, 3, 4, 5, 6] (by decide +kernel) rfl rfl rfl) rfl rfl hl.1 rfl (lv_room (Nat.le_of_ble_eq_true rfl)) dX6_rank_23 ⟨Nat.zero_le _, Nat.zero_le _⟩) hP hD hS hA rfl (Eq.trans (b := [ta, tar, taf 0, taf 1, taf 2, taf 3, taf 4]) rfl rfl) (fun H locs hP9 hD9 hS9 => ?_)
          replace hP : va_P D vwCl ([(ta, .inr (6, [.ref tar])), (tar, .inl (cy 6, 5, .inr (.inr (.inr (.inr (fun i => if i < 5 then some (taf i) else none))))))] ++ yk_fam 5 taf (fun i => .inl (cy 1, 10, .inr (.inl (((f_X6_raisePivot zTf_7 rk ki).2) i))))) H := hP9
          replace hD : va_D A ([(ta, .inr (6, [.ref tar])), (tar, .inl (cy 6, 5, .inr (.inr (.inr (.inr (fun i => if i < 5 then some (taf i) else none))))))] ++ yk_fam 5 taf (fun i => .inl (cy 1, 10, .inr (.inl (((f_X6_raisePivot zTf_7 rk ki).2) i))))) := hD9
          replace hS := hS9
          clear hP9 hD9 hS9
          have J14 : ∀ (v11 : Nat) (v12 : Int64) (v13 : Nat → Nat → Int64) (H : Heap) (locs : List Loc) (ls : Array Slot), v11 = (if ((f_X6_raisePivot zTf_7 rk ki).1) = 0 then rk else (rk + 1)) → v12 = (if ((f_X6_raisePivot zTf_7 rk ki).1) = 0 then z2_7 else ((f_X6_clearBelow ((f_X6_raisePivot zTf_7 rk ki).2) rk ki z2_7) rk ki)) → v13 = (if ((f_X6_raisePivot zTf_7 rk ki).1) = 0 then (f_X6_raisePivot zTf_7 rk ki).2 else (f_X6_clearBelow ((f_X6_raisePivot zTf_7 rk ki).2) rk ki z2_7)) → va_P D vwCl ([(ta, .inr (6, [.ref tar])), (tar, .inl (cy 6, 5, .inr (.inr (.inr (.inr (fun i => if i < 5 then some (taf i) else none))))))] ++ yk_fam 5 taf (fun i => .inl (cy 1, 10, .inr (.inl (v13 i))))) H → va_D A ([(ta, .inr (6, [.ref tar])), (tar, .inl (cy 6, 5, .inr (.inr (.inr (.inr (fun i => if i < 5 then some (taf i) else none))))))] ++ yk_fam 5 taf (fun i => .inl (cy 1, 10, .inr (.inl (v13 i))))) → va_S A s.heap H locs → lv_has ls 5 [(0, .ref ta), (1, .int (nI v11)), (2, .long v12), (4, .int (nI ki))] → W p l e R s m args below meth c H locs 0 0 Q (F0 m 53 ls []) := by
            clear hP hD hS hl
            intro v11 v12 v13 H locs ls ev11 ev12 ev13
            rw [ev11, ev12, ev13]
            clear ev11
            clear ev12
            clear ev13
            intro hP hD hS hl
            refine lv_iinc (v := nI (ki + 1)) (lv' := [(4, .int (nI (ki + 1))), (0, .ref ta), (1, .int (nI (if ((f_X6_raisePivot zTf_7 rk ki).1) = 0 then rk else (rk + 1)))), (2, .long (if ((f_X6_raisePivot zTf_7 rk ki).1) = 0 then z2_7 else ((f_X6_clearBelow ((f_X6_raisePivot zTf_7 rk ki).2) rk ki z2_7) rk ki)))]) hx hb dX6_rank_53 hl (k := 3) rfl (yk_inc ki) (by decide) rfl (fun ls hl9 => ?_)
            replace hl := hl9
            clear hl9
            refine lv_goto (tgt := 7) hx hb dX6_rank_56 (by decide) ?_
            obtain ⟨n9, rfl⟩ : ∃ n9, n7 = n9 + 1 := ⟨n7 - 1, by omega⟩
            exact ih7 n9 (ki + 1) (if ((f_X6_raisePivot zTf_7 rk ki).1) = 0 then rk else (rk + 1)) (if ((f_X6_raisePivot zTf_7 rk ki).1) = 0 then z2_7 else ((f_X6_clearBelow ((f_X6_raisePivot zTf_7 rk ki).2) rk ki z2_7) rk ki)) (if ((f_X6_raisePivot zTf_7 rk ki).1) = 0 then (f_X6_raisePivot zTf_7 rk ki).2 else (f_X6_clearBelow ((f_X6_raisePivot zTf_7 rk ki).2) rk ki z2_7)) _ _ _ (by omega) (by omega) (by split <;> omega) hV7 hP hD hS (lv_sub hl [1, 2, 3, 0] rfl)
          refine lv_if_ne (tgt := 32) hx hb dX6_rank_26 (by decide) (fun hc10 => ?_) (fun hc10 => ?_)
          · refine lv_aload_n hx hb dX6_rank_32 rfl (lv_at hl 0 rfl) ?_
            refine lv_iload_n hx hb dX6_rank_33 rfl (lv_at hl 1 rfl) ?_
            refine lv_iload hx hb dX6_rank_34 (lv_at hl 3 rfl) ?_
            refine lv_lload_n hx hb dX6_rank_36 rfl (lv_at hl 2 rfl) ?_
            refine yk_v [0, 1, 2, 3, 4, 5, 6] (va_runV (As := [.int (nI rk), .int (nI ki), .long z2_7]) (rest := []) ⟨hx, hb, hml, hown, hts⟩ (c_X6_clearBelow l D cy ta tar taf ((f_X6_raisePivot zTf_7 rk ki).2) rk ki z2_7 (by omega) (by omega) H.size) (cwV 3 hts gX6_rank_X6_clearBelow rfl rfl rfl hv_X6_clearBelow (yk_room hRf hRl rfl rfl)) (yk_pv (q := (RX6, TX6, 1)) hG hA hS hK hP hD [0, 1, 2, 3, 4, 5, 6] (by decide +kernel) rfl rfl rfl) rfl rfl hl.1 rfl (lv_room (Nat.le_of_ble_eq_true rfl)) dX6_rank_37 ⟨Nat.zero_le _, Nat.zero_le _⟩) hP hD hS hA rfl (Eq.trans (b := [ta, tar, taf 0, taf 1, taf 2, taf 3, taf 4]) rfl rfl) (fun H locs hP9 hD9 hS9 => ?_)
            replace hP : va_P D vwCl ([(ta, .inr (6, [.ref tar])), (tar, .inl (cy 6, 5, .inr (.inr (.inr (.inr (fun i => if i < 5 then some (taf i) else none))))))] ++ yk_fam 5 taf (fun i => .inl (cy 1, 10, .inr (.inl ((f_X6_clearBelow ((f_X6_raisePivot zTf_7 rk ki).2) rk ki z2_7) i))))) H := hP9
            replace hD : va_D A ([(ta, .inr (6, [.ref tar])), (tar, .inl (cy 6, 5, .inr (.inr (.inr (.inr (fun i => if i < 5 then some (taf i) else none))))))] ++ yk_fam 5 taf (fun i => .inl (cy 1, 10, .inr (.inl ((f_X6_clearBelow ((f_X6_raisePivot zTf_7 rk ki).2) rk ki z2_7) i))))) := hD9
            replace hS := hS9
            clear hP9 hD9 hS9
            refine lv_aload_n hx hb dX6_rank_40 rfl (lv_at hl 0 rfl) ?_
            refine va_get (D := D) (ci := 6) (v := .ref tar) (C := RX6) (T := TX6) (N := 1) hx hb hts uX6_rank_X6 hown hK hP 0 rfl rfl 0 (by decide) (hts _ kX6_rank_0) (fun _ h9 => h9) rfl dX6_rank_41 ?_
            refine lv_iload_n hx hb dX6_rank_44 rfl (lv_at hl 1 rfl) ?_
            refine yk_alda hx hb hK hP 1 6 rfl rfl rk (by omega) (by decide) dX6_rank_45 ?_
            refine lv_iload hx hb dX6_rank_46 (lv_at hl 3 rfl) ?_
            refine yk_lld hx hb hK hP (2 + rk) 1 (yk_fg _ (by omega)) rfl ki (by omega) (by decide) dX6_rank_48 ?_
            refine lv_lstore_n (lv' := [(2, .long ((f_X6_clearBelow ((f_X6_raisePivot zTf_7 rk ki).2) rk ki z2_7) rk ki)), (0, .ref ta), (1, .int (nI rk)), (4, .int (nI ki))]) hx hb dX6_rank_49 rfl hl (by decide) rfl (fun ls hl9 => ?_)
            replace hl := hl9
            clear hl9
            refine lv_iinc (v := nI (rk + 1)) (lv' := [(1, .int (nI (rk + 1))), (2, .long ((f_X6_clearBelow ((f_X6_raisePivot zTf_7 rk ki).2) rk ki z2_7) rk ki)), (0, .ref ta), (4, .int (nI ki))]) hx hb dX6_rank_50 hl (k := 2) rfl (yk_inc rk) (by decide) rfl (fun ls hl9 => ?_)
            replace hl := hl9
            clear hl9
            exact J14 _ _ _ _ _ _ ((if_neg hc10).symm) ((if_neg hc10).symm) ((if_neg hc10).symm) hP hD hS (lv_sub hl [2, 0, 1, 3] rfl)
          · refine lv_goto (tgt := 53) hx hb dX6_rank_29 (by decide) ?_
            exact J14 _ _ _ _ _ _ ((if_pos hc10).symm) ((if_pos hc10).symm) ((if_pos hc10).symm) hP hD hS (lv_sub hl [0, 1, 2, 3] rfl)
  exact L7 (10 + 1) 10 0 0 1 tb _ _ _ (Nat.lt_succ_self _) (by omega) (by omega) rfl hP hD hS (lv_sub hl [3, 2, 1, 0] rfl)
