theorem hv_X5_hasRange : yX5_hasRange.cls = RX5 ∧ yX5_hasRange.cls ≠ "java/lang/invoke/MethodHandle" ∧ yX5_hasRange.cls ≠ "java/lang/invoke/VarHandle" ∧ (parseMethodDescriptor yX5_hasRange.desc).map (fun d => d.parameters.length) = some 2 := by decide +kernel
theorem hs_X5_hasRange : yX5_hasRange.cls ≠ "java/lang/invoke/MethodHandle" ∧ yX5_hasRange.cls ≠ "java/lang/invoke/VarHandle" ∧ (parseMethodDescriptor yX5_hasRange.desc).map (fun d => d.parameters.length) = some 2 := by decide +kernel
theorem kX7_copy_0 : Cond.constant RX7 83 (-1000001) ∈ wsX7_copy := by decide +kernel
theorem kX7_copy_1 : Cond.fieldLink RX7 43 "FlowPlane" "sheets" "[LFlowPlane$Sheet;" ∈ wsX7_copy := by decide +kernel
theorem kX7_copy_2 : Cond.constant RX7 275 (-1000002) ∈ wsX7_copy := by decide +kernel
theorem kX7_copy_3 : Cond.fieldLink RX7 280 "FlowPlane$Sheet" "bits" "I" ∈ wsX7_copy := by decide +kernel
theorem kX7_copy_4 : Cond.fieldLink RX7 276 "FlowPlane$Sheet" "numbers" "[I" ∈ wsX7_copy := by decide +kernel
theorem kX7_copy_5 : Cond.methodLink RX7 286 arraycopyName ∈ wsX7_copy := by decide +kernel
theorem kX7_copy_6 : Cond.native arraycopyName ∈ wsX7_copy := by decide +kernel
theorem kX7_copy_7 : Cond.static arraycopyName ∈ wsX7_copy := by decide +kernel
theorem kX7_copy_8 : Cond.initialized "java/lang/System" ∈ wsX7_copy := by decide +kernel
theorem kX7_copy_9 : Cond.constant RX7 182 (-1000004) ∈ wsX7_copy := by decide +kernel
theorem uX7_copy_X7 : ∀ w ∈ u_ws RX7 TX7 13, w ∈ wsX7_copy := by decide +kernel
theorem uX7_copy_X5 : ∀ w ∈ u_ws RX5 TX5 3, w ∈ wsX7_copy := by decide +kernel
def f_X7_copy (h0 : Nat → Int32) (b0 : Int32) (n0 : Nat) (h1 : Nat → Int32) (b1 : Int32) (n1 : Nat) (h2 : Nat → Int32) (b2 : Int32) (n2 : Nat) (h3 : Nat → Int32) (b3 : Int32) (n3 : Nat) (fi : Int32) (px : Int32) (pf : Int32) (py : Int32) (po : Int32) (pn : Int32) : Int32 × Int32 × (Nat → Int32) × (Nat → Int32) × (Nat → Int32) × (Nat → Int32) := (if (f_X7_isSheet px) = 0 then (((f_X7_finding fi (-1000001)).1), ((f_X7_finding fi (-1000001)).2), h0, h1, h2, h3) else (if (f_X7_isSheet py) = 0 then (((f_X7_finding fi (-1000001)).1), ((f_X7_finding fi (-1000001)).2), h0, h1, h2, h3) else (if px.toNatClampNeg = 0 then (if py.toNatClampNeg = 0 then (if (f_X5_isMissing b0) = 0 then (if (f_X5_isMissing b0) = 0 then (if b0 = b0 then (if (f_X5_hasRange n0 pf pn) = 0 then (((f_X7_finding fi (-1000001)).1), ((f_X7_finding fi (-1000001)).2), h0, h1, h2, h3) else (if (f_X5_hasRange n0 po pn) = 0 then (((f_X7_finding fi (-1000001)).1), ((f_X7_finding fi (-1000001)).2), h0, h1, h2, h3) else ((nI pn.toNatClampNeg), fi, (va_cpy h0 h0 pf.toNatClampNeg po.toNatClampNeg pn.toNatClampNeg), h1, h2, h3))) else (((f_X7_finding fi (-1000004)).1), ((f_X7_finding fi (-1000004)).2), h0, h1, h2, h3)) else (((f_X7_finding fi (-1000002)).1), ((f_X7_finding fi (-1000002)).2), h0, h1, h2, h3)) else (((f_X7_finding fi (-1000002)).1), ((f_X7_finding fi (-1000002)).2), h0, h1, h2, h3)) else (if py.toNatClampNeg = 1 then (if (f_X5_isMissing b0) = 0 then (if (f_X5_isMissing b1) = 0 then (if b0 = b1 then (if (f_X5_hasRange n0 pf pn) = 0 then (((f_X7_finding fi (-1000001)).1), ((f_X7_finding fi (-1000001)).2), h0, h1, h2, h3) else (if (f_X5_hasRange n1 po pn) = 0 then (((f_X7_finding fi (-1000001)).1), ((f_X7_finding fi (-1000001)).2), h0, h1, h2, h3) else ((nI pn.toNatClampNeg), fi, h0, (va_cpy h0 h1 pf.toNatClampNeg po.toNatClampNeg pn.toNatClampNeg), h2, h3))) else (((f_X7_finding fi (-1000004)).1), ((f_X7_finding fi (-1000004)).2), h0, h1, h2, h3)) else (((f_X7_finding fi (-1000002)).1), ((f_X7_finding fi (-1000002)).2), h0, h1, h2, h3)) else (((f_X7_finding fi (-1000002)).1), ((f_X7_finding fi (-1000002)).2), h0, h1, h2, h3)) else (if py.toNatClampNeg = 2 then (if (f_X5_isMissing b0) = 0 then (if (f_X5_isMissing b2) = 0 then (if b0 = b2 then (if (f_X5_hasRange n0 pf pn) = 0 then (((f_X7_finding fi (-1000001)).1), ((f_X7_finding fi (-1000001)).2), h0, h1, h2, h3) else (if (f_X5_hasRange n2 po pn) = 0 then (((f_X7_finding fi (-1000001)).1), ((f_X7_finding fi (-1000001)).2), h0, h1, h2, h3) else ((nI pn.toNatClampNeg), fi, h0, h1, (va_cpy h0 h2 pf.toNatClampNeg po.toNatClampNeg pn.toNatClampNeg), h3))) else (((f_X7_finding fi (-1000004)).1), ((f_X7_finding fi (-1000004)).2), h0, h1, h2, h3)) else (((f_X7_finding fi (-1000002)).1), ((f_X7_finding fi (-1000002)).2), h0, h1, h2, h3)) else (((f_X7_finding fi (-1000002)).1), ((f_X7_finding fi (-1000002)).2), h0, h1, h2, h3)) else (if (f_X5_isMissing b0) = 0 then (if (f_X5_isMissing b3) = 0 then (if b0 = b3 then (if (f_X5_hasRange n0 pf pn) = 0 then (((f_X7_finding fi (-1000001)).1), ((f_X7_finding fi (-1000001)).2), h0, h1, h2, h3) else (if (f_X5_hasRange n3 po pn) = 0 then (((f_X7_finding fi (-1000001)).1), ((f_X7_finding fi (-1000001)).2), h0, h1, h2, h3) else ((nI pn.toNatClampNeg), fi, h0, h1, h2, (va_cpy h0 h3 pf.toNatClampNeg po.toNatClampNeg pn.toNatClampNeg)))) else (((f_X7_finding fi (-1000004)).1), ((f_X7_finding fi (-1000004)).2), h0, h1, h2, h3)) else (((f_X7_finding fi (-1000002)).1), ((f_X7_finding fi (-1000002)).2), h0, h1, h2, h3)) else (((f_X7_finding fi (-1000002)).1), ((f_X7_finding fi (-1000002)).2), h0, h1, h2, h3))))) else (if px.toNatClampNeg = 1 then (if py.toNatClampNeg = 0 then (if (f_X5_isMissing b1) = 0 then (if (f_X5_isMissing b0) = 0 then (if b1 = b0 then (if (f_X5_hasRange n1 pf pn) = 0 then (((f_X7_finding fi (-1000001)).1), ((f_X7_finding fi (-1000001)).2), h0, h1, h2, h3) else (if (f_X5_hasRange n0 po pn) = 0 then (((f_X7_finding fi (-1000001)).1), ((f_X7_finding fi (-1000001)).2), h0, h1, h2, h3) else ((nI pn.toNatClampNeg), fi, (va_cpy h1 h0 pf.toNatClampNeg po.toNatClampNeg pn.toNatClampNeg), h1, h2, h3))) else (((f_X7_finding fi (-1000004)).1), ((f_X7_finding fi (-1000004)).2), h0, h1, h2, h3)) else (((f_X7_finding fi (-1000002)).1), ((f_X7_finding fi (-1000002)).2), h0, h1, h2, h3)) else (((f_X7_finding fi (-1000002)).1), ((f_X7_finding fi (-1000002)).2), h0, h1, h2, h3)) else (if py.toNatClampNeg = 1 then (if (f_X5_isMissing b1) = 0 then (if (f_X5_isMissing b1) = 0 then (if b1 = b1 then (if (f_X5_hasRange n1 pf pn) = 0 then (((f_X7_finding fi (-1000001)).1), ((f_X7_finding fi (-1000001)).2), h0, h1, h2, h3) else (if (f_X5_hasRange n1 po pn) = 0 then (((f_X7_finding fi (-1000001)).1), ((f_X7_finding fi (-1000001)).2), h0, h1, h2, h3) else ((nI pn.toNatClampNeg), fi, h0, (va_cpy h1 h1 pf.toNatClampNeg po.toNatClampNeg pn.toNatClampNeg), h2, h3))) else (((f_X7_finding fi (-1000004)).1), ((f_X7_finding fi (-1000004)).2), h0, h1, h2, h3)) else (((f_X7_finding fi (-1000002)).1), ((f_X7_finding fi (-1000002)).2), h0, h1, h2, h3)) else (((f_X7_finding fi (-1000002)).1), ((f_X7_finding fi (-1000002)).2), h0, h1, h2, h3)) else (if py.toNatClampNeg = 2 then (if (f_X5_isMissing b1) = 0 then (if (f_X5_isMissing b2) = 0 then (if b1 = b2 then (if (f_X5_hasRange n1 pf pn) = 0 then (((f_X7_finding fi (-1000001)).1), ((f_X7_finding fi (-1000001)).2), h0, h1, h2, h3) else (if (f_X5_hasRange n2 po pn) = 0 then (((f_X7_finding fi (-1000001)).1), ((f_X7_finding fi (-1000001)).2), h0, h1, h2, h3) else ((nI pn.toNatClampNeg), fi, h0, h1, (va_cpy h1 h2 pf.toNatClampNeg po.toNatClampNeg pn.toNatClampNeg), h3))) else (((f_X7_finding fi (-1000004)).1), ((f_X7_finding fi (-1000004)).2), h0, h1, h2, h3)) else (((f_X7_finding fi (-1000002)).1), ((f_X7_finding fi (-1000002)).2), h0, h1, h2, h3)) else (((f_X7_finding fi (-1000002)).1), ((f_X7_finding fi (-1000002)).2), h0, h1, h2, h3)) else (if (f_X5_isMissing b1) = 0 then (if (f_X5_isMissing b3) = 0 then (if b1 = b3 then (if (f_X5_hasRange n1 pf pn) = 0 then (((f_X7_finding fi (-1000001)).1), ((f_X7_finding fi (-1000001)).2), h0, h1, h2, h3) else (if (f_X5_hasRange n3 po pn) = 0 then (((f_X7_finding fi (-1000001)).1), ((f_X7_finding fi (-1000001)).2), h0, h1, h2, h3) else ((nI pn.toNatClampNeg), fi, h0, h1, h2, (va_cpy h1 h3 pf.toNatClampNeg po.toNatClampNeg pn.toNatClampNeg)))) else (((f_X7_finding fi (-1000004)).1), ((f_X7_finding fi (-1000004)).2), h0, h1, h2, h3)) else (((f_X7_finding fi (-1000002)).1), ((f_X7_finding fi (-1000002)).2), h0, h1, h2, h3)) else (((f_X7_finding fi (-1000002)).1), ((f_X7_finding fi (-1000002)).2), h0, h1, h2, h3))))) else (if px.toNatClampNeg = 2 then (if py.toNatClampNeg = 0 then (if (f_X5_isMissing b2) = 0 then (if (f_X5_isMissing b0) = 0 then (if b2 = b0 then (if (f_X5_hasRange n2 pf pn) = 0 then (((f_X7_finding fi (-1000001)).1), ((f_X7_finding fi (-1000001)).2), h0, h1, h2, h3) else (if (f_X5_hasRange n0 po pn) = 0 then (((f_X7_finding fi (-1000001)).1), ((f_X7_finding fi (-1000001)).2), h0, h1, h2, h3) else ((nI pn.toNatClampNeg), fi, (va_cpy h2 h0 pf.toNatClampNeg po.toNatClampNeg pn.toNatClampNeg), h1, h2, h3))) else (((f_X7_finding fi (-1000004)).1), ((f_X7_finding fi (-1000004)).2), h0, h1, h2, h3)) else (((f_X7_finding fi (-1000002)).1), ((f_X7_finding fi (-1000002)).2), h0, h1, h2, h3)) else (((f_X7_finding fi (-1000002)).1), ((f_X7_finding fi (-1000002)).2), h0, h1, h2, h3)) else (if py.toNatClampNeg = 1 then (if (f_X5_isMissing b2) = 0 then (if (f_X5_isMissing b1) = 0 then (if b2 = b1 then (if (f_X5_hasRange n2 pf pn) = 0 then (((f_X7_finding fi (-1000001)).1), ((f_X7_finding fi (-1000001)).2), h0, h1, h2, h3) else (if (f_X5_hasRange n1 po pn) = 0 then (((f_X7_finding fi (-1000001)).1), ((f_X7_finding fi (-1000001)).2), h0, h1, h2, h3) else ((nI pn.toNatClampNeg), fi, h0, (va_cpy h2 h1 pf.toNatClampNeg po.toNatClampNeg pn.toNatClampNeg), h2, h3))) else (((f_X7_finding fi (-1000004)).1), ((f_X7_finding fi (-1000004)).2), h0, h1, h2, h3)) else (((f_X7_finding fi (-1000002)).1), ((f_X7_finding fi (-1000002)).2), h0, h1, h2, h3)) else (((f_X7_finding fi (-1000002)).1), ((f_X7_finding fi (-1000002)).2), h0, h1, h2, h3)) else (if py.toNatClampNeg = 2 then (if (f_X5_isMissing b2) = 0 then (if (f_X5_isMissing b2) = 0 then (if b2 = b2 then (if (f_X5_hasRange n2 pf pn) = 0 then (((f_X7_finding fi (-1000001)).1), ((f_X7_finding fi (-1000001)).2), h0, h1, h2, h3) else (if (f_X5_hasRange n2 po pn) = 0 then (((f_X7_finding fi (-1000001)).1), ((f_X7_finding fi (-1000001)).2), h0, h1, h2, h3) else ((nI pn.toNatClampNeg), fi, h0, h1, (va_cpy h2 h2 pf.toNatClampNeg po.toNatClampNeg pn.toNatClampNeg), h3))) else (((f_X7_finding fi (-1000004)).1), ((f_X7_finding fi (-1000004)).2), h0, h1, h2, h3)) else (((f_X7_finding fi (-1000002)).1), ((f_X7_finding fi (-1000002)).2), h0, h1, h2, h3)) else (((f_X7_finding fi (-1000002)).1), ((f_X7_finding fi (-1000002)).2), h0, h1, h2, h3)) else (if (f_X5_isMissing b2) = 0 then (if (f_X5_isMissing b3) = 0 then (if b2 = b3 then (if (f_X5_hasRange n2 pf pn) = 0 then (((f_X7_finding fi (-1000001)).1), ((f_X7_finding fi (-1000001)).2), h0, h1, h2, h3) else (if (f_X5_hasRange n3 po pn) = 0 then (((f_X7_finding fi (-1000001)).1), ((f_X7_finding fi (-1000001)).2), h0, h1, h2, h3) else ((nI pn.toNatClampNeg), fi, h0, h1, h2, (va_cpy h2 h3 pf.toNatClampNeg po.toNatClampNeg pn.toNatClampNeg)))) else (((f_X7_finding fi (-1000004)).1), ((f_X7_finding fi (-1000004)).2), h0, h1, h2, h3)) else (((f_X7_finding fi (-1000002)).1), ((f_X7_finding fi (-1000002)).2), h0, h1, h2, h3)) else (((f_X7_finding fi (-1000002)).1), ((f_X7_finding fi (-1000002)).2), h0, h1, h2, h3))))) else (if py.toNatClampNeg = 0 then (if (f_X5_isMissing b3) = 0 then (if (f_X5_isMissing b0) = 0 then (if b3 = b0 then (if (f_X5_hasRange n3 pf pn) = 0 then (((f_X7_finding fi (-1000001)).1), ((f_X7_finding fi (-1000001)).2), h0, h1, h2, h3) else (if (f_X5_hasRange n0 po pn) = 0 then (((f_X7_finding fi (-1000001)).1), ((f_X7_finding fi (-1000001)).2), h0, h1, h2, h3) else ((nI pn.toNatClampNeg), fi, (va_cpy h3 h0 pf.toNatClampNeg po.toNatClampNeg pn.toNatClampNeg), h1, h2, h3))) else (((f_X7_finding fi (-1000004)).1), ((f_X7_finding fi (-1000004)).2), h0, h1, h2, h3)) else (((f_X7_finding fi (-1000002)).1), ((f_X7_finding fi (-1000002)).2), h0, h1, h2, h3)) else (((f_X7_finding fi (-1000002)).1), ((f_X7_finding fi (-1000002)).2), h0, h1, h2, h3)) else (if py.toNatClampNeg = 1 then (if (f_X5_isMissing b3) = 0 then (if (f_X5_isMissing b1) = 0 then (if b3 = b1 then (if (f_X5_hasRange n3 pf pn) = 0 then (((f_X7_finding fi (-1000001)).1), ((f_X7_finding fi (-1000001)).2), h0, h1, h2, h3) else (if (f_X5_hasRange n1 po pn) = 0 then (((f_X7_finding fi (-1000001)).1), ((f_X7_finding fi (-1000001)).2), h0, h1, h2, h3) else ((nI pn.toNatClampNeg), fi, h0, (va_cpy h3 h1 pf.toNatClampNeg po.toNatClampNeg pn.toNatClampNeg), h2, h3))) else (((f_X7_finding fi (-1000004)).1), ((f_X7_finding fi (-1000004)).2), h0, h1, h2, h3)) else (((f_X7_finding fi (-1000002)).1), ((f_X7_finding fi (-1000002)).2), h0, h1, h2, h3)) else (((f_X7_finding fi (-1000002)).1), ((f_X7_finding fi (-1000002)).2), h0, h1, h2, h3)) else (if py.toNatClampNeg = 2 then (if (f_X5_isMissing b3) = 0 then (if (f_X5_isMissing b2) = 0 then (if b3 = b2 then (if (f_X5_hasRange n3 pf pn) = 0 then (((f_X7_finding fi (-1000001)).1), ((f_X7_finding fi (-1000001)).2), h0, h1, h2, h3) else (if (f_X5_hasRange n2 po pn) = 0 then (((f_X7_finding fi (-1000001)).1), ((f_X7_finding fi (-1000001)).2), h0, h1, h2, h3) else ((nI pn.toNatClampNeg), fi, h0, h1, (va_cpy h3 h2 pf.toNatClampNeg po.toNatClampNeg pn.toNatClampNeg), h3))) else (((f_X7_finding fi (-1000004)).1), ((f_X7_finding fi (-1000004)).2), h0, h1, h2, h3)) else (((f_X7_finding fi (-1000002)).1), ((f_X7_finding fi (-1000002)).2), h0, h1, h2, h3)) else (((f_X7_finding fi (-1000002)).1), ((f_X7_finding fi (-1000002)).2), h0, h1, h2, h3)) else (if (f_X5_isMissing b3) = 0 then (if (f_X5_isMissing b3) = 0 then (if b3 = b3 then (if (f_X5_hasRange n3 pf pn) = 0 then (((f_X7_finding fi (-1000001)).1), ((f_X7_finding fi (-1000001)).2), h0, h1, h2, h3) else (if (f_X5_hasRange n3 po pn) = 0 then (((f_X7_finding fi (-1000001)).1), ((f_X7_finding fi (-1000001)).2), h0, h1, h2, h3) else ((nI pn.toNatClampNeg), fi, h0, h1, h2, (va_cpy h3 h3 pf.toNatClampNeg po.toNatClampNeg pn.toNatClampNeg)))) else (((f_X7_finding fi (-1000004)).1), ((f_X7_finding fi (-1000004)).2), h0, h1, h2, h3)) else (((f_X7_finding fi (-1000002)).1), ((f_X7_finding fi (-1000002)).2), h0, h1, h2, h3)) else (((f_X7_finding fi (-1000002)).1), ((f_X7_finding fi (-1000002)).2), h0, h1, h2, h3))))))))))
set_option maxHeartbeats 400000000 in
set_option maxRecDepth 100000 in
theorem c_X7_copy (l : Launch) (D : va_G) (cy : Nat → ClassId) (ta : Nat) (ha : Nat) (ha0 : Nat) (ha0n : Nat) (ha1 : Nat) (ha1n : Nat) (ha2 : Nat) (ha2n : Nat) (ha3 : Nat) (ha3n : Nat) (a_flow : Nat) (a_draft : Nat) (a_fence : Nat) (a_past : Nat) (a_slots : Nat) (a_slotKinds : Nat) (a_speedX : Nat) (a_speedY : Nat) (a_leftward : Nat) (a_change : Nat) (a_table : Nat) (h0 : Nat → Int32) (b0 : Int32) (n0 : Nat) (h1 : Nat → Int32) (b1 : Int32) (n1 : Nat) (h2 : Nat → Int32) (b2 : Int32) (n2 : Nat) (h3 : Nat → Int32) (b3 : Int32) (n3 : Nat) (fi : Int32) (px : Int32) (pf : Int32) (py : Int32) (po : Int32) (pn : Int32) (hn0 : n0 ≤ 16) (hn1 : n1 ≤ 16) (hn2 : n2 ≤ 16) (hn3 : n3 ≤ 16) : yk_Ci l D vwCl (yk_ty cy) yX7_copy wsX7_copy 1 22 [.ref ta, .int px, .int pf, .int py, .int po, .int pn] [(ta, .inr (7, [.ref a_flow, .ref a_draft, .ref a_fence, .ref a_past, .ref a_slots, .ref a_slotKinds, .ref ha, .ref a_speedX, .ref a_speedY, .ref a_leftward, .ref a_change, .ref a_table, .int fi])), (ha, .inl (cy 4, 4, .inr (.inr (.inr (.inr (yk_refs [ha0, ha1, ha2, ha3])))))), (ha0, .inr (5, [.ref ha0n, .int b0, .int (nI n0)])), (ha0n, .inl (cy 0, 16, .inl h0)), (ha1, .inr (5, [.ref ha1n, .int b1, .int (nI n1)])), (ha1n, .inl (cy 0, 16, .inl h1)), (ha2, .inr (5, [.ref ha2n, .int b2, .int (nI n2)])), (ha2n, .inl (cy 0, 16, .inl h2)), (ha3, .inr (5, [.ref ha3n, .int b3, .int (nI n3)])), (ha3n, .inl (cy 0, 16, .inl h3))] ((f_X7_copy h0 b0 n0 h1 b1 n1 h2 b2 n2 h3 b3 n3 fi px pf py po pn).1) [(ta, .inr (7, [.ref a_flow, .ref a_draft, .ref a_fence, .ref a_past, .ref a_slots, .ref a_slotKinds, .ref ha, .ref a_speedX, .ref a_speedY, .ref a_leftward, .ref a_change, .ref a_table, .int ((f_X7_copy h0 b0 n0 h1 b1 n1 h2 b2 n2 h3 b3 n3 fi px pf py po pn).2.1)])), (ha, .inl (cy 4, 4, .inr (.inr (.inr (.inr (yk_refs [ha0, ha1, ha2, ha3])))))), (ha0, .inr (5, [.ref ha0n, .int b0, .int (nI n0)])), (ha0n, .inl (cy 0, 16, .inl ((f_X7_copy h0 b0 n0 h1 b1 n1 h2 b2 n2 h3 b3 n3 fi px pf py po pn).2.2.1))), (ha1, .inr (5, [.ref ha1n, .int b1, .int (nI n1)])), (ha1n, .inl (cy 0, 16, .inl ((f_X7_copy h0 b0 n0 h1 b1 n1 h2 b2 n2 h3 b3 n3 fi px pf py po pn).2.2.2.1))), (ha2, .inr (5, [.ref ha2n, .int b2, .int (nI n2)])), (ha2n, .inl (cy 0, 16, .inl ((f_X7_copy h0 b0 n0 h1 b1 n1 h2 b2 n2 h3 b3 n3 fi px pf py po pn).2.2.2.2.1))), (ha3, .inr (5, [.ref ha3n, .int b3, .int (nI n3)])), (ha3n, .inl (cy 0, 16, .inl ((f_X7_copy h0 b0 n0 h1 b1 n1 h2 b2 n2 h3 b3 n3 fi px pf py po pn).2.2.2.2.2)))] := by
  refine yk_eI (cc := cX7_copy) (maxL := 8) (by decide) rfl (Nat.le_of_ble_eq_true rfl) rfl ?_
  intro p e R s m args below meth c A Q ls H locs hx hb hml hown hts hRf hRl hA hK hG hP hD hS hl hQ
  have hP : va_P D vwCl [(ta, .inr (7, [.ref a_flow, .ref a_draft, .ref a_fence, .ref a_past, .ref a_slots, .ref a_slotKinds, .ref ha, .ref a_speedX, .ref a_speedY, .ref a_leftward, .ref a_change, .ref a_table, .int fi])), (ha, .inl (cy 4, 4, .inr (.inr (.inr (.inr (yk_refs [ha0, ha1, ha2, ha3])))))), (ha0, .inr (5, [.ref ha0n, .int b0, .int (nI n0)])), (ha0n, .inl (cy 0, 16, .inl h0)), (ha1, .inr (5, [.ref ha1n, .int b1, .int (nI n1)])), (ha1n, .inl (cy 0, 16, .inl h1)), (ha2, .inr (5, [.ref ha2n, .int b2, .int (nI n2)])), (ha2n, .inl (cy 0, 16, .inl h2)), (ha3, .inr (5, [.ref ha3n, .int b3, .int (nI n3)])), (ha3n, .inl (cy 0, 16, .inl h3))] H := hP
  have hl : lv_has ls 8 [(0, .ref ta), (1, .int px), (2, .int pf), (3, .int py), (4, .int po), (5, .int pn)] := hl
  have hown : s.vm.findClass RX7 = some m.cls := hown
  have hF : (f_X7_copy h0 b0 n0 h1 b1 n1 h2 b2 n2 h3 b3 n3 fi px pf py po pn) = (f_X7_copy h0 b0 n0 h1 b1 n1 h2 b2 n2 h3 b3 n3 fi px pf py po pn) := rfl
  refine lv_iload_n hx hb dX7_copy_0 rfl (lv_at hl 1 rfl) ?_
  refine yk_i [] (va_runS (As := [.int px]) (rest := []) ⟨hx, hb, hml, hown, hts⟩ (c_X7_isSheet l D cy px H.size) (va_cwS 1 hts gX7_copy_X7_isSheet rfl rfl rfl hs_X7_isSheet (yk_room hRf hRl rfl rfl)) (yk_ps hG hA hS hK hP hD [] (by decide +kernel) rfl) rfl rfl hl.1 rfl (lv_room (Nat.le_of_ble_eq_true rfl)) dX7_copy_1 ⟨Nat.zero_le _, Nat.zero_le _⟩) hP hD hS hA rfl rfl (fun H locs hP9 hD9 hS9 => ?_)
  replace hP : va_P D vwCl [(ta, .inr (7, [.ref a_flow, .ref a_draft, .ref a_fence, .ref a_past, .ref a_slots, .ref a_slotKinds, .ref ha, .ref a_speedX, .ref a_speedY, .ref a_leftward, .ref a_change, .ref a_table, .int fi])), (ha, .inl (cy 4, 4, .inr (.inr (.inr (.inr (yk_refs [ha0, ha1, ha2, ha3])))))), (ha0, .inr (5, [.ref ha0n, .int b0, .int (nI n0)])), (ha0n, .inl (cy 0, 16, .inl h0)), (ha1, .inr (5, [.ref ha1n, .int b1, .int (nI n1)])), (ha1n, .inl (cy 0, 16, .inl h1)), (ha2, .inr (5, [.ref ha2n, .int b2, .int (nI n2)])), (ha2n, .inl (cy 0, 16, .inl h2)), (ha3, .inr (5, [.ref ha3n, .int b3, .int (nI n3)])), (ha3n, .inl (cy 0, 16, .inl h3))] H := hP9
  replace hD : va_D A [(ta, .inr (7, [.ref a_flow, .ref a_draft, .ref a_fence, .ref a_past, .ref a_slots, .ref a_slotKinds, .ref ha, .ref a_speedX, .ref a_speedY, .ref a_leftward, .ref a_change, .ref a_table, .int fi])), (ha, .inl (cy 4, 4, .inr (.inr (.inr (.inr (yk_refs [ha0, ha1, ha2, ha3])))))), (ha0, .inr (5, [.ref ha0n, .int b0, .int (nI n0)])), (ha0n, .inl (cy 0, 16, .inl h0)), (ha1, .inr (5, [.ref ha1n, .int b1, .int (nI n1)])), (ha1n, .inl (cy 0, 16, .inl h1)), (ha2, .inr (5, [.ref ha2n, .int b2, .int (nI n2)])), (ha2n, .inl (cy 0, 16, .inl h2)), (ha3, .inr (5, [.ref ha3n, .int b3, .int (nI n3)])), (ha3n, .inl (cy 0, 16, .inl h3))] := hD9
  replace hS := hS9
  clear hP9 hD9 hS9
  refine lv_if_eq (tgt := 14) hx hb dX7_copy_4 (by decide) (fun hc1 => ?_) (fun hc1 => ?_)
  · replace hF := hF.trans (if_pos hc1)
    refine lv_aload_n hx hb dX7_copy_14 rfl (lv_at hl 0 rfl) ?_
    refine lv_ldc (v := (-1000001)) hx hb hown (hts _ kX7_copy_0) dX7_copy_15 ?_
    refine yk_i [0] (va_runV (As := [.int (-1000001)]) (rest := []) ⟨hx, hb, hml, hown, hts⟩ (c_X7_finding l D cy ta a_flow a_draft a_fence a_past a_slots a_slotKinds ha a_speedX a_speedY a_leftward a_change a_table fi (-1000001) H.size) (cwV 1 hts gX7_copy_X7_finding rfl rfl rfl hv_X7_finding (yk_room hRf hRl rfl rfl)) (yk_pv (q := (RX7, TX7, 13)) hG hA hS hK hP hD [0] (by decide +kernel) rfl rfl rfl) rfl rfl hl.1 rfl (lv_room (Nat.le_of_ble_eq_true rfl)) dX7_copy_17 ⟨Nat.zero_le _, Nat.zero_le _⟩) hP hD hS hA rfl (Eq.trans (b := [ta]) rfl rfl) (fun H locs hP9 hD9 hS9 => ?_)
    replace hP : va_P D vwCl [(ta, .inr (7, [.ref a_flow, .ref a_draft, .ref a_fence, .ref a_past, .ref a_slots, .ref a_slotKinds, .ref ha, .ref a_speedX, .ref a_speedY, .ref a_leftward, .ref a_change, .ref a_table, .int ((f_X7_finding fi (-1000001)).2)])), (ha, .inl (cy 4, 4, .inr (.inr (.inr (.inr (yk_refs [ha0, ha1, ha2, ha3])))))), (ha0, .inr (5, [.ref ha0n, .int b0, .int (nI n0)])), (ha0n, .inl (cy 0, 16, .inl h0)), (ha1, .inr (5, [.ref ha1n, .int b1, .int (nI n1)])), (ha1n, .inl (cy 0, 16, .inl h1)), (ha2, .inr (5, [.ref ha2n, .int b2, .int (nI n2)])), (ha2n, .inl (cy 0, 16, .inl h2)), (ha3, .inr (5, [.ref ha3n, .int b3, .int (nI n3)])), (ha3n, .inl (cy 0, 16, .inl h3))] H := hP9
    replace hD : va_D A [(ta, .inr (7, [.ref a_flow, .ref a_draft, .ref a_fence, .ref a_past, .ref a_slots, .ref a_slotKinds, .ref ha, .ref a_speedX, .ref a_speedY, .ref a_leftward, .ref a_change, .ref a_table, .int ((f_X7_finding fi (-1000001)).2)])), (ha, .inl (cy 4, 4, .inr (.inr (.inr (.inr (yk_refs [ha0, ha1, ha2, ha3])))))), (ha0, .inr (5, [.ref ha0n, .int b0, .int (nI n0)])), (ha0n, .inl (cy 0, 16, .inl h0)), (ha1, .inr (5, [.ref ha1n, .int b1, .int (nI n1)])), (ha1n, .inl (cy 0, 16, .inl h1)), (ha2, .inr (5, [.ref ha2n, .int b2, .int (nI n2)])), (ha2n, .inl (cy 0, 16, .inl h2)), (ha3, .inr (5, [.ref ha3n, .int b3, .int (nI n3)])), (ha3n, .inl (cy 0, 16, .inl h3))] := hD9
    replace hS := hS9
    clear hP9 hD9 hS9
    have hF : f_X7_copy h0 b0 n0 h1 b1 n1 h2 b2 n2 h3 b3 n3 fi px pf py po pn = (((f_X7_finding fi (-1000001)).1), ((f_X7_finding fi (-1000001)).2), h0, h1, h2, h3) := hF
    have hf0 := yk_fst hF
    have hg0 := yk_snd hF
    have hf1 := yk_fst hg0
    have hg1 := yk_snd hg0
    have hf2 := yk_fst hg1
    have hg2 := yk_snd hg1
    have hf3 := yk_fst hg2
    have hg3 := yk_snd hg2
    have hf4 := yk_fst hg3
    have hg4 := yk_snd hg3
    rw [hf0, hf1, hf2, hf3, hf4, hg4] at hQ
    exact hQ _ _ _ _ dX7_copy_20 hP hS
  · replace hF := hF.trans (if_neg hc1)
    refine lv_iload_n hx hb dX7_copy_7 rfl (lv_at hl 3 rfl) ?_
    refine yk_i [] (va_runS (As := [.int py]) (rest := []) ⟨hx, hb, hml, hown, hts⟩ (c_X7_isSheet l D cy py H.size) (va_cwS 1 hts gX7_copy_X7_isSheet rfl rfl rfl hs_X7_isSheet (yk_room hRf hRl rfl rfl)) (yk_ps hG hA hS hK hP hD [] (by decide +kernel) rfl) rfl rfl hl.1 rfl (lv_room (Nat.le_of_ble_eq_true rfl)) dX7_copy_8 ⟨Nat.zero_le _, Nat.zero_le _⟩) hP hD hS hA rfl rfl (fun H locs hP9 hD9 hS9 => ?_)
    replace hP : va_P D vwCl [(ta, .inr (7, [.ref a_flow, .ref a_draft, .ref a_fence, .ref a_past, .ref a_slots, .ref a_slotKinds, .ref ha, .ref a_speedX, .ref a_speedY, .ref a_leftward, .ref a_change, .ref a_table, .int fi])), (ha, .inl (cy 4, 4, .inr (.inr (.inr (.inr (yk_refs [ha0, ha1, ha2, ha3])))))), (ha0, .inr (5, [.ref ha0n, .int b0, .int (nI n0)])), (ha0n, .inl (cy 0, 16, .inl h0)), (ha1, .inr (5, [.ref ha1n, .int b1, .int (nI n1)])), (ha1n, .inl (cy 0, 16, .inl h1)), (ha2, .inr (5, [.ref ha2n, .int b2, .int (nI n2)])), (ha2n, .inl (cy 0, 16, .inl h2)), (ha3, .inr (5, [.ref ha3n, .int b3, .int (nI n3)])), (ha3n, .inl (cy 0, 16, .inl h3))] H := hP9
    replace hD : va_D A [(ta, .inr (7, [.ref a_flow, .ref a_draft, .ref a_fence, .ref a_past, .ref a_slots, .ref a_slotKinds, .ref ha, .ref a_speedX, .ref a_speedY, .ref a_leftward, .ref a_change, .ref a_table, .int fi])), (ha, .inl (cy 4, 4, .inr (.inr (.inr (.inr (yk_refs [ha0, ha1, ha2, ha3])))))), (ha0, .inr (5, [.ref ha0n, .int b0, .int (nI n0)])), (ha0n, .inl (cy 0, 16, .inl h0)), (ha1, .inr (5, [.ref ha1n, .int b1, .int (nI n1)])), (ha1n, .inl (cy 0, 16, .inl h1)), (ha2, .inr (5, [.ref ha2n, .int b2, .int (nI n2)])), (ha2n, .inl (cy 0, 16, .inl h2)), (ha3, .inr (5, [.ref ha3n, .int b3, .int (nI n3)])), (ha3n, .inl (cy 0, 16, .inl h3))] := hD9
    replace hS := hS9
    clear hP9 hD9 hS9
    refine lv_if_ne (tgt := 21) hx hb dX7_copy_11 (by decide) (fun hc2 => ?_) (fun hc2 => ?_)
    · replace hF := hF.trans (if_neg hc2)
      have hq3 : px = nI px.toNatClampNeg := (ix_sheet (by assumption)).1
      have hq3b : px.toNatClampNeg < 4 := (ix_sheet (by assumption)).2
      rw [hq3] at hl
      have hq4 : py = nI py.toNatClampNeg := (ix_sheet (by assumption)).1
      have hq4b : py.toNatClampNeg < 4 := (ix_sheet (by assumption)).2
      rw [hq4] at hl
      refine lv_aload_n hx hb dX7_copy_21 rfl (lv_at hl 0 rfl) ?_
      refine va_get (D := D) (ci := 7) (v := .ref ha) (C := RX7) (T := TX7) (N := 13) hx hb hts uX7_copy_X7 hown hK hP 0 rfl rfl 6 (by decide) (hts _ kX7_copy_1) (fun _ h9 => h9) rfl dX7_copy_22 ?_
      refine lv_iload_n hx hb dX7_copy_25 rfl (lv_at hl 1 rfl) ?_
      by_cases hc5 : px.toNatClampNeg = 0
      · replace hF := hF.trans (if_pos hc5)
        refine yk_ti (y := nI 0) (congrArg nI hc5) ?_
        refine yk_aldq hx hb hK hP 1 4 rfl rfl 0 (by decide) (by decide) rfl dX7_copy_26 ?_
        refine lv_astore (lv' := [(6, .ref ha0), (0, .ref ta), (1, .int (nI px.toNatClampNeg)), (2, .int pf), (3, .int (nI py.toNatClampNeg)), (4, .int po), (5, .int pn)]) hx hb dX7_copy_27 hl (by decide) rfl (fun ls hl9 => ?_)
        replace hl := hl9
        clear hl9
        refine lv_aload_n hx hb dX7_copy_29 rfl (lv_at hl 1 rfl) ?_
        refine va_get (D := D) (ci := 7) (v := .ref ha) (C := RX7) (T := TX7) (N := 13) hx hb hts uX7_copy_X7 hown hK hP 0 rfl rfl 6 (by decide) (hts _ kX7_copy_1) (fun _ h9 => h9) rfl dX7_copy_30 ?_
        refine lv_iload_n hx hb dX7_copy_33 rfl (lv_at hl 4 rfl) ?_
        by_cases hc6 : py.toNatClampNeg = 0
        · replace hF := hF.trans (if_pos hc6)
          refine yk_ti (y := nI 0) (congrArg nI hc6) ?_
          refine yk_aldq hx hb hK hP 1 4 rfl rfl 0 (by decide) (by decide) rfl dX7_copy_34 ?_
          refine lv_astore (lv' := [(7, .ref ha0), (6, .ref ha0), (0, .ref ta), (1, .int (nI px.toNatClampNeg)), (2, .int pf), (3, .int (nI py.toNatClampNeg)), (4, .int po), (5, .int pn)]) hx hb dX7_copy_35 hl (by decide) rfl (fun ls hl9 => ?_)
          replace hl := hl9
          clear hl9
          refine lv_aload hx hb dX7_copy_37 (lv_at hl 1 rfl) ?_
          refine yk_i [2, 3] (va_runV (As := []) (rest := []) ⟨hx, hb, hml, hown, hts⟩ (c_X5_isMissing l D cy ha0 ha0n h0 b0 n0 H.size) (cwV 0 hts gX7_copy_X5_isMissing rfl rfl rfl hv_X5_isMissing (yk_room hRf hRl rfl rfl)) (yk_pv (q := (RX5, TX5, 3)) hG hA hS hK hP hD [2, 3] (by decide +kernel) rfl rfl rfl) rfl rfl hl.1 rfl (lv_room (Nat.le_of_ble_eq_true rfl)) dX7_copy_39 ⟨Nat.zero_le _, Nat.zero_le _⟩) hP hD hS hA rfl (Eq.trans (b := [ha0, ha0n]) rfl rfl) (fun H locs hP9 hD9 hS9 => ?_)
          replace hP : va_P D vwCl [(ta, .inr (7, [.ref a_flow, .ref a_draft, .ref a_fence, .ref a_past, .ref a_slots, .ref a_slotKinds, .ref ha, .ref a_speedX, .ref a_speedY, .ref a_leftward, .ref a_change, .ref a_table, .int fi])), (ha, .inl (cy 4, 4, .inr (.inr (.inr (.inr (yk_refs [ha0, ha1, ha2, ha3])))))), (ha0, .inr (5, [.ref ha0n, .int b0, .int (nI n0)])), (ha0n, .inl (cy 0, 16, .inl h0)), (ha1, .inr (5, [.ref ha1n, .int b1, .int (nI n1)])), (ha1n, .inl (cy 0, 16, .inl h1)), (ha2, .inr (5, [.ref ha2n, .int b2, .int (nI n2)])), (ha2n, .inl (cy 0, 16, .inl h2)), (ha3, .inr (5, [.ref ha3n, .int b3, .int (nI n3)])), (ha3n, .inl (cy 0, 16, .inl h3))] H := hP9
          replace hD : va_D A [(ta, .inr (7, [.ref a_flow, .ref a_draft, .ref a_fence, .ref a_past, .ref a_slots, .ref a_slotKinds, .ref ha, .ref a_speedX, .ref a_speedY, .ref a_leftward, .ref a_change, .ref a_table, .int fi])), (ha, .inl (cy 4, 4, .inr (.inr (.inr (.inr (yk_refs [ha0, ha1, ha2, ha3])))))), (ha0, .inr (5, [.ref ha0n, .int b0, .int (nI n0)])), (ha0n, .inl (cy 0, 16, .inl h0)), (ha1, .inr (5, [.ref ha1n, .int b1, .int (nI n1)])), (ha1n, .inl (cy 0, 16, .inl h1)), (ha2, .inr (5, [.ref ha2n, .int b2, .int (nI n2)])), (ha2n, .inl (cy 0, 16, .inl h2)), (ha3, .inr (5, [.ref ha3n, .int b3, .int (nI n3)])), (ha3n, .inl (cy 0, 16, .inl h3))] := hD9
          replace hS := hS9
          clear hP9 hD9 hS9
          refine lv_if_ne (tgt := 53) hx hb dX7_copy_42 (by decide) (fun hc7 => ?_) (fun hc7 => ?_)
          · replace hF := hF.trans (if_neg hc7)
            refine lv_aload_n hx hb dX7_copy_53 rfl (lv_at hl 2 rfl) ?_
            refine lv_ldcw (v := (-1000002)) hx hb hown (hts _ kX7_copy_2) dX7_copy_54 ?_
            refine yk_i [0] (va_runV (As := [.int (-1000002)]) (rest := []) ⟨hx, hb, hml, hown, hts⟩ (c_X7_finding l D cy ta a_flow a_draft a_fence a_past a_slots a_slotKinds ha a_speedX a_speedY a_leftward a_change a_table fi (-1000002) H.size) (cwV 1 hts gX7_copy_X7_finding rfl rfl rfl hv_X7_finding (yk_room hRf hRl rfl rfl)) (yk_pv (q := (RX7, TX7, 13)) hG hA hS hK hP hD [0] (by decide +kernel) rfl rfl rfl) rfl rfl hl.1 rfl (lv_room (Nat.le_of_ble_eq_true rfl)) dX7_copy_57 ⟨Nat.zero_le _, Nat.zero_le _⟩) hP hD hS hA rfl (Eq.trans (b := [ta]) rfl rfl) (fun H locs hP9 hD9 hS9 => ?_)
            replace hP : va_P D vwCl [(ta, .inr (7, [.ref a_flow, .ref a_draft, .ref a_fence, .ref a_past, .ref a_slots, .ref a_slotKinds, .ref ha, .ref a_speedX, .ref a_speedY, .ref a_leftward, .ref a_change, .ref a_table, .int ((f_X7_finding fi (-1000002)).2)])), (ha, .inl (cy 4, 4, .inr (.inr (.inr (.inr (yk_refs [ha0, ha1, ha2, ha3])))))), (ha0, .inr (5, [.ref ha0n, .int b0, .int (nI n0)])), (ha0n, .inl (cy 0, 16, .inl h0)), (ha1, .inr (5, [.ref ha1n, .int b1, .int (nI n1)])), (ha1n, .inl (cy 0, 16, .inl h1)), (ha2, .inr (5, [.ref ha2n, .int b2, .int (nI n2)])), (ha2n, .inl (cy 0, 16, .inl h2)), (ha3, .inr (5, [.ref ha3n, .int b3, .int (nI n3)])), (ha3n, .inl (cy 0, 16, .inl h3))] H := hP9
            replace hD : va_D A [(ta, .inr (7, [.ref a_flow, .ref a_draft, .ref a_fence, .ref a_past, .ref a_slots, .ref a_slotKinds, .ref ha, .ref a_speedX, .ref a_speedY, .ref a_leftward, .ref a_change, .ref a_table, .int ((f_X7_finding fi (-1000002)).2)])), (ha, .inl (cy 4, 4, .inr (.inr (.inr (.inr (yk_refs [ha0, ha1, ha2, ha3])))))), (ha0, .inr (5, [.ref ha0n, .int b0, .int (nI n0)])), (ha0n, .inl (cy 0, 16, .inl h0)), (ha1, .inr (5, [.ref ha1n, .int b1, .int (nI n1)])), (ha1n, .inl (cy 0, 16, .inl h1)), (ha2, .inr (5, [.ref ha2n, .int b2, .int (nI n2)])), (ha2n, .inl (cy 0, 16, .inl h2)), (ha3, .inr (5, [.ref ha3n, .int b3, .int (nI n3)])), (ha3n, .inl (cy 0, 16, .inl h3))] := hD9
            replace hS := hS9
            clear hP9 hD9 hS9
            have hF : f_X7_copy h0 b0 n0 h1 b1 n1 h2 b2 n2 h3 b3 n3 fi px pf py po pn = (((f_X7_finding fi (-1000002)).1), ((f_X7_finding fi (-1000002)).2), h0, h1, h2, h3) := hF
            have hf0 := yk_fst hF
            have hg0 := yk_snd hF
            have hf1 := yk_fst hg0
            have hg1 := yk_snd hg0
            have hf2 := yk_fst hg1
            have hg2 := yk_snd hg1
            have hf3 := yk_fst hg2
            have hg3 := yk_snd hg2
            have hf4 := yk_fst hg3
            have hg4 := yk_snd hg3
            rw [hf0, hf1, hf2, hf3, hf4, hg4] at hQ
            exact hQ _ _ _ _ dX7_copy_60 hP hS
          · replace hF := hF.trans (if_pos hc7)
            refine lv_aload hx hb dX7_copy_45 (lv_at hl 0 rfl) ?_
            refine yk_i [2, 3] (va_runV (As := []) (rest := []) ⟨hx, hb, hml, hown, hts⟩ (c_X5_isMissing l D cy ha0 ha0n h0 b0 n0 H.size) (cwV 0 hts gX7_copy_X5_isMissing rfl rfl rfl hv_X5_isMissing (yk_room hRf hRl rfl rfl)) (yk_pv (q := (RX5, TX5, 3)) hG hA hS hK hP hD [2, 3] (by decide +kernel) rfl rfl rfl) rfl rfl hl.1 rfl (lv_room (Nat.le_of_ble_eq_true rfl)) dX7_copy_47 ⟨Nat.zero_le _, Nat.zero_le _⟩) hP hD hS hA rfl (Eq.trans (b := [ha0, ha0n]) rfl rfl) (fun H locs hP9 hD9 hS9 => ?_)
            replace hP : va_P D vwCl [(ta, .inr (7, [.ref a_flow, .ref a_draft, .ref a_fence, .ref a_past, .ref a_slots, .ref a_slotKinds, .ref ha, .ref a_speedX, .ref a_speedY, .ref a_leftward, .ref a_change, .ref a_table, .int fi])), (ha, .inl (cy 4, 4, .inr (.inr (.inr (.inr (yk_refs [ha0, ha1, ha2, ha3])))))), (ha0, .inr (5, [.ref ha0n, .int b0, .int (nI n0)])), (ha0n, .inl (cy 0, 16, .inl h0)), (ha1, .inr (5, [.ref ha1n, .int b1, .int (nI n1)])), (ha1n, .inl (cy 0, 16, .inl h1)), (ha2, .inr (5, [.ref ha2n, .int b2, .int (nI n2)])), (ha2n, .inl (cy 0, 16, .inl h2)), (ha3, .inr (5, [.ref ha3n, .int b3, .int (nI n3)])), (ha3n, .inl (cy 0, 16, .inl h3))] H := hP9
            replace hD : va_D A [(ta, .inr (7, [.ref a_flow, .ref a_draft, .ref a_fence, .ref a_past, .ref a_slots, .ref a_slotKinds, .ref ha, .ref a_speedX, .ref a_speedY, .ref a_leftward, .ref a_change, .ref a_table, .int fi])), (ha, .inl (cy 4, 4, .inr (.inr (.inr (.inr (yk_refs [ha0, ha1, ha2, ha3])))))), (ha0, .inr (5, [.ref ha0n, .int b0, .int (nI n0)])), (ha0n, .inl (cy 0, 16, .inl h0)), (ha1, .inr (5, [.ref ha1n, .int b1, .int (nI n1)])), (ha1n, .inl (cy 0, 16, .inl h1)), (ha2, .inr (5, [.ref ha2n, .int b2, .int (nI n2)])), (ha2n, .inl (cy 0, 16, .inl h2)), (ha3, .inr (5, [.ref ha3n, .int b3, .int (nI n3)])), (ha3n, .inl (cy 0, 16, .inl h3))] := hD9
            replace hS := hS9
            clear hP9 hD9 hS9
            refine lv_if_eq (tgt := 61) hx hb dX7_copy_50 (by decide) (fun hc8 => ?_) (fun hc8 => ?_)
            · replace hF := hF.trans (if_pos hc8)
              refine lv_aload hx hb dX7_copy_61 (lv_at hl 1 rfl) ?_
              refine va_get (D := D) (ci := 5) (v := .int b0) (C := RX5) (T := TX5) (N := 3) hx hb hts uX7_copy_X5 hown hK hP 2 rfl rfl 1 (by decide) (hts _ kX7_copy_3) (fun _ h9 => h9) rfl dX7_copy_63 ?_
              refine lv_aload hx hb dX7_copy_66 (lv_at hl 0 rfl) ?_
              refine va_get (D := D) (ci := 5) (v := .int b0) (C := RX5) (T := TX5) (N := 3) hx hb hts uX7_copy_X5 hown hK hP 2 rfl rfl 1 (by decide) (hts _ kX7_copy_3) (fun _ h9 => h9) rfl dX7_copy_68 ?_
              refine lv_icmp_eq (tgt := 81) hx hb dX7_copy_71 (by decide) (fun hc9 => ?_) (fun hc9 => ?_)
              · replace hF := hF.trans (if_pos hc9)
                refine lv_aload hx hb dX7_copy_81 (lv_at hl 1 rfl) ?_
                refine lv_iload_n hx hb dX7_copy_83 rfl (lv_at hl 4 rfl) ?_
                refine lv_iload hx hb dX7_copy_84 (lv_at hl 7 rfl) ?_
                refine yk_i [2, 3] (va_runV (As := [.int pf, .int pn]) (rest := []) ⟨hx, hb, hml, hown, hts⟩ (c_X5_hasRange l D cy ha0 ha0n h0 b0 n0 pf pn hn0 H.size) (cwV 2 hts gX7_copy_X5_hasRange rfl rfl rfl hv_X5_hasRange (yk_room hRf hRl rfl rfl)) (yk_pv (q := (RX5, TX5, 3)) hG hA hS hK hP hD [2, 3] (by decide +kernel) rfl rfl rfl) rfl rfl hl.1 rfl (lv_room (Nat.le_of_ble_eq_true rfl)) dX7_copy_86 ⟨Nat.zero_le _, Nat.zero_le _⟩) hP hD hS hA rfl (Eq.trans (b := [ha0, ha0n]) rfl rfl) (fun H locs hP9 hD9 hS9 => ?_)
                replace hP : va_P D vwCl [(ta, .inr (7, [.ref a_flow, .ref a_draft, .ref a_fence, .ref a_past, .ref a_slots, .ref a_slotKinds, .ref ha, .ref a_speedX, .ref a_speedY, .ref a_leftward, .ref a_change, .ref a_table, .int fi])), (ha, .inl (cy 4, 4, .inr (.inr (.inr (.inr (yk_refs [ha0, ha1, ha2, ha3])))))), (ha0, .inr (5, [.ref ha0n, .int b0, .int (nI n0)])), (ha0n, .inl (cy 0, 16, .inl h0)), (ha1, .inr (5, [.ref ha1n, .int b1, .int (nI n1)])), (ha1n, .inl (cy 0, 16, .inl h1)), (ha2, .inr (5, [.ref ha2n, .int b2, .int (nI n2)])), (ha2n, .inl (cy 0, 16, .inl h2)), (ha3, .inr (5, [.ref ha3n, .int b3, .int (nI n3)])), (ha3n, .inl (cy 0, 16, .inl h3))] H := hP9
                replace hD : va_D A [(ta, .inr (7, [.ref a_flow, .ref a_draft, .ref a_fence, .ref a_past, .ref a_slots, .ref a_slotKinds, .ref ha, .ref a_speedX, .ref a_speedY, .ref a_leftward, .ref a_change, .ref a_table, .int fi])), (ha, .inl (cy 4, 4, .inr (.inr (.inr (.inr (yk_refs [ha0, ha1, ha2, ha3])))))), (ha0, .inr (5, [.ref ha0n, .int b0, .int (nI n0)])), (ha0n, .inl (cy 0, 16, .inl h0)), (ha1, .inr (5, [.ref ha1n, .int b1, .int (nI n1)])), (ha1n, .inl (cy 0, 16, .inl h1)), (ha2, .inr (5, [.ref ha2n, .int b2, .int (nI n2)])), (ha2n, .inl (cy 0, 16, .inl h2)), (ha3, .inr (5, [.ref ha3n, .int b3, .int (nI n3)])), (ha3n, .inl (cy 0, 16, .inl h3))] := hD9
                replace hS := hS9
                clear hP9 hD9 hS9
                refine lv_if_eq (tgt := 104) hx hb dX7_copy_89 (by decide) (fun hc10 => ?_) (fun hc10 => ?_)
                · replace hF := hF.trans (if_pos hc10)
                  refine lv_aload_n hx hb dX7_copy_104 rfl (lv_at hl 2 rfl) ?_
                  refine lv_ldc (v := (-1000001)) hx hb hown (hts _ kX7_copy_0) dX7_copy_105 ?_
                  refine yk_i [0] (va_runV (As := [.int (-1000001)]) (rest := []) ⟨hx, hb, hml, hown, hts⟩ (c_X7_finding l D cy ta a_flow a_draft a_fence a_past a_slots a_slotKinds ha a_speedX a_speedY a_leftward a_change a_table fi (-1000001) H.size) (cwV 1 hts gX7_copy_X7_finding rfl rfl rfl hv_X7_finding (yk_room hRf hRl rfl rfl)) (yk_pv (q := (RX7, TX7, 13)) hG hA hS hK hP hD [0] (by decide +kernel) rfl rfl rfl) rfl rfl hl.1 rfl (lv_room (Nat.le_of_ble_eq_true rfl)) dX7_copy_107 ⟨Nat.zero_le _, Nat.zero_le _⟩) hP hD hS hA rfl (Eq.trans (b := [ta]) rfl rfl) (fun H locs hP9 hD9 hS9 => ?_)
                  replace hP : va_P D vwCl [(ta, .inr (7, [.ref a_flow, .ref a_draft, .ref a_fence, .ref a_past, .ref a_slots, .ref a_slotKinds, .ref ha, .ref a_speedX, .ref a_speedY, .ref a_leftward, .ref a_change, .ref a_table, .int ((f_X7_finding fi (-1000001)).2)])), (ha, .inl (cy 4, 4, .inr (.inr (.inr (.inr (yk_refs [ha0, ha1, ha2, ha3])))))), (ha0, .inr (5, [.ref ha0n, .int b0, .int (nI n0)])), (ha0n, .inl (cy 0, 16, .inl h0)), (ha1, .inr (5, [.ref ha1n, .int b1, .int (nI n1)])), (ha1n, .inl (cy 0, 16, .inl h1)), (ha2, .inr (5, [.ref ha2n, .int b2, .int (nI n2)])), (ha2n, .inl (cy 0, 16, .inl h2)), (ha3, .inr (5, [.ref ha3n, .int b3, .int (nI n3)])), (ha3n, .inl (cy 0, 16, .inl h3))] H := hP9
                  replace hD : va_D A [(ta, .inr (7, [.ref a_flow, .ref a_draft, .ref a_fence, .ref a_past, .ref a_slots, .ref a_slotKinds, .ref ha, .ref a_speedX, .ref a_speedY, .ref a_leftward, .ref a_change, .ref a_table, .int ((f_X7_finding fi (-1000001)).2)])), (ha, .inl (cy 4, 4, .inr (.inr (.inr (.inr (yk_refs [ha0, ha1, ha2, ha3])))))), (ha0, .inr (5, [.ref ha0n, .int b0, .int (nI n0)])), (ha0n, .inl (cy 0, 16, .inl h0)), (ha1, .inr (5, [.ref ha1n, .int b1, .int (nI n1)])), (ha1n, .inl (cy 0, 16, .inl h1)), (ha2, .inr (5, [.ref ha2n, .int b2, .int (nI n2)])), (ha2n, .inl (cy 0, 16, .inl h2)), (ha3, .inr (5, [.ref ha3n, .int b3, .int (nI n3)])), (ha3n, .inl (cy 0, 16, .inl h3))] := hD9
                  replace hS := hS9
                  clear hP9 hD9 hS9
                  have hF : f_X7_copy h0 b0 n0 h1 b1 n1 h2 b2 n2 h3 b3 n3 fi px pf py po pn = (((f_X7_finding fi (-1000001)).1), ((f_X7_finding fi (-1000001)).2), h0, h1, h2, h3) := hF
                  have hf0 := yk_fst hF
                  have hg0 := yk_snd hF
                  have hf1 := yk_fst hg0
                  have hg1 := yk_snd hg0
                  have hf2 := yk_fst hg1
                  have hg2 := yk_snd hg1
                  have hf3 := yk_fst hg2
                  have hg3 := yk_snd hg2
                  have hf4 := yk_fst hg3
                  have hg4 := yk_snd hg3
                  rw [hf0, hf1, hf2, hf3, hf4, hg4] at hQ
                  exact hQ _ _ _ _ dX7_copy_110 hP hS
                · replace hF := hF.trans (if_neg hc10)
                  refine lv_aload hx hb dX7_copy_92 (lv_at hl 0 rfl) ?_
                  refine lv_iload hx hb dX7_copy_94 (lv_at hl 6 rfl) ?_
                  refine lv_iload hx hb dX7_copy_96 (lv_at hl 7 rfl) ?_
                  refine yk_i [2, 3] (va_runV (As := [.int po, .int pn]) (rest := []) ⟨hx, hb, hml, hown, hts⟩ (c_X5_hasRange l D cy ha0 ha0n h0 b0 n0 po pn hn0 H.size) (cwV 2 hts gX7_copy_X5_hasRange rfl rfl rfl hv_X5_hasRange (yk_room hRf hRl rfl rfl)) (yk_pv (q := (RX5, TX5, 3)) hG hA hS hK hP hD [2, 3] (by decide +kernel) rfl rfl rfl) rfl rfl hl.1 rfl (lv_room (Nat.le_of_ble_eq_true rfl)) dX7_copy_98 ⟨Nat.zero_le _, Nat.zero_le _⟩) hP hD hS hA rfl (Eq.trans (b := [ha0, ha0n]) rfl rfl) (fun H locs hP9 hD9 hS9 => ?_)
                  replace hP : va_P D vwCl [(ta, .inr (7, [.ref a_flow, .ref a_draft, .ref a_fence, .ref a_past, .ref a_slots, .ref a_slotKinds, .ref ha, .ref a_speedX, .ref a_speedY, .ref a_leftward, .ref a_change, .ref a_table, .int fi])), (ha, .inl (cy 4, 4, .inr (.inr (.inr (.inr (yk_refs [ha0, ha1, ha2, ha3])))))), (ha0, .inr (5, [.ref ha0n, .int b0, .int (nI n0)])), (ha0n, .inl (cy 0, 16, .inl h0)), (ha1, .inr (5, [.ref ha1n, .int b1, .int (nI n1)])), (ha1n, .inl (cy 0, 16, .inl h1)), (ha2, .inr (5, [.ref ha2n, .int b2, .int (nI n2)])), (ha2n, .inl (cy 0, 16, .inl h2)), (ha3, .inr (5, [.ref ha3n, .int b3, .int (nI n3)])), (ha3n, .inl (cy 0, 16, .inl h3))] H := hP9
                  replace hD : va_D A [(ta, .inr (7, [.ref a_flow, .ref a_draft, .ref a_fence, .ref a_past, .ref a_slots, .ref a_slotKinds, .ref ha, .ref a_speedX, .ref a_speedY, .ref a_leftward, .ref a_change, .ref a_table, .int fi])), (ha, .inl (cy 4, 4, .inr (.inr (.inr (.inr (yk_refs [ha0, ha1, ha2, ha3])))))), (ha0, .inr (5, [.ref ha0n, .int b0, .int (nI n0)])), (ha0n, .inl (cy 0, 16, .inl h0)), (ha1, .inr (5, [.ref ha1n, .int b1, .int (nI n1)])), (ha1n, .inl (cy 0, 16, .inl h1)), (ha2, .inr (5, [.ref ha2n, .int b2, .int (nI n2)])), (ha2n, .inl (cy 0, 16, .inl h2)), (ha3, .inr (5, [.ref ha3n, .int b3, .int (nI n3)])), (ha3n, .inl (cy 0, 16, .inl h3))] := hD9
                  replace hS := hS9
                  clear hP9 hD9 hS9
                  refine lv_if_ne (tgt := 111) hx hb dX7_copy_101 (by decide) (fun hc11 => ?_) (fun hc11 => ?_)
                  · replace hF := hF.trans (if_neg hc11)
                    have hq8 := hr_ok (n := n0) (x := pf) (y := pn) (by omega) (by assumption)
                    have hq9 := hr_ok (n := n0) (x := po) (y := pn) (by omega) (by assumption)
                    have hq12 : pf = nI pf.toNatClampNeg := hq8.1.1
                    have hq12b : pf.toNatClampNeg < 17 := hq8.1.2
                    rw [hq12] at hl
                    have hq13 : po = nI po.toNatClampNeg := hq9.1.1
                    have hq13b : po.toNatClampNeg < 17 := hq9.1.2
                    rw [hq13] at hl
                    have hq14 : pn = nI pn.toNatClampNeg := hq8.2.1.1
                    have hq14b : pn.toNatClampNeg < 17 := hq8.2.1.2
                    rw [hq14] at hl
                    refine lv_aload hx hb dX7_copy_111 (lv_at hl 1 rfl) ?_
                    refine va_get (D := D) (ci := 5) (v := .ref ha0n) (C := RX5) (T := TX5) (N := 3) hx hb hts uX7_copy_X5 hown hK hP 2 rfl rfl 0 (by decide) (hts _ kX7_copy_4) (fun _ h9 => h9) rfl dX7_copy_113 ?_
                    refine lv_iload_n hx hb dX7_copy_116 rfl (lv_at hl 4 rfl) ?_
                    refine lv_aload hx hb dX7_copy_117 (lv_at hl 0 rfl) ?_
                    refine va_get (D := D) (ci := 5) (v := .ref ha0n) (C := RX5) (T := TX5) (N := 3) hx hb hts uX7_copy_X5 hown hK hP 2 rfl rfl 0 (by decide) (hts _ kX7_copy_4) (fun _ h9 => h9) rfl dX7_copy_119 ?_
                    refine lv_iload hx hb dX7_copy_122 (lv_at hl 6 rfl) ?_
                    refine lv_iload hx hb dX7_copy_124 (lv_at hl 7 rfl) ?_
                    refine yk_cpy (sp := pf.toNatClampNeg) (dp := po.toNatClampNeg) (n := pn.toNatClampNeg) hx hb (hml.trans hl.1.symm) hown (hts _ kX7_copy_5) (hts _ kX7_copy_6) (hts _ kX7_copy_7) (hts _ kX7_copy_8) hK hP hD hS 3 3 rfl rfl rfl rfl (⟨by omega, by omega⟩) (by omega) (by omega) (by rw [hRf]; exact Nat.le_of_ble_eq_true rfl) (by rw [hRl]; exact Nat.le_of_ble_eq_true rfl) dX7_copy_126 (fun H locs hP9 hD9 hS9 => ?_)
                    replace hP : va_P D vwCl [(ta, .inr (7, [.ref a_flow, .ref a_draft, .ref a_fence, .ref a_past, .ref a_slots, .ref a_slotKinds, .ref ha, .ref a_speedX, .ref a_speedY, .ref a_leftward, .ref a_change, .ref a_table, .int fi])), (ha, .inl (cy 4, 4, .inr (.inr (.inr (.inr (yk_refs [ha0, ha1, ha2, ha3])))))), (ha0, .inr (5, [.ref ha0n, .int b0, .int (nI n0)])), (ha0n, .inl (cy 0, 16, .inl (va_cpy h0 h0 pf.toNatClampNeg po.toNatClampNeg pn.toNatClampNeg))), (ha1, .inr (5, [.ref ha1n, .int b1, .int (nI n1)])), (ha1n, .inl (cy 0, 16, .inl h1)), (ha2, .inr (5, [.ref ha2n, .int b2, .int (nI n2)])), (ha2n, .inl (cy 0, 16, .inl h2)), (ha3, .inr (5, [.ref ha3n, .int b3, .int (nI n3)])), (ha3n, .inl (cy 0, 16, .inl h3))] H := hP9
                    replace hD : va_D A [(ta, .inr (7, [.ref a_flow, .ref a_draft, .ref a_fence, .ref a_past, .ref a_slots, .ref a_slotKinds, .ref ha, .ref a_speedX, .ref a_speedY, .ref a_leftward, .ref a_change, .ref a_table, .int fi])), (ha, .inl (cy 4, 4, .inr (.inr (.inr (.inr (yk_refs [ha0, ha1, ha2, ha3])))))), (ha0, .inr (5, [.ref ha0n, .int b0, .int (nI n0)])), (ha0n, .inl (cy 0, 16, .inl (va_cpy h0 h0 pf.toNatClampNeg po.toNatClampNeg pn.toNatClampNeg))), (ha1, .inr (5, [.ref ha1n, .int b1, .int (nI n1)])), (ha1n, .inl (cy 0, 16, .inl h1)), (ha2, .inr (5, [.ref ha2n, .int b2, .int (nI n2)])), (ha2n, .inl (cy 0, 16, .inl h2)), (ha3, .inr (5, [.ref ha3n, .int b3, .int (nI n3)])), (ha3n, .inl (cy 0, 16, .inl h3))] := hD9
                    replace hS := hS9
                    clear hP9 hD9 hS9
                    refine lv_iload hx hb dX7_copy_129 (lv_at hl 7 rfl) ?_
                    have hF : f_X7_copy h0 b0 n0 h1 b1 n1 h2 b2 n2 h3 b3 n3 fi px pf py po pn = ((nI pn.toNatClampNeg), fi, (va_cpy h0 h0 pf.toNatClampNeg po.toNatClampNeg pn.toNatClampNeg), h1, h2, h3) := hF
                    have hf0 := yk_fst hF
                    have hg0 := yk_snd hF
                    have hf1 := yk_fst hg0
                    have hg1 := yk_snd hg0
                    have hf2 := yk_fst hg1
                    have hg2 := yk_snd hg1
                    have hf3 := yk_fst hg2
                    have hg3 := yk_snd hg2
                    have hf4 := yk_fst hg3
                    have hg4 := yk_snd hg3
                    rw [hf0, hf1, hf2, hf3, hf4, hg4] at hQ
                    exact hQ _ _ _ _ dX7_copy_131 hP hS
                  · replace hF := hF.trans (if_pos hc11)
                    refine lv_aload_n hx hb dX7_copy_104 rfl (lv_at hl 2 rfl) ?_
                    refine lv_ldc (v := (-1000001)) hx hb hown (hts _ kX7_copy_0) dX7_copy_105 ?_
                    refine yk_i [0] (va_runV (As := [.int (-1000001)]) (rest := []) ⟨hx, hb, hml, hown, hts⟩ (c_X7_finding l D cy ta a_flow a_draft a_fence a_past a_slots a_slotKinds ha a_speedX a_speedY a_leftward a_change a_table fi (-1000001) H.size) (cwV 1 hts gX7_copy_X7_finding rfl rfl rfl hv_X7_finding (yk_room hRf hRl rfl rfl)) (yk_pv (q := (RX7, TX7, 13)) hG hA hS hK hP hD [0] (by decide +kernel) rfl rfl rfl) rfl rfl hl.1 rfl (lv_room (Nat.le_of_ble_eq_true rfl)) dX7_copy_107 ⟨Nat.zero_le _, Nat.zero_le _⟩) hP hD hS hA rfl (Eq.trans (b := [ta]) rfl rfl) (fun H locs hP9 hD9 hS9 => ?_)
                    replace hP : va_P D vwCl [(ta, .inr (7, [.ref a_flow, .ref a_draft, .ref a_fence, .ref a_past, .ref a_slots, .ref a_slotKinds, .ref ha, .ref a_speedX, .ref a_speedY, .ref a_leftward, .ref a_change, .ref a_table, .int ((f_X7_finding fi (-1000001)).2)])), (ha, .inl (cy 4, 4, .inr (.inr (.inr (.inr (yk_refs [ha0, ha1, ha2, ha3])))))), (ha0, .inr (5, [.ref ha0n, .int b0, .int (nI n0)])), (ha0n, .inl (cy 0, 16, .inl h0)), (ha1, .inr (5, [.ref ha1n, .int b1, .int (nI n1)])), (ha1n, .inl (cy 0, 16, .inl h1)), (ha2, .inr (5, [.ref ha2n, .int b2, .int (nI n2)])), (ha2n, .inl (cy 0, 16, .inl h2)), (ha3, .inr (5, [.ref ha3n, .int b3, .int (nI n3)])), (ha3n, .inl (cy 0, 16, .inl h3))] H := hP9
                    replace hD : va_D A [(ta, .inr (7, [.ref a_flow, .ref a_draft, .ref a_fence, .ref a_past, .ref a_slots, .ref a_slotKinds, .ref ha, .ref a_speedX, .ref a_speedY, .ref a_leftward, .ref a_change, .ref a_table, .int ((f_X7_finding fi (-1000001)).2)])), (ha, .inl (cy 4, 4, .inr (.inr (.inr (.inr (yk_refs [ha0, ha1, ha2, ha3])))))), (ha0, .inr (5, [.ref ha0n, .int b0, .int (nI n0)])), (ha0n, .inl (cy 0, 16, .inl h0)), (ha1, .inr (5, [.ref ha1n, .int b1, .int (nI n1)])), (ha1n, .inl (cy 0, 16, .inl h1)), (ha2, .inr (5, [.ref ha2n, .int b2, .int (nI n2)])), (ha2n, .inl (cy 0, 16, .inl h2)), (ha3, .inr (5, [.ref ha3n, .int b3, .int (nI n3)])), (ha3n, .inl (cy 0, 16, .inl h3))] := hD9
                    replace hS := hS9
                    clear hP9 hD9 hS9
                    have hF : f_X7_copy h0 b0 n0 h1 b1 n1 h2 b2 n2 h3 b3 n3 fi px pf py po pn = (((f_X7_finding fi (-1000001)).1), ((f_X7_finding fi (-1000001)).2), h0, h1, h2, h3) := hF
                    have hf0 := yk_fst hF
                    have hg0 := yk_snd hF
                    have hf1 := yk_fst hg0
                    have hg1 := yk_snd hg0
                    have hf2 := yk_fst hg1
                    have hg2 := yk_snd hg1
                    have hf3 := yk_fst hg2
                    have hg3 := yk_snd hg2
                    have hf4 := yk_fst hg3
                    have hg4 := yk_snd hg3
                    rw [hf0, hf1, hf2, hf3, hf4, hg4] at hQ
                    exact hQ _ _ _ _ dX7_copy_110 hP hS
              · replace hF := hF.trans (if_neg hc9)
                refine lv_aload_n hx hb dX7_copy_74 rfl (lv_at hl 2 rfl) ?_
                refine lv_ldc (v := (-1000004)) hx hb hown (hts _ kX7_copy_9) dX7_copy_75 ?_
                refine yk_i [0] (va_runV (As := [.int (-1000004)]) (rest := []) ⟨hx, hb, hml, hown, hts⟩ (c_X7_finding l D cy ta a_flow a_draft a_fence a_past a_slots a_slotKinds ha a_speedX a_speedY a_leftward a_change a_table fi (-1000004) H.size) (cwV 1 hts gX7_copy_X7_finding rfl rfl rfl hv_X7_finding (yk_room hRf hRl rfl rfl)) (yk_pv (q := (RX7, TX7, 13)) hG hA hS hK hP hD [0] (by decide +kernel) rfl rfl rfl) rfl rfl hl.1 rfl (lv_room (Nat.le_of_ble_eq_true rfl)) dX7_copy_77 ⟨Nat.zero_le _, Nat.zero_le _⟩) hP hD hS hA rfl (Eq.trans (b := [ta]) rfl rfl) (fun H locs hP9 hD9 hS9 => ?_)
                replace hP : va_P D vwCl [(ta, .inr (7, [.ref a_flow, .ref a_draft, .ref a_fence, .ref a_past, .ref a_slots, .ref a_slotKinds, .ref ha, .ref a_speedX, .ref a_speedY, .ref a_leftward, .ref a_change, .ref a_table, .int ((f_X7_finding fi (-1000004)).2)])), (ha, .inl (cy 4, 4, .inr (.inr (.inr (.inr (yk_refs [ha0, ha1, ha2, ha3])))))), (ha0, .inr (5, [.ref ha0n, .int b0, .int (nI n0)])), (ha0n, .inl (cy 0, 16, .inl h0)), (ha1, .inr (5, [.ref ha1n, .int b1, .int (nI n1)])), (ha1n, .inl (cy 0, 16, .inl h1)), (ha2, .inr (5, [.ref ha2n, .int b2, .int (nI n2)])), (ha2n, .inl (cy 0, 16, .inl h2)), (ha3, .inr (5, [.ref ha3n, .int b3, .int (nI n3)])), (ha3n, .inl (cy 0, 16, .inl h3))] H := hP9
                replace hD : va_D A [(ta, .inr (7, [.ref a_flow, .ref a_draft, .ref a_fence, .ref a_past, .ref a_slots, .ref a_slotKinds, .ref ha, .ref a_speedX, .ref a_speedY, .ref a_leftward, .ref a_change, .ref a_table, .int ((f_X7_finding fi (-1000004)).2)])), (ha, .inl (cy 4, 4, .inr (.inr (.inr (.inr (yk_refs [ha0, ha1, ha2, ha3])))))), (ha0, .inr (5, [.ref ha0n, .int b0, .int (nI n0)])), (ha0n, .inl (cy 0, 16, .inl h0)), (ha1, .inr (5, [.ref ha1n, .int b1, .int (nI n1)])), (ha1n, .inl (cy 0, 16, .inl h1)), (ha2, .inr (5, [.ref ha2n, .int b2, .int (nI n2)])), (ha2n, .inl (cy 0, 16, .inl h2)), (ha3, .inr (5, [.ref ha3n, .int b3, .int (nI n3)])), (ha3n, .inl (cy 0, 16, .inl h3))] := hD9
                replace hS := hS9
                clear hP9 hD9 hS9
                have hF : f_X7_copy h0 b0 n0 h1 b1 n1 h2 b2 n2 h3 b3 n3 fi px pf py po pn = (((f_X7_finding fi (-1000004)).1), ((f_X7_finding fi (-1000004)).2), h0, h1, h2, h3) := hF
                have hf0 := yk_fst hF
                have hg0 := yk_snd hF
                have hf1 := yk_fst hg0
                have hg1 := yk_snd hg0
                have hf2 := yk_fst hg1
                have hg2 := yk_snd hg1
                have hf3 := yk_fst hg2
                have hg3 := yk_snd hg2
                have hf4 := yk_fst hg3
                have hg4 := yk_snd hg3
                rw [hf0, hf1, hf2, hf3, hf4, hg4] at hQ
                exact hQ _ _ _ _ dX7_copy_80 hP hS
            · replace hF := hF.trans (if_neg hc8)
              refine lv_aload_n hx hb dX7_copy_53 rfl (lv_at hl 2 rfl) ?_
              refine lv_ldcw (v := (-1000002)) hx hb hown (hts _ kX7_copy_2) dX7_copy_54 ?_
              refine yk_i [0] (va_runV (As := [.int (-1000002)]) (rest := []) ⟨hx, hb, hml, hown, hts⟩ (c_X7_finding l D cy ta a_flow a_draft a_fence a_past a_slots a_slotKinds ha a_speedX a_speedY a_leftward a_change a_table fi (-1000002) H.size) (cwV 1 hts gX7_copy_X7_finding rfl rfl rfl hv_X7_finding (yk_room hRf hRl rfl rfl)) (yk_pv (q := (RX7, TX7, 13)) hG hA hS hK hP hD [0] (by decide +kernel) rfl rfl rfl) rfl rfl hl.1 rfl (lv_room (Nat.le_of_ble_eq_true rfl)) dX7_copy_57 ⟨Nat.zero_le _, Nat.zero_le _⟩) hP hD hS hA rfl (Eq.trans (b := [ta]) rfl rfl) (fun H locs hP9 hD9 hS9 => ?_)
              replace hP : va_P D vwCl [(ta, .inr (7, [.ref a_flow, .ref a_draft, .ref a_fence, .ref a_past, .ref a_slots, .ref a_slotKinds, .ref ha, .ref a_speedX, .ref a_speedY, .ref a_leftward, .ref a_change, .ref a_table, .int ((f_X7_finding fi (-1000002)).2)])), (ha, .inl (cy 4, 4, .inr (.inr (.inr (.inr (yk_refs [ha0, ha1, ha2, ha3])))))), (ha0, .inr (5, [.ref ha0n, .int b0, .int (nI n0)])), (ha0n, .inl (cy 0, 16, .inl h0)), (ha1, .inr (5, [.ref ha1n, .int b1, .int (nI n1)])), (ha1n, .inl (cy 0, 16, .inl h1)), (ha2, .inr (5, [.ref ha2n, .int b2, .int (nI n2)])), (ha2n, .inl (cy 0, 16, .inl h2)), (ha3, .inr (5, [.ref ha3n, .int b3, .int (nI n3)])), (ha3n, .inl (cy 0, 16, .inl h3))] H := hP9
              replace hD : va_D A [(ta, .inr (7, [.ref a_flow, .ref a_draft, .ref a_fence, .ref a_past, .ref a_slots, .ref a_slotKinds, .ref ha, .ref a_speedX, .ref a_speedY, .ref a_leftward, .ref a_change, .ref a_table, .int ((f_X7_finding fi (-1000002)).2)])), (ha, .inl (cy 4, 4, .inr (.inr (.inr (.inr (yk_refs [ha0, ha1, ha2, ha3])))))), (ha0, .inr (5, [.ref ha0n, .int b0, .int (nI n0)])), (ha0n, .inl (cy 0, 16, .inl h0)), (ha1, .inr (5, [.ref ha1n, .int b1, .int (nI n1)])), (ha1n, .inl (cy 0, 16, .inl h1)), (ha2, .inr (5, [.ref ha2n, .int b2, .int (nI n2)])), (ha2n, .inl (cy 0, 16, .inl h2)), (ha3, .inr (5, [.ref ha3n, .int b3, .int (nI n3)])), (ha3n, .inl (cy 0, 16, .inl h3))] := hD9
              replace hS := hS9
              clear hP9 hD9 hS9
              have hF : f_X7_copy h0 b0 n0 h1 b1 n1 h2 b2 n2 h3 b3 n3 fi px pf py po pn = (((f_X7_finding fi (-1000002)).1), ((f_X7_finding fi (-1000002)).2), h0, h1, h2, h3) := hF
              have hf0 := yk_fst hF
              have hg0 := yk_snd hF
              have hf1 := yk_fst hg0
              have hg1 := yk_snd hg0
              have hf2 := yk_fst hg1
              have hg2 := yk_snd hg1
              have hf3 := yk_fst hg2
              have hg3 := yk_snd hg2
              have hf4 := yk_fst hg3
              have hg4 := yk_snd hg3
              rw [hf0, hf1, hf2, hf3, hf4, hg4] at hQ
              exact hQ _ _ _ _ dX7_copy_60 hP hS
        · replace hF := hF.trans (if_neg hc6)
          by_cases hc15 : py.toNatClampNeg = 1
          · replace hF := hF.trans (if_pos hc15)
            refine yk_ti (y := nI 1) (congrArg nI hc15) ?_
            refine yk_aldq hx hb hK hP 1 4 rfl rfl 1 (by decide) (by decide) rfl dX7_copy_34 ?_
            refine lv_astore (lv' := [(7, .ref ha1), (6, .ref ha0), (0, .ref ta), (1, .int (nI px.toNatClampNeg)), (2, .int pf), (3, .int (nI py.toNatClampNeg)), (4, .int po), (5, .int pn)]) hx hb dX7_copy_35 hl (by decide) rfl (fun ls hl9 => ?_)
            replace hl := hl9
            clear hl9
            refine lv_aload hx hb dX7_copy_37 (lv_at hl 1 rfl) ?_
            refine yk_i [2, 3] (va_runV (As := []) (rest := []) ⟨hx, hb, hml, hown, hts⟩ (c_X5_isMissing l D cy ha0 ha0n h0 b0 n0 H.size) (cwV 0 hts gX7_copy_X5_isMissing rfl rfl rfl hv_X5_isMissing (yk_room hRf hRl rfl rfl)) (yk_pv (q := (RX5, TX5, 3)) hG hA hS hK hP hD [2, 3] (by decide +kernel) rfl rfl rfl) rfl rfl hl.1 rfl (lv_room (Nat.le_of_ble_eq_true rfl)) dX7_copy_39 ⟨Nat.zero_le _, Nat.zero_le _⟩) hP hD hS hA rfl (Eq.trans (b := [ha0, ha0n]) rfl rfl) (fun H locs hP9 hD9 hS9 => ?_)
            replace hP : va_P D vwCl [(ta, .inr (7, [.ref a_flow, .ref a_draft, .ref a_fence, .ref a_past, .ref a_slots, .ref a_slotKinds, .ref ha, .ref a_speedX, .ref a_speedY, .ref a_leftward, .ref a_change, .ref a_table, .int fi])), (ha, .inl (cy 4, 4, .inr (.inr (.inr (.inr (yk_refs [ha0, ha1, ha2, ha3])))))), (ha0, .inr (5, [.ref ha0n, .int b0, .int (nI n0)])), (ha0n, .inl (cy 0, 16, .inl h0)), (ha1, .inr (5, [.ref ha1n, .int b1, .int (nI n1)])), (ha1n, .inl (cy 0, 16, .inl h1)), (ha2, .inr (5, [.ref ha2n, .int b2, .int (nI n2)])), (ha2n, .inl (cy 0, 16, .inl h2)), (ha3, .inr (5, [.ref ha3n, .int b3, .int (nI n3)])), (ha3n, .inl (cy 0, 16, .inl h3))] H := hP9
            replace hD : va_D A [(ta, .inr (7, [.ref a_flow, .ref a_draft, .ref a_fence, .ref a_past, .ref a_slots, .ref a_slotKinds, .ref ha, .ref a_speedX, .ref a_speedY, .ref a_leftward, .ref a_change, .ref a_table, .int fi])), (ha, .inl (cy 4, 4, .inr (.inr (.inr (.inr (yk_refs [ha0, ha1, ha2, ha3])))))), (ha0, .inr (5, [.ref ha0n, .int b0, .int (nI n0)])), (ha0n, .inl (cy 0, 16, .inl h0)), (ha1, .inr (5, [.ref ha1n, .int b1, .int (nI n1)])), (ha1n, .inl (cy 0, 16, .inl h1)), (ha2, .inr (5, [.ref ha2n, .int b2, .int (nI n2)])), (ha2n, .inl (cy 0, 16, .inl h2)), (ha3, .inr (5, [.ref ha3n, .int b3, .int (nI n3)])), (ha3n, .inl (cy 0, 16, .inl h3))] := hD9
            replace hS := hS9
            clear hP9 hD9 hS9
            refine lv_if_ne (tgt := 53) hx hb dX7_copy_42 (by decide) (fun hc16 => ?_) (fun hc16 => ?_)
            · replace hF := hF.trans (if_neg hc16)
              refine lv_aload_n hx hb dX7_copy_53 rfl (lv_at hl 2 rfl) ?_
              refine lv_ldcw (v := (-1000002)) hx hb hown (hts _ kX7_copy_2) dX7_copy_54 ?_
              refine yk_i [0] (va_runV (As := [.int (-1000002)]) (rest := []) ⟨hx, hb, hml, hown, hts⟩ (c_X7_finding l D cy ta a_flow a_draft a_fence a_past a_slots a_slotKinds ha a_speedX a_speedY a_leftward a_change a_table fi (-1000002) H.size) (cwV 1 hts gX7_copy_X7_finding rfl rfl rfl hv_X7_finding (yk_room hRf hRl rfl rfl)) (yk_pv (q := (RX7, TX7, 13)) hG hA hS hK hP hD [0] (by decide +kernel) rfl rfl rfl) rfl rfl hl.1 rfl (lv_room (Nat.le_of_ble_eq_true rfl)) dX7_copy_57 ⟨Nat.zero_le _, Nat.zero_le _⟩) hP hD hS hA rfl (Eq.trans (b := [ta]) rfl rfl) (fun H locs hP9 hD9 hS9 => ?_)
              replace hP : va_P D vwCl [(ta, .inr (7, [.ref a_flow, .ref a_draft, .ref a_fence, .ref a_past, .ref a_slots, .ref a_slotKinds, .ref ha, .ref a_speedX, .ref a_speedY, .ref a_leftward, .ref a_change, .ref a_table, .int ((f_X7_finding fi (-1000002)).2)])), (ha, .inl (cy 4, 4, .inr (.inr (.inr (.inr (yk_refs [ha0, ha1, ha2, ha3])))))), (ha0, .inr (5, [.ref ha0n, .int b0, .int (nI n0)])), (ha0n, .inl (cy 0, 16, .inl h0)), (ha1, .inr (5, [.ref ha1n, .int b1, .int (nI n1)])), (ha1n, .inl (cy 0, 16, .inl h1)), (ha2, .inr (5, [.ref ha2n, .int b2, .int (nI n2)])), (ha2n, .inl (cy 0, 16, .inl h2)), (ha3, .inr (5, [.ref ha3n, .int b3, .int (nI n3)])), (ha3n, .inl (cy 0, 16, .inl h3))] H := hP9
              replace hD : va_D A [(ta, .inr (7, [.ref a_flow, .ref a_draft, .ref a_fence, .ref a_past, .ref a_slots, .ref a_slotKinds, .ref ha, .ref a_speedX, .ref a_speedY, .ref a_leftward, .ref a_change, .ref a_table, .int ((f_X7_finding fi (-1000002)).2)])), (ha, .inl (cy 4, 4, .inr (.inr (.inr (.inr (yk_refs [ha0, ha1, ha2, ha3])))))), (ha0, .inr (5, [.ref ha0n, .int b0, .int (nI n0)])), (ha0n, .inl (cy 0, 16, .inl h0)), (ha1, .inr (5, [.ref ha1n, .int b1, .int (nI n1)])), (ha1n, .inl (cy 0, 16, .inl h1)), (ha2, .inr (5, [.ref ha2n, .int b2, .int (nI n2)])), (ha2n, .inl (cy 0, 16, .inl h2)), (ha3, .inr (5, [.ref ha3n, .int b3, .int (nI n3)])), (ha3n, .inl (cy 0, 16, .inl h3))] := hD9
              replace hS := hS9
              clear hP9 hD9 hS9
              have hF : f_X7_copy h0 b0 n0 h1 b1 n1 h2 b2 n2 h3 b3 n3 fi px pf py po pn = (((f_X7_finding fi (-1000002)).1), ((f_X7_finding fi (-1000002)).2), h0, h1, h2, h3) := hF
              have hf0 := yk_fst hF
              have hg0 := yk_snd hF
              have hf1 := yk_fst hg0
              have hg1 := yk_snd hg0
              have hf2 := yk_fst hg1
              have hg2 := yk_snd hg1
              have hf3 := yk_fst hg2
              have hg3 := yk_snd hg2
              have hf4 := yk_fst hg3
              have hg4 := yk_snd hg3
              rw [hf0, hf1, hf2, hf3, hf4, hg4] at hQ
              exact hQ _ _ _ _ dX7_copy_60 hP hS
            · replace hF := hF.trans (if_pos hc16)
              refine lv_aload hx hb dX7_copy_45 (lv_at hl 0 rfl) ?_
              refine yk_i [4, 5] (va_runV (As := []) (rest := []) ⟨hx, hb, hml, hown, hts⟩ (c_X5_isMissing l D cy ha1 ha1n h1 b1 n1 H.size) (cwV 0 hts gX7_copy_X5_isMissing rfl rfl rfl hv_X5_isMissing (yk_room hRf hRl rfl rfl)) (yk_pv (q := (RX5, TX5, 3)) hG hA hS hK hP hD [4, 5] (by decide +kernel) rfl rfl rfl) rfl rfl hl.1 rfl (lv_room (Nat.le_of_ble_eq_true rfl)) dX7_copy_47 ⟨Nat.zero_le _, Nat.zero_le _⟩) hP hD hS hA rfl (Eq.trans (b := [ha1, ha1n]) rfl rfl) (fun H locs hP9 hD9 hS9 => ?_)
              replace hP : va_P D vwCl [(ta, .inr (7, [.ref a_flow, .ref a_draft, .ref a_fence, .ref a_past, .ref a_slots, .ref a_slotKinds, .ref ha, .ref a_speedX, .ref a_speedY, .ref a_leftward, .ref a_change, .ref a_table, .int fi])), (ha, .inl (cy 4, 4, .inr (.inr (.inr (.inr (yk_refs [ha0, ha1, ha2, ha3])))))), (ha0, .inr (5, [.ref ha0n, .int b0, .int (nI n0)])), (ha0n, .inl (cy 0, 16, .inl h0)), (ha1, .inr (5, [.ref ha1n, .int b1, .int (nI n1)])), (ha1n, .inl (cy 0, 16, .inl h1)), (ha2, .inr (5, [.ref ha2n, .int b2, .int (nI n2)])), (ha2n, .inl (cy 0, 16, .inl h2)), (ha3, .inr (5, [.ref ha3n, .int b3, .int (nI n3)])), (ha3n, .inl (cy 0, 16, .inl h3))] H := hP9
              replace hD : va_D A [(ta, .inr (7, [.ref a_flow, .ref a_draft, .ref a_fence, .ref a_past, .ref a_slots, .ref a_slotKinds, .ref ha, .ref a_speedX, .ref a_speedY, .ref a_leftward, .ref a_change, .ref a_table, .int fi])), (ha, .inl (cy 4, 4, .inr (.inr (.inr (.inr (yk_refs [ha0, ha1, ha2, ha3])))))), (ha0, .inr (5, [.ref ha0n, .int b0, .int (nI n0)])), (ha0n, .inl (cy 0, 16, .inl h0)), (ha1, .inr (5, [.ref ha1n, .int b1, .int (nI n1)])), (ha1n, .inl (cy 0, 16, .inl h1)), (ha2, .inr (5, [.ref ha2n, .int b2, .int (nI n2)])), (ha2n, .inl (cy 0, 16, .inl h2)), (ha3, .inr (5, [.ref ha3n, .int b3, .int (nI n3)])), (ha3n, .inl (cy 0, 16, .inl h3))] := hD9
              replace hS := hS9
              clear hP9 hD9 hS9
              refine lv_if_eq (tgt := 61) hx hb dX7_copy_50 (by decide) (fun hc17 => ?_) (fun hc17 => ?_)
              · replace hF := hF.trans (if_pos hc17)
                refine lv_aload hx hb dX7_copy_61 (lv_at hl 1 rfl) ?_
                refine va_get (D := D) (ci := 5) (v := .int b0) (C := RX5) (T := TX5) (N := 3) hx hb hts uX7_copy_X5 hown hK hP 2 rfl rfl 1 (by decide) (hts _ kX7_copy_3) (fun _ h9 => h9) rfl dX7_copy_63 ?_
                refine lv_aload hx hb dX7_copy_66 (lv_at hl 0 rfl) ?_
                refine va_get (D := D) (ci := 5) (v := .int b1) (C := RX5) (T := TX5) (N := 3) hx hb hts uX7_copy_X5 hown hK hP 4 rfl rfl 1 (by decide) (hts _ kX7_copy_3) (fun _ h9 => h9) rfl dX7_copy_68 ?_
                refine lv_icmp_eq (tgt := 81) hx hb dX7_copy_71 (by decide) (fun hc18 => ?_) (fun hc18 => ?_)
                · replace hF := hF.trans (if_pos hc18)
                  refine lv_aload hx hb dX7_copy_81 (lv_at hl 1 rfl) ?_
                  refine lv_iload_n hx hb dX7_copy_83 rfl (lv_at hl 4 rfl) ?_
                  refine lv_iload hx hb dX7_copy_84 (lv_at hl 7 rfl) ?_
                  refine yk_i [2, 3] (va_runV (As := [.int pf, .int pn]) (rest := []) ⟨hx, hb, hml, hown, hts⟩ (c_X5_hasRange l D cy ha0 ha0n h0 b0 n0 pf pn hn0 H.size) (cwV 2 hts gX7_copy_X5_hasRange rfl rfl rfl hv_X5_hasRange (yk_room hRf hRl rfl rfl)) (yk_pv (q := (RX5, TX5, 3)) hG hA hS hK hP hD [2, 3] (by decide +kernel) rfl rfl rfl) rfl rfl hl.1 rfl (lv_room (Nat.le_of_ble_eq_true rfl)) dX7_copy_86 ⟨Nat.zero_le _, Nat.zero_le _⟩) hP hD hS hA rfl (Eq.trans (b := [ha0, ha0n]) rfl rfl) (fun H locs hP9 hD9 hS9 => ?_)
                  replace hP : va_P D vwCl [(ta, .inr (7, [.ref a_flow, .ref a_draft, .ref a_fence, .ref a_past, .ref a_slots, .ref a_slotKinds, .ref ha, .ref a_speedX, .ref a_speedY, .ref a_leftward, .ref a_change, .ref a_table, .int fi])), (ha, .inl (cy 4, 4, .inr (.inr (.inr (.inr (yk_refs [ha0, ha1, ha2, ha3])))))), (ha0, .inr (5, [.ref ha0n, .int b0, .int (nI n0)])), (ha0n, .inl (cy 0, 16, .inl h0)), (ha1, .inr (5, [.ref ha1n, .int b1, .int (nI n1)])), (ha1n, .inl (cy 0, 16, .inl h1)), (ha2, .inr (5, [.ref ha2n, .int b2, .int (nI n2)])), (ha2n, .inl (cy 0, 16, .inl h2)), (ha3, .inr (5, [.ref ha3n, .int b3, .int (nI n3)])), (ha3n, .inl (cy 0, 16, .inl h3))] H := hP9
                  replace hD : va_D A [(ta, .inr (7, [.ref a_flow, .ref a_draft, .ref a_fence, .ref a_past, .ref a_slots, .ref a_slotKinds, .ref ha, .ref a_speedX, .ref a_speedY, .ref a_leftward, .ref a_change, .ref a_table, .int fi])), (ha, .inl (cy 4, 4, .inr (.inr (.inr (.inr (yk_refs [ha0, ha1, ha2, ha3])))))), (ha0, .inr (5, [.ref ha0n, .int b0, .int (nI n0)])), (ha0n, .inl (cy 0, 16, .inl h0)), (ha1, .inr (5, [.ref ha1n, .int b1, .int (nI n1)])), (ha1n, .inl (cy 0, 16, .inl h1)), (ha2, .inr (5, [.ref ha2n, .int b2, .int (nI n2)])), (ha2n, .inl (cy 0, 16, .inl h2)), (ha3, .inr (5, [.ref ha3n, .int b3, .int (nI n3)])), (ha3n, .inl (cy 0, 16, .inl h3))] := hD9
                  replace hS := hS9
                  clear hP9 hD9 hS9
                  refine lv_if_eq (tgt := 104) hx hb dX7_copy_89 (by decide) (fun hc19 => ?_) (fun hc19 => ?_)
                  · replace hF := hF.trans (if_pos hc19)
                    refine lv_aload_n hx hb dX7_copy_104 rfl (lv_at hl 2 rfl) ?_
                    refine lv_ldc (v := (-1000001)) hx hb hown (hts _ kX7_copy_0) dX7_copy_105 ?_
                    refine yk_i [0] (va_runV (As := [.int (-1000001)]) (rest := []) ⟨hx, hb, hml, hown, hts⟩ (c_X7_finding l D cy ta a_flow a_draft a_fence a_past a_slots a_slotKinds ha a_speedX a_speedY a_leftward a_change a_table fi (-1000001) H.size) (cwV 1 hts gX7_copy_X7_finding rfl rfl rfl hv_X7_finding (yk_room hRf hRl rfl rfl)) (yk_pv (q := (RX7, TX7, 13)) hG hA hS hK hP hD [0] (by decide +kernel) rfl rfl rfl) rfl rfl hl.1 rfl (lv_room (Nat.le_of_ble_eq_true rfl)) dX7_copy_107 ⟨Nat.zero_le _, Nat.zero_le _⟩) hP hD hS hA rfl (Eq.trans (b := [ta]) rfl rfl) (fun H locs hP9 hD9 hS9 => ?_)
                    replace hP : va_P D vwCl [(ta, .inr (7, [.ref a_flow, .ref a_draft, .ref a_fence, .ref a_past, .ref a_slots, .ref a_slotKinds, .ref ha, .ref a_speedX, .ref a_speedY, .ref a_leftward, .ref a_change, .ref a_table, .int ((f_X7_finding fi (-1000001)).2)])), (ha, .inl (cy 4, 4, .inr (.inr (.inr (.inr (yk_refs [ha0, ha1, ha2, ha3])))))), (ha0, .inr (5, [.ref ha0n, .int b0, .int (nI n0)])), (ha0n, .inl (cy 0, 16, .inl h0)), (ha1, .inr (5, [.ref ha1n, .int b1, .int (nI n1)])), (ha1n, .inl (cy 0, 16, .inl h1)), (ha2, .inr (5, [.ref ha2n, .int b2, .int (nI n2)])), (ha2n, .inl (cy 0, 16, .inl h2)), (ha3, .inr (5, [.ref ha3n, .int b3, .int (nI n3)])), (ha3n, .inl (cy 0, 16, .inl h3))] H := hP9
                    replace hD : va_D A [(ta, .inr (7, [.ref a_flow, .ref a_draft, .ref a_fence, .ref a_past, .ref a_slots, .ref a_slotKinds, .ref ha, .ref a_speedX, .ref a_speedY, .ref a_leftward, .ref a_change, .ref a_table, .int ((f_X7_finding fi (-1000001)).2)])), (ha, .inl (cy 4, 4, .inr (.inr (.inr (.inr (yk_refs [ha0, ha1, ha2, ha3])))))), (ha0, .inr (5, [.ref ha0n, .int b0, .int (nI n0)])), (ha0n, .inl (cy 0, 16, .inl h0)), (ha1, .inr (5, [.ref ha1n, .int b1, .int (nI n1)])), (ha1n, .inl (cy 0, 16, .inl h1)), (ha2, .inr (5, [.ref ha2n, .int b2, .int (nI n2)])), (ha2n, .inl (cy 0, 16, .inl h2)), (ha3, .inr (5, [.ref ha3n, .int b3, .int (nI n3)])), (ha3n, .inl (cy 0, 16, .inl h3))] := hD9
                    replace hS := hS9
                    clear hP9 hD9 hS9
                    have hF : f_X7_copy h0 b0 n0 h1 b1 n1 h2 b2 n2 h3 b3 n3 fi px pf py po pn = (((f_X7_finding fi (-1000001)).1), ((f_X7_finding fi (-1000001)).2), h0, h1, h2, h3) := hF
                    have hf0 := yk_fst hF
                    have hg0 := yk_snd hF
                    have hf1 := yk_fst hg0
                    have hg1 := yk_snd hg0
                    have hf2 := yk_fst hg1
                    have hg2 := yk_snd hg1
                    have hf3 := yk_fst hg2
                    have hg3 := yk_snd hg2
                    have hf4 := yk_fst hg3
                    have hg4 := yk_snd hg3
                    rw [hf0, hf1, hf2, hf3, hf4, hg4] at hQ
                    exact hQ _ _ _ _ dX7_copy_110 hP hS
                  · replace hF := hF.trans (if_neg hc19)
                    refine lv_aload hx hb dX7_copy_92 (lv_at hl 0 rfl) ?_
                    refine lv_iload hx hb dX7_copy_94 (lv_at hl 6 rfl) ?_
                    refine lv_iload hx hb dX7_copy_96 (lv_at hl 7 rfl) ?_
                    refine yk_i [4, 5] (va_runV (As := [.int po, .int pn]) (rest := []) ⟨hx, hb, hml, hown, hts⟩ (c_X5_hasRange l D cy ha1 ha1n h1 b1 n1 po pn hn1 H.size) (cwV 2 hts gX7_copy_X5_hasRange rfl rfl rfl hv_X5_hasRange (yk_room hRf hRl rfl rfl)) (yk_pv (q := (RX5, TX5, 3)) hG hA hS hK hP hD [4, 5] (by decide +kernel) rfl rfl rfl) rfl rfl hl.1 rfl (lv_room (Nat.le_of_ble_eq_true rfl)) dX7_copy_98 ⟨Nat.zero_le _, Nat.zero_le _⟩) hP hD hS hA rfl (Eq.trans (b := [ha1, ha1n]) rfl rfl) (fun H locs hP9 hD9 hS9 => ?_)
                    replace hP : va_P D vwCl [(ta, .inr (7, [.ref a_flow, .ref a_draft, .ref a_fence, .ref a_past, .ref a_slots, .ref a_slotKinds, .ref ha, .ref a_speedX, .ref a_speedY, .ref a_leftward, .ref a_change, .ref a_table, .int fi])), (ha, .inl (cy 4, 4, .inr (.inr (.inr (.inr (yk_refs [ha0, ha1, ha2, ha3])))))), (ha0, .inr (5, [.ref ha0n, .int b0, .int (nI n0)])), (ha0n, .inl (cy 0, 16, .inl h0)), (ha1, .inr (5, [.ref ha1n, .int b1, .int (nI n1)])), (ha1n, .inl (cy 0, 16, .inl h1)), (ha2, .inr (5, [.ref ha2n, .int b2, .int (nI n2)])), (ha2n, .inl (cy 0, 16, .inl h2)), (ha3, .inr (5, [.ref ha3n, .int b3, .int (nI n3)])), (ha3n, .inl (cy 0, 16, .inl h3))] H := hP9
                    replace hD : va_D A [(ta, .inr (7, [.ref a_flow, .ref a_draft, .ref a_fence, .ref a_past, .ref a_slots, .ref a_slotKinds, .ref ha, .ref a_speedX, .ref a_speedY, .ref a_leftward, .ref a_change, .ref a_table, .int fi])), (ha, .inl (cy 4, 4, .inr (.inr (.inr (.inr (yk_refs [ha0, ha1, ha2, ha3])))))), (ha0, .inr (5, [.ref ha0n, .int b0, .int (nI n0)])), (ha0n, .inl (cy 0, 16, .inl h0)), (ha1, .inr (5, [.ref ha1n, .int b1, .int (nI n1)])), (ha1n, .inl (cy 0, 16, .inl h1)), (ha2, .inr (5, [.ref ha2n, .int b2, .int (nI n2)])), (ha2n, .inl (cy 0, 16, .inl h2)), (ha3, .inr (5, [.ref ha3n, .int b3, .int (nI n3)])), (ha3n, .inl (cy 0, 16, .inl h3))] := hD9
                    replace hS := hS9
                    clear hP9 hD9 hS9
                    refine lv_if_ne (tgt := 111) hx hb dX7_copy_101 (by decide) (fun hc20 => ?_) (fun hc20 => ?_)
                    · replace hF := hF.trans (if_neg hc20)
                      have hq8 := hr_ok (n := n0) (x := pf) (y := pn) (by omega) (by assumption)
                      have hq9 := hr_ok (n := n1) (x := po) (y := pn) (by omega) (by assumption)
                      have hq21 : pf = nI pf.toNatClampNeg := hq8.1.1
                      have hq21b : pf.toNatClampNeg < 17 := hq8.1.2
                      rw [hq21] at hl
                      have hq22 : po = nI po.toNatClampNeg := hq9.1.1
                      have hq22b : po.toNatClampNeg < 17 := hq9.1.2
                      rw [hq22] at hl
                      have hq23 : pn = nI pn.toNatClampNeg := hq8.2.1.1
                      have hq23b : pn.toNatClampNeg < 17 := hq8.2.1.2
                      rw [hq23] at hl
                      refine lv_aload hx hb dX7_copy_111 (lv_at hl 1 rfl) ?_
                      refine va_get (D := D) (ci := 5) (v := .ref ha0n) (C := RX5) (T := TX5) (N := 3) hx hb hts uX7_copy_X5 hown hK hP 2 rfl rfl 0 (by decide) (hts _ kX7_copy_4) (fun _ h9 => h9) rfl dX7_copy_113 ?_
                      refine lv_iload_n hx hb dX7_copy_116 rfl (lv_at hl 4 rfl) ?_
                      refine lv_aload hx hb dX7_copy_117 (lv_at hl 0 rfl) ?_
                      refine va_get (D := D) (ci := 5) (v := .ref ha1n) (C := RX5) (T := TX5) (N := 3) hx hb hts uX7_copy_X5 hown hK hP 4 rfl rfl 0 (by decide) (hts _ kX7_copy_4) (fun _ h9 => h9) rfl dX7_copy_119 ?_
                      refine lv_iload hx hb dX7_copy_122 (lv_at hl 6 rfl) ?_
                      refine lv_iload hx hb dX7_copy_124 (lv_at hl 7 rfl) ?_
                      refine yk_cpy (sp := pf.toNatClampNeg) (dp := po.toNatClampNeg) (n := pn.toNatClampNeg) hx hb (hml.trans hl.1.symm) hown (hts _ kX7_copy_5) (hts _ kX7_copy_6) (hts _ kX7_copy_7) (hts _ kX7_copy_8) hK hP hD hS 3 5 rfl rfl rfl rfl (⟨by omega, by omega⟩) (by omega) (by omega) (by rw [hRf]; exact Nat.le_of_ble_eq_true rfl) (by rw [hRl]; exact Nat.le_of_ble_eq_true rfl) dX7_copy_126 (fun H locs hP9 hD9 hS9 => ?_)
                      replace hP : va_P D vwCl [(ta, .inr (7, [.ref a_flow, .ref a_draft, .ref a_fence, .ref a_past, .ref a_slots, .ref a_slotKinds, .ref ha, .ref a_speedX, .ref a_speedY, .ref a_leftward, .ref a_change, .ref a_table, .int fi])), (ha, .inl (cy 4, 4, .inr (.inr (.inr (.inr (yk_refs [ha0, ha1, ha2, ha3])))))), (ha0, .inr (5, [.ref ha0n, .int b0, .int (nI n0)])), (ha0n, .inl (cy 0, 16, .inl h0)), (ha1, .inr (5, [.ref ha1n, .int b1, .int (nI n1)])), (ha1n, .inl (cy 0, 16, .inl (va_cpy h0 h1 pf.toNatClampNeg po.toNatClampNeg pn.toNatClampNeg))), (ha2, .inr (5, [.ref ha2n, .int b2, .int (nI n2)])), (ha2n, .inl (cy 0, 16, .inl h2)), (ha3, .inr (5, [.ref ha3n, .int b3, .int (nI n3)])), (ha3n, .inl (cy 0, 16, .inl h3))] H := hP9
                      replace hD : va_D A [(ta, .inr (7, [.ref a_flow, .ref a_draft, .ref a_fence, .ref a_past, .ref a_slots, .ref a_slotKinds, .ref ha, .ref a_speedX, .ref a_speedY, .ref a_leftward, .ref a_change, .ref a_table, .int fi])), (ha, .inl (cy 4, 4, .inr (.inr (.inr (.inr (yk_refs [ha0, ha1, ha2, ha3])))))), (ha0, .inr (5, [.ref ha0n, .int b0, .int (nI n0)])), (ha0n, .inl (cy 0, 16, .inl h0)), (ha1, .inr (5, [.ref ha1n, .int b1, .int (nI n1)])), (ha1n, .inl (cy 0, 16, .inl (va_cpy h0 h1 pf.toNatClampNeg po.toNatClampNeg pn.toNatClampNeg))), (ha2, .inr (5, [.ref ha2n, .int b2, .int (nI n2)])), (ha2n, .inl (cy 0, 16, .inl h2)), (ha3, .inr (5, [.ref ha3n, .int b3, .int (nI n3)])), (ha3n, .inl (cy 0, 16, .inl h3))] := hD9
                      replace hS := hS9
                      clear hP9 hD9 hS9
                      refine lv_iload hx hb dX7_copy_129 (lv_at hl 7 rfl) ?_
                      have hF : f_X7_copy h0 b0 n0 h1 b1 n1 h2 b2 n2 h3 b3 n3 fi px pf py po pn = ((nI pn.toNatClampNeg), fi, h0, (va_cpy h0 h1 pf.toNatClampNeg po.toNatClampNeg pn.toNatClampNeg), h2, h3) := hF
                      have hf0 := yk_fst hF
                      have hg0 := yk_snd hF
                      have hf1 := yk_fst hg0
                      have hg1 := yk_snd hg0
                      have hf2 := yk_fst hg1
                      have hg2 := yk_snd hg1
                      have hf3 := yk_fst hg2
                      have hg3 := yk_snd hg2
                      have hf4 := yk_fst hg3
                      have hg4 := yk_snd hg3
                      rw [hf0, hf1, hf2, hf3, hf4, hg4] at hQ
                      exact hQ _ _ _ _ dX7_copy_131 hP hS
                    · replace hF := hF.trans (if_pos hc20)
                      refine lv_aload_n hx hb dX7_copy_104 rfl (lv_at hl 2 rfl) ?_
                      refine lv_ldc (v := (-1000001)) hx hb hown (hts _ kX7_copy_0) dX7_copy_105 ?_
                      refine yk_i [0] (va_runV (As := [.int (-1000001)]) (rest := []) ⟨hx, hb, hml, hown, hts⟩ (c_X7_finding l D cy ta a_flow a_draft a_fence a_past a_slots a_slotKinds ha a_speedX a_speedY a_leftward a_change a_table fi (-1000001) H.size) (cwV 1 hts gX7_copy_X7_finding rfl rfl rfl hv_X7_finding (yk_room hRf hRl rfl rfl)) (yk_pv (q := (RX7, TX7, 13)) hG hA hS hK hP hD [0] (by decide +kernel) rfl rfl rfl) rfl rfl hl.1 rfl (lv_room (Nat.le_of_ble_eq_true rfl)) dX7_copy_107 ⟨Nat.zero_le _, Nat.zero_le _⟩) hP hD hS hA rfl (Eq.trans (b := [ta]) rfl rfl) (fun H locs hP9 hD9 hS9 => ?_)
                      replace hP : va_P D vwCl [(ta, .inr (7, [.ref a_flow, .ref a_draft, .ref a_fence, .ref a_past, .ref a_slots, .ref a_slotKinds, .ref ha, .ref a_speedX, .ref a_speedY, .ref a_leftward, .ref a_change, .ref a_table, .int ((f_X7_finding fi (-1000001)).2)])), (ha, .inl (cy 4, 4, .inr (.inr (.inr (.inr (yk_refs [ha0, ha1, ha2, ha3])))))), (ha0, .inr (5, [.ref ha0n, .int b0, .int (nI n0)])), (ha0n, .inl (cy 0, 16, .inl h0)), (ha1, .inr (5, [.ref ha1n, .int b1, .int (nI n1)])), (ha1n, .inl (cy 0, 16, .inl h1)), (ha2, .inr (5, [.ref ha2n, .int b2, .int (nI n2)])), (ha2n, .inl (cy 0, 16, .inl h2)), (ha3, .inr (5, [.ref ha3n, .int b3, .int (nI n3)])), (ha3n, .inl (cy 0, 16, .inl h3))] H := hP9
                      replace hD : va_D A [(ta, .inr (7, [.ref a_flow, .ref a_draft, .ref a_fence, .ref a_past, .ref a_slots, .ref a_slotKinds, .ref ha, .ref a_speedX, .ref a_speedY, .ref a_leftward, .ref a_change, .ref a_table, .int ((f_X7_finding fi (-1000001)).2)])), (ha, .inl (cy 4, 4, .inr (.inr (.inr (.inr (yk_refs [ha0, ha1, ha2, ha3])))))), (ha0, .inr (5, [.ref ha0n, .int b0, .int (nI n0)])), (ha0n, .inl (cy 0, 16, .inl h0)), (ha1, .inr (5, [.ref ha1n, .int b1, .int (nI n1)])), (ha1n, .inl (cy 0, 16, .inl h1)), (ha2, .inr (5, [.ref ha2n, .int b2, .int (nI n2)])), (ha2n, .inl (cy 0, 16, .inl h2)), (ha3, .inr (5, [.ref ha3n, .int b3, .int (nI n3)])), (ha3n, .inl (cy 0, 16, .inl h3))] := hD9
                      replace hS := hS9
                      clear hP9 hD9 hS9
                      have hF : f_X7_copy h0 b0 n0 h1 b1 n1 h2 b2 n2 h3 b3 n3 fi px pf py po pn = (((f_X7_finding fi (-1000001)).1), ((f_X7_finding fi (-1000001)).2), h0, h1, h2, h3) := hF
                      have hf0 := yk_fst hF
                      have hg0 := yk_snd hF
                      have hf1 := yk_fst hg0
                      have hg1 := yk_snd hg0
                      have hf2 := yk_fst hg1
                      have hg2 := yk_snd hg1
                      have hf3 := yk_fst hg2
                      have hg3 := yk_snd hg2
                      have hf4 := yk_fst hg3
                      have hg4 := yk_snd hg3
                      rw [hf0, hf1, hf2, hf3, hf4, hg4] at hQ
                      exact hQ _ _ _ _ dX7_copy_110 hP hS
                · replace hF := hF.trans (if_neg hc18)
                  refine lv_aload_n hx hb dX7_copy_74 rfl (lv_at hl 2 rfl) ?_
                  refine lv_ldc (v := (-1000004)) hx hb hown (hts _ kX7_copy_9) dX7_copy_75 ?_
                  refine yk_i [0] (va_runV (As := [.int (-1000004)]) (rest := []) ⟨hx, hb, hml, hown, hts⟩ (c_X7_finding l D cy ta a_flow a_draft a_fence a_past a_slots a_slotKinds ha a_speedX a_speedY a_leftward a_change a_table fi (-1000004) H.size) (cwV 1 hts gX7_copy_X7_finding rfl rfl rfl hv_X7_finding (yk_room hRf hRl rfl rfl)) (yk_pv (q := (RX7, TX7, 13)) hG hA hS hK hP hD [0] (by decide +kernel) rfl rfl rfl) rfl rfl hl.1 rfl (lv_room (Nat.le_of_ble_eq_true rfl)) dX7_copy_77 ⟨Nat.zero_le _, Nat.zero_le _⟩) hP hD hS hA rfl (Eq.trans (b := [ta]) rfl rfl) (fun H locs hP9 hD9 hS9 => ?_)
                  replace hP : va_P D vwCl [(ta, .inr (7, [.ref a_flow, .ref a_draft, .ref a_fence, .ref a_past, .ref a_slots, .ref a_slotKinds, .ref ha, .ref a_speedX, .ref a_speedY, .ref a_leftward, .ref a_change, .ref a_table, .int ((f_X7_finding fi (-1000004)).2)])), (ha, .inl (cy 4, 4, .inr (.inr (.inr (.inr (yk_refs [ha0, ha1, ha2, ha3])))))), (ha0, .inr (5, [.ref ha0n, .int b0, .int (nI n0)])), (ha0n, .inl (cy 0, 16, .inl h0)), (ha1, .inr (5, [.ref ha1n, .int b1, .int (nI n1)])), (ha1n, .inl (cy 0, 16, .inl h1)), (ha2, .inr (5, [.ref ha2n, .int b2, .int (nI n2)])), (ha2n, .inl (cy 0, 16, .inl h2)), (ha3, .inr (5, [.ref ha3n, .int b3, .int (nI n3)])), (ha3n, .inl (cy 0, 16, .inl h3))] H := hP9
                  replace hD : va_D A [(ta, .inr (7, [.ref a_flow, .ref a_draft, .ref a_fence, .ref a_past, .ref a_slots, .ref a_slotKinds, .ref ha, .ref a_speedX, .ref a_speedY, .ref a_leftward, .ref a_change, .ref a_table, .int ((f_X7_finding fi (-1000004)).2)])), (ha, .inl (cy 4, 4, .inr (.inr (.inr (.inr (yk_refs [ha0, ha1, ha2, ha3])))))), (ha0, .inr (5, [.ref ha0n, .int b0, .int (nI n0)])), (ha0n, .inl (cy 0, 16, .inl h0)), (ha1, .inr (5, [.ref ha1n, .int b1, .int (nI n1)])), (ha1n, .inl (cy 0, 16, .inl h1)), (ha2, .inr (5, [.ref ha2n, .int b2, .int (nI n2)])), (ha2n, .inl (cy 0, 16, .inl h2)), (ha3, .inr (5, [.ref ha3n, .int b3, .int (nI n3)])), (ha3n, .inl (cy 0, 16, .inl h3))] := hD9
                  replace hS := hS9
                  clear hP9 hD9 hS9
                  have hF : f_X7_copy h0 b0 n0 h1 b1 n1 h2 b2 n2 h3 b3 n3 fi px pf py po pn = (((f_X7_finding fi (-1000004)).1), ((f_X7_finding fi (-1000004)).2), h0, h1, h2, h3) := hF
                  have hf0 := yk_fst hF
                  have hg0 := yk_snd hF
                  have hf1 := yk_fst hg0
                  have hg1 := yk_snd hg0
                  have hf2 := yk_fst hg1
                  have hg2 := yk_snd hg1
                  have hf3 := yk_fst hg2
                  have hg3 := yk_snd hg2
                  have hf4 := yk_fst hg3
                  have hg4 := yk_snd hg3
                  rw [hf0, hf1, hf2, hf3, hf4, hg4] at hQ
                  exact hQ _ _ _ _ dX7_copy_80 hP hS
              · replace hF := hF.trans (if_neg hc17)
                refine lv_aload_n hx hb dX7_copy_53 rfl (lv_at hl 2 rfl) ?_
                refine lv_ldcw (v := (-1000002)) hx hb hown (hts _ kX7_copy_2) dX7_copy_54 ?_
                refine yk_i [0] (va_runV (As := [.int (-1000002)]) (rest := []) ⟨hx, hb, hml, hown, hts⟩ (c_X7_finding l D cy ta a_flow a_draft a_fence a_past a_slots a_slotKinds ha a_speedX a_speedY a_leftward a_change a_table fi (-1000002) H.size) (cwV 1 hts gX7_copy_X7_finding rfl rfl rfl hv_X7_finding (yk_room hRf hRl rfl rfl)) (yk_pv (q := (RX7, TX7, 13)) hG hA hS hK hP hD [0] (by decide +kernel) rfl rfl rfl) rfl rfl hl.1 rfl (lv_room (Nat.le_of_ble_eq_true rfl)) dX7_copy_57 ⟨Nat.zero_le _, Nat.zero_le _⟩) hP hD hS hA rfl (Eq.trans (b := [ta]) rfl rfl) (fun H locs hP9 hD9 hS9 => ?_)
                replace hP : va_P D vwCl [(ta, .inr (7, [.ref a_flow, .ref a_draft, .ref a_fence, .ref a_past, .ref a_slots, .ref a_slotKinds, .ref ha, .ref a_speedX, .ref a_speedY, .ref a_leftward, .ref a_change, .ref a_table, .int ((f_X7_finding fi (-1000002)).2)])), (ha, .inl (cy 4, 4, .inr (.inr (.inr (.inr (yk_refs [ha0, ha1, ha2, ha3])))))), (ha0, .inr (5, [.ref ha0n, .int b0, .int (nI n0)])), (ha0n, .inl (cy 0, 16, .inl h0)), (ha1, .inr (5, [.ref ha1n, .int b1, .int (nI n1)])), (ha1n, .inl (cy 0, 16, .inl h1)), (ha2, .inr (5, [.ref ha2n, .int b2, .int (nI n2)])), (ha2n, .inl (cy 0, 16, .inl h2)), (ha3, .inr (5, [.ref ha3n, .int b3, .int (nI n3)])), (ha3n, .inl (cy 0, 16, .inl h3))] H := hP9
                replace hD : va_D A [(ta, .inr (7, [.ref a_flow, .ref a_draft, .ref a_fence, .ref a_past, .ref a_slots, .ref a_slotKinds, .ref ha, .ref a_speedX, .ref a_speedY, .ref a_leftward, .ref a_change, .ref a_table, .int ((f_X7_finding fi (-1000002)).2)])), (ha, .inl (cy 4, 4, .inr (.inr (.inr (.inr (yk_refs [ha0, ha1, ha2, ha3])))))), (ha0, .inr (5, [.ref ha0n, .int b0, .int (nI n0)])), (ha0n, .inl (cy 0, 16, .inl h0)), (ha1, .inr (5, [.ref ha1n, .int b1, .int (nI n1)])), (ha1n, .inl (cy 0, 16, .inl h1)), (ha2, .inr (5, [.ref ha2n, .int b2, .int (nI n2)])), (ha2n, .inl (cy 0, 16, .inl h2)), (ha3, .inr (5, [.ref ha3n, .int b3, .int (nI n3)])), (ha3n, .inl (cy 0, 16, .inl h3))] := hD9
                replace hS := hS9
                clear hP9 hD9 hS9
                have hF : f_X7_copy h0 b0 n0 h1 b1 n1 h2 b2 n2 h3 b3 n3 fi px pf py po pn = (((f_X7_finding fi (-1000002)).1), ((f_X7_finding fi (-1000002)).2), h0, h1, h2, h3) := hF
                have hf0 := yk_fst hF
                have hg0 := yk_snd hF
                have hf1 := yk_fst hg0
                have hg1 := yk_snd hg0
                have hf2 := yk_fst hg1
                have hg2 := yk_snd hg1
                have hf3 := yk_fst hg2
                have hg3 := yk_snd hg2
                have hf4 := yk_fst hg3
                have hg4 := yk_snd hg3
                rw [hf0, hf1, hf2, hf3, hf4, hg4] at hQ
                exact hQ _ _ _ _ dX7_copy_60 hP hS
          · replace hF := hF.trans (if_neg hc15)
            by_cases hc24 : py.toNatClampNeg = 2
            · replace hF := hF.trans (if_pos hc24)
              refine yk_ti (y := nI 2) (congrArg nI hc24) ?_
              refine yk_aldq hx hb hK hP 1 4 rfl rfl 2 (by decide) (by decide) rfl dX7_copy_34 ?_
              refine lv_astore (lv' := [(7, .ref ha2), (6, .ref ha0), (0, .ref ta), (1, .int (nI px.toNatClampNeg)), (2, .int pf), (3, .int (nI py.toNatClampNeg)), (4, .int po), (5, .int pn)]) hx hb dX7_copy_35 hl (by decide) rfl (fun ls hl9 => ?_)
              replace hl := hl9
              clear hl9
              refine lv_aload hx hb dX7_copy_37 (lv_at hl 1 rfl) ?_
              refine yk_i [2, 3] (va_runV (As := []) (rest := []) ⟨hx, hb, hml, hown, hts⟩ (c_X5_isMissing l D cy ha0 ha0n h0 b0 n0 H.size) (cwV 0 hts gX7_copy_X5_isMissing rfl rfl rfl hv_X5_isMissing (yk_room hRf hRl rfl rfl)) (yk_pv (q := (RX5, TX5, 3)) hG hA hS hK hP hD [2, 3] (by decide +kernel) rfl rfl rfl) rfl rfl hl.1 rfl (lv_room (Nat.le_of_ble_eq_true rfl)) dX7_copy_39 ⟨Nat.zero_le _, Nat.zero_le _⟩) hP hD hS hA rfl (Eq.trans (b := [ha0, ha0n]) rfl rfl) (fun H locs hP9 hD9 hS9 => ?_)
              replace hP : va_P D vwCl [(ta, .inr (7, [.ref a_flow, .ref a_draft, .ref a_fence, .ref a_past, .ref a_slots, .ref a_slotKinds, .ref ha, .ref a_speedX, .ref a_speedY, .ref a_leftward, .ref a_change, .ref a_table, .int fi])), (ha, .inl (cy 4, 4, .inr (.inr (.inr (.inr (yk_refs [ha0, ha1, ha2, ha3])))))), (ha0, .inr (5, [.ref ha0n, .int b0, .int (nI n0)])), (ha0n, .inl (cy 0, 16, .inl h0)), (ha1, .inr (5, [.ref ha1n, .int b1, .int (nI n1)])), (ha1n, .inl (cy 0, 16, .inl h1)), (ha2, .inr (5, [.ref ha2n, .int b2, .int (nI n2)])), (ha2n, .inl (cy 0, 16, .inl h2)), (ha3, .inr (5, [.ref ha3n, .int b3, .int (nI n3)])), (ha3n, .inl (cy 0, 16, .inl h3))] H := hP9
              replace hD : va_D A [(ta, .inr (7, [.ref a_flow, .ref a_draft, .ref a_fence, .ref a_past, .ref a_slots, .ref a_slotKinds, .ref ha, .ref a_speedX, .ref a_speedY, .ref a_leftward, .ref a_change, .ref a_table, .int fi])), (ha, .inl (cy 4, 4, .inr (.inr (.inr (.inr (yk_refs [ha0, ha1, ha2, ha3])))))), (ha0, .inr (5, [.ref ha0n, .int b0, .int (nI n0)])), (ha0n, .inl (cy 0, 16, .inl h0)), (ha1, .inr (5, [.ref ha1n, .int b1, .int (nI n1)])), (ha1n, .inl (cy 0, 16, .inl h1)), (ha2, .inr (5, [.ref ha2n, .int b2, .int (nI n2)])), (ha2n, .inl (cy 0, 16, .inl h2)), (ha3, .inr (5, [.ref ha3n, .int b3, .int (nI n3)])), (ha3n, .inl (cy 0, 16, .inl h3))] := hD9
              replace hS := hS9
              clear hP9 hD9 hS9
              refine lv_if_ne (tgt := 53) hx hb dX7_copy_42 (by decide) (fun hc25 => ?_) (fun hc25 => ?_)
              · replace hF := hF.trans (if_neg hc25)
                refine lv_aload_n hx hb dX7_copy_53 rfl (lv_at hl 2 rfl) ?_
                refine lv_ldcw (v := (-1000002)) hx hb hown (hts _ kX7_copy_2) dX7_copy_54 ?_
                refine yk_i [0] (va_runV (As := [.int (-1000002)]) (rest := []) ⟨hx, hb, hml, hown, hts⟩ (c_X7_finding l D cy ta a_flow a_draft a_fence a_past a_slots a_slotKinds ha a_speedX a_speedY a_leftward a_change a_table fi (-1000002) H.size) (cwV 1 hts gX7_copy_X7_finding rfl rfl rfl hv_X7_finding (yk_room hRf hRl rfl rfl)) (yk_pv (q := (RX7, TX7, 13)) hG hA hS hK hP hD [0] (by decide +kernel) rfl rfl rfl) rfl rfl hl.1 rfl (lv_room (Nat.le_of_ble_eq_true rfl)) dX7_copy_57 ⟨Nat.zero_le _, Nat.zero_le _⟩) hP hD hS hA rfl (Eq.trans (b := [ta]) rfl rfl) (fun H locs hP9 hD9 hS9 => ?_)
                replace hP : va_P D vwCl [(ta, .inr (7, [.ref a_flow, .ref a_draft, .ref a_fence, .ref a_past, .ref a_slots, .ref a_slotKinds, .ref ha, .ref a_speedX, .ref a_speedY, .ref a_leftward, .ref a_change, .ref a_table, .int ((f_X7_finding fi (-1000002)).2)])), (ha, .inl (cy 4, 4, .inr (.inr (.inr (.inr (yk_refs [ha0, ha1, ha2, ha3])))))), (ha0, .inr (5, [.ref ha0n, .int b0, .int (nI n0)])), (ha0n, .inl (cy 0, 16, .inl h0)), (ha1, .inr (5, [.ref ha1n, .int b1, .int (nI n1)])), (ha1n, .inl (cy 0, 16, .inl h1)), (ha2, .inr (5, [.ref ha2n, .int b2, .int (nI n2)])), (ha2n, .inl (cy 0, 16, .inl h2)), (ha3, .inr (5, [.ref ha3n, .int b3, .int (nI n3)])), (ha3n, .inl (cy 0, 16, .inl h3))] H := hP9
                replace hD : va_D A [(ta, .inr (7, [.ref a_flow, .ref a_draft, .ref a_fence, .ref a_past, .ref a_slots, .ref a_slotKinds, .ref ha, .ref a_speedX, .ref a_speedY, .ref a_leftward, .ref a_change, .ref a_table, .int ((f_X7_finding fi (-1000002)).2)])), (ha, .inl (cy 4, 4, .inr (.inr (.inr (.inr (yk_refs [ha0, ha1, ha2, ha3])))))), (ha0, .inr (5, [.ref ha0n, .int b0, .int (nI n0)])), (ha0n, .inl (cy 0, 16, .inl h0)), (ha1, .inr (5, [.ref ha1n, .int b1, .int (nI n1)])), (ha1n, .inl (cy 0, 16, .inl h1)), (ha2, .inr (5, [.ref ha2n, .int b2, .int (nI n2)])), (ha2n, .inl (cy 0, 16, .inl h2)), (ha3, .inr (5, [.ref ha3n, .int b3, .int (nI n3)])), (ha3n, .inl (cy 0, 16, .inl h3))] := hD9
                replace hS := hS9
                clear hP9 hD9 hS9
                have hF : f_X7_copy h0 b0 n0 h1 b1 n1 h2 b2 n2 h3 b3 n3 fi px pf py po pn = (((f_X7_finding fi (-1000002)).1), ((f_X7_finding fi (-1000002)).2), h0, h1, h2, h3) := hF
                have hf0 := yk_fst hF
                have hg0 := yk_snd hF
                have hf1 := yk_fst hg0
                have hg1 := yk_snd hg0
                have hf2 := yk_fst hg1
                have hg2 := yk_snd hg1
                have hf3 := yk_fst hg2
                have hg3 := yk_snd hg2
                have hf4 := yk_fst hg3
                have hg4 := yk_snd hg3
                rw [hf0, hf1, hf2, hf3, hf4, hg4] at hQ
                exact hQ _ _ _ _ dX7_copy_60 hP hS
              · replace hF := hF.trans (if_pos hc25)
                refine lv_aload hx hb dX7_copy_45 (lv_at hl 0 rfl) ?_
                refine yk_i [6, 7] (va_runV (As := []) (rest := []) ⟨hx, hb, hml, hown, hts⟩ (c_X5_isMissing l D cy ha2 ha2n h2 b2 n2 H.size) (cwV 0 hts gX7_copy_X5_isMissing rfl rfl rfl hv_X5_isMissing (yk_room hRf hRl rfl rfl)) (yk_pv (q := (RX5, TX5, 3)) hG hA hS hK hP hD [6, 7] (by decide +kernel) rfl rfl rfl) rfl rfl hl.1 rfl (lv_room (Nat.le_of_ble_eq_true rfl)) dX7_copy_47 ⟨Nat.zero_le _, Nat.zero_le _⟩) hP hD hS hA rfl (Eq.trans (b := [ha2, ha2n]) rfl rfl) (fun H locs hP9 hD9 hS9 => ?_)
                replace hP : va_P D vwCl [(ta, .inr (7, [.ref a_flow, .ref a_draft, .ref a_fence, .ref a_past, .ref a_slots, .ref a_slotKinds, .ref ha, .ref a_speedX, .ref a_speedY, .ref a_leftward, .ref a_change, .ref a_table, .int fi])), (ha, .inl (cy 4, 4, .inr (.inr (.inr (.inr (yk_refs [ha0, ha1, ha2, ha3])))))), (ha0, .inr (5, [.ref ha0n, .int b0, .int (nI n0)])), (ha0n, .inl (cy 0, 16, .inl h0)), (ha1, .inr (5, [.ref ha1n, .int b1, .int (nI n1)])), (ha1n, .inl (cy 0, 16, .inl h1)), (ha2, .inr (5, [.ref ha2n, .int b2, .int (nI n2)])), (ha2n, .inl (cy 0, 16, .inl h2)), (ha3, .inr (5, [.ref ha3n, .int b3, .int (nI n3)])), (ha3n, .inl (cy 0, 16, .inl h3))] H := hP9
                replace hD : va_D A [(ta, .inr (7, [.ref a_flow, .ref a_draft, .ref a_fence, .ref a_past, .ref a_slots, .ref a_slotKinds, .ref ha, .ref a_speedX, .ref a_speedY, .ref a_leftward, .ref a_change, .ref a_table, .int fi])), (ha, .inl (cy 4, 4, .inr (.inr (.inr (.inr (yk_refs [ha0, ha1, ha2, ha3])))))), (ha0, .inr (5, [.ref ha0n, .int b0, .int (nI n0)])), (ha0n, .inl (cy 0, 16, .inl h0)), (ha1, .inr (5, [.ref ha1n, .int b1, .int (nI n1)])), (ha1n, .inl (cy 0, 16, .inl h1)), (ha2, .inr (5, [.ref ha2n, .int b2, .int (nI n2)])), (ha2n, .inl (cy 0, 16, .inl h2)), (ha3, .inr (5, [.ref ha3n, .int b3, .int (nI n3)])), (ha3n, .inl (cy 0, 16, .inl h3))] := hD9
                replace hS := hS9
                clear hP9 hD9 hS9
                refine lv_if_eq (tgt := 61) hx hb dX7_copy_50 (by decide) (fun hc26 => ?_) (fun hc26 => ?_)
                · replace hF := hF.trans (if_pos hc26)
                  refine lv_aload hx hb dX7_copy_61 (lv_at hl 1 rfl) ?_
                  refine va_get (D := D) (ci := 5) (v := .int b0) (C := RX5) (T := TX5) (N := 3) hx hb hts uX7_copy_X5 hown hK hP 2 rfl rfl 1 (by decide) (hts _ kX7_copy_3) (fun _ h9 => h9) rfl dX7_copy_63 ?_
                  refine lv_aload hx hb dX7_copy_66 (lv_at hl 0 rfl) ?_
                  refine va_get (D := D) (ci := 5) (v := .int b2) (C := RX5) (T := TX5) (N := 3) hx hb hts uX7_copy_X5 hown hK hP 6 rfl rfl 1 (by decide) (hts _ kX7_copy_3) (fun _ h9 => h9) rfl dX7_copy_68 ?_
                  refine lv_icmp_eq (tgt := 81) hx hb dX7_copy_71 (by decide) (fun hc27 => ?_) (fun hc27 => ?_)
                  · replace hF := hF.trans (if_pos hc27)
                    refine lv_aload hx hb dX7_copy_81 (lv_at hl 1 rfl) ?_
                    refine lv_iload_n hx hb dX7_copy_83 rfl (lv_at hl 4 rfl) ?_
                    refine lv_iload hx hb dX7_copy_84 (lv_at hl 7 rfl) ?_
                    refine yk_i [2, 3] (va_runV (As := [.int pf, .int pn]) (rest := []) ⟨hx, hb, hml, hown, hts⟩ (c_X5_hasRange l D cy ha0 ha0n h0 b0 n0 pf pn hn0 H.size) (cwV 2 hts gX7_copy_X5_hasRange rfl rfl rfl hv_X5_hasRange (yk_room hRf hRl rfl rfl)) (yk_pv (q := (RX5, TX5, 3)) hG hA hS hK hP hD [2, 3] (by decide +kernel) rfl rfl rfl) rfl rfl hl.1 rfl (lv_room (Nat.le_of_ble_eq_true rfl)) dX7_copy_86 ⟨Nat.zero_le _, Nat.zero_le _⟩) hP hD hS hA rfl (Eq.trans (b := [ha0, ha0n]) rfl rfl) (fun H locs hP9 hD9 hS9 => ?_)
                    replace hP : va_P D vwCl [(ta, .inr (7, [.ref a_flow, .ref a_draft, .ref a_fence, .ref a_past, .ref a_slots, .ref a_slotKinds, .ref ha, .ref a_speedX, .ref a_speedY, .ref a_leftward, .ref a_change, .ref a_table, .int fi])), (ha, .inl (cy 4, 4, .inr (.inr (.inr (.inr (yk_refs [ha0, ha1, ha2, ha3])))))), (ha0, .inr (5, [.ref ha0n, .int b0, .int (nI n0)])), (ha0n, .inl (cy 0, 16, .inl h0)), (ha1, .inr (5, [.ref ha1n, .int b1, .int (nI n1)])), (ha1n, .inl (cy 0, 16, .inl h1)), (ha2, .inr (5, [.ref ha2n, .int b2, .int (nI n2)])), (ha2n, .inl (cy 0, 16, .inl h2)), (ha3, .inr (5, [.ref ha3n, .int b3, .int (nI n3)])), (ha3n, .inl (cy 0, 16, .inl h3))] H := hP9
                    replace hD : va_D A [(ta, .inr (7, [.ref a_flow, .ref a_draft, .ref a_fence, .ref a_past, .ref a_slots, .ref a_slotKinds, .ref ha, .ref a_speedX, .ref a_speedY, .ref a_leftward, .ref a_change, .ref a_table, .int fi])), (ha, .inl (cy 4, 4, .inr (.inr (.inr (.inr (yk_refs [ha0, ha1, ha2, ha3])))))), (ha0, .inr (5, [.ref ha0n, .int b0, .int (nI n0)])), (ha0n, .inl (cy 0, 16, .inl h0)), (ha1, .inr (5, [.ref ha1n, .int b1, .int (nI n1)])), (ha1n, .inl (cy 0, 16, .inl h1)), (ha2, .inr (5, [.ref ha2n, .int b2, .int (nI n2)])), (ha2n, .inl (cy 0, 16, .inl h2)), (ha3, .inr (5, [.ref ha3n, .int b3, .int (nI n3)])), (ha3n, .inl (cy 0, 16, .inl h3))] := hD9
                    replace hS := hS9
                    clear hP9 hD9 hS9
                    refine lv_if_eq (tgt := 104) hx hb dX7_copy_89 (by decide) (fun hc28 => ?_) (fun hc28 => ?_)
                    · replace hF := hF.trans (if_pos hc28)
                      refine lv_aload_n hx hb dX7_copy_104 rfl (lv_at hl 2 rfl) ?_
                      refine lv_ldc (v := (-1000001)) hx hb hown (hts _ kX7_copy_0) dX7_copy_105 ?_
                      refine yk_i [0] (va_runV (As := [.int (-1000001)]) (rest := []) ⟨hx, hb, hml, hown, hts⟩ (c_X7_finding l D cy ta a_flow a_draft a_fence a_past a_slots a_slotKinds ha a_speedX a_speedY a_leftward a_change a_table fi (-1000001) H.size) (cwV 1 hts gX7_copy_X7_finding rfl rfl rfl hv_X7_finding (yk_room hRf hRl rfl rfl)) (yk_pv (q := (RX7, TX7, 13)) hG hA hS hK hP hD [0] (by decide +kernel) rfl rfl rfl) rfl rfl hl.1 rfl (lv_room (Nat.le_of_ble_eq_true rfl)) dX7_copy_107 ⟨Nat.zero_le _, Nat.zero_le _⟩) hP hD hS hA rfl (Eq.trans (b := [ta]) rfl rfl) (fun H locs hP9 hD9 hS9 => ?_)
                      replace hP : va_P D vwCl [(ta, .inr (7, [.ref a_flow, .ref a_draft, .ref a_fence, .ref a_past, .ref a_slots, .ref a_slotKinds, .ref ha, .ref a_speedX, .ref a_speedY, .ref a_leftward, .ref a_change, .ref a_table, .int ((f_X7_finding fi (-1000001)).2)])), (ha, .inl (cy 4, 4, .inr (.inr (.inr (.inr (yk_refs [ha0, ha1, ha2, ha3])))))), (ha0, .inr (5, [.ref ha0n, .int b0, .int (nI n0)])), (ha0n, .inl (cy 0, 16, .inl h0)), (ha1, .inr (5, [.ref ha1n, .int b1, .int (nI n1)])), (ha1n, .inl (cy 0, 16, .inl h1)), (ha2, .inr (5, [.ref ha2n, .int b2, .int (nI n2)])), (ha2n, .inl (cy 0, 16, .inl h2)), (ha3, .inr (5, [.ref ha3n, .int b3, .int (nI n3)])), (ha3n, .inl (cy 0, 16, .inl h3))] H := hP9
                      replace hD : va_D A [(ta, .inr (7, [.ref a_flow, .ref a_draft, .ref a_fence, .ref a_past, .ref a_slots, .ref a_slotKinds, .ref ha, .ref a_speedX, .ref a_speedY, .ref a_leftward, .ref a_change, .ref a_table, .int ((f_X7_finding fi (-1000001)).2)])), (ha, .inl (cy 4, 4, .inr (.inr (.inr (.inr (yk_refs [ha0, ha1, ha2, ha3])))))), (ha0, .inr (5, [.ref ha0n, .int b0, .int (nI n0)])), (ha0n, .inl (cy 0, 16, .inl h0)), (ha1, .inr (5, [.ref ha1n, .int b1, .int (nI n1)])), (ha1n, .inl (cy 0, 16, .inl h1)), (ha2, .inr (5, [.ref ha2n, .int b2, .int (nI n2)])), (ha2n, .inl (cy 0, 16, .inl h2)), (ha3, .inr (5, [.ref ha3n, .int b3, .int (nI n3)])), (ha3n, .inl (cy 0, 16, .inl h3))] := hD9
                      replace hS := hS9
                      clear hP9 hD9 hS9
                      have hF : f_X7_copy h0 b0 n0 h1 b1 n1 h2 b2 n2 h3 b3 n3 fi px pf py po pn = (((f_X7_finding fi (-1000001)).1), ((f_X7_finding fi (-1000001)).2), h0, h1, h2, h3) := hF
                      have hf0 := yk_fst hF
                      have hg0 := yk_snd hF
                      have hf1 := yk_fst hg0
                      have hg1 := yk_snd hg0
                      have hf2 := yk_fst hg1
                      have hg2 := yk_snd hg1
                      have hf3 := yk_fst hg2
                      have hg3 := yk_snd hg2
                      have hf4 := yk_fst hg3
                      have hg4 := yk_snd hg3
                      rw [hf0, hf1, hf2, hf3, hf4, hg4] at hQ
                      exact hQ _ _ _ _ dX7_copy_110 hP hS
                    · replace hF := hF.trans (if_neg hc28)
                      refine lv_aload hx hb dX7_copy_92 (lv_at hl 0 rfl) ?_
                      refine lv_iload hx hb dX7_copy_94 (lv_at hl 6 rfl) ?_
                      refine lv_iload hx hb dX7_copy_96 (lv_at hl 7 rfl) ?_
                      refine yk_i [6, 7] (va_runV (As := [.int po, .int pn]) (rest := []) ⟨hx, hb, hml, hown, hts⟩ (c_X5_hasRange l D cy ha2 ha2n h2 b2 n2 po pn hn2 H.size) (cwV 2 hts gX7_copy_X5_hasRange rfl rfl rfl hv_X5_hasRange (yk_room hRf hRl rfl rfl)) (yk_pv (q := (RX5, TX5, 3)) hG hA hS hK hP hD [6, 7] (by decide +kernel) rfl rfl rfl) rfl rfl hl.1 rfl (lv_room (Nat.le_of_ble_eq_true rfl)) dX7_copy_98 ⟨Nat.zero_le _, Nat.zero_le _⟩) hP hD hS hA rfl (Eq.trans (b := [ha2, ha2n]) rfl rfl) (fun H locs hP9 hD9 hS9 => ?_)
                      replace hP : va_P D vwCl [(ta, .inr (7, [.ref a_flow, .ref a_draft, .ref a_fence, .ref a_past, .ref a_slots, .ref a_slotKinds, .ref ha, .ref a_speedX, .ref a_speedY, .ref a_leftward, .ref a_change, .ref a_table, .int fi])), (ha, .inl (cy 4, 4, .inr (.inr (.inr (.inr (yk_refs [ha0, ha1, ha2, ha3])))))), (ha0, .inr (5, [.ref ha0n, .int b0, .int (nI n0)])), (ha0n, .inl (cy 0, 16, .inl h0)), (ha1, .inr (5, [.ref ha1n, .int b1, .int (nI n1)])), (ha1n, .inl (cy 0, 16, .inl h1)), (ha2, .inr (5, [.ref ha2n, .int b2, .int (nI n2)])), (ha2n, .inl (cy 0, 16, .inl h2)), (ha3, .inr (5, [.ref ha3n, .int b3, .int (nI n3)])), (ha3n, .inl (cy 0, 16, .inl h3))] H := hP9
                      replace hD : va_D A [(ta, .inr (7, [.ref a_flow, .ref a_draft, .ref a_fence, .ref a_past, .ref a_slots, .ref a_slotKinds, .ref ha, .ref a_speedX, .ref a_speedY, .ref a_leftward, .ref a_change, .ref a_table, .int fi])), (ha, .inl (cy 4, 4, .inr (.inr (.inr (.inr (yk_refs [ha0, ha1, ha2, ha3])))))), (ha0, .inr (5, [.ref ha0n, .int b0, .int (nI n0)])), (ha0n, .inl (cy 0, 16, .inl h0)), (ha1, .inr (5, [.ref ha1n, .int b1, .int (nI n1)])), (ha1n, .inl (cy 0, 16, .inl h1)), (ha2, .inr (5, [.ref ha2n, .int b2, .int (nI n2)])), (ha2n, .inl (cy 0, 16, .inl h2)), (ha3, .inr (5, [.ref ha3n, .int b3, .int (nI n3)])), (ha3n, .inl (cy 0, 16, .inl h3))] := hD9
                      replace hS := hS9
                      clear hP9 hD9 hS9
                      refine lv_if_ne (tgt := 111) hx hb dX7_copy_101 (by decide) (fun hc29 => ?_) (fun hc29 => ?_)
                      · replace hF := hF.trans (if_neg hc29)
                        have hq8 := hr_ok (n := n0) (x := pf) (y := pn) (by omega) (by assumption)
                        have hq9 := hr_ok (n := n2) (x := po) (y := pn) (by omega) (by assumption)
                        have hq30 : pf = nI pf.toNatClampNeg := hq8.1.1
                        have hq30b : pf.toNatClampNeg < 17 := hq8.1.2
                        rw [hq30] at hl
                        have hq31 : po = nI po.toNatClampNeg := hq9.1.1
                        have hq31b : po.toNatClampNeg < 17 := hq9.1.2
                        rw [hq31] at hl
                        have hq32 : pn = nI pn.toNatClampNeg := hq8.2.1.1
                        have hq32b : pn.toNatClampNeg < 17 := hq8.2.1.2
                        rw [hq32] at hl
                        refine lv_aload hx hb dX7_copy_111 (lv_at hl 1 rfl) ?_
                        refine va_get (D := D) (ci := 5) (v := .ref ha0n) (C := RX5) (T := TX5) (N := 3) hx hb hts uX7_copy_X5 hown hK hP 2 rfl rfl 0 (by decide) (hts _ kX7_copy_4) (fun _ h9 => h9) rfl dX7_copy_113 ?_
                        refine lv_iload_n hx hb dX7_copy_116 rfl (lv_at hl 4 rfl) ?_
                        refine lv_aload hx hb dX7_copy_117 (lv_at hl 0 rfl) ?_
                        refine va_get (D := D) (ci := 5) (v := .ref ha2n) (C := RX5) (T := TX5) (N := 3) hx hb hts uX7_copy_X5 hown hK hP 6 rfl rfl 0 (by decide) (hts _ kX7_copy_4) (fun _ h9 => h9) rfl dX7_copy_119 ?_
                        refine lv_iload hx hb dX7_copy_122 (lv_at hl 6 rfl) ?_
                        refine lv_iload hx hb dX7_copy_124 (lv_at hl 7 rfl) ?_
                        refine yk_cpy (sp := pf.toNatClampNeg) (dp := po.toNatClampNeg) (n := pn.toNatClampNeg) hx hb (hml.trans hl.1.symm) hown (hts _ kX7_copy_5) (hts _ kX7_copy_6) (hts _ kX7_copy_7) (hts _ kX7_copy_8) hK hP hD hS 3 7 rfl rfl rfl rfl (⟨by omega, by omega⟩) (by omega) (by omega) (by rw [hRf]; exact Nat.le_of_ble_eq_true rfl) (by rw [hRl]; exact Nat.le_of_ble_eq_true rfl) dX7_copy_126 (fun H locs hP9 hD9 hS9 => ?_)
                        replace hP : va_P D vwCl [(ta, .inr (7, [.ref a_flow, .ref a_draft, .ref a_fence, .ref a_past, .ref a_slots, .ref a_slotKinds, .ref ha, .ref a_speedX, .ref a_speedY, .ref a_leftward, .ref a_change, .ref a_table, .int fi])), (ha, .inl (cy 4, 4, .inr (.inr (.inr (.inr (yk_refs [ha0, ha1, ha2, ha3])))))), (ha0, .inr (5, [.ref ha0n, .int b0, .int (nI n0)])), (ha0n, .inl (cy 0, 16, .inl h0)), (ha1, .inr (5, [.ref ha1n, .int b1, .int (nI n1)])), (ha1n, .inl (cy 0, 16, .inl h1)), (ha2, .inr (5, [.ref ha2n, .int b2, .int (nI n2)])), (ha2n, .inl (cy 0, 16, .inl (va_cpy h0 h2 pf.toNatClampNeg po.toNatClampNeg pn.toNatClampNeg))), (ha3, .inr (5, [.ref ha3n, .int b3, .int (nI n3)])), (ha3n, .inl (cy 0, 16, .inl h3))] H := hP9
                        replace hD : va_D A [(ta, .inr (7, [.ref a_flow, .ref a_draft, .ref a_fence, .ref a_past, .ref a_slots, .ref a_slotKinds, .ref ha, .ref a_speedX, .ref a_speedY, .ref a_leftward, .ref a_change, .ref a_table, .int fi])), (ha, .inl (cy 4, 4, .inr (.inr (.inr (.inr (yk_refs [ha0, ha1, ha2, ha3])))))), (ha0, .inr (5, [.ref ha0n, .int b0, .int (nI n0)])), (ha0n, .inl (cy 0, 16, .inl h0)), (ha1, .inr (5, [.ref ha1n, .int b1, .int (nI n1)])), (ha1n, .inl (cy 0, 16, .inl h1)), (ha2, .inr (5, [.ref ha2n, .int b2, .int (nI n2)])), (ha2n, .inl (cy 0, 16, .inl (va_cpy h0 h2 pf.toNatClampNeg po.toNatClampNeg pn.toNatClampNeg))), (ha3, .inr (5, [.ref ha3n, .int b3, .int (nI n3)])), (ha3n, .inl (cy 0, 16, .inl h3))] := hD9
                        replace hS := hS9
                        clear hP9 hD9 hS9
                        refine lv_iload hx hb dX7_copy_129 (lv_at hl 7 rfl) ?_
                        have hF : f_X7_copy h0 b0 n0 h1 b1 n1 h2 b2 n2 h3 b3 n3 fi px pf py po pn = ((nI pn.toNatClampNeg), fi, h0, h1, (va_cpy h0 h2 pf.toNatClampNeg po.toNatClampNeg pn.toNatClampNeg), h3) := hF
                        have hf0 := yk_fst hF
                        have hg0 := yk_snd hF
                        have hf1 := yk_fst hg0
                        have hg1 := yk_snd hg0
                        have hf2 := yk_fst hg1
                        have hg2 := yk_snd hg1
                        have hf3 := yk_fst hg2
                        have hg3 := yk_snd hg2
                        have hf4 := yk_fst hg3
                        have hg4 := yk_snd hg3
                        rw [hf0, hf1, hf2, hf3, hf4, hg4] at hQ
                        exact hQ _ _ _ _ dX7_copy_131 hP hS
                      · replace hF := hF.trans (if_pos hc29)
                        refine lv_aload_n hx hb dX7_copy_104 rfl (lv_at hl 2 rfl) ?_
                        refine lv_ldc (v := (-1000001)) hx hb hown (hts _ kX7_copy_0) dX7_copy_105 ?_
                        refine yk_i [0] (va_runV (As := [.int (-1000001)]) (rest := []) ⟨hx, hb, hml, hown, hts⟩ (c_X7_finding l D cy ta a_flow a_draft a_fence a_past a_slots a_slotKinds ha a_speedX a_speedY a_leftward a_change a_table fi (-1000001) H.size) (cwV 1 hts gX7_copy_X7_finding rfl rfl rfl hv_X7_finding (yk_room hRf hRl rfl rfl)) (yk_pv (q := (RX7, TX7, 13)) hG hA hS hK hP hD [0] (by decide +kernel) rfl rfl rfl) rfl rfl hl.1 rfl (lv_room (Nat.le_of_ble_eq_true rfl)) dX7_copy_107 ⟨Nat.zero_le _, Nat.zero_le _⟩) hP hD hS hA rfl (Eq.trans (b := [ta]) rfl rfl) (fun H locs hP9 hD9 hS9 => ?_)
                        replace hP : va_P D vwCl [(ta, .inr (7, [.ref a_flow, .ref a_draft, .ref a_fence, .ref a_past, .ref a_slots, .ref a_slotKinds, .ref ha, .ref a_speedX, .ref a_speedY, .ref a_leftward, .ref a_change, .ref a_table, .int ((f_X7_finding fi (-1000001)).2)])), (ha, .inl (cy 4, 4, .inr (.inr (.inr (.inr (yk_refs [ha0, ha1, ha2, ha3])))))), (ha0, .inr (5, [.ref ha0n, .int b0, .int (nI n0)])), (ha0n, .inl (cy 0, 16, .inl h0)), (ha1, .inr (5, [.ref ha1n, .int b1, .int (nI n1)])), (ha1n, .inl (cy 0, 16, .inl h1)), (ha2, .inr (5, [.ref ha2n, .int b2, .int (nI n2)])), (ha2n, .inl (cy 0, 16, .inl h2)), (ha3, .inr (5, [.ref ha3n, .int b3, .int (nI n3)])), (ha3n, .inl (cy 0, 16, .inl h3))] H := hP9
                        replace hD : va_D A [(ta, .inr (7, [.ref a_flow, .ref a_draft, .ref a_fence, .ref a_past, .ref a_slots, .ref a_slotKinds, .ref ha, .ref a_speedX, .ref a_speedY, .ref a_leftward, .ref a_change, .ref a_table, .int ((f_X7_finding fi (-1000001)).2)])), (ha, .inl (cy 4, 4, .inr (.inr (.inr (.inr (yk_refs [ha0, ha1, ha2, ha3])))))), (ha0, .inr (5, [.ref ha0n, .int b0, .int (nI n0)])), (ha0n, .inl (cy 0, 16, .inl h0)), (ha1, .inr (5, [.ref ha1n, .int b1, .int (nI n1)])), (ha1n, .inl (cy 0, 16, .inl h1)), (ha2, .inr (5, [.ref ha2n, .int b2, .int (nI n2)])), (ha2n, .inl (cy 0, 16, .inl h2)), (ha3, .inr (5, [.ref ha3n, .int b3, .int (nI n3)])), (ha3n, .inl (cy 0, 16, .inl h3))] := hD9
                        replace hS := hS9
                        clear hP9 hD9 hS9
                        have hF : f_X7_copy h0 b0 n0 h1 b1 n1 h2 b2 n2 h3 b3 n3 fi px pf py po pn = (((f_X7_finding fi (-1000001)).1), ((f_X7_finding fi (-1000001)).2), h0, h1, h2, h3) := hF
                        have hf0 := yk_fst hF
                        have hg0 := yk_snd hF
                        have hf1 := yk_fst hg0
                        have hg1 := yk_snd hg0
                        have hf2 := yk_fst hg1
                        have hg2 := yk_snd hg1
                        have hf3 := yk_fst hg2
                        have hg3 := yk_snd hg2
                        have hf4 := yk_fst hg3
                        have hg4 := yk_snd hg3
                        rw [hf0, hf1, hf2, hf3, hf4, hg4] at hQ
                        exact hQ _ _ _ _ dX7_copy_110 hP hS
                  · replace hF := hF.trans (if_neg hc27)
                    refine lv_aload_n hx hb dX7_copy_74 rfl (lv_at hl 2 rfl) ?_
                    refine lv_ldc (v := (-1000004)) hx hb hown (hts _ kX7_copy_9) dX7_copy_75 ?_
                    refine yk_i [0] (va_runV (As := [.int (-1000004)]) (rest := []) ⟨hx, hb, hml, hown, hts⟩ (c_X7_finding l D cy ta a_flow a_draft a_fence a_past a_slots a_slotKinds ha a_speedX a_speedY a_leftward a_change a_table fi (-1000004) H.size) (cwV 1 hts gX7_copy_X7_finding rfl rfl rfl hv_X7_finding (yk_room hRf hRl rfl rfl)) (yk_pv (q := (RX7, TX7, 13)) hG hA hS hK hP hD [0] (by decide +kernel) rfl rfl rfl) rfl rfl hl.1 rfl (lv_room (Nat.le_of_ble_eq_true rfl)) dX7_copy_77 ⟨Nat.zero_le _, Nat.zero_le _⟩) hP hD hS hA rfl (Eq.trans (b := [ta]) rfl rfl) (fun H locs hP9 hD9 hS9 => ?_)
                    replace hP : va_P D vwCl [(ta, .inr (7, [.ref a_flow, .ref a_draft, .ref a_fence, .ref a_past, .ref a_slots, .ref a_slotKinds, .ref ha, .ref a_speedX, .ref a_speedY, .ref a_leftward, .ref a_change, .ref a_table, .int ((f_X7_finding fi (-1000004)).2)])), (ha, .inl (cy 4, 4, .inr (.inr (.inr (.inr (yk_refs [ha0, ha1, ha2, ha3])))))), (ha0, .inr (5, [.ref ha0n, .int b0, .int (nI n0)])), (ha0n, .inl (cy 0, 16, .inl h0)), (ha1, .inr (5, [.ref ha1n, .int b1, .int (nI n1)])), (ha1n, .inl (cy 0, 16, .inl h1)), (ha2, .inr (5, [.ref ha2n, .int b2, .int (nI n2)])), (ha2n, .inl (cy 0, 16, .inl h2)), (ha3, .inr (5, [.ref ha3n, .int b3, .int (nI n3)])), (ha3n, .inl (cy 0, 16, .inl h3))] H := hP9
                    replace hD : va_D A [(ta, .inr (7, [.ref a_flow, .ref a_draft, .ref a_fence, .ref a_past, .ref a_slots, .ref a_slotKinds, .ref ha, .ref a_speedX, .ref a_speedY, .ref a_leftward, .ref a_change, .ref a_table, .int ((f_X7_finding fi (-1000004)).2)])), (ha, .inl (cy 4, 4, .inr (.inr (.inr (.inr (yk_refs [ha0, ha1, ha2, ha3])))))), (ha0, .inr (5, [.ref ha0n, .int b0, .int (nI n0)])), (ha0n, .inl (cy 0, 16, .inl h0)), (ha1, .inr (5, [.ref ha1n, .int b1, .int (nI n1)])), (ha1n, .inl (cy 0, 16, .inl h1)), (ha2, .inr (5, [.ref ha2n, .int b2, .int (nI n2)])), (ha2n, .inl (cy 0, 16, .inl h2)), (ha3, .inr (5, [.ref ha3n, .int b3, .int (nI n3)])), (ha3n, .inl (cy 0, 16, .inl h3))] := hD9
                    replace hS := hS9
                    clear hP9 hD9 hS9
                    have hF : f_X7_copy h0 b0 n0 h1 b1 n1 h2 b2 n2 h3 b3 n3 fi px pf py po pn = (((f_X7_finding fi (-1000004)).1), ((f_X7_finding fi (-1000004)).2), h0, h1, h2, h3) := hF
                    have hf0 := yk_fst hF
                    have hg0 := yk_snd hF
                    have hf1 := yk_fst hg0
                    have hg1 := yk_snd hg0
                    have hf2 := yk_fst hg1
                    have hg2 := yk_snd hg1
                    have hf3 := yk_fst hg2
                    have hg3 := yk_snd hg2
                    have hf4 := yk_fst hg3
                    have hg4 := yk_snd hg3
                    rw [hf0, hf1, hf2, hf3, hf4, hg4] at hQ
                    exact hQ _ _ _ _ dX7_copy_80 hP hS
                · replace hF := hF.trans (if_neg hc26)
                  refine lv_aload_n hx hb dX7_copy_53 rfl (lv_at hl 2 rfl) ?_
                  refine lv_ldcw (v := (-1000002)) hx hb hown (hts _ kX7_copy_2) dX7_copy_54 ?_
                  refine yk_i [0] (va_runV (As := [.int (-1000002)]) (rest := []) ⟨hx, hb, hml, hown, hts⟩ (c_X7_finding l D cy ta a_flow a_draft a_fence a_past a_slots a_slotKinds ha a_speedX a_speedY a_leftward a_change a_table fi (-1000002) H.size) (cwV 1 hts gX7_copy_X7_finding rfl rfl rfl hv_X7_finding (yk_room hRf hRl rfl rfl)) (yk_pv (q := (RX7, TX7, 13)) hG hA hS hK hP hD [0] (by decide +kernel) rfl rfl rfl) rfl rfl hl.1 rfl (lv_room (Nat.le_of_ble_eq_true rfl)) dX7_copy_57 ⟨Nat.zero_le _, Nat.zero_le _⟩) hP hD hS hA rfl (Eq.trans (b := [ta]) rfl rfl) (fun H locs hP9 hD9 hS9 => ?_)
                  replace hP : va_P D vwCl [(ta, .inr (7, [.ref a_flow, .ref a_draft, .ref a_fence, .ref a_past, .ref a_slots, .ref a_slotKinds, .ref ha, .ref a_speedX, .ref a_speedY, .ref a_leftward, .ref a_change, .ref a_table, .int ((f_X7_finding fi (-1000002)).2)])), (ha, .inl (cy 4, 4, .inr (.inr (.inr (.inr (yk_refs [ha0, ha1, ha2, ha3])))))), (ha0, .inr (5, [.ref ha0n, .int b0, .int (nI n0)])), (ha0n, .inl (cy 0, 16, .inl h0)), (ha1, .inr (5, [.ref ha1n, .int b1, .int (nI n1)])), (ha1n, .inl (cy 0, 16, .inl h1)), (ha2, .inr (5, [.ref ha2n, .int b2, .int (nI n2)])), (ha2n, .inl (cy 0, 16, .inl h2)), (ha3, .inr (5, [.ref ha3n, .int b3, .int (nI n3)])), (ha3n, .inl (cy 0, 16, .inl h3))] H := hP9
                  replace hD : va_D A [(ta, .inr (7, [.ref a_flow, .ref a_draft, .ref a_fence, .ref a_past, .ref a_slots, .ref a_slotKinds, .ref ha, .ref a_speedX, .ref a_speedY, .ref a_leftward, .ref a_change, .ref a_table, .int ((f_X7_finding fi (-1000002)).2)])), (ha, .inl (cy 4, 4, .inr (.inr (.inr (.inr (yk_refs [ha0, ha1, ha2, ha3])))))), (ha0, .inr (5, [.ref ha0n, .int b0, .int (nI n0)])), (ha0n, .inl (cy 0, 16, .inl h0)), (ha1, .inr (5, [.ref ha1n, .int b1, .int (nI n1)])), (ha1n, .inl (cy 0, 16, .inl h1)), (ha2, .inr (5, [.ref ha2n, .int b2, .int (nI n2)])), (ha2n, .inl (cy 0, 16, .inl h2)), (ha3, .inr (5, [.ref ha3n, .int b3, .int (nI n3)])), (ha3n, .inl (cy 0, 16, .inl h3))] := hD9
                  replace hS := hS9
                  clear hP9 hD9 hS9
                  have hF : f_X7_copy h0 b0 n0 h1 b1 n1 h2 b2 n2 h3 b3 n3 fi px pf py po pn = (((f_X7_finding fi (-1000002)).1), ((f_X7_finding fi (-1000002)).2), h0, h1, h2, h3) := hF
                  have hf0 := yk_fst hF
                  have hg0 := yk_snd hF
                  have hf1 := yk_fst hg0
                  have hg1 := yk_snd hg0
                  have hf2 := yk_fst hg1
                  have hg2 := yk_snd hg1
                  have hf3 := yk_fst hg2
                  have hg3 := yk_snd hg2
                  have hf4 := yk_fst hg3
                  have hg4 := yk_snd hg3
                  rw [hf0, hf1, hf2, hf3, hf4, hg4] at hQ
                  exact hQ _ _ _ _ dX7_copy_60 hP hS
            · replace hF := hF.trans (if_neg hc24)
              have hz34 : py.toNatClampNeg = 3 := by omega
              refine yk_ti (y := nI 3) (congrArg nI hz34) ?_
              refine yk_aldq hx hb hK hP 1 4 rfl rfl 3 (by decide) (by decide) rfl dX7_copy_34 ?_
              refine lv_astore (lv' := [(7, .ref ha3), (6, .ref ha0), (0, .ref ta), (1, .int (nI px.toNatClampNeg)), (2, .int pf), (3, .int (nI py.toNatClampNeg)), (4, .int po), (5, .int pn)]) hx hb dX7_copy_35 hl (by decide) rfl (fun ls hl9 => ?_)
              replace hl := hl9
              clear hl9
              refine lv_aload hx hb dX7_copy_37 (lv_at hl 1 rfl) ?_
              refine yk_i [2, 3] (va_runV (As := []) (rest := []) ⟨hx, hb, hml, hown, hts⟩ (c_X5_isMissing l D cy ha0 ha0n h0 b0 n0 H.size) (cwV 0 hts gX7_copy_X5_isMissing rfl rfl rfl hv_X5_isMissing (yk_room hRf hRl rfl rfl)) (yk_pv (q := (RX5, TX5, 3)) hG hA hS hK hP hD [2, 3] (by decide +kernel) rfl rfl rfl) rfl rfl hl.1 rfl (lv_room (Nat.le_of_ble_eq_true rfl)) dX7_copy_39 ⟨Nat.zero_le _, Nat.zero_le _⟩) hP hD hS hA rfl (Eq.trans (b := [ha0, ha0n]) rfl rfl) (fun H locs hP9 hD9 hS9 => ?_)
              replace hP : va_P D vwCl [(ta, .inr (7, [.ref a_flow, .ref a_draft, .ref a_fence, .ref a_past, .ref a_slots, .ref a_slotKinds, .ref ha, .ref a_speedX, .ref a_speedY, .ref a_leftward, .ref a_change, .ref a_table, .int fi])), (ha, .inl (cy 4, 4, .inr (.inr (.inr (.inr (yk_refs [ha0, ha1, ha2, ha3])))))), (ha0, .inr (5, [.ref ha0n, .int b0, .int (nI n0)])), (ha0n, .inl (cy 0, 16, .inl h0)), (ha1, .inr (5, [.ref ha1n, .int b1, .int (nI n1)])), (ha1n, .inl (cy 0, 16, .inl h1)), (ha2, .inr (5, [.ref ha2n, .int b2, .int (nI n2)])), (ha2n, .inl (cy 0, 16, .inl h2)), (ha3, .inr (5, [.ref ha3n, .int b3, .int (nI n3)])), (ha3n, .inl (cy 0, 16, .inl h3))] H := hP9
              replace hD : va_D A [(ta, .inr (7, [.ref a_flow, .ref a_draft, .ref a_fence, .ref a_past, .ref a_slots, .ref a_slotKinds, .ref ha, .ref a_speedX, .ref a_speedY, .ref a_leftward, .ref a_change, .ref a_table, .int fi])), (ha, .inl (cy 4, 4, .inr (.inr (.inr (.inr (yk_refs [ha0, ha1, ha2, ha3])))))), (ha0, .inr (5, [.ref ha0n, .int b0, .int (nI n0)])), (ha0n, .inl (cy 0, 16, .inl h0)), (ha1, .inr (5, [.ref ha1n, .int b1, .int (nI n1)])), (ha1n, .inl (cy 0, 16, .inl h1)), (ha2, .inr (5, [.ref ha2n, .int b2, .int (nI n2)])), (ha2n, .inl (cy 0, 16, .inl h2)), (ha3, .inr (5, [.ref ha3n, .int b3, .int (nI n3)])), (ha3n, .inl (cy 0, 16, .inl h3))] := hD9
              replace hS := hS9
              clear hP9 hD9 hS9
              refine lv_if_ne (tgt := 53) hx hb dX7_copy_42 (by decide) (fun hc33 => ?_) (fun hc33 => ?_)
              · replace hF := hF.trans (if_neg hc33)
                refine lv_aload_n hx hb dX7_copy_53 rfl (lv_at hl 2 rfl) ?_
                refine lv_ldcw (v := (-1000002)) hx hb hown (hts _ kX7_copy_2) dX7_copy_54 ?_
                refine yk_i [0] (va_runV (As := [.int (-1000002)]) (rest := []) ⟨hx, hb, hml, hown, hts⟩ (c_X7_finding l D cy ta a_flow a_draft a_fence a_past a_slots a_slotKinds ha a_speedX a_speedY a_leftward a_change a_table fi (-1000002) H.size) (cwV 1 hts gX7_copy_X7_finding rfl rfl rfl hv_X7_finding (yk_room hRf hRl rfl rfl)) (yk_pv (q := (RX7, TX7, 13)) hG hA hS hK hP hD [0] (by decide +kernel) rfl rfl rfl) rfl rfl hl.1 rfl (lv_room (Nat.le_of_ble_eq_true rfl)) dX7_copy_57 ⟨Nat.zero_le _, Nat.zero_le _⟩) hP hD hS hA rfl (Eq.trans (b := [ta]) rfl rfl) (fun H locs hP9 hD9 hS9 => ?_)
                replace hP : va_P D vwCl [(ta, .inr (7, [.ref a_flow, .ref a_draft, .ref a_fence, .ref a_past, .ref a_slots, .ref a_slotKinds, .ref ha, .ref a_speedX, .ref a_speedY, .ref a_leftward, .ref a_change, .ref a_table, .int ((f_X7_finding fi (-1000002)).2)])), (ha, .inl (cy 4, 4, .inr (.inr (.inr (.inr (yk_refs [ha0, ha1, ha2, ha3])))))), (ha0, .inr (5, [.ref ha0n, .int b0, .int (nI n0)])), (ha0n, .inl (cy 0, 16, .inl h0)), (ha1, .inr (5, [.ref ha1n, .int b1, .int (nI n1)])), (ha1n, .inl (cy 0, 16, .inl h1)), (ha2, .inr (5, [.ref ha2n, .int b2, .int (nI n2)])), (ha2n, .inl (cy 0, 16, .inl h2)), (ha3, .inr (5, [.ref ha3n, .int b3, .int (nI n3)])), (ha3n, .inl (cy 0, 16, .inl h3))] H := hP9
                replace hD : va_D A [(ta, .inr (7, [.ref a_flow, .ref a_draft, .ref a_fence, .ref a_past, .ref a_slots, .ref a_slotKinds, .ref ha, .ref a_speedX, .ref a_speedY, .ref a_leftward, .ref a_change, .ref a_table, .int ((f_X7_finding fi (-1000002)).2)])), (ha, .inl (cy 4, 4, .inr (.inr (.inr (.inr (yk_refs [ha0, ha1, ha2, ha3])))))), (ha0, .inr (5, [.ref ha0n, .int b0, .int (nI n0)])), (ha0n, .inl (cy 0, 16, .inl h0)), (ha1, .inr (5, [.ref ha1n, .int b1, .int (nI n1)])), (ha1n, .inl (cy 0, 16, .inl h1)), (ha2, .inr (5, [.ref ha2n, .int b2, .int (nI n2)])), (ha2n, .inl (cy 0, 16, .inl h2)), (ha3, .inr (5, [.ref ha3n, .int b3, .int (nI n3)])), (ha3n, .inl (cy 0, 16, .inl h3))] := hD9
                replace hS := hS9
                clear hP9 hD9 hS9
                have hF : f_X7_copy h0 b0 n0 h1 b1 n1 h2 b2 n2 h3 b3 n3 fi px pf py po pn = (((f_X7_finding fi (-1000002)).1), ((f_X7_finding fi (-1000002)).2), h0, h1, h2, h3) := hF
                have hf0 := yk_fst hF
                have hg0 := yk_snd hF
                have hf1 := yk_fst hg0
                have hg1 := yk_snd hg0
                have hf2 := yk_fst hg1
                have hg2 := yk_snd hg1
                have hf3 := yk_fst hg2
                have hg3 := yk_snd hg2
                have hf4 := yk_fst hg3
                have hg4 := yk_snd hg3
                rw [hf0, hf1, hf2, hf3, hf4, hg4] at hQ
                exact hQ _ _ _ _ dX7_copy_60 hP hS
              · replace hF := hF.trans (if_pos hc33)
                refine lv_aload hx hb dX7_copy_45 (lv_at hl 0 rfl) ?_
                refine yk_i [8, 9] (va_runV (As := []) (rest := []) ⟨hx, hb, hml, hown, hts⟩ (c_X5_isMissing l D cy ha3 ha3n h3 b3 n3 H.size) (cwV 0 hts gX7_copy_X5_isMissing rfl rfl rfl hv_X5_isMissing (yk_room hRf hRl rfl rfl)) (yk_pv (q := (RX5, TX5, 3)) hG hA hS hK hP hD [8, 9] (by decide +kernel) rfl rfl rfl) rfl rfl hl.1 rfl (lv_room (Nat.le_of_ble_eq_true rfl)) dX7_copy_47 ⟨Nat.zero_le _, Nat.zero_le _⟩) hP hD hS hA rfl (Eq.trans (b := [ha3, ha3n]) rfl rfl) (fun H locs hP9 hD9 hS9 => ?_)
                replace hP : va_P D vwCl [(ta, .inr (7, [.ref a_flow, .ref a_draft, .ref a_fence, .ref a_past, .ref a_slots, .ref a_slotKinds, .ref ha, .ref a_speedX, .ref a_speedY, .ref a_leftward, .ref a_change, .ref a_table, .int fi])), (ha, .inl (cy 4, 4, .inr (.inr (.inr (.inr (yk_refs [ha0, ha1, ha2, ha3])))))), (ha0, .inr (5, [.ref ha0n, .int b0, .int (nI n0)])), (ha0n, .inl (cy 0, 16, .inl h0)), (ha1, .inr (5, [.ref ha1n, .int b1, .int (nI n1)])), (ha1n, .inl (cy 0, 16, .inl h1)), (ha2, .inr (5, [.ref ha2n, .int b2, .int (nI n2)])), (ha2n, .inl (cy 0, 16, .inl h2)), (ha3, .inr (5, [.ref ha3n, .int b3, .int (nI n3)])), (ha3n, .inl (cy 0, 16, .inl h3))] H := hP9
                replace hD : va_D A [(ta, .inr (7, [.ref a_flow, .ref a_draft, .ref a_fence, .ref a_past, .ref a_slots, .ref a_slotKinds, .ref ha, .ref a_speedX, .ref a_speedY, .ref a_leftward, .ref a_change, .ref a_table, .int fi])), (ha, .inl (cy 4, 4, .inr (.inr (.inr (.inr (yk_refs [ha0, ha1, ha2, ha3])))))), (ha0, .inr (5, [.ref ha0n, .int b0, .int (nI n0)])), (ha0n, .inl (cy 0, 16, .inl h0)), (ha1, .inr (5, [.ref ha1n, .int b1, .int (nI n1)])), (ha1n, .inl (cy 0, 16, .inl h1)), (ha2, .inr (5, [.ref ha2n, .int b2, .int (nI n2)])), (ha2n, .inl (cy 0, 16, .inl h2)), (ha3, .inr (5, [.ref ha3n, .int b3, .int (nI n3)])), (ha3n, .inl (cy 0, 16, .inl h3))] := hD9
                replace hS := hS9
                clear hP9 hD9 hS9
                refine lv_if_eq (tgt := 61) hx hb dX7_copy_50 (by decide) (fun hc34 => ?_) (fun hc34 => ?_)
                · replace hF := hF.trans (if_pos hc34)
                  refine lv_aload hx hb dX7_copy_61 (lv_at hl 1 rfl) ?_
                  refine va_get (D := D) (ci := 5) (v := .int b0) (C := RX5) (T := TX5) (N := 3) hx hb hts uX7_copy_X5 hown hK hP 2 rfl rfl 1 (by decide) (hts _ kX7_copy_3) (fun _ h9 => h9) rfl dX7_copy_63 ?_
                  refine lv_aload hx hb dX7_copy_66 (lv_at hl 0 rfl) ?_
                  refine va_get (D := D) (ci := 5) (v := .int b3) (C := RX5) (T := TX5) (N := 3) hx hb hts uX7_copy_X5 hown hK hP 8 rfl rfl 1 (by decide) (hts _ kX7_copy_3) (fun _ h9 => h9) rfl dX7_copy_68 ?_
                  refine lv_icmp_eq (tgt := 81) hx hb dX7_copy_71 (by decide) (fun hc35 => ?_) (fun hc35 => ?_)
                  · replace hF := hF.trans (if_pos hc35)
                    refine lv_aload hx hb dX7_copy_81 (lv_at hl 1 rfl) ?_
                    refine lv_iload_n hx hb dX7_copy_83 rfl (lv_at hl 4 rfl) ?_
                    refine lv_iload hx hb dX7_copy_84 (lv_at hl 7 rfl) ?_
                    refine yk_i [2, 3] (va_runV (As := [.int pf, .int pn]) (rest := []) ⟨hx, hb, hml, hown, hts⟩ (c_X5_hasRange l D cy ha0 ha0n h0 b0 n0 pf pn hn0 H.size) (cwV 2 hts gX7_copy_X5_hasRange rfl rfl rfl hv_X5_hasRange (yk_room hRf hRl rfl rfl)) (yk_pv (q := (RX5, TX5, 3)) hG hA hS hK hP hD [2, 3] (by decide +kernel) rfl rfl rfl) rfl rfl hl.1 rfl (lv_room (Nat.le_of_ble_eq_true rfl)) dX7_copy_86 ⟨Nat.zero_le _, Nat.zero_le _⟩) hP hD hS hA rfl (Eq.trans (b := [ha0, ha0n]) rfl rfl) (fun H locs hP9 hD9 hS9 => ?_)
                    replace hP : va_P D vwCl [(ta, .inr (7, [.ref a_flow, .ref a_draft, .ref a_fence, .ref a_past, .ref a_slots, .ref a_slotKinds, .ref ha, .ref a_speedX, .ref a_speedY, .ref a_leftward, .ref a_change, .ref a_table, .int fi])), (ha, .inl (cy 4, 4, .inr (.inr (.inr (.inr (yk_refs [ha0, ha1, ha2, ha3])))))), (ha0, .inr (5, [.ref ha0n, .int b0, .int (nI n0)])), (ha0n, .inl (cy 0, 16, .inl h0)), (ha1, .inr (5, [.ref ha1n, .int b1, .int (nI n1)])), (ha1n, .inl (cy 0, 16, .inl h1)), (ha2, .inr (5, [.ref ha2n, .int b2, .int (nI n2)])), (ha2n, .inl (cy 0, 16, .inl h2)), (ha3, .inr (5, [.ref ha3n, .int b3, .int (nI n3)])), (ha3n, .inl (cy 0, 16, .inl h3))] H := hP9
                    replace hD : va_D A [(ta, .inr (7, [.ref a_flow, .ref a_draft, .ref a_fence, .ref a_past, .ref a_slots, .ref a_slotKinds, .ref ha, .ref a_speedX, .ref a_speedY, .ref a_leftward, .ref a_change, .ref a_table, .int fi])), (ha, .inl (cy 4, 4, .inr (.inr (.inr (.inr (yk_refs [ha0, ha1, ha2, ha3])))))), (ha0, .inr (5, [.ref ha0n, .int b0, .int (nI n0)])), (ha0n, .inl (cy 0, 16, .inl h0)), (ha1, .inr (5, [.ref ha1n, .int b1, .int (nI n1)])), (ha1n, .inl (cy 0, 16, .inl h1)), (ha2, .inr (5, [.ref ha2n, .int b2, .int (nI n2)])), (ha2n, .inl (cy 0, 16, .inl h2)), (ha3, .inr (5, [.ref ha3n, .int b3, .int (nI n3)])), (ha3n, .inl (cy 0, 16, .inl h3))] := hD9
                    replace hS := hS9
                    clear hP9 hD9 hS9
                    refine lv_if_eq (tgt := 104) hx hb dX7_copy_89 (by decide) (fun hc36 => ?_) (fun hc36 => ?_)
                    · replace hF := hF.trans (if_pos hc36)
                      refine lv_aload_n hx hb dX7_copy_104 rfl (lv_at hl 2 rfl) ?_
                      refine lv_ldc (v := (-1000001)) hx hb hown (hts _ kX7_copy_0) dX7_copy_105 ?_
                      refine yk_i [0] (va_runV (As := [.int (-1000001)]) (rest := []) ⟨hx, hb, hml, hown, hts⟩ (c_X7_finding l D cy ta a_flow a_draft a_fence a_past a_slots a_slotKinds ha a_speedX a_speedY a_leftward a_change a_table fi (-1000001) H.size) (cwV 1 hts gX7_copy_X7_finding rfl rfl rfl hv_X7_finding (yk_room hRf hRl rfl rfl)) (yk_pv (q := (RX7, TX7, 13)) hG hA hS hK hP hD [0] (by decide +kernel) rfl rfl rfl) rfl rfl hl.1 rfl (lv_room (Nat.le_of_ble_eq_true rfl)) dX7_copy_107 ⟨Nat.zero_le _, Nat.zero_le _⟩) hP hD hS hA rfl (Eq.trans (b := [ta]) rfl rfl) (fun H locs hP9 hD9 hS9 => ?_)
                      replace hP : va_P D vwCl [(ta, .inr (7, [.ref a_flow, .ref a_draft, .ref a_fence, .ref a_past, .ref a_slots, .ref a_slotKinds, .ref ha, .ref a_speedX, .ref a_speedY, .ref a_leftward, .ref a_change, .ref a_table, .int ((f_X7_finding fi (-1000001)).2)])), (ha, .inl (cy 4, 4, .inr (.inr (.inr (.inr (yk_refs [ha0, ha1, ha2, ha3])))))), (ha0, .inr (5, [.ref ha0n, .int b0, .int (nI n0)])), (ha0n, .inl (cy 0, 16, .inl h0)), (ha1, .inr (5, [.ref ha1n, .int b1, .int (nI n1)])), (ha1n, .inl (cy 0, 16, .inl h1)), (ha2, .inr (5, [.ref ha2n, .int b2, .int (nI n2)])), (ha2n, .inl (cy 0, 16, .inl h2)), (ha3, .inr (5, [.ref ha3n, .int b3, .int (nI n3)])), (ha3n, .inl (cy 0, 16, .inl h3))] H := hP9
                      replace hD : va_D A [(ta, .inr (7, [.ref a_flow, .ref a_draft, .ref a_fence, .ref a_past, .ref a_slots, .ref a_slotKinds, .ref ha, .ref a_speedX, .ref a_speedY, .ref a_leftward, .ref a_change, .ref a_table, .int ((f_X7_finding fi (-1000001)).2)])), (ha, .inl (cy 4, 4, .inr (.inr (.inr (.inr (yk_refs [ha0, ha1, ha2, ha3])))))), (ha0, .inr (5, [.ref ha0n, .int b0, .int (nI n0)])), (ha0n, .inl (cy 0, 16, .inl h0)), (ha1, .inr (5, [.ref ha1n, .int b1, .int (nI n1)])), (ha1n, .inl (cy 0, 16, .inl h1)), (ha2, .inr (5, [.ref ha2n, .int b2, .int (nI n2)])), (ha2n, .inl (cy 0, 16, .inl h2)), (ha3, .inr (5, [.ref ha3n, .int b3, .int (nI n3)])), (ha3n, .inl (cy 0, 16, .inl h3))] := hD9
                      replace hS := hS9
                      clear hP9 hD9 hS9
                      have hF : f_X7_copy h0 b0 n0 h1 b1 n1 h2 b2 n2 h3 b3 n3 fi px pf py po pn = (((f_X7_finding fi (-1000001)).1), ((f_X7_finding fi (-1000001)).2), h0, h1, h2, h3) := hF
                      have hf0 := yk_fst hF
                      have hg0 := yk_snd hF
                      have hf1 := yk_fst hg0
                      have hg1 := yk_snd hg0
                      have hf2 := yk_fst hg1
                      have hg2 := yk_snd hg1
                      have hf3 := yk_fst hg2
                      have hg3 := yk_snd hg2
                      have hf4 := yk_fst hg3
                      have hg4 := yk_snd hg3
                      rw [hf0, hf1, hf2, hf3, hf4, hg4] at hQ
                      exact hQ _ _ _ _ dX7_copy_110 hP hS
                    · replace hF := hF.trans (if_neg hc36)
                      refine lv_aload hx hb dX7_copy_92 (lv_at hl 0 rfl) ?_
                      refine lv_iload hx hb dX7_copy_94 (lv_at hl 6 rfl) ?_
                      refine lv_iload hx hb dX7_copy_96 (lv_at hl 7 rfl) ?_
                      refine yk_i [8, 9] (va_runV (As := [.int po, .int pn]) (rest := []) ⟨hx, hb, hml, hown, hts⟩ (c_X5_hasRange l D cy ha3 ha3n h3 b3 n3 po pn hn3 H.size) (cwV 2 hts gX7_copy_X5_hasRange rfl rfl rfl hv_X5_hasRange (yk_room hRf hRl rfl rfl)) (yk_pv (q := (RX5, TX5, 3)) hG hA hS hK hP hD [8, 9] (by decide +kernel) rfl rfl rfl) rfl rfl hl.1 rfl (lv_room (Nat.le_of_ble_eq_true rfl)) dX7_copy_98 ⟨Nat.zero_le _, Nat.zero_le _⟩) hP hD hS hA rfl (Eq.trans (b := [ha3, ha3n]) rfl rfl) (fun H locs hP9 hD9 hS9 => ?_)
                      replace hP : va_P D vwCl [(ta, .inr (7, [.ref a_flow, .ref a_draft, .ref a_fence, .ref a_past, .ref a_slots, .ref a_slotKinds, .ref ha, .ref a_speedX, .ref a_speedY, .ref a_leftward, .ref a_change, .ref a_table, .int fi])), (ha, .inl (cy 4, 4, .inr (.inr (.inr (.inr (yk_refs [ha0, ha1, ha2, ha3])))))), (ha0, .inr (5, [.ref ha0n, .int b0, .int (nI n0)])), (ha0n, .inl (cy 0, 16, .inl h0)), (ha1, .inr (5, [.ref ha1n, .int b1, .int (nI n1)])), (ha1n, .inl (cy 0, 16, .inl h1)), (ha2, .inr (5, [.ref ha2n, .int b2, .int (nI n2)])), (ha2n, .inl (cy 0, 16, .inl h2)), (ha3, .inr (5, [.ref ha3n, .int b3, .int (nI n3)])), (ha3n, .inl (cy 0, 16, .inl h3))] H := hP9
                      replace hD : va_D A [(ta, .inr (7, [.ref a_flow, .ref a_draft, .ref a_fence, .ref a_past, .ref a_slots, .ref a_slotKinds, .ref ha, .ref a_speedX, .ref a_speedY, .ref a_leftward, .ref a_change, .ref a_table, .int fi])), (ha, .inl (cy 4, 4, .inr (.inr (.inr (.inr (yk_refs [ha0, ha1, ha2, ha3])))))), (ha0, .inr (5, [.ref ha0n, .int b0, .int (nI n0)])), (ha0n, .inl (cy 0, 16, .inl h0)), (ha1, .inr (5, [.ref ha1n, .int b1, .int (nI n1)])), (ha1n, .inl (cy 0, 16, .inl h1)), (ha2, .inr (5, [.ref ha2n, .int b2, .int (nI n2)])), (ha2n, .inl (cy 0, 16, .inl h2)), (ha3, .inr (5, [.ref ha3n, .int b3, .int (nI n3)])), (ha3n, .inl (cy 0, 16, .inl h3))] := hD9
                      replace hS := hS9
                      clear hP9 hD9 hS9
                      refine lv_if_ne (tgt := 111) hx hb dX7_copy_101 (by decide) (fun hc37 => ?_) (fun hc37 => ?_)
                      · replace hF := hF.trans (if_neg hc37)
                        have hq8 := hr_ok (n := n0) (x := pf) (y := pn) (by omega) (by assumption)
                        have hq9 := hr_ok (n := n3) (x := po) (y := pn) (by omega) (by assumption)
                        have hq38 : pf = nI pf.toNatClampNeg := hq8.1.1
                        have hq38b : pf.toNatClampNeg < 17 := hq8.1.2
                        rw [hq38] at hl
                        have hq39 : po = nI po.toNatClampNeg := hq9.1.1
                        have hq39b : po.toNatClampNeg < 17 := hq9.1.2
                        rw [hq39] at hl
                        have hq40 : pn = nI pn.toNatClampNeg := hq8.2.1.1
                        have hq40b : pn.toNatClampNeg < 17 := hq8.2.1.2
                        rw [hq40] at hl
                        refine lv_aload hx hb dX7_copy_111 (lv_at hl 1 rfl) ?_
                        refine va_get (D := D) (ci := 5) (v := .ref ha0n) (C := RX5) (T := TX5) (N := 3) hx hb hts uX7_copy_X5 hown hK hP 2 rfl rfl 0 (by decide) (hts _ kX7_copy_4) (fun _ h9 => h9) rfl dX7_copy_113 ?_
                        refine lv_iload_n hx hb dX7_copy_116 rfl (lv_at hl 4 rfl) ?_
                        refine lv_aload hx hb dX7_copy_117 (lv_at hl 0 rfl) ?_
                        refine va_get (D := D) (ci := 5) (v := .ref ha3n) (C := RX5) (T := TX5) (N := 3) hx hb hts uX7_copy_X5 hown hK hP 8 rfl rfl 0 (by decide) (hts _ kX7_copy_4) (fun _ h9 => h9) rfl dX7_copy_119 ?_
                        refine lv_iload hx hb dX7_copy_122 (lv_at hl 6 rfl) ?_
                        refine lv_iload hx hb dX7_copy_124 (lv_at hl 7 rfl) ?_
                        refine yk_cpy (sp := pf.toNatClampNeg) (dp := po.toNatClampNeg) (n := pn.toNatClampNeg) hx hb (hml.trans hl.1.symm) hown (hts _ kX7_copy_5) (hts _ kX7_copy_6) (hts _ kX7_copy_7) (hts _ kX7_copy_8) hK hP hD hS 3 9 rfl rfl rfl rfl (⟨by omega, by omega⟩) (by omega) (by omega) (by rw [hRf]; exact Nat.le_of_ble_eq_true rfl) (by rw [hRl]; exact Nat.le_of_ble_eq_true rfl) dX7_copy_126 (fun H locs hP9 hD9 hS9 => ?_)
                        replace hP : va_P D vwCl [(ta, .inr (7, [.ref a_flow, .ref a_draft, .ref a_fence, .ref a_past, .ref a_slots, .ref a_slotKinds, .ref ha, .ref a_speedX, .ref a_speedY, .ref a_leftward, .ref a_change, .ref a_table, .int fi])), (ha, .inl (cy 4, 4, .inr (.inr (.inr (.inr (yk_refs [ha0, ha1, ha2, ha3])))))), (ha0, .inr (5, [.ref ha0n, .int b0, .int (nI n0)])), (ha0n, .inl (cy 0, 16, .inl h0)), (ha1, .inr (5, [.ref ha1n, .int b1, .int (nI n1)])), (ha1n, .inl (cy 0, 16, .inl h1)), (ha2, .inr (5, [.ref ha2n, .int b2, .int (nI n2)])), (ha2n, .inl (cy 0, 16, .inl h2)), (ha3, .inr (5, [.ref ha3n, .int b3, .int (nI n3)])), (ha3n, .inl (cy 0, 16, .inl (va_cpy h0 h3 pf.toNatClampNeg po.toNatClampNeg pn.toNatClampNeg)))] H := hP9
                        replace hD : va_D A [(ta, .inr (7, [.ref a_flow, .ref a_draft, .ref a_fence, .ref a_past, .ref a_slots, .ref a_slotKinds, .ref ha, .ref a_speedX, .ref a_speedY, .ref a_leftward, .ref a_change, .ref a_table, .int fi])), (ha, .inl (cy 4, 4, .inr (.inr (.inr (.inr (yk_refs [ha0, ha1, ha2, ha3])))))), (ha0, .inr (5, [.ref ha0n, .int b0, .int (nI n0)])), (ha0n, .inl (cy 0, 16, .inl h0)), (ha1, .inr (5, [.ref ha1n, .int b1, .int (nI n1)])), (ha1n, .inl (cy 0, 16, .inl h1)), (ha2, .inr (5, [.ref ha2n, .int b2, .int (nI n2)])), (ha2n, .inl (cy 0, 16, .inl h2)), (ha3, .inr (5, [.ref ha3n, .int b3, .int (nI n3)])), (ha3n, .inl (cy 0, 16, .inl (va_cpy h0 h3 pf.toNatClampNeg po.toNatClampNeg pn.toNatClampNeg)))] := hD9
                        replace hS := hS9
                        clear hP9 hD9 hS9
                        refine lv_iload hx hb dX7_copy_129 (lv_at hl 7 rfl) ?_
                        have hF : f_X7_copy h0 b0 n0 h1 b1 n1 h2 b2 n2 h3 b3 n3 fi px pf py po pn = ((nI pn.toNatClampNeg), fi, h0, h1, h2, (va_cpy h0 h3 pf.toNatClampNeg po.toNatClampNeg pn.toNatClampNeg)) := hF
                        have hf0 := yk_fst hF
                        have hg0 := yk_snd hF
                        have hf1 := yk_fst hg0
                        have hg1 := yk_snd hg0
                        have hf2 := yk_fst hg1
                        have hg2 := yk_snd hg1
                        have hf3 := yk_fst hg2
                        have hg3 := yk_snd hg2
                        have hf4 := yk_fst hg3
                        have hg4 := yk_snd hg3
                        rw [hf0, hf1, hf2, hf3, hf4, hg4] at hQ
                        exact hQ _ _ _ _ dX7_copy_131 hP hS
                      · replace hF := hF.trans (if_pos hc37)
                        refine lv_aload_n hx hb dX7_copy_104 rfl (lv_at hl 2 rfl) ?_
                        refine lv_ldc (v := (-1000001)) hx hb hown (hts _ kX7_copy_0) dX7_copy_105 ?_
                        refine yk_i [0] (va_runV (As := [.int (-1000001)]) (rest := []) ⟨hx, hb, hml, hown, hts⟩ (c_X7_finding l D cy ta a_flow a_draft a_fence a_past a_slots a_slotKinds ha a_speedX a_speedY a_leftward a_change a_table fi (-1000001) H.size) (cwV 1 hts gX7_copy_X7_finding rfl rfl rfl hv_X7_finding (yk_room hRf hRl rfl rfl)) (yk_pv (q := (RX7, TX7, 13)) hG hA hS hK hP hD [0] (by decide +kernel) rfl rfl rfl) rfl rfl hl.1 rfl (lv_room (Nat.le_of_ble_eq_true rfl)) dX7_copy_107 ⟨Nat.zero_le _, Nat.zero_le _⟩) hP hD hS hA rfl (Eq.trans (b := [ta]) rfl rfl) (fun H locs hP9 hD9 hS9 => ?_)
                        replace hP : va_P D vwCl [(ta, .inr (7, [.ref a_flow, .ref a_draft, .ref a_fence, .ref a_past, .ref a_slots, .ref a_slotKinds, .ref ha, .ref a_speedX, .ref a_speedY, .ref a_leftward, .ref a_change, .ref a_table, .int ((f_X7_finding fi (-1000001)).2)])), (ha, .inl (cy 4, 4, .inr (.inr (.inr (.inr (yk_refs [ha0, ha1, ha2, ha3])))))), (ha0, .inr (5, [.ref ha0n, .int b0, .int (nI n0)])), (ha0n, .inl (cy 0, 16, .inl h0)), (ha1, .inr (5, [.ref ha1n, .int b1, .int (nI n1)])), (ha1n, .inl (cy 0, 16, .inl h1)), (ha2, .inr (5, [.ref ha2n, .int b2, .int (nI n2)])), (ha2n, .inl (cy 0, 16, .inl h2)), (ha3, .inr (5, [.ref ha3n, .int b3, .int (nI n3)])), (ha3n, .inl (cy 0, 16, .inl h3))] H := hP9
                        replace hD : va_D A [(ta, .inr (7, [.ref a_flow, .ref a_draft, .ref a_fence, .ref a_past, .ref a_slots, .ref a_slotKinds, .ref ha, .ref a_speedX, .ref a_speedY, .ref a_leftward, .ref a_change, .ref a_table, .int ((f_X7_finding fi (-1000001)).2)])), (ha, .inl (cy 4, 4, .inr (.inr (.inr (.inr (yk_refs [ha0, ha1, ha2, ha3])))))), (ha0, .inr (5, [.ref ha0n, .int b0, .int (nI n0)])), (ha0n, .inl (cy 0, 16, .inl h0)), (ha1, .inr (5, [.ref ha1n, .int b1, .int (nI n1)])), (ha1n, .inl (cy 0, 16, .inl h1)), (ha2, .inr (5, [.ref ha2n, .int b2, .int (nI n2)])), (ha2n, .inl (cy 0, 16, .inl h2)), (ha3, .inr (5, [.ref ha3n, .int b3, .int (nI n3)])), (ha3n, .inl (cy 0, 16, .inl h3))] := hD9
                        replace hS := hS9
                        clear hP9 hD9 hS9
                        have hF : f_X7_copy h0 b0 n0 h1 b1 n1 h2 b2 n2 h3 b3 n3 fi px pf py po pn = (((f_X7_finding fi (-1000001)).1), ((f_X7_finding fi (-1000001)).2), h0, h1, h2, h3) := hF
                        have hf0 := yk_fst hF
                        have hg0 := yk_snd hF
                        have hf1 := yk_fst hg0
                        have hg1 := yk_snd hg0
                        have hf2 := yk_fst hg1
                        have hg2 := yk_snd hg1
                        have hf3 := yk_fst hg2
                        have hg3 := yk_snd hg2
                        have hf4 := yk_fst hg3
                        have hg4 := yk_snd hg3
                        rw [hf0, hf1, hf2, hf3, hf4, hg4] at hQ
                        exact hQ _ _ _ _ dX7_copy_110 hP hS
                  · replace hF := hF.trans (if_neg hc35)
                    refine lv_aload_n hx hb dX7_copy_74 rfl (lv_at hl 2 rfl) ?_
                    refine lv_ldc (v := (-1000004)) hx hb hown (hts _ kX7_copy_9) dX7_copy_75 ?_
                    refine yk_i [0] (va_runV (As := [.int (-1000004)]) (rest := []) ⟨hx, hb, hml, hown, hts⟩ (c_X7_finding l D cy ta a_flow a_draft a_fence a_past a_slots a_slotKinds ha a_speedX a_speedY a_leftward a_change a_table fi (-1000004) H.size) (cwV 1 hts gX7_copy_X7_finding rfl rfl rfl hv_X7_finding (yk_room hRf hRl rfl rfl)) (yk_pv (q := (RX7, TX7, 13)) hG hA hS hK hP hD [0] (by decide +kernel) rfl rfl rfl) rfl rfl hl.1 rfl (lv_room (Nat.le_of_ble_eq_true rfl)) dX7_copy_77 ⟨Nat.zero_le _, Nat.zero_le _⟩) hP hD hS hA rfl (Eq.trans (b := [ta]) rfl rfl) (fun H locs hP9 hD9 hS9 => ?_)
                    replace hP : va_P D vwCl [(ta, .inr (7, [.ref a_flow, .ref a_draft, .ref a_fence, .ref a_past, .ref a_slots, .ref a_slotKinds, .ref ha, .ref a_speedX, .ref a_speedY, .ref a_leftward, .ref a_change, .ref a_table, .int ((f_X7_finding fi (-1000004)).2)])), (ha, .inl (cy 4, 4, .inr (.inr (.inr (.inr (yk_refs [ha0, ha1, ha2, ha3])))))), (ha0, .inr (5, [.ref ha0n, .int b0, .int (nI n0)])), (ha0n, .inl (cy 0, 16, .inl h0)), (ha1, .inr (5, [.ref ha1n, .int b1, .int (nI n1)])), (ha1n, .inl (cy 0, 16, .inl h1)), (ha2, .inr (5, [.ref ha2n, .int b2, .int (nI n2)])), (ha2n, .inl (cy 0, 16, .inl h2)), (ha3, .inr (5, [.ref ha3n, .int b3, .int (nI n3)])), (ha3n, .inl (cy 0, 16, .inl h3))] H := hP9
                    replace hD : va_D A [(ta, .inr (7, [.ref a_flow, .ref a_draft, .ref a_fence, .ref a_past, .ref a_slots, .ref a_slotKinds, .ref ha, .ref a_speedX, .ref a_speedY, .ref a_leftward, .ref a_change, .ref a_table, .int ((f_X7_finding fi (-1000004)).2)])), (ha, .inl (cy 4, 4, .inr (.inr (.inr (.inr (yk_refs [ha0, ha1, ha2, ha3])))))), (ha0, .inr (5, [.ref ha0n, .int b0, .int (nI n0)])), (ha0n, .inl (cy 0, 16, .inl h0)), (ha1, .inr (5, [.ref ha1n, .int b1, .int (nI n1)])), (ha1n, .inl (cy 0, 16, .inl h1)), (ha2, .inr (5, [.ref ha2n, .int b2, .int (nI n2)])), (ha2n, .inl (cy 0, 16, .inl h2)), (ha3, .inr (5, [.ref ha3n, .int b3, .int (nI n3)])), (ha3n, .inl (cy 0, 16, .inl h3))] := hD9
                    replace hS := hS9
                    clear hP9 hD9 hS9
                    have hF : f_X7_copy h0 b0 n0 h1 b1 n1 h2 b2 n2 h3 b3 n3 fi px pf py po pn = (((f_X7_finding fi (-1000004)).1), ((f_X7_finding fi (-1000004)).2), h0, h1, h2, h3) := hF
                    have hf0 := yk_fst hF
                    have hg0 := yk_snd hF
                    have hf1 := yk_fst hg0
                    have hg1 := yk_snd hg0
                    have hf2 := yk_fst hg1
                    have hg2 := yk_snd hg1
                    have hf3 := yk_fst hg2
                    have hg3 := yk_snd hg2
                    have hf4 := yk_fst hg3
                    have hg4 := yk_snd hg3
                    rw [hf0, hf1, hf2, hf3, hf4, hg4] at hQ
                    exact hQ _ _ _ _ dX7_copy_80 hP hS
                · replace hF := hF.trans (if_neg hc34)
                  refine lv_aload_n hx hb dX7_copy_53 rfl (lv_at hl 2 rfl) ?_
                  refine lv_ldcw (v := (-1000002)) hx hb hown (hts _ kX7_copy_2) dX7_copy_54 ?_
                  refine yk_i [0] (va_runV (As := [.int (-1000002)]) (rest := []) ⟨hx, hb, hml, hown, hts⟩ (c_X7_finding l D cy ta a_flow a_draft a_fence a_past a_slots a_slotKinds ha a_speedX a_speedY a_leftward a_change a_table fi (-1000002) H.size) (cwV 1 hts gX7_copy_X7_finding rfl rfl rfl hv_X7_finding (yk_room hRf hRl rfl rfl)) (yk_pv (q := (RX7, TX7, 13)) hG hA hS hK hP hD [0] (by decide +kernel) rfl rfl rfl) rfl rfl hl.1 rfl (lv_room (Nat.le_of_ble_eq_true rfl)) dX7_copy_57 ⟨Nat.zero_le _, Nat.zero_le _⟩) hP hD hS hA rfl (Eq.trans (b := [ta]) rfl rfl) (fun H locs hP9 hD9 hS9 => ?_)
                  replace hP : va_P D vwCl [(ta, .inr (7, [.ref a_flow, .ref a_draft, .ref a_fence, .ref a_past, .ref a_slots, .ref a_slotKinds, .ref ha, .ref a_speedX, .ref a_speedY, .ref a_leftward, .ref a_change, .ref a_table, .int ((f_X7_finding fi (-1000002)).2)])), (ha, .inl (cy 4, 4, .inr (.inr (.inr (.inr (yk_refs [ha0, ha1, ha2, ha3])))))), (ha0, .inr (5, [.ref ha0n, .int b0, .int (nI n0)])), (ha0n, .inl (cy 0, 16, .inl h0)), (ha1, .inr (5, [.ref ha1n, .int b1, .int (nI n1)])), (ha1n, .inl (cy 0, 16, .inl h1)), (ha2, .inr (5, [.ref ha2n, .int b2, .int (nI n2)])), (ha2n, .inl (cy 0, 16, .inl h2)), (ha3, .inr (5, [.ref ha3n, .int b3, .int (nI n3)])), (ha3n, .inl (cy 0, 16, .inl h3))] H := hP9
                  replace hD : va_D A [(ta, .inr (7, [.ref a_flow, .ref a_draft, .ref a_fence, .ref a_past, .ref a_slots, .ref a_slotKinds, .ref ha, .ref a_speedX, .ref a_speedY, .ref a_leftward, .ref a_change, .ref a_table, .int ((f_X7_finding fi (-1000002)).2)])), (ha, .inl (cy 4, 4, .inr (.inr (.inr (.inr (yk_refs [ha0, ha1, ha2, ha3])))))), (ha0, .inr (5, [.ref ha0n, .int b0, .int (nI n0)])), (ha0n, .inl (cy 0, 16, .inl h0)), (ha1, .inr (5, [.ref ha1n, .int b1, .int (nI n1)])), (ha1n, .inl (cy 0, 16, .inl h1)), (ha2, .inr (5, [.ref ha2n, .int b2, .int (nI n2)])), (ha2n, .inl (cy 0, 16, .inl h2)), (ha3, .inr (5, [.ref ha3n, .int b3, .int (nI n3)])), (ha3n, .inl (cy 0, 16, .inl h3))] := hD9
                  replace hS := hS9
                  clear hP9 hD9 hS9
                  have hF : f_X7_copy h0 b0 n0 h1 b1 n1 h2 b2 n2 h3 b3 n3 fi px pf py po pn = (((f_X7_finding fi (-1000002)).1), ((f_X7_finding fi (-1000002)).2), h0, h1, h2, h3) := hF
                  have hf0 := yk_fst hF
                  have hg0 := yk_snd hF
                  have hf1 := yk_fst hg0
                  have hg1 := yk_snd hg0
                  have hf2 := yk_fst hg1
                  have hg2 := yk_snd hg1
                  have hf3 := yk_fst hg2
                  have hg3 := yk_snd hg2
                  have hf4 := yk_fst hg3
                  have hg4 := yk_snd hg3
                  rw [hf0, hf1, hf2, hf3, hf4, hg4] at hQ
                  exact hQ _ _ _ _ dX7_copy_60 hP hS
      · replace hF := hF.trans (if_neg hc5)
        by_cases hc41 : px.toNatClampNeg = 1
        · replace hF := hF.trans (if_pos hc41)
          refine yk_ti (y := nI 1) (congrArg nI hc41) ?_
          refine yk_aldq hx hb hK hP 1 4 rfl rfl 1 (by decide) (by decide) rfl dX7_copy_26 ?_
          refine lv_astore (lv' := [(6, .ref ha1), (0, .ref ta), (1, .int (nI px.toNatClampNeg)), (2, .int pf), (3, .int (nI py.toNatClampNeg)), (4, .int po), (5, .int pn)]) hx hb dX7_copy_27 hl (by decide) rfl (fun ls hl9 => ?_)
          replace hl := hl9
          clear hl9
          refine lv_aload_n hx hb dX7_copy_29 rfl (lv_at hl 1 rfl) ?_
          refine va_get (D := D) (ci := 7) (v := .ref ha) (C := RX7) (T := TX7) (N := 13) hx hb hts uX7_copy_X7 hown hK hP 0 rfl rfl 6 (by decide) (hts _ kX7_copy_1) (fun _ h9 => h9) rfl dX7_copy_30 ?_
          refine lv_iload_n hx hb dX7_copy_33 rfl (lv_at hl 4 rfl) ?_
          by_cases hc42 : py.toNatClampNeg = 0
          · replace hF := hF.trans (if_pos hc42)
            refine yk_ti (y := nI 0) (congrArg nI hc42) ?_
            refine yk_aldq hx hb hK hP 1 4 rfl rfl 0 (by decide) (by decide) rfl dX7_copy_34 ?_
            refine lv_astore (lv' := [(7, .ref ha0), (6, .ref ha1), (0, .ref ta), (1, .int (nI px.toNatClampNeg)), (2, .int pf), (3, .int (nI py.toNatClampNeg)), (4, .int po), (5, .int pn)]) hx hb dX7_copy_35 hl (by decide) rfl (fun ls hl9 => ?_)
            replace hl := hl9
            clear hl9
            refine lv_aload hx hb dX7_copy_37 (lv_at hl 1 rfl) ?_
            refine yk_i [4, 5] (va_runV (As := []) (rest := []) ⟨hx, hb, hml, hown, hts⟩ (c_X5_isMissing l D cy ha1 ha1n h1 b1 n1 H.size) (cwV 0 hts gX7_copy_X5_isMissing rfl rfl rfl hv_X5_isMissing (yk_room hRf hRl rfl rfl)) (yk_pv (q := (RX5, TX5, 3)) hG hA hS hK hP hD [4, 5] (by decide +kernel) rfl rfl rfl) rfl rfl hl.1 rfl (lv_room (Nat.le_of_ble_eq_true rfl)) dX7_copy_39 ⟨Nat.zero_le _, Nat.zero_le _⟩) hP hD hS hA rfl (Eq.trans (b := [ha1, ha1n]) rfl rfl) (fun H locs hP9 hD9 hS9 => ?_)
            replace hP : va_P D vwCl [(ta, .inr (7, [.ref a_flow, .ref a_draft, .ref a_fence, .ref a_past, .ref a_slots, .ref a_slotKinds, .ref ha, .ref a_speedX, .ref a_speedY, .ref a_leftward, .ref a_change, .ref a_table, .int fi])), (ha, .inl (cy 4, 4, .inr (.inr (.inr (.inr (yk_refs [ha0, ha1, ha2, ha3])))))), (ha0, .inr (5, [.ref ha0n, .int b0, .int (nI n0)])), (ha0n, .inl (cy 0, 16, .inl h0)), (ha1, .inr (5, [.ref ha1n, .int b1, .int (nI n1)])), (ha1n, .inl (cy 0, 16, .inl h1)), (ha2, .inr (5, [.ref ha2n, .int b2, .int (nI n2)])), (ha2n, .inl (cy 0, 16, .inl h2)), (ha3, .inr (5, [.ref ha3n, .int b3, .int (nI n3)])), (ha3n, .inl (cy 0, 16, .inl h3))] H := hP9
            replace hD : va_D A [(ta, .inr (7, [.ref a_flow, .ref a_draft, .ref a_fence, .ref a_past, .ref a_slots, .ref a_slotKinds, .ref ha, .ref a_speedX, .ref a_speedY, .ref a_leftward, .ref a_change, .ref a_table, .int fi])), (ha, .inl (cy 4, 4, .inr (.inr (.inr (.inr (yk_refs [ha0, ha1, ha2, ha3])))))), (ha0, .inr (5, [.ref ha0n, .int b0, .int (nI n0)])), (ha0n, .inl (cy 0, 16, .inl h0)), (ha1, .inr (5, [.ref ha1n, .int b1, .int (nI n1)])), (ha1n, .inl (cy 0, 16, .inl h1)), (ha2, .inr (5, [.ref ha2n, .int b2, .int (nI n2)])), (ha2n, .inl (cy 0, 16, .inl h2)), (ha3, .inr (5, [.ref ha3n, .int b3, .int (nI n3)])), (ha3n, .inl (cy 0, 16, .inl h3))] := hD9
            replace hS := hS9
            clear hP9 hD9 hS9
            refine lv_if_ne (tgt := 53) hx hb dX7_copy_42 (by decide) (fun hc43 => ?_) (fun hc43 => ?_)
            · replace hF := hF.trans (if_neg hc43)
              refine lv_aload_n hx hb dX7_copy_53 rfl (lv_at hl 2 rfl) ?_
              refine lv_ldcw (v := (-1000002)) hx hb hown (hts _ kX7_copy_2) dX7_copy_54 ?_
              refine yk_i [0] (va_runV (As := [.int (-1000002)]) (rest := []) ⟨hx, hb, hml, hown, hts⟩ (c_X7_finding l D cy ta a_flow a_draft a_fence a_past a_slots a_slotKinds ha a_speedX a_speedY a_leftward a_change a_table fi (-1000002) H.size) (cwV 1 hts gX7_copy_X7_finding rfl rfl rfl hv_X7_finding (yk_room hRf hRl rfl rfl)) (yk_pv (q := (RX7, TX7, 13)) hG hA hS hK hP hD [0] (by decide +kernel) rfl rfl rfl) rfl rfl hl.1 rfl (lv_room (Nat.le_of_ble_eq_true rfl)) dX7_copy_57 ⟨Nat.zero_le _, Nat.zero_le _⟩) hP hD hS hA rfl (Eq.trans (b := [ta]) rfl rfl) (fun H locs hP9 hD9 hS9 => ?_)
              replace hP : va_P D vwCl [(ta, .inr (7, [.ref a_flow, .ref a_draft, .ref a_fence, .ref a_past, .ref a_slots, .ref a_slotKinds, .ref ha, .ref a_speedX, .ref a_speedY, .ref a_leftward, .ref a_change, .ref a_table, .int ((f_X7_finding fi (-1000002)).2)])), (ha, .inl (cy 4, 4, .inr (.inr (.inr (.inr (yk_refs [ha0, ha1, ha2, ha3])))))), (ha0, .inr (5, [.ref ha0n, .int b0, .int (nI n0)])), (ha0n, .inl (cy 0, 16, .inl h0)), (ha1, .inr (5, [.ref ha1n, .int b1, .int (nI n1)])), (ha1n, .inl (cy 0, 16, .inl h1)), (ha2, .inr (5, [.ref ha2n, .int b2, .int (nI n2)])), (ha2n, .inl (cy 0, 16, .inl h2)), (ha3, .inr (5, [.ref ha3n, .int b3, .int (nI n3)])), (ha3n, .inl (cy 0, 16, .inl h3))] H := hP9
              replace hD : va_D A [(ta, .inr (7, [.ref a_flow, .ref a_draft, .ref a_fence, .ref a_past, .ref a_slots, .ref a_slotKinds, .ref ha, .ref a_speedX, .ref a_speedY, .ref a_leftward, .ref a_change, .ref a_table, .int ((f_X7_finding fi (-1000002)).2)])), (ha, .inl (cy 4, 4, .inr (.inr (.inr (.inr (yk_refs [ha0, ha1, ha2, ha3])))))), (ha0, .inr (5, [.ref ha0n, .int b0, .int (nI n0)])), (ha0n, .inl (cy 0, 16, .inl h0)), (ha1, .inr (5, [.ref ha1n, .int b1, .int (nI n1)])), (ha1n, .inl (cy 0, 16, .inl h1)), (ha2, .inr (5, [.ref ha2n, .int b2, .int (nI n2)])), (ha2n, .inl (cy 0, 16, .inl h2)), (ha3, .inr (5, [.ref ha3n, .int b3, .int (nI n3)])), (ha3n, .inl (cy 0, 16, .inl h3))] := hD9
              replace hS := hS9
              clear hP9 hD9 hS9
              have hF : f_X7_copy h0 b0 n0 h1 b1 n1 h2 b2 n2 h3 b3 n3 fi px pf py po pn = (((f_X7_finding fi (-1000002)).1), ((f_X7_finding fi (-1000002)).2), h0, h1, h2, h3) := hF
              have hf0 := yk_fst hF
              have hg0 := yk_snd hF
              have hf1 := yk_fst hg0
              have hg1 := yk_snd hg0
              have hf2 := yk_fst hg1
              have hg2 := yk_snd hg1
              have hf3 := yk_fst hg2
              have hg3 := yk_snd hg2
              have hf4 := yk_fst hg3
              have hg4 := yk_snd hg3
              rw [hf0, hf1, hf2, hf3, hf4, hg4] at hQ
              exact hQ _ _ _ _ dX7_copy_60 hP hS
            · replace hF := hF.trans (if_pos hc43)
              refine lv_aload hx hb dX7_copy_45 (lv_at hl 0 rfl) ?_
              refine yk_i [2, 3] (va_runV (As := []) (rest := []) ⟨hx, hb, hml, hown, hts⟩ (c_X5_isMissing l D cy ha0 ha0n h0 b0 n0 H.size) (cwV 0 hts gX7_copy_X5_isMissing rfl rfl rfl hv_X5_isMissing (yk_room hRf hRl rfl rfl)) (yk_pv (q := (RX5, TX5, 3)) hG hA hS hK hP hD [2, 3] (by decide +kernel) rfl rfl rfl) rfl rfl hl.1 rfl (lv_room (Nat.le_of_ble_eq_true rfl)) dX7_copy_47 ⟨Nat.zero_le _, Nat.zero_le _⟩) hP hD hS hA rfl (Eq.trans (b := [ha0, ha0n]) rfl rfl) (fun H locs hP9 hD9 hS9 => ?_)
              replace hP : va_P D vwCl [(ta, .inr (7, [.ref a_flow, .ref a_draft, .ref a_fence, .ref a_past, .ref a_slots, .ref a_slotKinds, .ref ha, .ref a_speedX, .ref a_speedY, .ref a_leftward, .ref a_change, .ref a_table, .int fi])), (ha, .inl (cy 4, 4, .inr (.inr (.inr (.inr (yk_refs [ha0, ha1, ha2, ha3])))))), (ha0, .inr (5, [.ref ha0n, .int b0, .int (nI n0)])), (ha0n, .inl (cy 0, 16, .inl h0)), (ha1, .inr (5, [.ref ha1n, .int b1, .int (nI n1)])), (ha1n, .inl (cy 0, 16, .inl h1)), (ha2, .inr (5, [.ref ha2n, .int b2, .int (nI n2)])), (ha2n, .inl (cy 0, 16, .inl h2)), (ha3, .inr (5, [.ref ha3n, .int b3, .int (nI n3)])), (ha3n, .inl (cy 0, 16, .inl h3))] H := hP9
              replace hD : va_D A [(ta, .inr (7, [.ref a_flow, .ref a_draft, .ref a_fence, .ref a_past, .ref a_slots, .ref a_slotKinds, .ref ha, .ref a_speedX, .ref a_speedY, .ref a_leftward, .ref a_change, .ref a_table, .int fi])), (ha, .inl (cy 4, 4, .inr (.inr (.inr (.inr (yk_refs [ha0, ha1, ha2, ha3])))))), (ha0, .inr (5, [.ref ha0n, .int b0, .int (nI n0)])), (ha0n, .inl (cy 0, 16, .inl h0)), (ha1, .inr (5, [.ref ha1n, .int b1, .int (nI n1)])), (ha1n, .inl (cy 0, 16, .inl h1)), (ha2, .inr (5, [.ref ha2n, .int b2, .int (nI n2)])), (ha2n, .inl (cy 0, 16, .inl h2)), (ha3, .inr (5, [.ref ha3n, .int b3, .int (nI n3)])), (ha3n, .inl (cy 0, 16, .inl h3))] := hD9
              replace hS := hS9
              clear hP9 hD9 hS9
              refine lv_if_eq (tgt := 61) hx hb dX7_copy_50 (by decide) (fun hc44 => ?_) (fun hc44 => ?_)
              · replace hF := hF.trans (if_pos hc44)
                refine lv_aload hx hb dX7_copy_61 (lv_at hl 1 rfl) ?_
                refine va_get (D := D) (ci := 5) (v := .int b1) (C := RX5) (T := TX5) (N := 3) hx hb hts uX7_copy_X5 hown hK hP 4 rfl rfl 1 (by decide) (hts _ kX7_copy_3) (fun _ h9 => h9) rfl dX7_copy_63 ?_
                refine lv_aload hx hb dX7_copy_66 (lv_at hl 0 rfl) ?_
                refine va_get (D := D) (ci := 5) (v := .int b0) (C := RX5) (T := TX5) (N := 3) hx hb hts uX7_copy_X5 hown hK hP 2 rfl rfl 1 (by decide) (hts _ kX7_copy_3) (fun _ h9 => h9) rfl dX7_copy_68 ?_
                refine lv_icmp_eq (tgt := 81) hx hb dX7_copy_71 (by decide) (fun hc45 => ?_) (fun hc45 => ?_)
                · replace hF := hF.trans (if_pos hc45)
                  refine lv_aload hx hb dX7_copy_81 (lv_at hl 1 rfl) ?_
                  refine lv_iload_n hx hb dX7_copy_83 rfl (lv_at hl 4 rfl) ?_
                  refine lv_iload hx hb dX7_copy_84 (lv_at hl 7 rfl) ?_
                  refine yk_i [4, 5] (va_runV (As := [.int pf, .int pn]) (rest := []) ⟨hx, hb, hml, hown, hts⟩ (c_X5_hasRange l D cy ha1 ha1n h1 b1 n1 pf pn hn1 H.size) (cwV 2 hts gX7_copy_X5_hasRange rfl rfl rfl hv_X5_hasRange (yk_room hRf hRl rfl rfl)) (yk_pv (q := (RX5, TX5, 3)) hG hA hS hK hP hD [4, 5] (by decide +kernel) rfl rfl rfl) rfl rfl hl.1 rfl (lv_room (Nat.le_of_ble_eq_true rfl)) dX7_copy_86 ⟨Nat.zero_le _, Nat.zero_le _⟩) hP hD hS hA rfl (Eq.trans (b := [ha1, ha1n]) rfl rfl) (fun H locs hP9 hD9 hS9 => ?_)
                  replace hP : va_P D vwCl [(ta, .inr (7, [.ref a_flow, .ref a_draft, .ref a_fence, .ref a_past, .ref a_slots, .ref a_slotKinds, .ref ha, .ref a_speedX, .ref a_speedY, .ref a_leftward, .ref a_change, .ref a_table, .int fi])), (ha, .inl (cy 4, 4, .inr (.inr (.inr (.inr (yk_refs [ha0, ha1, ha2, ha3])))))), (ha0, .inr (5, [.ref ha0n, .int b0, .int (nI n0)])), (ha0n, .inl (cy 0, 16, .inl h0)), (ha1, .inr (5, [.ref ha1n, .int b1, .int (nI n1)])), (ha1n, .inl (cy 0, 16, .inl h1)), (ha2, .inr (5, [.ref ha2n, .int b2, .int (nI n2)])), (ha2n, .inl (cy 0, 16, .inl h2)), (ha3, .inr (5, [.ref ha3n, .int b3, .int (nI n3)])), (ha3n, .inl (cy 0, 16, .inl h3))] H := hP9
                  replace hD : va_D A [(ta, .inr (7, [.ref a_flow, .ref a_draft, .ref a_fence, .ref a_past, .ref a_slots, .ref a_slotKinds, .ref ha, .ref a_speedX, .ref a_speedY, .ref a_leftward, .ref a_change, .ref a_table, .int fi])), (ha, .inl (cy 4, 4, .inr (.inr (.inr (.inr (yk_refs [ha0, ha1, ha2, ha3])))))), (ha0, .inr (5, [.ref ha0n, .int b0, .int (nI n0)])), (ha0n, .inl (cy 0, 16, .inl h0)), (ha1, .inr (5, [.ref ha1n, .int b1, .int (nI n1)])), (ha1n, .inl (cy 0, 16, .inl h1)), (ha2, .inr (5, [.ref ha2n, .int b2, .int (nI n2)])), (ha2n, .inl (cy 0, 16, .inl h2)), (ha3, .inr (5, [.ref ha3n, .int b3, .int (nI n3)])), (ha3n, .inl (cy 0, 16, .inl h3))] := hD9
                  replace hS := hS9
                  clear hP9 hD9 hS9
                  refine lv_if_eq (tgt := 104) hx hb dX7_copy_89 (by decide) (fun hc46 => ?_) (fun hc46 => ?_)
                  · replace hF := hF.trans (if_pos hc46)
                    refine lv_aload_n hx hb dX7_copy_104 rfl (lv_at hl 2 rfl) ?_
                    refine lv_ldc (v := (-1000001)) hx hb hown (hts _ kX7_copy_0) dX7_copy_105 ?_
                    refine yk_i [0] (va_runV (As := [.int (-1000001)]) (rest := []) ⟨hx, hb, hml, hown, hts⟩ (c_X7_finding l D cy ta a_flow a_draft a_fence a_past a_slots a_slotKinds ha a_speedX a_speedY a_leftward a_change a_table fi (-1000001) H.size) (cwV 1 hts gX7_copy_X7_finding rfl rfl rfl hv_X7_finding (yk_room hRf hRl rfl rfl)) (yk_pv (q := (RX7, TX7, 13)) hG hA hS hK hP hD [0] (by decide +kernel) rfl rfl rfl) rfl rfl hl.1 rfl (lv_room (Nat.le_of_ble_eq_true rfl)) dX7_copy_107 ⟨Nat.zero_le _, Nat.zero_le _⟩) hP hD hS hA rfl (Eq.trans (b := [ta]) rfl rfl) (fun H locs hP9 hD9 hS9 => ?_)
                    replace hP : va_P D vwCl [(ta, .inr (7, [.ref a_flow, .ref a_draft, .ref a_fence, .ref a_past, .ref a_slots, .ref a_slotKinds, .ref ha, .ref a_speedX, .ref a_speedY, .ref a_leftward, .ref a_change, .ref a_table, .int ((f_X7_finding fi (-1000001)).2)])), (ha, .inl (cy 4, 4, .inr (.inr (.inr (.inr (yk_refs [ha0, ha1, ha2, ha3])))))), (ha0, .inr (5, [.ref ha0n, .int b0, .int (nI n0)])), (ha0n, .inl (cy 0, 16, .inl h0)), (ha1, .inr (5, [.ref ha1n, .int b1, .int (nI n1)])), (ha1n, .inl (cy 0, 16, .inl h1)), (ha2, .inr (5, [.ref ha2n, .int b2, .int (nI n2)])), (ha2n, .inl (cy 0, 16, .inl h2)), (ha3, .inr (5, [.ref ha3n, .int b3, .int (nI n3)])), (ha3n, .inl (cy 0, 16, .inl h3))] H := hP9
                    replace hD : va_D A [(ta, .inr (7, [.ref a_flow, .ref a_draft, .ref a_fence, .ref a_past, .ref a_slots, .ref a_slotKinds, .ref ha, .ref a_speedX, .ref a_speedY, .ref a_leftward, .ref a_change, .ref a_table, .int ((f_X7_finding fi (-1000001)).2)])), (ha, .inl (cy 4, 4, .inr (.inr (.inr (.inr (yk_refs [ha0, ha1, ha2, ha3])))))), (ha0, .inr (5, [.ref ha0n, .int b0, .int (nI n0)])), (ha0n, .inl (cy 0, 16, .inl h0)), (ha1, .inr (5, [.ref ha1n, .int b1, .int (nI n1)])), (ha1n, .inl (cy 0, 16, .inl h1)), (ha2, .inr (5, [.ref ha2n, .int b2, .int (nI n2)])), (ha2n, .inl (cy 0, 16, .inl h2)), (ha3, .inr (5, [.ref ha3n, .int b3, .int (nI n3)])), (ha3n, .inl (cy 0, 16, .inl h3))] := hD9
                    replace hS := hS9
                    clear hP9 hD9 hS9
                    have hF : f_X7_copy h0 b0 n0 h1 b1 n1 h2 b2 n2 h3 b3 n3 fi px pf py po pn = (((f_X7_finding fi (-1000001)).1), ((f_X7_finding fi (-1000001)).2), h0, h1, h2, h3) := hF
                    have hf0 := yk_fst hF
                    have hg0 := yk_snd hF
                    have hf1 := yk_fst hg0
                    have hg1 := yk_snd hg0
                    have hf2 := yk_fst hg1
                    have hg2 := yk_snd hg1
                    have hf3 := yk_fst hg2
                    have hg3 := yk_snd hg2
                    have hf4 := yk_fst hg3
                    have hg4 := yk_snd hg3
                    rw [hf0, hf1, hf2, hf3, hf4, hg4] at hQ
                    exact hQ _ _ _ _ dX7_copy_110 hP hS
                  · replace hF := hF.trans (if_neg hc46)
                    refine lv_aload hx hb dX7_copy_92 (lv_at hl 0 rfl) ?_
                    refine lv_iload hx hb dX7_copy_94 (lv_at hl 6 rfl) ?_
                    refine lv_iload hx hb dX7_copy_96 (lv_at hl 7 rfl) ?_
                    refine yk_i [2, 3] (va_runV (As := [.int po, .int pn]) (rest := []) ⟨hx, hb, hml, hown, hts⟩ (c_X5_hasRange l D cy ha0 ha0n h0 b0 n0 po pn hn0 H.size) (cwV 2 hts gX7_copy_X5_hasRange rfl rfl rfl hv_X5_hasRange (yk_room hRf hRl rfl rfl)) (yk_pv (q := (RX5, TX5, 3)) hG hA hS hK hP hD [2, 3] (by decide +kernel) rfl rfl rfl) rfl rfl hl.1 rfl (lv_room (Nat.le_of_ble_eq_true rfl)) dX7_copy_98 ⟨Nat.zero_le _, Nat.zero_le _⟩) hP hD hS hA rfl (Eq.trans (b := [ha0, ha0n]) rfl rfl) (fun H locs hP9 hD9 hS9 => ?_)
                    replace hP : va_P D vwCl [(ta, .inr (7, [.ref a_flow, .ref a_draft, .ref a_fence, .ref a_past, .ref a_slots, .ref a_slotKinds, .ref ha, .ref a_speedX, .ref a_speedY, .ref a_leftward, .ref a_change, .ref a_table, .int fi])), (ha, .inl (cy 4, 4, .inr (.inr (.inr (.inr (yk_refs [ha0, ha1, ha2, ha3])))))), (ha0, .inr (5, [.ref ha0n, .int b0, .int (nI n0)])), (ha0n, .inl (cy 0, 16, .inl h0)), (ha1, .inr (5, [.ref ha1n, .int b1, .int (nI n1)])), (ha1n, .inl (cy 0, 16, .inl h1)), (ha2, .inr (5, [.ref ha2n, .int b2, .int (nI n2)])), (ha2n, .inl (cy 0, 16, .inl h2)), (ha3, .inr (5, [.ref ha3n, .int b3, .int (nI n3)])), (ha3n, .inl (cy 0, 16, .inl h3))] H := hP9
                    replace hD : va_D A [(ta, .inr (7, [.ref a_flow, .ref a_draft, .ref a_fence, .ref a_past, .ref a_slots, .ref a_slotKinds, .ref ha, .ref a_speedX, .ref a_speedY, .ref a_leftward, .ref a_change, .ref a_table, .int fi])), (ha, .inl (cy 4, 4, .inr (.inr (.inr (.inr (yk_refs [ha0, ha1, ha2, ha3])))))), (ha0, .inr (5, [.ref ha0n, .int b0, .int (nI n0)])), (ha0n, .inl (cy 0, 16, .inl h0)), (ha1, .inr (5, [.ref ha1n, .int b1, .int (nI n1)])), (ha1n, .inl (cy 0, 16, .inl h1)), (ha2, .inr (5, [.ref ha2n, .int b2, .int (nI n2)])), (ha2n, .inl (cy 0, 16, .inl h2)), (ha3, .inr (5, [.ref ha3n, .int b3, .int (nI n3)])), (ha3n, .inl (cy 0, 16, .inl h3))] := hD9
                    replace hS := hS9
                    clear hP9 hD9 hS9
                    refine lv_if_ne (tgt := 111) hx hb dX7_copy_101 (by decide) (fun hc47 => ?_) (fun hc47 => ?_)
                    · replace hF := hF.trans (if_neg hc47)
                      have hq8 := hr_ok (n := n1) (x := pf) (y := pn) (by omega) (by assumption)
                      have hq9 := hr_ok (n := n0) (x := po) (y := pn) (by omega) (by assumption)
                      have hq48 : pf = nI pf.toNatClampNeg := hq8.1.1
                      have hq48b : pf.toNatClampNeg < 17 := hq8.1.2
                      rw [hq48] at hl
                      have hq49 : po = nI po.toNatClampNeg := hq9.1.1
                      have hq49b : po.toNatClampNeg < 17 := hq9.1.2
                      rw [hq49] at hl
                      have hq50 : pn = nI pn.toNatClampNeg := hq8.2.1.1
                      have hq50b : pn.toNatClampNeg < 17 := hq8.2.1.2
                      rw [hq50] at hl
                      refine lv_aload hx hb dX7_copy_111 (lv_at hl 1 rfl) ?_
                      refine va_get (D := D) (ci := 5) (v := .ref ha1n) (C := RX5) (T := TX5) (N := 3) hx hb hts uX7_copy_X5 hown hK hP 4 rfl rfl 0 (by decide) (hts _ kX7_copy_4) (fun _ h9 => h9) rfl dX7_copy_113 ?_
                      refine lv_iload_n hx hb dX7_copy_116 rfl (lv_at hl 4 rfl) ?_
                      refine lv_aload hx hb dX7_copy_117 (lv_at hl 0 rfl) ?_
                      refine va_get (D := D) (ci := 5) (v := .ref ha0n) (C := RX5) (T := TX5) (N := 3) hx hb hts uX7_copy_X5 hown hK hP 2 rfl rfl 0 (by decide) (hts _ kX7_copy_4) (fun _ h9 => h9) rfl dX7_copy_119 ?_
                      refine lv_iload hx hb dX7_copy_122 (lv_at hl 6 rfl) ?_
                      refine lv_iload hx hb dX7_copy_124 (lv_at hl 7 rfl) ?_
                      refine yk_cpy (sp := pf.toNatClampNeg) (dp := po.toNatClampNeg) (n := pn.toNatClampNeg) hx hb (hml.trans hl.1.symm) hown (hts _ kX7_copy_5) (hts _ kX7_copy_6) (hts _ kX7_copy_7) (hts _ kX7_copy_8) hK hP hD hS 5 3 rfl rfl rfl rfl (⟨by omega, by omega⟩) (by omega) (by omega) (by rw [hRf]; exact Nat.le_of_ble_eq_true rfl) (by rw [hRl]; exact Nat.le_of_ble_eq_true rfl) dX7_copy_126 (fun H locs hP9 hD9 hS9 => ?_)
                      replace hP : va_P D vwCl [(ta, .inr (7, [.ref a_flow, .ref a_draft, .ref a_fence, .ref a_past, .ref a_slots, .ref a_slotKinds, .ref ha, .ref a_speedX, .ref a_speedY, .ref a_leftward, .ref a_change, .ref a_table, .int fi])), (ha, .inl (cy 4, 4, .inr (.inr (.inr (.inr (yk_refs [ha0, ha1, ha2, ha3])))))), (ha0, .inr (5, [.ref ha0n, .int b0, .int (nI n0)])), (ha0n, .inl (cy 0, 16, .inl (va_cpy h1 h0 pf.toNatClampNeg po.toNatClampNeg pn.toNatClampNeg))), (ha1, .inr (5, [.ref ha1n, .int b1, .int (nI n1)])), (ha1n, .inl (cy 0, 16, .inl h1)), (ha2, .inr (5, [.ref ha2n, .int b2, .int (nI n2)])), (ha2n, .inl (cy 0, 16, .inl h2)), (ha3, .inr (5, [.ref ha3n, .int b3, .int (nI n3)])), (ha3n, .inl (cy 0, 16, .inl h3))] H := hP9
                      replace hD : va_D A [(ta, .inr (7, [.ref a_flow, .ref a_draft, .ref a_fence, .ref a_past, .ref a_slots, .ref a_slotKinds, .ref ha, .ref a_speedX, .ref a_speedY, .ref a_leftward, .ref a_change, .ref a_table, .int fi])), (ha, .inl (cy 4, 4, .inr (.inr (.inr (.inr (yk_refs [ha0, ha1, ha2, ha3])))))), (ha0, .inr (5, [.ref ha0n, .int b0, .int (nI n0)])), (ha0n, .inl (cy 0, 16, .inl (va_cpy h1 h0 pf.toNatClampNeg po.toNatClampNeg pn.toNatClampNeg))), (ha1, .inr (5, [.ref ha1n, .int b1, .int (nI n1)])), (ha1n, .inl (cy 0, 16, .inl h1)), (ha2, .inr (5, [.ref ha2n, .int b2, .int (nI n2)])), (ha2n, .inl (cy 0, 16, .inl h2)), (ha3, .inr (5, [.ref ha3n, .int b3, .int (nI n3)])), (ha3n, .inl (cy 0, 16, .inl h3))] := hD9
                      replace hS := hS9
                      clear hP9 hD9 hS9
                      refine lv_iload hx hb dX7_copy_129 (lv_at hl 7 rfl) ?_
                      have hF : f_X7_copy h0 b0 n0 h1 b1 n1 h2 b2 n2 h3 b3 n3 fi px pf py po pn = ((nI pn.toNatClampNeg), fi, (va_cpy h1 h0 pf.toNatClampNeg po.toNatClampNeg pn.toNatClampNeg), h1, h2, h3) := hF
                      have hf0 := yk_fst hF
                      have hg0 := yk_snd hF
                      have hf1 := yk_fst hg0
                      have hg1 := yk_snd hg0
                      have hf2 := yk_fst hg1
                      have hg2 := yk_snd hg1
                      have hf3 := yk_fst hg2
                      have hg3 := yk_snd hg2
                      have hf4 := yk_fst hg3
                      have hg4 := yk_snd hg3
                      rw [hf0, hf1, hf2, hf3, hf4, hg4] at hQ
                      exact hQ _ _ _ _ dX7_copy_131 hP hS
                    · replace hF := hF.trans (if_pos hc47)
                      refine lv_aload_n hx hb dX7_copy_104 rfl (lv_at hl 2 rfl) ?_
                      refine lv_ldc (v := (-1000001)) hx hb hown (hts _ kX7_copy_0) dX7_copy_105 ?_
                      refine yk_i [0] (va_runV (As := [.int (-1000001)]) (rest := []) ⟨hx, hb, hml, hown, hts⟩ (c_X7_finding l D cy ta a_flow a_draft a_fence a_past a_slots a_slotKinds ha a_speedX a_speedY a_leftward a_change a_table fi (-1000001) H.size) (cwV 1 hts gX7_copy_X7_finding rfl rfl rfl hv_X7_finding (yk_room hRf hRl rfl rfl)) (yk_pv (q := (RX7, TX7, 13)) hG hA hS hK hP hD [0] (by decide +kernel) rfl rfl rfl) rfl rfl hl.1 rfl (lv_room (Nat.le_of_ble_eq_true rfl)) dX7_copy_107 ⟨Nat.zero_le _, Nat.zero_le _⟩) hP hD hS hA rfl (Eq.trans (b := [ta]) rfl rfl) (fun H locs hP9 hD9 hS9 => ?_)
                      replace hP : va_P D vwCl [(ta, .inr (7, [.ref a_flow, .ref a_draft, .ref a_fence, .ref a_past, .ref a_slots, .ref a_slotKinds, .ref ha, .ref a_speedX, .ref a_speedY, .ref a_leftward, .ref a_change, .ref a_table, .int ((f_X7_finding fi (-1000001)).2)])), (ha, .inl (cy 4, 4, .inr (.inr (.inr (.inr (yk_refs [ha0, ha1, ha2, ha3])))))), (ha0, .inr (5, [.ref ha0n, .int b0, .int (nI n0)])), (ha0n, .inl (cy 0, 16, .inl h0)), (ha1, .inr (5, [.ref ha1n, .int b1, .int (nI n1)])), (ha1n, .inl (cy 0, 16, .inl h1)), (ha2, .inr (5, [.ref ha2n, .int b2, .int (nI n2)])), (ha2n, .inl (cy 0, 16, .inl h2)), (ha3, .inr (5, [.ref ha3n, .int b3, .int (nI n3)])), (ha3n, .inl (cy 0, 16, .inl h3))] H := hP9
                      replace hD : va_D A [(ta, .inr (7, [.ref a_flow, .ref a_draft, .ref a_fence, .ref a_past, .ref a_slots, .ref a_slotKinds, .ref ha, .ref a_speedX, .ref a_speedY, .ref a_leftward, .ref a_change, .ref a_table, .int ((f_X7_finding fi (-1000001)).2)])), (ha, .inl (cy 4, 4, .inr (.inr (.inr (.inr (yk_refs [ha0, ha1, ha2, ha3])))))), (ha0, .inr (5, [.ref ha0n, .int b0, .int (nI n0)])), (ha0n, .inl (cy 0, 16, .inl h0)), (ha1, .inr (5, [.ref ha1n, .int b1, .int (nI n1)])), (ha1n, .inl (cy 0, 16, .inl h1)), (ha2, .inr (5, [.ref ha2n, .int b2, .int (nI n2)])), (ha2n, .inl (cy 0, 16, .inl h2)), (ha3, .inr (5, [.ref ha3n, .int b3, .int (nI n3)])), (ha3n, .inl (cy 0, 16, .inl h3))] := hD9
                      replace hS := hS9
                      clear hP9 hD9 hS9
                      have hF : f_X7_copy h0 b0 n0 h1 b1 n1 h2 b2 n2 h3 b3 n3 fi px pf py po pn = (((f_X7_finding fi (-1000001)).1), ((f_X7_finding fi (-1000001)).2), h0, h1, h2, h3) := hF
                      have hf0 := yk_fst hF
                      have hg0 := yk_snd hF
                      have hf1 := yk_fst hg0
                      have hg1 := yk_snd hg0
                      have hf2 := yk_fst hg1
                      have hg2 := yk_snd hg1
                      have hf3 := yk_fst hg2
                      have hg3 := yk_snd hg2
                      have hf4 := yk_fst hg3
                      have hg4 := yk_snd hg3
                      rw [hf0, hf1, hf2, hf3, hf4, hg4] at hQ
                      exact hQ _ _ _ _ dX7_copy_110 hP hS
                · replace hF := hF.trans (if_neg hc45)
                  refine lv_aload_n hx hb dX7_copy_74 rfl (lv_at hl 2 rfl) ?_
                  refine lv_ldc (v := (-1000004)) hx hb hown (hts _ kX7_copy_9) dX7_copy_75 ?_
                  refine yk_i [0] (va_runV (As := [.int (-1000004)]) (rest := []) ⟨hx, hb, hml, hown, hts⟩ (c_X7_finding l D cy ta a_flow a_draft a_fence a_past a_slots a_slotKinds ha a_speedX a_speedY a_leftward a_change a_table fi (-1000004) H.size) (cwV 1 hts gX7_copy_X7_finding rfl rfl rfl hv_X7_finding (yk_room hRf hRl rfl rfl)) (yk_pv (q := (RX7, TX7, 13)) hG hA hS hK hP hD [0] (by decide +kernel) rfl rfl rfl) rfl rfl hl.1 rfl (lv_room (Nat.le_of_ble_eq_true rfl)) dX7_copy_77 ⟨Nat.zero_le _, Nat.zero_le _⟩) hP hD hS hA rfl (Eq.trans (b := [ta]) rfl rfl) (fun H locs hP9 hD9 hS9 => ?_)
                  replace hP : va_P D vwCl [(ta, .inr (7, [.ref a_flow, .ref a_draft, .ref a_fence, .ref a_past, .ref a_slots, .ref a_slotKinds, .ref ha, .ref a_speedX, .ref a_speedY, .ref a_leftward, .ref a_change, .ref a_table, .int ((f_X7_finding fi (-1000004)).2)])), (ha, .inl (cy 4, 4, .inr (.inr (.inr (.inr (yk_refs [ha0, ha1, ha2, ha3])))))), (ha0, .inr (5, [.ref ha0n, .int b0, .int (nI n0)])), (ha0n, .inl (cy 0, 16, .inl h0)), (ha1, .inr (5, [.ref ha1n, .int b1, .int (nI n1)])), (ha1n, .inl (cy 0, 16, .inl h1)), (ha2, .inr (5, [.ref ha2n, .int b2, .int (nI n2)])), (ha2n, .inl (cy 0, 16, .inl h2)), (ha3, .inr (5, [.ref ha3n, .int b3, .int (nI n3)])), (ha3n, .inl (cy 0, 16, .inl h3))] H := hP9
                  replace hD : va_D A [(ta, .inr (7, [.ref a_flow, .ref a_draft, .ref a_fence, .ref a_past, .ref a_slots, .ref a_slotKinds, .ref ha, .ref a_speedX, .ref a_speedY, .ref a_leftward, .ref a_change, .ref a_table, .int ((f_X7_finding fi (-1000004)).2)])), (ha, .inl (cy 4, 4, .inr (.inr (.inr (.inr (yk_refs [ha0, ha1, ha2, ha3])))))), (ha0, .inr (5, [.ref ha0n, .int b0, .int (nI n0)])), (ha0n, .inl (cy 0, 16, .inl h0)), (ha1, .inr (5, [.ref ha1n, .int b1, .int (nI n1)])), (ha1n, .inl (cy 0, 16, .inl h1)), (ha2, .inr (5, [.ref ha2n, .int b2, .int (nI n2)])), (ha2n, .inl (cy 0, 16, .inl h2)), (ha3, .inr (5, [.ref ha3n, .int b3, .int (nI n3)])), (ha3n, .inl (cy 0, 16, .inl h3))] := hD9
                  replace hS := hS9
                  clear hP9 hD9 hS9
                  have hF : f_X7_copy h0 b0 n0 h1 b1 n1 h2 b2 n2 h3 b3 n3 fi px pf py po pn = (((f_X7_finding fi (-1000004)).1), ((f_X7_finding fi (-1000004)).2), h0, h1, h2, h3) := hF
                  have hf0 := yk_fst hF
                  have hg0 := yk_snd hF
                  have hf1 := yk_fst hg0
                  have hg1 := yk_snd hg0
                  have hf2 := yk_fst hg1
                  have hg2 := yk_snd hg1
                  have hf3 := yk_fst hg2
                  have hg3 := yk_snd hg2
                  have hf4 := yk_fst hg3
                  have hg4 := yk_snd hg3
                  rw [hf0, hf1, hf2, hf3, hf4, hg4] at hQ
                  exact hQ _ _ _ _ dX7_copy_80 hP hS
              · replace hF := hF.trans (if_neg hc44)
                refine lv_aload_n hx hb dX7_copy_53 rfl (lv_at hl 2 rfl) ?_
                refine lv_ldcw (v := (-1000002)) hx hb hown (hts _ kX7_copy_2) dX7_copy_54 ?_
                refine yk_i [0] (va_runV (As := [.int (-1000002)]) (rest := []) ⟨hx, hb, hml, hown, hts⟩ (c_X7_finding l D cy ta a_flow a_draft a_fence a_past a_slots a_slotKinds ha a_speedX a_speedY a_leftward a_change a_table fi (-1000002) H.size) (cwV 1 hts gX7_copy_X7_finding rfl rfl rfl hv_X7_finding (yk_room hRf hRl rfl rfl)) (yk_pv (q := (RX7, TX7, 13)) hG hA hS hK hP hD [0] (by decide +kernel) rfl rfl rfl) rfl rfl hl.1 rfl (lv_room (Nat.le_of_ble_eq_true rfl)) dX7_copy_57 ⟨Nat.zero_le _, Nat.zero_le _⟩) hP hD hS hA rfl (Eq.trans (b := [ta]) rfl rfl) (fun H locs hP9 hD9 hS9 => ?_)
                replace hP : va_P D vwCl [(ta, .inr (7, [.ref a_flow, .ref a_draft, .ref a_fence, .ref a_past, .ref a_slots, .ref a_slotKinds, .ref ha, .ref a_speedX, .ref a_speedY, .ref a_leftward, .ref a_change, .ref a_table, .int ((f_X7_finding fi (-1000002)).2)])), (ha, .inl (cy 4, 4, .inr (.inr (.inr (.inr (yk_refs [ha0, ha1, ha2, ha3])))))), (ha0, .inr (5, [.ref ha0n, .int b0, .int (nI n0)])), (ha0n, .inl (cy 0, 16, .inl h0)), (ha1, .inr (5, [.ref ha1n, .int b1, .int (nI n1)])), (ha1n, .inl (cy 0, 16, .inl h1)), (ha2, .inr (5, [.ref ha2n, .int b2, .int (nI n2)])), (ha2n, .inl (cy 0, 16, .inl h2)), (ha3, .inr (5, [.ref ha3n, .int b3, .int (nI n3)])), (ha3n, .inl (cy 0, 16, .inl h3))] H := hP9
                replace hD : va_D A [(ta, .inr (7, [.ref a_flow, .ref a_draft, .ref a_fence, .ref a_past, .ref a_slots, .ref a_slotKinds, .ref ha, .ref a_speedX, .ref a_speedY, .ref a_leftward, .ref a_change, .ref a_table, .int ((f_X7_finding fi (-1000002)).2)])), (ha, .inl (cy 4, 4, .inr (.inr (.inr (.inr (yk_refs [ha0, ha1, ha2, ha3])))))), (ha0, .inr (5, [.ref ha0n, .int b0, .int (nI n0)])), (ha0n, .inl (cy 0, 16, .inl h0)), (ha1, .inr (5, [.ref ha1n, .int b1, .int (nI n1)])), (ha1n, .inl (cy 0, 16, .inl h1)), (ha2, .inr (5, [.ref ha2n, .int b2, .int (nI n2)])), (ha2n, .inl (cy 0, 16, .inl h2)), (ha3, .inr (5, [.ref ha3n, .int b3, .int (nI n3)])), (ha3n, .inl (cy 0, 16, .inl h3))] := hD9
                replace hS := hS9
                clear hP9 hD9 hS9
                have hF : f_X7_copy h0 b0 n0 h1 b1 n1 h2 b2 n2 h3 b3 n3 fi px pf py po pn = (((f_X7_finding fi (-1000002)).1), ((f_X7_finding fi (-1000002)).2), h0, h1, h2, h3) := hF
                have hf0 := yk_fst hF
                have hg0 := yk_snd hF
                have hf1 := yk_fst hg0
                have hg1 := yk_snd hg0
                have hf2 := yk_fst hg1
                have hg2 := yk_snd hg1
                have hf3 := yk_fst hg2
                have hg3 := yk_snd hg2
                have hf4 := yk_fst hg3
                have hg4 := yk_snd hg3
                rw [hf0, hf1, hf2, hf3, hf4, hg4] at hQ
                exact hQ _ _ _ _ dX7_copy_60 hP hS
          · replace hF := hF.trans (if_neg hc42)
            by_cases hc51 : py.toNatClampNeg = 1
            · replace hF := hF.trans (if_pos hc51)
              refine yk_ti (y := nI 1) (congrArg nI hc51) ?_
              refine yk_aldq hx hb hK hP 1 4 rfl rfl 1 (by decide) (by decide) rfl dX7_copy_34 ?_
              refine lv_astore (lv' := [(7, .ref ha1), (6, .ref ha1), (0, .ref ta), (1, .int (nI px.toNatClampNeg)), (2, .int pf), (3, .int (nI py.toNatClampNeg)), (4, .int po), (5, .int pn)]) hx hb dX7_copy_35 hl (by decide) rfl (fun ls hl9 => ?_)
              replace hl := hl9
              clear hl9
              refine lv_aload hx hb dX7_copy_37 (lv_at hl 1 rfl) ?_
              refine yk_i [4, 5] (va_runV (As := []) (rest := []) ⟨hx, hb, hml, hown, hts⟩ (c_X5_isMissing l D cy ha1 ha1n h1 b1 n1 H.size) (cwV 0 hts gX7_copy_X5_isMissing rfl rfl rfl hv_X5_isMissing (yk_room hRf hRl rfl rfl)) (yk_pv (q := (RX5, TX5, 3)) hG hA hS hK hP hD [4, 5] (by decide +kernel) rfl rfl rfl) rfl rfl hl.1 rfl (lv_room (Nat.le_of_ble_eq_true rfl)) dX7_copy_39 ⟨Nat.zero_le _, Nat.zero_le _⟩) hP hD hS hA rfl (Eq.trans (b := [ha1, ha1n]) rfl rfl) (fun H locs hP9 hD9 hS9 => ?_)
              replace hP : va_P D vwCl [(ta, .inr (7, [.ref a_flow, .ref a_draft, .ref a_fence, .ref a_past, .ref a_slots, .ref a_slotKinds, .ref ha, .ref a_speedX, .ref a_speedY, .ref a_leftward, .ref a_change, .ref a_table, .int fi])), (ha, .inl (cy 4, 4, .inr (.inr (.inr (.inr (yk_refs [ha0, ha1, ha2, ha3])))))), (ha0, .inr (5, [.ref ha0n, .int b0, .int (nI n0)])), (ha0n, .inl (cy 0, 16, .inl h0)), (ha1, .inr (5, [.ref ha1n, .int b1, .int (nI n1)])), (ha1n, .inl (cy 0, 16, .inl h1)), (ha2, .inr (5, [.ref ha2n, .int b2, .int (nI n2)])), (ha2n, .inl (cy 0, 16, .inl h2)), (ha3, .inr (5, [.ref ha3n, .int b3, .int (nI n3)])), (ha3n, .inl (cy 0, 16, .inl h3))] H := hP9
              replace hD : va_D A [(ta, .inr (7, [.ref a_flow, .ref a_draft, .ref a_fence, .ref a_past, .ref a_slots, .ref a_slotKinds, .ref ha, .ref a_speedX, .ref a_speedY, .ref a_leftward, .ref a_change, .ref a_table, .int fi])), (ha, .inl (cy 4, 4, .inr (.inr (.inr (.inr (yk_refs [ha0, ha1, ha2, ha3])))))), (ha0, .inr (5, [.ref ha0n, .int b0, .int (nI n0)])), (ha0n, .inl (cy 0, 16, .inl h0)), (ha1, .inr (5, [.ref ha1n, .int b1, .int (nI n1)])), (ha1n, .inl (cy 0, 16, .inl h1)), (ha2, .inr (5, [.ref ha2n, .int b2, .int (nI n2)])), (ha2n, .inl (cy 0, 16, .inl h2)), (ha3, .inr (5, [.ref ha3n, .int b3, .int (nI n3)])), (ha3n, .inl (cy 0, 16, .inl h3))] := hD9
              replace hS := hS9
              clear hP9 hD9 hS9
              refine lv_if_ne (tgt := 53) hx hb dX7_copy_42 (by decide) (fun hc52 => ?_) (fun hc52 => ?_)
              · replace hF := hF.trans (if_neg hc52)
                refine lv_aload_n hx hb dX7_copy_53 rfl (lv_at hl 2 rfl) ?_
                refine lv_ldcw (v := (-1000002)) hx hb hown (hts _ kX7_copy_2) dX7_copy_54 ?_
                refine yk_i [0] (va_runV (As := [.int (-1000002)]) (rest := []) ⟨hx, hb, hml, hown, hts⟩ (c_X7_finding l D cy ta a_flow a_draft a_fence a_past a_slots a_slotKinds ha a_speedX a_speedY a_leftward a_change a_table fi (-1000002) H.size) (cwV 1 hts gX7_copy_X7_finding rfl rfl rfl hv_X7_finding (yk_room hRf hRl rfl rfl)) (yk_pv (q := (RX7, TX7, 13)) hG hA hS hK hP hD [0] (by decide +kernel) rfl rfl rfl) rfl rfl hl.1 rfl (lv_room (Nat.le_of_ble_eq_true rfl)) dX7_copy_57 ⟨Nat.zero_le _, Nat.zero_le _⟩) hP hD hS hA rfl (Eq.trans (b := [ta]) rfl rfl) (fun H locs hP9 hD9 hS9 => ?_)
                replace hP : va_P D vwCl [(ta, .inr (7, [.ref a_flow, .ref a_draft, .ref a_fence, .ref a_past, .ref a_slots, .ref a_slotKinds, .ref ha, .ref a_speedX, .ref a_speedY, .ref a_leftward, .ref a_change, .ref a_table, .int ((f_X7_finding fi (-1000002)).2)])), (ha, .inl (cy 4, 4, .inr (.inr (.inr (.inr (yk_refs [ha0, ha1, ha2, ha3])))))), (ha0, .inr (5, [.ref ha0n, .int b0, .int (nI n0)])), (ha0n, .inl (cy 0, 16, .inl h0)), (ha1, .inr (5, [.ref ha1n, .int b1, .int (nI n1)])), (ha1n, .inl (cy 0, 16, .inl h1)), (ha2, .inr (5, [.ref ha2n, .int b2, .int (nI n2)])), (ha2n, .inl (cy 0, 16, .inl h2)), (ha3, .inr (5, [.ref ha3n, .int b3, .int (nI n3)])), (ha3n, .inl (cy 0, 16, .inl h3))] H := hP9
                replace hD : va_D A [(ta, .inr (7, [.ref a_flow, .ref a_draft, .ref a_fence, .ref a_past, .ref a_slots, .ref a_slotKinds, .ref ha, .ref a_speedX, .ref a_speedY, .ref a_leftward, .ref a_change, .ref a_table, .int ((f_X7_finding fi (-1000002)).2)])), (ha, .inl (cy 4, 4, .inr (.inr (.inr (.inr (yk_refs [ha0, ha1, ha2, ha3])))))), (ha0, .inr (5, [.ref ha0n, .int b0, .int (nI n0)])), (ha0n, .inl (cy 0, 16, .inl h0)), (ha1, .inr (5, [.ref ha1n, .int b1, .int (nI n1)])), (ha1n, .inl (cy 0, 16, .inl h1)), (ha2, .inr (5, [.ref ha2n, .int b2, .int (nI n2)])), (ha2n, .inl (cy 0, 16, .inl h2)), (ha3, .inr (5, [.ref ha3n, .int b3, .int (nI n3)])), (ha3n, .inl (cy 0, 16, .inl h3))] := hD9
                replace hS := hS9
                clear hP9 hD9 hS9
                have hF : f_X7_copy h0 b0 n0 h1 b1 n1 h2 b2 n2 h3 b3 n3 fi px pf py po pn = (((f_X7_finding fi (-1000002)).1), ((f_X7_finding fi (-1000002)).2), h0, h1, h2, h3) := hF
                have hf0 := yk_fst hF
                have hg0 := yk_snd hF
                have hf1 := yk_fst hg0
                have hg1 := yk_snd hg0
                have hf2 := yk_fst hg1
                have hg2 := yk_snd hg1
                have hf3 := yk_fst hg2
                have hg3 := yk_snd hg2
                have hf4 := yk_fst hg3
                have hg4 := yk_snd hg3
                rw [hf0, hf1, hf2, hf3, hf4, hg4] at hQ
                exact hQ _ _ _ _ dX7_copy_60 hP hS
              · replace hF := hF.trans (if_pos hc52)
                refine lv_aload hx hb dX7_copy_45 (lv_at hl 0 rfl) ?_
                refine yk_i [4, 5] (va_runV (As := []) (rest := []) ⟨hx, hb, hml, hown, hts⟩ (c_X5_isMissing l D cy ha1 ha1n h1 b1 n1 H.size) (cwV 0 hts gX7_copy_X5_isMissing rfl rfl rfl hv_X5_isMissing (yk_room hRf hRl rfl rfl)) (yk_pv (q := (RX5, TX5, 3)) hG hA hS hK hP hD [4, 5] (by decide +kernel) rfl rfl rfl) rfl rfl hl.1 rfl (lv_room (Nat.le_of_ble_eq_true rfl)) dX7_copy_47 ⟨Nat.zero_le _, Nat.zero_le _⟩) hP hD hS hA rfl (Eq.trans (b := [ha1, ha1n]) rfl rfl) (fun H locs hP9 hD9 hS9 => ?_)
                replace hP : va_P D vwCl [(ta, .inr (7, [.ref a_flow, .ref a_draft, .ref a_fence, .ref a_past, .ref a_slots, .ref a_slotKinds, .ref ha, .ref a_speedX, .ref a_speedY, .ref a_leftward, .ref a_change, .ref a_table, .int fi])), (ha, .inl (cy 4, 4, .inr (.inr (.inr (.inr (yk_refs [ha0, ha1, ha2, ha3])))))), (ha0, .inr (5, [.ref ha0n, .int b0, .int (nI n0)])), (ha0n, .inl (cy 0, 16, .inl h0)), (ha1, .inr (5, [.ref ha1n, .int b1, .int (nI n1)])), (ha1n, .inl (cy 0, 16, .inl h1)), (ha2, .inr (5, [.ref ha2n, .int b2, .int (nI n2)])), (ha2n, .inl (cy 0, 16, .inl h2)), (ha3, .inr (5, [.ref ha3n, .int b3, .int (nI n3)])), (ha3n, .inl (cy 0, 16, .inl h3))] H := hP9
                replace hD : va_D A [(ta, .inr (7, [.ref a_flow, .ref a_draft, .ref a_fence, .ref a_past, .ref a_slots, .ref a_slotKinds, .ref ha, .ref a_speedX, .ref a_speedY, .ref a_leftward, .ref a_change, .ref a_table, .int fi])), (ha, .inl (cy 4, 4, .inr (.inr (.inr (.inr (yk_refs [ha0, ha1, ha2, ha3])))))), (ha0, .inr (5, [.ref ha0n, .int b0, .int (nI n0)])), (ha0n, .inl (cy 0, 16, .inl h0)), (ha1, .inr (5, [.ref ha1n, .int b1, .int (nI n1)])), (ha1n, .inl (cy 0, 16, .inl h1)), (ha2, .inr (5, [.ref ha2n, .int b2, .int (nI n2)])), (ha2n, .inl (cy 0, 16, .inl h2)), (ha3, .inr (5, [.ref ha3n, .int b3, .int (nI n3)])), (ha3n, .inl (cy 0, 16, .inl h3))] := hD9
                replace hS := hS9
                clear hP9 hD9 hS9
                refine lv_if_eq (tgt := 61) hx hb dX7_copy_50 (by decide) (fun hc53 => ?_) (fun hc53 => ?_)
                · replace hF := hF.trans (if_pos hc53)
                  refine lv_aload hx hb dX7_copy_61 (lv_at hl 1 rfl) ?_
                  refine va_get (D := D) (ci := 5) (v := .int b1) (C := RX5) (T := TX5) (N := 3) hx hb hts uX7_copy_X5 hown hK hP 4 rfl rfl 1 (by decide) (hts _ kX7_copy_3) (fun _ h9 => h9) rfl dX7_copy_63 ?_
                  refine lv_aload hx hb dX7_copy_66 (lv_at hl 0 rfl) ?_
                  refine va_get (D := D) (ci := 5) (v := .int b1) (C := RX5) (T := TX5) (N := 3) hx hb hts uX7_copy_X5 hown hK hP 4 rfl rfl 1 (by decide) (hts _ kX7_copy_3) (fun _ h9 => h9) rfl dX7_copy_68 ?_
                  refine lv_icmp_eq (tgt := 81) hx hb dX7_copy_71 (by decide) (fun hc54 => ?_) (fun hc54 => ?_)
                  · replace hF := hF.trans (if_pos hc54)
                    refine lv_aload hx hb dX7_copy_81 (lv_at hl 1 rfl) ?_
                    refine lv_iload_n hx hb dX7_copy_83 rfl (lv_at hl 4 rfl) ?_
                    refine lv_iload hx hb dX7_copy_84 (lv_at hl 7 rfl) ?_
                    refine yk_i [4, 5] (va_runV (As := [.int pf, .int pn]) (rest := []) ⟨hx, hb, hml, hown, hts⟩ (c_X5_hasRange l D cy ha1 ha1n h1 b1 n1 pf pn hn1 H.size) (cwV 2 hts gX7_copy_X5_hasRange rfl rfl rfl hv_X5_hasRange (yk_room hRf hRl rfl rfl)) (yk_pv (q := (RX5, TX5, 3)) hG hA hS hK hP hD [4, 5] (by decide +kernel) rfl rfl rfl) rfl rfl hl.1 rfl (lv_room (Nat.le_of_ble_eq_true rfl)) dX7_copy_86 ⟨Nat.zero_le _, Nat.zero_le _⟩) hP hD hS hA rfl (Eq.trans (b := [ha1, ha1n]) rfl rfl) (fun H locs hP9 hD9 hS9 => ?_)
                    replace hP : va_P D vwCl [(ta, .inr (7, [.ref a_flow, .ref a_draft, .ref a_fence, .ref a_past, .ref a_slots, .ref a_slotKinds, .ref ha, .ref a_speedX, .ref a_speedY, .ref a_leftward, .ref a_change, .ref a_table, .int fi])), (ha, .inl (cy 4, 4, .inr (.inr (.inr (.inr (yk_refs [ha0, ha1, ha2, ha3])))))), (ha0, .inr (5, [.ref ha0n, .int b0, .int (nI n0)])), (ha0n, .inl (cy 0, 16, .inl h0)), (ha1, .inr (5, [.ref ha1n, .int b1, .int (nI n1)])), (ha1n, .inl (cy 0, 16, .inl h1)), (ha2, .inr (5, [.ref ha2n, .int b2, .int (nI n2)])), (ha2n, .inl (cy 0, 16, .inl h2)), (ha3, .inr (5, [.ref ha3n, .int b3, .int (nI n3)])), (ha3n, .inl (cy 0, 16, .inl h3))] H := hP9
                    replace hD : va_D A [(ta, .inr (7, [.ref a_flow, .ref a_draft, .ref a_fence, .ref a_past, .ref a_slots, .ref a_slotKinds, .ref ha, .ref a_speedX, .ref a_speedY, .ref a_leftward, .ref a_change, .ref a_table, .int fi])), (ha, .inl (cy 4, 4, .inr (.inr (.inr (.inr (yk_refs [ha0, ha1, ha2, ha3])))))), (ha0, .inr (5, [.ref ha0n, .int b0, .int (nI n0)])), (ha0n, .inl (cy 0, 16, .inl h0)), (ha1, .inr (5, [.ref ha1n, .int b1, .int (nI n1)])), (ha1n, .inl (cy 0, 16, .inl h1)), (ha2, .inr (5, [.ref ha2n, .int b2, .int (nI n2)])), (ha2n, .inl (cy 0, 16, .inl h2)), (ha3, .inr (5, [.ref ha3n, .int b3, .int (nI n3)])), (ha3n, .inl (cy 0, 16, .inl h3))] := hD9
                    replace hS := hS9
                    clear hP9 hD9 hS9
                    refine lv_if_eq (tgt := 104) hx hb dX7_copy_89 (by decide) (fun hc55 => ?_) (fun hc55 => ?_)
                    · replace hF := hF.trans (if_pos hc55)
                      refine lv_aload_n hx hb dX7_copy_104 rfl (lv_at hl 2 rfl) ?_
                      refine lv_ldc (v := (-1000001)) hx hb hown (hts _ kX7_copy_0) dX7_copy_105 ?_
                      refine yk_i [0] (va_runV (As := [.int (-1000001)]) (rest := []) ⟨hx, hb, hml, hown, hts⟩ (c_X7_finding l D cy ta a_flow a_draft a_fence a_past a_slots a_slotKinds ha a_speedX a_speedY a_leftward a_change a_table fi (-1000001) H.size) (cwV 1 hts gX7_copy_X7_finding rfl rfl rfl hv_X7_finding (yk_room hRf hRl rfl rfl)) (yk_pv (q := (RX7, TX7, 13)) hG hA hS hK hP hD [0] (by decide +kernel) rfl rfl rfl) rfl rfl hl.1 rfl (lv_room (Nat.le_of_ble_eq_true rfl)) dX7_copy_107 ⟨Nat.zero_le _, Nat.zero_le _⟩) hP hD hS hA rfl (Eq.trans (b := [ta]) rfl rfl) (fun H locs hP9 hD9 hS9 => ?_)
                      replace hP : va_P D vwCl [(ta, .inr (7, [.ref a_flow, .ref a_draft, .ref a_fence, .ref a_past, .ref a_slots, .ref a_slotKinds, .ref ha, .ref a_speedX, .ref a_speedY, .ref a_leftward, .ref a_change, .ref a_table, .int ((f_X7_finding fi (-1000001)).2)])), (ha, .inl (cy 4, 4, .inr (.inr (.inr (.inr (yk_refs [ha0, ha1, ha2, ha3])))))), (ha0, .inr (5, [.ref ha0n, .int b0, .int (nI n0)])), (ha0n, .inl (cy 0, 16, .inl h0)), (ha1, .inr (5, [.ref ha1n, .int b1, .int (nI n1)])), (ha1n, .inl (cy 0, 16, .inl h1)), (ha2, .inr (5, [.ref ha2n, .int b2, .int (nI n2)])), (ha2n, .inl (cy 0, 16, .inl h2)), (ha3, .inr (5, [.ref ha3n, .int b3, .int (nI n3)])), (ha3n, .inl (cy 0, 16, .inl h3))] H := hP9
                      replace hD : va_D A [(ta, .inr (7, [.ref a_flow, .ref a_draft, .ref a_fence, .ref a_past, .ref a_slots, .ref a_slotKinds, .ref ha, .ref a_speedX, .ref a_speedY, .ref a_leftward, .ref a_change, .ref a_table, .int ((f_X7_finding fi (-1000001)).2)])), (ha, .inl (cy 4, 4, .inr (.inr (.inr (.inr (yk_refs [ha0, ha1, ha2, ha3])))))), (ha0, .inr (5, [.ref ha0n, .int b0, .int (nI n0)])), (ha0n, .inl (cy 0, 16, .inl h0)), (ha1, .inr (5, [.ref ha1n, .int b1, .int (nI n1)])), (ha1n, .inl (cy 0, 16, .inl h1)), (ha2, .inr (5, [.ref ha2n, .int b2, .int (nI n2)])), (ha2n, .inl (cy 0, 16, .inl h2)), (ha3, .inr (5, [.ref ha3n, .int b3, .int (nI n3)])), (ha3n, .inl (cy 0, 16, .inl h3))] := hD9
                      replace hS := hS9
                      clear hP9 hD9 hS9
                      have hF : f_X7_copy h0 b0 n0 h1 b1 n1 h2 b2 n2 h3 b3 n3 fi px pf py po pn = (((f_X7_finding fi (-1000001)).1), ((f_X7_finding fi (-1000001)).2), h0, h1, h2, h3) := hF
                      have hf0 := yk_fst hF
                      have hg0 := yk_snd hF
                      have hf1 := yk_fst hg0
                      have hg1 := yk_snd hg0
                      have hf2 := yk_fst hg1
                      have hg2 := yk_snd hg1
                      have hf3 := yk_fst hg2
                      have hg3 := yk_snd hg2
                      have hf4 := yk_fst hg3
                      have hg4 := yk_snd hg3
                      rw [hf0, hf1, hf2, hf3, hf4, hg4] at hQ
                      exact hQ _ _ _ _ dX7_copy_110 hP hS
                    · replace hF := hF.trans (if_neg hc55)
                      refine lv_aload hx hb dX7_copy_92 (lv_at hl 0 rfl) ?_
                      refine lv_iload hx hb dX7_copy_94 (lv_at hl 6 rfl) ?_
                      refine lv_iload hx hb dX7_copy_96 (lv_at hl 7 rfl) ?_
                      refine yk_i [4, 5] (va_runV (As := [.int po, .int pn]) (rest := []) ⟨hx, hb, hml, hown, hts⟩ (c_X5_hasRange l D cy ha1 ha1n h1 b1 n1 po pn hn1 H.size) (cwV 2 hts gX7_copy_X5_hasRange rfl rfl rfl hv_X5_hasRange (yk_room hRf hRl rfl rfl)) (yk_pv (q := (RX5, TX5, 3)) hG hA hS hK hP hD [4, 5] (by decide +kernel) rfl rfl rfl) rfl rfl hl.1 rfl (lv_room (Nat.le_of_ble_eq_true rfl)) dX7_copy_98 ⟨Nat.zero_le _, Nat.zero_le _⟩) hP hD hS hA rfl (Eq.trans (b := [ha1, ha1n]) rfl rfl) (fun H locs hP9 hD9 hS9 => ?_)
                      replace hP : va_P D vwCl [(ta, .inr (7, [.ref a_flow, .ref a_draft, .ref a_fence, .ref a_past, .ref a_slots, .ref a_slotKinds, .ref ha, .ref a_speedX, .ref a_speedY, .ref a_leftward, .ref a_change, .ref a_table, .int fi])), (ha, .inl (cy 4, 4, .inr (.inr (.inr (.inr (yk_refs [ha0, ha1, ha2, ha3])))))), (ha0, .inr (5, [.ref ha0n, .int b0, .int (nI n0)])), (ha0n, .inl (cy 0, 16, .inl h0)), (ha1, .inr (5, [.ref ha1n, .int b1, .int (nI n1)])), (ha1n, .inl (cy 0, 16, .inl h1)), (ha2, .inr (5, [.ref ha2n, .int b2, .int (nI n2)])), (ha2n, .inl (cy 0, 16, .inl h2)), (ha3, .inr (5, [.ref ha3n, .int b3, .int (nI n3)])), (ha3n, .inl (cy 0, 16, .inl h3))] H := hP9
                      replace hD : va_D A [(ta, .inr (7, [.ref a_flow, .ref a_draft, .ref a_fence, .ref a_past, .ref a_slots, .ref a_slotKinds, .ref ha, .ref a_speedX, .ref a_speedY, .ref a_leftward, .ref a_change, .ref a_table, .int fi])), (ha, .inl (cy 4, 4, .inr (.inr (.inr (.inr (yk_refs [ha0, ha1, ha2, ha3])))))), (ha0, .inr (5, [.ref ha0n, .int b0, .int (nI n0)])), (ha0n, .inl (cy 0, 16, .inl h0)), (ha1, .inr (5, [.ref ha1n, .int b1, .int (nI n1)])), (ha1n, .inl (cy 0, 16, .inl h1)), (ha2, .inr (5, [.ref ha2n, .int b2, .int (nI n2)])), (ha2n, .inl (cy 0, 16, .inl h2)), (ha3, .inr (5, [.ref ha3n, .int b3, .int (nI n3)])), (ha3n, .inl (cy 0, 16, .inl h3))] := hD9
                      replace hS := hS9
                      clear hP9 hD9 hS9
                      refine lv_if_ne (tgt := 111) hx hb dX7_copy_101 (by decide) (fun hc56 => ?_) (fun hc56 => ?_)
                      · replace hF := hF.trans (if_neg hc56)
                        have hq8 := hr_ok (n := n1) (x := pf) (y := pn) (by omega) (by assumption)
                        have hq9 := hr_ok (n := n1) (x := po) (y := pn) (by omega) (by assumption)
                        have hq57 : pf = nI pf.toNatClampNeg := hq8.1.1
                        have hq57b : pf.toNatClampNeg < 17 := hq8.1.2
                        rw [hq57] at hl
                        have hq58 : po = nI po.toNatClampNeg := hq9.1.1
                        have hq58b : po.toNatClampNeg < 17 := hq9.1.2
                        rw [hq58] at hl
                        have hq59 : pn = nI pn.toNatClampNeg := hq8.2.1.1
                        have hq59b : pn.toNatClampNeg < 17 := hq8.2.1.2
                        rw [hq59] at hl
                        refine lv_aload hx hb dX7_copy_111 (lv_at hl 1 rfl) ?_
                        refine va_get (D := D) (ci := 5) (v := .ref ha1n) (C := RX5) (T := TX5) (N := 3) hx hb hts uX7_copy_X5 hown hK hP 4 rfl rfl 0 (by decide) (hts _ kX7_copy_4) (fun _ h9 => h9) rfl dX7_copy_113 ?_
                        refine lv_iload_n hx hb dX7_copy_116 rfl (lv_at hl 4 rfl) ?_
                        refine lv_aload hx hb dX7_copy_117 (lv_at hl 0 rfl) ?_
                        refine va_get (D := D) (ci := 5) (v := .ref ha1n) (C := RX5) (T := TX5) (N := 3) hx hb hts uX7_copy_X5 hown hK hP 4 rfl rfl 0 (by decide) (hts _ kX7_copy_4) (fun _ h9 => h9) rfl dX7_copy_119 ?_
                        refine lv_iload hx hb dX7_copy_122 (lv_at hl 6 rfl) ?_
                        refine lv_iload hx hb dX7_copy_124 (lv_at hl 7 rfl) ?_
                        refine yk_cpy (sp := pf.toNatClampNeg) (dp := po.toNatClampNeg) (n := pn.toNatClampNeg) hx hb (hml.trans hl.1.symm) hown (hts _ kX7_copy_5) (hts _ kX7_copy_6) (hts _ kX7_copy_7) (hts _ kX7_copy_8) hK hP hD hS 5 5 rfl rfl rfl rfl (⟨by omega, by omega⟩) (by omega) (by omega) (by rw [hRf]; exact Nat.le_of_ble_eq_true rfl) (by rw [hRl]; exact Nat.le_of_ble_eq_true rfl) dX7_copy_126 (fun H locs hP9 hD9 hS9 => ?_)
                        replace hP : va_P D vwCl [(ta, .inr (7, [.ref a_flow, .ref a_draft, .ref a_fence, .ref a_past, .ref a_slots, .ref a_slotKinds, .ref ha, .ref a_speedX, .ref a_speedY, .ref a_leftward, .ref a_change, .ref a_table, .int fi])), (ha, .inl (cy 4, 4, .inr (.inr (.inr (.inr (yk_refs [ha0, ha1, ha2, ha3])))))), (ha0, .inr (5, [.ref ha0n, .int b0, .int (nI n0)])), (ha0n, .inl (cy 0, 16, .inl h0)), (ha1, .inr (5, [.ref ha1n, .int b1, .int (nI n1)])), (ha1n, .inl (cy 0, 16, .inl (va_cpy h1 h1 pf.toNatClampNeg po.toNatClampNeg pn.toNatClampNeg))), (ha2, .inr (5, [.ref ha2n, .int b2, .int (nI n2)])), (ha2n, .inl (cy 0, 16, .inl h2)), (ha3, .inr (5, [.ref ha3n, .int b3, .int (nI n3)])), (ha3n, .inl (cy 0, 16, .inl h3))] H := hP9
                        replace hD : va_D A [(ta, .inr (7, [.ref a_flow, .ref a_draft, .ref a_fence, .ref a_past, .ref a_slots, .ref a_slotKinds, .ref ha, .ref a_speedX, .ref a_speedY, .ref a_leftward, .ref a_change, .ref a_table, .int fi])), (ha, .inl (cy 4, 4, .inr (.inr (.inr (.inr (yk_refs [ha0, ha1, ha2, ha3])))))), (ha0, .inr (5, [.ref ha0n, .int b0, .int (nI n0)])), (ha0n, .inl (cy 0, 16, .inl h0)), (ha1, .inr (5, [.ref ha1n, .int b1, .int (nI n1)])), (ha1n, .inl (cy 0, 16, .inl (va_cpy h1 h1 pf.toNatClampNeg po.toNatClampNeg pn.toNatClampNeg))), (ha2, .inr (5, [.ref ha2n, .int b2, .int (nI n2)])), (ha2n, .inl (cy 0, 16, .inl h2)), (ha3, .inr (5, [.ref ha3n, .int b3, .int (nI n3)])), (ha3n, .inl (cy 0, 16, .inl h3))] := hD9
                        replace hS := hS9
                        clear hP9 hD9 hS9
                        refine lv_iload hx hb dX7_copy_129 (lv_at hl 7 rfl) ?_
                        have hF : f_X7_copy h0 b0 n0 h1 b1 n1 h2 b2 n2 h3 b3 n3 fi px pf py po pn = ((nI pn.toNatClampNeg), fi, h0, (va_cpy h1 h1 pf.toNatClampNeg po.toNatClampNeg pn.toNatClampNeg), h2, h3) := hF
                        have hf0 := yk_fst hF
                        have hg0 := yk_snd hF
                        have hf1 := yk_fst hg0
                        have hg1 := yk_snd hg0
                        have hf2 := yk_fst hg1
                        have hg2 := yk_snd hg1
                        have hf3 := yk_fst hg2
                        have hg3 := yk_snd hg2
                        have hf4 := yk_fst hg3
                        have hg4 := yk_snd hg3
                        rw [hf0, hf1, hf2, hf3, hf4, hg4] at hQ
                        exact hQ _ _ _ _ dX7_copy_131 hP hS
                      · replace hF := hF.trans (if_pos hc56)
                        refine lv_aload_n hx hb dX7_copy_104 rfl (lv_at hl 2 rfl) ?_
                        refine lv_ldc (v := (-1000001)) hx hb hown (hts _ kX7_copy_0) dX7_copy_105 ?_
                        refine yk_i [0] (va_runV (As := [.int (-1000001)]) (rest := []) ⟨hx, hb, hml, hown, hts⟩ (c_X7_finding l D cy ta a_flow a_draft a_fence a_past a_slots a_slotKinds ha a_speedX a_speedY a_leftward a_change a_table fi (-1000001) H.size) (cwV 1 hts gX7_copy_X7_finding rfl rfl rfl hv_X7_finding (yk_room hRf hRl rfl rfl)) (yk_pv (q := (RX7, TX7, 13)) hG hA hS hK hP hD [0] (by decide +kernel) rfl rfl rfl) rfl rfl hl.1 rfl (lv_room (Nat.le_of_ble_eq_true rfl)) dX7_copy_107 ⟨Nat.zero_le _, Nat.zero_le _⟩) hP hD hS hA rfl (Eq.trans (b := [ta]) rfl rfl) (fun H locs hP9 hD9 hS9 => ?_)
                        replace hP : va_P D vwCl [(ta, .inr (7, [.ref a_flow, .ref a_draft, .ref a_fence, .ref a_past, .ref a_slots, .ref a_slotKinds, .ref ha, .ref a_speedX, .ref a_speedY, .ref a_leftward, .ref a_change, .ref a_table, .int ((f_X7_finding fi (-1000001)).2)])), (ha, .inl (cy 4, 4, .inr (.inr (.inr (.inr (yk_refs [ha0, ha1, ha2, ha3])))))), (ha0, .inr (5, [.ref ha0n, .int b0, .int (nI n0)])), (ha0n, .inl (cy 0, 16, .inl h0)), (ha1, .inr (5, [.ref ha1n, .int b1, .int (nI n1)])), (ha1n, .inl (cy 0, 16, .inl h1)), (ha2, .inr (5, [.ref ha2n, .int b2, .int (nI n2)])), (ha2n, .inl (cy 0, 16, .inl h2)), (ha3, .inr (5, [.ref ha3n, .int b3, .int (nI n3)])), (ha3n, .inl (cy 0, 16, .inl h3))] H := hP9
                        replace hD : va_D A [(ta, .inr (7, [.ref a_flow, .ref a_draft, .ref a_fence, .ref a_past, .ref a_slots, .ref a_slotKinds, .ref ha, .ref a_speedX, .ref a_speedY, .ref a_leftward, .ref a_change, .ref a_table, .int ((f_X7_finding fi (-1000001)).2)])), (ha, .inl (cy 4, 4, .inr (.inr (.inr (.inr (yk_refs [ha0, ha1, ha2, ha3])))))), (ha0, .inr (5, [.ref ha0n, .int b0, .int (nI n0)])), (ha0n, .inl (cy 0, 16, .inl h0)), (ha1, .inr (5, [.ref ha1n, .int b1, .int (nI n1)])), (ha1n, .inl (cy 0, 16, .inl h1)), (ha2, .inr (5, [.ref ha2n, .int b2, .int (nI n2)])), (ha2n, .inl (cy 0, 16, .inl h2)), (ha3, .inr (5, [.ref ha3n, .int b3, .int (nI n3)])), (ha3n, .inl (cy 0, 16, .inl h3))] := hD9
                        replace hS := hS9
                        clear hP9 hD9 hS9
                        have hF : f_X7_copy h0 b0 n0 h1 b1 n1 h2 b2 n2 h3 b3 n3 fi px pf py po pn = (((f_X7_finding fi (-1000001)).1), ((f_X7_finding fi (-1000001)).2), h0, h1, h2, h3) := hF
                        have hf0 := yk_fst hF
                        have hg0 := yk_snd hF
                        have hf1 := yk_fst hg0
                        have hg1 := yk_snd hg0
                        have hf2 := yk_fst hg1
                        have hg2 := yk_snd hg1
                        have hf3 := yk_fst hg2
                        have hg3 := yk_snd hg2
                        have hf4 := yk_fst hg3
                        have hg4 := yk_snd hg3
                        rw [hf0, hf1, hf2, hf3, hf4, hg4] at hQ
                        exact hQ _ _ _ _ dX7_copy_110 hP hS
                  · replace hF := hF.trans (if_neg hc54)
                    refine lv_aload_n hx hb dX7_copy_74 rfl (lv_at hl 2 rfl) ?_
                    refine lv_ldc (v := (-1000004)) hx hb hown (hts _ kX7_copy_9) dX7_copy_75 ?_
                    refine yk_i [0] (va_runV (As := [.int (-1000004)]) (rest := []) ⟨hx, hb, hml, hown, hts⟩ (c_X7_finding l D cy ta a_flow a_draft a_fence a_past a_slots a_slotKinds ha a_speedX a_speedY a_leftward a_change a_table fi (-1000004) H.size) (cwV 1 hts gX7_copy_X7_finding rfl rfl rfl hv_X7_finding (yk_room hRf hRl rfl rfl)) (yk_pv (q := (RX7, TX7, 13)) hG hA hS hK hP hD [0] (by decide +kernel) rfl rfl rfl) rfl rfl hl.1 rfl (lv_room (Nat.le_of_ble_eq_true rfl)) dX7_copy_77 ⟨Nat.zero_le _, Nat.zero_le _⟩) hP hD hS hA rfl (Eq.trans (b := [ta]) rfl rfl) (fun H locs hP9 hD9 hS9 => ?_)
                    replace hP : va_P D vwCl [(ta, .inr (7, [.ref a_flow, .ref a_draft, .ref a_fence, .ref a_past, .ref a_slots, .ref a_slotKinds, .ref ha, .ref a_speedX, .ref a_speedY, .ref a_leftward, .ref a_change, .ref a_table, .int ((f_X7_finding fi (-1000004)).2)])), (ha, .inl (cy 4, 4, .inr (.inr (.inr (.inr (yk_refs [ha0, ha1, ha2, ha3])))))), (ha0, .inr (5, [.ref ha0n, .int b0, .int (nI n0)])), (ha0n, .inl (cy 0, 16, .inl h0)), (ha1, .inr (5, [.ref ha1n, .int b1, .int (nI n1)])), (ha1n, .inl (cy 0, 16, .inl h1)), (ha2, .inr (5, [.ref ha2n, .int b2, .int (nI n2)])), (ha2n, .inl (cy 0, 16, .inl h2)), (ha3, .inr (5, [.ref ha3n, .int b3, .int (nI n3)])), (ha3n, .inl (cy 0, 16, .inl h3))] H := hP9
                    replace hD : va_D A [(ta, .inr (7, [.ref a_flow, .ref a_draft, .ref a_fence, .ref a_past, .ref a_slots, .ref a_slotKinds, .ref ha, .ref a_speedX, .ref a_speedY, .ref a_leftward, .ref a_change, .ref a_table, .int ((f_X7_finding fi (-1000004)).2)])), (ha, .inl (cy 4, 4, .inr (.inr (.inr (.inr (yk_refs [ha0, ha1, ha2, ha3])))))), (ha0, .inr (5, [.ref ha0n, .int b0, .int (nI n0)])), (ha0n, .inl (cy 0, 16, .inl h0)), (ha1, .inr (5, [.ref ha1n, .int b1, .int (nI n1)])), (ha1n, .inl (cy 0, 16, .inl h1)), (ha2, .inr (5, [.ref ha2n, .int b2, .int (nI n2)])), (ha2n, .inl (cy 0, 16, .inl h2)), (ha3, .inr (5, [.ref ha3n, .int b3, .int (nI n3)])), (ha3n, .inl (cy 0, 16, .inl h3))] := hD9
                    replace hS := hS9
                    clear hP9 hD9 hS9
                    have hF : f_X7_copy h0 b0 n0 h1 b1 n1 h2 b2 n2 h3 b3 n3 fi px pf py po pn = (((f_X7_finding fi (-1000004)).1), ((f_X7_finding fi (-1000004)).2), h0, h1, h2, h3) := hF
                    have hf0 := yk_fst hF
                    have hg0 := yk_snd hF
                    have hf1 := yk_fst hg0
                    have hg1 := yk_snd hg0
                    have hf2 := yk_fst hg1
                    have hg2 := yk_snd hg1
                    have hf3 := yk_fst hg2
                    have hg3 := yk_snd hg2
                    have hf4 := yk_fst hg3
                    have hg4 := yk_snd hg3
                    rw [hf0, hf1, hf2, hf3, hf4, hg4] at hQ
                    exact hQ _ _ _ _ dX7_copy_80 hP hS
                · replace hF := hF.trans (if_neg hc53)
                  refine lv_aload_n hx hb dX7_copy_53 rfl (lv_at hl 2 rfl) ?_
                  refine lv_ldcw (v := (-1000002)) hx hb hown (hts _ kX7_copy_2) dX7_copy_54 ?_
                  refine yk_i [0] (va_runV (As := [.int (-1000002)]) (rest := []) ⟨hx, hb, hml, hown, hts⟩ (c_X7_finding l D cy ta a_flow a_draft a_fence a_past a_slots a_slotKinds ha a_speedX a_speedY a_leftward a_change a_table fi (-1000002) H.size) (cwV 1 hts gX7_copy_X7_finding rfl rfl rfl hv_X7_finding (yk_room hRf hRl rfl rfl)) (yk_pv (q := (RX7, TX7, 13)) hG hA hS hK hP hD [0] (by decide +kernel) rfl rfl rfl) rfl rfl hl.1 rfl (lv_room (Nat.le_of_ble_eq_true rfl)) dX7_copy_57 ⟨Nat.zero_le _, Nat.zero_le _⟩) hP hD hS hA rfl (Eq.trans (b := [ta]) rfl rfl) (fun H locs hP9 hD9 hS9 => ?_)
                  replace hP : va_P D vwCl [(ta, .inr (7, [.ref a_flow, .ref a_draft, .ref a_fence, .ref a_past, .ref a_slots, .ref a_slotKinds, .ref ha, .ref a_speedX, .ref a_speedY, .ref a_leftward, .ref a_change, .ref a_table, .int ((f_X7_finding fi (-1000002)).2)])), (ha, .inl (cy 4, 4, .inr (.inr (.inr (.inr (yk_refs [ha0, ha1, ha2, ha3])))))), (ha0, .inr (5, [.ref ha0n, .int b0, .int (nI n0)])), (ha0n, .inl (cy 0, 16, .inl h0)), (ha1, .inr (5, [.ref ha1n, .int b1, .int (nI n1)])), (ha1n, .inl (cy 0, 16, .inl h1)), (ha2, .inr (5, [.ref ha2n, .int b2, .int (nI n2)])), (ha2n, .inl (cy 0, 16, .inl h2)), (ha3, .inr (5, [.ref ha3n, .int b3, .int (nI n3)])), (ha3n, .inl (cy 0, 16, .inl h3))] H := hP9
                  replace hD : va_D A [(ta, .inr (7, [.ref a_flow, .ref a_draft, .ref a_fence, .ref a_past, .ref a_slots, .ref a_slotKinds, .ref ha, .ref a_speedX, .ref a_speedY, .ref a_leftward, .ref a_change, .ref a_table, .int ((f_X7_finding fi (-1000002)).2)])), (ha, .inl (cy 4, 4, .inr (.inr (.inr (.inr (yk_refs [ha0, ha1, ha2, ha3])))))), (ha0, .inr (5, [.ref ha0n, .int b0, .int (nI n0)])), (ha0n, .inl (cy 0, 16, .inl h0)), (ha1, .inr (5, [.ref ha1n, .int b1, .int (nI n1)])), (ha1n, .inl (cy 0, 16, .inl h1)), (ha2, .inr (5, [.ref ha2n, .int b2, .int (nI n2)])), (ha2n, .inl (cy 0, 16, .inl h2)), (ha3, .inr (5, [.ref ha3n, .int b3, .int (nI n3)])), (ha3n, .inl (cy 0, 16, .inl h3))] := hD9
                  replace hS := hS9
                  clear hP9 hD9 hS9
                  have hF : f_X7_copy h0 b0 n0 h1 b1 n1 h2 b2 n2 h3 b3 n3 fi px pf py po pn = (((f_X7_finding fi (-1000002)).1), ((f_X7_finding fi (-1000002)).2), h0, h1, h2, h3) := hF
                  have hf0 := yk_fst hF
                  have hg0 := yk_snd hF
                  have hf1 := yk_fst hg0
                  have hg1 := yk_snd hg0
                  have hf2 := yk_fst hg1
                  have hg2 := yk_snd hg1
                  have hf3 := yk_fst hg2
                  have hg3 := yk_snd hg2
                  have hf4 := yk_fst hg3
                  have hg4 := yk_snd hg3
                  rw [hf0, hf1, hf2, hf3, hf4, hg4] at hQ
                  exact hQ _ _ _ _ dX7_copy_60 hP hS
            · replace hF := hF.trans (if_neg hc51)
              by_cases hc60 : py.toNatClampNeg = 2
              · replace hF := hF.trans (if_pos hc60)
                refine yk_ti (y := nI 2) (congrArg nI hc60) ?_
                refine yk_aldq hx hb hK hP 1 4 rfl rfl 2 (by decide) (by decide) rfl dX7_copy_34 ?_
                refine lv_astore (lv' := [(7, .ref ha2), (6, .ref ha1), (0, .ref ta), (1, .int (nI px.toNatClampNeg)), (2, .int pf), (3, .int (nI py.toNatClampNeg)), (4, .int po), (5, .int pn)]) hx hb dX7_copy_35 hl (by decide) rfl (fun ls hl9 => ?_)
                replace hl := hl9
                clear hl9
                refine lv_aload hx hb dX7_copy_37 (lv_at hl 1 rfl) ?_
                refine yk_i [4, 5] (va_runV (As := []) (rest := []) ⟨hx, hb, hml, hown, hts⟩ (c_X5_isMissing l D cy ha1 ha1n h1 b1 n1 H.size) (cwV 0 hts gX7_copy_X5_isMissing rfl rfl rfl hv_X5_isMissing (yk_room hRf hRl rfl rfl)) (yk_pv (q := (RX5, TX5, 3)) hG hA hS hK hP hD [4, 5] (by decide +kernel) rfl rfl rfl) rfl rfl hl.1 rfl (lv_room (Nat.le_of_ble_eq_true rfl)) dX7_copy_39 ⟨Nat.zero_le _, Nat.zero_le _⟩) hP hD hS hA rfl (Eq.trans (b := [ha1, ha1n]) rfl rfl) (fun H locs hP9 hD9 hS9 => ?_)
                replace hP : va_P D vwCl [(ta, .inr (7, [.ref a_flow, .ref a_draft, .ref a_fence, .ref a_past, .ref a_slots, .ref a_slotKinds, .ref ha, .ref a_speedX, .ref a_speedY, .ref a_leftward, .ref a_change, .ref a_table, .int fi])), (ha, .inl (cy 4, 4, .inr (.inr (.inr (.inr (yk_refs [ha0, ha1, ha2, ha3])))))), (ha0, .inr (5, [.ref ha0n, .int b0, .int (nI n0)])), (ha0n, .inl (cy 0, 16, .inl h0)), (ha1, .inr (5, [.ref ha1n, .int b1, .int (nI n1)])), (ha1n, .inl (cy 0, 16, .inl h1)), (ha2, .inr (5, [.ref ha2n, .int b2, .int (nI n2)])), (ha2n, .inl (cy 0, 16, .inl h2)), (ha3, .inr (5, [.ref ha3n, .int b3, .int (nI n3)])), (ha3n, .inl (cy 0, 16, .inl h3))] H := hP9
                replace hD : va_D A [(ta, .inr (7, [.ref a_flow, .ref a_draft, .ref a_fence, .ref a_past, .ref a_slots, .ref a_slotKinds, .ref ha, .ref a_speedX, .ref a_speedY, .ref a_leftward, .ref a_change, .ref a_table, .int fi])), (ha, .inl (cy 4, 4, .inr (.inr (.inr (.inr (yk_refs [ha0, ha1, ha2, ha3])))))), (ha0, .inr (5, [.ref ha0n, .int b0, .int (nI n0)])), (ha0n, .inl (cy 0, 16, .inl h0)), (ha1, .inr (5, [.ref ha1n, .int b1, .int (nI n1)])), (ha1n, .inl (cy 0, 16, .inl h1)), (ha2, .inr (5, [.ref ha2n, .int b2, .int (nI n2)])), (ha2n, .inl (cy 0, 16, .inl h2)), (ha3, .inr (5, [.ref ha3n, .int b3, .int (nI n3)])), (ha3n, .inl (cy 0, 16, .inl h3))] := hD9
                replace hS := hS9
                clear hP9 hD9 hS9
                refine lv_if_ne (tgt := 53) hx hb dX7_copy_42 (by decide) (fun hc61 => ?_) (fun hc61 => ?_)
                · replace hF := hF.trans (if_neg hc61)
                  refine lv_aload_n hx hb dX7_copy_53 rfl (lv_at hl 2 rfl) ?_
                  refine lv_ldcw (v := (-1000002)) hx hb hown (hts _ kX7_copy_2) dX7_copy_54 ?_
                  refine yk_i [0] (va_runV (As := [.int (-1000002)]) (rest := []) ⟨hx, hb, hml, hown, hts⟩ (c_X7_finding l D cy ta a_flow a_draft a_fence a_past a_slots a_slotKinds ha a_speedX a_speedY a_leftward a_change a_table fi (-1000002) H.size) (cwV 1 hts gX7_copy_X7_finding rfl rfl rfl hv_X7_finding (yk_room hRf hRl rfl rfl)) (yk_pv (q := (RX7, TX7, 13)) hG hA hS hK hP hD [0] (by decide +kernel) rfl rfl rfl) rfl rfl hl.1 rfl (lv_room (Nat.le_of_ble_eq_true rfl)) dX7_copy_57 ⟨Nat.zero_le _, Nat.zero_le _⟩) hP hD hS hA rfl (Eq.trans (b := [ta]) rfl rfl) (fun H locs hP9 hD9 hS9 => ?_)
                  replace hP : va_P D vwCl [(ta, .inr (7, [.ref a_flow, .ref a_draft, .ref a_fence, .ref a_past, .ref a_slots, .ref a_slotKinds, .ref ha, .ref a_speedX, .ref a_speedY, .ref a_leftward, .ref a_change, .ref a_table, .int ((f_X7_finding fi (-1000002)).2)])), (ha, .inl (cy 4, 4, .inr (.inr (.inr (.inr (yk_refs [ha0, ha1, ha2, ha3])))))), (ha0, .inr (5, [.ref ha0n, .int b0, .int (nI n0)])), (ha0n, .inl (cy 0, 16, .inl h0)), (ha1, .inr (5, [.ref ha1n, .int b1, .int (nI n1)])), (ha1n, .inl (cy 0, 16, .inl h1)), (ha2, .inr (5, [.ref ha2n, .int b2, .int (nI n2)])), (ha2n, .inl (cy 0, 16, .inl h2)), (ha3, .inr (5, [.ref ha3n, .int b3, .int (nI n3)])), (ha3n, .inl (cy 0, 16, .inl h3))] H := hP9
                  replace hD : va_D A [(ta, .inr (7, [.ref a_flow, .ref a_draft, .ref a_fence, .ref a_past, .ref a_slots, .ref a_slotKinds, .ref ha, .ref a_speedX, .ref a_speedY, .ref a_leftward, .ref a_change, .ref a_table, .int ((f_X7_finding fi (-1000002)).2)])), (ha, .inl (cy 4, 4, .inr (.inr (.inr (.inr (yk_refs [ha0, ha1, ha2, ha3])))))), (ha0, .inr (5, [.ref ha0n, .int b0, .int (nI n0)])), (ha0n, .inl (cy 0, 16, .inl h0)), (ha1, .inr (5, [.ref ha1n, .int b1, .int (nI n1)])), (ha1n, .inl (cy 0, 16, .inl h1)), (ha2, .inr (5, [.ref ha2n, .int b2, .int (nI n2)])), (ha2n, .inl (cy 0, 16, .inl h2)), (ha3, .inr (5, [.ref ha3n, .int b3, .int (nI n3)])), (ha3n, .inl (cy 0, 16, .inl h3))] := hD9
                  replace hS := hS9
                  clear hP9 hD9 hS9
                  have hF : f_X7_copy h0 b0 n0 h1 b1 n1 h2 b2 n2 h3 b3 n3 fi px pf py po pn = (((f_X7_finding fi (-1000002)).1), ((f_X7_finding fi (-1000002)).2), h0, h1, h2, h3) := hF
                  have hf0 := yk_fst hF
                  have hg0 := yk_snd hF
                  have hf1 := yk_fst hg0
                  have hg1 := yk_snd hg0
                  have hf2 := yk_fst hg1
                  have hg2 := yk_snd hg1
                  have hf3 := yk_fst hg2
                  have hg3 := yk_snd hg2
                  have hf4 := yk_fst hg3
                  have hg4 := yk_snd hg3
                  rw [hf0, hf1, hf2, hf3, hf4, hg4] at hQ
                  exact hQ _ _ _ _ dX7_copy_60 hP hS
                · replace hF := hF.trans (if_pos hc61)
                  refine lv_aload hx hb dX7_copy_45 (lv_at hl 0 rfl) ?_
                  refine yk_i [6, 7] (va_runV (As := []) (rest := []) ⟨hx, hb, hml, hown, hts⟩ (c_X5_isMissing l D cy ha2 ha2n h2 b2 n2 H.size) (cwV 0 hts gX7_copy_X5_isMissing rfl rfl rfl hv_X5_isMissing (yk_room hRf hRl rfl rfl)) (yk_pv (q := (RX5, TX5, 3)) hG hA hS hK hP hD [6, 7] (by decide +kernel) rfl rfl rfl) rfl rfl hl.1 rfl (lv_room (Nat.le_of_ble_eq_true rfl)) dX7_copy_47 ⟨Nat.zero_le _, Nat.zero_le _⟩) hP hD hS hA rfl (Eq.trans (b := [ha2, ha2n]) rfl rfl) (fun H locs hP9 hD9 hS9 => ?_)
                  replace hP : va_P D vwCl [(ta, .inr (7, [.ref a_flow, .ref a_draft, .ref a_fence, .ref a_past, .ref a_slots, .ref a_slotKinds, .ref ha, .ref a_speedX, .ref a_speedY, .ref a_leftward, .ref a_change, .ref a_table, .int fi])), (ha, .inl (cy 4, 4, .inr (.inr (.inr (.inr (yk_refs [ha0, ha1, ha2, ha3])))))), (ha0, .inr (5, [.ref ha0n, .int b0, .int (nI n0)])), (ha0n, .inl (cy 0, 16, .inl h0)), (ha1, .inr (5, [.ref ha1n, .int b1, .int (nI n1)])), (ha1n, .inl (cy 0, 16, .inl h1)), (ha2, .inr (5, [.ref ha2n, .int b2, .int (nI n2)])), (ha2n, .inl (cy 0, 16, .inl h2)), (ha3, .inr (5, [.ref ha3n, .int b3, .int (nI n3)])), (ha3n, .inl (cy 0, 16, .inl h3))] H := hP9
                  replace hD : va_D A [(ta, .inr (7, [.ref a_flow, .ref a_draft, .ref a_fence, .ref a_past, .ref a_slots, .ref a_slotKinds, .ref ha, .ref a_speedX, .ref a_speedY, .ref a_leftward, .ref a_change, .ref a_table, .int fi])), (ha, .inl (cy 4, 4, .inr (.inr (.inr (.inr (yk_refs [ha0, ha1, ha2, ha3])))))), (ha0, .inr (5, [.ref ha0n, .int b0, .int (nI n0)])), (ha0n, .inl (cy 0, 16, .inl h0)), (ha1, .inr (5, [.ref ha1n, .int b1, .int (nI n1)])), (ha1n, .inl (cy 0, 16, .inl h1)), (ha2, .inr (5, [.ref ha2n, .int b2, .int (nI n2)])), (ha2n, .inl (cy 0, 16, .inl h2)), (ha3, .inr (5, [.ref ha3n, .int b3, .int (nI n3)])), (ha3n, .inl (cy 0, 16, .inl h3))] := hD9
                  replace hS := hS9
                  clear hP9 hD9 hS9
                  refine lv_if_eq (tgt := 61) hx hb dX7_copy_50 (by decide) (fun hc62 => ?_) (fun hc62 => ?_)
                  · replace hF := hF.trans (if_pos hc62)
                    refine lv_aload hx hb dX7_copy_61 (lv_at hl 1 rfl) ?_
                    refine va_get (D := D) (ci := 5) (v := .int b1) (C := RX5) (T := TX5) (N := 3) hx hb hts uX7_copy_X5 hown hK hP 4 rfl rfl 1 (by decide) (hts _ kX7_copy_3) (fun _ h9 => h9) rfl dX7_copy_63 ?_
                    refine lv_aload hx hb dX7_copy_66 (lv_at hl 0 rfl) ?_
                    refine va_get (D := D) (ci := 5) (v := .int b2) (C := RX5) (T := TX5) (N := 3) hx hb hts uX7_copy_X5 hown hK hP 6 rfl rfl 1 (by decide) (hts _ kX7_copy_3) (fun _ h9 => h9) rfl dX7_copy_68 ?_
                    refine lv_icmp_eq (tgt := 81) hx hb dX7_copy_71 (by decide) (fun hc63 => ?_) (fun hc63 => ?_)
                    · replace hF := hF.trans (if_pos hc63)
                      refine lv_aload hx hb dX7_copy_81 (lv_at hl 1 rfl) ?_
                      refine lv_iload_n hx hb dX7_copy_83 rfl (lv_at hl 4 rfl) ?_
                      refine lv_iload hx hb dX7_copy_84 (lv_at hl 7 rfl) ?_
                      refine yk_i [4, 5] (va_runV (As := [.int pf, .int pn]) (rest := []) ⟨hx, hb, hml, hown, hts⟩ (c_X5_hasRange l D cy ha1 ha1n h1 b1 n1 pf pn hn1 H.size) (cwV 2 hts gX7_copy_X5_hasRange rfl rfl rfl hv_X5_hasRange (yk_room hRf hRl rfl rfl)) (yk_pv (q := (RX5, TX5, 3)) hG hA hS hK hP hD [4, 5] (by decide +kernel) rfl rfl rfl) rfl rfl hl.1 rfl (lv_room (Nat.le_of_ble_eq_true rfl)) dX7_copy_86 ⟨Nat.zero_le _, Nat.zero_le _⟩) hP hD hS hA rfl (Eq.trans (b := [ha1, ha1n]) rfl rfl) (fun H locs hP9 hD9 hS9 => ?_)
                      replace hP : va_P D vwCl [(ta, .inr (7, [.ref a_flow, .ref a_draft, .ref a_fence, .ref a_past, .ref a_slots, .ref a_slotKinds, .ref ha, .ref a_speedX, .ref a_speedY, .ref a_leftward, .ref a_change, .ref a_table, .int fi])), (ha, .inl (cy 4, 4, .inr (.inr (.inr (.inr (yk_refs [ha0, ha1, ha2, ha3])))))), (ha0, .inr (5, [.ref ha0n, .int b0, .int (nI n0)])), (ha0n, .inl (cy 0, 16, .inl h0)), (ha1, .inr (5, [.ref ha1n, .int b1, .int (nI n1)])), (ha1n, .inl (cy 0, 16, .inl h1)), (ha2, .inr (5, [.ref ha2n, .int b2, .int (nI n2)])), (ha2n, .inl (cy 0, 16, .inl h2)), (ha3, .inr (5, [.ref ha3n, .int b3, .int (nI n3)])), (ha3n, .inl (cy 0, 16, .inl h3))] H := hP9
                      replace hD : va_D A [(ta, .inr (7, [.ref a_flow, .ref a_draft, .ref a_fence, .ref a_past, .ref a_slots, .ref a_slotKinds, .ref ha, .ref a_speedX, .ref a_speedY, .ref a_leftward, .ref a_change, .ref a_table, .int fi])), (ha, .inl (cy 4, 4, .inr (.inr (.inr (.inr (yk_refs [ha0, ha1, ha2, ha3])))))), (ha0, .inr (5, [.ref ha0n, .int b0, .int (nI n0)])), (ha0n, .inl (cy 0, 16, .inl h0)), (ha1, .inr (5, [.ref ha1n, .int b1, .int (nI n1)])), (ha1n, .inl (cy 0, 16, .inl h1)), (ha2, .inr (5, [.ref ha2n, .int b2, .int (nI n2)])), (ha2n, .inl (cy 0, 16, .inl h2)), (ha3, .inr (5, [.ref ha3n, .int b3, .int (nI n3)])), (ha3n, .inl (cy 0, 16, .inl h3))] := hD9
                      replace hS := hS9
                      clear hP9 hD9 hS9
                      refine lv_if_eq (tgt := 104) hx hb dX7_copy_89 (by decide) (fun hc64 => ?_) (fun hc64 => ?_)
                      · replace hF := hF.trans (if_pos hc64)
                        refine lv_aload_n hx hb dX7_copy_104 rfl (lv_at hl 2 rfl) ?_
                        refine lv_ldc (v := (-1000001)) hx hb hown (hts _ kX7_copy_0) dX7_copy_105 ?_
                        refine yk_i [0] (va_runV (As := [.int (-1000001)]) (rest := []) ⟨hx, hb, hml, hown, hts⟩ (c_X7_finding l D cy ta a_flow a_draft a_fence a_past a_slots a_slotKinds ha a_speedX a_speedY a_leftward a_change a_table fi (-1000001) H.size) (cwV 1 hts gX7_copy_X7_finding rfl rfl rfl hv_X7_finding (yk_room hRf hRl rfl rfl)) (yk_pv (q := (RX7, TX7, 13)) hG hA hS hK hP hD [0] (by decide +kernel) rfl rfl rfl) rfl rfl hl.1 rfl (lv_room (Nat.le_of_ble_eq_true rfl)) dX7_copy_107 ⟨Nat.zero_le _, Nat.zero_le _⟩) hP hD hS hA rfl (Eq.trans (b := [ta]) rfl rfl) (fun H locs hP9 hD9 hS9 => ?_)
                        replace hP : va_P D vwCl [(ta, .inr (7, [.ref a_flow, .ref a_draft, .ref a_fence, .ref a_past, .ref a_slots, .ref a_slotKinds, .ref ha, .ref a_speedX, .ref a_speedY, .ref a_leftward, .ref a_change, .ref a_table, .int ((f_X7_finding fi (-1000001)).2)])), (ha, .inl (cy 4, 4, .inr (.inr (.inr (.inr (yk_refs [ha0, ha1, ha2, ha3])))))), (ha0, .inr (5, [.ref ha0n, .int b0, .int (nI n0)])), (ha0n, .inl (cy 0, 16, .inl h0)), (ha1, .inr (5, [.ref ha1n, .int b1, .int (nI n1)])), (ha1n, .inl (cy 0, 16, .inl h1)), (ha2, .inr (5, [.ref ha2n, .int b2, .int (nI n2)])), (ha2n, .inl (cy 0, 16, .inl h2)), (ha3, .inr (5, [.ref ha3n, .int b3, .int (nI n3)])), (ha3n, .inl (cy 0, 16, .inl h3))] H := hP9
                        replace hD : va_D A [(ta, .inr (7, [.ref a_flow, .ref a_draft, .ref a_fence, .ref a_past, .ref a_slots, .ref a_slotKinds, .ref ha, .ref a_speedX, .ref a_speedY, .ref a_leftward, .ref a_change, .ref a_table, .int ((f_X7_finding fi (-1000001)).2)])), (ha, .inl (cy 4, 4, .inr (.inr (.inr (.inr (yk_refs [ha0, ha1, ha2, ha3])))))), (ha0, .inr (5, [.ref ha0n, .int b0, .int (nI n0)])), (ha0n, .inl (cy 0, 16, .inl h0)), (ha1, .inr (5, [.ref ha1n, .int b1, .int (nI n1)])), (ha1n, .inl (cy 0, 16, .inl h1)), (ha2, .inr (5, [.ref ha2n, .int b2, .int (nI n2)])), (ha2n, .inl (cy 0, 16, .inl h2)), (ha3, .inr (5, [.ref ha3n, .int b3, .int (nI n3)])), (ha3n, .inl (cy 0, 16, .inl h3))] := hD9
                        replace hS := hS9
                        clear hP9 hD9 hS9
                        have hF : f_X7_copy h0 b0 n0 h1 b1 n1 h2 b2 n2 h3 b3 n3 fi px pf py po pn = (((f_X7_finding fi (-1000001)).1), ((f_X7_finding fi (-1000001)).2), h0, h1, h2, h3) := hF
                        have hf0 := yk_fst hF
                        have hg0 := yk_snd hF
                        have hf1 := yk_fst hg0
                        have hg1 := yk_snd hg0
                        have hf2 := yk_fst hg1
                        have hg2 := yk_snd hg1
                        have hf3 := yk_fst hg2
                        have hg3 := yk_snd hg2
                        have hf4 := yk_fst hg3
                        have hg4 := yk_snd hg3
                        rw [hf0, hf1, hf2, hf3, hf4, hg4] at hQ
                        exact hQ _ _ _ _ dX7_copy_110 hP hS
                      · replace hF := hF.trans (if_neg hc64)
                        refine lv_aload hx hb dX7_copy_92 (lv_at hl 0 rfl) ?_
                        refine lv_iload hx hb dX7_copy_94 (lv_at hl 6 rfl) ?_
                        refine lv_iload hx hb dX7_copy_96 (lv_at hl 7 rfl) ?_
                        refine yk_i [6, 7] (va_runV (As := [.int po, .int pn]) (rest := []) ⟨hx, hb, hml, hown, hts⟩ (c_X5_hasRange l D cy ha2 ha2n h2 b2 n2 po pn hn2 H.size) (cwV 2 hts gX7_copy_X5_hasRange rfl rfl rfl hv_X5_hasRange (yk_room hRf hRl rfl rfl)) (yk_pv (q := (RX5, TX5, 3)) hG hA hS hK hP hD [6, 7] (by decide +kernel) rfl rfl rfl) rfl rfl hl.1 rfl (lv_room (Nat.le_of_ble_eq_true rfl)) dX7_copy_98 ⟨Nat.zero_le _, Nat.zero_le _⟩) hP hD hS hA rfl (Eq.trans (b := [ha2, ha2n]) rfl rfl) (fun H locs hP9 hD9 hS9 => ?_)
                        replace hP : va_P D vwCl [(ta, .inr (7, [.ref a_flow, .ref a_draft, .ref a_fence, .ref a_past, .ref a_slots, .ref a_slotKinds, .ref ha, .ref a_speedX, .ref a_speedY, .ref a_leftward, .ref a_change, .ref a_table, .int fi])), (ha, .inl (cy 4, 4, .inr (.inr (.inr (.inr (yk_refs [ha0, ha1, ha2, ha3])))))), (ha0, .inr (5, [.ref ha0n, .int b0, .int (nI n0)])), (ha0n, .inl (cy 0, 16, .inl h0)), (ha1, .inr (5, [.ref ha1n, .int b1, .int (nI n1)])), (ha1n, .inl (cy 0, 16, .inl h1)), (ha2, .inr (5, [.ref ha2n, .int b2, .int (nI n2)])), (ha2n, .inl (cy 0, 16, .inl h2)), (ha3, .inr (5, [.ref ha3n, .int b3, .int (nI n3)])), (ha3n, .inl (cy 0, 16, .inl h3))] H := hP9
                        replace hD : va_D A [(ta, .inr (7, [.ref a_flow, .ref a_draft, .ref a_fence, .ref a_past, .ref a_slots, .ref a_slotKinds, .ref ha, .ref a_speedX, .ref a_speedY, .ref a_leftward, .ref a_change, .ref a_table, .int fi])), (ha, .inl (cy 4, 4, .inr (.inr (.inr (.inr (yk_refs [ha0, ha1, ha2, ha3])))))), (ha0, .inr (5, [.ref ha0n, .int b0, .int (nI n0)])), (ha0n, .inl (cy 0, 16, .inl h0)), (ha1, .inr (5, [.ref ha1n, .int b1, .int (nI n1)])), (ha1n, .inl (cy 0, 16, .inl h1)), (ha2, .inr (5, [.ref ha2n, .int b2, .int (nI n2)])), (ha2n, .inl (cy 0, 16, .inl h2)), (ha3, .inr (5, [.ref ha3n, .int b3, .int (nI n3)])), (ha3n, .inl (cy 0, 16, .inl h3))] := hD9
                        replace hS := hS9
                        clear hP9 hD9 hS9
                        refine lv_if_ne (tgt := 111) hx hb dX7_copy_101 (by decide) (fun hc65 => ?_) (fun hc65 => ?_)
                        · replace hF := hF.trans (if_neg hc65)
                          have hq8 := hr_ok (n := n1) (x := pf) (y := pn) (by omega) (by assumption)
                          have hq9 := hr_ok (n := n2) (x := po) (y := pn) (by omega) (by assumption)
                          have hq66 : pf = nI pf.toNatClampNeg := hq8.1.1
                          have hq66b : pf.toNatClampNeg < 17 := hq8.1.2
                          rw [hq66] at hl
                          have hq67 : po = nI po.toNatClampNeg := hq9.1.1
                          have hq67b : po.toNatClampNeg < 17 := hq9.1.2
                          rw [hq67] at hl
                          have hq68 : pn = nI pn.toNatClampNeg := hq8.2.1.1
                          have hq68b : pn.toNatClampNeg < 17 := hq8.2.1.2
                          rw [hq68] at hl
                          refine lv_aload hx hb dX7_copy_111 (lv_at hl 1 rfl) ?_
                          refine va_get (D := D) (ci := 5) (v := .ref ha1n) (C := RX5) (T := TX5) (N := 3) hx hb hts uX7_copy_X5 hown hK hP 4 rfl rfl 0 (by decide) (hts _ kX7_copy_4) (fun _ h9 => h9) rfl dX7_copy_113 ?_
                          refine lv_iload_n hx hb dX7_copy_116 rfl (lv_at hl 4 rfl) ?_
                          refine lv_aload hx hb dX7_copy_117 (lv_at hl 0 rfl) ?_
                          refine va_get (D := D) (ci := 5) (v := .ref ha2n) (C := RX5) (T := TX5) (N := 3) hx hb hts uX7_copy_X5 hown hK hP 6 rfl rfl 0 (by decide) (hts _ kX7_copy_4) (fun _ h9 => h9) rfl dX7_copy_119 ?_
                          refine lv_iload hx hb dX7_copy_122 (lv_at hl 6 rfl) ?_
                          refine lv_iload hx hb dX7_copy_124 (lv_at hl 7 rfl) ?_
                          refine yk_cpy (sp := pf.toNatClampNeg) (dp := po.toNatClampNeg) (n := pn.toNatClampNeg) hx hb (hml.trans hl.1.symm) hown (hts _ kX7_copy_5) (hts _ kX7_copy_6) (hts _ kX7_copy_7) (hts _ kX7_copy_8) hK hP hD hS 5 7 rfl rfl rfl rfl (⟨by omega, by omega⟩) (by omega) (by omega) (by rw [hRf]; exact Nat.le_of_ble_eq_true rfl) (by rw [hRl]; exact Nat.le_of_ble_eq_true rfl) dX7_copy_126 (fun H locs hP9 hD9 hS9 => ?_)
                          replace hP : va_P D vwCl [(ta, .inr (7, [.ref a_flow, .ref a_draft, .ref a_fence, .ref a_past, .ref a_slots, .ref a_slotKinds, .ref ha, .ref a_speedX, .ref a_speedY, .ref a_leftward, .ref a_change, .ref a_table, .int fi])), (ha, .inl (cy 4, 4, .inr (.inr (.inr (.inr (yk_refs [ha0, ha1, ha2, ha3])))))), (ha0, .inr (5, [.ref ha0n, .int b0, .int (nI n0)])), (ha0n, .inl (cy 0, 16, .inl h0)), (ha1, .inr (5, [.ref ha1n, .int b1, .int (nI n1)])), (ha1n, .inl (cy 0, 16, .inl h1)), (ha2, .inr (5, [.ref ha2n, .int b2, .int (nI n2)])), (ha2n, .inl (cy 0, 16, .inl (va_cpy h1 h2 pf.toNatClampNeg po.toNatClampNeg pn.toNatClampNeg))), (ha3, .inr (5, [.ref ha3n, .int b3, .int (nI n3)])), (ha3n, .inl (cy 0, 16, .inl h3))] H := hP9
                          replace hD : va_D A [(ta, .inr (7, [.ref a_flow, .ref a_draft, .ref a_fence, .ref a_past, .ref a_slots, .ref a_slotKinds, .ref ha, .ref a_speedX, .ref a_speedY, .ref a_leftward, .ref a_change, .ref a_table, .int fi])), (ha, .inl (cy 4, 4, .inr (.inr (.inr (.inr (yk_refs [ha0, ha1, ha2, ha3])))))), (ha0, .inr (5, [.ref ha0n, .int b0, .int (nI n0)])), (ha0n, .inl (cy 0, 16, .inl h0)), (ha1, .inr (5, [.ref ha1n, .int b1, .int (nI n1)])), (ha1n, .inl (cy 0, 16, .inl h1)), (ha2, .inr (5, [.ref ha2n, .int b2, .int (nI n2)])), (ha2n, .inl (cy 0, 16, .inl (va_cpy h1 h2 pf.toNatClampNeg po.toNatClampNeg pn.toNatClampNeg))), (ha3, .inr (5, [.ref ha3n, .int b3, .int (nI n3)])), (ha3n, .inl (cy 0, 16, .inl h3))] := hD9
                          replace hS := hS9
                          clear hP9 hD9 hS9
                          refine lv_iload hx hb dX7_copy_129 (lv_at hl 7 rfl) ?_
                          have hF : f_X7_copy h0 b0 n0 h1 b1 n1 h2 b2 n2 h3 b3 n3 fi px pf py po pn = ((nI pn.toNatClampNeg), fi, h0, h1, (va_cpy h1 h2 pf.toNatClampNeg po.toNatClampNeg pn.toNatClampNeg), h3) := hF
                          have hf0 := yk_fst hF
                          have hg0 := yk_snd hF
                          have hf1 := yk_fst hg0
                          have hg1 := yk_snd hg0
                          have hf2 := yk_fst hg1
                          have hg2 := yk_snd hg1
                          have hf3 := yk_fst hg2
                          have hg3 := yk_snd hg2
                          have hf4 := yk_fst hg3
                          have hg4 := yk_snd hg3
                          rw [hf0, hf1, hf2, hf3, hf4, hg4] at hQ
                          exact hQ _ _ _ _ dX7_copy_131 hP hS
                        · replace hF := hF.trans (if_pos hc65)
                          refine lv_aload_n hx hb dX7_copy_104 rfl (lv_at hl 2 rfl) ?_
                          refine lv_ldc (v := (-1000001)) hx hb hown (hts _ kX7_copy_0) dX7_copy_105 ?_
                          refine yk_i [0] (va_runV (As := [.int (-1000001)]) (rest := []) ⟨hx, hb, hml, hown, hts⟩ (c_X7_finding l D cy ta a_flow a_draft a_fence a_past a_slots a_slotKinds ha a_speedX a_speedY a_leftward a_change a_table fi (-1000001) H.size) (cwV 1 hts gX7_copy_X7_finding rfl rfl rfl hv_X7_finding (yk_room hRf hRl rfl rfl)) (yk_pv (q := (RX7, TX7, 13)) hG hA hS hK hP hD [0] (by decide +kernel) rfl rfl rfl) rfl rfl hl.1 rfl (lv_room (Nat.le_of_ble_eq_true rfl)) dX7_copy_107 ⟨Nat.zero_le _, Nat.zero_le _⟩) hP hD hS hA rfl (Eq.trans (b := [ta]) rfl rfl) (fun H locs hP9 hD9 hS9 => ?_)
                          replace hP : va_P D vwCl [(ta, .inr (7, [.ref a_flow, .ref a_draft, .ref a_fence, .ref a_past, .ref a_slots, .ref a_slotKinds, .ref ha, .ref a_speedX, .ref a_speedY, .ref a_leftward, .ref a_change, .ref a_table, .int ((f_X7_finding fi (-1000001)).2)])), (ha, .inl (cy 4, 4, .inr (.inr (.inr (.inr (yk_refs [ha0, ha1, ha2, ha3])))))), (ha0, .inr (5, [.ref ha0n, .int b0, .int (nI n0)])), (ha0n, .inl (cy 0, 16, .inl h0)), (ha1, .inr (5, [.ref ha1n, .int b1, .int (nI n1)])), (ha1n, .inl (cy 0, 16, .inl h1)), (ha2, .inr (5, [.ref ha2n, .int b2, .int (nI n2)])), (ha2n, .inl (cy 0, 16, .inl h2)), (ha3, .inr (5, [.ref ha3n, .int b3, .int (nI n3)])), (ha3n, .inl (cy 0, 16, .inl h3))] H := hP9
                          replace hD : va_D A [(ta, .inr (7, [.ref a_flow, .ref a_draft, .ref a_fence, .ref a_past, .ref a_slots, .ref a_slotKinds, .ref ha, .ref a_speedX, .ref a_speedY, .ref a_leftward, .ref a_change, .ref a_table, .int ((f_X7_finding fi (-1000001)).2)])), (ha, .inl (cy 4, 4, .inr (.inr (.inr (.inr (yk_refs [ha0, ha1, ha2, ha3])))))), (ha0, .inr (5, [.ref ha0n, .int b0, .int (nI n0)])), (ha0n, .inl (cy 0, 16, .inl h0)), (ha1, .inr (5, [.ref ha1n, .int b1, .int (nI n1)])), (ha1n, .inl (cy 0, 16, .inl h1)), (ha2, .inr (5, [.ref ha2n, .int b2, .int (nI n2)])), (ha2n, .inl (cy 0, 16, .inl h2)), (ha3, .inr (5, [.ref ha3n, .int b3, .int (nI n3)])), (ha3n, .inl (cy 0, 16, .inl h3))] := hD9
                          replace hS := hS9
                          clear hP9 hD9 hS9
                          have hF : f_X7_copy h0 b0 n0 h1 b1 n1 h2 b2 n2 h3 b3 n3 fi px pf py po pn = (((f_X7_finding fi (-1000001)).1), ((f_X7_finding fi (-1000001)).2), h0, h1, h2, h3) := hF
                          have hf0 := yk_fst hF
                          have hg0 := yk_snd hF
                          have hf1 := yk_fst hg0
                          have hg1 := yk_snd hg0
                          have hf2 := yk_fst hg1
                          have hg2 := yk_snd hg1
                          have hf3 := yk_fst hg2
                          have hg3 := yk_snd hg2
                          have hf4 := yk_fst hg3
                          have hg4 := yk_snd hg3
                          rw [hf0, hf1, hf2, hf3, hf4, hg4] at hQ
                          exact hQ _ _ _ _ dX7_copy_110 hP hS
                    · replace hF := hF.trans (if_neg hc63)
                      refine lv_aload_n hx hb dX7_copy_74 rfl (lv_at hl 2 rfl) ?_
                      refine lv_ldc (v := (-1000004)) hx hb hown (hts _ kX7_copy_9) dX7_copy_75 ?_
                      refine yk_i [0] (va_runV (As := [.int (-1000004)]) (rest := []) ⟨hx, hb, hml, hown, hts⟩ (c_X7_finding l D cy ta a_flow a_draft a_fence a_past a_slots a_slotKinds ha a_speedX a_speedY a_leftward a_change a_table fi (-1000004) H.size) (cwV 1 hts gX7_copy_X7_finding rfl rfl rfl hv_X7_finding (yk_room hRf hRl rfl rfl)) (yk_pv (q := (RX7, TX7, 13)) hG hA hS hK hP hD [0] (by decide +kernel) rfl rfl rfl) rfl rfl hl.1 rfl (lv_room (Nat.le_of_ble_eq_true rfl)) dX7_copy_77 ⟨Nat.zero_le _, Nat.zero_le _⟩) hP hD hS hA rfl (Eq.trans (b := [ta]) rfl rfl) (fun H locs hP9 hD9 hS9 => ?_)
                      replace hP : va_P D vwCl [(ta, .inr (7, [.ref a_flow, .ref a_draft, .ref a_fence, .ref a_past, .ref a_slots, .ref a_slotKinds, .ref ha, .ref a_speedX, .ref a_speedY, .ref a_leftward, .ref a_change, .ref a_table, .int ((f_X7_finding fi (-1000004)).2)])), (ha, .inl (cy 4, 4, .inr (.inr (.inr (.inr (yk_refs [ha0, ha1, ha2, ha3])))))), (ha0, .inr (5, [.ref ha0n, .int b0, .int (nI n0)])), (ha0n, .inl (cy 0, 16, .inl h0)), (ha1, .inr (5, [.ref ha1n, .int b1, .int (nI n1)])), (ha1n, .inl (cy 0, 16, .inl h1)), (ha2, .inr (5, [.ref ha2n, .int b2, .int (nI n2)])), (ha2n, .inl (cy 0, 16, .inl h2)), (ha3, .inr (5, [.ref ha3n, .int b3, .int (nI n3)])), (ha3n, .inl (cy 0, 16, .inl h3))] H := hP9
                      replace hD : va_D A [(ta, .inr (7, [.ref a_flow, .ref a_draft, .ref a_fence, .ref a_past, .ref a_slots, .ref a_slotKinds, .ref ha, .ref a_speedX, .ref a_speedY, .ref a_leftward, .ref a_change, .ref a_table, .int ((f_X7_finding fi (-1000004)).2)])), (ha, .inl (cy 4, 4, .inr (.inr (.inr (.inr (yk_refs [ha0, ha1, ha2, ha3])))))), (ha0, .inr (5, [.ref ha0n, .int b0, .int (nI n0)])), (ha0n, .inl (cy 0, 16, .inl h0)), (ha1, .inr (5, [.ref ha1n, .int b1, .int (nI n1)])), (ha1n, .inl (cy 0, 16, .inl h1)), (ha2, .inr (5, [.ref ha2n, .int b2, .int (nI n2)])), (ha2n, .inl (cy 0, 16, .inl h2)), (ha3, .inr (5, [.ref ha3n, .int b3, .int (nI n3)])), (ha3n, .inl (cy 0, 16, .inl h3))] := hD9
                      replace hS := hS9
                      clear hP9 hD9 hS9
                      have hF : f_X7_copy h0 b0 n0 h1 b1 n1 h2 b2 n2 h3 b3 n3 fi px pf py po pn = (((f_X7_finding fi (-1000004)).1), ((f_X7_finding fi (-1000004)).2), h0, h1, h2, h3) := hF
                      have hf0 := yk_fst hF
                      have hg0 := yk_snd hF
                      have hf1 := yk_fst hg0
                      have hg1 := yk_snd hg0
                      have hf2 := yk_fst hg1
                      have hg2 := yk_snd hg1
                      have hf3 := yk_fst hg2
                      have hg3 := yk_snd hg2
                      have hf4 := yk_fst hg3
                      have hg4 := yk_snd hg3
                      rw [hf0, hf1, hf2, hf3, hf4, hg4] at hQ
                      exact hQ _ _ _ _ dX7_copy_80 hP hS
                  · replace hF := hF.trans (if_neg hc62)
                    refine lv_aload_n hx hb dX7_copy_53 rfl (lv_at hl 2 rfl) ?_
                    refine lv_ldcw (v := (-1000002)) hx hb hown (hts _ kX7_copy_2) dX7_copy_54 ?_
                    refine yk_i [0] (va_runV (As := [.int (-1000002)]) (rest := []) ⟨hx, hb, hml, hown, hts⟩ (c_X7_finding l D cy ta a_flow a_draft a_fence a_past a_slots a_slotKinds ha a_speedX a_speedY a_leftward a_change a_table fi (-1000002) H.size) (cwV 1 hts gX7_copy_X7_finding rfl rfl rfl hv_X7_finding (yk_room hRf hRl rfl rfl)) (yk_pv (q := (RX7, TX7, 13)) hG hA hS hK hP hD [0] (by decide +kernel) rfl rfl rfl) rfl rfl hl.1 rfl (lv_room (Nat.le_of_ble_eq_true rfl)) dX7_copy_57 ⟨Nat.zero_le _, Nat.zero_le _⟩) hP hD hS hA rfl (Eq.trans (b := [ta]) rfl rfl) (fun H locs hP9 hD9 hS9 => ?_)
                    replace hP : va_P D vwCl [(ta, .inr (7, [.ref a_flow, .ref a_draft, .ref a_fence, .ref a_past, .ref a_slots, .ref a_slotKinds, .ref ha, .ref a_speedX, .ref a_speedY, .ref a_leftward, .ref a_change, .ref a_table, .int ((f_X7_finding fi (-1000002)).2)])), (ha, .inl (cy 4, 4, .inr (.inr (.inr (.inr (yk_refs [ha0, ha1, ha2, ha3])))))), (ha0, .inr (5, [.ref ha0n, .int b0, .int (nI n0)])), (ha0n, .inl (cy 0, 16, .inl h0)), (ha1, .inr (5, [.ref ha1n, .int b1, .int (nI n1)])), (ha1n, .inl (cy 0, 16, .inl h1)), (ha2, .inr (5, [.ref ha2n, .int b2, .int (nI n2)])), (ha2n, .inl (cy 0, 16, .inl h2)), (ha3, .inr (5, [.ref ha3n, .int b3, .int (nI n3)])), (ha3n, .inl (cy 0, 16, .inl h3))] H := hP9
                    replace hD : va_D A [(ta, .inr (7, [.ref a_flow, .ref a_draft, .ref a_fence, .ref a_past, .ref a_slots, .ref a_slotKinds, .ref ha, .ref a_speedX, .ref a_speedY, .ref a_leftward, .ref a_change, .ref a_table, .int ((f_X7_finding fi (-1000002)).2)])), (ha, .inl (cy 4, 4, .inr (.inr (.inr (.inr (yk_refs [ha0, ha1, ha2, ha3])))))), (ha0, .inr (5, [.ref ha0n, .int b0, .int (nI n0)])), (ha0n, .inl (cy 0, 16, .inl h0)), (ha1, .inr (5, [.ref ha1n, .int b1, .int (nI n1)])), (ha1n, .inl (cy 0, 16, .inl h1)), (ha2, .inr (5, [.ref ha2n, .int b2, .int (nI n2)])), (ha2n, .inl (cy 0, 16, .inl h2)), (ha3, .inr (5, [.ref ha3n, .int b3, .int (nI n3)])), (ha3n, .inl (cy 0, 16, .inl h3))] := hD9
                    replace hS := hS9
                    clear hP9 hD9 hS9
                    have hF : f_X7_copy h0 b0 n0 h1 b1 n1 h2 b2 n2 h3 b3 n3 fi px pf py po pn = (((f_X7_finding fi (-1000002)).1), ((f_X7_finding fi (-1000002)).2), h0, h1, h2, h3) := hF
                    have hf0 := yk_fst hF
                    have hg0 := yk_snd hF
                    have hf1 := yk_fst hg0
                    have hg1 := yk_snd hg0
                    have hf2 := yk_fst hg1
                    have hg2 := yk_snd hg1
                    have hf3 := yk_fst hg2
                    have hg3 := yk_snd hg2
                    have hf4 := yk_fst hg3
                    have hg4 := yk_snd hg3
                    rw [hf0, hf1, hf2, hf3, hf4, hg4] at hQ
                    exact hQ _ _ _ _ dX7_copy_60 hP hS
              · replace hF := hF.trans (if_neg hc60)
                have hz34 : py.toNatClampNeg = 3 := by omega
                refine yk_ti (y := nI 3) (congrArg nI hz34) ?_
                refine yk_aldq hx hb hK hP 1 4 rfl rfl 3 (by decide) (by decide) rfl dX7_copy_34 ?_
                refine lv_astore (lv' := [(7, .ref ha3), (6, .ref ha1), (0, .ref ta), (1, .int (nI px.toNatClampNeg)), (2, .int pf), (3, .int (nI py.toNatClampNeg)), (4, .int po), (5, .int pn)]) hx hb dX7_copy_35 hl (by decide) rfl (fun ls hl9 => ?_)
                replace hl := hl9
                clear hl9
                refine lv_aload hx hb dX7_copy_37 (lv_at hl 1 rfl) ?_
                refine yk_i [4, 5] (va_runV (As := []) (rest := []) ⟨hx, hb, hml, hown, hts⟩ (c_X5_isMissing l D cy ha1 ha1n h1 b1 n1 H.size) (cwV 0 hts gX7_copy_X5_isMissing rfl rfl rfl hv_X5_isMissing (yk_room hRf hRl rfl rfl)) (yk_pv (q := (RX5, TX5, 3)) hG hA hS hK hP hD [4, 5] (by decide +kernel) rfl rfl rfl) rfl rfl hl.1 rfl (lv_room (Nat.le_of_ble_eq_true rfl)) dX7_copy_39 ⟨Nat.zero_le _, Nat.zero_le _⟩) hP hD hS hA rfl (Eq.trans (b := [ha1, ha1n]) rfl rfl) (fun H locs hP9 hD9 hS9 => ?_)
                replace hP : va_P D vwCl [(ta, .inr (7, [.ref a_flow, .ref a_draft, .ref a_fence, .ref a_past, .ref a_slots, .ref a_slotKinds, .ref ha, .ref a_speedX, .ref a_speedY, .ref a_leftward, .ref a_change, .ref a_table, .int fi])), (ha, .inl (cy 4, 4, .inr (.inr (.inr (.inr (yk_refs [ha0, ha1, ha2, ha3])))))), (ha0, .inr (5, [.ref ha0n, .int b0, .int (nI n0)])), (ha0n, .inl (cy 0, 16, .inl h0)), (ha1, .inr (5, [.ref ha1n, .int b1, .int (nI n1)])), (ha1n, .inl (cy 0, 16, .inl h1)), (ha2, .inr (5, [.ref ha2n, .int b2, .int (nI n2)])), (ha2n, .inl (cy 0, 16, .inl h2)), (ha3, .inr (5, [.ref ha3n, .int b3, .int (nI n3)])), (ha3n, .inl (cy 0, 16, .inl h3))] H := hP9
                replace hD : va_D A [(ta, .inr (7, [.ref a_flow, .ref a_draft, .ref a_fence, .ref a_past, .ref a_slots, .ref a_slotKinds, .ref ha, .ref a_speedX, .ref a_speedY, .ref a_leftward, .ref a_change, .ref a_table, .int fi])), (ha, .inl (cy 4, 4, .inr (.inr (.inr (.inr (yk_refs [ha0, ha1, ha2, ha3])))))), (ha0, .inr (5, [.ref ha0n, .int b0, .int (nI n0)])), (ha0n, .inl (cy 0, 16, .inl h0)), (ha1, .inr (5, [.ref ha1n, .int b1, .int (nI n1)])), (ha1n, .inl (cy 0, 16, .inl h1)), (ha2, .inr (5, [.ref ha2n, .int b2, .int (nI n2)])), (ha2n, .inl (cy 0, 16, .inl h2)), (ha3, .inr (5, [.ref ha3n, .int b3, .int (nI n3)])), (ha3n, .inl (cy 0, 16, .inl h3))] := hD9
                replace hS := hS9
                clear hP9 hD9 hS9
                refine lv_if_ne (tgt := 53) hx hb dX7_copy_42 (by decide) (fun hc69 => ?_) (fun hc69 => ?_)
                · replace hF := hF.trans (if_neg hc69)
                  refine lv_aload_n hx hb dX7_copy_53 rfl (lv_at hl 2 rfl) ?_
                  refine lv_ldcw (v := (-1000002)) hx hb hown (hts _ kX7_copy_2) dX7_copy_54 ?_
                  refine yk_i [0] (va_runV (As := [.int (-1000002)]) (rest := []) ⟨hx, hb, hml, hown, hts⟩ (c_X7_finding l D cy ta a_flow a_draft a_fence a_past a_slots a_slotKinds ha a_speedX a_speedY a_leftward a_change a_table fi (-1000002) H.size) (cwV 1 hts gX7_copy_X7_finding rfl rfl rfl hv_X7_finding (yk_room hRf hRl rfl rfl)) (yk_pv (q := (RX7, TX7, 13)) hG hA hS hK hP hD [0] (by decide +kernel) rfl rfl rfl) rfl rfl hl.1 rfl (lv_room (Nat.le_of_ble_eq_true rfl)) dX7_copy_57 ⟨Nat.zero_le _, Nat.zero_le _⟩) hP hD hS hA rfl (Eq.trans (b := [ta]) rfl rfl) (fun H locs hP9 hD9 hS9 => ?_)
                  replace hP : va_P D vwCl [(ta, .inr (7, [.ref a_flow, .ref a_draft, .ref a_fence, .ref a_past, .ref a_slots, .ref a_slotKinds, .ref ha, .ref a_speedX, .ref a_speedY, .ref a_leftward, .ref a_change, .ref a_table, .int ((f_X7_finding fi (-1000002)).2)])), (ha, .inl (cy 4, 4, .inr (.inr (.inr (.inr (yk_refs [ha0, ha1, ha2, ha3])))))), (ha0, .inr (5, [.ref ha0n, .int b0, .int (nI n0)])), (ha0n, .inl (cy 0, 16, .inl h0)), (ha1, .inr (5, [.ref ha1n, .int b1, .int (nI n1)])), (ha1n, .inl (cy 0, 16, .inl h1)), (ha2, .inr (5, [.ref ha2n, .int b2, .int (nI n2)])), (ha2n, .inl (cy 0, 16, .inl h2)), (ha3, .inr (5, [.ref ha3n, .int b3, .int (nI n3)])), (ha3n, .inl (cy 0, 16, .inl h3))] H := hP9
                  replace hD : va_D A [(ta, .inr (7, [.ref a_flow, .ref a_draft, .ref a_fence, .ref a_past, .ref a_slots, .ref a_slotKinds, .ref ha, .ref a_speedX, .ref a_speedY, .ref a_leftward, .ref a_change, .ref a_table, .int ((f_X7_finding fi (-1000002)).2)])), (ha, .inl (cy 4, 4, .inr (.inr (.inr (.inr (yk_refs [ha0, ha1, ha2, ha3])))))), (ha0, .inr (5, [.ref ha0n, .int b0, .int (nI n0)])), (ha0n, .inl (cy 0, 16, .inl h0)), (ha1, .inr (5, [.ref ha1n, .int b1, .int (nI n1)])), (ha1n, .inl (cy 0, 16, .inl h1)), (ha2, .inr (5, [.ref ha2n, .int b2, .int (nI n2)])), (ha2n, .inl (cy 0, 16, .inl h2)), (ha3, .inr (5, [.ref ha3n, .int b3, .int (nI n3)])), (ha3n, .inl (cy 0, 16, .inl h3))] := hD9
                  replace hS := hS9
                  clear hP9 hD9 hS9
                  have hF : f_X7_copy h0 b0 n0 h1 b1 n1 h2 b2 n2 h3 b3 n3 fi px pf py po pn = (((f_X7_finding fi (-1000002)).1), ((f_X7_finding fi (-1000002)).2), h0, h1, h2, h3) := hF
                  have hf0 := yk_fst hF
                  have hg0 := yk_snd hF
                  have hf1 := yk_fst hg0
                  have hg1 := yk_snd hg0
                  have hf2 := yk_fst hg1
                  have hg2 := yk_snd hg1
                  have hf3 := yk_fst hg2
                  have hg3 := yk_snd hg2
                  have hf4 := yk_fst hg3
                  have hg4 := yk_snd hg3
                  rw [hf0, hf1, hf2, hf3, hf4, hg4] at hQ
                  exact hQ _ _ _ _ dX7_copy_60 hP hS
                · replace hF := hF.trans (if_pos hc69)
                  refine lv_aload hx hb dX7_copy_45 (lv_at hl 0 rfl) ?_
                  refine yk_i [8, 9] (va_runV (As := []) (rest := []) ⟨hx, hb, hml, hown, hts⟩ (c_X5_isMissing l D cy ha3 ha3n h3 b3 n3 H.size) (cwV 0 hts gX7_copy_X5_isMissing rfl rfl rfl hv_X5_isMissing (yk_room hRf hRl rfl rfl)) (yk_pv (q := (RX5, TX5, 3)) hG hA hS hK hP hD [8, 9] (by decide +kernel) rfl rfl rfl) rfl rfl hl.1 rfl (lv_room (Nat.le_of_ble_eq_true rfl)) dX7_copy_47 ⟨Nat.zero_le _, Nat.zero_le _⟩) hP hD hS hA rfl (Eq.trans (b := [ha3, ha3n]) rfl rfl) (fun H locs hP9 hD9 hS9 => ?_)
                  replace hP : va_P D vwCl [(ta, .inr (7, [.ref a_flow, .ref a_draft, .ref a_fence, .ref a_past, .ref a_slots, .ref a_slotKinds, .ref ha, .ref a_speedX, .ref a_speedY, .ref a_leftward, .ref a_change, .ref a_table, .int fi])), (ha, .inl (cy 4, 4, .inr (.inr (.inr (.inr (yk_refs [ha0, ha1, ha2, ha3])))))), (ha0, .inr (5, [.ref ha0n, .int b0, .int (nI n0)])), (ha0n, .inl (cy 0, 16, .inl h0)), (ha1, .inr (5, [.ref ha1n, .int b1, .int (nI n1)])), (ha1n, .inl (cy 0, 16, .inl h1)), (ha2, .inr (5, [.ref ha2n, .int b2, .int (nI n2)])), (ha2n, .inl (cy 0, 16, .inl h2)), (ha3, .inr (5, [.ref ha3n, .int b3, .int (nI n3)])), (ha3n, .inl (cy 0, 16, .inl h3))] H := hP9
                  replace hD : va_D A [(ta, .inr (7, [.ref a_flow, .ref a_draft, .ref a_fence, .ref a_past, .ref a_slots, .ref a_slotKinds, .ref ha, .ref a_speedX, .ref a_speedY, .ref a_leftward, .ref a_change, .ref a_table, .int fi])), (ha, .inl (cy 4, 4, .inr (.inr (.inr (.inr (yk_refs [ha0, ha1, ha2, ha3])))))), (ha0, .inr (5, [.ref ha0n, .int b0, .int (nI n0)])), (ha0n, .inl (cy 0, 16, .inl h0)), (ha1, .inr (5, [.ref ha1n, .int b1, .int (nI n1)])), (ha1n, .inl (cy 0, 16, .inl h1)), (ha2, .inr (5, [.ref ha2n, .int b2, .int (nI n2)])), (ha2n, .inl (cy 0, 16, .inl h2)), (ha3, .inr (5, [.ref ha3n, .int b3, .int (nI n3)])), (ha3n, .inl (cy 0, 16, .inl h3))] := hD9
                  replace hS := hS9
                  clear hP9 hD9 hS9
                  refine lv_if_eq (tgt := 61) hx hb dX7_copy_50 (by decide) (fun hc70 => ?_) (fun hc70 => ?_)
                  · replace hF := hF.trans (if_pos hc70)
                    refine lv_aload hx hb dX7_copy_61 (lv_at hl 1 rfl) ?_
                    refine va_get (D := D) (ci := 5) (v := .int b1) (C := RX5) (T := TX5) (N := 3) hx hb hts uX7_copy_X5 hown hK hP 4 rfl rfl 1 (by decide) (hts _ kX7_copy_3) (fun _ h9 => h9) rfl dX7_copy_63 ?_
                    refine lv_aload hx hb dX7_copy_66 (lv_at hl 0 rfl) ?_
                    refine va_get (D := D) (ci := 5) (v := .int b3) (C := RX5) (T := TX5) (N := 3) hx hb hts uX7_copy_X5 hown hK hP 8 rfl rfl 1 (by decide) (hts _ kX7_copy_3) (fun _ h9 => h9) rfl dX7_copy_68 ?_
                    refine lv_icmp_eq (tgt := 81) hx hb dX7_copy_71 (by decide) (fun hc71 => ?_) (fun hc71 => ?_)
                    · replace hF := hF.trans (if_pos hc71)
                      refine lv_aload hx hb dX7_copy_81 (lv_at hl 1 rfl) ?_
                      refine lv_iload_n hx hb dX7_copy_83 rfl (lv_at hl 4 rfl) ?_
                      refine lv_iload hx hb dX7_copy_84 (lv_at hl 7 rfl) ?_
                      refine yk_i [4, 5] (va_runV (As := [.int pf, .int pn]) (rest := []) ⟨hx, hb, hml, hown, hts⟩ (c_X5_hasRange l D cy ha1 ha1n h1 b1 n1 pf pn hn1 H.size) (cwV 2 hts gX7_copy_X5_hasRange rfl rfl rfl hv_X5_hasRange (yk_room hRf hRl rfl rfl)) (yk_pv (q := (RX5, TX5, 3)) hG hA hS hK hP hD [4, 5] (by decide +kernel) rfl rfl rfl) rfl rfl hl.1 rfl (lv_room (Nat.le_of_ble_eq_true rfl)) dX7_copy_86 ⟨Nat.zero_le _, Nat.zero_le _⟩) hP hD hS hA rfl (Eq.trans (b := [ha1, ha1n]) rfl rfl) (fun H locs hP9 hD9 hS9 => ?_)
                      replace hP : va_P D vwCl [(ta, .inr (7, [.ref a_flow, .ref a_draft, .ref a_fence, .ref a_past, .ref a_slots, .ref a_slotKinds, .ref ha, .ref a_speedX, .ref a_speedY, .ref a_leftward, .ref a_change, .ref a_table, .int fi])), (ha, .inl (cy 4, 4, .inr (.inr (.inr (.inr (yk_refs [ha0, ha1, ha2, ha3])))))), (ha0, .inr (5, [.ref ha0n, .int b0, .int (nI n0)])), (ha0n, .inl (cy 0, 16, .inl h0)), (ha1, .inr (5, [.ref ha1n, .int b1, .int (nI n1)])), (ha1n, .inl (cy 0, 16, .inl h1)), (ha2, .inr (5, [.ref ha2n, .int b2, .int (nI n2)])), (ha2n, .inl (cy 0, 16, .inl h2)), (ha3, .inr (5, [.ref ha3n, .int b3, .int (nI n3)])), (ha3n, .inl (cy 0, 16, .inl h3))] H := hP9
                      replace hD : va_D A [(ta, .inr (7, [.ref a_flow, .ref a_draft, .ref a_fence, .ref a_past, .ref a_slots, .ref a_slotKinds, .ref ha, .ref a_speedX, .ref a_speedY, .ref a_leftward, .ref a_change, .ref a_table, .int fi])), (ha, .inl (cy 4, 4, .inr (.inr (.inr (.inr (yk_refs [ha0, ha1, ha2, ha3])))))), (ha0, .inr (5, [.ref ha0n, .int b0, .int (nI n0)])), (ha0n, .inl (cy 0, 16, .inl h0)), (ha1, .inr (5, [.ref ha1n, .int b1, .int (nI n1)])), (ha1n, .inl (cy 0, 16, .inl h1)), (ha2, .inr (5, [.ref ha2n, .int b2, .int (nI n2)])), (ha2n, .inl (cy 0, 16, .inl h2)), (ha3, .inr (5, [.ref ha3n, .int b3, .int (nI n3)])), (ha3n, .inl (cy 0, 16, .inl h3))] := hD9
                      replace hS := hS9
                      clear hP9 hD9 hS9
                      refine lv_if_eq (tgt := 104) hx hb dX7_copy_89 (by decide) (fun hc72 => ?_) (fun hc72 => ?_)
                      · replace hF := hF.trans (if_pos hc72)
                        refine lv_aload_n hx hb dX7_copy_104 rfl (lv_at hl 2 rfl) ?_
                        refine lv_ldc (v := (-1000001)) hx hb hown (hts _ kX7_copy_0) dX7_copy_105 ?_
                        refine yk_i [0] (va_runV (As := [.int (-1000001)]) (rest := []) ⟨hx, hb, hml, hown, hts⟩ (c_X7_finding l D cy ta a_flow a_draft a_fence a_past a_slots a_slotKinds ha a_speedX a_speedY a_leftward a_change a_table fi (-1000001) H.size) (cwV 1 hts gX7_copy_X7_finding rfl rfl rfl hv_X7_finding (yk_room hRf hRl rfl rfl)) (yk_pv (q := (RX7, TX7, 13)) hG hA hS hK hP hD [0] (by decide +kernel) rfl rfl rfl) rfl rfl hl.1 rfl (lv_room (Nat.le_of_ble_eq_true rfl)) dX7_copy_107 ⟨Nat.zero_le _, Nat.zero_le _⟩) hP hD hS hA rfl (Eq.trans (b := [ta]) rfl rfl) (fun H locs hP9 hD9 hS9 => ?_)
                        replace hP : va_P D vwCl [(ta, .inr (7, [.ref a_flow, .ref a_draft, .ref a_fence, .ref a_past, .ref a_slots, .ref a_slotKinds, .ref ha, .ref a_speedX, .ref a_speedY, .ref a_leftward, .ref a_change, .ref a_table, .int ((f_X7_finding fi (-1000001)).2)])), (ha, .inl (cy 4, 4, .inr (.inr (.inr (.inr (yk_refs [ha0, ha1, ha2, ha3])))))), (ha0, .inr (5, [.ref ha0n, .int b0, .int (nI n0)])), (ha0n, .inl (cy 0, 16, .inl h0)), (ha1, .inr (5, [.ref ha1n, .int b1, .int (nI n1)])), (ha1n, .inl (cy 0, 16, .inl h1)), (ha2, .inr (5, [.ref ha2n, .int b2, .int (nI n2)])), (ha2n, .inl (cy 0, 16, .inl h2)), (ha3, .inr (5, [.ref ha3n, .int b3, .int (nI n3)])), (ha3n, .inl (cy 0, 16, .inl h3))] H := hP9
                        replace hD : va_D A [(ta, .inr (7, [.ref a_flow, .ref a_draft, .ref a_fence, .ref a_past, .ref a_slots, .ref a_slotKinds, .ref ha, .ref a_speedX, .ref a_speedY, .ref a_leftward, .ref a_change, .ref a_table, .int ((f_X7_finding fi (-1000001)).2)])), (ha, .inl (cy 4, 4, .inr (.inr (.inr (.inr (yk_refs [ha0, ha1, ha2, ha3])))))), (ha0, .inr (5, [.ref ha0n, .int b0, .int (nI n0)])), (ha0n, .inl (cy 0, 16, .inl h0)), (ha1, .inr (5, [.ref ha1n, .int b1, .int (nI n1)])), (ha1n, .inl (cy 0, 16, .inl h1)), (ha2, .inr (5, [.ref ha2n, .int b2, .int (nI n2)])), (ha2n, .inl (cy 0, 16, .inl h2)), (ha3, .inr (5, [.ref ha3n, .int b3, .int (nI n3)])), (ha3n, .inl (cy 0, 16, .inl h3))] := hD9
                        replace hS := hS9
                        clear hP9 hD9 hS9
                        have hF : f_X7_copy h0 b0 n0 h1 b1 n1 h2 b2 n2 h3 b3 n3 fi px pf py po pn = (((f_X7_finding fi (-1000001)).1), ((f_X7_finding fi (-1000001)).2), h0, h1, h2, h3) := hF
                        have hf0 := yk_fst hF
                        have hg0 := yk_snd hF
                        have hf1 := yk_fst hg0
                        have hg1 := yk_snd hg0
                        have hf2 := yk_fst hg1
                        have hg2 := yk_snd hg1
                        have hf3 := yk_fst hg2
                        have hg3 := yk_snd hg2
                        have hf4 := yk_fst hg3
                        have hg4 := yk_snd hg3
                        rw [hf0, hf1, hf2, hf3, hf4, hg4] at hQ
                        exact hQ _ _ _ _ dX7_copy_110 hP hS
                      · replace hF := hF.trans (if_neg hc72)
                        refine lv_aload hx hb dX7_copy_92 (lv_at hl 0 rfl) ?_
                        refine lv_iload hx hb dX7_copy_94 (lv_at hl 6 rfl) ?_
                        refine lv_iload hx hb dX7_copy_96 (lv_at hl 7 rfl) ?_
                        refine yk_i [8, 9] (va_runV (As := [.int po, .int pn]) (rest := []) ⟨hx, hb, hml, hown, hts⟩ (c_X5_hasRange l D cy ha3 ha3n h3 b3 n3 po pn hn3 H.size) (cwV 2 hts gX7_copy_X5_hasRange rfl rfl rfl hv_X5_hasRange (yk_room hRf hRl rfl rfl)) (yk_pv (q := (RX5, TX5, 3)) hG hA hS hK hP hD [8, 9] (by decide +kernel) rfl rfl rfl) rfl rfl hl.1 rfl (lv_room (Nat.le_of_ble_eq_true rfl)) dX7_copy_98 ⟨Nat.zero_le _, Nat.zero_le _⟩) hP hD hS hA rfl (Eq.trans (b := [ha3, ha3n]) rfl rfl) (fun H locs hP9 hD9 hS9 => ?_)
                        replace hP : va_P D vwCl [(ta, .inr (7, [.ref a_flow, .ref a_draft, .ref a_fence, .ref a_past, .ref a_slots, .ref a_slotKinds, .ref ha, .ref a_speedX, .ref a_speedY, .ref a_leftward, .ref a_change, .ref a_table, .int fi])), (ha, .inl (cy 4, 4, .inr (.inr (.inr (.inr (yk_refs [ha0, ha1, ha2, ha3])))))), (ha0, .inr (5, [.ref ha0n, .int b0, .int (nI n0)])), (ha0n, .inl (cy 0, 16, .inl h0)), (ha1, .inr (5, [.ref ha1n, .int b1, .int (nI n1)])), (ha1n, .inl (cy 0, 16, .inl h1)), (ha2, .inr (5, [.ref ha2n, .int b2, .int (nI n2)])), (ha2n, .inl (cy 0, 16, .inl h2)), (ha3, .inr (5, [.ref ha3n, .int b3, .int (nI n3)])), (ha3n, .inl (cy 0, 16, .inl h3))] H := hP9
                        replace hD : va_D A [(ta, .inr (7, [.ref a_flow, .ref a_draft, .ref a_fence, .ref a_past, .ref a_slots, .ref a_slotKinds, .ref ha, .ref a_speedX, .ref a_speedY, .ref a_leftward, .ref a_change, .ref a_table, .int fi])), (ha, .inl (cy 4, 4, .inr (.inr (.inr (.inr (yk_refs [ha0, ha1, ha2, ha3])))))), (ha0, .inr (5, [.ref ha0n, .int b0, .int (nI n0)])), (ha0n, .inl (cy 0, 16, .inl h0)), (ha1, .inr (5, [.ref ha1n, .int b1, .int (nI n1)])), (ha1n, .inl (cy 0, 16, .inl h1)), (ha2, .inr (5, [.ref ha2n, .int b2, .int (nI n2)])), (ha2n, .inl (cy 0, 16, .inl h2)), (ha3, .inr (5, [.ref ha3n, .int b3, .int (nI n3)])), (ha3n, .inl (cy 0, 16, .inl h3))] := hD9
                        replace hS := hS9
                        clear hP9 hD9 hS9
                        refine lv_if_ne (tgt := 111) hx hb dX7_copy_101 (by decide) (fun hc73 => ?_) (fun hc73 => ?_)
                        · replace hF := hF.trans (if_neg hc73)
                          have hq8 := hr_ok (n := n1) (x := pf) (y := pn) (by omega) (by assumption)
                          have hq9 := hr_ok (n := n3) (x := po) (y := pn) (by omega) (by assumption)
                          have hq74 : pf = nI pf.toNatClampNeg := hq8.1.1
                          have hq74b : pf.toNatClampNeg < 17 := hq8.1.2
                          rw [hq74] at hl
                          have hq75 : po = nI po.toNatClampNeg := hq9.1.1
                          have hq75b : po.toNatClampNeg < 17 := hq9.1.2
                          rw [hq75] at hl
                          have hq76 : pn = nI pn.toNatClampNeg := hq8.2.1.1
                          have hq76b : pn.toNatClampNeg < 17 := hq8.2.1.2
                          rw [hq76] at hl
                          refine lv_aload hx hb dX7_copy_111 (lv_at hl 1 rfl) ?_
                          refine va_get (D := D) (ci := 5) (v := .ref ha1n) (C := RX5) (T := TX5) (N := 3) hx hb hts uX7_copy_X5 hown hK hP 4 rfl rfl 0 (by decide) (hts _ kX7_copy_4) (fun _ h9 => h9) rfl dX7_copy_113 ?_
                          refine lv_iload_n hx hb dX7_copy_116 rfl (lv_at hl 4 rfl) ?_
                          refine lv_aload hx hb dX7_copy_117 (lv_at hl 0 rfl) ?_
                          refine va_get (D := D) (ci := 5) (v := .ref ha3n) (C := RX5) (T := TX5) (N := 3) hx hb hts uX7_copy_X5 hown hK hP 8 rfl rfl 0 (by decide) (hts _ kX7_copy_4) (fun _ h9 => h9) rfl dX7_copy_119 ?_
                          refine lv_iload hx hb dX7_copy_122 (lv_at hl 6 rfl) ?_
                          refine lv_iload hx hb dX7_copy_124 (lv_at hl 7 rfl) ?_
                          refine yk_cpy (sp := pf.toNatClampNeg) (dp := po.toNatClampNeg) (n := pn.toNatClampNeg) hx hb (hml.trans hl.1.symm) hown (hts _ kX7_copy_5) (hts _ kX7_copy_6) (hts _ kX7_copy_7) (hts _ kX7_copy_8) hK hP hD hS 5 9 rfl rfl rfl rfl (⟨by omega, by omega⟩) (by omega) (by omega) (by rw [hRf]; exact Nat.le_of_ble_eq_true rfl) (by rw [hRl]; exact Nat.le_of_ble_eq_true rfl) dX7_copy_126 (fun H locs hP9 hD9 hS9 => ?_)
                          replace hP : va_P D vwCl [(ta, .inr (7, [.ref a_flow, .ref a_draft, .ref a_fence, .ref a_past, .ref a_slots, .ref a_slotKinds, .ref ha, .ref a_speedX, .ref a_speedY, .ref a_leftward, .ref a_change, .ref a_table, .int fi])), (ha, .inl (cy 4, 4, .inr (.inr (.inr (.inr (yk_refs [ha0, ha1, ha2, ha3])))))), (ha0, .inr (5, [.ref ha0n, .int b0, .int (nI n0)])), (ha0n, .inl (cy 0, 16, .inl h0)), (ha1, .inr (5, [.ref ha1n, .int b1, .int (nI n1)])), (ha1n, .inl (cy 0, 16, .inl h1)), (ha2, .inr (5, [.ref ha2n, .int b2, .int (nI n2)])), (ha2n, .inl (cy 0, 16, .inl h2)), (ha3, .inr (5, [.ref ha3n, .int b3, .int (nI n3)])), (ha3n, .inl (cy 0, 16, .inl (va_cpy h1 h3 pf.toNatClampNeg po.toNatClampNeg pn.toNatClampNeg)))] H := hP9
                          replace hD : va_D A [(ta, .inr (7, [.ref a_flow, .ref a_draft, .ref a_fence, .ref a_past, .ref a_slots, .ref a_slotKinds, .ref ha, .ref a_speedX, .ref a_speedY, .ref a_leftward, .ref a_change, .ref a_table, .int fi])), (ha, .inl (cy 4, 4, .inr (.inr (.inr (.inr (yk_refs [ha0, ha1, ha2, ha3])))))), (ha0, .inr (5, [.ref ha0n, .int b0, .int (nI n0)])), (ha0n, .inl (cy 0, 16, .inl h0)), (ha1, .inr (5, [.ref ha1n, .int b1, .int (nI n1)])), (ha1n, .inl (cy 0, 16, .inl h1)), (ha2, .inr (5, [.ref ha2n, .int b2, .int (nI n2)])), (ha2n, .inl (cy 0, 16, .inl h2)), (ha3, .inr (5, [.ref ha3n, .int b3, .int (nI n3)])), (ha3n, .inl (cy 0, 16, .inl (va_cpy h1 h3 pf.toNatClampNeg po.toNatClampNeg pn.toNatClampNeg)))] := hD9
                          replace hS := hS9
                          clear hP9 hD9 hS9
                          refine lv_iload hx hb dX7_copy_129 (lv_at hl 7 rfl) ?_
                          have hF : f_X7_copy h0 b0 n0 h1 b1 n1 h2 b2 n2 h3 b3 n3 fi px pf py po pn = ((nI pn.toNatClampNeg), fi, h0, h1, h2, (va_cpy h1 h3 pf.toNatClampNeg po.toNatClampNeg pn.toNatClampNeg)) := hF
                          have hf0 := yk_fst hF
                          have hg0 := yk_snd hF
                          have hf1 := yk_fst hg0
                          have hg1 := yk_snd hg0
                          have hf2 := yk_fst hg1
                          have hg2 := yk_snd hg1
                          have hf3 := yk_fst hg2
                          have hg3 := yk_snd hg2
                          have hf4 := yk_fst hg3
                          have hg4 := yk_snd hg3
                          rw [hf0, hf1, hf2, hf3, hf4, hg4] at hQ
                          exact hQ _ _ _ _ dX7_copy_131 hP hS
                        · replace hF := hF.trans (if_pos hc73)
                          refine lv_aload_n hx hb dX7_copy_104 rfl (lv_at hl 2 rfl) ?_
                          refine lv_ldc (v := (-1000001)) hx hb hown (hts _ kX7_copy_0) dX7_copy_105 ?_
                          refine yk_i [0] (va_runV (As := [.int (-1000001)]) (rest := []) ⟨hx, hb, hml, hown, hts⟩ (c_X7_finding l D cy ta a_flow a_draft a_fence a_past a_slots a_slotKinds ha a_speedX a_speedY a_leftward a_change a_table fi (-1000001) H.size) (cwV 1 hts gX7_copy_X7_finding rfl rfl rfl hv_X7_finding (yk_room hRf hRl rfl rfl)) (yk_pv (q := (RX7, TX7, 13)) hG hA hS hK hP hD [0] (by decide +kernel) rfl rfl rfl) rfl rfl hl.1 rfl (lv_room (Nat.le_of_ble_eq_true rfl)) dX7_copy_107 ⟨Nat.zero_le _, Nat.zero_le _⟩) hP hD hS hA rfl (Eq.trans (b := [ta]) rfl rfl) (fun H locs hP9 hD9 hS9 => ?_)
                          replace hP : va_P D vwCl [(ta, .inr (7, [.ref a_flow, .ref a_draft, .ref a_fence, .ref a_past, .ref a_slots, .ref a_slotKinds, .ref ha, .ref a_speedX, .ref a_speedY, .ref a_leftward, .ref a_change, .ref a_table, .int ((f_X7_finding fi (-1000001)).2)])), (ha, .inl (cy 4, 4, .inr (.inr (.inr (.inr (yk_refs [ha0, ha1, ha2, ha3])))))), (ha0, .inr (5, [.ref ha0n, .int b0, .int (nI n0)])), (ha0n, .inl (cy 0, 16, .inl h0)), (ha1, .inr (5, [.ref ha1n, .int b1, .int (nI n1)])), (ha1n, .inl (cy 0, 16, .inl h1)), (ha2, .inr (5, [.ref ha2n, .int b2, .int (nI n2)])), (ha2n, .inl (cy 0, 16, .inl h2)), (ha3, .inr (5, [.ref ha3n, .int b3, .int (nI n3)])), (ha3n, .inl (cy 0, 16, .inl h3))] H := hP9
                          replace hD : va_D A [(ta, .inr (7, [.ref a_flow, .ref a_draft, .ref a_fence, .ref a_past, .ref a_slots, .ref a_slotKinds, .ref ha, .ref a_speedX, .ref a_speedY, .ref a_leftward, .ref a_change, .ref a_table, .int ((f_X7_finding fi (-1000001)).2)])), (ha, .inl (cy 4, 4, .inr (.inr (.inr (.inr (yk_refs [ha0, ha1, ha2, ha3])))))), (ha0, .inr (5, [.ref ha0n, .int b0, .int (nI n0)])), (ha0n, .inl (cy 0, 16, .inl h0)), (ha1, .inr (5, [.ref ha1n, .int b1, .int (nI n1)])), (ha1n, .inl (cy 0, 16, .inl h1)), (ha2, .inr (5, [.ref ha2n, .int b2, .int (nI n2)])), (ha2n, .inl (cy 0, 16, .inl h2)), (ha3, .inr (5, [.ref ha3n, .int b3, .int (nI n3)])), (ha3n, .inl (cy 0, 16, .inl h3))] := hD9
                          replace hS := hS9
                          clear hP9 hD9 hS9
                          have hF : f_X7_copy h0 b0 n0 h1 b1 n1 h2 b2 n2 h3 b3 n3 fi px pf py po pn = (((f_X7_finding fi (-1000001)).1), ((f_X7_finding fi (-1000001)).2), h0, h1, h2, h3) := hF
                          have hf0 := yk_fst hF
                          have hg0 := yk_snd hF
                          have hf1 := yk_fst hg0
                          have hg1 := yk_snd hg0
                          have hf2 := yk_fst hg1
                          have hg2 := yk_snd hg1
                          have hf3 := yk_fst hg2
                          have hg3 := yk_snd hg2
                          have hf4 := yk_fst hg3
                          have hg4 := yk_snd hg3
                          rw [hf0, hf1, hf2, hf3, hf4, hg4] at hQ
                          exact hQ _ _ _ _ dX7_copy_110 hP hS
                    · replace hF := hF.trans (if_neg hc71)
                      refine lv_aload_n hx hb dX7_copy_74 rfl (lv_at hl 2 rfl) ?_
                      refine lv_ldc (v := (-1000004)) hx hb hown (hts _ kX7_copy_9) dX7_copy_75 ?_
                      refine yk_i [0] (va_runV (As := [.int (-1000004)]) (rest := []) ⟨hx, hb, hml, hown, hts⟩ (c_X7_finding l D cy ta a_flow a_draft a_fence a_past a_slots a_slotKinds ha a_speedX a_speedY a_leftward a_change a_table fi (-1000004) H.size) (cwV 1 hts gX7_copy_X7_finding rfl rfl rfl hv_X7_finding (yk_room hRf hRl rfl rfl)) (yk_pv (q := (RX7, TX7, 13)) hG hA hS hK hP hD [0] (by decide +kernel) rfl rfl rfl) rfl rfl hl.1 rfl (lv_room (Nat.le_of_ble_eq_true rfl)) dX7_copy_77 ⟨Nat.zero_le _, Nat.zero_le _⟩) hP hD hS hA rfl (Eq.trans (b := [ta]) rfl rfl) (fun H locs hP9 hD9 hS9 => ?_)
                      replace hP : va_P D vwCl [(ta, .inr (7, [.ref a_flow, .ref a_draft, .ref a_fence, .ref a_past, .ref a_slots, .ref a_slotKinds, .ref ha, .ref a_speedX, .ref a_speedY, .ref a_leftward, .ref a_change, .ref a_table, .int ((f_X7_finding fi (-1000004)).2)])), (ha, .inl (cy 4, 4, .inr (.inr (.inr (.inr (yk_refs [ha0, ha1, ha2, ha3])))))), (ha0, .inr (5, [.ref ha0n, .int b0, .int (nI n0)])), (ha0n, .inl (cy 0, 16, .inl h0)), (ha1, .inr (5, [.ref ha1n, .int b1, .int (nI n1)])), (ha1n, .inl (cy 0, 16, .inl h1)), (ha2, .inr (5, [.ref ha2n, .int b2, .int (nI n2)])), (ha2n, .inl (cy 0, 16, .inl h2)), (ha3, .inr (5, [.ref ha3n, .int b3, .int (nI n3)])), (ha3n, .inl (cy 0, 16, .inl h3))] H := hP9
                      replace hD : va_D A [(ta, .inr (7, [.ref a_flow, .ref a_draft, .ref a_fence, .ref a_past, .ref a_slots, .ref a_slotKinds, .ref ha, .ref a_speedX, .ref a_speedY, .ref a_leftward, .ref a_change, .ref a_table, .int ((f_X7_finding fi (-1000004)).2)])), (ha, .inl (cy 4, 4, .inr (.inr (.inr (.inr (yk_refs [ha0, ha1, ha2, ha3])))))), (ha0, .inr (5, [.ref ha0n, .int b0, .int (nI n0)])), (ha0n, .inl (cy 0, 16, .inl h0)), (ha1, .inr (5, [.ref ha1n, .int b1, .int (nI n1)])), (ha1n, .inl (cy 0, 16, .inl h1)), (ha2, .inr (5, [.ref ha2n, .int b2, .int (nI n2)])), (ha2n, .inl (cy 0, 16, .inl h2)), (ha3, .inr (5, [.ref ha3n, .int b3, .int (nI n3)])), (ha3n, .inl (cy 0, 16, .inl h3))] := hD9
                      replace hS := hS9
                      clear hP9 hD9 hS9
                      have hF : f_X7_copy h0 b0 n0 h1 b1 n1 h2 b2 n2 h3 b3 n3 fi px pf py po pn = (((f_X7_finding fi (-1000004)).1), ((f_X7_finding fi (-1000004)).2), h0, h1, h2, h3) := hF
                      have hf0 := yk_fst hF
                      have hg0 := yk_snd hF
                      have hf1 := yk_fst hg0
                      have hg1 := yk_snd hg0
                      have hf2 := yk_fst hg1
                      have hg2 := yk_snd hg1
                      have hf3 := yk_fst hg2
                      have hg3 := yk_snd hg2
                      have hf4 := yk_fst hg3
                      have hg4 := yk_snd hg3
                      rw [hf0, hf1, hf2, hf3, hf4, hg4] at hQ
                      exact hQ _ _ _ _ dX7_copy_80 hP hS
                  · replace hF := hF.trans (if_neg hc70)
                    refine lv_aload_n hx hb dX7_copy_53 rfl (lv_at hl 2 rfl) ?_
                    refine lv_ldcw (v := (-1000002)) hx hb hown (hts _ kX7_copy_2) dX7_copy_54 ?_
                    refine yk_i [0] (va_runV (As := [.int (-1000002)]) (rest := []) ⟨hx, hb, hml, hown, hts⟩ (c_X7_finding l D cy ta a_flow a_draft a_fence a_past a_slots a_slotKinds ha a_speedX a_speedY a_leftward a_change a_table fi (-1000002) H.size) (cwV 1 hts gX7_copy_X7_finding rfl rfl rfl hv_X7_finding (yk_room hRf hRl rfl rfl)) (yk_pv (q := (RX7, TX7, 13)) hG hA hS hK hP hD [0] (by decide +kernel) rfl rfl rfl) rfl rfl hl.1 rfl (lv_room (Nat.le_of_ble_eq_true rfl)) dX7_copy_57 ⟨Nat.zero_le _, Nat.zero_le _⟩) hP hD hS hA rfl (Eq.trans (b := [ta]) rfl rfl) (fun H locs hP9 hD9 hS9 => ?_)
                    replace hP : va_P D vwCl [(ta, .inr (7, [.ref a_flow, .ref a_draft, .ref a_fence, .ref a_past, .ref a_slots, .ref a_slotKinds, .ref ha, .ref a_speedX, .ref a_speedY, .ref a_leftward, .ref a_change, .ref a_table, .int ((f_X7_finding fi (-1000002)).2)])), (ha, .inl (cy 4, 4, .inr (.inr (.inr (.inr (yk_refs [ha0, ha1, ha2, ha3])))))), (ha0, .inr (5, [.ref ha0n, .int b0, .int (nI n0)])), (ha0n, .inl (cy 0, 16, .inl h0)), (ha1, .inr (5, [.ref ha1n, .int b1, .int (nI n1)])), (ha1n, .inl (cy 0, 16, .inl h1)), (ha2, .inr (5, [.ref ha2n, .int b2, .int (nI n2)])), (ha2n, .inl (cy 0, 16, .inl h2)), (ha3, .inr (5, [.ref ha3n, .int b3, .int (nI n3)])), (ha3n, .inl (cy 0, 16, .inl h3))] H := hP9
                    replace hD : va_D A [(ta, .inr (7, [.ref a_flow, .ref a_draft, .ref a_fence, .ref a_past, .ref a_slots, .ref a_slotKinds, .ref ha, .ref a_speedX, .ref a_speedY, .ref a_leftward, .ref a_change, .ref a_table, .int ((f_X7_finding fi (-1000002)).2)])), (ha, .inl (cy 4, 4, .inr (.inr (.inr (.inr (yk_refs [ha0, ha1, ha2, ha3])))))), (ha0, .inr (5, [.ref ha0n, .int b0, .int (nI n0)])), (ha0n, .inl (cy 0, 16, .inl h0)), (ha1, .inr (5, [.ref ha1n, .int b1, .int (nI n1)])), (ha1n, .inl (cy 0, 16, .inl h1)), (ha2, .inr (5, [.ref ha2n, .int b2, .int (nI n2)])), (ha2n, .inl (cy 0, 16, .inl h2)), (ha3, .inr (5, [.ref ha3n, .int b3, .int (nI n3)])), (ha3n, .inl (cy 0, 16, .inl h3))] := hD9
                    replace hS := hS9
                    clear hP9 hD9 hS9
                    have hF : f_X7_copy h0 b0 n0 h1 b1 n1 h2 b2 n2 h3 b3 n3 fi px pf py po pn = (((f_X7_finding fi (-1000002)).1), ((f_X7_finding fi (-1000002)).2), h0, h1, h2, h3) := hF
                    have hf0 := yk_fst hF
                    have hg0 := yk_snd hF
                    have hf1 := yk_fst hg0
                    have hg1 := yk_snd hg0
                    have hf2 := yk_fst hg1
                    have hg2 := yk_snd hg1
                    have hf3 := yk_fst hg2
                    have hg3 := yk_snd hg2
                    have hf4 := yk_fst hg3
                    have hg4 := yk_snd hg3
                    rw [hf0, hf1, hf2, hf3, hf4, hg4] at hQ
                    exact hQ _ _ _ _ dX7_copy_60 hP hS
        · replace hF := hF.trans (if_neg hc41)
          by_cases hc77 : px.toNatClampNeg = 2
          · replace hF := hF.trans (if_pos hc77)
            refine yk_ti (y := nI 2) (congrArg nI hc77) ?_
            refine yk_aldq hx hb hK hP 1 4 rfl rfl 2 (by decide) (by decide) rfl dX7_copy_26 ?_
            refine lv_astore (lv' := [(6, .ref ha2), (0, .ref ta), (1, .int (nI px.toNatClampNeg)), (2, .int pf), (3, .int (nI py.toNatClampNeg)), (4, .int po), (5, .int pn)]) hx hb dX7_copy_27 hl (by decide) rfl (fun ls hl9 => ?_)
            replace hl := hl9
            clear hl9
            refine lv_aload_n hx hb dX7_copy_29 rfl (lv_at hl 1 rfl) ?_
            refine va_get (D := D) (ci := 7) (v := .ref ha) (C := RX7) (T := TX7) (N := 13) hx hb hts uX7_copy_X7 hown hK hP 0 rfl rfl 6 (by decide) (hts _ kX7_copy_1) (fun _ h9 => h9) rfl dX7_copy_30 ?_
            refine lv_iload_n hx hb dX7_copy_33 rfl (lv_at hl 4 rfl) ?_
            by_cases hc78 : py.toNatClampNeg = 0
            · replace hF := hF.trans (if_pos hc78)
              refine yk_ti (y := nI 0) (congrArg nI hc78) ?_
              refine yk_aldq hx hb hK hP 1 4 rfl rfl 0 (by decide) (by decide) rfl dX7_copy_34 ?_
              refine lv_astore (lv' := [(7, .ref ha0), (6, .ref ha2), (0, .ref ta), (1, .int (nI px.toNatClampNeg)), (2, .int pf), (3, .int (nI py.toNatClampNeg)), (4, .int po), (5, .int pn)]) hx hb dX7_copy_35 hl (by decide) rfl (fun ls hl9 => ?_)
              replace hl := hl9
              clear hl9
              refine lv_aload hx hb dX7_copy_37 (lv_at hl 1 rfl) ?_
              refine yk_i [6, 7] (va_runV (As := []) (rest := []) ⟨hx, hb, hml, hown, hts⟩ (c_X5_isMissing l D cy ha2 ha2n h2 b2 n2 H.size) (cwV 0 hts gX7_copy_X5_isMissing rfl rfl rfl hv_X5_isMissing (yk_room hRf hRl rfl rfl)) (yk_pv (q := (RX5, TX5, 3)) hG hA hS hK hP hD [6, 7] (by decide +kernel) rfl rfl rfl) rfl rfl hl.1 rfl (lv_room (Nat.le_of_ble_eq_true rfl)) dX7_copy_39 ⟨Nat.zero_le _, Nat.zero_le _⟩) hP hD hS hA rfl (Eq.trans (b := [ha2, ha2n]) rfl rfl) (fun H locs hP9 hD9 hS9 => ?_)
              replace hP : va_P D vwCl [(ta, .inr (7, [.ref a_flow, .ref a_draft, .ref a_fence, .ref a_past, .ref a_slots, .ref a_slotKinds, .ref ha, .ref a_speedX, .ref a_speedY, .ref a_leftward, .ref a_change, .ref a_table, .int fi])), (ha, .inl (cy 4, 4, .inr (.inr (.inr (.inr (yk_refs [ha0, ha1, ha2, ha3])))))), (ha0, .inr (5, [.ref ha0n, .int b0, .int (nI n0)])), (ha0n, .inl (cy 0, 16, .inl h0)), (ha1, .inr (5, [.ref ha1n, .int b1, .int (nI n1)])), (ha1n, .inl (cy 0, 16, .inl h1)), (ha2, .inr (5, [.ref ha2n, .int b2, .int (nI n2)])), (ha2n, .inl (cy 0, 16, .inl h2)), (ha3, .inr (5, [.ref ha3n, .int b3, .int (nI n3)])), (ha3n, .inl (cy 0, 16, .inl h3))] H := hP9
              replace hD : va_D A [(ta, .inr (7, [.ref a_flow, .ref a_draft, .ref a_fence, .ref a_past, .ref a_slots, .ref a_slotKinds, .ref ha, .ref a_speedX, .ref a_speedY, .ref a_leftward, .ref a_change, .ref a_table, .int fi])), (ha, .inl (cy 4, 4, .inr (.inr (.inr (.inr (yk_refs [ha0, ha1, ha2, ha3])))))), (ha0, .inr (5, [.ref ha0n, .int b0, .int (nI n0)])), (ha0n, .inl (cy 0, 16, .inl h0)), (ha1, .inr (5, [.ref ha1n, .int b1, .int (nI n1)])), (ha1n, .inl (cy 0, 16, .inl h1)), (ha2, .inr (5, [.ref ha2n, .int b2, .int (nI n2)])), (ha2n, .inl (cy 0, 16, .inl h2)), (ha3, .inr (5, [.ref ha3n, .int b3, .int (nI n3)])), (ha3n, .inl (cy 0, 16, .inl h3))] := hD9
              replace hS := hS9
              clear hP9 hD9 hS9
              refine lv_if_ne (tgt := 53) hx hb dX7_copy_42 (by decide) (fun hc79 => ?_) (fun hc79 => ?_)
              · replace hF := hF.trans (if_neg hc79)
                refine lv_aload_n hx hb dX7_copy_53 rfl (lv_at hl 2 rfl) ?_
                refine lv_ldcw (v := (-1000002)) hx hb hown (hts _ kX7_copy_2) dX7_copy_54 ?_
                refine yk_i [0] (va_runV (As := [.int (-1000002)]) (rest := []) ⟨hx, hb, hml, hown, hts⟩ (c_X7_finding l D cy ta a_flow a_draft a_fence a_past a_slots a_slotKinds ha a_speedX a_speedY a_leftward a_change a_table fi (-1000002) H.size) (cwV 1 hts gX7_copy_X7_finding rfl rfl rfl hv_X7_finding (yk_room hRf hRl rfl rfl)) (yk_pv (q := (RX7, TX7, 13)) hG hA hS hK hP hD [0] (by decide +kernel) rfl rfl rfl) rfl rfl hl.1 rfl (lv_room (Nat.le_of_ble_eq_true rfl)) dX7_copy_57 ⟨Nat.zero_le _, Nat.zero_le _⟩) hP hD hS hA rfl (Eq.trans (b := [ta]) rfl rfl) (fun H locs hP9 hD9 hS9 => ?_)
                replace hP : va_P D vwCl [(ta, .inr (7, [.ref a_flow, .ref a_draft, .ref a_fence, .ref a_past, .ref a_slots, .ref a_slotKinds, .ref ha, .ref a_speedX, .ref a_speedY, .ref a_leftward, .ref a_change, .ref a_table, .int ((f_X7_finding fi (-1000002)).2)])), (ha, .inl (cy 4, 4, .inr (.inr (.inr (.inr (yk_refs [ha0, ha1, ha2, ha3])))))), (ha0, .inr (5, [.ref ha0n, .int b0, .int (nI n0)])), (ha0n, .inl (cy 0, 16, .inl h0)), (ha1, .inr (5, [.ref ha1n, .int b1, .int (nI n1)])), (ha1n, .inl (cy 0, 16, .inl h1)), (ha2, .inr (5, [.ref ha2n, .int b2, .int (nI n2)])), (ha2n, .inl (cy 0, 16, .inl h2)), (ha3, .inr (5, [.ref ha3n, .int b3, .int (nI n3)])), (ha3n, .inl (cy 0, 16, .inl h3))] H := hP9
                replace hD : va_D A [(ta, .inr (7, [.ref a_flow, .ref a_draft, .ref a_fence, .ref a_past, .ref a_slots, .ref a_slotKinds, .ref ha, .ref a_speedX, .ref a_speedY, .ref a_leftward, .ref a_change, .ref a_table, .int ((f_X7_finding fi (-1000002)).2)])), (ha, .inl (cy 4, 4, .inr (.inr (.inr (.inr (yk_refs [ha0, ha1, ha2, ha3])))))), (ha0, .inr (5, [.ref ha0n, .int b0, .int (nI n0)])), (ha0n, .inl (cy 0, 16, .inl h0)), (ha1, .inr (5, [.ref ha1n, .int b1, .int (nI n1)])), (ha1n, .inl (cy 0, 16, .inl h1)), (ha2, .inr (5, [.ref ha2n, .int b2, .int (nI n2)])), (ha2n, .inl (cy 0, 16, .inl h2)), (ha3, .inr (5, [.ref ha3n, .int b3, .int (nI n3)])), (ha3n, .inl (cy 0, 16, .inl h3))] := hD9
                replace hS := hS9
                clear hP9 hD9 hS9
                have hF : f_X7_copy h0 b0 n0 h1 b1 n1 h2 b2 n2 h3 b3 n3 fi px pf py po pn = (((f_X7_finding fi (-1000002)).1), ((f_X7_finding fi (-1000002)).2), h0, h1, h2, h3) := hF
                have hf0 := yk_fst hF
                have hg0 := yk_snd hF
                have hf1 := yk_fst hg0
                have hg1 := yk_snd hg0
                have hf2 := yk_fst hg1
                have hg2 := yk_snd hg1
                have hf3 := yk_fst hg2
                have hg3 := yk_snd hg2
                have hf4 := yk_fst hg3
                have hg4 := yk_snd hg3
                rw [hf0, hf1, hf2, hf3, hf4, hg4] at hQ
                exact hQ _ _ _ _ dX7_copy_60 hP hS
              · replace hF := hF.trans (if_pos hc79)
                refine lv_aload hx hb dX7_copy_45 (lv_at hl 0 rfl) ?_
                refine yk_i [2, 3] (va_runV (As := []) (rest := []) ⟨hx, hb, hml, hown, hts⟩ (c_X5_isMissing l D cy ha0 ha0n h0 b0 n0 H.size) (cwV 0 hts gX7_copy_X5_isMissing rfl rfl rfl hv_X5_isMissing (yk_room hRf hRl rfl rfl)) (yk_pv (q := (RX5, TX5, 3)) hG hA hS hK hP hD [2, 3] (by decide +kernel) rfl rfl rfl) rfl rfl hl.1 rfl (lv_room (Nat.le_of_ble_eq_true rfl)) dX7_copy_47 ⟨Nat.zero_le _, Nat.zero_le _⟩) hP hD hS hA rfl (Eq.trans (b := [ha0, ha0n]) rfl rfl) (fun H locs hP9 hD9 hS9 => ?_)
                replace hP : va_P D vwCl [(ta, .inr (7, [.ref a_flow, .ref a_draft, .ref a_fence, .ref a_past, .ref a_slots, .ref a_slotKinds, .ref ha, .ref a_speedX, .ref a_speedY, .ref a_leftward, .ref a_change, .ref a_table, .int fi])), (ha, .inl (cy 4, 4, .inr (.inr (.inr (.inr (yk_refs [ha0, ha1, ha2, ha3])))))), (ha0, .inr (5, [.ref ha0n, .int b0, .int (nI n0)])), (ha0n, .inl (cy 0, 16, .inl h0)), (ha1, .inr (5, [.ref ha1n, .int b1, .int (nI n1)])), (ha1n, .inl (cy 0, 16, .inl h1)), (ha2, .inr (5, [.ref ha2n, .int b2, .int (nI n2)])), (ha2n, .inl (cy 0, 16, .inl h2)), (ha3, .inr (5, [.ref ha3n, .int b3, .int (nI n3)])), (ha3n, .inl (cy 0, 16, .inl h3))] H := hP9
                replace hD : va_D A [(ta, .inr (7, [.ref a_flow, .ref a_draft, .ref a_fence, .ref a_past, .ref a_slots, .ref a_slotKinds, .ref ha, .ref a_speedX, .ref a_speedY, .ref a_leftward, .ref a_change, .ref a_table, .int fi])), (ha, .inl (cy 4, 4, .inr (.inr (.inr (.inr (yk_refs [ha0, ha1, ha2, ha3])))))), (ha0, .inr (5, [.ref ha0n, .int b0, .int (nI n0)])), (ha0n, .inl (cy 0, 16, .inl h0)), (ha1, .inr (5, [.ref ha1n, .int b1, .int (nI n1)])), (ha1n, .inl (cy 0, 16, .inl h1)), (ha2, .inr (5, [.ref ha2n, .int b2, .int (nI n2)])), (ha2n, .inl (cy 0, 16, .inl h2)), (ha3, .inr (5, [.ref ha3n, .int b3, .int (nI n3)])), (ha3n, .inl (cy 0, 16, .inl h3))] := hD9
                replace hS := hS9
                clear hP9 hD9 hS9
                refine lv_if_eq (tgt := 61) hx hb dX7_copy_50 (by decide) (fun hc80 => ?_) (fun hc80 => ?_)
                · replace hF := hF.trans (if_pos hc80)
                  refine lv_aload hx hb dX7_copy_61 (lv_at hl 1 rfl) ?_
                  refine va_get (D := D) (ci := 5) (v := .int b2) (C := RX5) (T := TX5) (N := 3) hx hb hts uX7_copy_X5 hown hK hP 6 rfl rfl 1 (by decide) (hts _ kX7_copy_3) (fun _ h9 => h9) rfl dX7_copy_63 ?_
                  refine lv_aload hx hb dX7_copy_66 (lv_at hl 0 rfl) ?_
                  refine va_get (D := D) (ci := 5) (v := .int b0) (C := RX5) (T := TX5) (N := 3) hx hb hts uX7_copy_X5 hown hK hP 2 rfl rfl 1 (by decide) (hts _ kX7_copy_3) (fun _ h9 => h9) rfl dX7_copy_68 ?_
                  refine lv_icmp_eq (tgt := 81) hx hb dX7_copy_71 (by decide) (fun hc81 => ?_) (fun hc81 => ?_)
                  · replace hF := hF.trans (if_pos hc81)
                    refine lv_aload hx hb dX7_copy_81 (lv_at hl 1 rfl) ?_
                    refine lv_iload_n hx hb dX7_copy_83 rfl (lv_at hl 4 rfl) ?_
                    refine lv_iload hx hb dX7_copy_84 (lv_at hl 7 rfl) ?_
                    refine yk_i [6, 7] (va_runV (As := [.int pf, .int pn]) (rest := []) ⟨hx, hb, hml, hown, hts⟩ (c_X5_hasRange l D cy ha2 ha2n h2 b2 n2 pf pn hn2 H.size) (cwV 2 hts gX7_copy_X5_hasRange rfl rfl rfl hv_X5_hasRange (yk_room hRf hRl rfl rfl)) (yk_pv (q := (RX5, TX5, 3)) hG hA hS hK hP hD [6, 7] (by decide +kernel) rfl rfl rfl) rfl rfl hl.1 rfl (lv_room (Nat.le_of_ble_eq_true rfl)) dX7_copy_86 ⟨Nat.zero_le _, Nat.zero_le _⟩) hP hD hS hA rfl (Eq.trans (b := [ha2, ha2n]) rfl rfl) (fun H locs hP9 hD9 hS9 => ?_)
                    replace hP : va_P D vwCl [(ta, .inr (7, [.ref a_flow, .ref a_draft, .ref a_fence, .ref a_past, .ref a_slots, .ref a_slotKinds, .ref ha, .ref a_speedX, .ref a_speedY, .ref a_leftward, .ref a_change, .ref a_table, .int fi])), (ha, .inl (cy 4, 4, .inr (.inr (.inr (.inr (yk_refs [ha0, ha1, ha2, ha3])))))), (ha0, .inr (5, [.ref ha0n, .int b0, .int (nI n0)])), (ha0n, .inl (cy 0, 16, .inl h0)), (ha1, .inr (5, [.ref ha1n, .int b1, .int (nI n1)])), (ha1n, .inl (cy 0, 16, .inl h1)), (ha2, .inr (5, [.ref ha2n, .int b2, .int (nI n2)])), (ha2n, .inl (cy 0, 16, .inl h2)), (ha3, .inr (5, [.ref ha3n, .int b3, .int (nI n3)])), (ha3n, .inl (cy 0, 16, .inl h3))] H := hP9
                    replace hD : va_D A [(ta, .inr (7, [.ref a_flow, .ref a_draft, .ref a_fence, .ref a_past, .ref a_slots, .ref a_slotKinds, .ref ha, .ref a_speedX, .ref a_speedY, .ref a_leftward, .ref a_change, .ref a_table, .int fi])), (ha, .inl (cy 4, 4, .inr (.inr (.inr (.inr (yk_refs [ha0, ha1, ha2, ha3])))))), (ha0, .inr (5, [.ref ha0n, .int b0, .int (nI n0)])), (ha0n, .inl (cy 0, 16, .inl h0)), (ha1, .inr (5, [.ref ha1n, .int b1, .int (nI n1)])), (ha1n, .inl (cy 0, 16, .inl h1)), (ha2, .inr (5, [.ref ha2n, .int b2, .int (nI n2)])), (ha2n, .inl (cy 0, 16, .inl h2)), (ha3, .inr (5, [.ref ha3n, .int b3, .int (nI n3)])), (ha3n, .inl (cy 0, 16, .inl h3))] := hD9
                    replace hS := hS9
                    clear hP9 hD9 hS9
                    refine lv_if_eq (tgt := 104) hx hb dX7_copy_89 (by decide) (fun hc82 => ?_) (fun hc82 => ?_)
                    · replace hF := hF.trans (if_pos hc82)
                      refine lv_aload_n hx hb dX7_copy_104 rfl (lv_at hl 2 rfl) ?_
                      refine lv_ldc (v := (-1000001)) hx hb hown (hts _ kX7_copy_0) dX7_copy_105 ?_
                      refine yk_i [0] (va_runV (As := [.int (-1000001)]) (rest := []) ⟨hx, hb, hml, hown, hts⟩ (c_X7_finding l D cy ta a_flow a_draft a_fence a_past a_slots a_slotKinds ha a_speedX a_speedY a_leftward a_change a_table fi (-1000001) H.size) (cwV 1 hts gX7_copy_X7_finding rfl rfl rfl hv_X7_finding (yk_room hRf hRl rfl rfl)) (yk_pv (q := (RX7, TX7, 13)) hG hA hS hK hP hD [0] (by decide +kernel) rfl rfl rfl) rfl rfl hl.1 rfl (lv_room (Nat.le_of_ble_eq_true rfl)) dX7_copy_107 ⟨Nat.zero_le _, Nat.zero_le _⟩) hP hD hS hA rfl (Eq.trans (b := [ta]) rfl rfl) (fun H locs hP9 hD9 hS9 => ?_)
                      replace hP : va_P D vwCl [(ta, .inr (7, [.ref a_flow, .ref a_draft, .ref a_fence, .ref a_past, .ref a_slots, .ref a_slotKinds, .ref ha, .ref a_speedX, .ref a_speedY, .ref a_leftward, .ref a_change, .ref a_table, .int ((f_X7_finding fi (-1000001)).2)])), (ha, .inl (cy 4, 4, .inr (.inr (.inr (.inr (yk_refs [ha0, ha1, ha2, ha3])))))), (ha0, .inr (5, [.ref ha0n, .int b0, .int (nI n0)])), (ha0n, .inl (cy 0, 16, .inl h0)), (ha1, .inr (5, [.ref ha1n, .int b1, .int (nI n1)])), (ha1n, .inl (cy 0, 16, .inl h1)), (ha2, .inr (5, [.ref ha2n, .int b2, .int (nI n2)])), (ha2n, .inl (cy 0, 16, .inl h2)), (ha3, .inr (5, [.ref ha3n, .int b3, .int (nI n3)])), (ha3n, .inl (cy 0, 16, .inl h3))] H := hP9
                      replace hD : va_D A [(ta, .inr (7, [.ref a_flow, .ref a_draft, .ref a_fence, .ref a_past, .ref a_slots, .ref a_slotKinds, .ref ha, .ref a_speedX, .ref a_speedY, .ref a_leftward, .ref a_change, .ref a_table, .int ((f_X7_finding fi (-1000001)).2)])), (ha, .inl (cy 4, 4, .inr (.inr (.inr (.inr (yk_refs [ha0, ha1, ha2, ha3])))))), (ha0, .inr (5, [.ref ha0n, .int b0, .int (nI n0)])), (ha0n, .inl (cy 0, 16, .inl h0)), (ha1, .inr (5, [.ref ha1n, .int b1, .int (nI n1)])), (ha1n, .inl (cy 0, 16, .inl h1)), (ha2, .inr (5, [.ref ha2n, .int b2, .int (nI n2)])), (ha2n, .inl (cy 0, 16, .inl h2)), (ha3, .inr (5, [.ref ha3n, .int b3, .int (nI n3)])), (ha3n, .inl (cy 0, 16, .inl h3))] := hD9
                      replace hS := hS9
                      clear hP9 hD9 hS9
                      have hF : f_X7_copy h0 b0 n0 h1 b1 n1 h2 b2 n2 h3 b3 n3 fi px pf py po pn = (((f_X7_finding fi (-1000001)).1), ((f_X7_finding fi (-1000001)).2), h0, h1, h2, h3) := hF
                      have hf0 := yk_fst hF
                      have hg0 := yk_snd hF
                      have hf1 := yk_fst hg0
                      have hg1 := yk_snd hg0
                      have hf2 := yk_fst hg1
                      have hg2 := yk_snd hg1
                      have hf3 := yk_fst hg2
                      have hg3 := yk_snd hg2
                      have hf4 := yk_fst hg3
                      have hg4 := yk_snd hg3
                      rw [hf0, hf1, hf2, hf3, hf4, hg4] at hQ
                      exact hQ _ _ _ _ dX7_copy_110 hP hS
                    · replace hF := hF.trans (if_neg hc82)
                      refine lv_aload hx hb dX7_copy_92 (lv_at hl 0 rfl) ?_
                      refine lv_iload hx hb dX7_copy_94 (lv_at hl 6 rfl) ?_
                      refine lv_iload hx hb dX7_copy_96 (lv_at hl 7 rfl) ?_
                      refine yk_i [2, 3] (va_runV (As := [.int po, .int pn]) (rest := []) ⟨hx, hb, hml, hown, hts⟩ (c_X5_hasRange l D cy ha0 ha0n h0 b0 n0 po pn hn0 H.size) (cwV 2 hts gX7_copy_X5_hasRange rfl rfl rfl hv_X5_hasRange (yk_room hRf hRl rfl rfl)) (yk_pv (q := (RX5, TX5, 3)) hG hA hS hK hP hD [2, 3] (by decide +kernel) rfl rfl rfl) rfl rfl hl.1 rfl (lv_room (Nat.le_of_ble_eq_true rfl)) dX7_copy_98 ⟨Nat.zero_le _, Nat.zero_le _⟩) hP hD hS hA rfl (Eq.trans (b := [ha0, ha0n]) rfl rfl) (fun H locs hP9 hD9 hS9 => ?_)
                      replace hP : va_P D vwCl [(ta, .inr (7, [.ref a_flow, .ref a_draft, .ref a_fence, .ref a_past, .ref a_slots, .ref a_slotKinds, .ref ha, .ref a_speedX, .ref a_speedY, .ref a_leftward, .ref a_change, .ref a_table, .int fi])), (ha, .inl (cy 4, 4, .inr (.inr (.inr (.inr (yk_refs [ha0, ha1, ha2, ha3])))))), (ha0, .inr (5, [.ref ha0n, .int b0, .int (nI n0)])), (ha0n, .inl (cy 0, 16, .inl h0)), (ha1, .inr (5, [.ref ha1n, .int b1, .int (nI n1)])), (ha1n, .inl (cy 0, 16, .inl h1)), (ha2, .inr (5, [.ref ha2n, .int b2, .int (nI n2)])), (ha2n, .inl (cy 0, 16, .inl h2)), (ha3, .inr (5, [.ref ha3n, .int b3, .int (nI n3)])), (ha3n, .inl (cy 0, 16, .inl h3))] H := hP9
                      replace hD : va_D A [(ta, .inr (7, [.ref a_flow, .ref a_draft, .ref a_fence, .ref a_past, .ref a_slots, .ref a_slotKinds, .ref ha, .ref a_speedX, .ref a_speedY, .ref a_leftward, .ref a_change, .ref a_table, .int fi])), (ha, .inl (cy 4, 4, .inr (.inr (.inr (.inr (yk_refs [ha0, ha1, ha2, ha3])))))), (ha0, .inr (5, [.ref ha0n, .int b0, .int (nI n0)])), (ha0n, .inl (cy 0, 16, .inl h0)), (ha1, .inr (5, [.ref ha1n, .int b1, .int (nI n1)])), (ha1n, .inl (cy 0, 16, .inl h1)), (ha2, .inr (5, [.ref ha2n, .int b2, .int (nI n2)])), (ha2n, .inl (cy 0, 16, .inl h2)), (ha3, .inr (5, [.ref ha3n, .int b3, .int (nI n3)])), (ha3n, .inl (cy 0, 16, .inl h3))] := hD9
                      replace hS := hS9
                      clear hP9 hD9 hS9
                      refine lv_if_ne (tgt := 111) hx hb dX7_copy_101 (by decide) (fun hc83 => ?_) (fun hc83 => ?_)
                      · replace hF := hF.trans (if_neg hc83)
                        have hq8 := hr_ok (n := n2) (x := pf) (y := pn) (by omega) (by assumption)
                        have hq9 := hr_ok (n := n0) (x := po) (y := pn) (by omega) (by assumption)
                        have hq84 : pf = nI pf.toNatClampNeg := hq8.1.1
                        have hq84b : pf.toNatClampNeg < 17 := hq8.1.2
                        rw [hq84] at hl
                        have hq85 : po = nI po.toNatClampNeg := hq9.1.1
                        have hq85b : po.toNatClampNeg < 17 := hq9.1.2
                        rw [hq85] at hl
                        have hq86 : pn = nI pn.toNatClampNeg := hq8.2.1.1
                        have hq86b : pn.toNatClampNeg < 17 := hq8.2.1.2
                        rw [hq86] at hl
                        refine lv_aload hx hb dX7_copy_111 (lv_at hl 1 rfl) ?_
                        refine va_get (D := D) (ci := 5) (v := .ref ha2n) (C := RX5) (T := TX5) (N := 3) hx hb hts uX7_copy_X5 hown hK hP 6 rfl rfl 0 (by decide) (hts _ kX7_copy_4) (fun _ h9 => h9) rfl dX7_copy_113 ?_
                        refine lv_iload_n hx hb dX7_copy_116 rfl (lv_at hl 4 rfl) ?_
                        refine lv_aload hx hb dX7_copy_117 (lv_at hl 0 rfl) ?_
                        refine va_get (D := D) (ci := 5) (v := .ref ha0n) (C := RX5) (T := TX5) (N := 3) hx hb hts uX7_copy_X5 hown hK hP 2 rfl rfl 0 (by decide) (hts _ kX7_copy_4) (fun _ h9 => h9) rfl dX7_copy_119 ?_
                        refine lv_iload hx hb dX7_copy_122 (lv_at hl 6 rfl) ?_
                        refine lv_iload hx hb dX7_copy_124 (lv_at hl 7 rfl) ?_
                        refine yk_cpy (sp := pf.toNatClampNeg) (dp := po.toNatClampNeg) (n := pn.toNatClampNeg) hx hb (hml.trans hl.1.symm) hown (hts _ kX7_copy_5) (hts _ kX7_copy_6) (hts _ kX7_copy_7) (hts _ kX7_copy_8) hK hP hD hS 7 3 rfl rfl rfl rfl (⟨by omega, by omega⟩) (by omega) (by omega) (by rw [hRf]; exact Nat.le_of_ble_eq_true rfl) (by rw [hRl]; exact Nat.le_of_ble_eq_true rfl) dX7_copy_126 (fun H locs hP9 hD9 hS9 => ?_)
                        replace hP : va_P D vwCl [(ta, .inr (7, [.ref a_flow, .ref a_draft, .ref a_fence, .ref a_past, .ref a_slots, .ref a_slotKinds, .ref ha, .ref a_speedX, .ref a_speedY, .ref a_leftward, .ref a_change, .ref a_table, .int fi])), (ha, .inl (cy 4, 4, .inr (.inr (.inr (.inr (yk_refs [ha0, ha1, ha2, ha3])))))), (ha0, .inr (5, [.ref ha0n, .int b0, .int (nI n0)])), (ha0n, .inl (cy 0, 16, .inl (va_cpy h2 h0 pf.toNatClampNeg po.toNatClampNeg pn.toNatClampNeg))), (ha1, .inr (5, [.ref ha1n, .int b1, .int (nI n1)])), (ha1n, .inl (cy 0, 16, .inl h1)), (ha2, .inr (5, [.ref ha2n, .int b2, .int (nI n2)])), (ha2n, .inl (cy 0, 16, .inl h2)), (ha3, .inr (5, [.ref ha3n, .int b3, .int (nI n3)])), (ha3n, .inl (cy 0, 16, .inl h3))] H := hP9
                        replace hD : va_D A [(ta, .inr (7, [.ref a_flow, .ref a_draft, .ref a_fence, .ref a_past, .ref a_slots, .ref a_slotKinds, .ref ha, .ref a_speedX, .ref a_speedY, .ref a_leftward, .ref a_change, .ref a_table, .int fi])), (ha, .inl (cy 4, 4, .inr (.inr (.inr (.inr (yk_refs [ha0, ha1, ha2, ha3])))))), (ha0, .inr (5, [.ref ha0n, .int b0, .int (nI n0)])), (ha0n, .inl (cy 0, 16, .inl (va_cpy h2 h0 pf.toNatClampNeg po.toNatClampNeg pn.toNatClampNeg))), (ha1, .inr (5, [.ref ha1n, .int b1, .int (nI n1)])), (ha1n, .inl (cy 0, 16, .inl h1)), (ha2, .inr (5, [.ref ha2n, .int b2, .int (nI n2)])), (ha2n, .inl (cy 0, 16, .inl h2)), (ha3, .inr (5, [.ref ha3n, .int b3, .int (nI n3)])), (ha3n, .inl (cy 0, 16, .inl h3))] := hD9
                        replace hS := hS9
                        clear hP9 hD9 hS9
                        refine lv_iload hx hb dX7_copy_129 (lv_at hl 7 rfl) ?_
                        have hF : f_X7_copy h0 b0 n0 h1 b1 n1 h2 b2 n2 h3 b3 n3 fi px pf py po pn = ((nI pn.toNatClampNeg), fi, (va_cpy h2 h0 pf.toNatClampNeg po.toNatClampNeg pn.toNatClampNeg), h1, h2, h3) := hF
                        have hf0 := yk_fst hF
                        have hg0 := yk_snd hF
                        have hf1 := yk_fst hg0
                        have hg1 := yk_snd hg0
                        have hf2 := yk_fst hg1
                        have hg2 := yk_snd hg1
                        have hf3 := yk_fst hg2
                        have hg3 := yk_snd hg2
                        have hf4 := yk_fst hg3
                        have hg4 := yk_snd hg3
                        rw [hf0, hf1, hf2, hf3, hf4, hg4] at hQ
                        exact hQ _ _ _ _ dX7_copy_131 hP hS
                      · replace hF := hF.trans (if_pos hc83)
                        refine lv_aload_n hx hb dX7_copy_104 rfl (lv_at hl 2 rfl) ?_
                        refine lv_ldc (v := (-1000001)) hx hb hown (hts _ kX7_copy_0) dX7_copy_105 ?_
                        refine yk_i [0] (va_runV (As := [.int (-1000001)]) (rest := []) ⟨hx, hb, hml, hown, hts⟩ (c_X7_finding l D cy ta a_flow a_draft a_fence a_past a_slots a_slotKinds ha a_speedX a_speedY a_leftward a_change a_table fi (-1000001) H.size) (cwV 1 hts gX7_copy_X7_finding rfl rfl rfl hv_X7_finding (yk_room hRf hRl rfl rfl)) (yk_pv (q := (RX7, TX7, 13)) hG hA hS hK hP hD [0] (by decide +kernel) rfl rfl rfl) rfl rfl hl.1 rfl (lv_room (Nat.le_of_ble_eq_true rfl)) dX7_copy_107 ⟨Nat.zero_le _, Nat.zero_le _⟩) hP hD hS hA rfl (Eq.trans (b := [ta]) rfl rfl) (fun H locs hP9 hD9 hS9 => ?_)
                        replace hP : va_P D vwCl [(ta, .inr (7, [.ref a_flow, .ref a_draft, .ref a_fence, .ref a_past, .ref a_slots, .ref a_slotKinds, .ref ha, .ref a_speedX, .ref a_speedY, .ref a_leftward, .ref a_change, .ref a_table, .int ((f_X7_finding fi (-1000001)).2)])), (ha, .inl (cy 4, 4, .inr (.inr (.inr (.inr (yk_refs [ha0, ha1, ha2, ha3])))))), (ha0, .inr (5, [.ref ha0n, .int b0, .int (nI n0)])), (ha0n, .inl (cy 0, 16, .inl h0)), (ha1, .inr (5, [.ref ha1n, .int b1, .int (nI n1)])), (ha1n, .inl (cy 0, 16, .inl h1)), (ha2, .inr (5, [.ref ha2n, .int b2, .int (nI n2)])), (ha2n, .inl (cy 0, 16, .inl h2)), (ha3, .inr (5, [.ref ha3n, .int b3, .int (nI n3)])), (ha3n, .inl (cy 0, 16, .inl h3))] H := hP9
                        replace hD : va_D A [(ta, .inr (7, [.ref a_flow, .ref a_draft, .ref a_fence, .ref a_past, .ref a_slots, .ref a_slotKinds, .ref ha, .ref a_speedX, .ref a_speedY, .ref a_leftward, .ref a_change, .ref a_table, .int ((f_X7_finding fi (-1000001)).2)])), (ha, .inl (cy 4, 4, .inr (.inr (.inr (.inr (yk_refs [ha0, ha1, ha2, ha3])))))), (ha0, .inr (5, [.ref ha0n, .int b0, .int (nI n0)])), (ha0n, .inl (cy 0, 16, .inl h0)), (ha1, .inr (5, [.ref ha1n, .int b1, .int (nI n1)])), (ha1n, .inl (cy 0, 16, .inl h1)), (ha2, .inr (5, [.ref ha2n, .int b2, .int (nI n2)])), (ha2n, .inl (cy 0, 16, .inl h2)), (ha3, .inr (5, [.ref ha3n, .int b3, .int (nI n3)])), (ha3n, .inl (cy 0, 16, .inl h3))] := hD9
                        replace hS := hS9
                        clear hP9 hD9 hS9
                        have hF : f_X7_copy h0 b0 n0 h1 b1 n1 h2 b2 n2 h3 b3 n3 fi px pf py po pn = (((f_X7_finding fi (-1000001)).1), ((f_X7_finding fi (-1000001)).2), h0, h1, h2, h3) := hF
                        have hf0 := yk_fst hF
                        have hg0 := yk_snd hF
                        have hf1 := yk_fst hg0
                        have hg1 := yk_snd hg0
                        have hf2 := yk_fst hg1
                        have hg2 := yk_snd hg1
                        have hf3 := yk_fst hg2
                        have hg3 := yk_snd hg2
                        have hf4 := yk_fst hg3
                        have hg4 := yk_snd hg3
                        rw [hf0, hf1, hf2, hf3, hf4, hg4] at hQ
                        exact hQ _ _ _ _ dX7_copy_110 hP hS
                  · replace hF := hF.trans (if_neg hc81)
                    refine lv_aload_n hx hb dX7_copy_74 rfl (lv_at hl 2 rfl) ?_
                    refine lv_ldc (v := (-1000004)) hx hb hown (hts _ kX7_copy_9) dX7_copy_75 ?_
                    refine yk_i [0] (va_runV (As := [.int (-1000004)]) (rest := []) ⟨hx, hb, hml, hown, hts⟩ (c_X7_finding l D cy ta a_flow a_draft a_fence a_past a_slots a_slotKinds ha a_speedX a_speedY a_leftward a_change a_table fi (-1000004) H.size) (cwV 1 hts gX7_copy_X7_finding rfl rfl rfl hv_X7_finding (yk_room hRf hRl rfl rfl)) (yk_pv (q := (RX7, TX7, 13)) hG hA hS hK hP hD [0] (by decide +kernel) rfl rfl rfl) rfl rfl hl.1 rfl (lv_room (Nat.le_of_ble_eq_true rfl)) dX7_copy_77 ⟨Nat.zero_le _, Nat.zero_le _⟩) hP hD hS hA rfl (Eq.trans (b := [ta]) rfl rfl) (fun H locs hP9 hD9 hS9 => ?_)
                    replace hP : va_P D vwCl [(ta, .inr (7, [.ref a_flow, .ref a_draft, .ref a_fence, .ref a_past, .ref a_slots, .ref a_slotKinds, .ref ha, .ref a_speedX, .ref a_speedY, .ref a_leftward, .ref a_change, .ref a_table, .int ((f_X7_finding fi (-1000004)).2)])), (ha, .inl (cy 4, 4, .inr (.inr (.inr (.inr (yk_refs [ha0, ha1, ha2, ha3])))))), (ha0, .inr (5, [.ref ha0n, .int b0, .int (nI n0)])), (ha0n, .inl (cy 0, 16, .inl h0)), (ha1, .inr (5, [.ref ha1n, .int b1, .int (nI n1)])), (ha1n, .inl (cy 0, 16, .inl h1)), (ha2, .inr (5, [.ref ha2n, .int b2, .int (nI n2)])), (ha2n, .inl (cy 0, 16, .inl h2)), (ha3, .inr (5, [.ref ha3n, .int b3, .int (nI n3)])), (ha3n, .inl (cy 0, 16, .inl h3))] H := hP9
                    replace hD : va_D A [(ta, .inr (7, [.ref a_flow, .ref a_draft, .ref a_fence, .ref a_past, .ref a_slots, .ref a_slotKinds, .ref ha, .ref a_speedX, .ref a_speedY, .ref a_leftward, .ref a_change, .ref a_table, .int ((f_X7_finding fi (-1000004)).2)])), (ha, .inl (cy 4, 4, .inr (.inr (.inr (.inr (yk_refs [ha0, ha1, ha2, ha3])))))), (ha0, .inr (5, [.ref ha0n, .int b0, .int (nI n0)])), (ha0n, .inl (cy 0, 16, .inl h0)), (ha1, .inr (5, [.ref ha1n, .int b1, .int (nI n1)])), (ha1n, .inl (cy 0, 16, .inl h1)), (ha2, .inr (5, [.ref ha2n, .int b2, .int (nI n2)])), (ha2n, .inl (cy 0, 16, .inl h2)), (ha3, .inr (5, [.ref ha3n, .int b3, .int (nI n3)])), (ha3n, .inl (cy 0, 16, .inl h3))] := hD9
                    replace hS := hS9
                    clear hP9 hD9 hS9
                    have hF : f_X7_copy h0 b0 n0 h1 b1 n1 h2 b2 n2 h3 b3 n3 fi px pf py po pn = (((f_X7_finding fi (-1000004)).1), ((f_X7_finding fi (-1000004)).2), h0, h1, h2, h3) := hF
                    have hf0 := yk_fst hF
                    have hg0 := yk_snd hF
                    have hf1 := yk_fst hg0
                    have hg1 := yk_snd hg0
                    have hf2 := yk_fst hg1
                    have hg2 := yk_snd hg1
                    have hf3 := yk_fst hg2
                    have hg3 := yk_snd hg2
                    have hf4 := yk_fst hg3
                    have hg4 := yk_snd hg3
                    rw [hf0, hf1, hf2, hf3, hf4, hg4] at hQ
                    exact hQ _ _ _ _ dX7_copy_80 hP hS
                · replace hF := hF.trans (if_neg hc80)
                  refine lv_aload_n hx hb dX7_copy_53 rfl (lv_at hl 2 rfl) ?_
                  refine lv_ldcw (v := (-1000002)) hx hb hown (hts _ kX7_copy_2) dX7_copy_54 ?_
                  refine yk_i [0] (va_runV (As := [.int (-1000002)]) (rest := []) ⟨hx, hb, hml, hown, hts⟩ (c_X7_finding l D cy ta a_flow a_draft a_fence a_past a_slots a_slotKinds ha a_speedX a_speedY a_leftward a_change a_table fi (-1000002) H.size) (cwV 1 hts gX7_copy_X7_finding rfl rfl rfl hv_X7_finding (yk_room hRf hRl rfl rfl)) (yk_pv (q := (RX7, TX7, 13)) hG hA hS hK hP hD [0] (by decide +kernel) rfl rfl rfl) rfl rfl hl.1 rfl (lv_room (Nat.le_of_ble_eq_true rfl)) dX7_copy_57 ⟨Nat.zero_le _, Nat.zero_le _⟩) hP hD hS hA rfl (Eq.trans (b := [ta]) rfl rfl) (fun H locs hP9 hD9 hS9 => ?_)
                  replace hP : va_P D vwCl [(ta, .inr (7, [.ref a_flow, .ref a_draft, .ref a_fence, .ref a_past, .ref a_slots, .ref a_slotKinds, .ref ha, .ref a_speedX, .ref a_speedY, .ref a_leftward, .ref a_change, .ref a_table, .int ((f_X7_finding fi (-1000002)).2)])), (ha, .inl (cy 4, 4, .inr (.inr (.inr (.inr (yk_refs [ha0, ha1, ha2, ha3])))))), (ha0, .inr (5, [.ref ha0n, .int b0, .int (nI n0)])), (ha0n, .inl (cy 0, 16, .inl h0)), (ha1, .inr (5, [.ref ha1n, .int b1, .int (nI n1)])), (ha1n, .inl (cy 0, 16, .inl h1)), (ha2, .inr (5, [.ref ha2n, .int b2, .int (nI n2)])), (ha2n, .inl (cy 0, 16, .inl h2)), (ha3, .inr (5, [.ref ha3n, .int b3, .int (nI n3)])), (ha3n, .inl (cy 0, 16, .inl h3))] H := hP9
                  replace hD : va_D A [(ta, .inr (7, [.ref a_flow, .ref a_draft, .ref a_fence, .ref a_past, .ref a_slots, .ref a_slotKinds, .ref ha, .ref a_speedX, .ref a_speedY, .ref a_leftward, .ref a_change, .ref a_table, .int ((f_X7_finding fi (-1000002)).2)])), (ha, .inl (cy 4, 4, .inr (.inr (.inr (.inr (yk_refs [ha0, ha1, ha2, ha3])))))), (ha0, .inr (5, [.ref ha0n, .int b0, .int (nI n0)])), (ha0n, .inl (cy 0, 16, .inl h0)), (ha1, .inr (5, [.ref ha1n, .int b1, .int (nI n1)])), (ha1n, .inl (cy 0, 16, .inl h1)), (ha2, .inr (5, [.ref ha2n, .int b2, .int (nI n2)])), (ha2n, .inl (cy 0, 16, .inl h2)), (ha3, .inr (5, [.ref ha3n, .int b3, .int (nI n3)])), (ha3n, .inl (cy 0, 16, .inl h3))] := hD9
                  replace hS := hS9
                  clear hP9 hD9 hS9
                  have hF : f_X7_copy h0 b0 n0 h1 b1 n1 h2 b2 n2 h3 b3 n3 fi px pf py po pn = (((f_X7_finding fi (-1000002)).1), ((f_X7_finding fi (-1000002)).2), h0, h1, h2, h3) := hF
                  have hf0 := yk_fst hF
                  have hg0 := yk_snd hF
                  have hf1 := yk_fst hg0
                  have hg1 := yk_snd hg0
                  have hf2 := yk_fst hg1
                  have hg2 := yk_snd hg1
                  have hf3 := yk_fst hg2
                  have hg3 := yk_snd hg2
                  have hf4 := yk_fst hg3
                  have hg4 := yk_snd hg3
                  rw [hf0, hf1, hf2, hf3, hf4, hg4] at hQ
                  exact hQ _ _ _ _ dX7_copy_60 hP hS
            · replace hF := hF.trans (if_neg hc78)
              by_cases hc87 : py.toNatClampNeg = 1
              · replace hF := hF.trans (if_pos hc87)
                refine yk_ti (y := nI 1) (congrArg nI hc87) ?_
                refine yk_aldq hx hb hK hP 1 4 rfl rfl 1 (by decide) (by decide) rfl dX7_copy_34 ?_
                refine lv_astore (lv' := [(7, .ref ha1), (6, .ref ha2), (0, .ref ta), (1, .int (nI px.toNatClampNeg)), (2, .int pf), (3, .int (nI py.toNatClampNeg)), (4, .int po), (5, .int pn)]) hx hb dX7_copy_35 hl (by decide) rfl (fun ls hl9 => ?_)
                replace hl := hl9
                clear hl9
                refine lv_aload hx hb dX7_copy_37 (lv_at hl 1 rfl) ?_
                refine yk_i [6, 7] (va_runV (As := []) (rest := []) ⟨hx, hb, hml, hown, hts⟩ (c_X5_isMissing l D cy ha2 ha2n h2 b2 n2 H.size) (cwV 0 hts gX7_copy_X5_isMissing rfl rfl rfl hv_X5_isMissing (yk_room hRf hRl rfl rfl)) (yk_pv (q := (RX5, TX5, 3)) hG hA hS hK hP hD [6, 7] (by decide +kernel) rfl rfl rfl) rfl rfl hl.1 rfl (lv_room (Nat.le_of_ble_eq_true rfl)) dX7_copy_39 ⟨Nat.zero_le _, Nat.zero_le _⟩) hP hD hS hA rfl (Eq.trans (b := [ha2, ha2n]) rfl rfl) (fun H locs hP9 hD9 hS9 => ?_)
                replace hP : va_P D vwCl [(ta, .inr (7, [.ref a_flow, .ref a_draft, .ref a_fence, .ref a_past, .ref a_slots, .ref a_slotKinds, .ref ha, .ref a_speedX, .ref a_speedY, .ref a_leftward, .ref a_change, .ref a_table, .int fi])), (ha, .inl (cy 4, 4, .inr (.inr (.inr (.inr (yk_refs [ha0, ha1, ha2, ha3])))))), (ha0, .inr (5, [.ref ha0n, .int b0, .int (nI n0)])), (ha0n, .inl (cy 0, 16, .inl h0)), (ha1, .inr (5, [.ref ha1n, .int b1, .int (nI n1)])), (ha1n, .inl (cy 0, 16, .inl h1)), (ha2, .inr (5, [.ref ha2n, .int b2, .int (nI n2)])), (ha2n, .inl (cy 0, 16, .inl h2)), (ha3, .inr (5, [.ref ha3n, .int b3, .int (nI n3)])), (ha3n, .inl (cy 0, 16, .inl h3))] H := hP9
                replace hD : va_D A [(ta, .inr (7, [.ref a_flow, .ref a_draft, .ref a_fence, .ref a_past, .ref a_slots, .ref a_slotKinds, .ref ha, .ref a_speedX, .ref a_speedY, .ref a_leftward, .ref a_change, .ref a_table, .int fi])), (ha, .inl (cy 4, 4, .inr (.inr (.inr (.inr (yk_refs [ha0, ha1, ha2, ha3])))))), (ha0, .inr (5, [.ref ha0n, .int b0, .int (nI n0)])), (ha0n, .inl (cy 0, 16, .inl h0)), (ha1, .inr (5, [.ref ha1n, .int b1, .int (nI n1)])), (ha1n, .inl (cy 0, 16, .inl h1)), (ha2, .inr (5, [.ref ha2n, .int b2, .int (nI n2)])), (ha2n, .inl (cy 0, 16, .inl h2)), (ha3, .inr (5, [.ref ha3n, .int b3, .int (nI n3)])), (ha3n, .inl (cy 0, 16, .inl h3))] := hD9
                replace hS := hS9
                clear hP9 hD9 hS9
                refine lv_if_ne (tgt := 53) hx hb dX7_copy_42 (by decide) (fun hc88 => ?_) (fun hc88 => ?_)
                · replace hF := hF.trans (if_neg hc88)
                  refine lv_aload_n hx hb dX7_copy_53 rfl (lv_at hl 2 rfl) ?_
                  refine lv_ldcw (v := (-1000002)) hx hb hown (hts _ kX7_copy_2) dX7_copy_54 ?_
                  refine yk_i [0] (va_runV (As := [.int (-1000002)]) (rest := []) ⟨hx, hb, hml, hown, hts⟩ (c_X7_finding l D cy ta a_flow a_draft a_fence a_past a_slots a_slotKinds ha a_speedX a_speedY a_leftward a_change a_table fi (-1000002) H.size) (cwV 1 hts gX7_copy_X7_finding rfl rfl rfl hv_X7_finding (yk_room hRf hRl rfl rfl)) (yk_pv (q := (RX7, TX7, 13)) hG hA hS hK hP hD [0] (by decide +kernel) rfl rfl rfl) rfl rfl hl.1 rfl (lv_room (Nat.le_of_ble_eq_true rfl)) dX7_copy_57 ⟨Nat.zero_le _, Nat.zero_le _⟩) hP hD hS hA rfl (Eq.trans (b := [ta]) rfl rfl) (fun H locs hP9 hD9 hS9 => ?_)
                  replace hP : va_P D vwCl [(ta, .inr (7, [.ref a_flow, .ref a_draft, .ref a_fence, .ref a_past, .ref a_slots, .ref a_slotKinds, .ref ha, .ref a_speedX, .ref a_speedY, .ref a_leftward, .ref a_change, .ref a_table, .int ((f_X7_finding fi (-1000002)).2)])), (ha, .inl (cy 4, 4, .inr (.inr (.inr (.inr (yk_refs [ha0, ha1, ha2, ha3])))))), (ha0, .inr (5, [.ref ha0n, .int b0, .int (nI n0)])), (ha0n, .inl (cy 0, 16, .inl h0)), (ha1, .inr (5, [.ref ha1n, .int b1, .int (nI n1)])), (ha1n, .inl (cy 0, 16, .inl h1)), (ha2, .inr (5, [.ref ha2n, .int b2, .int (nI n2)])), (ha2n, .inl (cy 0, 16, .inl h2)), (ha3, .inr (5, [.ref ha3n, .int b3, .int (nI n3)])), (ha3n, .inl (cy 0, 16, .inl h3))] H := hP9
                  replace hD : va_D A [(ta, .inr (7, [.ref a_flow, .ref a_draft, .ref a_fence, .ref a_past, .ref a_slots, .ref a_slotKinds, .ref ha, .ref a_speedX, .ref a_speedY, .ref a_leftward, .ref a_change, .ref a_table, .int ((f_X7_finding fi (-1000002)).2)])), (ha, .inl (cy 4, 4, .inr (.inr (.inr (.inr (yk_refs [ha0, ha1, ha2, ha3])))))), (ha0, .inr (5, [.ref ha0n, .int b0, .int (nI n0)])), (ha0n, .inl (cy 0, 16, .inl h0)), (ha1, .inr (5, [.ref ha1n, .int b1, .int (nI n1)])), (ha1n, .inl (cy 0, 16, .inl h1)), (ha2, .inr (5, [.ref ha2n, .int b2, .int (nI n2)])), (ha2n, .inl (cy 0, 16, .inl h2)), (ha3, .inr (5, [.ref ha3n, .int b3, .int (nI n3)])), (ha3n, .inl (cy 0, 16, .inl h3))] := hD9
                  replace hS := hS9
                  clear hP9 hD9 hS9
                  have hF : f_X7_copy h0 b0 n0 h1 b1 n1 h2 b2 n2 h3 b3 n3 fi px pf py po pn = (((f_X7_finding fi (-1000002)).1), ((f_X7_finding fi (-1000002)).2), h0, h1, h2, h3) := hF
                  have hf0 := yk_fst hF
                  have hg0 := yk_snd hF
                  have hf1 := yk_fst hg0
                  have hg1 := yk_snd hg0
                  have hf2 := yk_fst hg1
                  have hg2 := yk_snd hg1
                  have hf3 := yk_fst hg2
                  have hg3 := yk_snd hg2
                  have hf4 := yk_fst hg3
                  have hg4 := yk_snd hg3
                  rw [hf0, hf1, hf2, hf3, hf4, hg4] at hQ
                  exact hQ _ _ _ _ dX7_copy_60 hP hS
                · replace hF := hF.trans (if_pos hc88)
                  refine lv_aload hx hb dX7_copy_45 (lv_at hl 0 rfl) ?_
                  refine yk_i [4, 5] (va_runV (As := []) (rest := []) ⟨hx, hb, hml, hown, hts⟩ (c_X5_isMissing l D cy ha1 ha1n h1 b1 n1 H.size) (cwV 0 hts gX7_copy_X5_isMissing rfl rfl rfl hv_X5_isMissing (yk_room hRf hRl rfl rfl)) (yk_pv (q := (RX5, TX5, 3)) hG hA hS hK hP hD [4, 5] (by decide +kernel) rfl rfl rfl) rfl rfl hl.1 rfl (lv_room (Nat.le_of_ble_eq_true rfl)) dX7_copy_47 ⟨Nat.zero_le _, Nat.zero_le _⟩) hP hD hS hA rfl (Eq.trans (b := [ha1, ha1n]) rfl rfl) (fun H locs hP9 hD9 hS9 => ?_)
                  replace hP : va_P D vwCl [(ta, .inr (7, [.ref a_flow, .ref a_draft, .ref a_fence, .ref a_past, .ref a_slots, .ref a_slotKinds, .ref ha, .ref a_speedX, .ref a_speedY, .ref a_leftward, .ref a_change, .ref a_table, .int fi])), (ha, .inl (cy 4, 4, .inr (.inr (.inr (.inr (yk_refs [ha0, ha1, ha2, ha3])))))), (ha0, .inr (5, [.ref ha0n, .int b0, .int (nI n0)])), (ha0n, .inl (cy 0, 16, .inl h0)), (ha1, .inr (5, [.ref ha1n, .int b1, .int (nI n1)])), (ha1n, .inl (cy 0, 16, .inl h1)), (ha2, .inr (5, [.ref ha2n, .int b2, .int (nI n2)])), (ha2n, .inl (cy 0, 16, .inl h2)), (ha3, .inr (5, [.ref ha3n, .int b3, .int (nI n3)])), (ha3n, .inl (cy 0, 16, .inl h3))] H := hP9
                  replace hD : va_D A [(ta, .inr (7, [.ref a_flow, .ref a_draft, .ref a_fence, .ref a_past, .ref a_slots, .ref a_slotKinds, .ref ha, .ref a_speedX, .ref a_speedY, .ref a_leftward, .ref a_change, .ref a_table, .int fi])), (ha, .inl (cy 4, 4, .inr (.inr (.inr (.inr (yk_refs [ha0, ha1, ha2, ha3])))))), (ha0, .inr (5, [.ref ha0n, .int b0, .int (nI n0)])), (ha0n, .inl (cy 0, 16, .inl h0)), (ha1, .inr (5, [.ref ha1n, .int b1, .int (nI n1)])), (ha1n, .inl (cy 0, 16, .inl h1)), (ha2, .inr (5, [.ref ha2n, .int b2, .int (nI n2)])), (ha2n, .inl (cy 0, 16, .inl h2)), (ha3, .inr (5, [.ref ha3n, .int b3, .int (nI n3)])), (ha3n, .inl (cy 0, 16, .inl h3))] := hD9
                  replace hS := hS9
                  clear hP9 hD9 hS9
                  refine lv_if_eq (tgt := 61) hx hb dX7_copy_50 (by decide) (fun hc89 => ?_) (fun hc89 => ?_)
                  · replace hF := hF.trans (if_pos hc89)
                    refine lv_aload hx hb dX7_copy_61 (lv_at hl 1 rfl) ?_
                    refine va_get (D := D) (ci := 5) (v := .int b2) (C := RX5) (T := TX5) (N := 3) hx hb hts uX7_copy_X5 hown hK hP 6 rfl rfl 1 (by decide) (hts _ kX7_copy_3) (fun _ h9 => h9) rfl dX7_copy_63 ?_
                    refine lv_aload hx hb dX7_copy_66 (lv_at hl 0 rfl) ?_
                    refine va_get (D := D) (ci := 5) (v := .int b1) (C := RX5) (T := TX5) (N := 3) hx hb hts uX7_copy_X5 hown hK hP 4 rfl rfl 1 (by decide) (hts _ kX7_copy_3) (fun _ h9 => h9) rfl dX7_copy_68 ?_
                    refine lv_icmp_eq (tgt := 81) hx hb dX7_copy_71 (by decide) (fun hc90 => ?_) (fun hc90 => ?_)
                    · replace hF := hF.trans (if_pos hc90)
                      refine lv_aload hx hb dX7_copy_81 (lv_at hl 1 rfl) ?_
                      refine lv_iload_n hx hb dX7_copy_83 rfl (lv_at hl 4 rfl) ?_
                      refine lv_iload hx hb dX7_copy_84 (lv_at hl 7 rfl) ?_
                      refine yk_i [6, 7] (va_runV (As := [.int pf, .int pn]) (rest := []) ⟨hx, hb, hml, hown, hts⟩ (c_X5_hasRange l D cy ha2 ha2n h2 b2 n2 pf pn hn2 H.size) (cwV 2 hts gX7_copy_X5_hasRange rfl rfl rfl hv_X5_hasRange (yk_room hRf hRl rfl rfl)) (yk_pv (q := (RX5, TX5, 3)) hG hA hS hK hP hD [6, 7] (by decide +kernel) rfl rfl rfl) rfl rfl hl.1 rfl (lv_room (Nat.le_of_ble_eq_true rfl)) dX7_copy_86 ⟨Nat.zero_le _, Nat.zero_le _⟩) hP hD hS hA rfl (Eq.trans (b := [ha2, ha2n]) rfl rfl) (fun H locs hP9 hD9 hS9 => ?_)
                      replace hP : va_P D vwCl [(ta, .inr (7, [.ref a_flow, .ref a_draft, .ref a_fence, .ref a_past, .ref a_slots, .ref a_slotKinds, .ref ha, .ref a_speedX, .ref a_speedY, .ref a_leftward, .ref a_change, .ref a_table, .int fi])), (ha, .inl (cy 4, 4, .inr (.inr (.inr (.inr (yk_refs [ha0, ha1, ha2, ha3])))))), (ha0, .inr (5, [.ref ha0n, .int b0, .int (nI n0)])), (ha0n, .inl (cy 0, 16, .inl h0)), (ha1, .inr (5, [.ref ha1n, .int b1, .int (nI n1)])), (ha1n, .inl (cy 0, 16, .inl h1)), (ha2, .inr (5, [.ref ha2n, .int b2, .int (nI n2)])), (ha2n, .inl (cy 0, 16, .inl h2)), (ha3, .inr (5, [.ref ha3n, .int b3, .int (nI n3)])), (ha3n, .inl (cy 0, 16, .inl h3))] H := hP9
                      replace hD : va_D A [(ta, .inr (7, [.ref a_flow, .ref a_draft, .ref a_fence, .ref a_past, .ref a_slots, .ref a_slotKinds, .ref ha, .ref a_speedX, .ref a_speedY, .ref a_leftward, .ref a_change, .ref a_table, .int fi])), (ha, .inl (cy 4, 4, .inr (.inr (.inr (.inr (yk_refs [ha0, ha1, ha2, ha3])))))), (ha0, .inr (5, [.ref ha0n, .int b0, .int (nI n0)])), (ha0n, .inl (cy 0, 16, .inl h0)), (ha1, .inr (5, [.ref ha1n, .int b1, .int (nI n1)])), (ha1n, .inl (cy 0, 16, .inl h1)), (ha2, .inr (5, [.ref ha2n, .int b2, .int (nI n2)])), (ha2n, .inl (cy 0, 16, .inl h2)), (ha3, .inr (5, [.ref ha3n, .int b3, .int (nI n3)])), (ha3n, .inl (cy 0, 16, .inl h3))] := hD9
                      replace hS := hS9
                      clear hP9 hD9 hS9
                      refine lv_if_eq (tgt := 104) hx hb dX7_copy_89 (by decide) (fun hc91 => ?_) (fun hc91 => ?_)
                      · replace hF := hF.trans (if_pos hc91)
                        refine lv_aload_n hx hb dX7_copy_104 rfl (lv_at hl 2 rfl) ?_
                        refine lv_ldc (v := (-1000001)) hx hb hown (hts _ kX7_copy_0) dX7_copy_105 ?_
                        refine yk_i [0] (va_runV (As := [.int (-1000001)]) (rest := []) ⟨hx, hb, hml, hown, hts⟩ (c_X7_finding l D cy ta a_flow a_draft a_fence a_past a_slots a_slotKinds ha a_speedX a_speedY a_leftward a_change a_table fi (-1000001) H.size) (cwV 1 hts gX7_copy_X7_finding rfl rfl rfl hv_X7_finding (yk_room hRf hRl rfl rfl)) (yk_pv (q := (RX7, TX7, 13)) hG hA hS hK hP hD [0] (by decide +kernel) rfl rfl rfl) rfl rfl hl.1 rfl (lv_room (Nat.le_of_ble_eq_true rfl)) dX7_copy_107 ⟨Nat.zero_le _, Nat.zero_le _⟩) hP hD hS hA rfl (Eq.trans (b := [ta]) rfl rfl) (fun H locs hP9 hD9 hS9 => ?_)
                        replace hP : va_P D vwCl [(ta, .inr (7, [.ref a_flow, .ref a_draft, .ref a_fence, .ref a_past, .ref a_slots, .ref a_slotKinds, .ref ha, .ref a_speedX, .ref a_speedY, .ref a_leftward, .ref a_change, .ref a_table, .int ((f_X7_finding fi (-1000001)).2)])), (ha, .inl (cy 4, 4, .inr (.inr (.inr (.inr (yk_refs [ha0, ha1, ha2, ha3])))))), (ha0, .inr (5, [.ref ha0n, .int b0, .int (nI n0)])), (ha0n, .inl (cy 0, 16, .inl h0)), (ha1, .inr (5, [.ref ha1n, .int b1, .int (nI n1)])), (ha1n, .inl (cy 0, 16, .inl h1)), (ha2, .inr (5, [.ref ha2n, .int b2, .int (nI n2)])), (ha2n, .inl (cy 0, 16, .inl h2)), (ha3, .inr (5, [.ref ha3n, .int b3, .int (nI n3)])), (ha3n, .inl (cy 0, 16, .inl h3))] H := hP9
                        replace hD : va_D A [(ta, .inr (7, [.ref a_flow, .ref a_draft, .ref a_fence, .ref a_past, .ref a_slots, .ref a_slotKinds, .ref ha, .ref a_speedX, .ref a_speedY, .ref a_leftward, .ref a_change, .ref a_table, .int ((f_X7_finding fi (-1000001)).2)])), (ha, .inl (cy 4, 4, .inr (.inr (.inr (.inr (yk_refs [ha0, ha1, ha2, ha3])))))), (ha0, .inr (5, [.ref ha0n, .int b0, .int (nI n0)])), (ha0n, .inl (cy 0, 16, .inl h0)), (ha1, .inr (5, [.ref ha1n, .int b1, .int (nI n1)])), (ha1n, .inl (cy 0, 16, .inl h1)), (ha2, .inr (5, [.ref ha2n, .int b2, .int (nI n2)])), (ha2n, .inl (cy 0, 16, .inl h2)), (ha3, .inr (5, [.ref ha3n, .int b3, .int (nI n3)])), (ha3n, .inl (cy 0, 16, .inl h3))] := hD9
                        replace hS := hS9
                        clear hP9 hD9 hS9
                        have hF : f_X7_copy h0 b0 n0 h1 b1 n1 h2 b2 n2 h3 b3 n3 fi px pf py po pn = (((f_X7_finding fi (-1000001)).1), ((f_X7_finding fi (-1000001)).2), h0, h1, h2, h3) := hF
                        have hf0 := yk_fst hF
                        have hg0 := yk_snd hF
                        have hf1 := yk_fst hg0
                        have hg1 := yk_snd hg0
                        have hf2 := yk_fst hg1
                        have hg2 := yk_snd hg1
                        have hf3 := yk_fst hg2
                        have hg3 := yk_snd hg2
                        have hf4 := yk_fst hg3
                        have hg4 := yk_snd hg3
                        rw [hf0, hf1, hf2, hf3, hf4, hg4] at hQ
                        exact hQ _ _ _ _ dX7_copy_110 hP hS
                      · replace hF := hF.trans (if_neg hc91)
                        refine lv_aload hx hb dX7_copy_92 (lv_at hl 0 rfl) ?_
                        refine lv_iload hx hb dX7_copy_94 (lv_at hl 6 rfl) ?_
                        refine lv_iload hx hb dX7_copy_96 (lv_at hl 7 rfl) ?_
                        refine yk_i [4, 5] (va_runV (As := [.int po, .int pn]) (rest := []) ⟨hx, hb, hml, hown, hts⟩ (c_X5_hasRange l D cy ha1 ha1n h1 b1 n1 po pn hn1 H.size) (cwV 2 hts gX7_copy_X5_hasRange rfl rfl rfl hv_X5_hasRange (yk_room hRf hRl rfl rfl)) (yk_pv (q := (RX5, TX5, 3)) hG hA hS hK hP hD [4, 5] (by decide +kernel) rfl rfl rfl) rfl rfl hl.1 rfl (lv_room (Nat.le_of_ble_eq_true rfl)) dX7_copy_98 ⟨Nat.zero_le _, Nat.zero_le _⟩) hP hD hS hA rfl (Eq.trans (b := [ha1, ha1n]) rfl rfl) (fun H locs hP9 hD9 hS9 => ?_)
                        replace hP : va_P D vwCl [(ta, .inr (7, [.ref a_flow, .ref a_draft, .ref a_fence, .ref a_past, .ref a_slots, .ref a_slotKinds, .ref ha, .ref a_speedX, .ref a_speedY, .ref a_leftward, .ref a_change, .ref a_table, .int fi])), (ha, .inl (cy 4, 4, .inr (.inr (.inr (.inr (yk_refs [ha0, ha1, ha2, ha3])))))), (ha0, .inr (5, [.ref ha0n, .int b0, .int (nI n0)])), (ha0n, .inl (cy 0, 16, .inl h0)), (ha1, .inr (5, [.ref ha1n, .int b1, .int (nI n1)])), (ha1n, .inl (cy 0, 16, .inl h1)), (ha2, .inr (5, [.ref ha2n, .int b2, .int (nI n2)])), (ha2n, .inl (cy 0, 16, .inl h2)), (ha3, .inr (5, [.ref ha3n, .int b3, .int (nI n3)])), (ha3n, .inl (cy 0, 16, .inl h3))] H := hP9
                        replace hD : va_D A [(ta, .inr (7, [.ref a_flow, .ref a_draft, .ref a_fence, .ref a_past, .ref a_slots, .ref a_slotKinds, .ref ha, .ref a_speedX, .ref a_speedY, .ref a_leftward, .ref a_change, .ref a_table, .int fi])), (ha, .inl (cy 4, 4, .inr (.inr (.inr (.inr (yk_refs [ha0, ha1, ha2, ha3])))))), (ha0, .inr (5, [.ref ha0n, .int b0, .int (nI n0)])), (ha0n, .inl (cy 0, 16, .inl h0)), (ha1, .inr (5, [.ref ha1n, .int b1, .int (nI n1)])), (ha1n, .inl (cy 0, 16, .inl h1)), (ha2, .inr (5, [.ref ha2n, .int b2, .int (nI n2)])), (ha2n, .inl (cy 0, 16, .inl h2)), (ha3, .inr (5, [.ref ha3n, .int b3, .int (nI n3)])), (ha3n, .inl (cy 0, 16, .inl h3))] := hD9
                        replace hS := hS9
                        clear hP9 hD9 hS9
                        refine lv_if_ne (tgt := 111) hx hb dX7_copy_101 (by decide) (fun hc92 => ?_) (fun hc92 => ?_)
                        · replace hF := hF.trans (if_neg hc92)
                          have hq8 := hr_ok (n := n2) (x := pf) (y := pn) (by omega) (by assumption)
                          have hq9 := hr_ok (n := n1) (x := po) (y := pn) (by omega) (by assumption)
                          have hq93 : pf = nI pf.toNatClampNeg := hq8.1.1
                          have hq93b : pf.toNatClampNeg < 17 := hq8.1.2
                          rw [hq93] at hl
                          have hq94 : po = nI po.toNatClampNeg := hq9.1.1
                          have hq94b : po.toNatClampNeg < 17 := hq9.1.2
                          rw [hq94] at hl
                          have hq95 : pn = nI pn.toNatClampNeg := hq8.2.1.1
                          have hq95b : pn.toNatClampNeg < 17 := hq8.2.1.2
                          rw [hq95] at hl
                          refine lv_aload hx hb dX7_copy_111 (lv_at hl 1 rfl) ?_
                          refine va_get (D := D) (ci := 5) (v := .ref ha2n) (C := RX5) (T := TX5) (N := 3) hx hb hts uX7_copy_X5 hown hK hP 6 rfl rfl 0 (by decide) (hts _ kX7_copy_4) (fun _ h9 => h9) rfl dX7_copy_113 ?_
                          refine lv_iload_n hx hb dX7_copy_116 rfl (lv_at hl 4 rfl) ?_
                          refine lv_aload hx hb dX7_copy_117 (lv_at hl 0 rfl) ?_
                          refine va_get (D := D) (ci := 5) (v := .ref ha1n) (C := RX5) (T := TX5) (N := 3) hx hb hts uX7_copy_X5 hown hK hP 4 rfl rfl 0 (by decide) (hts _ kX7_copy_4) (fun _ h9 => h9) rfl dX7_copy_119 ?_
                          refine lv_iload hx hb dX7_copy_122 (lv_at hl 6 rfl) ?_
                          refine lv_iload hx hb dX7_copy_124 (lv_at hl 7 rfl) ?_
                          refine yk_cpy (sp := pf.toNatClampNeg) (dp := po.toNatClampNeg) (n := pn.toNatClampNeg) hx hb (hml.trans hl.1.symm) hown (hts _ kX7_copy_5) (hts _ kX7_copy_6) (hts _ kX7_copy_7) (hts _ kX7_copy_8) hK hP hD hS 7 5 rfl rfl rfl rfl (⟨by omega, by omega⟩) (by omega) (by omega) (by rw [hRf]; exact Nat.le_of_ble_eq_true rfl) (by rw [hRl]; exact Nat.le_of_ble_eq_true rfl) dX7_copy_126 (fun H locs hP9 hD9 hS9 => ?_)
                          replace hP : va_P D vwCl [(ta, .inr (7, [.ref a_flow, .ref a_draft, .ref a_fence, .ref a_past, .ref a_slots, .ref a_slotKinds, .ref ha, .ref a_speedX, .ref a_speedY, .ref a_leftward, .ref a_change, .ref a_table, .int fi])), (ha, .inl (cy 4, 4, .inr (.inr (.inr (.inr (yk_refs [ha0, ha1, ha2, ha3])))))), (ha0, .inr (5, [.ref ha0n, .int b0, .int (nI n0)])), (ha0n, .inl (cy 0, 16, .inl h0)), (ha1, .inr (5, [.ref ha1n, .int b1, .int (nI n1)])), (ha1n, .inl (cy 0, 16, .inl (va_cpy h2 h1 pf.toNatClampNeg po.toNatClampNeg pn.toNatClampNeg))), (ha2, .inr (5, [.ref ha2n, .int b2, .int (nI n2)])), (ha2n, .inl (cy 0, 16, .inl h2)), (ha3, .inr (5, [.ref ha3n, .int b3, .int (nI n3)])), (ha3n, .inl (cy 0, 16, .inl h3))] H := hP9
                          replace hD : va_D A [(ta, .inr (7, [.ref a_flow, .ref a_draft, .ref a_fence, .ref a_past, .ref a_slots, .ref a_slotKinds, .ref ha, .ref a_speedX, .ref a_speedY, .ref a_leftward, .ref a_change, .ref a_table, .int fi])), (ha, .inl (cy 4, 4, .inr (.inr (.inr (.inr (yk_refs [ha0, ha1, ha2, ha3])))))), (ha0, .inr (5, [.ref ha0n, .int b0, .int (nI n0)])), (ha0n, .inl (cy 0, 16, .inl h0)), (ha1, .inr (5, [.ref ha1n, .int b1, .int (nI n1)])), (ha1n, .inl (cy 0, 16, .inl (va_cpy h2 h1 pf.toNatClampNeg po.toNatClampNeg pn.toNatClampNeg))), (ha2, .inr (5, [.ref ha2n, .int b2, .int (nI n2)])), (ha2n, .inl (cy 0, 16, .inl h2)), (ha3, .inr (5, [.ref ha3n, .int b3, .int (nI n3)])), (ha3n, .inl (cy 0, 16, .inl h3))] := hD9
                          replace hS := hS9
                          clear hP9 hD9 hS9
                          refine lv_iload hx hb dX7_copy_129 (lv_at hl 7 rfl) ?_
                          have hF : f_X7_copy h0 b0 n0 h1 b1 n1 h2 b2 n2 h3 b3 n3 fi px pf py po pn = ((nI pn.toNatClampNeg), fi, h0, (va_cpy h2 h1 pf.toNatClampNeg po.toNatClampNeg pn.toNatClampNeg), h2, h3) := hF
                          have hf0 := yk_fst hF
                          have hg0 := yk_snd hF
                          have hf1 := yk_fst hg0
                          have hg1 := yk_snd hg0
                          have hf2 := yk_fst hg1
                          have hg2 := yk_snd hg1
                          have hf3 := yk_fst hg2
                          have hg3 := yk_snd hg2
                          have hf4 := yk_fst hg3
                          have hg4 := yk_snd hg3
                          rw [hf0, hf1, hf2, hf3, hf4, hg4] at hQ
                          exact hQ _ _ _ _ dX7_copy_131 hP hS
                        · replace hF := hF.trans (if_pos hc92)
                          refine lv_aload_n hx hb dX7_copy_104 rfl (lv_at hl 2 rfl) ?_
                          refine lv_ldc (v := (-1000001)) hx hb hown (hts _ kX7_copy_0) dX7_copy_105 ?_
                          refine yk_i [0] (va_runV (As := [.int (-1000001)]) (rest := []) ⟨hx, hb, hml, hown, hts⟩ (c_X7_finding l D cy ta a_flow a_draft a_fence a_past a_slots a_slotKinds ha a_speedX a_speedY a_leftward a_change a_table fi (-1000001) H.size) (cwV 1 hts gX7_copy_X7_finding rfl rfl rfl hv_X7_finding (yk_room hRf hRl rfl rfl)) (yk_pv (q := (RX7, TX7, 13)) hG hA hS hK hP hD [0] (by decide +kernel) rfl rfl rfl) rfl rfl hl.1 rfl (lv_room (Nat.le_of_ble_eq_true rfl)) dX7_copy_107 ⟨Nat.zero_le _, Nat.zero_le _⟩) hP hD hS hA rfl (Eq.trans (b := [ta]) rfl rfl) (fun H locs hP9 hD9 hS9 => ?_)
                          replace hP : va_P D vwCl [(ta, .inr (7, [.ref a_flow, .ref a_draft, .ref a_fence, .ref a_past, .ref a_slots, .ref a_slotKinds, .ref ha, .ref a_speedX, .ref a_speedY, .ref a_leftward, .ref a_change, .ref a_table, .int ((f_X7_finding fi (-1000001)).2)])), (ha, .inl (cy 4, 4, .inr (.inr (.inr (.inr (yk_refs [ha0, ha1, ha2, ha3])))))), (ha0, .inr (5, [.ref ha0n, .int b0, .int (nI n0)])), (ha0n, .inl (cy 0, 16, .inl h0)), (ha1, .inr (5, [.ref ha1n, .int b1, .int (nI n1)])), (ha1n, .inl (cy 0, 16, .inl h1)), (ha2, .inr (5, [.ref ha2n, .int b2, .int (nI n2)])), (ha2n, .inl (cy 0, 16, .inl h2)), (ha3, .inr (5, [.ref ha3n, .int b3, .int (nI n3)])), (ha3n, .inl (cy 0, 16, .inl h3))] H := hP9
                          replace hD : va_D A [(ta, .inr (7, [.ref a_flow, .ref a_draft, .ref a_fence, .ref a_past, .ref a_slots, .ref a_slotKinds, .ref ha, .ref a_speedX, .ref a_speedY, .ref a_leftward, .ref a_change, .ref a_table, .int ((f_X7_finding fi (-1000001)).2)])), (ha, .inl (cy 4, 4, .inr (.inr (.inr (.inr (yk_refs [ha0, ha1, ha2, ha3])))))), (ha0, .inr (5, [.ref ha0n, .int b0, .int (nI n0)])), (ha0n, .inl (cy 0, 16, .inl h0)), (ha1, .inr (5, [.ref ha1n, .int b1, .int (nI n1)])), (ha1n, .inl (cy 0, 16, .inl h1)), (ha2, .inr (5, [.ref ha2n, .int b2, .int (nI n2)])), (ha2n, .inl (cy 0, 16, .inl h2)), (ha3, .inr (5, [.ref ha3n, .int b3, .int (nI n3)])), (ha3n, .inl (cy 0, 16, .inl h3))] := hD9
                          replace hS := hS9
                          clear hP9 hD9 hS9
                          have hF : f_X7_copy h0 b0 n0 h1 b1 n1 h2 b2 n2 h3 b3 n3 fi px pf py po pn = (((f_X7_finding fi (-1000001)).1), ((f_X7_finding fi (-1000001)).2), h0, h1, h2, h3) := hF
                          have hf0 := yk_fst hF
                          have hg0 := yk_snd hF
                          have hf1 := yk_fst hg0
                          have hg1 := yk_snd hg0
                          have hf2 := yk_fst hg1
                          have hg2 := yk_snd hg1
                          have hf3 := yk_fst hg2
                          have hg3 := yk_snd hg2
                          have hf4 := yk_fst hg3
                          have hg4 := yk_snd hg3
                          rw [hf0, hf1, hf2, hf3, hf4, hg4] at hQ
                          exact hQ _ _ _ _ dX7_copy_110 hP hS
                    · replace hF := hF.trans (if_neg hc90)
                      refine lv_aload_n hx hb dX7_copy_74 rfl (lv_at hl 2 rfl) ?_
                      refine lv_ldc (v := (-1000004)) hx hb hown (hts _ kX7_copy_9) dX7_copy_75 ?_
                      refine yk_i [0] (va_runV (As := [.int (-1000004)]) (rest := []) ⟨hx, hb, hml, hown, hts⟩ (c_X7_finding l D cy ta a_flow a_draft a_fence a_past a_slots a_slotKinds ha a_speedX a_speedY a_leftward a_change a_table fi (-1000004) H.size) (cwV 1 hts gX7_copy_X7_finding rfl rfl rfl hv_X7_finding (yk_room hRf hRl rfl rfl)) (yk_pv (q := (RX7, TX7, 13)) hG hA hS hK hP hD [0] (by decide +kernel) rfl rfl rfl) rfl rfl hl.1 rfl (lv_room (Nat.le_of_ble_eq_true rfl)) dX7_copy_77 ⟨Nat.zero_le _, Nat.zero_le _⟩) hP hD hS hA rfl (Eq.trans (b := [ta]) rfl rfl) (fun H locs hP9 hD9 hS9 => ?_)
                      replace hP : va_P D vwCl [(ta, .inr (7, [.ref a_flow, .ref a_draft, .ref a_fence, .ref a_past, .ref a_slots, .ref a_slotKinds, .ref ha, .ref a_speedX, .ref a_speedY, .ref a_leftward, .ref a_change, .ref a_table, .int ((f_X7_finding fi (-1000004)).2)])), (ha, .inl (cy 4, 4, .inr (.inr (.inr (.inr (yk_refs [ha0, ha1, ha2, ha3])))))), (ha0, .inr (5, [.ref ha0n, .int b0, .int (nI n0)])), (ha0n, .inl (cy 0, 16, .inl h0)), (ha1, .inr (5, [.ref ha1n, .int b1, .int (nI n1)])), (ha1n, .inl (cy 0, 16, .inl h1)), (ha2, .inr (5, [.ref ha2n, .int b2, .int (nI n2)])), (ha2n, .inl (cy 0, 16, .inl h2)), (ha3, .inr (5, [.ref ha3n, .int b3, .int (nI n3)])), (ha3n, .inl (cy 0, 16, .inl h3))] H := hP9
                      replace hD : va_D A [(ta, .inr (7, [.ref a_flow, .ref a_draft, .ref a_fence, .ref a_past, .ref a_slots, .ref a_slotKinds, .ref ha, .ref a_speedX, .ref a_speedY, .ref a_leftward, .ref a_change, .ref a_table, .int ((f_X7_finding fi (-1000004)).2)])), (ha, .inl (cy 4, 4, .inr (.inr (.inr (.inr (yk_refs [ha0, ha1, ha2, ha3])))))), (ha0, .inr (5, [.ref ha0n, .int b0, .int (nI n0)])), (ha0n, .inl (cy 0, 16, .inl h0)), (ha1, .inr (5, [.ref ha1n, .int b1, .int (nI n1)])), (ha1n, .inl (cy 0, 16, .inl h1)), (ha2, .inr (5, [.ref ha2n, .int b2, .int (nI n2)])), (ha2n, .inl (cy 0, 16, .inl h2)), (ha3, .inr (5, [.ref ha3n, .int b3, .int (nI n3)])), (ha3n, .inl (cy 0, 16, .inl h3))] := hD9
                      replace hS := hS9
                      clear hP9 hD9 hS9
                      have hF : f_X7_copy h0 b0 n0 h1 b1 n1 h2 b2 n2 h3 b3 n3 fi px pf py po pn = (((f_X7_finding fi (-1000004)).1), ((f_X7_finding fi (-1000004)).2), h0, h1, h2, h3) := hF
                      have hf0 := yk_fst hF
                      have hg0 := yk_snd hF
                      have hf1 := yk_fst hg0
                      have hg1 := yk_snd hg0
                      have hf2 := yk_fst hg1
                      have hg2 := yk_snd hg1
                      have hf3 := yk_fst hg2
                      have hg3 := yk_snd hg2
                      have hf4 := yk_fst hg3
                      have hg4 := yk_snd hg3
                      rw [hf0, hf1, hf2, hf3, hf4, hg4] at hQ
                      exact hQ _ _ _ _ dX7_copy_80 hP hS
                  · replace hF := hF.trans (if_neg hc89)
                    refine lv_aload_n hx hb dX7_copy_53 rfl (lv_at hl 2 rfl) ?_
                    refine lv_ldcw (v := (-1000002)) hx hb hown (hts _ kX7_copy_2) dX7_copy_54 ?_
                    refine yk_i [0] (va_runV (As := [.int (-1000002)]) (rest := []) ⟨hx, hb, hml, hown, hts⟩ (c_X7_finding l D cy ta a_flow a_draft a_fence a_past a_slots a_slotKinds ha a_speedX a_speedY a_leftward a_change a_table fi (-1000002) H.size) (cwV 1 hts gX7_copy_X7_finding rfl rfl rfl hv_X7_finding (yk_room hRf hRl rfl rfl)) (yk_pv (q := (RX7, TX7, 13)) hG hA hS hK hP hD [0] (by decide +kernel) rfl rfl rfl) rfl rfl hl.1 rfl (lv_room (Nat.le_of_ble_eq_true rfl)) dX7_copy_57 ⟨Nat.zero_le _, Nat.zero_le _⟩) hP hD hS hA rfl (Eq.trans (b := [ta]) rfl rfl) (fun H locs hP9 hD9 hS9 => ?_)
                    replace hP : va_P D vwCl [(ta, .inr (7, [.ref a_flow, .ref a_draft, .ref a_fence, .ref a_past, .ref a_slots, .ref a_slotKinds, .ref ha, .ref a_speedX, .ref a_speedY, .ref a_leftward, .ref a_change, .ref a_table, .int ((f_X7_finding fi (-1000002)).2)])), (ha, .inl (cy 4, 4, .inr (.inr (.inr (.inr (yk_refs [ha0, ha1, ha2, ha3])))))), (ha0, .inr (5, [.ref ha0n, .int b0, .int (nI n0)])), (ha0n, .inl (cy 0, 16, .inl h0)), (ha1, .inr (5, [.ref ha1n, .int b1, .int (nI n1)])), (ha1n, .inl (cy 0, 16, .inl h1)), (ha2, .inr (5, [.ref ha2n, .int b2, .int (nI n2)])), (ha2n, .inl (cy 0, 16, .inl h2)), (ha3, .inr (5, [.ref ha3n, .int b3, .int (nI n3)])), (ha3n, .inl (cy 0, 16, .inl h3))] H := hP9
                    replace hD : va_D A [(ta, .inr (7, [.ref a_flow, .ref a_draft, .ref a_fence, .ref a_past, .ref a_slots, .ref a_slotKinds, .ref ha, .ref a_speedX, .ref a_speedY, .ref a_leftward, .ref a_change, .ref a_table, .int ((f_X7_finding fi (-1000002)).2)])), (ha, .inl (cy 4, 4, .inr (.inr (.inr (.inr (yk_refs [ha0, ha1, ha2, ha3])))))), (ha0, .inr (5, [.ref ha0n, .int b0, .int (nI n0)])), (ha0n, .inl (cy 0, 16, .inl h0)), (ha1, .inr (5, [.ref ha1n, .int b1, .int (nI n1)])), (ha1n, .inl (cy 0, 16, .inl h1)), (ha2, .inr (5, [.ref ha2n, .int b2, .int (nI n2)])), (ha2n, .inl (cy 0, 16, .inl h2)), (ha3, .inr (5, [.ref ha3n, .int b3, .int (nI n3)])), (ha3n, .inl (cy 0, 16, .inl h3))] := hD9
                    replace hS := hS9
                    clear hP9 hD9 hS9
                    have hF : f_X7_copy h0 b0 n0 h1 b1 n1 h2 b2 n2 h3 b3 n3 fi px pf py po pn = (((f_X7_finding fi (-1000002)).1), ((f_X7_finding fi (-1000002)).2), h0, h1, h2, h3) := hF
                    have hf0 := yk_fst hF
                    have hg0 := yk_snd hF
                    have hf1 := yk_fst hg0
                    have hg1 := yk_snd hg0
                    have hf2 := yk_fst hg1
                    have hg2 := yk_snd hg1
                    have hf3 := yk_fst hg2
                    have hg3 := yk_snd hg2
                    have hf4 := yk_fst hg3
                    have hg4 := yk_snd hg3
                    rw [hf0, hf1, hf2, hf3, hf4, hg4] at hQ
                    exact hQ _ _ _ _ dX7_copy_60 hP hS
              · replace hF := hF.trans (if_neg hc87)
                by_cases hc96 : py.toNatClampNeg = 2
                · replace hF := hF.trans (if_pos hc96)
                  refine yk_ti (y := nI 2) (congrArg nI hc96) ?_
                  refine yk_aldq hx hb hK hP 1 4 rfl rfl 2 (by decide) (by decide) rfl dX7_copy_34 ?_
                  refine lv_astore (lv' := [(7, .ref ha2), (6, .ref ha2), (0, .ref ta), (1, .int (nI px.toNatClampNeg)), (2, .int pf), (3, .int (nI py.toNatClampNeg)), (4, .int po), (5, .int pn)]) hx hb dX7_copy_35 hl (by decide) rfl (fun ls hl9 => ?_)
                  replace hl := hl9
                  clear hl9
                  refine lv_aload hx hb dX7_copy_37 (lv_at hl 1 rfl) ?_
                  refine yk_i [6, 7] (va_runV (As := []) (rest := []) ⟨hx, hb, hml, hown, hts⟩ (c_X5_isMissing l D cy ha2 ha2n h2 b2 n2 H.size) (cwV 0 hts gX7_copy_X5_isMissing rfl rfl rfl hv_X5_isMissing (yk_room hRf hRl rfl rfl)) (yk_pv (q := (RX5, TX5, 3)) hG hA hS hK hP hD [6, 7] (by decide +kernel) rfl rfl rfl) rfl rfl hl.1 rfl (lv_room (Nat.le_of_ble_eq_true rfl)) dX7_copy_39 ⟨Nat.zero_le _, Nat.zero_le _⟩) hP hD hS hA rfl (Eq.trans (b := [ha2, ha2n]) rfl rfl) (fun H locs hP9 hD9 hS9 => ?_)
                  replace hP : va_P D vwCl [(ta, .inr (7, [.ref a_flow, .ref a_draft, .ref a_fence, .ref a_past, .ref a_slots, .ref a_slotKinds, .ref ha, .ref a_speedX, .ref a_speedY, .ref a_leftward, .ref a_change, .ref a_table, .int fi])), (ha, .inl (cy 4, 4, .inr (.inr (.inr (.inr (yk_refs [ha0, ha1, ha2, ha3])))))), (ha0, .inr (5, [.ref ha0n, .int b0, .int (nI n0)])), (ha0n, .inl (cy 0, 16, .inl h0)), (ha1, .inr (5, [.ref ha1n, .int b1, .int (nI n1)])), (ha1n, .inl (cy 0, 16, .inl h1)), (ha2, .inr (5, [.ref ha2n, .int b2, .int (nI n2)])), (ha2n, .inl (cy 0, 16, .inl h2)), (ha3, .inr (5, [.ref ha3n, .int b3, .int (nI n3)])), (ha3n, .inl (cy 0, 16, .inl h3))] H := hP9
                  replace hD : va_D A [(ta, .inr (7, [.ref a_flow, .ref a_draft, .ref a_fence, .ref a_past, .ref a_slots, .ref a_slotKinds, .ref ha, .ref a_speedX, .ref a_speedY, .ref a_leftward, .ref a_change, .ref a_table, .int fi])), (ha, .inl (cy 4, 4, .inr (.inr (.inr (.inr (yk_refs [ha0, ha1, ha2, ha3])))))), (ha0, .inr (5, [.ref ha0n, .int b0, .int (nI n0)])), (ha0n, .inl (cy 0, 16, .inl h0)), (ha1, .inr (5, [.ref ha1n, .int b1, .int (nI n1)])), (ha1n, .inl (cy 0, 16, .inl h1)), (ha2, .inr (5, [.ref ha2n, .int b2, .int (nI n2)])), (ha2n, .inl (cy 0, 16, .inl h2)), (ha3, .inr (5, [.ref ha3n, .int b3, .int (nI n3)])), (ha3n, .inl (cy 0, 16, .inl h3))] := hD9
                  replace hS := hS9
                  clear hP9 hD9 hS9
                  refine lv_if_ne (tgt := 53) hx hb dX7_copy_42 (by decide) (fun hc97 => ?_) (fun hc97 => ?_)
                  · replace hF := hF.trans (if_neg hc97)
                    refine lv_aload_n hx hb dX7_copy_53 rfl (lv_at hl 2 rfl) ?_
                    refine lv_ldcw (v := (-1000002)) hx hb hown (hts _ kX7_copy_2) dX7_copy_54 ?_
                    refine yk_i [0] (va_runV (As := [.int (-1000002)]) (rest := []) ⟨hx, hb, hml, hown, hts⟩ (c_X7_finding l D cy ta a_flow a_draft a_fence a_past a_slots a_slotKinds ha a_speedX a_speedY a_leftward a_change a_table fi (-1000002) H.size) (cwV 1 hts gX7_copy_X7_finding rfl rfl rfl hv_X7_finding (yk_room hRf hRl rfl rfl)) (yk_pv (q := (RX7, TX7, 13)) hG hA hS hK hP hD [0] (by decide +kernel) rfl rfl rfl) rfl rfl hl.1 rfl (lv_room (Nat.le_of_ble_eq_true rfl)) dX7_copy_57 ⟨Nat.zero_le _, Nat.zero_le _⟩) hP hD hS hA rfl (Eq.trans (b := [ta]) rfl rfl) (fun H locs hP9 hD9 hS9 => ?_)
                    replace hP : va_P D vwCl [(ta, .inr (7, [.ref a_flow, .ref a_draft, .ref a_fence, .ref a_past, .ref a_slots, .ref a_slotKinds, .ref ha, .ref a_speedX, .ref a_speedY, .ref a_leftward, .ref a_change, .ref a_table, .int ((f_X7_finding fi (-1000002)).2)])), (ha, .inl (cy 4, 4, .inr (.inr (.inr (.inr (yk_refs [ha0, ha1, ha2, ha3])))))), (ha0, .inr (5, [.ref ha0n, .int b0, .int (nI n0)])), (ha0n, .inl (cy 0, 16, .inl h0)), (ha1, .inr (5, [.ref ha1n, .int b1, .int (nI n1)])), (ha1n, .inl (cy 0, 16, .inl h1)), (ha2, .inr (5, [.ref ha2n, .int b2, .int (nI n2)])), (ha2n, .inl (cy 0, 16, .inl h2)), (ha3, .inr (5, [.ref ha3n, .int b3, .int (nI n3)])), (ha3n, .inl (cy 0, 16, .inl h3))] H := hP9
                    replace hD : va_D A [(ta, .inr (7, [.ref a_flow, .ref a_draft, .ref a_fence, .ref a_past, .ref a_slots, .ref a_slotKinds, .ref ha, .ref a_speedX, .ref a_speedY, .ref a_leftward, .ref a_change, .ref a_table, .int ((f_X7_finding fi (-1000002)).2)])), (ha, .inl (cy 4, 4, .inr (.inr (.inr (.inr (yk_refs [ha0, ha1, ha2, ha3])))))), (ha0, .inr (5, [.ref ha0n, .int b0, .int (nI n0)])), (ha0n, .inl (cy 0, 16, .inl h0)), (ha1, .inr (5, [.ref ha1n, .int b1, .int (nI n1)])), (ha1n, .inl (cy 0, 16, .inl h1)), (ha2, .inr (5, [.ref ha2n, .int b2, .int (nI n2)])), (ha2n, .inl (cy 0, 16, .inl h2)), (ha3, .inr (5, [.ref ha3n, .int b3, .int (nI n3)])), (ha3n, .inl (cy 0, 16, .inl h3))] := hD9
                    replace hS := hS9
                    clear hP9 hD9 hS9
                    have hF : f_X7_copy h0 b0 n0 h1 b1 n1 h2 b2 n2 h3 b3 n3 fi px pf py po pn = (((f_X7_finding fi (-1000002)).1), ((f_X7_finding fi (-1000002)).2), h0, h1, h2, h3) := hF
                    have hf0 := yk_fst hF
                    have hg0 := yk_snd hF
                    have hf1 := yk_fst hg0
                    have hg1 := yk_snd hg0
                    have hf2 := yk_fst hg1
                    have hg2 := yk_snd hg1
                    have hf3 := yk_fst hg2
                    have hg3 := yk_snd hg2
                    have hf4 := yk_fst hg3
                    have hg4 := yk_snd hg3
                    rw [hf0, hf1, hf2, hf3, hf4, hg4] at hQ
                    exact hQ _ _ _ _ dX7_copy_60 hP hS
                  · replace hF := hF.trans (if_pos hc97)
                    refine lv_aload hx hb dX7_copy_45 (lv_at hl 0 rfl) ?_
                    refine yk_i [6, 7] (va_runV (As := []) (rest := []) ⟨hx, hb, hml, hown, hts⟩ (c_X5_isMissing l D cy ha2 ha2n h2 b2 n2 H.size) (cwV 0 hts gX7_copy_X5_isMissing rfl rfl rfl hv_X5_isMissing (yk_room hRf hRl rfl rfl)) (yk_pv (q := (RX5, TX5, 3)) hG hA hS hK hP hD [6, 7] (by decide +kernel) rfl rfl rfl) rfl rfl hl.1 rfl (lv_room (Nat.le_of_ble_eq_true rfl)) dX7_copy_47 ⟨Nat.zero_le _, Nat.zero_le _⟩) hP hD hS hA rfl (Eq.trans (b := [ha2, ha2n]) rfl rfl) (fun H locs hP9 hD9 hS9 => ?_)
                    replace hP : va_P D vwCl [(ta, .inr (7, [.ref a_flow, .ref a_draft, .ref a_fence, .ref a_past, .ref a_slots, .ref a_slotKinds, .ref ha, .ref a_speedX, .ref a_speedY, .ref a_leftward, .ref a_change, .ref a_table, .int fi])), (ha, .inl (cy 4, 4, .inr (.inr (.inr (.inr (yk_refs [ha0, ha1, ha2, ha3])))))), (ha0, .inr (5, [.ref ha0n, .int b0, .int (nI n0)])), (ha0n, .inl (cy 0, 16, .inl h0)), (ha1, .inr (5, [.ref ha1n, .int b1, .int (nI n1)])), (ha1n, .inl (cy 0, 16, .inl h1)), (ha2, .inr (5, [.ref ha2n, .int b2, .int (nI n2)])), (ha2n, .inl (cy 0, 16, .inl h2)), (ha3, .inr (5, [.ref ha3n, .int b3, .int (nI n3)])), (ha3n, .inl (cy 0, 16, .inl h3))] H := hP9
                    replace hD : va_D A [(ta, .inr (7, [.ref a_flow, .ref a_draft, .ref a_fence, .ref a_past, .ref a_slots, .ref a_slotKinds, .ref ha, .ref a_speedX, .ref a_speedY, .ref a_leftward, .ref a_change, .ref a_table, .int fi])), (ha, .inl (cy 4, 4, .inr (.inr (.inr (.inr (yk_refs [ha0, ha1, ha2, ha3])))))), (ha0, .inr (5, [.ref ha0n, .int b0, .int (nI n0)])), (ha0n, .inl (cy 0, 16, .inl h0)), (ha1, .inr (5, [.ref ha1n, .int b1, .int (nI n1)])), (ha1n, .inl (cy 0, 16, .inl h1)), (ha2, .inr (5, [.ref ha2n, .int b2, .int (nI n2)])), (ha2n, .inl (cy 0, 16, .inl h2)), (ha3, .inr (5, [.ref ha3n, .int b3, .int (nI n3)])), (ha3n, .inl (cy 0, 16, .inl h3))] := hD9
                    replace hS := hS9
                    clear hP9 hD9 hS9
                    refine lv_if_eq (tgt := 61) hx hb dX7_copy_50 (by decide) (fun hc98 => ?_) (fun hc98 => ?_)
                    · replace hF := hF.trans (if_pos hc98)
                      refine lv_aload hx hb dX7_copy_61 (lv_at hl 1 rfl) ?_
                      refine va_get (D := D) (ci := 5) (v := .int b2) (C := RX5) (T := TX5) (N := 3) hx hb hts uX7_copy_X5 hown hK hP 6 rfl rfl 1 (by decide) (hts _ kX7_copy_3) (fun _ h9 => h9) rfl dX7_copy_63 ?_
                      refine lv_aload hx hb dX7_copy_66 (lv_at hl 0 rfl) ?_
                      refine va_get (D := D) (ci := 5) (v := .int b2) (C := RX5) (T := TX5) (N := 3) hx hb hts uX7_copy_X5 hown hK hP 6 rfl rfl 1 (by decide) (hts _ kX7_copy_3) (fun _ h9 => h9) rfl dX7_copy_68 ?_
                      refine lv_icmp_eq (tgt := 81) hx hb dX7_copy_71 (by decide) (fun hc99 => ?_) (fun hc99 => ?_)
                      · replace hF := hF.trans (if_pos hc99)
                        refine lv_aload hx hb dX7_copy_81 (lv_at hl 1 rfl) ?_
                        refine lv_iload_n hx hb dX7_copy_83 rfl (lv_at hl 4 rfl) ?_
                        refine lv_iload hx hb dX7_copy_84 (lv_at hl 7 rfl) ?_
                        refine yk_i [6, 7] (va_runV (As := [.int pf, .int pn]) (rest := []) ⟨hx, hb, hml, hown, hts⟩ (c_X5_hasRange l D cy ha2 ha2n h2 b2 n2 pf pn hn2 H.size) (cwV 2 hts gX7_copy_X5_hasRange rfl rfl rfl hv_X5_hasRange (yk_room hRf hRl rfl rfl)) (yk_pv (q := (RX5, TX5, 3)) hG hA hS hK hP hD [6, 7] (by decide +kernel) rfl rfl rfl) rfl rfl hl.1 rfl (lv_room (Nat.le_of_ble_eq_true rfl)) dX7_copy_86 ⟨Nat.zero_le _, Nat.zero_le _⟩) hP hD hS hA rfl (Eq.trans (b := [ha2, ha2n]) rfl rfl) (fun H locs hP9 hD9 hS9 => ?_)
                        replace hP : va_P D vwCl [(ta, .inr (7, [.ref a_flow, .ref a_draft, .ref a_fence, .ref a_past, .ref a_slots, .ref a_slotKinds, .ref ha, .ref a_speedX, .ref a_speedY, .ref a_leftward, .ref a_change, .ref a_table, .int fi])), (ha, .inl (cy 4, 4, .inr (.inr (.inr (.inr (yk_refs [ha0, ha1, ha2, ha3])))))), (ha0, .inr (5, [.ref ha0n, .int b0, .int (nI n0)])), (ha0n, .inl (cy 0, 16, .inl h0)), (ha1, .inr (5, [.ref ha1n, .int b1, .int (nI n1)])), (ha1n, .inl (cy 0, 16, .inl h1)), (ha2, .inr (5, [.ref ha2n, .int b2, .int (nI n2)])), (ha2n, .inl (cy 0, 16, .inl h2)), (ha3, .inr (5, [.ref ha3n, .int b3, .int (nI n3)])), (ha3n, .inl (cy 0, 16, .inl h3))] H := hP9
                        replace hD : va_D A [(ta, .inr (7, [.ref a_flow, .ref a_draft, .ref a_fence, .ref a_past, .ref a_slots, .ref a_slotKinds, .ref ha, .ref a_speedX, .ref a_speedY, .ref a_leftward, .ref a_change, .ref a_table, .int fi])), (ha, .inl (cy 4, 4, .inr (.inr (.inr (.inr (yk_refs [ha0, ha1, ha2, ha3])))))), (ha0, .inr (5, [.ref ha0n, .int b0, .int (nI n0)])), (ha0n, .inl (cy 0, 16, .inl h0)), (ha1, .inr (5, [.ref ha1n, .int b1, .int (nI n1)])), (ha1n, .inl (cy 0, 16, .inl h1)), (ha2, .inr (5, [.ref ha2n, .int b2, .int (nI n2)])), (ha2n, .inl (cy 0, 16, .inl h2)), (ha3, .inr (5, [.ref ha3n, .int b3, .int (nI n3)])), (ha3n, .inl (cy 0, 16, .inl h3))] := hD9
                        replace hS := hS9
                        clear hP9 hD9 hS9
                        refine lv_if_eq (tgt := 104) hx hb dX7_copy_89 (by decide) (fun hc100 => ?_) (fun hc100 => ?_)
                        · replace hF := hF.trans (if_pos hc100)
                          refine lv_aload_n hx hb dX7_copy_104 rfl (lv_at hl 2 rfl) ?_
                          refine lv_ldc (v := (-1000001)) hx hb hown (hts _ kX7_copy_0) dX7_copy_105 ?_
                          refine yk_i [0] (va_runV (As := [.int (-1000001)]) (rest := []) ⟨hx, hb, hml, hown, hts⟩ (c_X7_finding l D cy ta a_flow a_draft a_fence a_past a_slots a_slotKinds ha a_speedX a_speedY a_leftward a_change a_table fi (-1000001) H.size) (cwV 1 hts gX7_copy_X7_finding rfl rfl rfl hv_X7_finding (yk_room hRf hRl rfl rfl)) (yk_pv (q := (RX7, TX7, 13)) hG hA hS hK hP hD [0] (by decide +kernel) rfl rfl rfl) rfl rfl hl.1 rfl (lv_room (Nat.le_of_ble_eq_true rfl)) dX7_copy_107 ⟨Nat.zero_le _, Nat.zero_le _⟩) hP hD hS hA rfl (Eq.trans (b := [ta]) rfl rfl) (fun H locs hP9 hD9 hS9 => ?_)
                          replace hP : va_P D vwCl [(ta, .inr (7, [.ref a_flow, .ref a_draft, .ref a_fence, .ref a_past, .ref a_slots, .ref a_slotKinds, .ref ha, .ref a_speedX, .ref a_speedY, .ref a_leftward, .ref a_change, .ref a_table, .int ((f_X7_finding fi (-1000001)).2)])), (ha, .inl (cy 4, 4, .inr (.inr (.inr (.inr (yk_refs [ha0, ha1, ha2, ha3])))))), (ha0, .inr (5, [.ref ha0n, .int b0, .int (nI n0)])), (ha0n, .inl (cy 0, 16, .inl h0)), (ha1, .inr (5, [.ref ha1n, .int b1, .int (nI n1)])), (ha1n, .inl (cy 0, 16, .inl h1)), (ha2, .inr (5, [.ref ha2n, .int b2, .int (nI n2)])), (ha2n, .inl (cy 0, 16, .inl h2)), (ha3, .inr (5, [.ref ha3n, .int b3, .int (nI n3)])), (ha3n, .inl (cy 0, 16, .inl h3))] H := hP9
                          replace hD : va_D A [(ta, .inr (7, [.ref a_flow, .ref a_draft, .ref a_fence, .ref a_past, .ref a_slots, .ref a_slotKinds, .ref ha, .ref a_speedX, .ref a_speedY, .ref a_leftward, .ref a_change, .ref a_table, .int ((f_X7_finding fi (-1000001)).2)])), (ha, .inl (cy 4, 4, .inr (.inr (.inr (.inr (yk_refs [ha0, ha1, ha2, ha3])))))), (ha0, .inr (5, [.ref ha0n, .int b0, .int (nI n0)])), (ha0n, .inl (cy 0, 16, .inl h0)), (ha1, .inr (5, [.ref ha1n, .int b1, .int (nI n1)])), (ha1n, .inl (cy 0, 16, .inl h1)), (ha2, .inr (5, [.ref ha2n, .int b2, .int (nI n2)])), (ha2n, .inl (cy 0, 16, .inl h2)), (ha3, .inr (5, [.ref ha3n, .int b3, .int (nI n3)])), (ha3n, .inl (cy 0, 16, .inl h3))] := hD9
                          replace hS := hS9
                          clear hP9 hD9 hS9
                          have hF : f_X7_copy h0 b0 n0 h1 b1 n1 h2 b2 n2 h3 b3 n3 fi px pf py po pn = (((f_X7_finding fi (-1000001)).1), ((f_X7_finding fi (-1000001)).2), h0, h1, h2, h3) := hF
                          have hf0 := yk_fst hF
                          have hg0 := yk_snd hF
                          have hf1 := yk_fst hg0
                          have hg1 := yk_snd hg0
                          have hf2 := yk_fst hg1
                          have hg2 := yk_snd hg1
                          have hf3 := yk_fst hg2
                          have hg3 := yk_snd hg2
                          have hf4 := yk_fst hg3
                          have hg4 := yk_snd hg3
                          rw [hf0, hf1, hf2, hf3, hf4, hg4] at hQ
                          exact hQ _ _ _ _ dX7_copy_110 hP hS
                        · replace hF := hF.trans (if_neg hc100)
                          refine lv_aload hx hb dX7_copy_92 (lv_at hl 0 rfl) ?_
                          refine lv_iload hx hb dX7_copy_94 (lv_at hl 6 rfl) ?_
                          refine lv_iload hx hb dX7_copy_96 (lv_at hl 7 rfl) ?_
                          refine yk_i [6, 7] (va_runV (As := [.int po, .int pn]) (rest := []) ⟨hx, hb, hml, hown, hts⟩ (c_X5_hasRange l D cy ha2 ha2n h2 b2 n2 po pn hn2 H.size) (cwV 2 hts gX7_copy_X5_hasRange rfl rfl rfl hv_X5_hasRange (yk_room hRf hRl rfl rfl)) (yk_pv (q := (RX5, TX5, 3)) hG hA hS hK hP hD [6, 7] (by decide +kernel) rfl rfl rfl) rfl rfl hl.1 rfl (lv_room (Nat.le_of_ble_eq_true rfl)) dX7_copy_98 ⟨Nat.zero_le _, Nat.zero_le _⟩) hP hD hS hA rfl (Eq.trans (b := [ha2, ha2n]) rfl rfl) (fun H locs hP9 hD9 hS9 => ?_)
                          replace hP : va_P D vwCl [(ta, .inr (7, [.ref a_flow, .ref a_draft, .ref a_fence, .ref a_past, .ref a_slots, .ref a_slotKinds, .ref ha, .ref a_speedX, .ref a_speedY, .ref a_leftward, .ref a_change, .ref a_table, .int fi])), (ha, .inl (cy 4, 4, .inr (.inr (.inr (.inr (yk_refs [ha0, ha1, ha2, ha3])))))), (ha0, .inr (5, [.ref ha0n, .int b0, .int (nI n0)])), (ha0n, .inl (cy 0, 16, .inl h0)), (ha1, .inr (5, [.ref ha1n, .int b1, .int (nI n1)])), (ha1n, .inl (cy 0, 16, .inl h1)), (ha2, .inr (5, [.ref ha2n, .int b2, .int (nI n2)])), (ha2n, .inl (cy 0, 16, .inl h2)), (ha3, .inr (5, [.ref ha3n, .int b3, .int (nI n3)])), (ha3n, .inl (cy 0, 16, .inl h3))] H := hP9
                          replace hD : va_D A [(ta, .inr (7, [.ref a_flow, .ref a_draft, .ref a_fence, .ref a_past, .ref a_slots, .ref a_slotKinds, .ref ha, .ref a_speedX, .ref a_speedY, .ref a_leftward, .ref a_change, .ref a_table, .int fi])), (ha, .inl (cy 4, 4, .inr (.inr (.inr (.inr (yk_refs [ha0, ha1, ha2, ha3])))))), (ha0, .inr (5, [.ref ha0n, .int b0, .int (nI n0)])), (ha0n, .inl (cy 0, 16, .inl h0)), (ha1, .inr (5, [.ref ha1n, .int b1, .int (nI n1)])), (ha1n, .inl (cy 0, 16, .inl h1)), (ha2, .inr (5, [.ref ha2n, .int b2, .int (nI n2)])), (ha2n, .inl (cy 0, 16, .inl h2)), (ha3, .inr (5, [.ref ha3n, .int b3, .int (nI n3)])), (ha3n, .inl (cy 0, 16, .inl h3))] := hD9
                          replace hS := hS9
                          clear hP9 hD9 hS9
                          refine lv_if_ne (tgt := 111) hx hb dX7_copy_101 (by decide) (fun hc101 => ?_) (fun hc101 => ?_)
                          · replace hF := hF.trans (if_neg hc101)
                            have hq8 := hr_ok (n := n2) (x := pf) (y := pn) (by omega) (by assumption)
                            have hq9 := hr_ok (n := n2) (x := po) (y := pn) (by omega) (by assumption)
                            have hq102 : pf = nI pf.toNatClampNeg := hq8.1.1
                            have hq102b : pf.toNatClampNeg < 17 := hq8.1.2
                            rw [hq102] at hl
                            have hq103 : po = nI po.toNatClampNeg := hq9.1.1
                            have hq103b : po.toNatClampNeg < 17 := hq9.1.2
                            rw [hq103] at hl
                            have hq104 : pn = nI pn.toNatClampNeg := hq8.2.1.1
                            have hq104b : pn.toNatClampNeg < 17 := hq8.2.1.2
                            rw [hq104] at hl
                            refine lv_aload hx hb dX7_copy_111 (lv_at hl 1 rfl) ?_
                            refine va_get (D := D) (ci := 5) (v := .ref ha2n) (C := RX5) (T := TX5) (N := 3) hx hb hts uX7_copy_X5 hown hK hP 6 rfl rfl 0 (by decide) (hts _ kX7_copy_4) (fun _ h9 => h9) rfl dX7_copy_113 ?_
                            refine lv_iload_n hx hb dX7_copy_116 rfl (lv_at hl 4 rfl) ?_
                            refine lv_aload hx hb dX7_copy_117 (lv_at hl 0 rfl) ?_
                            refine va_get (D := D) (ci := 5) (v := .ref ha2n) (C := RX5) (T := TX5) (N := 3) hx hb hts uX7_copy_X5 hown hK hP 6 rfl rfl 0 (by decide) (hts _ kX7_copy_4) (fun _ h9 => h9) rfl dX7_copy_119 ?_
                            refine lv_iload hx hb dX7_copy_122 (lv_at hl 6 rfl) ?_
                            refine lv_iload hx hb dX7_copy_124 (lv_at hl 7 rfl) ?_
                            refine yk_cpy (sp := pf.toNatClampNeg) (dp := po.toNatClampNeg) (n := pn.toNatClampNeg) hx hb (hml.trans hl.1.symm) hown (hts _ kX7_copy_5) (hts _ kX7_copy_6) (hts _ kX7_copy_7) (hts _ kX7_copy_8) hK hP hD hS 7 7 rfl rfl rfl rfl (⟨by omega, by omega⟩) (by omega) (by omega) (by rw [hRf]; exact Nat.le_of_ble_eq_true rfl) (by rw [hRl]; exact Nat.le_of_ble_eq_true rfl) dX7_copy_126 (fun H locs hP9 hD9 hS9 => ?_)
                            replace hP : va_P D vwCl [(ta, .inr (7, [.ref a_flow, .ref a_draft, .ref a_fence, .ref a_past, .ref a_slots, .ref a_slotKinds, .ref ha, .ref a_speedX, .ref a_speedY, .ref a_leftward, .ref a_change, .ref a_table, .int fi])), (ha, .inl (cy 4, 4, .inr (.inr (.inr (.inr (yk_refs [ha0, ha1, ha2, ha3])))))), (ha0, .inr (5, [.ref ha0n, .int b0, .int (nI n0)])), (ha0n, .inl (cy 0, 16, .inl h0)), (ha1, .inr (5, [.ref ha1n, .int b1, .int (nI n1)])), (ha1n, .inl (cy 0, 16, .inl h1)), (ha2, .inr (5, [.ref ha2n, .int b2, .int (nI n2)])), (ha2n, .inl (cy 0, 16, .inl (va_cpy h2 h2 pf.toNatClampNeg po.toNatClampNeg pn.toNatClampNeg))), (ha3, .inr (5, [.ref ha3n, .int b3, .int (nI n3)])), (ha3n, .inl (cy 0, 16, .inl h3))] H := hP9
                            replace hD : va_D A [(ta, .inr (7, [.ref a_flow, .ref a_draft, .ref a_fence, .ref a_past, .ref a_slots, .ref a_slotKinds, .ref ha, .ref a_speedX, .ref a_speedY, .ref a_leftward, .ref a_change, .ref a_table, .int fi])), (ha, .inl (cy 4, 4, .inr (.inr (.inr (.inr (yk_refs [ha0, ha1, ha2, ha3])))))), (ha0, .inr (5, [.ref ha0n, .int b0, .int (nI n0)])), (ha0n, .inl (cy 0, 16, .inl h0)), (ha1, .inr (5, [.ref ha1n, .int b1, .int (nI n1)])), (ha1n, .inl (cy 0, 16, .inl h1)), (ha2, .inr (5, [.ref ha2n, .int b2, .int (nI n2)])), (ha2n, .inl (cy 0, 16, .inl (va_cpy h2 h2 pf.toNatClampNeg po.toNatClampNeg pn.toNatClampNeg))), (ha3, .inr (5, [.ref ha3n, .int b3, .int (nI n3)])), (ha3n, .inl (cy 0, 16, .inl h3))] := hD9
                            replace hS := hS9
                            clear hP9 hD9 hS9
                            refine lv_iload hx hb dX7_copy_129 (lv_at hl 7 rfl) ?_
                            have hF : f_X7_copy h0 b0 n0 h1 b1 n1 h2 b2 n2 h3 b3 n3 fi px pf py po pn = ((nI pn.toNatClampNeg), fi, h0, h1, (va_cpy h2 h2 pf.toNatClampNeg po.toNatClampNeg pn.toNatClampNeg), h3) := hF
                            have hf0 := yk_fst hF
                            have hg0 := yk_snd hF
                            have hf1 := yk_fst hg0
                            have hg1 := yk_snd hg0
                            have hf2 := yk_fst hg1
                            have hg2 := yk_snd hg1
                            have hf3 := yk_fst hg2
                            have hg3 := yk_snd hg2
                            have hf4 := yk_fst hg3
                            have hg4 := yk_snd hg3
                            rw [hf0, hf1, hf2, hf3, hf4, hg4] at hQ
                            exact hQ _ _ _ _ dX7_copy_131 hP hS
                          · replace hF := hF.trans (if_pos hc101)
                            refine lv_aload_n hx hb dX7_copy_104 rfl (lv_at hl 2 rfl) ?_
                            refine lv_ldc (v := (-1000001)) hx hb hown (hts _ kX7_copy_0) dX7_copy_105 ?_
                            refine yk_i [0] (va_runV (As := [.int (-1000001)]) (rest := []) ⟨hx, hb, hml, hown, hts⟩ (c_X7_finding l D cy ta a_flow a_draft a_fence a_past a_slots a_slotKinds ha a_speedX a_speedY a_leftward a_change a_table fi (-1000001) H.size) (cwV 1 hts gX7_copy_X7_finding rfl rfl rfl hv_X7_finding (yk_room hRf hRl rfl rfl)) (yk_pv (q := (RX7, TX7, 13)) hG hA hS hK hP hD [0] (by decide +kernel) rfl rfl rfl) rfl rfl hl.1 rfl (lv_room (Nat.le_of_ble_eq_true rfl)) dX7_copy_107 ⟨Nat.zero_le _, Nat.zero_le _⟩) hP hD hS hA rfl (Eq.trans (b := [ta]) rfl rfl) (fun H locs hP9 hD9 hS9 => ?_)
                            replace hP : va_P D vwCl [(ta, .inr (7, [.ref a_flow, .ref a_draft, .ref a_fence, .ref a_past, .ref a_slots, .ref a_slotKinds, .ref ha, .ref a_speedX, .ref a_speedY, .ref a_leftward, .ref a_change, .ref a_table, .int ((f_X7_finding fi (-1000001)).2)])), (ha, .inl (cy 4, 4, .inr (.inr (.inr (.inr (yk_refs [ha0, ha1, ha2, ha3])))))), (ha0, .inr (5, [.ref ha0n, .int b0, .int (nI n0)])), (ha0n, .inl (cy 0, 16, .inl h0)), (ha1, .inr (5, [.ref ha1n, .int b1, .int (nI n1)])), (ha1n, .inl (cy 0, 16, .inl h1)), (ha2, .inr (5, [.ref ha2n, .int b2, .int (nI n2)])), (ha2n, .inl (cy 0, 16, .inl h2)), (ha3, .inr (5, [.ref ha3n, .int b3, .int (nI n3)])), (ha3n, .inl (cy 0, 16, .inl h3))] H := hP9
                            replace hD : va_D A [(ta, .inr (7, [.ref a_flow, .ref a_draft, .ref a_fence, .ref a_past, .ref a_slots, .ref a_slotKinds, .ref ha, .ref a_speedX, .ref a_speedY, .ref a_leftward, .ref a_change, .ref a_table, .int ((f_X7_finding fi (-1000001)).2)])), (ha, .inl (cy 4, 4, .inr (.inr (.inr (.inr (yk_refs [ha0, ha1, ha2, ha3])))))), (ha0, .inr (5, [.ref ha0n, .int b0, .int (nI n0)])), (ha0n, .inl (cy 0, 16, .inl h0)), (ha1, .inr (5, [.ref ha1n, .int b1, .int (nI n1)])), (ha1n, .inl (cy 0, 16, .inl h1)), (ha2, .inr (5, [.ref ha2n, .int b2, .int (nI n2)])), (ha2n, .inl (cy 0, 16, .inl h2)), (ha3, .inr (5, [.ref ha3n, .int b3, .int (nI n3)])), (ha3n, .inl (cy 0, 16, .inl h3))] := hD9
                            replace hS := hS9
                            clear hP9 hD9 hS9
                            have hF : f_X7_copy h0 b0 n0 h1 b1 n1 h2 b2 n2 h3 b3 n3 fi px pf py po pn = (((f_X7_finding fi (-1000001)).1), ((f_X7_finding fi (-1000001)).2), h0, h1, h2, h3) := hF
                            have hf0 := yk_fst hF
                            have hg0 := yk_snd hF
                            have hf1 := yk_fst hg0
                            have hg1 := yk_snd hg0
                            have hf2 := yk_fst hg1
                            have hg2 := yk_snd hg1
                            have hf3 := yk_fst hg2
                            have hg3 := yk_snd hg2
                            have hf4 := yk_fst hg3
                            have hg4 := yk_snd hg3
                            rw [hf0, hf1, hf2, hf3, hf4, hg4] at hQ
                            exact hQ _ _ _ _ dX7_copy_110 hP hS
                      · replace hF := hF.trans (if_neg hc99)
                        refine lv_aload_n hx hb dX7_copy_74 rfl (lv_at hl 2 rfl) ?_
                        refine lv_ldc (v := (-1000004)) hx hb hown (hts _ kX7_copy_9) dX7_copy_75 ?_
                        refine yk_i [0] (va_runV (As := [.int (-1000004)]) (rest := []) ⟨hx, hb, hml, hown, hts⟩ (c_X7_finding l D cy ta a_flow a_draft a_fence a_past a_slots a_slotKinds ha a_speedX a_speedY a_leftward a_change a_table fi (-1000004) H.size) (cwV 1 hts gX7_copy_X7_finding rfl rfl rfl hv_X7_finding (yk_room hRf hRl rfl rfl)) (yk_pv (q := (RX7, TX7, 13)) hG hA hS hK hP hD [0] (by decide +kernel) rfl rfl rfl) rfl rfl hl.1 rfl (lv_room (Nat.le_of_ble_eq_true rfl)) dX7_copy_77 ⟨Nat.zero_le _, Nat.zero_le _⟩) hP hD hS hA rfl (Eq.trans (b := [ta]) rfl rfl) (fun H locs hP9 hD9 hS9 => ?_)
                        replace hP : va_P D vwCl [(ta, .inr (7, [.ref a_flow, .ref a_draft, .ref a_fence, .ref a_past, .ref a_slots, .ref a_slotKinds, .ref ha, .ref a_speedX, .ref a_speedY, .ref a_leftward, .ref a_change, .ref a_table, .int ((f_X7_finding fi (-1000004)).2)])), (ha, .inl (cy 4, 4, .inr (.inr (.inr (.inr (yk_refs [ha0, ha1, ha2, ha3])))))), (ha0, .inr (5, [.ref ha0n, .int b0, .int (nI n0)])), (ha0n, .inl (cy 0, 16, .inl h0)), (ha1, .inr (5, [.ref ha1n, .int b1, .int (nI n1)])), (ha1n, .inl (cy 0, 16, .inl h1)), (ha2, .inr (5, [.ref ha2n, .int b2, .int (nI n2)])), (ha2n, .inl (cy 0, 16, .inl h2)), (ha3, .inr (5, [.ref ha3n, .int b3, .int (nI n3)])), (ha3n, .inl (cy 0, 16, .inl h3))] H := hP9
                        replace hD : va_D A [(ta, .inr (7, [.ref a_flow, .ref a_draft, .ref a_fence, .ref a_past, .ref a_slots, .ref a_slotKinds, .ref ha, .ref a_speedX, .ref a_speedY, .ref a_leftward, .ref a_change, .ref a_table, .int ((f_X7_finding fi (-1000004)).2)])), (ha, .inl (cy 4, 4, .inr (.inr (.inr (.inr (yk_refs [ha0, ha1, ha2, ha3])))))), (ha0, .inr (5, [.ref ha0n, .int b0, .int (nI n0)])), (ha0n, .inl (cy 0, 16, .inl h0)), (ha1, .inr (5, [.ref ha1n, .int b1, .int (nI n1)])), (ha1n, .inl (cy 0, 16, .inl h1)), (ha2, .inr (5, [.ref ha2n, .int b2, .int (nI n2)])), (ha2n, .inl (cy 0, 16, .inl h2)), (ha3, .inr (5, [.ref ha3n, .int b3, .int (nI n3)])), (ha3n, .inl (cy 0, 16, .inl h3))] := hD9
                        replace hS := hS9
                        clear hP9 hD9 hS9
                        have hF : f_X7_copy h0 b0 n0 h1 b1 n1 h2 b2 n2 h3 b3 n3 fi px pf py po pn = (((f_X7_finding fi (-1000004)).1), ((f_X7_finding fi (-1000004)).2), h0, h1, h2, h3) := hF
                        have hf0 := yk_fst hF
                        have hg0 := yk_snd hF
                        have hf1 := yk_fst hg0
                        have hg1 := yk_snd hg0
                        have hf2 := yk_fst hg1
                        have hg2 := yk_snd hg1
                        have hf3 := yk_fst hg2
                        have hg3 := yk_snd hg2
                        have hf4 := yk_fst hg3
                        have hg4 := yk_snd hg3
                        rw [hf0, hf1, hf2, hf3, hf4, hg4] at hQ
                        exact hQ _ _ _ _ dX7_copy_80 hP hS
                    · replace hF := hF.trans (if_neg hc98)
                      refine lv_aload_n hx hb dX7_copy_53 rfl (lv_at hl 2 rfl) ?_
                      refine lv_ldcw (v := (-1000002)) hx hb hown (hts _ kX7_copy_2) dX7_copy_54 ?_
                      refine yk_i [0] (va_runV (As := [.int (-1000002)]) (rest := []) ⟨hx, hb, hml, hown, hts⟩ (c_X7_finding l D cy ta a_flow a_draft a_fence a_past a_slots a_slotKinds ha a_speedX a_speedY a_leftward a_change a_table fi (-1000002) H.size) (cwV 1 hts gX7_copy_X7_finding rfl rfl rfl hv_X7_finding (yk_room hRf hRl rfl rfl)) (yk_pv (q := (RX7, TX7, 13)) hG hA hS hK hP hD [0] (by decide +kernel) rfl rfl rfl) rfl rfl hl.1 rfl (lv_room (Nat.le_of_ble_eq_true rfl)) dX7_copy_57 ⟨Nat.zero_le _, Nat.zero_le _⟩) hP hD hS hA rfl (Eq.trans (b := [ta]) rfl rfl) (fun H locs hP9 hD9 hS9 => ?_)
                      replace hP : va_P D vwCl [(ta, .inr (7, [.ref a_flow, .ref a_draft, .ref a_fence, .ref a_past, .ref a_slots, .ref a_slotKinds, .ref ha, .ref a_speedX, .ref a_speedY, .ref a_leftward, .ref a_change, .ref a_table, .int ((f_X7_finding fi (-1000002)).2)])), (ha, .inl (cy 4, 4, .inr (.inr (.inr (.inr (yk_refs [ha0, ha1, ha2, ha3])))))), (ha0, .inr (5, [.ref ha0n, .int b0, .int (nI n0)])), (ha0n, .inl (cy 0, 16, .inl h0)), (ha1, .inr (5, [.ref ha1n, .int b1, .int (nI n1)])), (ha1n, .inl (cy 0, 16, .inl h1)), (ha2, .inr (5, [.ref ha2n, .int b2, .int (nI n2)])), (ha2n, .inl (cy 0, 16, .inl h2)), (ha3, .inr (5, [.ref ha3n, .int b3, .int (nI n3)])), (ha3n, .inl (cy 0, 16, .inl h3))] H := hP9
                      replace hD : va_D A [(ta, .inr (7, [.ref a_flow, .ref a_draft, .ref a_fence, .ref a_past, .ref a_slots, .ref a_slotKinds, .ref ha, .ref a_speedX, .ref a_speedY, .ref a_leftward, .ref a_change, .ref a_table, .int ((f_X7_finding fi (-1000002)).2)])), (ha, .inl (cy 4, 4, .inr (.inr (.inr (.inr (yk_refs [ha0, ha1, ha2, ha3])))))), (ha0, .inr (5, [.ref ha0n, .int b0, .int (nI n0)])), (ha0n, .inl (cy 0, 16, .inl h0)), (ha1, .inr (5, [.ref ha1n, .int b1, .int (nI n1)])), (ha1n, .inl (cy 0, 16, .inl h1)), (ha2, .inr (5, [.ref ha2n, .int b2, .int (nI n2)])), (ha2n, .inl (cy 0, 16, .inl h2)), (ha3, .inr (5, [.ref ha3n, .int b3, .int (nI n3)])), (ha3n, .inl (cy 0, 16, .inl h3))] := hD9
                      replace hS := hS9
                      clear hP9 hD9 hS9
                      have hF : f_X7_copy h0 b0 n0 h1 b1 n1 h2 b2 n2 h3 b3 n3 fi px pf py po pn = (((f_X7_finding fi (-1000002)).1), ((f_X7_finding fi (-1000002)).2), h0, h1, h2, h3) := hF
                      have hf0 := yk_fst hF
                      have hg0 := yk_snd hF
                      have hf1 := yk_fst hg0
                      have hg1 := yk_snd hg0
                      have hf2 := yk_fst hg1
                      have hg2 := yk_snd hg1
                      have hf3 := yk_fst hg2
                      have hg3 := yk_snd hg2
                      have hf4 := yk_fst hg3
                      have hg4 := yk_snd hg3
                      rw [hf0, hf1, hf2, hf3, hf4, hg4] at hQ
                      exact hQ _ _ _ _ dX7_copy_60 hP hS
                · replace hF := hF.trans (if_neg hc96)
                  have hz34 : py.toNatClampNeg = 3 := by omega
                  refine yk_ti (y := nI 3) (congrArg nI hz34) ?_
                  refine yk_aldq hx hb hK hP 1 4 rfl rfl 3 (by decide) (by decide) rfl dX7_copy_34 ?_
                  refine lv_astore (lv' := [(7, .ref ha3), (6, .ref ha2), (0, .ref ta), (1, .int (nI px.toNatClampNeg)), (2, .int pf), (3, .int (nI py.toNatClampNeg)), (4, .int po), (5, .int pn)]) hx hb dX7_copy_35 hl (by decide) rfl (fun ls hl9 => ?_)
                  replace hl := hl9
                  clear hl9
                  refine lv_aload hx hb dX7_copy_37 (lv_at hl 1 rfl) ?_
                  refine yk_i [6, 7] (va_runV (As := []) (rest := []) ⟨hx, hb, hml, hown, hts⟩ (c_X5_isMissing l D cy ha2 ha2n h2 b2 n2 H.size) (cwV 0 hts gX7_copy_X5_isMissing rfl rfl rfl hv_X5_isMissing (yk_room hRf hRl rfl rfl)) (yk_pv (q := (RX5, TX5, 3)) hG hA hS hK hP hD [6, 7] (by decide +kernel) rfl rfl rfl) rfl rfl hl.1 rfl (lv_room (Nat.le_of_ble_eq_true rfl)) dX7_copy_39 ⟨Nat.zero_le _, Nat.zero_le _⟩) hP hD hS hA rfl (Eq.trans (b := [ha2, ha2n]) rfl rfl) (fun H locs hP9 hD9 hS9 => ?_)
                  replace hP : va_P D vwCl [(ta, .inr (7, [.ref a_flow, .ref a_draft, .ref a_fence, .ref a_past, .ref a_slots, .ref a_slotKinds, .ref ha, .ref a_speedX, .ref a_speedY, .ref a_leftward, .ref a_change, .ref a_table, .int fi])), (ha, .inl (cy 4, 4, .inr (.inr (.inr (.inr (yk_refs [ha0, ha1, ha2, ha3])))))), (ha0, .inr (5, [.ref ha0n, .int b0, .int (nI n0)])), (ha0n, .inl (cy 0, 16, .inl h0)), (ha1, .inr (5, [.ref ha1n, .int b1, .int (nI n1)])), (ha1n, .inl (cy 0, 16, .inl h1)), (ha2, .inr (5, [.ref ha2n, .int b2, .int (nI n2)])), (ha2n, .inl (cy 0, 16, .inl h2)), (ha3, .inr (5, [.ref ha3n, .int b3, .int (nI n3)])), (ha3n, .inl (cy 0, 16, .inl h3))] H := hP9
                  replace hD : va_D A [(ta, .inr (7, [.ref a_flow, .ref a_draft, .ref a_fence, .ref a_past, .ref a_slots, .ref a_slotKinds, .ref ha, .ref a_speedX, .ref a_speedY, .ref a_leftward, .ref a_change, .ref a_table, .int fi])), (ha, .inl (cy 4, 4, .inr (.inr (.inr (.inr (yk_refs [ha0, ha1, ha2, ha3])))))), (ha0, .inr (5, [.ref ha0n, .int b0, .int (nI n0)])), (ha0n, .inl (cy 0, 16, .inl h0)), (ha1, .inr (5, [.ref ha1n, .int b1, .int (nI n1)])), (ha1n, .inl (cy 0, 16, .inl h1)), (ha2, .inr (5, [.ref ha2n, .int b2, .int (nI n2)])), (ha2n, .inl (cy 0, 16, .inl h2)), (ha3, .inr (5, [.ref ha3n, .int b3, .int (nI n3)])), (ha3n, .inl (cy 0, 16, .inl h3))] := hD9
                  replace hS := hS9
                  clear hP9 hD9 hS9
                  refine lv_if_ne (tgt := 53) hx hb dX7_copy_42 (by decide) (fun hc105 => ?_) (fun hc105 => ?_)
                  · replace hF := hF.trans (if_neg hc105)
                    refine lv_aload_n hx hb dX7_copy_53 rfl (lv_at hl 2 rfl) ?_
                    refine lv_ldcw (v := (-1000002)) hx hb hown (hts _ kX7_copy_2) dX7_copy_54 ?_
                    refine yk_i [0] (va_runV (As := [.int (-1000002)]) (rest := []) ⟨hx, hb, hml, hown, hts⟩ (c_X7_finding l D cy ta a_flow a_draft a_fence a_past a_slots a_slotKinds ha a_speedX a_speedY a_leftward a_change a_table fi (-1000002) H.size) (cwV 1 hts gX7_copy_X7_finding rfl rfl rfl hv_X7_finding (yk_room hRf hRl rfl rfl)) (yk_pv (q := (RX7, TX7, 13)) hG hA hS hK hP hD [0] (by decide +kernel) rfl rfl rfl) rfl rfl hl.1 rfl (lv_room (Nat.le_of_ble_eq_true rfl)) dX7_copy_57 ⟨Nat.zero_le _, Nat.zero_le _⟩) hP hD hS hA rfl (Eq.trans (b := [ta]) rfl rfl) (fun H locs hP9 hD9 hS9 => ?_)
                    replace hP : va_P D vwCl [(ta, .inr (7, [.ref a_flow, .ref a_draft, .ref a_fence, .ref a_past, .ref a_slots, .ref a_slotKinds, .ref ha, .ref a_speedX, .ref a_speedY, .ref a_leftward, .ref a_change, .ref a_table, .int ((f_X7_finding fi (-1000002)).2)])), (ha, .inl (cy 4, 4, .inr (.inr (.inr (.inr (yk_refs [ha0, ha1, ha2, ha3])))))), (ha0, .inr (5, [.ref ha0n, .int b0, .int (nI n0)])), (ha0n, .inl (cy 0, 16, .inl h0)), (ha1, .inr (5, [.ref ha1n, .int b1, .int (nI n1)])), (ha1n, .inl (cy 0, 16, .inl h1)), (ha2, .inr (5, [.ref ha2n, .int b2, .int (nI n2)])), (ha2n, .inl (cy 0, 16, .inl h2)), (ha3, .inr (5, [.ref ha3n, .int b3, .int (nI n3)])), (ha3n, .inl (cy 0, 16, .inl h3))] H := hP9
                    replace hD : va_D A [(ta, .inr (7, [.ref a_flow, .ref a_draft, .ref a_fence, .ref a_past, .ref a_slots, .ref a_slotKinds, .ref ha, .ref a_speedX, .ref a_speedY, .ref a_leftward, .ref a_change, .ref a_table, .int ((f_X7_finding fi (-1000002)).2)])), (ha, .inl (cy 4, 4, .inr (.inr (.inr (.inr (yk_refs [ha0, ha1, ha2, ha3])))))), (ha0, .inr (5, [.ref ha0n, .int b0, .int (nI n0)])), (ha0n, .inl (cy 0, 16, .inl h0)), (ha1, .inr (5, [.ref ha1n, .int b1, .int (nI n1)])), (ha1n, .inl (cy 0, 16, .inl h1)), (ha2, .inr (5, [.ref ha2n, .int b2, .int (nI n2)])), (ha2n, .inl (cy 0, 16, .inl h2)), (ha3, .inr (5, [.ref ha3n, .int b3, .int (nI n3)])), (ha3n, .inl (cy 0, 16, .inl h3))] := hD9
                    replace hS := hS9
                    clear hP9 hD9 hS9
                    have hF : f_X7_copy h0 b0 n0 h1 b1 n1 h2 b2 n2 h3 b3 n3 fi px pf py po pn = (((f_X7_finding fi (-1000002)).1), ((f_X7_finding fi (-1000002)).2), h0, h1, h2, h3) := hF
                    have hf0 := yk_fst hF
                    have hg0 := yk_snd hF
                    have hf1 := yk_fst hg0
                    have hg1 := yk_snd hg0
                    have hf2 := yk_fst hg1
                    have hg2 := yk_snd hg1
                    have hf3 := yk_fst hg2
                    have hg3 := yk_snd hg2
                    have hf4 := yk_fst hg3
                    have hg4 := yk_snd hg3
                    rw [hf0, hf1, hf2, hf3, hf4, hg4] at hQ
                    exact hQ _ _ _ _ dX7_copy_60 hP hS
                  · replace hF := hF.trans (if_pos hc105)
                    refine lv_aload hx hb dX7_copy_45 (lv_at hl 0 rfl) ?_
                    refine yk_i [8, 9] (va_runV (As := []) (rest := []) ⟨hx, hb, hml, hown, hts⟩ (c_X5_isMissing l D cy ha3 ha3n h3 b3 n3 H.size) (cwV 0 hts gX7_copy_X5_isMissing rfl rfl rfl hv_X5_isMissing (yk_room hRf hRl rfl rfl)) (yk_pv (q := (RX5, TX5, 3)) hG hA hS hK hP hD [8, 9] (by decide +kernel) rfl rfl rfl) rfl rfl hl.1 rfl (lv_room (Nat.le_of_ble_eq_true rfl)) dX7_copy_47 ⟨Nat.zero_le _, Nat.zero_le _⟩) hP hD hS hA rfl (Eq.trans (b := [ha3, ha3n]) rfl rfl) (fun H locs hP9 hD9 hS9 => ?_)
                    replace hP : va_P D vwCl [(ta, .inr (7, [.ref a_flow, .ref a_draft, .ref a_fence, .ref a_past, .ref a_slots, .ref a_slotKinds, .ref ha, .ref a_speedX, .ref a_speedY, .ref a_leftward, .ref a_change, .ref a_table, .int fi])), (ha, .inl (cy 4, 4, .inr (.inr (.inr (.inr (yk_refs [ha0, ha1, ha2, ha3])))))), (ha0, .inr (5, [.ref ha0n, .int b0, .int (nI n0)])), (ha0n, .inl (cy 0, 16, .inl h0)), (ha1, .inr (5, [.ref ha1n, .int b1, .int (nI n1)])), (ha1n, .inl (cy 0, 16, .inl h1)), (ha2, .inr (5, [.ref ha2n, .int b2, .int (nI n2)])), (ha2n, .inl (cy 0, 16, .inl h2)), (ha3, .inr (5, [.ref ha3n, .int b3, .int (nI n3)])), (ha3n, .inl (cy 0, 16, .inl h3))] H := hP9
                    replace hD : va_D A [(ta, .inr (7, [.ref a_flow, .ref a_draft, .ref a_fence, .ref a_past, .ref a_slots, .ref a_slotKinds, .ref ha, .ref a_speedX, .ref a_speedY, .ref a_leftward, .ref a_change, .ref a_table, .int fi])), (ha, .inl (cy 4, 4, .inr (.inr (.inr (.inr (yk_refs [ha0, ha1, ha2, ha3])))))), (ha0, .inr (5, [.ref ha0n, .int b0, .int (nI n0)])), (ha0n, .inl (cy 0, 16, .inl h0)), (ha1, .inr (5, [.ref ha1n, .int b1, .int (nI n1)])), (ha1n, .inl (cy 0, 16, .inl h1)), (ha2, .inr (5, [.ref ha2n, .int b2, .int (nI n2)])), (ha2n, .inl (cy 0, 16, .inl h2)), (ha3, .inr (5, [.ref ha3n, .int b3, .int (nI n3)])), (ha3n, .inl (cy 0, 16, .inl h3))] := hD9
                    replace hS := hS9
                    clear hP9 hD9 hS9
                    refine lv_if_eq (tgt := 61) hx hb dX7_copy_50 (by decide) (fun hc106 => ?_) (fun hc106 => ?_)
                    · replace hF := hF.trans (if_pos hc106)
                      refine lv_aload hx hb dX7_copy_61 (lv_at hl 1 rfl) ?_
                      refine va_get (D := D) (ci := 5) (v := .int b2) (C := RX5) (T := TX5) (N := 3) hx hb hts uX7_copy_X5 hown hK hP 6 rfl rfl 1 (by decide) (hts _ kX7_copy_3) (fun _ h9 => h9) rfl dX7_copy_63 ?_
                      refine lv_aload hx hb dX7_copy_66 (lv_at hl 0 rfl) ?_
                      refine va_get (D := D) (ci := 5) (v := .int b3) (C := RX5) (T := TX5) (N := 3) hx hb hts uX7_copy_X5 hown hK hP 8 rfl rfl 1 (by decide) (hts _ kX7_copy_3) (fun _ h9 => h9) rfl dX7_copy_68 ?_
                      refine lv_icmp_eq (tgt := 81) hx hb dX7_copy_71 (by decide) (fun hc107 => ?_) (fun hc107 => ?_)
                      · replace hF := hF.trans (if_pos hc107)
                        refine lv_aload hx hb dX7_copy_81 (lv_at hl 1 rfl) ?_
                        refine lv_iload_n hx hb dX7_copy_83 rfl (lv_at hl 4 rfl) ?_
                        refine lv_iload hx hb dX7_copy_84 (lv_at hl 7 rfl) ?_
                        refine yk_i [6, 7] (va_runV (As := [.int pf, .int pn]) (rest := []) ⟨hx, hb, hml, hown, hts⟩ (c_X5_hasRange l D cy ha2 ha2n h2 b2 n2 pf pn hn2 H.size) (cwV 2 hts gX7_copy_X5_hasRange rfl rfl rfl hv_X5_hasRange (yk_room hRf hRl rfl rfl)) (yk_pv (q := (RX5, TX5, 3)) hG hA hS hK hP hD [6, 7] (by decide +kernel) rfl rfl rfl) rfl rfl hl.1 rfl (lv_room (Nat.le_of_ble_eq_true rfl)) dX7_copy_86 ⟨Nat.zero_le _, Nat.zero_le _⟩) hP hD hS hA rfl (Eq.trans (b := [ha2, ha2n]) rfl rfl) (fun H locs hP9 hD9 hS9 => ?_)
                        replace hP : va_P D vwCl [(ta, .inr (7, [.ref a_flow, .ref a_draft, .ref a_fence, .ref a_past, .ref a_slots, .ref a_slotKinds, .ref ha, .ref a_speedX, .ref a_speedY, .ref a_leftward, .ref a_change, .ref a_table, .int fi])), (ha, .inl (cy 4, 4, .inr (.inr (.inr (.inr (yk_refs [ha0, ha1, ha2, ha3])))))), (ha0, .inr (5, [.ref ha0n, .int b0, .int (nI n0)])), (ha0n, .inl (cy 0, 16, .inl h0)), (ha1, .inr (5, [.ref ha1n, .int b1, .int (nI n1)])), (ha1n, .inl (cy 0, 16, .inl h1)), (ha2, .inr (5, [.ref ha2n, .int b2, .int (nI n2)])), (ha2n, .inl (cy 0, 16, .inl h2)), (ha3, .inr (5, [.ref ha3n, .int b3, .int (nI n3)])), (ha3n, .inl (cy 0, 16, .inl h3))] H := hP9
                        replace hD : va_D A [(ta, .inr (7, [.ref a_flow, .ref a_draft, .ref a_fence, .ref a_past, .ref a_slots, .ref a_slotKinds, .ref ha, .ref a_speedX, .ref a_speedY, .ref a_leftward, .ref a_change, .ref a_table, .int fi])), (ha, .inl (cy 4, 4, .inr (.inr (.inr (.inr (yk_refs [ha0, ha1, ha2, ha3])))))), (ha0, .inr (5, [.ref ha0n, .int b0, .int (nI n0)])), (ha0n, .inl (cy 0, 16, .inl h0)), (ha1, .inr (5, [.ref ha1n, .int b1, .int (nI n1)])), (ha1n, .inl (cy 0, 16, .inl h1)), (ha2, .inr (5, [.ref ha2n, .int b2, .int (nI n2)])), (ha2n, .inl (cy 0, 16, .inl h2)), (ha3, .inr (5, [.ref ha3n, .int b3, .int (nI n3)])), (ha3n, .inl (cy 0, 16, .inl h3))] := hD9
                        replace hS := hS9
                        clear hP9 hD9 hS9
                        refine lv_if_eq (tgt := 104) hx hb dX7_copy_89 (by decide) (fun hc108 => ?_) (fun hc108 => ?_)
                        · replace hF := hF.trans (if_pos hc108)
                          refine lv_aload_n hx hb dX7_copy_104 rfl (lv_at hl 2 rfl) ?_
                          refine lv_ldc (v := (-1000001)) hx hb hown (hts _ kX7_copy_0) dX7_copy_105 ?_
                          refine yk_i [0] (va_runV (As := [.int (-1000001)]) (rest := []) ⟨hx, hb, hml, hown, hts⟩ (c_X7_finding l D cy ta a_flow a_draft a_fence a_past a_slots a_slotKinds ha a_speedX a_speedY a_leftward a_change a_table fi (-1000001) H.size) (cwV 1 hts gX7_copy_X7_finding rfl rfl rfl hv_X7_finding (yk_room hRf hRl rfl rfl)) (yk_pv (q := (RX7, TX7, 13)) hG hA hS hK hP hD [0] (by decide +kernel) rfl rfl rfl) rfl rfl hl.1 rfl (lv_room (Nat.le_of_ble_eq_true rfl)) dX7_copy_107 ⟨Nat.zero_le _, Nat.zero_le _⟩) hP hD hS hA rfl (Eq.trans (b := [ta]) rfl rfl) (fun H locs hP9 hD9 hS9 => ?_)
                          replace hP : va_P D vwCl [(ta, .inr (7, [.ref a_flow, .ref a_draft, .ref a_fence, .ref a_past, .ref a_slots, .ref a_slotKinds, .ref ha, .ref a_speedX, .ref a_speedY, .ref a_leftward, .ref a_change, .ref a_table, .int ((f_X7_finding fi (-1000001)).2)])), (ha, .inl (cy 4, 4, .inr (.inr (.inr (.inr (yk_refs [ha0, ha1, ha2, ha3])))))), (ha0, .inr (5, [.ref ha0n, .int b0, .int (nI n0)])), (ha0n, .inl (cy 0, 16, .inl h0)), (ha1, .inr (5, [.ref ha1n, .int b1, .int (nI n1)])), (ha1n, .inl (cy 0, 16, .inl h1)), (ha2, .inr (5, [.ref ha2n, .int b2, .int (nI n2)])), (ha2n, .inl (cy 0, 16, .inl h2)), (ha3, .inr (5, [.ref ha3n, .int b3, .int (nI n3)])), (ha3n, .inl (cy 0, 16, .inl h3))] H := hP9
                          replace hD : va_D A [(ta, .inr (7, [.ref a_flow, .ref a_draft, .ref a_fence, .ref a_past, .ref a_slots, .ref a_slotKinds, .ref ha, .ref a_speedX, .ref a_speedY, .ref a_leftward, .ref a_change, .ref a_table, .int ((f_X7_finding fi (-1000001)).2)])), (ha, .inl (cy 4, 4, .inr (.inr (.inr (.inr (yk_refs [ha0, ha1, ha2, ha3])))))), (ha0, .inr (5, [.ref ha0n, .int b0, .int (nI n0)])), (ha0n, .inl (cy 0, 16, .inl h0)), (ha1, .inr (5, [.ref ha1n, .int b1, .int (nI n1)])), (ha1n, .inl (cy 0, 16, .inl h1)), (ha2, .inr (5, [.ref ha2n, .int b2, .int (nI n2)])), (ha2n, .inl (cy 0, 16, .inl h2)), (ha3, .inr (5, [.ref ha3n, .int b3, .int (nI n3)])), (ha3n, .inl (cy 0, 16, .inl h3))] := hD9
                          replace hS := hS9
                          clear hP9 hD9 hS9
                          have hF : f_X7_copy h0 b0 n0 h1 b1 n1 h2 b2 n2 h3 b3 n3 fi px pf py po pn = (((f_X7_finding fi (-1000001)).1), ((f_X7_finding fi (-1000001)).2), h0, h1, h2, h3) := hF
                          have hf0 := yk_fst hF
                          have hg0 := yk_snd hF
                          have hf1 := yk_fst hg0
                          have hg1 := yk_snd hg0
                          have hf2 := yk_fst hg1
                          have hg2 := yk_snd hg1
                          have hf3 := yk_fst hg2
                          have hg3 := yk_snd hg2
                          have hf4 := yk_fst hg3
                          have hg4 := yk_snd hg3
                          rw [hf0, hf1, hf2, hf3, hf4, hg4] at hQ
                          exact hQ _ _ _ _ dX7_copy_110 hP hS
                        · replace hF := hF.trans (if_neg hc108)
                          refine lv_aload hx hb dX7_copy_92 (lv_at hl 0 rfl) ?_
                          refine lv_iload hx hb dX7_copy_94 (lv_at hl 6 rfl) ?_
                          refine lv_iload hx hb dX7_copy_96 (lv_at hl 7 rfl) ?_
                          refine yk_i [8, 9] (va_runV (As := [.int po, .int pn]) (rest := []) ⟨hx, hb, hml, hown, hts⟩ (c_X5_hasRange l D cy ha3 ha3n h3 b3 n3 po pn hn3 H.size) (cwV 2 hts gX7_copy_X5_hasRange rfl rfl rfl hv_X5_hasRange (yk_room hRf hRl rfl rfl)) (yk_pv (q := (RX5, TX5, 3)) hG hA hS hK hP hD [8, 9] (by decide +kernel) rfl rfl rfl) rfl rfl hl.1 rfl (lv_room (Nat.le_of_ble_eq_true rfl)) dX7_copy_98 ⟨Nat.zero_le _, Nat.zero_le _⟩) hP hD hS hA rfl (Eq.trans (b := [ha3, ha3n]) rfl rfl) (fun H locs hP9 hD9 hS9 => ?_)
                          replace hP : va_P D vwCl [(ta, .inr (7, [.ref a_flow, .ref a_draft, .ref a_fence, .ref a_past, .ref a_slots, .ref a_slotKinds, .ref ha, .ref a_speedX, .ref a_speedY, .ref a_leftward, .ref a_change, .ref a_table, .int fi])), (ha, .inl (cy 4, 4, .inr (.inr (.inr (.inr (yk_refs [ha0, ha1, ha2, ha3])))))), (ha0, .inr (5, [.ref ha0n, .int b0, .int (nI n0)])), (ha0n, .inl (cy 0, 16, .inl h0)), (ha1, .inr (5, [.ref ha1n, .int b1, .int (nI n1)])), (ha1n, .inl (cy 0, 16, .inl h1)), (ha2, .inr (5, [.ref ha2n, .int b2, .int (nI n2)])), (ha2n, .inl (cy 0, 16, .inl h2)), (ha3, .inr (5, [.ref ha3n, .int b3, .int (nI n3)])), (ha3n, .inl (cy 0, 16, .inl h3))] H := hP9
                          replace hD : va_D A [(ta, .inr (7, [.ref a_flow, .ref a_draft, .ref a_fence, .ref a_past, .ref a_slots, .ref a_slotKinds, .ref ha, .ref a_speedX, .ref a_speedY, .ref a_leftward, .ref a_change, .ref a_table, .int fi])), (ha, .inl (cy 4, 4, .inr (.inr (.inr (.inr (yk_refs [ha0, ha1, ha2, ha3])))))), (ha0, .inr (5, [.ref ha0n, .int b0, .int (nI n0)])), (ha0n, .inl (cy 0, 16, .inl h0)), (ha1, .inr (5, [.ref ha1n, .int b1, .int (nI n1)])), (ha1n, .inl (cy 0, 16, .inl h1)), (ha2, .inr (5, [.ref ha2n, .int b2, .int (nI n2)])), (ha2n, .inl (cy 0, 16, .inl h2)), (ha3, .inr (5, [.ref ha3n, .int b3, .int (nI n3)])), (ha3n, .inl (cy 0, 16, .inl h3))] := hD9
                          replace hS := hS9
                          clear hP9 hD9 hS9
                          refine lv_if_ne (tgt := 111) hx hb dX7_copy_101 (by decide) (fun hc109 => ?_) (fun hc109 => ?_)
                          · replace hF := hF.trans (if_neg hc109)
                            have hq8 := hr_ok (n := n2) (x := pf) (y := pn) (by omega) (by assumption)
                            have hq9 := hr_ok (n := n3) (x := po) (y := pn) (by omega) (by assumption)
                            have hq110 : pf = nI pf.toNatClampNeg := hq8.1.1
                            have hq110b : pf.toNatClampNeg < 17 := hq8.1.2
                            rw [hq110] at hl
                            have hq111 : po = nI po.toNatClampNeg := hq9.1.1
                            have hq111b : po.toNatClampNeg < 17 := hq9.1.2
                            rw [hq111] at hl
                            have hq112 : pn = nI pn.toNatClampNeg := hq8.2.1.1
                            have hq112b : pn.toNatClampNeg < 17 := hq8.2.1.2
                            rw [hq112] at hl
                            refine lv_aload hx hb dX7_copy_111 (lv_at hl 1 rfl) ?_
                            refine va_get (D := D) (ci := 5) (v := .ref ha2n) (C := RX5) (T := TX5) (N := 3) hx hb hts uX7_copy_X5 hown hK hP 6 rfl rfl 0 (by decide) (hts _ kX7_copy_4) (fun _ h9 => h9) rfl dX7_copy_113 ?_
                            refine lv_iload_n hx hb dX7_copy_116 rfl (lv_at hl 4 rfl) ?_
                            refine lv_aload hx hb dX7_copy_117 (lv_at hl 0 rfl) ?_
                            refine va_get (D := D) (ci := 5) (v := .ref ha3n) (C := RX5) (T := TX5) (N := 3) hx hb hts uX7_copy_X5 hown hK hP 8 rfl rfl 0 (by decide) (hts _ kX7_copy_4) (fun _ h9 => h9) rfl dX7_copy_119 ?_
                            refine lv_iload hx hb dX7_copy_122 (lv_at hl 6 rfl) ?_
                            refine lv_iload hx hb dX7_copy_124 (lv_at hl 7 rfl) ?_
                            refine yk_cpy (sp := pf.toNatClampNeg) (dp := po.toNatClampNeg) (n := pn.toNatClampNeg) hx hb (hml.trans hl.1.symm) hown (hts _ kX7_copy_5) (hts _ kX7_copy_6) (hts _ kX7_copy_7) (hts _ kX7_copy_8) hK hP hD hS 7 9 rfl rfl rfl rfl (⟨by omega, by omega⟩) (by omega) (by omega) (by rw [hRf]; exact Nat.le_of_ble_eq_true rfl) (by rw [hRl]; exact Nat.le_of_ble_eq_true rfl) dX7_copy_126 (fun H locs hP9 hD9 hS9 => ?_)
                            replace hP : va_P D vwCl [(ta, .inr (7, [.ref a_flow, .ref a_draft, .ref a_fence, .ref a_past, .ref a_slots, .ref a_slotKinds, .ref ha, .ref a_speedX, .ref a_speedY, .ref a_leftward, .ref a_change, .ref a_table, .int fi])), (ha, .inl (cy 4, 4, .inr (.inr (.inr (.inr (yk_refs [ha0, ha1, ha2, ha3])))))), (ha0, .inr (5, [.ref ha0n, .int b0, .int (nI n0)])), (ha0n, .inl (cy 0, 16, .inl h0)), (ha1, .inr (5, [.ref ha1n, .int b1, .int (nI n1)])), (ha1n, .inl (cy 0, 16, .inl h1)), (ha2, .inr (5, [.ref ha2n, .int b2, .int (nI n2)])), (ha2n, .inl (cy 0, 16, .inl h2)), (ha3, .inr (5, [.ref ha3n, .int b3, .int (nI n3)])), (ha3n, .inl (cy 0, 16, .inl (va_cpy h2 h3 pf.toNatClampNeg po.toNatClampNeg pn.toNatClampNeg)))] H := hP9
                            replace hD : va_D A [(ta, .inr (7, [.ref a_flow, .ref a_draft, .ref a_fence, .ref a_past, .ref a_slots, .ref a_slotKinds, .ref ha, .ref a_speedX, .ref a_speedY, .ref a_leftward, .ref a_change, .ref a_table, .int fi])), (ha, .inl (cy 4, 4, .inr (.inr (.inr (.inr (yk_refs [ha0, ha1, ha2, ha3])))))), (ha0, .inr (5, [.ref ha0n, .int b0, .int (nI n0)])), (ha0n, .inl (cy 0, 16, .inl h0)), (ha1, .inr (5, [.ref ha1n, .int b1, .int (nI n1)])), (ha1n, .inl (cy 0, 16, .inl h1)), (ha2, .inr (5, [.ref ha2n, .int b2, .int (nI n2)])), (ha2n, .inl (cy 0, 16, .inl h2)), (ha3, .inr (5, [.ref ha3n, .int b3, .int (nI n3)])), (ha3n, .inl (cy 0, 16, .inl (va_cpy h2 h3 pf.toNatClampNeg po.toNatClampNeg pn.toNatClampNeg)))] := hD9
                            replace hS := hS9
                            clear hP9 hD9 hS9
                            refine lv_iload hx hb dX7_copy_129 (lv_at hl 7 rfl) ?_
                            have hF : f_X7_copy h0 b0 n0 h1 b1 n1 h2 b2 n2 h3 b3 n3 fi px pf py po pn = ((nI pn.toNatClampNeg), fi, h0, h1, h2, (va_cpy h2 h3 pf.toNatClampNeg po.toNatClampNeg pn.toNatClampNeg)) := hF
                            have hf0 := yk_fst hF
                            have hg0 := yk_snd hF
                            have hf1 := yk_fst hg0
                            have hg1 := yk_snd hg0
                            have hf2 := yk_fst hg1
                            have hg2 := yk_snd hg1
                            have hf3 := yk_fst hg2
                            have hg3 := yk_snd hg2
                            have hf4 := yk_fst hg3
                            have hg4 := yk_snd hg3
                            rw [hf0, hf1, hf2, hf3, hf4, hg4] at hQ
                            exact hQ _ _ _ _ dX7_copy_131 hP hS
                          · replace hF := hF.trans (if_pos hc109)
                            refine lv_aload_n hx hb dX7_copy_104 rfl (lv_at hl 2 rfl) ?_
                            refine lv_ldc (v := (-1000001)) hx hb hown (hts _ kX7_copy_0) dX7_copy_105 ?_
                            refine yk_i [0] (va_runV (As := [.int (-1000001)]) (rest := []) ⟨hx, hb, hml, hown, hts⟩ (c_X7_finding l D cy ta a_flow a_draft a_fence a_past a_slots a_slotKinds ha a_speedX a_speedY a_leftward a_change a_table fi (-1000001) H.size) (cwV 1 hts gX7_copy_X7_finding rfl rfl rfl hv_X7_finding (yk_room hRf hRl rfl rfl)) (yk_pv (q := (RX7, TX7, 13)) hG hA hS hK hP hD [0] (by decide +kernel) rfl rfl rfl) rfl rfl hl.1 rfl (lv_room (Nat.le_of_ble_eq_true rfl)) dX7_copy_107 ⟨Nat.zero_le _, Nat.zero_le _⟩) hP hD hS hA rfl (Eq.trans (b := [ta]) rfl rfl) (fun H locs hP9 hD9 hS9 => ?_)
                            replace hP : va_P D vwCl [(ta, .inr (7, [.ref a_flow, .ref a_draft, .ref a_fence, .ref a_past, .ref a_slots, .ref a_slotKinds, .ref ha, .ref a_speedX, .ref a_speedY, .ref a_leftward, .ref a_change, .ref a_table, .int ((f_X7_finding fi (-1000001)).2)])), (ha, .inl (cy 4, 4, .inr (.inr (.inr (.inr (yk_refs [ha0, ha1, ha2, ha3])))))), (ha0, .inr (5, [.ref ha0n, .int b0, .int (nI n0)])), (ha0n, .inl (cy 0, 16, .inl h0)), (ha1, .inr (5, [.ref ha1n, .int b1, .int (nI n1)])), (ha1n, .inl (cy 0, 16, .inl h1)), (ha2, .inr (5, [.ref ha2n, .int b2, .int (nI n2)])), (ha2n, .inl (cy 0, 16, .inl h2)), (ha3, .inr (5, [.ref ha3n, .int b3, .int (nI n3)])), (ha3n, .inl (cy 0, 16, .inl h3))] H := hP9
                            replace hD : va_D A [(ta, .inr (7, [.ref a_flow, .ref a_draft, .ref a_fence, .ref a_past, .ref a_slots, .ref a_slotKinds, .ref ha, .ref a_speedX, .ref a_speedY, .ref a_leftward, .ref a_change, .ref a_table, .int ((f_X7_finding fi (-1000001)).2)])), (ha, .inl (cy 4, 4, .inr (.inr (.inr (.inr (yk_refs [ha0, ha1, ha2, ha3])))))), (ha0, .inr (5, [.ref ha0n, .int b0, .int (nI n0)])), (ha0n, .inl (cy 0, 16, .inl h0)), (ha1, .inr (5, [.ref ha1n, .int b1, .int (nI n1)])), (ha1n, .inl (cy 0, 16, .inl h1)), (ha2, .inr (5, [.ref ha2n, .int b2, .int (nI n2)])), (ha2n, .inl (cy 0, 16, .inl h2)), (ha3, .inr (5, [.ref ha3n, .int b3, .int (nI n3)])), (ha3n, .inl (cy 0, 16, .inl h3))] := hD9
                            replace hS := hS9
                            clear hP9 hD9 hS9
                            have hF : f_X7_copy h0 b0 n0 h1 b1 n1 h2 b2 n2 h3 b3 n3 fi px pf py po pn = (((f_X7_finding fi (-1000001)).1), ((f_X7_finding fi (-1000001)).2), h0, h1, h2, h3) := hF
                            have hf0 := yk_fst hF
                            have hg0 := yk_snd hF
                            have hf1 := yk_fst hg0
                            have hg1 := yk_snd hg0
                            have hf2 := yk_fst hg1
                            have hg2 := yk_snd hg1
                            have hf3 := yk_fst hg2
                            have hg3 := yk_snd hg2
                            have hf4 := yk_fst hg3
                            have hg4 := yk_snd hg3
                            rw [hf0, hf1, hf2, hf3, hf4, hg4] at hQ
                            exact hQ _ _ _ _ dX7_copy_110 hP hS
                      · replace hF := hF.trans (if_neg hc107)
                        refine lv_aload_n hx hb dX7_copy_74 rfl (lv_at hl 2 rfl) ?_
                        refine lv_ldc (v := (-1000004)) hx hb hown (hts _ kX7_copy_9) dX7_copy_75 ?_
                        refine yk_i [0] (va_runV (As := [.int (-1000004)]) (rest := []) ⟨hx, hb, hml, hown, hts⟩ (c_X7_finding l D cy ta a_flow a_draft a_fence a_past a_slots a_slotKinds ha a_speedX a_speedY a_leftward a_change a_table fi (-1000004) H.size) (cwV 1 hts gX7_copy_X7_finding rfl rfl rfl hv_X7_finding (yk_room hRf hRl rfl rfl)) (yk_pv (q := (RX7, TX7, 13)) hG hA hS hK hP hD [0] (by decide +kernel) rfl rfl rfl) rfl rfl hl.1 rfl (lv_room (Nat.le_of_ble_eq_true rfl)) dX7_copy_77 ⟨Nat.zero_le _, Nat.zero_le _⟩) hP hD hS hA rfl (Eq.trans (b := [ta]) rfl rfl) (fun H locs hP9 hD9 hS9 => ?_)
                        replace hP : va_P D vwCl [(ta, .inr (7, [.ref a_flow, .ref a_draft, .ref a_fence, .ref a_past, .ref a_slots, .ref a_slotKinds, .ref ha, .ref a_speedX, .ref a_speedY, .ref a_leftward, .ref a_change, .ref a_table, .int ((f_X7_finding fi (-1000004)).2)])), (ha, .inl (cy 4, 4, .inr (.inr (.inr (.inr (yk_refs [ha0, ha1, ha2, ha3])))))), (ha0, .inr (5, [.ref ha0n, .int b0, .int (nI n0)])), (ha0n, .inl (cy 0, 16, .inl h0)), (ha1, .inr (5, [.ref ha1n, .int b1, .int (nI n1)])), (ha1n, .inl (cy 0, 16, .inl h1)), (ha2, .inr (5, [.ref ha2n, .int b2, .int (nI n2)])), (ha2n, .inl (cy 0, 16, .inl h2)), (ha3, .inr (5, [.ref ha3n, .int b3, .int (nI n3)])), (ha3n, .inl (cy 0, 16, .inl h3))] H := hP9
                        replace hD : va_D A [(ta, .inr (7, [.ref a_flow, .ref a_draft, .ref a_fence, .ref a_past, .ref a_slots, .ref a_slotKinds, .ref ha, .ref a_speedX, .ref a_speedY, .ref a_leftward, .ref a_change, .ref a_table, .int ((f_X7_finding fi (-1000004)).2)])), (ha, .inl (cy 4, 4, .inr (.inr (.inr (.inr (yk_refs [ha0, ha1, ha2, ha3])))))), (ha0, .inr (5, [.ref ha0n, .int b0, .int (nI n0)])), (ha0n, .inl (cy 0, 16, .inl h0)), (ha1, .inr (5, [.ref ha1n, .int b1, .int (nI n1)])), (ha1n, .inl (cy 0, 16, .inl h1)), (ha2, .inr (5, [.ref ha2n, .int b2, .int (nI n2)])), (ha2n, .inl (cy 0, 16, .inl h2)), (ha3, .inr (5, [.ref ha3n, .int b3, .int (nI n3)])), (ha3n, .inl (cy 0, 16, .inl h3))] := hD9
                        replace hS := hS9
                        clear hP9 hD9 hS9
                        have hF : f_X7_copy h0 b0 n0 h1 b1 n1 h2 b2 n2 h3 b3 n3 fi px pf py po pn = (((f_X7_finding fi (-1000004)).1), ((f_X7_finding fi (-1000004)).2), h0, h1, h2, h3) := hF
                        have hf0 := yk_fst hF
                        have hg0 := yk_snd hF
                        have hf1 := yk_fst hg0
                        have hg1 := yk_snd hg0
                        have hf2 := yk_fst hg1
                        have hg2 := yk_snd hg1
                        have hf3 := yk_fst hg2
                        have hg3 := yk_snd hg2
                        have hf4 := yk_fst hg3
                        have hg4 := yk_snd hg3
                        rw [hf0, hf1, hf2, hf3, hf4, hg4] at hQ
                        exact hQ _ _ _ _ dX7_copy_80 hP hS
                    · replace hF := hF.trans (if_neg hc106)
                      refine lv_aload_n hx hb dX7_copy_53 rfl (lv_at hl 2 rfl) ?_
                      refine lv_ldcw (v := (-1000002)) hx hb hown (hts _ kX7_copy_2) dX7_copy_54 ?_
                      refine yk_i [0] (va_runV (As := [.int (-1000002)]) (rest := []) ⟨hx, hb, hml, hown, hts⟩ (c_X7_finding l D cy ta a_flow a_draft a_fence a_past a_slots a_slotKinds ha a_speedX a_speedY a_leftward a_change a_table fi (-1000002) H.size) (cwV 1 hts gX7_copy_X7_finding rfl rfl rfl hv_X7_finding (yk_room hRf hRl rfl rfl)) (yk_pv (q := (RX7, TX7, 13)) hG hA hS hK hP hD [0] (by decide +kernel) rfl rfl rfl) rfl rfl hl.1 rfl (lv_room (Nat.le_of_ble_eq_true rfl)) dX7_copy_57 ⟨Nat.zero_le _, Nat.zero_le _⟩) hP hD hS hA rfl (Eq.trans (b := [ta]) rfl rfl) (fun H locs hP9 hD9 hS9 => ?_)
                      replace hP : va_P D vwCl [(ta, .inr (7, [.ref a_flow, .ref a_draft, .ref a_fence, .ref a_past, .ref a_slots, .ref a_slotKinds, .ref ha, .ref a_speedX, .ref a_speedY, .ref a_leftward, .ref a_change, .ref a_table, .int ((f_X7_finding fi (-1000002)).2)])), (ha, .inl (cy 4, 4, .inr (.inr (.inr (.inr (yk_refs [ha0, ha1, ha2, ha3])))))), (ha0, .inr (5, [.ref ha0n, .int b0, .int (nI n0)])), (ha0n, .inl (cy 0, 16, .inl h0)), (ha1, .inr (5, [.ref ha1n, .int b1, .int (nI n1)])), (ha1n, .inl (cy 0, 16, .inl h1)), (ha2, .inr (5, [.ref ha2n, .int b2, .int (nI n2)])), (ha2n, .inl (cy 0, 16, .inl h2)), (ha3, .inr (5, [.ref ha3n, .int b3, .int (nI n3)])), (ha3n, .inl (cy 0, 16, .inl h3))] H := hP9
                      replace hD : va_D A [(ta, .inr (7, [.ref a_flow, .ref a_draft, .ref a_fence, .ref a_past, .ref a_slots, .ref a_slotKinds, .ref ha, .ref a_speedX, .ref a_speedY, .ref a_leftward, .ref a_change, .ref a_table, .int ((f_X7_finding fi (-1000002)).2)])), (ha, .inl (cy 4, 4, .inr (.inr (.inr (.inr (yk_refs [ha0, ha1, ha2, ha3])))))), (ha0, .inr (5, [.ref ha0n, .int b0, .int (nI n0)])), (ha0n, .inl (cy 0, 16, .inl h0)), (ha1, .inr (5, [.ref ha1n, .int b1, .int (nI n1)])), (ha1n, .inl (cy 0, 16, .inl h1)), (ha2, .inr (5, [.ref ha2n, .int b2, .int (nI n2)])), (ha2n, .inl (cy 0, 16, .inl h2)), (ha3, .inr (5, [.ref ha3n, .int b3, .int (nI n3)])), (ha3n, .inl (cy 0, 16, .inl h3))] := hD9
                      replace hS := hS9
                      clear hP9 hD9 hS9
                      have hF : f_X7_copy h0 b0 n0 h1 b1 n1 h2 b2 n2 h3 b3 n3 fi px pf py po pn = (((f_X7_finding fi (-1000002)).1), ((f_X7_finding fi (-1000002)).2), h0, h1, h2, h3) := hF
                      have hf0 := yk_fst hF
                      have hg0 := yk_snd hF
                      have hf1 := yk_fst hg0
                      have hg1 := yk_snd hg0
                      have hf2 := yk_fst hg1
                      have hg2 := yk_snd hg1
                      have hf3 := yk_fst hg2
                      have hg3 := yk_snd hg2
                      have hf4 := yk_fst hg3
                      have hg4 := yk_snd hg3
                      rw [hf0, hf1, hf2, hf3, hf4, hg4] at hQ
                      exact hQ _ _ _ _ dX7_copy_60 hP hS
          · replace hF := hF.trans (if_neg hc77)
            have hz26 : px.toNatClampNeg = 3 := by omega
            refine yk_ti (y := nI 3) (congrArg nI hz26) ?_
            refine yk_aldq hx hb hK hP 1 4 rfl rfl 3 (by decide) (by decide) rfl dX7_copy_26 ?_
            refine lv_astore (lv' := [(6, .ref ha3), (0, .ref ta), (1, .int (nI px.toNatClampNeg)), (2, .int pf), (3, .int (nI py.toNatClampNeg)), (4, .int po), (5, .int pn)]) hx hb dX7_copy_27 hl (by decide) rfl (fun ls hl9 => ?_)
            replace hl := hl9
            clear hl9
            refine lv_aload_n hx hb dX7_copy_29 rfl (lv_at hl 1 rfl) ?_
            refine va_get (D := D) (ci := 7) (v := .ref ha) (C := RX7) (T := TX7) (N := 13) hx hb hts uX7_copy_X7 hown hK hP 0 rfl rfl 6 (by decide) (hts _ kX7_copy_1) (fun _ h9 => h9) rfl dX7_copy_30 ?_
            refine lv_iload_n hx hb dX7_copy_33 rfl (lv_at hl 4 rfl) ?_
            by_cases hc113 : py.toNatClampNeg = 0
            · replace hF := hF.trans (if_pos hc113)
              refine yk_ti (y := nI 0) (congrArg nI hc113) ?_
              refine yk_aldq hx hb hK hP 1 4 rfl rfl 0 (by decide) (by decide) rfl dX7_copy_34 ?_
              refine lv_astore (lv' := [(7, .ref ha0), (6, .ref ha3), (0, .ref ta), (1, .int (nI px.toNatClampNeg)), (2, .int pf), (3, .int (nI py.toNatClampNeg)), (4, .int po), (5, .int pn)]) hx hb dX7_copy_35 hl (by decide) rfl (fun ls hl9 => ?_)
              replace hl := hl9
              clear hl9
              refine lv_aload hx hb dX7_copy_37 (lv_at hl 1 rfl) ?_
              refine yk_i [8, 9] (va_runV (As := []) (rest := []) ⟨hx, hb, hml, hown, hts⟩ (c_X5_isMissing l D cy ha3 ha3n h3 b3 n3 H.size) (cwV 0 hts gX7_copy_X5_isMissing rfl rfl rfl hv_X5_isMissing (yk_room hRf hRl rfl rfl)) (yk_pv (q := (RX5, TX5, 3)) hG hA hS hK hP hD [8, 9] (by decide +kernel) rfl rfl rfl) rfl rfl hl.1 rfl (lv_room (Nat.le_of_ble_eq_true rfl)) dX7_copy_39 ⟨Nat.zero_le _, Nat.zero_le _⟩) hP hD hS hA rfl (Eq.trans (b := [ha3, ha3n]) rfl rfl) (fun H locs hP9 hD9 hS9 => ?_)
              replace hP : va_P D vwCl [(ta, .inr (7, [.ref a_flow, .ref a_draft, .ref a_fence, .ref a_past, .ref a_slots, .ref a_slotKinds, .ref ha, .ref a_speedX, .ref a_speedY, .ref a_leftward, .ref a_change, .ref a_table, .int fi])), (ha, .inl (cy 4, 4, .inr (.inr (.inr (.inr (yk_refs [ha0, ha1, ha2, ha3])))))), (ha0, .inr (5, [.ref ha0n, .int b0, .int (nI n0)])), (ha0n, .inl (cy 0, 16, .inl h0)), (ha1, .inr (5, [.ref ha1n, .int b1, .int (nI n1)])), (ha1n, .inl (cy 0, 16, .inl h1)), (ha2, .inr (5, [.ref ha2n, .int b2, .int (nI n2)])), (ha2n, .inl (cy 0, 16, .inl h2)), (ha3, .inr (5, [.ref ha3n, .int b3, .int (nI n3)])), (ha3n, .inl (cy 0, 16, .inl h3))] H := hP9
              replace hD : va_D A [(ta, .inr (7, [.ref a_flow, .ref a_draft, .ref a_fence, .ref a_past, .ref a_slots, .ref a_slotKinds, .ref ha, .ref a_speedX, .ref a_speedY, .ref a_leftward, .ref a_change, .ref a_table, .int fi])), (ha, .inl (cy 4, 4, .inr (.inr (.inr (.inr (yk_refs [ha0, ha1, ha2, ha3])))))), (ha0, .inr (5, [.ref ha0n, .int b0, .int (nI n0)])), (ha0n, .inl (cy 0, 16, .inl h0)), (ha1, .inr (5, [.ref ha1n, .int b1, .int (nI n1)])), (ha1n, .inl (cy 0, 16, .inl h1)), (ha2, .inr (5, [.ref ha2n, .int b2, .int (nI n2)])), (ha2n, .inl (cy 0, 16, .inl h2)), (ha3, .inr (5, [.ref ha3n, .int b3, .int (nI n3)])), (ha3n, .inl (cy 0, 16, .inl h3))] := hD9
              replace hS := hS9
              clear hP9 hD9 hS9
              refine lv_if_ne (tgt := 53) hx hb dX7_copy_42 (by decide) (fun hc114 => ?_) (fun hc114 => ?_)
              · replace hF := hF.trans (if_neg hc114)
                refine lv_aload_n hx hb dX7_copy_53 rfl (lv_at hl 2 rfl) ?_
                refine lv_ldcw (v := (-1000002)) hx hb hown (hts _ kX7_copy_2) dX7_copy_54 ?_
                refine yk_i [0] (va_runV (As := [.int (-1000002)]) (rest := []) ⟨hx, hb, hml, hown, hts⟩ (c_X7_finding l D cy ta a_flow a_draft a_fence a_past a_slots a_slotKinds ha a_speedX a_speedY a_leftward a_change a_table fi (-1000002) H.size) (cwV 1 hts gX7_copy_X7_finding rfl rfl rfl hv_X7_finding (yk_room hRf hRl rfl rfl)) (yk_pv (q := (RX7, TX7, 13)) hG hA hS hK hP hD [0] (by decide +kernel) rfl rfl rfl) rfl rfl hl.1 rfl (lv_room (Nat.le_of_ble_eq_true rfl)) dX7_copy_57 ⟨Nat.zero_le _, Nat.zero_le _⟩) hP hD hS hA rfl (Eq.trans (b := [ta]) rfl rfl) (fun H locs hP9 hD9 hS9 => ?_)
                replace hP : va_P D vwCl [(ta, .inr (7, [.ref a_flow, .ref a_draft, .ref a_fence, .ref a_past, .ref a_slots, .ref a_slotKinds, .ref ha, .ref a_speedX, .ref a_speedY, .ref a_leftward, .ref a_change, .ref a_table, .int ((f_X7_finding fi (-1000002)).2)])), (ha, .inl (cy 4, 4, .inr (.inr (.inr (.inr (yk_refs [ha0, ha1, ha2, ha3])))))), (ha0, .inr (5, [.ref ha0n, .int b0, .int (nI n0)])), (ha0n, .inl (cy 0, 16, .inl h0)), (ha1, .inr (5, [.ref ha1n, .int b1, .int (nI n1)])), (ha1n, .inl (cy 0, 16, .inl h1)), (ha2, .inr (5, [.ref ha2n, .int b2, .int (nI n2)])), (ha2n, .inl (cy 0, 16, .inl h2)), (ha3, .inr (5, [.ref ha3n, .int b3, .int (nI n3)])), (ha3n, .inl (cy 0, 16, .inl h3))] H := hP9
                replace hD : va_D A [(ta, .inr (7, [.ref a_flow, .ref a_draft, .ref a_fence, .ref a_past, .ref a_slots, .ref a_slotKinds, .ref ha, .ref a_speedX, .ref a_speedY, .ref a_leftward, .ref a_change, .ref a_table, .int ((f_X7_finding fi (-1000002)).2)])), (ha, .inl (cy 4, 4, .inr (.inr (.inr (.inr (yk_refs [ha0, ha1, ha2, ha3])))))), (ha0, .inr (5, [.ref ha0n, .int b0, .int (nI n0)])), (ha0n, .inl (cy 0, 16, .inl h0)), (ha1, .inr (5, [.ref ha1n, .int b1, .int (nI n1)])), (ha1n, .inl (cy 0, 16, .inl h1)), (ha2, .inr (5, [.ref ha2n, .int b2, .int (nI n2)])), (ha2n, .inl (cy 0, 16, .inl h2)), (ha3, .inr (5, [.ref ha3n, .int b3, .int (nI n3)])), (ha3n, .inl (cy 0, 16, .inl h3))] := hD9
                replace hS := hS9
                clear hP9 hD9 hS9
                have hF : f_X7_copy h0 b0 n0 h1 b1 n1 h2 b2 n2 h3 b3 n3 fi px pf py po pn = (((f_X7_finding fi (-1000002)).1), ((f_X7_finding fi (-1000002)).2), h0, h1, h2, h3) := hF
                have hf0 := yk_fst hF
                have hg0 := yk_snd hF
                have hf1 := yk_fst hg0
                have hg1 := yk_snd hg0
                have hf2 := yk_fst hg1
                have hg2 := yk_snd hg1
                have hf3 := yk_fst hg2
                have hg3 := yk_snd hg2
                have hf4 := yk_fst hg3
                have hg4 := yk_snd hg3
                rw [hf0, hf1, hf2, hf3, hf4, hg4] at hQ
                exact hQ _ _ _ _ dX7_copy_60 hP hS
              · replace hF := hF.trans (if_pos hc114)
                refine lv_aload hx hb dX7_copy_45 (lv_at hl 0 rfl) ?_
                refine yk_i [2, 3] (va_runV (As := []) (rest := []) ⟨hx, hb, hml, hown, hts⟩ (c_X5_isMissing l D cy ha0 ha0n h0 b0 n0 H.size) (cwV 0 hts gX7_copy_X5_isMissing rfl rfl rfl hv_X5_isMissing (yk_room hRf hRl rfl rfl)) (yk_pv (q := (RX5, TX5, 3)) hG hA hS hK hP hD [2, 3] (by decide +kernel) rfl rfl rfl) rfl rfl hl.1 rfl (lv_room (Nat.le_of_ble_eq_true rfl)) dX7_copy_47 ⟨Nat.zero_le _, Nat.zero_le _⟩) hP hD hS hA rfl (Eq.trans (b := [ha0, ha0n]) rfl rfl) (fun H locs hP9 hD9 hS9 => ?_)
                replace hP : va_P D vwCl [(ta, .inr (7, [.ref a_flow, .ref a_draft, .ref a_fence, .ref a_past, .ref a_slots, .ref a_slotKinds, .ref ha, .ref a_speedX, .ref a_speedY, .ref a_leftward, .ref a_change, .ref a_table, .int fi])), (ha, .inl (cy 4, 4, .inr (.inr (.inr (.inr (yk_refs [ha0, ha1, ha2, ha3])))))), (ha0, .inr (5, [.ref ha0n, .int b0, .int (nI n0)])), (ha0n, .inl (cy 0, 16, .inl h0)), (ha1, .inr (5, [.ref ha1n, .int b1, .int (nI n1)])), (ha1n, .inl (cy 0, 16, .inl h1)), (ha2, .inr (5, [.ref ha2n, .int b2, .int (nI n2)])), (ha2n, .inl (cy 0, 16, .inl h2)), (ha3, .inr (5, [.ref ha3n, .int b3, .int (nI n3)])), (ha3n, .inl (cy 0, 16, .inl h3))] H := hP9
                replace hD : va_D A [(ta, .inr (7, [.ref a_flow, .ref a_draft, .ref a_fence, .ref a_past, .ref a_slots, .ref a_slotKinds, .ref ha, .ref a_speedX, .ref a_speedY, .ref a_leftward, .ref a_change, .ref a_table, .int fi])), (ha, .inl (cy 4, 4, .inr (.inr (.inr (.inr (yk_refs [ha0, ha1, ha2, ha3])))))), (ha0, .inr (5, [.ref ha0n, .int b0, .int (nI n0)])), (ha0n, .inl (cy 0, 16, .inl h0)), (ha1, .inr (5, [.ref ha1n, .int b1, .int (nI n1)])), (ha1n, .inl (cy 0, 16, .inl h1)), (ha2, .inr (5, [.ref ha2n, .int b2, .int (nI n2)])), (ha2n, .inl (cy 0, 16, .inl h2)), (ha3, .inr (5, [.ref ha3n, .int b3, .int (nI n3)])), (ha3n, .inl (cy 0, 16, .inl h3))] := hD9
                replace hS := hS9
                clear hP9 hD9 hS9
                refine lv_if_eq (tgt := 61) hx hb dX7_copy_50 (by decide) (fun hc115 => ?_) (fun hc115 => ?_)
                · replace hF := hF.trans (if_pos hc115)
                  refine lv_aload hx hb dX7_copy_61 (lv_at hl 1 rfl) ?_
                  refine va_get (D := D) (ci := 5) (v := .int b3) (C := RX5) (T := TX5) (N := 3) hx hb hts uX7_copy_X5 hown hK hP 8 rfl rfl 1 (by decide) (hts _ kX7_copy_3) (fun _ h9 => h9) rfl dX7_copy_63 ?_
                  refine lv_aload hx hb dX7_copy_66 (lv_at hl 0 rfl) ?_
                  refine va_get (D := D) (ci := 5) (v := .int b0) (C := RX5) (T := TX5) (N := 3) hx hb hts uX7_copy_X5 hown hK hP 2 rfl rfl 1 (by decide) (hts _ kX7_copy_3) (fun _ h9 => h9) rfl dX7_copy_68 ?_
                  refine lv_icmp_eq (tgt := 81) hx hb dX7_copy_71 (by decide) (fun hc116 => ?_) (fun hc116 => ?_)
                  · replace hF := hF.trans (if_pos hc116)
                    refine lv_aload hx hb dX7_copy_81 (lv_at hl 1 rfl) ?_
                    refine lv_iload_n hx hb dX7_copy_83 rfl (lv_at hl 4 rfl) ?_
                    refine lv_iload hx hb dX7_copy_84 (lv_at hl 7 rfl) ?_
                    refine yk_i [8, 9] (va_runV (As := [.int pf, .int pn]) (rest := []) ⟨hx, hb, hml, hown, hts⟩ (c_X5_hasRange l D cy ha3 ha3n h3 b3 n3 pf pn hn3 H.size) (cwV 2 hts gX7_copy_X5_hasRange rfl rfl rfl hv_X5_hasRange (yk_room hRf hRl rfl rfl)) (yk_pv (q := (RX5, TX5, 3)) hG hA hS hK hP hD [8, 9] (by decide +kernel) rfl rfl rfl) rfl rfl hl.1 rfl (lv_room (Nat.le_of_ble_eq_true rfl)) dX7_copy_86 ⟨Nat.zero_le _, Nat.zero_le _⟩) hP hD hS hA rfl (Eq.trans (b := [ha3, ha3n]) rfl rfl) (fun H locs hP9 hD9 hS9 => ?_)
                    replace hP : va_P D vwCl [(ta, .inr (7, [.ref a_flow, .ref a_draft, .ref a_fence, .ref a_past, .ref a_slots, .ref a_slotKinds, .ref ha, .ref a_speedX, .ref a_speedY, .ref a_leftward, .ref a_change, .ref a_table, .int fi])), (ha, .inl (cy 4, 4, .inr (.inr (.inr (.inr (yk_refs [ha0, ha1, ha2, ha3])))))), (ha0, .inr (5, [.ref ha0n, .int b0, .int (nI n0)])), (ha0n, .inl (cy 0, 16, .inl h0)), (ha1, .inr (5, [.ref ha1n, .int b1, .int (nI n1)])), (ha1n, .inl (cy 0, 16, .inl h1)), (ha2, .inr (5, [.ref ha2n, .int b2, .int (nI n2)])), (ha2n, .inl (cy 0, 16, .inl h2)), (ha3, .inr (5, [.ref ha3n, .int b3, .int (nI n3)])), (ha3n, .inl (cy 0, 16, .inl h3))] H := hP9
                    replace hD : va_D A [(ta, .inr (7, [.ref a_flow, .ref a_draft, .ref a_fence, .ref a_past, .ref a_slots, .ref a_slotKinds, .ref ha, .ref a_speedX, .ref a_speedY, .ref a_leftward, .ref a_change, .ref a_table, .int fi])), (ha, .inl (cy 4, 4, .inr (.inr (.inr (.inr (yk_refs [ha0, ha1, ha2, ha3])))))), (ha0, .inr (5, [.ref ha0n, .int b0, .int (nI n0)])), (ha0n, .inl (cy 0, 16, .inl h0)), (ha1, .inr (5, [.ref ha1n, .int b1, .int (nI n1)])), (ha1n, .inl (cy 0, 16, .inl h1)), (ha2, .inr (5, [.ref ha2n, .int b2, .int (nI n2)])), (ha2n, .inl (cy 0, 16, .inl h2)), (ha3, .inr (5, [.ref ha3n, .int b3, .int (nI n3)])), (ha3n, .inl (cy 0, 16, .inl h3))] := hD9
                    replace hS := hS9
                    clear hP9 hD9 hS9
                    refine lv_if_eq (tgt := 104) hx hb dX7_copy_89 (by decide) (fun hc117 => ?_) (fun hc117 => ?_)
                    · replace hF := hF.trans (if_pos hc117)
                      refine lv_aload_n hx hb dX7_copy_104 rfl (lv_at hl 2 rfl) ?_
                      refine lv_ldc (v := (-1000001)) hx hb hown (hts _ kX7_copy_0) dX7_copy_105 ?_
                      refine yk_i [0] (va_runV (As := [.int (-1000001)]) (rest := []) ⟨hx, hb, hml, hown, hts⟩ (c_X7_finding l D cy ta a_flow a_draft a_fence a_past a_slots a_slotKinds ha a_speedX a_speedY a_leftward a_change a_table fi (-1000001) H.size) (cwV 1 hts gX7_copy_X7_finding rfl rfl rfl hv_X7_finding (yk_room hRf hRl rfl rfl)) (yk_pv (q := (RX7, TX7, 13)) hG hA hS hK hP hD [0] (by decide +kernel) rfl rfl rfl) rfl rfl hl.1 rfl (lv_room (Nat.le_of_ble_eq_true rfl)) dX7_copy_107 ⟨Nat.zero_le _, Nat.zero_le _⟩) hP hD hS hA rfl (Eq.trans (b := [ta]) rfl rfl) (fun H locs hP9 hD9 hS9 => ?_)
                      replace hP : va_P D vwCl [(ta, .inr (7, [.ref a_flow, .ref a_draft, .ref a_fence, .ref a_past, .ref a_slots, .ref a_slotKinds, .ref ha, .ref a_speedX, .ref a_speedY, .ref a_leftward, .ref a_change, .ref a_table, .int ((f_X7_finding fi (-1000001)).2)])), (ha, .inl (cy 4, 4, .inr (.inr (.inr (.inr (yk_refs [ha0, ha1, ha2, ha3])))))), (ha0, .inr (5, [.ref ha0n, .int b0, .int (nI n0)])), (ha0n, .inl (cy 0, 16, .inl h0)), (ha1, .inr (5, [.ref ha1n, .int b1, .int (nI n1)])), (ha1n, .inl (cy 0, 16, .inl h1)), (ha2, .inr (5, [.ref ha2n, .int b2, .int (nI n2)])), (ha2n, .inl (cy 0, 16, .inl h2)), (ha3, .inr (5, [.ref ha3n, .int b3, .int (nI n3)])), (ha3n, .inl (cy 0, 16, .inl h3))] H := hP9
                      replace hD : va_D A [(ta, .inr (7, [.ref a_flow, .ref a_draft, .ref a_fence, .ref a_past, .ref a_slots, .ref a_slotKinds, .ref ha, .ref a_speedX, .ref a_speedY, .ref a_leftward, .ref a_change, .ref a_table, .int ((f_X7_finding fi (-1000001)).2)])), (ha, .inl (cy 4, 4, .inr (.inr (.inr (.inr (yk_refs [ha0, ha1, ha2, ha3])))))), (ha0, .inr (5, [.ref ha0n, .int b0, .int (nI n0)])), (ha0n, .inl (cy 0, 16, .inl h0)), (ha1, .inr (5, [.ref ha1n, .int b1, .int (nI n1)])), (ha1n, .inl (cy 0, 16, .inl h1)), (ha2, .inr (5, [.ref ha2n, .int b2, .int (nI n2)])), (ha2n, .inl (cy 0, 16, .inl h2)), (ha3, .inr (5, [.ref ha3n, .int b3, .int (nI n3)])), (ha3n, .inl (cy 0, 16, .inl h3))] := hD9
                      replace hS := hS9
                      clear hP9 hD9 hS9
                      have hF : f_X7_copy h0 b0 n0 h1 b1 n1 h2 b2 n2 h3 b3 n3 fi px pf py po pn = (((f_X7_finding fi (-1000001)).1), ((f_X7_finding fi (-1000001)).2), h0, h1, h2, h3) := hF
                      have hf0 := yk_fst hF
                      have hg0 := yk_snd hF
                      have hf1 := yk_fst hg0
                      have hg1 := yk_snd hg0
                      have hf2 := yk_fst hg1
                      have hg2 := yk_snd hg1
                      have hf3 := yk_fst hg2
                      have hg3 := yk_snd hg2
                      have hf4 := yk_fst hg3
                      have hg4 := yk_snd hg3
                      rw [hf0, hf1, hf2, hf3, hf4, hg4] at hQ
                      exact hQ _ _ _ _ dX7_copy_110 hP hS
                    · replace hF := hF.trans (if_neg hc117)
                      refine lv_aload hx hb dX7_copy_92 (lv_at hl 0 rfl) ?_
                      refine lv_iload hx hb dX7_copy_94 (lv_at hl 6 rfl) ?_
                      refine lv_iload hx hb dX7_copy_96 (lv_at hl 7 rfl) ?_
                      refine yk_i [2, 3] (va_runV (As := [.int po, .int pn]) (rest := []) ⟨hx, hb, hml, hown, hts⟩ (c_X5_hasRange l D cy ha0 ha0n h0 b0 n0 po pn hn0 H.size) (cwV 2 hts gX7_copy_X5_hasRange rfl rfl rfl hv_X5_hasRange (yk_room hRf hRl rfl rfl)) (yk_pv (q := (RX5, TX5, 3)) hG hA hS hK hP hD [2, 3] (by decide +kernel) rfl rfl rfl) rfl rfl hl.1 rfl (lv_room (Nat.le_of_ble_eq_true rfl)) dX7_copy_98 ⟨Nat.zero_le _, Nat.zero_le _⟩) hP hD hS hA rfl (Eq.trans (b := [ha0, ha0n]) rfl rfl) (fun H locs hP9 hD9 hS9 => ?_)
                      replace hP : va_P D vwCl [(ta, .inr (7, [.ref a_flow, .ref a_draft, .ref a_fence, .ref a_past, .ref a_slots, .ref a_slotKinds, .ref ha, .ref a_speedX, .ref a_speedY, .ref a_leftward, .ref a_change, .ref a_table, .int fi])), (ha, .inl (cy 4, 4, .inr (.inr (.inr (.inr (yk_refs [ha0, ha1, ha2, ha3])))))), (ha0, .inr (5, [.ref ha0n, .int b0, .int (nI n0)])), (ha0n, .inl (cy 0, 16, .inl h0)), (ha1, .inr (5, [.ref ha1n, .int b1, .int (nI n1)])), (ha1n, .inl (cy 0, 16, .inl h1)), (ha2, .inr (5, [.ref ha2n, .int b2, .int (nI n2)])), (ha2n, .inl (cy 0, 16, .inl h2)), (ha3, .inr (5, [.ref ha3n, .int b3, .int (nI n3)])), (ha3n, .inl (cy 0, 16, .inl h3))] H := hP9
                      replace hD : va_D A [(ta, .inr (7, [.ref a_flow, .ref a_draft, .ref a_fence, .ref a_past, .ref a_slots, .ref a_slotKinds, .ref ha, .ref a_speedX, .ref a_speedY, .ref a_leftward, .ref a_change, .ref a_table, .int fi])), (ha, .inl (cy 4, 4, .inr (.inr (.inr (.inr (yk_refs [ha0, ha1, ha2, ha3])))))), (ha0, .inr (5, [.ref ha0n, .int b0, .int (nI n0)])), (ha0n, .inl (cy 0, 16, .inl h0)), (ha1, .inr (5, [.ref ha1n, .int b1, .int (nI n1)])), (ha1n, .inl (cy 0, 16, .inl h1)), (ha2, .inr (5, [.ref ha2n, .int b2, .int (nI n2)])), (ha2n, .inl (cy 0, 16, .inl h2)), (ha3, .inr (5, [.ref ha3n, .int b3, .int (nI n3)])), (ha3n, .inl (cy 0, 16, .inl h3))] := hD9
                      replace hS := hS9
                      clear hP9 hD9 hS9
                      refine lv_if_ne (tgt := 111) hx hb dX7_copy_101 (by decide) (fun hc118 => ?_) (fun hc118 => ?_)
                      · replace hF := hF.trans (if_neg hc118)
                        have hq8 := hr_ok (n := n3) (x := pf) (y := pn) (by omega) (by assumption)
                        have hq9 := hr_ok (n := n0) (x := po) (y := pn) (by omega) (by assumption)
                        have hq119 : pf = nI pf.toNatClampNeg := hq8.1.1
                        have hq119b : pf.toNatClampNeg < 17 := hq8.1.2
                        rw [hq119] at hl
                        have hq120 : po = nI po.toNatClampNeg := hq9.1.1
                        have hq120b : po.toNatClampNeg < 17 := hq9.1.2
                        rw [hq120] at hl
                        have hq121 : pn = nI pn.toNatClampNeg := hq8.2.1.1
                        have hq121b : pn.toNatClampNeg < 17 := hq8.2.1.2
                        rw [hq121] at hl
                        refine lv_aload hx hb dX7_copy_111 (lv_at hl 1 rfl) ?_
                        refine va_get (D := D) (ci := 5) (v := .ref ha3n) (C := RX5) (T := TX5) (N := 3) hx hb hts uX7_copy_X5 hown hK hP 8 rfl rfl 0 (by decide) (hts _ kX7_copy_4) (fun _ h9 => h9) rfl dX7_copy_113 ?_
                        refine lv_iload_n hx hb dX7_copy_116 rfl (lv_at hl 4 rfl) ?_
                        refine lv_aload hx hb dX7_copy_117 (lv_at hl 0 rfl) ?_
                        refine va_get (D := D) (ci := 5) (v := .ref ha0n) (C := RX5) (T := TX5) (N := 3) hx hb hts uX7_copy_X5 hown hK hP 2 rfl rfl 0 (by decide) (hts _ kX7_copy_4) (fun _ h9 => h9) rfl dX7_copy_119 ?_
                        refine lv_iload hx hb dX7_copy_122 (lv_at hl 6 rfl) ?_
                        refine lv_iload hx hb dX7_copy_124 (lv_at hl 7 rfl) ?_
                        refine yk_cpy (sp := pf.toNatClampNeg) (dp := po.toNatClampNeg) (n := pn.toNatClampNeg) hx hb (hml.trans hl.1.symm) hown (hts _ kX7_copy_5) (hts _ kX7_copy_6) (hts _ kX7_copy_7) (hts _ kX7_copy_8) hK hP hD hS 9 3 rfl rfl rfl rfl (⟨by omega, by omega⟩) (by omega) (by omega) (by rw [hRf]; exact Nat.le_of_ble_eq_true rfl) (by rw [hRl]; exact Nat.le_of_ble_eq_true rfl) dX7_copy_126 (fun H locs hP9 hD9 hS9 => ?_)
                        replace hP : va_P D vwCl [(ta, .inr (7, [.ref a_flow, .ref a_draft, .ref a_fence, .ref a_past, .ref a_slots, .ref a_slotKinds, .ref ha, .ref a_speedX, .ref a_speedY, .ref a_leftward, .ref a_change, .ref a_table, .int fi])), (ha, .inl (cy 4, 4, .inr (.inr (.inr (.inr (yk_refs [ha0, ha1, ha2, ha3])))))), (ha0, .inr (5, [.ref ha0n, .int b0, .int (nI n0)])), (ha0n, .inl (cy 0, 16, .inl (va_cpy h3 h0 pf.toNatClampNeg po.toNatClampNeg pn.toNatClampNeg))), (ha1, .inr (5, [.ref ha1n, .int b1, .int (nI n1)])), (ha1n, .inl (cy 0, 16, .inl h1)), (ha2, .inr (5, [.ref ha2n, .int b2, .int (nI n2)])), (ha2n, .inl (cy 0, 16, .inl h2)), (ha3, .inr (5, [.ref ha3n, .int b3, .int (nI n3)])), (ha3n, .inl (cy 0, 16, .inl h3))] H := hP9
                        replace hD : va_D A [(ta, .inr (7, [.ref a_flow, .ref a_draft, .ref a_fence, .ref a_past, .ref a_slots, .ref a_slotKinds, .ref ha, .ref a_speedX, .ref a_speedY, .ref a_leftward, .ref a_change, .ref a_table, .int fi])), (ha, .inl (cy 4, 4, .inr (.inr (.inr (.inr (yk_refs [ha0, ha1, ha2, ha3])))))), (ha0, .inr (5, [.ref ha0n, .int b0, .int (nI n0)])), (ha0n, .inl (cy 0, 16, .inl (va_cpy h3 h0 pf.toNatClampNeg po.toNatClampNeg pn.toNatClampNeg))), (ha1, .inr (5, [.ref ha1n, .int b1, .int (nI n1)])), (ha1n, .inl (cy 0, 16, .inl h1)), (ha2, .inr (5, [.ref ha2n, .int b2, .int (nI n2)])), (ha2n, .inl (cy 0, 16, .inl h2)), (ha3, .inr (5, [.ref ha3n, .int b3, .int (nI n3)])), (ha3n, .inl (cy 0, 16, .inl h3))] := hD9
                        replace hS := hS9
                        clear hP9 hD9 hS9
                        refine lv_iload hx hb dX7_copy_129 (lv_at hl 7 rfl) ?_
                        have hF : f_X7_copy h0 b0 n0 h1 b1 n1 h2 b2 n2 h3 b3 n3 fi px pf py po pn = ((nI pn.toNatClampNeg), fi, (va_cpy h3 h0 pf.toNatClampNeg po.toNatClampNeg pn.toNatClampNeg), h1, h2, h3) := hF
                        have hf0 := yk_fst hF
                        have hg0 := yk_snd hF
                        have hf1 := yk_fst hg0
                        have hg1 := yk_snd hg0
                        have hf2 := yk_fst hg1
                        have hg2 := yk_snd hg1
                        have hf3 := yk_fst hg2
                        have hg3 := yk_snd hg2
                        have hf4 := yk_fst hg3
                        have hg4 := yk_snd hg3
                        rw [hf0, hf1, hf2, hf3, hf4, hg4] at hQ
                        exact hQ _ _ _ _ dX7_copy_131 hP hS
                      · replace hF := hF.trans (if_pos hc118)
                        refine lv_aload_n hx hb dX7_copy_104 rfl (lv_at hl 2 rfl) ?_
                        refine lv_ldc (v := (-1000001)) hx hb hown (hts _ kX7_copy_0) dX7_copy_105 ?_
                        refine yk_i [0] (va_runV (As := [.int (-1000001)]) (rest := []) ⟨hx, hb, hml, hown, hts⟩ (c_X7_finding l D cy ta a_flow a_draft a_fence a_past a_slots a_slotKinds ha a_speedX a_speedY a_leftward a_change a_table fi (-1000001) H.size) (cwV 1 hts gX7_copy_X7_finding rfl rfl rfl hv_X7_finding (yk_room hRf hRl rfl rfl)) (yk_pv (q := (RX7, TX7, 13)) hG hA hS hK hP hD [0] (by decide +kernel) rfl rfl rfl) rfl rfl hl.1 rfl (lv_room (Nat.le_of_ble_eq_true rfl)) dX7_copy_107 ⟨Nat.zero_le _, Nat.zero_le _⟩) hP hD hS hA rfl (Eq.trans (b := [ta]) rfl rfl) (fun H locs hP9 hD9 hS9 => ?_)
                        replace hP : va_P D vwCl [(ta, .inr (7, [.ref a_flow, .ref a_draft, .ref a_fence, .ref a_past, .ref a_slots, .ref a_slotKinds, .ref ha, .ref a_speedX, .ref a_speedY, .ref a_leftward, .ref a_change, .ref a_table, .int ((f_X7_finding fi (-1000001)).2)])), (ha, .inl (cy 4, 4, .inr (.inr (.inr (.inr (yk_refs [ha0, ha1, ha2, ha3])))))), (ha0, .inr (5, [.ref ha0n, .int b0, .int (nI n0)])), (ha0n, .inl (cy 0, 16, .inl h0)), (ha1, .inr (5, [.ref ha1n, .int b1, .int (nI n1)])), (ha1n, .inl (cy 0, 16, .inl h1)), (ha2, .inr (5, [.ref ha2n, .int b2, .int (nI n2)])), (ha2n, .inl (cy 0, 16, .inl h2)), (ha3, .inr (5, [.ref ha3n, .int b3, .int (nI n3)])), (ha3n, .inl (cy 0, 16, .inl h3))] H := hP9
                        replace hD : va_D A [(ta, .inr (7, [.ref a_flow, .ref a_draft, .ref a_fence, .ref a_past, .ref a_slots, .ref a_slotKinds, .ref ha, .ref a_speedX, .ref a_speedY, .ref a_leftward, .ref a_change, .ref a_table, .int ((f_X7_finding fi (-1000001)).2)])), (ha, .inl (cy 4, 4, .inr (.inr (.inr (.inr (yk_refs [ha0, ha1, ha2, ha3])))))), (ha0, .inr (5, [.ref ha0n, .int b0, .int (nI n0)])), (ha0n, .inl (cy 0, 16, .inl h0)), (ha1, .inr (5, [.ref ha1n, .int b1, .int (nI n1)])), (ha1n, .inl (cy 0, 16, .inl h1)), (ha2, .inr (5, [.ref ha2n, .int b2, .int (nI n2)])), (ha2n, .inl (cy 0, 16, .inl h2)), (ha3, .inr (5, [.ref ha3n, .int b3, .int (nI n3)])), (ha3n, .inl (cy 0, 16, .inl h3))] := hD9
                        replace hS := hS9
                        clear hP9 hD9 hS9
                        have hF : f_X7_copy h0 b0 n0 h1 b1 n1 h2 b2 n2 h3 b3 n3 fi px pf py po pn = (((f_X7_finding fi (-1000001)).1), ((f_X7_finding fi (-1000001)).2), h0, h1, h2, h3) := hF
                        have hf0 := yk_fst hF
                        have hg0 := yk_snd hF
                        have hf1 := yk_fst hg0
                        have hg1 := yk_snd hg0
                        have hf2 := yk_fst hg1
                        have hg2 := yk_snd hg1
                        have hf3 := yk_fst hg2
                        have hg3 := yk_snd hg2
                        have hf4 := yk_fst hg3
                        have hg4 := yk_snd hg3
                        rw [hf0, hf1, hf2, hf3, hf4, hg4] at hQ
                        exact hQ _ _ _ _ dX7_copy_110 hP hS
                  · replace hF := hF.trans (if_neg hc116)
                    refine lv_aload_n hx hb dX7_copy_74 rfl (lv_at hl 2 rfl) ?_
                    refine lv_ldc (v := (-1000004)) hx hb hown (hts _ kX7_copy_9) dX7_copy_75 ?_
                    refine yk_i [0] (va_runV (As := [.int (-1000004)]) (rest := []) ⟨hx, hb, hml, hown, hts⟩ (c_X7_finding l D cy ta a_flow a_draft a_fence a_past a_slots a_slotKinds ha a_speedX a_speedY a_leftward a_change a_table fi (-1000004) H.size) (cwV 1 hts gX7_copy_X7_finding rfl rfl rfl hv_X7_finding (yk_room hRf hRl rfl rfl)) (yk_pv (q := (RX7, TX7, 13)) hG hA hS hK hP hD [0] (by decide +kernel) rfl rfl rfl) rfl rfl hl.1 rfl (lv_room (Nat.le_of_ble_eq_true rfl)) dX7_copy_77 ⟨Nat.zero_le _, Nat.zero_le _⟩) hP hD hS hA rfl (Eq.trans (b := [ta]) rfl rfl) (fun H locs hP9 hD9 hS9 => ?_)
                    replace hP : va_P D vwCl [(ta, .inr (7, [.ref a_flow, .ref a_draft, .ref a_fence, .ref a_past, .ref a_slots, .ref a_slotKinds, .ref ha, .ref a_speedX, .ref a_speedY, .ref a_leftward, .ref a_change, .ref a_table, .int ((f_X7_finding fi (-1000004)).2)])), (ha, .inl (cy 4, 4, .inr (.inr (.inr (.inr (yk_refs [ha0, ha1, ha2, ha3])))))), (ha0, .inr (5, [.ref ha0n, .int b0, .int (nI n0)])), (ha0n, .inl (cy 0, 16, .inl h0)), (ha1, .inr (5, [.ref ha1n, .int b1, .int (nI n1)])), (ha1n, .inl (cy 0, 16, .inl h1)), (ha2, .inr (5, [.ref ha2n, .int b2, .int (nI n2)])), (ha2n, .inl (cy 0, 16, .inl h2)), (ha3, .inr (5, [.ref ha3n, .int b3, .int (nI n3)])), (ha3n, .inl (cy 0, 16, .inl h3))] H := hP9
                    replace hD : va_D A [(ta, .inr (7, [.ref a_flow, .ref a_draft, .ref a_fence, .ref a_past, .ref a_slots, .ref a_slotKinds, .ref ha, .ref a_speedX, .ref a_speedY, .ref a_leftward, .ref a_change, .ref a_table, .int ((f_X7_finding fi (-1000004)).2)])), (ha, .inl (cy 4, 4, .inr (.inr (.inr (.inr (yk_refs [ha0, ha1, ha2, ha3])))))), (ha0, .inr (5, [.ref ha0n, .int b0, .int (nI n0)])), (ha0n, .inl (cy 0, 16, .inl h0)), (ha1, .inr (5, [.ref ha1n, .int b1, .int (nI n1)])), (ha1n, .inl (cy 0, 16, .inl h1)), (ha2, .inr (5, [.ref ha2n, .int b2, .int (nI n2)])), (ha2n, .inl (cy 0, 16, .inl h2)), (ha3, .inr (5, [.ref ha3n, .int b3, .int (nI n3)])), (ha3n, .inl (cy 0, 16, .inl h3))] := hD9
                    replace hS := hS9
                    clear hP9 hD9 hS9
                    have hF : f_X7_copy h0 b0 n0 h1 b1 n1 h2 b2 n2 h3 b3 n3 fi px pf py po pn = (((f_X7_finding fi (-1000004)).1), ((f_X7_finding fi (-1000004)).2), h0, h1, h2, h3) := hF
                    have hf0 := yk_fst hF
                    have hg0 := yk_snd hF
                    have hf1 := yk_fst hg0
                    have hg1 := yk_snd hg0
                    have hf2 := yk_fst hg1
                    have hg2 := yk_snd hg1
                    have hf3 := yk_fst hg2
                    have hg3 := yk_snd hg2
                    have hf4 := yk_fst hg3
                    have hg4 := yk_snd hg3
                    rw [hf0, hf1, hf2, hf3, hf4, hg4] at hQ
                    exact hQ _ _ _ _ dX7_copy_80 hP hS
                · replace hF := hF.trans (if_neg hc115)
                  refine lv_aload_n hx hb dX7_copy_53 rfl (lv_at hl 2 rfl) ?_
                  refine lv_ldcw (v := (-1000002)) hx hb hown (hts _ kX7_copy_2) dX7_copy_54 ?_
                  refine yk_i [0] (va_runV (As := [.int (-1000002)]) (rest := []) ⟨hx, hb, hml, hown, hts⟩ (c_X7_finding l D cy ta a_flow a_draft a_fence a_past a_slots a_slotKinds ha a_speedX a_speedY a_leftward a_change a_table fi (-1000002) H.size) (cwV 1 hts gX7_copy_X7_finding rfl rfl rfl hv_X7_finding (yk_room hRf hRl rfl rfl)) (yk_pv (q := (RX7, TX7, 13)) hG hA hS hK hP hD [0] (by decide +kernel) rfl rfl rfl) rfl rfl hl.1 rfl (lv_room (Nat.le_of_ble_eq_true rfl)) dX7_copy_57 ⟨Nat.zero_le _, Nat.zero_le _⟩) hP hD hS hA rfl (Eq.trans (b := [ta]) rfl rfl) (fun H locs hP9 hD9 hS9 => ?_)
                  replace hP : va_P D vwCl [(ta, .inr (7, [.ref a_flow, .ref a_draft, .ref a_fence, .ref a_past, .ref a_slots, .ref a_slotKinds, .ref ha, .ref a_speedX, .ref a_speedY, .ref a_leftward, .ref a_change, .ref a_table, .int ((f_X7_finding fi (-1000002)).2)])), (ha, .inl (cy 4, 4, .inr (.inr (.inr (.inr (yk_refs [ha0, ha1, ha2, ha3])))))), (ha0, .inr (5, [.ref ha0n, .int b0, .int (nI n0)])), (ha0n, .inl (cy 0, 16, .inl h0)), (ha1, .inr (5, [.ref ha1n, .int b1, .int (nI n1)])), (ha1n, .inl (cy 0, 16, .inl h1)), (ha2, .inr (5, [.ref ha2n, .int b2, .int (nI n2)])), (ha2n, .inl (cy 0, 16, .inl h2)), (ha3, .inr (5, [.ref ha3n, .int b3, .int (nI n3)])), (ha3n, .inl (cy 0, 16, .inl h3))] H := hP9
                  replace hD : va_D A [(ta, .inr (7, [.ref a_flow, .ref a_draft, .ref a_fence, .ref a_past, .ref a_slots, .ref a_slotKinds, .ref ha, .ref a_speedX, .ref a_speedY, .ref a_leftward, .ref a_change, .ref a_table, .int ((f_X7_finding fi (-1000002)).2)])), (ha, .inl (cy 4, 4, .inr (.inr (.inr (.inr (yk_refs [ha0, ha1, ha2, ha3])))))), (ha0, .inr (5, [.ref ha0n, .int b0, .int (nI n0)])), (ha0n, .inl (cy 0, 16, .inl h0)), (ha1, .inr (5, [.ref ha1n, .int b1, .int (nI n1)])), (ha1n, .inl (cy 0, 16, .inl h1)), (ha2, .inr (5, [.ref ha2n, .int b2, .int (nI n2)])), (ha2n, .inl (cy 0, 16, .inl h2)), (ha3, .inr (5, [.ref ha3n, .int b3, .int (nI n3)])), (ha3n, .inl (cy 0, 16, .inl h3))] := hD9
                  replace hS := hS9
                  clear hP9 hD9 hS9
                  have hF : f_X7_copy h0 b0 n0 h1 b1 n1 h2 b2 n2 h3 b3 n3 fi px pf py po pn = (((f_X7_finding fi (-1000002)).1), ((f_X7_finding fi (-1000002)).2), h0, h1, h2, h3) := hF
                  have hf0 := yk_fst hF
                  have hg0 := yk_snd hF
                  have hf1 := yk_fst hg0
                  have hg1 := yk_snd hg0
                  have hf2 := yk_fst hg1
                  have hg2 := yk_snd hg1
                  have hf3 := yk_fst hg2
                  have hg3 := yk_snd hg2
                  have hf4 := yk_fst hg3
                  have hg4 := yk_snd hg3
                  rw [hf0, hf1, hf2, hf3, hf4, hg4] at hQ
                  exact hQ _ _ _ _ dX7_copy_60 hP hS
            · replace hF := hF.trans (if_neg hc113)
              by_cases hc122 : py.toNatClampNeg = 1
              · replace hF := hF.trans (if_pos hc122)
                refine yk_ti (y := nI 1) (congrArg nI hc122) ?_
                refine yk_aldq hx hb hK hP 1 4 rfl rfl 1 (by decide) (by decide) rfl dX7_copy_34 ?_
                refine lv_astore (lv' := [(7, .ref ha1), (6, .ref ha3), (0, .ref ta), (1, .int (nI px.toNatClampNeg)), (2, .int pf), (3, .int (nI py.toNatClampNeg)), (4, .int po), (5, .int pn)]) hx hb dX7_copy_35 hl (by decide) rfl (fun ls hl9 => ?_)
                replace hl := hl9
                clear hl9
                refine lv_aload hx hb dX7_copy_37 (lv_at hl 1 rfl) ?_
                refine yk_i [8, 9] (va_runV (As := []) (rest := []) ⟨hx, hb, hml, hown, hts⟩ (c_X5_isMissing l D cy ha3 ha3n h3 b3 n3 H.size) (cwV 0 hts gX7_copy_X5_isMissing rfl rfl rfl hv_X5_isMissing (yk_room hRf hRl rfl rfl)) (yk_pv (q := (RX5, TX5, 3)) hG hA hS hK hP hD [8, 9] (by decide +kernel) rfl rfl rfl) rfl rfl hl.1 rfl (lv_room (Nat.le_of_ble_eq_true rfl)) dX7_copy_39 ⟨Nat.zero_le _, Nat.zero_le _⟩) hP hD hS hA rfl (Eq.trans (b := [ha3, ha3n]) rfl rfl) (fun H locs hP9 hD9 hS9 => ?_)
                replace hP : va_P D vwCl [(ta, .inr (7, [.ref a_flow, .ref a_draft, .ref a_fence, .ref a_past, .ref a_slots, .ref a_slotKinds, .ref ha, .ref a_speedX, .ref a_speedY, .ref a_leftward, .ref a_change, .ref a_table, .int fi])), (ha, .inl (cy 4, 4, .inr (.inr (.inr (.inr (yk_refs [ha0, ha1, ha2, ha3])))))), (ha0, .inr (5, [.ref ha0n, .int b0, .int (nI n0)])), (ha0n, .inl (cy 0, 16, .inl h0)), (ha1, .inr (5, [.ref ha1n, .int b1, .int (nI n1)])), (ha1n, .inl (cy 0, 16, .inl h1)), (ha2, .inr (5, [.ref ha2n, .int b2, .int (nI n2)])), (ha2n, .inl (cy 0, 16, .inl h2)), (ha3, .inr (5, [.ref ha3n, .int b3, .int (nI n3)])), (ha3n, .inl (cy 0, 16, .inl h3))] H := hP9
                replace hD : va_D A [(ta, .inr (7, [.ref a_flow, .ref a_draft, .ref a_fence, .ref a_past, .ref a_slots, .ref a_slotKinds, .ref ha, .ref a_speedX, .ref a_speedY, .ref a_leftward, .ref a_change, .ref a_table, .int fi])), (ha, .inl (cy 4, 4, .inr (.inr (.inr (.inr (yk_refs [ha0, ha1, ha2, ha3])))))), (ha0, .inr (5, [.ref ha0n, .int b0, .int (nI n0)])), (ha0n, .inl (cy 0, 16, .inl h0)), (ha1, .inr (5, [.ref ha1n, .int b1, .int (nI n1)])), (ha1n, .inl (cy 0, 16, .inl h1)), (ha2, .inr (5, [.ref ha2n, .int b2, .int (nI n2)])), (ha2n, .inl (cy 0, 16, .inl h2)), (ha3, .inr (5, [.ref ha3n, .int b3, .int (nI n3)])), (ha3n, .inl (cy 0, 16, .inl h3))] := hD9
                replace hS := hS9
                clear hP9 hD9 hS9
                refine lv_if_ne (tgt := 53) hx hb dX7_copy_42 (by decide) (fun hc123 => ?_) (fun hc123 => ?_)
                · replace hF := hF.trans (if_neg hc123)
                  refine lv_aload_n hx hb dX7_copy_53 rfl (lv_at hl 2 rfl) ?_
                  refine lv_ldcw (v := (-1000002)) hx hb hown (hts _ kX7_copy_2) dX7_copy_54 ?_
                  refine yk_i [0] (va_runV (As := [.int (-1000002)]) (rest := []) ⟨hx, hb, hml, hown, hts⟩ (c_X7_finding l D cy ta a_flow a_draft a_fence a_past a_slots a_slotKinds ha a_speedX a_speedY a_leftward a_change a_table fi (-1000002) H.size) (cwV 1 hts gX7_copy_X7_finding rfl rfl rfl hv_X7_finding (yk_room hRf hRl rfl rfl)) (yk_pv (q := (RX7, TX7, 13)) hG hA hS hK hP hD [0] (by decide +kernel) rfl rfl rfl) rfl rfl hl.1 rfl (lv_room (Nat.le_of_ble_eq_true rfl)) dX7_copy_57 ⟨Nat.zero_le _, Nat.zero_le _⟩) hP hD hS hA rfl (Eq.trans (b := [ta]) rfl rfl) (fun H locs hP9 hD9 hS9 => ?_)
                  replace hP : va_P D vwCl [(ta, .inr (7, [.ref a_flow, .ref a_draft, .ref a_fence, .ref a_past, .ref a_slots, .ref a_slotKinds, .ref ha, .ref a_speedX, .ref a_speedY, .ref a_leftward, .ref a_change, .ref a_table, .int ((f_X7_finding fi (-1000002)).2)])), (ha, .inl (cy 4, 4, .inr (.inr (.inr (.inr (yk_refs [ha0, ha1, ha2, ha3])))))), (ha0, .inr (5, [.ref ha0n, .int b0, .int (nI n0)])), (ha0n, .inl (cy 0, 16, .inl h0)), (ha1, .inr (5, [.ref ha1n, .int b1, .int (nI n1)])), (ha1n, .inl (cy 0, 16, .inl h1)), (ha2, .inr (5, [.ref ha2n, .int b2, .int (nI n2)])), (ha2n, .inl (cy 0, 16, .inl h2)), (ha3, .inr (5, [.ref ha3n, .int b3, .int (nI n3)])), (ha3n, .inl (cy 0, 16, .inl h3))] H := hP9
                  replace hD : va_D A [(ta, .inr (7, [.ref a_flow, .ref a_draft, .ref a_fence, .ref a_past, .ref a_slots, .ref a_slotKinds, .ref ha, .ref a_speedX, .ref a_speedY, .ref a_leftward, .ref a_change, .ref a_table, .int ((f_X7_finding fi (-1000002)).2)])), (ha, .inl (cy 4, 4, .inr (.inr (.inr (.inr (yk_refs [ha0, ha1, ha2, ha3])))))), (ha0, .inr (5, [.ref ha0n, .int b0, .int (nI n0)])), (ha0n, .inl (cy 0, 16, .inl h0)), (ha1, .inr (5, [.ref ha1n, .int b1, .int (nI n1)])), (ha1n, .inl (cy 0, 16, .inl h1)), (ha2, .inr (5, [.ref ha2n, .int b2, .int (nI n2)])), (ha2n, .inl (cy 0, 16, .inl h2)), (ha3, .inr (5, [.ref ha3n, .int b3, .int (nI n3)])), (ha3n, .inl (cy 0, 16, .inl h3))] := hD9
                  replace hS := hS9
                  clear hP9 hD9 hS9
                  have hF : f_X7_copy h0 b0 n0 h1 b1 n1 h2 b2 n2 h3 b3 n3 fi px pf py po pn = (((f_X7_finding fi (-1000002)).1), ((f_X7_finding fi (-1000002)).2), h0, h1, h2, h3) := hF
                  have hf0 := yk_fst hF
                  have hg0 := yk_snd hF
                  have hf1 := yk_fst hg0
                  have hg1 := yk_snd hg0
                  have hf2 := yk_fst hg1
                  have hg2 := yk_snd hg1
                  have hf3 := yk_fst hg2
                  have hg3 := yk_snd hg2
                  have hf4 := yk_fst hg3
                  have hg4 := yk_snd hg3
                  rw [hf0, hf1, hf2, hf3, hf4, hg4] at hQ
                  exact hQ _ _ _ _ dX7_copy_60 hP hS
                · replace hF := hF.trans (if_pos hc123)
                  refine lv_aload hx hb dX7_copy_45 (lv_at hl 0 rfl) ?_
                  refine yk_i [4, 5] (va_runV (As := []) (rest := []) ⟨hx, hb, hml, hown, hts⟩ (c_X5_isMissing l D cy ha1 ha1n h1 b1 n1 H.size) (cwV 0 hts gX7_copy_X5_isMissing rfl rfl rfl hv_X5_isMissing (yk_room hRf hRl rfl rfl)) (yk_pv (q := (RX5, TX5, 3)) hG hA hS hK hP hD [4, 5] (by decide +kernel) rfl rfl rfl) rfl rfl hl.1 rfl (lv_room (Nat.le_of_ble_eq_true rfl)) dX7_copy_47 ⟨Nat.zero_le _, Nat.zero_le _⟩) hP hD hS hA rfl (Eq.trans (b := [ha1, ha1n]) rfl rfl) (fun H locs hP9 hD9 hS9 => ?_)
                  replace hP : va_P D vwCl [(ta, .inr (7, [.ref a_flow, .ref a_draft, .ref a_fence, .ref a_past, .ref a_slots, .ref a_slotKinds, .ref ha, .ref a_speedX, .ref a_speedY, .ref a_leftward, .ref a_change, .ref a_table, .int fi])), (ha, .inl (cy 4, 4, .inr (.inr (.inr (.inr (yk_refs [ha0, ha1, ha2, ha3])))))), (ha0, .inr (5, [.ref ha0n, .int b0, .int (nI n0)])), (ha0n, .inl (cy 0, 16, .inl h0)), (ha1, .inr (5, [.ref ha1n, .int b1, .int (nI n1)])), (ha1n, .inl (cy 0, 16, .inl h1)), (ha2, .inr (5, [.ref ha2n, .int b2, .int (nI n2)])), (ha2n, .inl (cy 0, 16, .inl h2)), (ha3, .inr (5, [.ref ha3n, .int b3, .int (nI n3)])), (ha3n, .inl (cy 0, 16, .inl h3))] H := hP9
                  replace hD : va_D A [(ta, .inr (7, [.ref a_flow, .ref a_draft, .ref a_fence, .ref a_past, .ref a_slots, .ref a_slotKinds, .ref ha, .ref a_speedX, .ref a_speedY, .ref a_leftward, .ref a_change, .ref a_table, .int fi])), (ha, .inl (cy 4, 4, .inr (.inr (.inr (.inr (yk_refs [ha0, ha1, ha2, ha3])))))), (ha0, .inr (5, [.ref ha0n, .int b0, .int (nI n0)])), (ha0n, .inl (cy 0, 16, .inl h0)), (ha1, .inr (5, [.ref ha1n, .int b1, .int (nI n1)])), (ha1n, .inl (cy 0, 16, .inl h1)), (ha2, .inr (5, [.ref ha2n, .int b2, .int (nI n2)])), (ha2n, .inl (cy 0, 16, .inl h2)), (ha3, .inr (5, [.ref ha3n, .int b3, .int (nI n3)])), (ha3n, .inl (cy 0, 16, .inl h3))] := hD9
                  replace hS := hS9
                  clear hP9 hD9 hS9
                  refine lv_if_eq (tgt := 61) hx hb dX7_copy_50 (by decide) (fun hc124 => ?_) (fun hc124 => ?_)
                  · replace hF := hF.trans (if_pos hc124)
                    refine lv_aload hx hb dX7_copy_61 (lv_at hl 1 rfl) ?_
                    refine va_get (D := D) (ci := 5) (v := .int b3) (C := RX5) (T := TX5) (N := 3) hx hb hts uX7_copy_X5 hown hK hP 8 rfl rfl 1 (by decide) (hts _ kX7_copy_3) (fun _ h9 => h9) rfl dX7_copy_63 ?_
                    refine lv_aload hx hb dX7_copy_66 (lv_at hl 0 rfl) ?_
                    refine va_get (D := D) (ci := 5) (v := .int b1) (C := RX5) (T := TX5) (N := 3) hx hb hts uX7_copy_X5 hown hK hP 4 rfl rfl 1 (by decide) (hts _ kX7_copy_3) (fun _ h9 => h9) rfl dX7_copy_68 ?_
                    refine lv_icmp_eq (tgt := 81) hx hb dX7_copy_71 (by decide) (fun hc125 => ?_) (fun hc125 => ?_)
                    · replace hF := hF.trans (if_pos hc125)
                      refine lv_aload hx hb dX7_copy_81 (lv_at hl 1 rfl) ?_
                      refine lv_iload_n hx hb dX7_copy_83 rfl (lv_at hl 4 rfl) ?_
                      refine lv_iload hx hb dX7_copy_84 (lv_at hl 7 rfl) ?_
                      refine yk_i [8, 9] (va_runV (As := [.int pf, .int pn]) (rest := []) ⟨hx, hb, hml, hown, hts⟩ (c_X5_hasRange l D cy ha3 ha3n h3 b3 n3 pf pn hn3 H.size) (cwV 2 hts gX7_copy_X5_hasRange rfl rfl rfl hv_X5_hasRange (yk_room hRf hRl rfl rfl)) (yk_pv (q := (RX5, TX5, 3)) hG hA hS hK hP hD [8, 9] (by decide +kernel) rfl rfl rfl) rfl rfl hl.1 rfl (lv_room (Nat.le_of_ble_eq_true rfl)) dX7_copy_86 ⟨Nat.zero_le _, Nat.zero_le _⟩) hP hD hS hA rfl (Eq.trans (b := [ha3, ha3n]) rfl rfl) (fun H locs hP9 hD9 hS9 => ?_)
                      replace hP : va_P D vwCl [(ta, .inr (7, [.ref a_flow, .ref a_draft, .ref a_fence, .ref a_past, .ref a_slots, .ref a_slotKinds, .ref ha, .ref a_speedX, .ref a_speedY, .ref a_leftward, .ref a_change, .ref a_table, .int fi])), (ha, .inl (cy 4, 4, .inr (.inr (.inr (.inr (yk_refs [ha0, ha1, ha2, ha3])))))), (ha0, .inr (5, [.ref ha0n, .int b0, .int (nI n0)])), (ha0n, .inl (cy 0, 16, .inl h0)), (ha1, .inr (5, [.ref ha1n, .int b1, .int (nI n1)])), (ha1n, .inl (cy 0, 16, .inl h1)), (ha2, .inr (5, [.ref ha2n, .int b2, .int (nI n2)])), (ha2n, .inl (cy 0, 16, .inl h2)), (ha3, .inr (5, [.ref ha3n, .int b3, .int (nI n3)])), (ha3n, .inl (cy 0, 16, .inl h3))] H := hP9
                      replace hD : va_D A [(ta, .inr (7, [.ref a_flow, .ref a_draft, .ref a_fence, .ref a_past, .ref a_slots, .ref a_slotKinds, .ref ha, .ref a_speedX, .ref a_speedY, .ref a_leftward, .ref a_change, .ref a_table, .int fi])), (ha, .inl (cy 4, 4, .inr (.inr (.inr (.inr (yk_refs [ha0, ha1, ha2, ha3])))))), (ha0, .inr (5, [.ref ha0n, .int b0, .int (nI n0)])), (ha0n, .inl (cy 0, 16, .inl h0)), (ha1, .inr (5, [.ref ha1n, .int b1, .int (nI n1)])), (ha1n, .inl (cy 0, 16, .inl h1)), (ha2, .inr (5, [.ref ha2n, .int b2, .int (nI n2)])), (ha2n, .inl (cy 0, 16, .inl h2)), (ha3, .inr (5, [.ref ha3n, .int b3, .int (nI n3)])), (ha3n, .inl (cy 0, 16, .inl h3))] := hD9
                      replace hS := hS9
                      clear hP9 hD9 hS9
                      refine lv_if_eq (tgt := 104) hx hb dX7_copy_89 (by decide) (fun hc126 => ?_) (fun hc126 => ?_)
                      · replace hF := hF.trans (if_pos hc126)
                        refine lv_aload_n hx hb dX7_copy_104 rfl (lv_at hl 2 rfl) ?_
                        refine lv_ldc (v := (-1000001)) hx hb hown (hts _ kX7_copy_0) dX7_copy_105 ?_
                        refine yk_i [0] (va_runV (As := [.int (-1000001)]) (rest := []) ⟨hx, hb, hml, hown, hts⟩ (c_X7_finding l D cy ta a_flow a_draft a_fence a_past a_slots a_slotKinds ha a_speedX a_speedY a_leftward a_change a_table fi (-1000001) H.size) (cwV 1 hts gX7_copy_X7_finding rfl rfl rfl hv_X7_finding (yk_room hRf hRl rfl rfl)) (yk_pv (q := (RX7, TX7, 13)) hG hA hS hK hP hD [0] (by decide +kernel) rfl rfl rfl) rfl rfl hl.1 rfl (lv_room (Nat.le_of_ble_eq_true rfl)) dX7_copy_107 ⟨Nat.zero_le _, Nat.zero_le _⟩) hP hD hS hA rfl (Eq.trans (b := [ta]) rfl rfl) (fun H locs hP9 hD9 hS9 => ?_)
                        replace hP : va_P D vwCl [(ta, .inr (7, [.ref a_flow, .ref a_draft, .ref a_fence, .ref a_past, .ref a_slots, .ref a_slotKinds, .ref ha, .ref a_speedX, .ref a_speedY, .ref a_leftward, .ref a_change, .ref a_table, .int ((f_X7_finding fi (-1000001)).2)])), (ha, .inl (cy 4, 4, .inr (.inr (.inr (.inr (yk_refs [ha0, ha1, ha2, ha3])))))), (ha0, .inr (5, [.ref ha0n, .int b0, .int (nI n0)])), (ha0n, .inl (cy 0, 16, .inl h0)), (ha1, .inr (5, [.ref ha1n, .int b1, .int (nI n1)])), (ha1n, .inl (cy 0, 16, .inl h1)), (ha2, .inr (5, [.ref ha2n, .int b2, .int (nI n2)])), (ha2n, .inl (cy 0, 16, .inl h2)), (ha3, .inr (5, [.ref ha3n, .int b3, .int (nI n3)])), (ha3n, .inl (cy 0, 16, .inl h3))] H := hP9
                        replace hD : va_D A [(ta, .inr (7, [.ref a_flow, .ref a_draft, .ref a_fence, .ref a_past, .ref a_slots, .ref a_slotKinds, .ref ha, .ref a_speedX, .ref a_speedY, .ref a_leftward, .ref a_change, .ref a_table, .int ((f_X7_finding fi (-1000001)).2)])), (ha, .inl (cy 4, 4, .inr (.inr (.inr (.inr (yk_refs [ha0, ha1, ha2, ha3])))))), (ha0, .inr (5, [.ref ha0n, .int b0, .int (nI n0)])), (ha0n, .inl (cy 0, 16, .inl h0)), (ha1, .inr (5, [.ref ha1n, .int b1, .int (nI n1)])), (ha1n, .inl (cy 0, 16, .inl h1)), (ha2, .inr (5, [.ref ha2n, .int b2, .int (nI n2)])), (ha2n, .inl (cy 0, 16, .inl h2)), (ha3, .inr (5, [.ref ha3n, .int b3, .int (nI n3)])), (ha3n, .inl (cy 0, 16, .inl h3))] := hD9
                        replace hS := hS9
                        clear hP9 hD9 hS9
                        have hF : f_X7_copy h0 b0 n0 h1 b1 n1 h2 b2 n2 h3 b3 n3 fi px pf py po pn = (((f_X7_finding fi (-1000001)).1), ((f_X7_finding fi (-1000001)).2), h0, h1, h2, h3) := hF
                        have hf0 := yk_fst hF
                        have hg0 := yk_snd hF
                        have hf1 := yk_fst hg0
                        have hg1 := yk_snd hg0
                        have hf2 := yk_fst hg1
                        have hg2 := yk_snd hg1
                        have hf3 := yk_fst hg2
                        have hg3 := yk_snd hg2
                        have hf4 := yk_fst hg3
                        have hg4 := yk_snd hg3
                        rw [hf0, hf1, hf2, hf3, hf4, hg4] at hQ
                        exact hQ _ _ _ _ dX7_copy_110 hP hS
                      · replace hF := hF.trans (if_neg hc126)
                        refine lv_aload hx hb dX7_copy_92 (lv_at hl 0 rfl) ?_
                        refine lv_iload hx hb dX7_copy_94 (lv_at hl 6 rfl) ?_
                        refine lv_iload hx hb dX7_copy_96 (lv_at hl 7 rfl) ?_
                        refine yk_i [4, 5] (va_runV (As := [.int po, .int pn]) (rest := []) ⟨hx, hb, hml, hown, hts⟩ (c_X5_hasRange l D cy ha1 ha1n h1 b1 n1 po pn hn1 H.size) (cwV 2 hts gX7_copy_X5_hasRange rfl rfl rfl hv_X5_hasRange (yk_room hRf hRl rfl rfl)) (yk_pv (q := (RX5, TX5, 3)) hG hA hS hK hP hD [4, 5] (by decide +kernel) rfl rfl rfl) rfl rfl hl.1 rfl (lv_room (Nat.le_of_ble_eq_true rfl)) dX7_copy_98 ⟨Nat.zero_le _, Nat.zero_le _⟩) hP hD hS hA rfl (Eq.trans (b := [ha1, ha1n]) rfl rfl) (fun H locs hP9 hD9 hS9 => ?_)
                        replace hP : va_P D vwCl [(ta, .inr (7, [.ref a_flow, .ref a_draft, .ref a_fence, .ref a_past, .ref a_slots, .ref a_slotKinds, .ref ha, .ref a_speedX, .ref a_speedY, .ref a_leftward, .ref a_change, .ref a_table, .int fi])), (ha, .inl (cy 4, 4, .inr (.inr (.inr (.inr (yk_refs [ha0, ha1, ha2, ha3])))))), (ha0, .inr (5, [.ref ha0n, .int b0, .int (nI n0)])), (ha0n, .inl (cy 0, 16, .inl h0)), (ha1, .inr (5, [.ref ha1n, .int b1, .int (nI n1)])), (ha1n, .inl (cy 0, 16, .inl h1)), (ha2, .inr (5, [.ref ha2n, .int b2, .int (nI n2)])), (ha2n, .inl (cy 0, 16, .inl h2)), (ha3, .inr (5, [.ref ha3n, .int b3, .int (nI n3)])), (ha3n, .inl (cy 0, 16, .inl h3))] H := hP9
                        replace hD : va_D A [(ta, .inr (7, [.ref a_flow, .ref a_draft, .ref a_fence, .ref a_past, .ref a_slots, .ref a_slotKinds, .ref ha, .ref a_speedX, .ref a_speedY, .ref a_leftward, .ref a_change, .ref a_table, .int fi])), (ha, .inl (cy 4, 4, .inr (.inr (.inr (.inr (yk_refs [ha0, ha1, ha2, ha3])))))), (ha0, .inr (5, [.ref ha0n, .int b0, .int (nI n0)])), (ha0n, .inl (cy 0, 16, .inl h0)), (ha1, .inr (5, [.ref ha1n, .int b1, .int (nI n1)])), (ha1n, .inl (cy 0, 16, .inl h1)), (ha2, .inr (5, [.ref ha2n, .int b2, .int (nI n2)])), (ha2n, .inl (cy 0, 16, .inl h2)), (ha3, .inr (5, [.ref ha3n, .int b3, .int (nI n3)])), (ha3n, .inl (cy 0, 16, .inl h3))] := hD9
                        replace hS := hS9
                        clear hP9 hD9 hS9
                        refine lv_if_ne (tgt := 111) hx hb dX7_copy_101 (by decide) (fun hc127 => ?_) (fun hc127 => ?_)
                        · replace hF := hF.trans (if_neg hc127)
                          have hq8 := hr_ok (n := n3) (x := pf) (y := pn) (by omega) (by assumption)
                          have hq9 := hr_ok (n := n1) (x := po) (y := pn) (by omega) (by assumption)
                          have hq128 : pf = nI pf.toNatClampNeg := hq8.1.1
                          have hq128b : pf.toNatClampNeg < 17 := hq8.1.2
                          rw [hq128] at hl
                          have hq129 : po = nI po.toNatClampNeg := hq9.1.1
                          have hq129b : po.toNatClampNeg < 17 := hq9.1.2
                          rw [hq129] at hl
                          have hq130 : pn = nI pn.toNatClampNeg := hq8.2.1.1
                          have hq130b : pn.toNatClampNeg < 17 := hq8.2.1.2
                          rw [hq130] at hl
                          refine lv_aload hx hb dX7_copy_111 (lv_at hl 1 rfl) ?_
                          refine va_get (D := D) (ci := 5) (v := .ref ha3n) (C := RX5) (T := TX5) (N := 3) hx hb hts uX7_copy_X5 hown hK hP 8 rfl rfl 0 (by decide) (hts _ kX7_copy_4) (fun _ h9 => h9) rfl dX7_copy_113 ?_
                          refine lv_iload_n hx hb dX7_copy_116 rfl (lv_at hl 4 rfl) ?_
                          refine lv_aload hx hb dX7_copy_117 (lv_at hl 0 rfl) ?_
                          refine va_get (D := D) (ci := 5) (v := .ref ha1n) (C := RX5) (T := TX5) (N := 3) hx hb hts uX7_copy_X5 hown hK hP 4 rfl rfl 0 (by decide) (hts _ kX7_copy_4) (fun _ h9 => h9) rfl dX7_copy_119 ?_
                          refine lv_iload hx hb dX7_copy_122 (lv_at hl 6 rfl) ?_
                          refine lv_iload hx hb dX7_copy_124 (lv_at hl 7 rfl) ?_
                          refine yk_cpy (sp := pf.toNatClampNeg) (dp := po.toNatClampNeg) (n := pn.toNatClampNeg) hx hb (hml.trans hl.1.symm) hown (hts _ kX7_copy_5) (hts _ kX7_copy_6) (hts _ kX7_copy_7) (hts _ kX7_copy_8) hK hP hD hS 9 5 rfl rfl rfl rfl (⟨by omega, by omega⟩) (by omega) (by omega) (by rw [hRf]; exact Nat.le_of_ble_eq_true rfl) (by rw [hRl]; exact Nat.le_of_ble_eq_true rfl) dX7_copy_126 (fun H locs hP9 hD9 hS9 => ?_)
                          replace hP : va_P D vwCl [(ta, .inr (7, [.ref a_flow, .ref a_draft, .ref a_fence, .ref a_past, .ref a_slots, .ref a_slotKinds, .ref ha, .ref a_speedX, .ref a_speedY, .ref a_leftward, .ref a_change, .ref a_table, .int fi])), (ha, .inl (cy 4, 4, .inr (.inr (.inr (.inr (yk_refs [ha0, ha1, ha2, ha3])))))), (ha0, .inr (5, [.ref ha0n, .int b0, .int (nI n0)])), (ha0n, .inl (cy 0, 16, .inl h0)), (ha1, .inr (5, [.ref ha1n, .int b1, .int (nI n1)])), (ha1n, .inl (cy 0, 16, .inl (va_cpy h3 h1 pf.toNatClampNeg po.toNatClampNeg pn.toNatClampNeg))), (ha2, .inr (5, [.ref ha2n, .int b2, .int (nI n2)])), (ha2n, .inl (cy 0, 16, .inl h2)), (ha3, .inr (5, [.ref ha3n, .int b3, .int (nI n3)])), (ha3n, .inl (cy 0, 16, .inl h3))] H := hP9
                          replace hD : va_D A [(ta, .inr (7, [.ref a_flow, .ref a_draft, .ref a_fence, .ref a_past, .ref a_slots, .ref a_slotKinds, .ref ha, .ref a_speedX, .ref a_speedY, .ref a_leftward, .ref a_change, .ref a_table, .int fi])), (ha, .inl (cy 4, 4, .inr (.inr (.inr (.inr (yk_refs [ha0, ha1, ha2, ha3])))))), (ha0, .inr (5, [.ref ha0n, .int b0, .int (nI n0)])), (ha0n, .inl (cy 0, 16, .inl h0)), (ha1, .inr (5, [.ref ha1n, .int b1, .int (nI n1)])), (ha1n, .inl (cy 0, 16, .inl (va_cpy h3 h1 pf.toNatClampNeg po.toNatClampNeg pn.toNatClampNeg))), (ha2, .inr (5, [.ref ha2n, .int b2, .int (nI n2)])), (ha2n, .inl (cy 0, 16, .inl h2)), (ha3, .inr (5, [.ref ha3n, .int b3, .int (nI n3)])), (ha3n, .inl (cy 0, 16, .inl h3))] := hD9
                          replace hS := hS9
                          clear hP9 hD9 hS9
                          refine lv_iload hx hb dX7_copy_129 (lv_at hl 7 rfl) ?_
                          have hF : f_X7_copy h0 b0 n0 h1 b1 n1 h2 b2 n2 h3 b3 n3 fi px pf py po pn = ((nI pn.toNatClampNeg), fi, h0, (va_cpy h3 h1 pf.toNatClampNeg po.toNatClampNeg pn.toNatClampNeg), h2, h3) := hF
                          have hf0 := yk_fst hF
                          have hg0 := yk_snd hF
                          have hf1 := yk_fst hg0
                          have hg1 := yk_snd hg0
                          have hf2 := yk_fst hg1
                          have hg2 := yk_snd hg1
                          have hf3 := yk_fst hg2
                          have hg3 := yk_snd hg2
                          have hf4 := yk_fst hg3
                          have hg4 := yk_snd hg3
                          rw [hf0, hf1, hf2, hf3, hf4, hg4] at hQ
                          exact hQ _ _ _ _ dX7_copy_131 hP hS
                        · replace hF := hF.trans (if_pos hc127)
                          refine lv_aload_n hx hb dX7_copy_104 rfl (lv_at hl 2 rfl) ?_
                          refine lv_ldc (v := (-1000001)) hx hb hown (hts _ kX7_copy_0) dX7_copy_105 ?_
                          refine yk_i [0] (va_runV (As := [.int (-1000001)]) (rest := []) ⟨hx, hb, hml, hown, hts⟩ (c_X7_finding l D cy ta a_flow a_draft a_fence a_past a_slots a_slotKinds ha a_speedX a_speedY a_leftward a_change a_table fi (-1000001) H.size) (cwV 1 hts gX7_copy_X7_finding rfl rfl rfl hv_X7_finding (yk_room hRf hRl rfl rfl)) (yk_pv (q := (RX7, TX7, 13)) hG hA hS hK hP hD [0] (by decide +kernel) rfl rfl rfl) rfl rfl hl.1 rfl (lv_room (Nat.le_of_ble_eq_true rfl)) dX7_copy_107 ⟨Nat.zero_le _, Nat.zero_le _⟩) hP hD hS hA rfl (Eq.trans (b := [ta]) rfl rfl) (fun H locs hP9 hD9 hS9 => ?_)
                          replace hP : va_P D vwCl [(ta, .inr (7, [.ref a_flow, .ref a_draft, .ref a_fence, .ref a_past, .ref a_slots, .ref a_slotKinds, .ref ha, .ref a_speedX, .ref a_speedY, .ref a_leftward, .ref a_change, .ref a_table, .int ((f_X7_finding fi (-1000001)).2)])), (ha, .inl (cy 4, 4, .inr (.inr (.inr (.inr (yk_refs [ha0, ha1, ha2, ha3])))))), (ha0, .inr (5, [.ref ha0n, .int b0, .int (nI n0)])), (ha0n, .inl (cy 0, 16, .inl h0)), (ha1, .inr (5, [.ref ha1n, .int b1, .int (nI n1)])), (ha1n, .inl (cy 0, 16, .inl h1)), (ha2, .inr (5, [.ref ha2n, .int b2, .int (nI n2)])), (ha2n, .inl (cy 0, 16, .inl h2)), (ha3, .inr (5, [.ref ha3n, .int b3, .int (nI n3)])), (ha3n, .inl (cy 0, 16, .inl h3))] H := hP9
                          replace hD : va_D A [(ta, .inr (7, [.ref a_flow, .ref a_draft, .ref a_fence, .ref a_past, .ref a_slots, .ref a_slotKinds, .ref ha, .ref a_speedX, .ref a_speedY, .ref a_leftward, .ref a_change, .ref a_table, .int ((f_X7_finding fi (-1000001)).2)])), (ha, .inl (cy 4, 4, .inr (.inr (.inr (.inr (yk_refs [ha0, ha1, ha2, ha3])))))), (ha0, .inr (5, [.ref ha0n, .int b0, .int (nI n0)])), (ha0n, .inl (cy 0, 16, .inl h0)), (ha1, .inr (5, [.ref ha1n, .int b1, .int (nI n1)])), (ha1n, .inl (cy 0, 16, .inl h1)), (ha2, .inr (5, [.ref ha2n, .int b2, .int (nI n2)])), (ha2n, .inl (cy 0, 16, .inl h2)), (ha3, .inr (5, [.ref ha3n, .int b3, .int (nI n3)])), (ha3n, .inl (cy 0, 16, .inl h3))] := hD9
                          replace hS := hS9
                          clear hP9 hD9 hS9
                          have hF : f_X7_copy h0 b0 n0 h1 b1 n1 h2 b2 n2 h3 b3 n3 fi px pf py po pn = (((f_X7_finding fi (-1000001)).1), ((f_X7_finding fi (-1000001)).2), h0, h1, h2, h3) := hF
                          have hf0 := yk_fst hF
                          have hg0 := yk_snd hF
                          have hf1 := yk_fst hg0
                          have hg1 := yk_snd hg0
                          have hf2 := yk_fst hg1
                          have hg2 := yk_snd hg1
                          have hf3 := yk_fst hg2
                          have hg3 := yk_snd hg2
                          have hf4 := yk_fst hg3
                          have hg4 := yk_snd hg3
                          rw [hf0, hf1, hf2, hf3, hf4, hg4] at hQ
                          exact hQ _ _ _ _ dX7_copy_110 hP hS
                    · replace hF := hF.trans (if_neg hc125)
                      refine lv_aload_n hx hb dX7_copy_74 rfl (lv_at hl 2 rfl) ?_
                      refine lv_ldc (v := (-1000004)) hx hb hown (hts _ kX7_copy_9) dX7_copy_75 ?_
                      refine yk_i [0] (va_runV (As := [.int (-1000004)]) (rest := []) ⟨hx, hb, hml, hown, hts⟩ (c_X7_finding l D cy ta a_flow a_draft a_fence a_past a_slots a_slotKinds ha a_speedX a_speedY a_leftward a_change a_table fi (-1000004) H.size) (cwV 1 hts gX7_copy_X7_finding rfl rfl rfl hv_X7_finding (yk_room hRf hRl rfl rfl)) (yk_pv (q := (RX7, TX7, 13)) hG hA hS hK hP hD [0] (by decide +kernel) rfl rfl rfl) rfl rfl hl.1 rfl (lv_room (Nat.le_of_ble_eq_true rfl)) dX7_copy_77 ⟨Nat.zero_le _, Nat.zero_le _⟩) hP hD hS hA rfl (Eq.trans (b := [ta]) rfl rfl) (fun H locs hP9 hD9 hS9 => ?_)
                      replace hP : va_P D vwCl [(ta, .inr (7, [.ref a_flow, .ref a_draft, .ref a_fence, .ref a_past, .ref a_slots, .ref a_slotKinds, .ref ha, .ref a_speedX, .ref a_speedY, .ref a_leftward, .ref a_change, .ref a_table, .int ((f_X7_finding fi (-1000004)).2)])), (ha, .inl (cy 4, 4, .inr (.inr (.inr (.inr (yk_refs [ha0, ha1, ha2, ha3])))))), (ha0, .inr (5, [.ref ha0n, .int b0, .int (nI n0)])), (ha0n, .inl (cy 0, 16, .inl h0)), (ha1, .inr (5, [.ref ha1n, .int b1, .int (nI n1)])), (ha1n, .inl (cy 0, 16, .inl h1)), (ha2, .inr (5, [.ref ha2n, .int b2, .int (nI n2)])), (ha2n, .inl (cy 0, 16, .inl h2)), (ha3, .inr (5, [.ref ha3n, .int b3, .int (nI n3)])), (ha3n, .inl (cy 0, 16, .inl h3))] H := hP9
                      replace hD : va_D A [(ta, .inr (7, [.ref a_flow, .ref a_draft, .ref a_fence, .ref a_past, .ref a_slots, .ref a_slotKinds, .ref ha, .ref a_speedX, .ref a_speedY, .ref a_leftward, .ref a_change, .ref a_table, .int ((f_X7_finding fi (-1000004)).2)])), (ha, .inl (cy 4, 4, .inr (.inr (.inr (.inr (yk_refs [ha0, ha1, ha2, ha3])))))), (ha0, .inr (5, [.ref ha0n, .int b0, .int (nI n0)])), (ha0n, .inl (cy 0, 16, .inl h0)), (ha1, .inr (5, [.ref ha1n, .int b1, .int (nI n1)])), (ha1n, .inl (cy 0, 16, .inl h1)), (ha2, .inr (5, [.ref ha2n, .int b2, .int (nI n2)])), (ha2n, .inl (cy 0, 16, .inl h2)), (ha3, .inr (5, [.ref ha3n, .int b3, .int (nI n3)])), (ha3n, .inl (cy 0, 16, .inl h3))] := hD9
                      replace hS := hS9
                      clear hP9 hD9 hS9
                      have hF : f_X7_copy h0 b0 n0 h1 b1 n1 h2 b2 n2 h3 b3 n3 fi px pf py po pn = (((f_X7_finding fi (-1000004)).1), ((f_X7_finding fi (-1000004)).2), h0, h1, h2, h3) := hF
                      have hf0 := yk_fst hF
                      have hg0 := yk_snd hF
                      have hf1 := yk_fst hg0
                      have hg1 := yk_snd hg0
                      have hf2 := yk_fst hg1
                      have hg2 := yk_snd hg1
                      have hf3 := yk_fst hg2
                      have hg3 := yk_snd hg2
                      have hf4 := yk_fst hg3
                      have hg4 := yk_snd hg3
                      rw [hf0, hf1, hf2, hf3, hf4, hg4] at hQ
                      exact hQ _ _ _ _ dX7_copy_80 hP hS
                  · replace hF := hF.trans (if_neg hc124)
                    refine lv_aload_n hx hb dX7_copy_53 rfl (lv_at hl 2 rfl) ?_
                    refine lv_ldcw (v := (-1000002)) hx hb hown (hts _ kX7_copy_2) dX7_copy_54 ?_
                    refine yk_i [0] (va_runV (As := [.int (-1000002)]) (rest := []) ⟨hx, hb, hml, hown, hts⟩ (c_X7_finding l D cy ta a_flow a_draft a_fence a_past a_slots a_slotKinds ha a_speedX a_speedY a_leftward a_change a_table fi (-1000002) H.size) (cwV 1 hts gX7_copy_X7_finding rfl rfl rfl hv_X7_finding (yk_room hRf hRl rfl rfl)) (yk_pv (q := (RX7, TX7, 13)) hG hA hS hK hP hD [0] (by decide +kernel) rfl rfl rfl) rfl rfl hl.1 rfl (lv_room (Nat.le_of_ble_eq_true rfl)) dX7_copy_57 ⟨Nat.zero_le _, Nat.zero_le _⟩) hP hD hS hA rfl (Eq.trans (b := [ta]) rfl rfl) (fun H locs hP9 hD9 hS9 => ?_)
                    replace hP : va_P D vwCl [(ta, .inr (7, [.ref a_flow, .ref a_draft, .ref a_fence, .ref a_past, .ref a_slots, .ref a_slotKinds, .ref ha, .ref a_speedX, .ref a_speedY, .ref a_leftward, .ref a_change, .ref a_table, .int ((f_X7_finding fi (-1000002)).2)])), (ha, .inl (cy 4, 4, .inr (.inr (.inr (.inr (yk_refs [ha0, ha1, ha2, ha3])))))), (ha0, .inr (5, [.ref ha0n, .int b0, .int (nI n0)])), (ha0n, .inl (cy 0, 16, .inl h0)), (ha1, .inr (5, [.ref ha1n, .int b1, .int (nI n1)])), (ha1n, .inl (cy 0, 16, .inl h1)), (ha2, .inr (5, [.ref ha2n, .int b2, .int (nI n2)])), (ha2n, .inl (cy 0, 16, .inl h2)), (ha3, .inr (5, [.ref ha3n, .int b3, .int (nI n3)])), (ha3n, .inl (cy 0, 16, .inl h3))] H := hP9
                    replace hD : va_D A [(ta, .inr (7, [.ref a_flow, .ref a_draft, .ref a_fence, .ref a_past, .ref a_slots, .ref a_slotKinds, .ref ha, .ref a_speedX, .ref a_speedY, .ref a_leftward, .ref a_change, .ref a_table, .int ((f_X7_finding fi (-1000002)).2)])), (ha, .inl (cy 4, 4, .inr (.inr (.inr (.inr (yk_refs [ha0, ha1, ha2, ha3])))))), (ha0, .inr (5, [.ref ha0n, .int b0, .int (nI n0)])), (ha0n, .inl (cy 0, 16, .inl h0)), (ha1, .inr (5, [.ref ha1n, .int b1, .int (nI n1)])), (ha1n, .inl (cy 0, 16, .inl h1)), (ha2, .inr (5, [.ref ha2n, .int b2, .int (nI n2)])), (ha2n, .inl (cy 0, 16, .inl h2)), (ha3, .inr (5, [.ref ha3n, .int b3, .int (nI n3)])), (ha3n, .inl (cy 0, 16, .inl h3))] := hD9
                    replace hS := hS9
                    clear hP9 hD9 hS9
                    have hF : f_X7_copy h0 b0 n0 h1 b1 n1 h2 b2 n2 h3 b3 n3 fi px pf py po pn = (((f_X7_finding fi (-1000002)).1), ((f_X7_finding fi (-1000002)).2), h0, h1, h2, h3) := hF
                    have hf0 := yk_fst hF
                    have hg0 := yk_snd hF
                    have hf1 := yk_fst hg0
                    have hg1 := yk_snd hg0
                    have hf2 := yk_fst hg1
                    have hg2 := yk_snd hg1
                    have hf3 := yk_fst hg2
                    have hg3 := yk_snd hg2
                    have hf4 := yk_fst hg3
                    have hg4 := yk_snd hg3
                    rw [hf0, hf1, hf2, hf3, hf4, hg4] at hQ
                    exact hQ _ _ _ _ dX7_copy_60 hP hS
              · replace hF := hF.trans (if_neg hc122)
                by_cases hc131 : py.toNatClampNeg = 2
                · replace hF := hF.trans (if_pos hc131)
                  refine yk_ti (y := nI 2) (congrArg nI hc131) ?_
                  refine yk_aldq hx hb hK hP 1 4 rfl rfl 2 (by decide) (by decide) rfl dX7_copy_34 ?_
                  refine lv_astore (lv' := [(7, .ref ha2), (6, .ref ha3), (0, .ref ta), (1, .int (nI px.toNatClampNeg)), (2, .int pf), (3, .int (nI py.toNatClampNeg)), (4, .int po), (5, .int pn)]) hx hb dX7_copy_35 hl (by decide) rfl (fun ls hl9 => ?_)
                  replace hl := hl9
                  clear hl9
                  refine lv_aload hx hb dX7_copy_37 (lv_at hl 1 rfl) ?_
                  refine yk_i [8, 9] (va_runV (As := []) (rest := []) ⟨hx, hb, hml, hown, hts⟩ (c_X5_isMissing l D cy ha3 ha3n h3 b3 n3 H.size) (cwV 0 hts gX7_copy_X5_isMissing rfl rfl rfl hv_X5_isMissing (yk_room hRf hRl rfl rfl)) (yk_pv (q := (RX5, TX5, 3)) hG hA hS hK hP hD [8, 9] (by decide +kernel) rfl rfl rfl) rfl rfl hl.1 rfl (lv_room (Nat.le_of_ble_eq_true rfl)) dX7_copy_39 ⟨Nat.zero_le _, Nat.zero_le _⟩) hP hD hS hA rfl (Eq.trans (b := [ha3, ha3n]) rfl rfl) (fun H locs hP9 hD9 hS9 => ?_)
                  replace hP : va_P D vwCl [(ta, .inr (7, [.ref a_flow, .ref a_draft, .ref a_fence, .ref a_past, .ref a_slots, .ref a_slotKinds, .ref ha, .ref a_speedX, .ref a_speedY, .ref a_leftward, .ref a_change, .ref a_table, .int fi])), (ha, .inl (cy 4, 4, .inr (.inr (.inr (.inr (yk_refs [ha0, ha1, ha2, ha3])))))), (ha0, .inr (5, [.ref ha0n, .int b0, .int (nI n0)])), (ha0n, .inl (cy 0, 16, .inl h0)), (ha1, .inr (5, [.ref ha1n, .int b1, .int (nI n1)])), (ha1n, .inl (cy 0, 16, .inl h1)), (ha2, .inr (5, [.ref ha2n, .int b2, .int (nI n2)])), (ha2n, .inl (cy 0, 16, .inl h2)), (ha3, .inr (5, [.ref ha3n, .int b3, .int (nI n3)])), (ha3n, .inl (cy 0, 16, .inl h3))] H := hP9
                  replace hD : va_D A [(ta, .inr (7, [.ref a_flow, .ref a_draft, .ref a_fence, .ref a_past, .ref a_slots, .ref a_slotKinds, .ref ha, .ref a_speedX, .ref a_speedY, .ref a_leftward, .ref a_change, .ref a_table, .int fi])), (ha, .inl (cy 4, 4, .inr (.inr (.inr (.inr (yk_refs [ha0, ha1, ha2, ha3])))))), (ha0, .inr (5, [.ref ha0n, .int b0, .int (nI n0)])), (ha0n, .inl (cy 0, 16, .inl h0)), (ha1, .inr (5, [.ref ha1n, .int b1, .int (nI n1)])), (ha1n, .inl (cy 0, 16, .inl h1)), (ha2, .inr (5, [.ref ha2n, .int b2, .int (nI n2)])), (ha2n, .inl (cy 0, 16, .inl h2)), (ha3, .inr (5, [.ref ha3n, .int b3, .int (nI n3)])), (ha3n, .inl (cy 0, 16, .inl h3))] := hD9
                  replace hS := hS9
                  clear hP9 hD9 hS9
                  refine lv_if_ne (tgt := 53) hx hb dX7_copy_42 (by decide) (fun hc132 => ?_) (fun hc132 => ?_)
                  · replace hF := hF.trans (if_neg hc132)
                    refine lv_aload_n hx hb dX7_copy_53 rfl (lv_at hl 2 rfl) ?_
                    refine lv_ldcw (v := (-1000002)) hx hb hown (hts _ kX7_copy_2) dX7_copy_54 ?_
                    refine yk_i [0] (va_runV (As := [.int (-1000002)]) (rest := []) ⟨hx, hb, hml, hown, hts⟩ (c_X7_finding l D cy ta a_flow a_draft a_fence a_past a_slots a_slotKinds ha a_speedX a_speedY a_leftward a_change a_table fi (-1000002) H.size) (cwV 1 hts gX7_copy_X7_finding rfl rfl rfl hv_X7_finding (yk_room hRf hRl rfl rfl)) (yk_pv (q := (RX7, TX7, 13)) hG hA hS hK hP hD [0] (by decide +kernel) rfl rfl rfl) rfl rfl hl.1 rfl (lv_room (Nat.le_of_ble_eq_true rfl)) dX7_copy_57 ⟨Nat.zero_le _, Nat.zero_le _⟩) hP hD hS hA rfl (Eq.trans (b := [ta]) rfl rfl) (fun H locs hP9 hD9 hS9 => ?_)
                    replace hP : va_P D vwCl [(ta, .inr (7, [.ref a_flow, .ref a_draft, .ref a_fence, .ref a_past, .ref a_slots, .ref a_slotKinds, .ref ha, .ref a_speedX, .ref a_speedY, .ref a_leftward, .ref a_change, .ref a_table, .int ((f_X7_finding fi (-1000002)).2)])), (ha, .inl (cy 4, 4, .inr (.inr (.inr (.inr (yk_refs [ha0, ha1, ha2, ha3])))))), (ha0, .inr (5, [.ref ha0n, .int b0, .int (nI n0)])), (ha0n, .inl (cy 0, 16, .inl h0)), (ha1, .inr (5, [.ref ha1n, .int b1, .int (nI n1)])), (ha1n, .inl (cy 0, 16, .inl h1)), (ha2, .inr (5, [.ref ha2n, .int b2, .int (nI n2)])), (ha2n, .inl (cy 0, 16, .inl h2)), (ha3, .inr (5, [.ref ha3n, .int b3, .int (nI n3)])), (ha3n, .inl (cy 0, 16, .inl h3))] H := hP9
                    replace hD : va_D A [(ta, .inr (7, [.ref a_flow, .ref a_draft, .ref a_fence, .ref a_past, .ref a_slots, .ref a_slotKinds, .ref ha, .ref a_speedX, .ref a_speedY, .ref a_leftward, .ref a_change, .ref a_table, .int ((f_X7_finding fi (-1000002)).2)])), (ha, .inl (cy 4, 4, .inr (.inr (.inr (.inr (yk_refs [ha0, ha1, ha2, ha3])))))), (ha0, .inr (5, [.ref ha0n, .int b0, .int (nI n0)])), (ha0n, .inl (cy 0, 16, .inl h0)), (ha1, .inr (5, [.ref ha1n, .int b1, .int (nI n1)])), (ha1n, .inl (cy 0, 16, .inl h1)), (ha2, .inr (5, [.ref ha2n, .int b2, .int (nI n2)])), (ha2n, .inl (cy 0, 16, .inl h2)), (ha3, .inr (5, [.ref ha3n, .int b3, .int (nI n3)])), (ha3n, .inl (cy 0, 16, .inl h3))] := hD9
                    replace hS := hS9
                    clear hP9 hD9 hS9
                    have hF : f_X7_copy h0 b0 n0 h1 b1 n1 h2 b2 n2 h3 b3 n3 fi px pf py po pn = (((f_X7_finding fi (-1000002)).1), ((f_X7_finding fi (-1000002)).2), h0, h1, h2, h3) := hF
                    have hf0 := yk_fst hF
                    have hg0 := yk_snd hF
                    have hf1 := yk_fst hg0
                    have hg1 := yk_snd hg0
                    have hf2 := yk_fst hg1
                    have hg2 := yk_snd hg1
                    have hf3 := yk_fst hg2
                    have hg3 := yk_snd hg2
                    have hf4 := yk_fst hg3
                    have hg4 := yk_snd hg3
                    rw [hf0, hf1, hf2, hf3, hf4, hg4] at hQ
                    exact hQ _ _ _ _ dX7_copy_60 hP hS
                  · replace hF := hF.trans (if_pos hc132)
                    refine lv_aload hx hb dX7_copy_45 (lv_at hl 0 rfl) ?_
                    refine yk_i [6, 7] (va_runV (As := []) (rest := []) ⟨hx, hb, hml, hown, hts⟩ (c_X5_isMissing l D cy ha2 ha2n h2 b2 n2 H.size) (cwV 0 hts gX7_copy_X5_isMissing rfl rfl rfl hv_X5_isMissing (yk_room hRf hRl rfl rfl)) (yk_pv (q := (RX5, TX5, 3)) hG hA hS hK hP hD [6, 7] (by decide +kernel) rfl rfl rfl) rfl rfl hl.1 rfl (lv_room (Nat.le_of_ble_eq_true rfl)) dX7_copy_47 ⟨Nat.zero_le _, Nat.zero_le _⟩) hP hD hS hA rfl (Eq.trans (b := [ha2, ha2n]) rfl rfl) (fun H locs hP9 hD9 hS9 => ?_)
                    replace hP : va_P D vwCl [(ta, .inr (7, [.ref a_flow, .ref a_draft, .ref a_fence, .ref a_past, .ref a_slots, .ref a_slotKinds, .ref ha, .ref a_speedX, .ref a_speedY, .ref a_leftward, .ref a_change, .ref a_table, .int fi])), (ha, .inl (cy 4, 4, .inr (.inr (.inr (.inr (yk_refs [ha0, ha1, ha2, ha3])))))), (ha0, .inr (5, [.ref ha0n, .int b0, .int (nI n0)])), (ha0n, .inl (cy 0, 16, .inl h0)), (ha1, .inr (5, [.ref ha1n, .int b1, .int (nI n1)])), (ha1n, .inl (cy 0, 16, .inl h1)), (ha2, .inr (5, [.ref ha2n, .int b2, .int (nI n2)])), (ha2n, .inl (cy 0, 16, .inl h2)), (ha3, .inr (5, [.ref ha3n, .int b3, .int (nI n3)])), (ha3n, .inl (cy 0, 16, .inl h3))] H := hP9
                    replace hD : va_D A [(ta, .inr (7, [.ref a_flow, .ref a_draft, .ref a_fence, .ref a_past, .ref a_slots, .ref a_slotKinds, .ref ha, .ref a_speedX, .ref a_speedY, .ref a_leftward, .ref a_change, .ref a_table, .int fi])), (ha, .inl (cy 4, 4, .inr (.inr (.inr (.inr (yk_refs [ha0, ha1, ha2, ha3])))))), (ha0, .inr (5, [.ref ha0n, .int b0, .int (nI n0)])), (ha0n, .inl (cy 0, 16, .inl h0)), (ha1, .inr (5, [.ref ha1n, .int b1, .int (nI n1)])), (ha1n, .inl (cy 0, 16, .inl h1)), (ha2, .inr (5, [.ref ha2n, .int b2, .int (nI n2)])), (ha2n, .inl (cy 0, 16, .inl h2)), (ha3, .inr (5, [.ref ha3n, .int b3, .int (nI n3)])), (ha3n, .inl (cy 0, 16, .inl h3))] := hD9
                    replace hS := hS9
                    clear hP9 hD9 hS9
                    refine lv_if_eq (tgt := 61) hx hb dX7_copy_50 (by decide) (fun hc133 => ?_) (fun hc133 => ?_)
                    · replace hF := hF.trans (if_pos hc133)
                      refine lv_aload hx hb dX7_copy_61 (lv_at hl 1 rfl) ?_
                      refine va_get (D := D) (ci := 5) (v := .int b3) (C := RX5) (T := TX5) (N := 3) hx hb hts uX7_copy_X5 hown hK hP 8 rfl rfl 1 (by decide) (hts _ kX7_copy_3) (fun _ h9 => h9) rfl dX7_copy_63 ?_
                      refine lv_aload hx hb dX7_copy_66 (lv_at hl 0 rfl) ?_
                      refine va_get (D := D) (ci := 5) (v := .int b2) (C := RX5) (T := TX5) (N := 3) hx hb hts uX7_copy_X5 hown hK hP 6 rfl rfl 1 (by decide) (hts _ kX7_copy_3) (fun _ h9 => h9) rfl dX7_copy_68 ?_
                      refine lv_icmp_eq (tgt := 81) hx hb dX7_copy_71 (by decide) (fun hc134 => ?_) (fun hc134 => ?_)
                      · replace hF := hF.trans (if_pos hc134)
                        refine lv_aload hx hb dX7_copy_81 (lv_at hl 1 rfl) ?_
                        refine lv_iload_n hx hb dX7_copy_83 rfl (lv_at hl 4 rfl) ?_
                        refine lv_iload hx hb dX7_copy_84 (lv_at hl 7 rfl) ?_
                        refine yk_i [8, 9] (va_runV (As := [.int pf, .int pn]) (rest := []) ⟨hx, hb, hml, hown, hts⟩ (c_X5_hasRange l D cy ha3 ha3n h3 b3 n3 pf pn hn3 H.size) (cwV 2 hts gX7_copy_X5_hasRange rfl rfl rfl hv_X5_hasRange (yk_room hRf hRl rfl rfl)) (yk_pv (q := (RX5, TX5, 3)) hG hA hS hK hP hD [8, 9] (by decide +kernel) rfl rfl rfl) rfl rfl hl.1 rfl (lv_room (Nat.le_of_ble_eq_true rfl)) dX7_copy_86 ⟨Nat.zero_le _, Nat.zero_le _⟩) hP hD hS hA rfl (Eq.trans (b := [ha3, ha3n]) rfl rfl) (fun H locs hP9 hD9 hS9 => ?_)
                        replace hP : va_P D vwCl [(ta, .inr (7, [.ref a_flow, .ref a_draft, .ref a_fence, .ref a_past, .ref a_slots, .ref a_slotKinds, .ref ha, .ref a_speedX, .ref a_speedY, .ref a_leftward, .ref a_change, .ref a_table, .int fi])), (ha, .inl (cy 4, 4, .inr (.inr (.inr (.inr (yk_refs [ha0, ha1, ha2, ha3])))))), (ha0, .inr (5, [.ref ha0n, .int b0, .int (nI n0)])), (ha0n, .inl (cy 0, 16, .inl h0)), (ha1, .inr (5, [.ref ha1n, .int b1, .int (nI n1)])), (ha1n, .inl (cy 0, 16, .inl h1)), (ha2, .inr (5, [.ref ha2n, .int b2, .int (nI n2)])), (ha2n, .inl (cy 0, 16, .inl h2)), (ha3, .inr (5, [.ref ha3n, .int b3, .int (nI n3)])), (ha3n, .inl (cy 0, 16, .inl h3))] H := hP9
                        replace hD : va_D A [(ta, .inr (7, [.ref a_flow, .ref a_draft, .ref a_fence, .ref a_past, .ref a_slots, .ref a_slotKinds, .ref ha, .ref a_speedX, .ref a_speedY, .ref a_leftward, .ref a_change, .ref a_table, .int fi])), (ha, .inl (cy 4, 4, .inr (.inr (.inr (.inr (yk_refs [ha0, ha1, ha2, ha3])))))), (ha0, .inr (5, [.ref ha0n, .int b0, .int (nI n0)])), (ha0n, .inl (cy 0, 16, .inl h0)), (ha1, .inr (5, [.ref ha1n, .int b1, .int (nI n1)])), (ha1n, .inl (cy 0, 16, .inl h1)), (ha2, .inr (5, [.ref ha2n, .int b2, .int (nI n2)])), (ha2n, .inl (cy 0, 16, .inl h2)), (ha3, .inr (5, [.ref ha3n, .int b3, .int (nI n3)])), (ha3n, .inl (cy 0, 16, .inl h3))] := hD9
                        replace hS := hS9
                        clear hP9 hD9 hS9
                        refine lv_if_eq (tgt := 104) hx hb dX7_copy_89 (by decide) (fun hc135 => ?_) (fun hc135 => ?_)
                        · replace hF := hF.trans (if_pos hc135)
                          refine lv_aload_n hx hb dX7_copy_104 rfl (lv_at hl 2 rfl) ?_
                          refine lv_ldc (v := (-1000001)) hx hb hown (hts _ kX7_copy_0) dX7_copy_105 ?_
                          refine yk_i [0] (va_runV (As := [.int (-1000001)]) (rest := []) ⟨hx, hb, hml, hown, hts⟩ (c_X7_finding l D cy ta a_flow a_draft a_fence a_past a_slots a_slotKinds ha a_speedX a_speedY a_leftward a_change a_table fi (-1000001) H.size) (cwV 1 hts gX7_copy_X7_finding rfl rfl rfl hv_X7_finding (yk_room hRf hRl rfl rfl)) (yk_pv (q := (RX7, TX7, 13)) hG hA hS hK hP hD [0] (by decide +kernel) rfl rfl rfl) rfl rfl hl.1 rfl (lv_room (Nat.le_of_ble_eq_true rfl)) dX7_copy_107 ⟨Nat.zero_le _, Nat.zero_le _⟩) hP hD hS hA rfl (Eq.trans (b := [ta]) rfl rfl) (fun H locs hP9 hD9 hS9 => ?_)
                          replace hP : va_P D vwCl [(ta, .inr (7, [.ref a_flow, .ref a_draft, .ref a_fence, .ref a_past, .ref a_slots, .ref a_slotKinds, .ref ha, .ref a_speedX, .ref a_speedY, .ref a_leftward, .ref a_change, .ref a_table, .int ((f_X7_finding fi (-1000001)).2)])), (ha, .inl (cy 4, 4, .inr (.inr (.inr (.inr (yk_refs [ha0, ha1, ha2, ha3])))))), (ha0, .inr (5, [.ref ha0n, .int b0, .int (nI n0)])), (ha0n, .inl (cy 0, 16, .inl h0)), (ha1, .inr (5, [.ref ha1n, .int b1, .int (nI n1)])), (ha1n, .inl (cy 0, 16, .inl h1)), (ha2, .inr (5, [.ref ha2n, .int b2, .int (nI n2)])), (ha2n, .inl (cy 0, 16, .inl h2)), (ha3, .inr (5, [.ref ha3n, .int b3, .int (nI n3)])), (ha3n, .inl (cy 0, 16, .inl h3))] H := hP9
                          replace hD : va_D A [(ta, .inr (7, [.ref a_flow, .ref a_draft, .ref a_fence, .ref a_past, .ref a_slots, .ref a_slotKinds, .ref ha, .ref a_speedX, .ref a_speedY, .ref a_leftward, .ref a_change, .ref a_table, .int ((f_X7_finding fi (-1000001)).2)])), (ha, .inl (cy 4, 4, .inr (.inr (.inr (.inr (yk_refs [ha0, ha1, ha2, ha3])))))), (ha0, .inr (5, [.ref ha0n, .int b0, .int (nI n0)])), (ha0n, .inl (cy 0, 16, .inl h0)), (ha1, .inr (5, [.ref ha1n, .int b1, .int (nI n1)])), (ha1n, .inl (cy 0, 16, .inl h1)), (ha2, .inr (5, [.ref ha2n, .int b2, .int (nI n2)])), (ha2n, .inl (cy 0, 16, .inl h2)), (ha3, .inr (5, [.ref ha3n, .int b3, .int (nI n3)])), (ha3n, .inl (cy 0, 16, .inl h3))] := hD9
                          replace hS := hS9
                          clear hP9 hD9 hS9
                          have hF : f_X7_copy h0 b0 n0 h1 b1 n1 h2 b2 n2 h3 b3 n3 fi px pf py po pn = (((f_X7_finding fi (-1000001)).1), ((f_X7_finding fi (-1000001)).2), h0, h1, h2, h3) := hF
                          have hf0 := yk_fst hF
                          have hg0 := yk_snd hF
                          have hf1 := yk_fst hg0
                          have hg1 := yk_snd hg0
                          have hf2 := yk_fst hg1
                          have hg2 := yk_snd hg1
                          have hf3 := yk_fst hg2
                          have hg3 := yk_snd hg2
                          have hf4 := yk_fst hg3
                          have hg4 := yk_snd hg3
                          rw [hf0, hf1, hf2, hf3, hf4, hg4] at hQ
                          exact hQ _ _ _ _ dX7_copy_110 hP hS
                        · replace hF := hF.trans (if_neg hc135)
                          refine lv_aload hx hb dX7_copy_92 (lv_at hl 0 rfl) ?_
                          refine lv_iload hx hb dX7_copy_94 (lv_at hl 6 rfl) ?_
                          refine lv_iload hx hb dX7_copy_96 (lv_at hl 7 rfl) ?_
                          refine yk_i [6, 7] (va_runV (As := [.int po, .int pn]) (rest := []) ⟨hx, hb, hml, hown, hts⟩ (c_X5_hasRange l D cy ha2 ha2n h2 b2 n2 po pn hn2 H.size) (cwV 2 hts gX7_copy_X5_hasRange rfl rfl rfl hv_X5_hasRange (yk_room hRf hRl rfl rfl)) (yk_pv (q := (RX5, TX5, 3)) hG hA hS hK hP hD [6, 7] (by decide +kernel) rfl rfl rfl) rfl rfl hl.1 rfl (lv_room (Nat.le_of_ble_eq_true rfl)) dX7_copy_98 ⟨Nat.zero_le _, Nat.zero_le _⟩) hP hD hS hA rfl (Eq.trans (b := [ha2, ha2n]) rfl rfl) (fun H locs hP9 hD9 hS9 => ?_)
                          replace hP : va_P D vwCl [(ta, .inr (7, [.ref a_flow, .ref a_draft, .ref a_fence, .ref a_past, .ref a_slots, .ref a_slotKinds, .ref ha, .ref a_speedX, .ref a_speedY, .ref a_leftward, .ref a_change, .ref a_table, .int fi])), (ha, .inl (cy 4, 4, .inr (.inr (.inr (.inr (yk_refs [ha0, ha1, ha2, ha3])))))), (ha0, .inr (5, [.ref ha0n, .int b0, .int (nI n0)])), (ha0n, .inl (cy 0, 16, .inl h0)), (ha1, .inr (5, [.ref ha1n, .int b1, .int (nI n1)])), (ha1n, .inl (cy 0, 16, .inl h1)), (ha2, .inr (5, [.ref ha2n, .int b2, .int (nI n2)])), (ha2n, .inl (cy 0, 16, .inl h2)), (ha3, .inr (5, [.ref ha3n, .int b3, .int (nI n3)])), (ha3n, .inl (cy 0, 16, .inl h3))] H := hP9
                          replace hD : va_D A [(ta, .inr (7, [.ref a_flow, .ref a_draft, .ref a_fence, .ref a_past, .ref a_slots, .ref a_slotKinds, .ref ha, .ref a_speedX, .ref a_speedY, .ref a_leftward, .ref a_change, .ref a_table, .int fi])), (ha, .inl (cy 4, 4, .inr (.inr (.inr (.inr (yk_refs [ha0, ha1, ha2, ha3])))))), (ha0, .inr (5, [.ref ha0n, .int b0, .int (nI n0)])), (ha0n, .inl (cy 0, 16, .inl h0)), (ha1, .inr (5, [.ref ha1n, .int b1, .int (nI n1)])), (ha1n, .inl (cy 0, 16, .inl h1)), (ha2, .inr (5, [.ref ha2n, .int b2, .int (nI n2)])), (ha2n, .inl (cy 0, 16, .inl h2)), (ha3, .inr (5, [.ref ha3n, .int b3, .int (nI n3)])), (ha3n, .inl (cy 0, 16, .inl h3))] := hD9
                          replace hS := hS9
                          clear hP9 hD9 hS9
                          refine lv_if_ne (tgt := 111) hx hb dX7_copy_101 (by decide) (fun hc136 => ?_) (fun hc136 => ?_)
                          · replace hF := hF.trans (if_neg hc136)
                            have hq8 := hr_ok (n := n3) (x := pf) (y := pn) (by omega) (by assumption)
                            have hq9 := hr_ok (n := n2) (x := po) (y := pn) (by omega) (by assumption)
                            have hq137 : pf = nI pf.toNatClampNeg := hq8.1.1
                            have hq137b : pf.toNatClampNeg < 17 := hq8.1.2
                            rw [hq137] at hl
                            have hq138 : po = nI po.toNatClampNeg := hq9.1.1
                            have hq138b : po.toNatClampNeg < 17 := hq9.1.2
                            rw [hq138] at hl
                            have hq139 : pn = nI pn.toNatClampNeg := hq8.2.1.1
                            have hq139b : pn.toNatClampNeg < 17 := hq8.2.1.2
                            rw [hq139] at hl
                            refine lv_aload hx hb dX7_copy_111 (lv_at hl 1 rfl) ?_
                            refine va_get (D := D) (ci := 5) (v := .ref ha3n) (C := RX5) (T := TX5) (N := 3) hx hb hts uX7_copy_X5 hown hK hP 8 rfl rfl 0 (by decide) (hts _ kX7_copy_4) (fun _ h9 => h9) rfl dX7_copy_113 ?_
                            refine lv_iload_n hx hb dX7_copy_116 rfl (lv_at hl 4 rfl) ?_
                            refine lv_aload hx hb dX7_copy_117 (lv_at hl 0 rfl) ?_
                            refine va_get (D := D) (ci := 5) (v := .ref ha2n) (C := RX5) (T := TX5) (N := 3) hx hb hts uX7_copy_X5 hown hK hP 6 rfl rfl 0 (by decide) (hts _ kX7_copy_4) (fun _ h9 => h9) rfl dX7_copy_119 ?_
                            refine lv_iload hx hb dX7_copy_122 (lv_at hl 6 rfl) ?_
                            refine lv_iload hx hb dX7_copy_124 (lv_at hl 7 rfl) ?_
                            refine yk_cpy (sp := pf.toNatClampNeg) (dp := po.toNatClampNeg) (n := pn.toNatClampNeg) hx hb (hml.trans hl.1.symm) hown (hts _ kX7_copy_5) (hts _ kX7_copy_6) (hts _ kX7_copy_7) (hts _ kX7_copy_8) hK hP hD hS 9 7 rfl rfl rfl rfl (⟨by omega, by omega⟩) (by omega) (by omega) (by rw [hRf]; exact Nat.le_of_ble_eq_true rfl) (by rw [hRl]; exact Nat.le_of_ble_eq_true rfl) dX7_copy_126 (fun H locs hP9 hD9 hS9 => ?_)
                            replace hP : va_P D vwCl [(ta, .inr (7, [.ref a_flow, .ref a_draft, .ref a_fence, .ref a_past, .ref a_slots, .ref a_slotKinds, .ref ha, .ref a_speedX, .ref a_speedY, .ref a_leftward, .ref a_change, .ref a_table, .int fi])), (ha, .inl (cy 4, 4, .inr (.inr (.inr (.inr (yk_refs [ha0, ha1, ha2, ha3])))))), (ha0, .inr (5, [.ref ha0n, .int b0, .int (nI n0)])), (ha0n, .inl (cy 0, 16, .inl h0)), (ha1, .inr (5, [.ref ha1n, .int b1, .int (nI n1)])), (ha1n, .inl (cy 0, 16, .inl h1)), (ha2, .inr (5, [.ref ha2n, .int b2, .int (nI n2)])), (ha2n, .inl (cy 0, 16, .inl (va_cpy h3 h2 pf.toNatClampNeg po.toNatClampNeg pn.toNatClampNeg))), (ha3, .inr (5, [.ref ha3n, .int b3, .int (nI n3)])), (ha3n, .inl (cy 0, 16, .inl h3))] H := hP9
                            replace hD : va_D A [(ta, .inr (7, [.ref a_flow, .ref a_draft, .ref a_fence, .ref a_past, .ref a_slots, .ref a_slotKinds, .ref ha, .ref a_speedX, .ref a_speedY, .ref a_leftward, .ref a_change, .ref a_table, .int fi])), (ha, .inl (cy 4, 4, .inr (.inr (.inr (.inr (yk_refs [ha0, ha1, ha2, ha3])))))), (ha0, .inr (5, [.ref ha0n, .int b0, .int (nI n0)])), (ha0n, .inl (cy 0, 16, .inl h0)), (ha1, .inr (5, [.ref ha1n, .int b1, .int (nI n1)])), (ha1n, .inl (cy 0, 16, .inl h1)), (ha2, .inr (5, [.ref ha2n, .int b2, .int (nI n2)])), (ha2n, .inl (cy 0, 16, .inl (va_cpy h3 h2 pf.toNatClampNeg po.toNatClampNeg pn.toNatClampNeg))), (ha3, .inr (5, [.ref ha3n, .int b3, .int (nI n3)])), (ha3n, .inl (cy 0, 16, .inl h3))] := hD9
                            replace hS := hS9
                            clear hP9 hD9 hS9
                            refine lv_iload hx hb dX7_copy_129 (lv_at hl 7 rfl) ?_
                            have hF : f_X7_copy h0 b0 n0 h1 b1 n1 h2 b2 n2 h3 b3 n3 fi px pf py po pn = ((nI pn.toNatClampNeg), fi, h0, h1, (va_cpy h3 h2 pf.toNatClampNeg po.toNatClampNeg pn.toNatClampNeg), h3) := hF
                            have hf0 := yk_fst hF
                            have hg0 := yk_snd hF
                            have hf1 := yk_fst hg0
                            have hg1 := yk_snd hg0
                            have hf2 := yk_fst hg1
                            have hg2 := yk_snd hg1
                            have hf3 := yk_fst hg2
                            have hg3 := yk_snd hg2
                            have hf4 := yk_fst hg3
                            have hg4 := yk_snd hg3
                            rw [hf0, hf1, hf2, hf3, hf4, hg4] at hQ
                            exact hQ _ _ _ _ dX7_copy_131 hP hS
                          · replace hF := hF.trans (if_pos hc136)
                            refine lv_aload_n hx hb dX7_copy_104 rfl (lv_at hl 2 rfl) ?_
                            refine lv_ldc (v := (-1000001)) hx hb hown (hts _ kX7_copy_0) dX7_copy_105 ?_
                            refine yk_i [0] (va_runV (As := [.int (-1000001)]) (rest := []) ⟨hx, hb, hml, hown, hts⟩ (c_X7_finding l D cy ta a_flow a_draft a_fence a_past a_slots a_slotKinds ha a_speedX a_speedY a_leftward a_change a_table fi (-1000001) H.size) (cwV 1 hts gX7_copy_X7_finding rfl rfl rfl hv_X7_finding (yk_room hRf hRl rfl rfl)) (yk_pv (q := (RX7, TX7, 13)) hG hA hS hK hP hD [0] (by decide +kernel) rfl rfl rfl) rfl rfl hl.1 rfl (lv_room (Nat.le_of_ble_eq_true rfl)) dX7_copy_107 ⟨Nat.zero_le _, Nat.zero_le _⟩) hP hD hS hA rfl (Eq.trans (b := [ta]) rfl rfl) (fun H locs hP9 hD9 hS9 => ?_)
                            replace hP : va_P D vwCl [(ta, .inr (7, [.ref a_flow, .ref a_draft, .ref a_fence, .ref a_past, .ref a_slots, .ref a_slotKinds, .ref ha, .ref a_speedX, .ref a_speedY, .ref a_leftward, .ref a_change, .ref a_table, .int ((f_X7_finding fi (-1000001)).2)])), (ha, .inl (cy 4, 4, .inr (.inr (.inr (.inr (yk_refs [ha0, ha1, ha2, ha3])))))), (ha0, .inr (5, [.ref ha0n, .int b0, .int (nI n0)])), (ha0n, .inl (cy 0, 16, .inl h0)), (ha1, .inr (5, [.ref ha1n, .int b1, .int (nI n1)])), (ha1n, .inl (cy 0, 16, .inl h1)), (ha2, .inr (5, [.ref ha2n, .int b2, .int (nI n2)])), (ha2n, .inl (cy 0, 16, .inl h2)), (ha3, .inr (5, [.ref ha3n, .int b3, .int (nI n3)])), (ha3n, .inl (cy 0, 16, .inl h3))] H := hP9
                            replace hD : va_D A [(ta, .inr (7, [.ref a_flow, .ref a_draft, .ref a_fence, .ref a_past, .ref a_slots, .ref a_slotKinds, .ref ha, .ref a_speedX, .ref a_speedY, .ref a_leftward, .ref a_change, .ref a_table, .int ((f_X7_finding fi (-1000001)).2)])), (ha, .inl (cy 4, 4, .inr (.inr (.inr (.inr (yk_refs [ha0, ha1, ha2, ha3])))))), (ha0, .inr (5, [.ref ha0n, .int b0, .int (nI n0)])), (ha0n, .inl (cy 0, 16, .inl h0)), (ha1, .inr (5, [.ref ha1n, .int b1, .int (nI n1)])), (ha1n, .inl (cy 0, 16, .inl h1)), (ha2, .inr (5, [.ref ha2n, .int b2, .int (nI n2)])), (ha2n, .inl (cy 0, 16, .inl h2)), (ha3, .inr (5, [.ref ha3n, .int b3, .int (nI n3)])), (ha3n, .inl (cy 0, 16, .inl h3))] := hD9
                            replace hS := hS9
                            clear hP9 hD9 hS9
                            have hF : f_X7_copy h0 b0 n0 h1 b1 n1 h2 b2 n2 h3 b3 n3 fi px pf py po pn = (((f_X7_finding fi (-1000001)).1), ((f_X7_finding fi (-1000001)).2), h0, h1, h2, h3) := hF
                            have hf0 := yk_fst hF
                            have hg0 := yk_snd hF
                            have hf1 := yk_fst hg0
                            have hg1 := yk_snd hg0
                            have hf2 := yk_fst hg1
                            have hg2 := yk_snd hg1
                            have hf3 := yk_fst hg2
                            have hg3 := yk_snd hg2
                            have hf4 := yk_fst hg3
                            have hg4 := yk_snd hg3
                            rw [hf0, hf1, hf2, hf3, hf4, hg4] at hQ
                            exact hQ _ _ _ _ dX7_copy_110 hP hS
                      · replace hF := hF.trans (if_neg hc134)
                        refine lv_aload_n hx hb dX7_copy_74 rfl (lv_at hl 2 rfl) ?_
                        refine lv_ldc (v := (-1000004)) hx hb hown (hts _ kX7_copy_9) dX7_copy_75 ?_
                        refine yk_i [0] (va_runV (As := [.int (-1000004)]) (rest := []) ⟨hx, hb, hml, hown, hts⟩ (c_X7_finding l D cy ta a_flow a_draft a_fence a_past a_slots a_slotKinds ha a_speedX a_speedY a_leftward a_change a_table fi (-1000004) H.size) (cwV 1 hts gX7_copy_X7_finding rfl rfl rfl hv_X7_finding (yk_room hRf hRl rfl rfl)) (yk_pv (q := (RX7, TX7, 13)) hG hA hS hK hP hD [0] (by decide +kernel) rfl rfl rfl) rfl rfl hl.1 rfl (lv_room (Nat.le_of_ble_eq_true rfl)) dX7_copy_77 ⟨Nat.zero_le _, Nat.zero_le _⟩) hP hD hS hA rfl (Eq.trans (b := [ta]) rfl rfl) (fun H locs hP9 hD9 hS9 => ?_)
                        replace hP : va_P D vwCl [(ta, .inr (7, [.ref a_flow, .ref a_draft, .ref a_fence, .ref a_past, .ref a_slots, .ref a_slotKinds, .ref ha, .ref a_speedX, .ref a_speedY, .ref a_leftward, .ref a_change, .ref a_table, .int ((f_X7_finding fi (-1000004)).2)])), (ha, .inl (cy 4, 4, .inr (.inr (.inr (.inr (yk_refs [ha0, ha1, ha2, ha3])))))), (ha0, .inr (5, [.ref ha0n, .int b0, .int (nI n0)])), (ha0n, .inl (cy 0, 16, .inl h0)), (ha1, .inr (5, [.ref ha1n, .int b1, .int (nI n1)])), (ha1n, .inl (cy 0, 16, .inl h1)), (ha2, .inr (5, [.ref ha2n, .int b2, .int (nI n2)])), (ha2n, .inl (cy 0, 16, .inl h2)), (ha3, .inr (5, [.ref ha3n, .int b3, .int (nI n3)])), (ha3n, .inl (cy 0, 16, .inl h3))] H := hP9
                        replace hD : va_D A [(ta, .inr (7, [.ref a_flow, .ref a_draft, .ref a_fence, .ref a_past, .ref a_slots, .ref a_slotKinds, .ref ha, .ref a_speedX, .ref a_speedY, .ref a_leftward, .ref a_change, .ref a_table, .int ((f_X7_finding fi (-1000004)).2)])), (ha, .inl (cy 4, 4, .inr (.inr (.inr (.inr (yk_refs [ha0, ha1, ha2, ha3])))))), (ha0, .inr (5, [.ref ha0n, .int b0, .int (nI n0)])), (ha0n, .inl (cy 0, 16, .inl h0)), (ha1, .inr (5, [.ref ha1n, .int b1, .int (nI n1)])), (ha1n, .inl (cy 0, 16, .inl h1)), (ha2, .inr (5, [.ref ha2n, .int b2, .int (nI n2)])), (ha2n, .inl (cy 0, 16, .inl h2)), (ha3, .inr (5, [.ref ha3n, .int b3, .int (nI n3)])), (ha3n, .inl (cy 0, 16, .inl h3))] := hD9
                        replace hS := hS9
                        clear hP9 hD9 hS9
                        have hF : f_X7_copy h0 b0 n0 h1 b1 n1 h2 b2 n2 h3 b3 n3 fi px pf py po pn = (((f_X7_finding fi (-1000004)).1), ((f_X7_finding fi (-1000004)).2), h0, h1, h2, h3) := hF
                        have hf0 := yk_fst hF
                        have hg0 := yk_snd hF
                        have hf1 := yk_fst hg0
                        have hg1 := yk_snd hg0
                        have hf2 := yk_fst hg1
                        have hg2 := yk_snd hg1
                        have hf3 := yk_fst hg2
                        have hg3 := yk_snd hg2
                        have hf4 := yk_fst hg3
                        have hg4 := yk_snd hg3
                        rw [hf0, hf1, hf2, hf3, hf4, hg4] at hQ
                        exact hQ _ _ _ _ dX7_copy_80 hP hS
                    · replace hF := hF.trans (if_neg hc133)
                      refine lv_aload_n hx hb dX7_copy_53 rfl (lv_at hl 2 rfl) ?_
                      refine lv_ldcw (v := (-1000002)) hx hb hown (hts _ kX7_copy_2) dX7_copy_54 ?_
                      refine yk_i [0] (va_runV (As := [.int (-1000002)]) (rest := []) ⟨hx, hb, hml, hown, hts⟩ (c_X7_finding l D cy ta a_flow a_draft a_fence a_past a_slots a_slotKinds ha a_speedX a_speedY a_leftward a_change a_table fi (-1000002) H.size) (cwV 1 hts gX7_copy_X7_finding rfl rfl rfl hv_X7_finding (yk_room hRf hRl rfl rfl)) (yk_pv (q := (RX7, TX7, 13)) hG hA hS hK hP hD [0] (by decide +kernel) rfl rfl rfl) rfl rfl hl.1 rfl (lv_room (Nat.le_of_ble_eq_true rfl)) dX7_copy_57 ⟨Nat.zero_le _, Nat.zero_le _⟩) hP hD hS hA rfl (Eq.trans (b := [ta]) rfl rfl) (fun H locs hP9 hD9 hS9 => ?_)
                      replace hP : va_P D vwCl [(ta, .inr (7, [.ref a_flow, .ref a_draft, .ref a_fence, .ref a_past, .ref a_slots, .ref a_slotKinds, .ref ha, .ref a_speedX, .ref a_speedY, .ref a_leftward, .ref a_change, .ref a_table, .int ((f_X7_finding fi (-1000002)).2)])), (ha, .inl (cy 4, 4, .inr (.inr (.inr (.inr (yk_refs [ha0, ha1, ha2, ha3])))))), (ha0, .inr (5, [.ref ha0n, .int b0, .int (nI n0)])), (ha0n, .inl (cy 0, 16, .inl h0)), (ha1, .inr (5, [.ref ha1n, .int b1, .int (nI n1)])), (ha1n, .inl (cy 0, 16, .inl h1)), (ha2, .inr (5, [.ref ha2n, .int b2, .int (nI n2)])), (ha2n, .inl (cy 0, 16, .inl h2)), (ha3, .inr (5, [.ref ha3n, .int b3, .int (nI n3)])), (ha3n, .inl (cy 0, 16, .inl h3))] H := hP9
                      replace hD : va_D A [(ta, .inr (7, [.ref a_flow, .ref a_draft, .ref a_fence, .ref a_past, .ref a_slots, .ref a_slotKinds, .ref ha, .ref a_speedX, .ref a_speedY, .ref a_leftward, .ref a_change, .ref a_table, .int ((f_X7_finding fi (-1000002)).2)])), (ha, .inl (cy 4, 4, .inr (.inr (.inr (.inr (yk_refs [ha0, ha1, ha2, ha3])))))), (ha0, .inr (5, [.ref ha0n, .int b0, .int (nI n0)])), (ha0n, .inl (cy 0, 16, .inl h0)), (ha1, .inr (5, [.ref ha1n, .int b1, .int (nI n1)])), (ha1n, .inl (cy 0, 16, .inl h1)), (ha2, .inr (5, [.ref ha2n, .int b2, .int (nI n2)])), (ha2n, .inl (cy 0, 16, .inl h2)), (ha3, .inr (5, [.ref ha3n, .int b3, .int (nI n3)])), (ha3n, .inl (cy 0, 16, .inl h3))] := hD9
                      replace hS := hS9
                      clear hP9 hD9 hS9
                      have hF : f_X7_copy h0 b0 n0 h1 b1 n1 h2 b2 n2 h3 b3 n3 fi px pf py po pn = (((f_X7_finding fi (-1000002)).1), ((f_X7_finding fi (-1000002)).2), h0, h1, h2, h3) := hF
                      have hf0 := yk_fst hF
                      have hg0 := yk_snd hF
                      have hf1 := yk_fst hg0
                      have hg1 := yk_snd hg0
                      have hf2 := yk_fst hg1
                      have hg2 := yk_snd hg1
                      have hf3 := yk_fst hg2
                      have hg3 := yk_snd hg2
                      have hf4 := yk_fst hg3
                      have hg4 := yk_snd hg3
                      rw [hf0, hf1, hf2, hf3, hf4, hg4] at hQ
                      exact hQ _ _ _ _ dX7_copy_60 hP hS
                · replace hF := hF.trans (if_neg hc131)
                  have hz34 : py.toNatClampNeg = 3 := by omega
                  refine yk_ti (y := nI 3) (congrArg nI hz34) ?_
                  refine yk_aldq hx hb hK hP 1 4 rfl rfl 3 (by decide) (by decide) rfl dX7_copy_34 ?_
                  refine lv_astore (lv' := [(7, .ref ha3), (6, .ref ha3), (0, .ref ta), (1, .int (nI px.toNatClampNeg)), (2, .int pf), (3, .int (nI py.toNatClampNeg)), (4, .int po), (5, .int pn)]) hx hb dX7_copy_35 hl (by decide) rfl (fun ls hl9 => ?_)
                  replace hl := hl9
                  clear hl9
                  refine lv_aload hx hb dX7_copy_37 (lv_at hl 1 rfl) ?_
                  refine yk_i [8, 9] (va_runV (As := []) (rest := []) ⟨hx, hb, hml, hown, hts⟩ (c_X5_isMissing l D cy ha3 ha3n h3 b3 n3 H.size) (cwV 0 hts gX7_copy_X5_isMissing rfl rfl rfl hv_X5_isMissing (yk_room hRf hRl rfl rfl)) (yk_pv (q := (RX5, TX5, 3)) hG hA hS hK hP hD [8, 9] (by decide +kernel) rfl rfl rfl) rfl rfl hl.1 rfl (lv_room (Nat.le_of_ble_eq_true rfl)) dX7_copy_39 ⟨Nat.zero_le _, Nat.zero_le _⟩) hP hD hS hA rfl (Eq.trans (b := [ha3, ha3n]) rfl rfl) (fun H locs hP9 hD9 hS9 => ?_)
                  replace hP : va_P D vwCl [(ta, .inr (7, [.ref a_flow, .ref a_draft, .ref a_fence, .ref a_past, .ref a_slots, .ref a_slotKinds, .ref ha, .ref a_speedX, .ref a_speedY, .ref a_leftward, .ref a_change, .ref a_table, .int fi])), (ha, .inl (cy 4, 4, .inr (.inr (.inr (.inr (yk_refs [ha0, ha1, ha2, ha3])))))), (ha0, .inr (5, [.ref ha0n, .int b0, .int (nI n0)])), (ha0n, .inl (cy 0, 16, .inl h0)), (ha1, .inr (5, [.ref ha1n, .int b1, .int (nI n1)])), (ha1n, .inl (cy 0, 16, .inl h1)), (ha2, .inr (5, [.ref ha2n, .int b2, .int (nI n2)])), (ha2n, .inl (cy 0, 16, .inl h2)), (ha3, .inr (5, [.ref ha3n, .int b3, .int (nI n3)])), (ha3n, .inl (cy 0, 16, .inl h3))] H := hP9
                  replace hD : va_D A [(ta, .inr (7, [.ref a_flow, .ref a_draft, .ref a_fence, .ref a_past, .ref a_slots, .ref a_slotKinds, .ref ha, .ref a_speedX, .ref a_speedY, .ref a_leftward, .ref a_change, .ref a_table, .int fi])), (ha, .inl (cy 4, 4, .inr (.inr (.inr (.inr (yk_refs [ha0, ha1, ha2, ha3])))))), (ha0, .inr (5, [.ref ha0n, .int b0, .int (nI n0)])), (ha0n, .inl (cy 0, 16, .inl h0)), (ha1, .inr (5, [.ref ha1n, .int b1, .int (nI n1)])), (ha1n, .inl (cy 0, 16, .inl h1)), (ha2, .inr (5, [.ref ha2n, .int b2, .int (nI n2)])), (ha2n, .inl (cy 0, 16, .inl h2)), (ha3, .inr (5, [.ref ha3n, .int b3, .int (nI n3)])), (ha3n, .inl (cy 0, 16, .inl h3))] := hD9
                  replace hS := hS9
                  clear hP9 hD9 hS9
                  refine lv_if_ne (tgt := 53) hx hb dX7_copy_42 (by decide) (fun hc140 => ?_) (fun hc140 => ?_)
                  · replace hF := hF.trans (if_neg hc140)
                    refine lv_aload_n hx hb dX7_copy_53 rfl (lv_at hl 2 rfl) ?_
                    refine lv_ldcw (v := (-1000002)) hx hb hown (hts _ kX7_copy_2) dX7_copy_54 ?_
                    refine yk_i [0] (va_runV (As := [.int (-1000002)]) (rest := []) ⟨hx, hb, hml, hown, hts⟩ (c_X7_finding l D cy ta a_flow a_draft a_fence a_past a_slots a_slotKinds ha a_speedX a_speedY a_leftward a_change a_table fi (-1000002) H.size) (cwV 1 hts gX7_copy_X7_finding rfl rfl rfl hv_X7_finding (yk_room hRf hRl rfl rfl)) (yk_pv (q := (RX7, TX7, 13)) hG hA hS hK hP hD [0] (by decide +kernel) rfl rfl rfl) rfl rfl hl.1 rfl (lv_room (Nat.le_of_ble_eq_true rfl)) dX7_copy_57 ⟨Nat.zero_le _, Nat.zero_le _⟩) hP hD hS hA rfl (Eq.trans (b := [ta]) rfl rfl) (fun H locs hP9 hD9 hS9 => ?_)
                    replace hP : va_P D vwCl [(ta, .inr (7, [.ref a_flow, .ref a_draft, .ref a_fence, .ref a_past, .ref a_slots, .ref a_slotKinds, .ref ha, .ref a_speedX, .ref a_speedY, .ref a_leftward, .ref a_change, .ref a_table, .int ((f_X7_finding fi (-1000002)).2)])), (ha, .inl (cy 4, 4, .inr (.inr (.inr (.inr (yk_refs [ha0, ha1, ha2, ha3])))))), (ha0, .inr (5, [.ref ha0n, .int b0, .int (nI n0)])), (ha0n, .inl (cy 0, 16, .inl h0)), (ha1, .inr (5, [.ref ha1n, .int b1, .int (nI n1)])), (ha1n, .inl (cy 0, 16, .inl h1)), (ha2, .inr (5, [.ref ha2n, .int b2, .int (nI n2)])), (ha2n, .inl (cy 0, 16, .inl h2)), (ha3, .inr (5, [.ref ha3n, .int b3, .int (nI n3)])), (ha3n, .inl (cy 0, 16, .inl h3))] H := hP9
                    replace hD : va_D A [(ta, .inr (7, [.ref a_flow, .ref a_draft, .ref a_fence, .ref a_past, .ref a_slots, .ref a_slotKinds, .ref ha, .ref a_speedX, .ref a_speedY, .ref a_leftward, .ref a_change, .ref a_table, .int ((f_X7_finding fi (-1000002)).2)])), (ha, .inl (cy 4, 4, .inr (.inr (.inr (.inr (yk_refs [ha0, ha1, ha2, ha3])))))), (ha0, .inr (5, [.ref ha0n, .int b0, .int (nI n0)])), (ha0n, .inl (cy 0, 16, .inl h0)), (ha1, .inr (5, [.ref ha1n, .int b1, .int (nI n1)])), (ha1n, .inl (cy 0, 16, .inl h1)), (ha2, .inr (5, [.ref ha2n, .int b2, .int (nI n2)])), (ha2n, .inl (cy 0, 16, .inl h2)), (ha3, .inr (5, [.ref ha3n, .int b3, .int (nI n3)])), (ha3n, .inl (cy 0, 16, .inl h3))] := hD9
                    replace hS := hS9
                    clear hP9 hD9 hS9
                    have hF : f_X7_copy h0 b0 n0 h1 b1 n1 h2 b2 n2 h3 b3 n3 fi px pf py po pn = (((f_X7_finding fi (-1000002)).1), ((f_X7_finding fi (-1000002)).2), h0, h1, h2, h3) := hF
                    have hf0 := yk_fst hF
                    have hg0 := yk_snd hF
                    have hf1 := yk_fst hg0
                    have hg1 := yk_snd hg0
                    have hf2 := yk_fst hg1
                    have hg2 := yk_snd hg1
                    have hf3 := yk_fst hg2
                    have hg3 := yk_snd hg2
                    have hf4 := yk_fst hg3
                    have hg4 := yk_snd hg3
                    rw [hf0, hf1, hf2, hf3, hf4, hg4] at hQ
                    exact hQ _ _ _ _ dX7_copy_60 hP hS
                  · replace hF := hF.trans (if_pos hc140)
                    refine lv_aload hx hb dX7_copy_45 (lv_at hl 0 rfl) ?_
                    refine yk_i [8, 9] (va_runV (As := []) (rest := []) ⟨hx, hb, hml, hown, hts⟩ (c_X5_isMissing l D cy ha3 ha3n h3 b3 n3 H.size) (cwV 0 hts gX7_copy_X5_isMissing rfl rfl rfl hv_X5_isMissing (yk_room hRf hRl rfl rfl)) (yk_pv (q := (RX5, TX5, 3)) hG hA hS hK hP hD [8, 9] (by decide +kernel) rfl rfl rfl) rfl rfl hl.1 rfl (lv_room (Nat.le_of_ble_eq_true rfl)) dX7_copy_47 ⟨Nat.zero_le _, Nat.zero_le _⟩) hP hD hS hA rfl (Eq.trans (b := [ha3, ha3n]) rfl rfl) (fun H locs hP9 hD9 hS9 => ?_)
                    replace hP : va_P D vwCl [(ta, .inr (7, [.ref a_flow, .ref a_draft, .ref a_fence, .ref a_past, .ref a_slots, .ref a_slotKinds, .ref ha, .ref a_speedX, .ref a_speedY, .ref a_leftward, .ref a_change, .ref a_table, .int fi])), (ha, .inl (cy 4, 4, .inr (.inr (.inr (.inr (yk_refs [ha0, ha1, ha2, ha3])))))), (ha0, .inr (5, [.ref ha0n, .int b0, .int (nI n0)])), (ha0n, .inl (cy 0, 16, .inl h0)), (ha1, .inr (5, [.ref ha1n, .int b1, .int (nI n1)])), (ha1n, .inl (cy 0, 16, .inl h1)), (ha2, .inr (5, [.ref ha2n, .int b2, .int (nI n2)])), (ha2n, .inl (cy 0, 16, .inl h2)), (ha3, .inr (5, [.ref ha3n, .int b3, .int (nI n3)])), (ha3n, .inl (cy 0, 16, .inl h3))] H := hP9
                    replace hD : va_D A [(ta, .inr (7, [.ref a_flow, .ref a_draft, .ref a_fence, .ref a_past, .ref a_slots, .ref a_slotKinds, .ref ha, .ref a_speedX, .ref a_speedY, .ref a_leftward, .ref a_change, .ref a_table, .int fi])), (ha, .inl (cy 4, 4, .inr (.inr (.inr (.inr (yk_refs [ha0, ha1, ha2, ha3])))))), (ha0, .inr (5, [.ref ha0n, .int b0, .int (nI n0)])), (ha0n, .inl (cy 0, 16, .inl h0)), (ha1, .inr (5, [.ref ha1n, .int b1, .int (nI n1)])), (ha1n, .inl (cy 0, 16, .inl h1)), (ha2, .inr (5, [.ref ha2n, .int b2, .int (nI n2)])), (ha2n, .inl (cy 0, 16, .inl h2)), (ha3, .inr (5, [.ref ha3n, .int b3, .int (nI n3)])), (ha3n, .inl (cy 0, 16, .inl h3))] := hD9
                    replace hS := hS9
                    clear hP9 hD9 hS9
                    refine lv_if_eq (tgt := 61) hx hb dX7_copy_50 (by decide) (fun hc141 => ?_) (fun hc141 => ?_)
                    · replace hF := hF.trans (if_pos hc141)
                      refine lv_aload hx hb dX7_copy_61 (lv_at hl 1 rfl) ?_
                      refine va_get (D := D) (ci := 5) (v := .int b3) (C := RX5) (T := TX5) (N := 3) hx hb hts uX7_copy_X5 hown hK hP 8 rfl rfl 1 (by decide) (hts _ kX7_copy_3) (fun _ h9 => h9) rfl dX7_copy_63 ?_
                      refine lv_aload hx hb dX7_copy_66 (lv_at hl 0 rfl) ?_
                      refine va_get (D := D) (ci := 5) (v := .int b3) (C := RX5) (T := TX5) (N := 3) hx hb hts uX7_copy_X5 hown hK hP 8 rfl rfl 1 (by decide) (hts _ kX7_copy_3) (fun _ h9 => h9) rfl dX7_copy_68 ?_
                      refine lv_icmp_eq (tgt := 81) hx hb dX7_copy_71 (by decide) (fun hc142 => ?_) (fun hc142 => ?_)
                      · replace hF := hF.trans (if_pos hc142)
                        refine lv_aload hx hb dX7_copy_81 (lv_at hl 1 rfl) ?_
                        refine lv_iload_n hx hb dX7_copy_83 rfl (lv_at hl 4 rfl) ?_
                        refine lv_iload hx hb dX7_copy_84 (lv_at hl 7 rfl) ?_
                        refine yk_i [8, 9] (va_runV (As := [.int pf, .int pn]) (rest := []) ⟨hx, hb, hml, hown, hts⟩ (c_X5_hasRange l D cy ha3 ha3n h3 b3 n3 pf pn hn3 H.size) (cwV 2 hts gX7_copy_X5_hasRange rfl rfl rfl hv_X5_hasRange (yk_room hRf hRl rfl rfl)) (yk_pv (q := (RX5, TX5, 3)) hG hA hS hK hP hD [8, 9] (by decide +kernel) rfl rfl rfl) rfl rfl hl.1 rfl (lv_room (Nat.le_of_ble_eq_true rfl)) dX7_copy_86 ⟨Nat.zero_le _, Nat.zero_le _⟩) hP hD hS hA rfl (Eq.trans (b := [ha3, ha3n]) rfl rfl) (fun H locs hP9 hD9 hS9 => ?_)
                        replace hP : va_P D vwCl [(ta, .inr (7, [.ref a_flow, .ref a_draft, .ref a_fence, .ref a_past, .ref a_slots, .ref a_slotKinds, .ref ha, .ref a_speedX, .ref a_speedY, .ref a_leftward, .ref a_change, .ref a_table, .int fi])), (ha, .inl (cy 4, 4, .inr (.inr (.inr (.inr (yk_refs [ha0, ha1, ha2, ha3])))))), (ha0, .inr (5, [.ref ha0n, .int b0, .int (nI n0)])), (ha0n, .inl (cy 0, 16, .inl h0)), (ha1, .inr (5, [.ref ha1n, .int b1, .int (nI n1)])), (ha1n, .inl (cy 0, 16, .inl h1)), (ha2, .inr (5, [.ref ha2n, .int b2, .int (nI n2)])), (ha2n, .inl (cy 0, 16, .inl h2)), (ha3, .inr (5, [.ref ha3n, .int b3, .int (nI n3)])), (ha3n, .inl (cy 0, 16, .inl h3))] H := hP9
                        replace hD : va_D A [(ta, .inr (7, [.ref a_flow, .ref a_draft, .ref a_fence, .ref a_past, .ref a_slots, .ref a_slotKinds, .ref ha, .ref a_speedX, .ref a_speedY, .ref a_leftward, .ref a_change, .ref a_table, .int fi])), (ha, .inl (cy 4, 4, .inr (.inr (.inr (.inr (yk_refs [ha0, ha1, ha2, ha3])))))), (ha0, .inr (5, [.ref ha0n, .int b0, .int (nI n0)])), (ha0n, .inl (cy 0, 16, .inl h0)), (ha1, .inr (5, [.ref ha1n, .int b1, .int (nI n1)])), (ha1n, .inl (cy 0, 16, .inl h1)), (ha2, .inr (5, [.ref ha2n, .int b2, .int (nI n2)])), (ha2n, .inl (cy 0, 16, .inl h2)), (ha3, .inr (5, [.ref ha3n, .int b3, .int (nI n3)])), (ha3n, .inl (cy 0, 16, .inl h3))] := hD9
                        replace hS := hS9
                        clear hP9 hD9 hS9
                        refine lv_if_eq (tgt := 104) hx hb dX7_copy_89 (by decide) (fun hc143 => ?_) (fun hc143 => ?_)
                        · replace hF := hF.trans (if_pos hc143)
                          refine lv_aload_n hx hb dX7_copy_104 rfl (lv_at hl 2 rfl) ?_
                          refine lv_ldc (v := (-1000001)) hx hb hown (hts _ kX7_copy_0) dX7_copy_105 ?_
                          refine yk_i [0] (va_runV (As := [.int (-1000001)]) (rest := []) ⟨hx, hb, hml, hown, hts⟩ (c_X7_finding l D cy ta a_flow a_draft a_fence a_past a_slots a_slotKinds ha a_speedX a_speedY a_leftward a_change a_table fi (-1000001) H.size) (cwV 1 hts gX7_copy_X7_finding rfl rfl rfl hv_X7_finding (yk_room hRf hRl rfl rfl)) (yk_pv (q := (RX7, TX7, 13)) hG hA hS hK hP hD [0] (by decide +kernel) rfl rfl rfl) rfl rfl hl.1 rfl (lv_room (Nat.le_of_ble_eq_true rfl)) dX7_copy_107 ⟨Nat.zero_le _, Nat.zero_le _⟩) hP hD hS hA rfl (Eq.trans (b := [ta]) rfl rfl) (fun H locs hP9 hD9 hS9 => ?_)
                          replace hP : va_P D vwCl [(ta, .inr (7, [.ref a_flow, .ref a_draft, .ref a_fence, .ref a_past, .ref a_slots, .ref a_slotKinds, .ref ha, .ref a_speedX, .ref a_speedY, .ref a_leftward, .ref a_change, .ref a_table, .int ((f_X7_finding fi (-1000001)).2)])), (ha, .inl (cy 4, 4, .inr (.inr (.inr (.inr (yk_refs [ha0, ha1, ha2, ha3])))))), (ha0, .inr (5, [.ref ha0n, .int b0, .int (nI n0)])), (ha0n, .inl (cy 0, 16, .inl h0)), (ha1, .inr (5, [.ref ha1n, .int b1, .int (nI n1)])), (ha1n, .inl (cy 0, 16, .inl h1)), (ha2, .inr (5, [.ref ha2n, .int b2, .int (nI n2)])), (ha2n, .inl (cy 0, 16, .inl h2)), (ha3, .inr (5, [.ref ha3n, .int b3, .int (nI n3)])), (ha3n, .inl (cy 0, 16, .inl h3))] H := hP9
                          replace hD : va_D A [(ta, .inr (7, [.ref a_flow, .ref a_draft, .ref a_fence, .ref a_past, .ref a_slots, .ref a_slotKinds, .ref ha, .ref a_speedX, .ref a_speedY, .ref a_leftward, .ref a_change, .ref a_table, .int ((f_X7_finding fi (-1000001)).2)])), (ha, .inl (cy 4, 4, .inr (.inr (.inr (.inr (yk_refs [ha0, ha1, ha2, ha3])))))), (ha0, .inr (5, [.ref ha0n, .int b0, .int (nI n0)])), (ha0n, .inl (cy 0, 16, .inl h0)), (ha1, .inr (5, [.ref ha1n, .int b1, .int (nI n1)])), (ha1n, .inl (cy 0, 16, .inl h1)), (ha2, .inr (5, [.ref ha2n, .int b2, .int (nI n2)])), (ha2n, .inl (cy 0, 16, .inl h2)), (ha3, .inr (5, [.ref ha3n, .int b3, .int (nI n3)])), (ha3n, .inl (cy 0, 16, .inl h3))] := hD9
                          replace hS := hS9
                          clear hP9 hD9 hS9
                          have hF : f_X7_copy h0 b0 n0 h1 b1 n1 h2 b2 n2 h3 b3 n3 fi px pf py po pn = (((f_X7_finding fi (-1000001)).1), ((f_X7_finding fi (-1000001)).2), h0, h1, h2, h3) := hF
                          have hf0 := yk_fst hF
                          have hg0 := yk_snd hF
                          have hf1 := yk_fst hg0
                          have hg1 := yk_snd hg0
                          have hf2 := yk_fst hg1
                          have hg2 := yk_snd hg1
                          have hf3 := yk_fst hg2
                          have hg3 := yk_snd hg2
                          have hf4 := yk_fst hg3
                          have hg4 := yk_snd hg3
                          rw [hf0, hf1, hf2, hf3, hf4, hg4] at hQ
                          exact hQ _ _ _ _ dX7_copy_110 hP hS
                        · replace hF := hF.trans (if_neg hc143)
                          refine lv_aload hx hb dX7_copy_92 (lv_at hl 0 rfl) ?_
                          refine lv_iload hx hb dX7_copy_94 (lv_at hl 6 rfl) ?_
                          refine lv_iload hx hb dX7_copy_96 (lv_at hl 7 rfl) ?_
                          refine yk_i [8, 9] (va_runV (As := [.int po, .int pn]) (rest := []) ⟨hx, hb, hml, hown, hts⟩ (c_X5_hasRange l D cy ha3 ha3n h3 b3 n3 po pn hn3 H.size) (cwV 2 hts gX7_copy_X5_hasRange rfl rfl rfl hv_X5_hasRange (yk_room hRf hRl rfl rfl)) (yk_pv (q := (RX5, TX5, 3)) hG hA hS hK hP hD [8, 9] (by decide +kernel) rfl rfl rfl) rfl rfl hl.1 rfl (lv_room (Nat.le_of_ble_eq_true rfl)) dX7_copy_98 ⟨Nat.zero_le _, Nat.zero_le _⟩) hP hD hS hA rfl (Eq.trans (b := [ha3, ha3n]) rfl rfl) (fun H locs hP9 hD9 hS9 => ?_)
                          replace hP : va_P D vwCl [(ta, .inr (7, [.ref a_flow, .ref a_draft, .ref a_fence, .ref a_past, .ref a_slots, .ref a_slotKinds, .ref ha, .ref a_speedX, .ref a_speedY, .ref a_leftward, .ref a_change, .ref a_table, .int fi])), (ha, .inl (cy 4, 4, .inr (.inr (.inr (.inr (yk_refs [ha0, ha1, ha2, ha3])))))), (ha0, .inr (5, [.ref ha0n, .int b0, .int (nI n0)])), (ha0n, .inl (cy 0, 16, .inl h0)), (ha1, .inr (5, [.ref ha1n, .int b1, .int (nI n1)])), (ha1n, .inl (cy 0, 16, .inl h1)), (ha2, .inr (5, [.ref ha2n, .int b2, .int (nI n2)])), (ha2n, .inl (cy 0, 16, .inl h2)), (ha3, .inr (5, [.ref ha3n, .int b3, .int (nI n3)])), (ha3n, .inl (cy 0, 16, .inl h3))] H := hP9
                          replace hD : va_D A [(ta, .inr (7, [.ref a_flow, .ref a_draft, .ref a_fence, .ref a_past, .ref a_slots, .ref a_slotKinds, .ref ha, .ref a_speedX, .ref a_speedY, .ref a_leftward, .ref a_change, .ref a_table, .int fi])), (ha, .inl (cy 4, 4, .inr (.inr (.inr (.inr (yk_refs [ha0, ha1, ha2, ha3])))))), (ha0, .inr (5, [.ref ha0n, .int b0, .int (nI n0)])), (ha0n, .inl (cy 0, 16, .inl h0)), (ha1, .inr (5, [.ref ha1n, .int b1, .int (nI n1)])), (ha1n, .inl (cy 0, 16, .inl h1)), (ha2, .inr (5, [.ref ha2n, .int b2, .int (nI n2)])), (ha2n, .inl (cy 0, 16, .inl h2)), (ha3, .inr (5, [.ref ha3n, .int b3, .int (nI n3)])), (ha3n, .inl (cy 0, 16, .inl h3))] := hD9
                          replace hS := hS9
                          clear hP9 hD9 hS9
                          refine lv_if_ne (tgt := 111) hx hb dX7_copy_101 (by decide) (fun hc144 => ?_) (fun hc144 => ?_)
                          · replace hF := hF.trans (if_neg hc144)
                            have hq8 := hr_ok (n := n3) (x := pf) (y := pn) (by omega) (by assumption)
                            have hq9 := hr_ok (n := n3) (x := po) (y := pn) (by omega) (by assumption)
                            have hq145 : pf = nI pf.toNatClampNeg := hq8.1.1
                            have hq145b : pf.toNatClampNeg < 17 := hq8.1.2
                            rw [hq145] at hl
                            have hq146 : po = nI po.toNatClampNeg := hq9.1.1
                            have hq146b : po.toNatClampNeg < 17 := hq9.1.2
                            rw [hq146] at hl
                            have hq147 : pn = nI pn.toNatClampNeg := hq8.2.1.1
                            have hq147b : pn.toNatClampNeg < 17 := hq8.2.1.2
                            rw [hq147] at hl
                            refine lv_aload hx hb dX7_copy_111 (lv_at hl 1 rfl) ?_
                            refine va_get (D := D) (ci := 5) (v := .ref ha3n) (C := RX5) (T := TX5) (N := 3) hx hb hts uX7_copy_X5 hown hK hP 8 rfl rfl 0 (by decide) (hts _ kX7_copy_4) (fun _ h9 => h9) rfl dX7_copy_113 ?_
                            refine lv_iload_n hx hb dX7_copy_116 rfl (lv_at hl 4 rfl) ?_
                            refine lv_aload hx hb dX7_copy_117 (lv_at hl 0 rfl) ?_
                            refine va_get (D := D) (ci := 5) (v := .ref ha3n) (C := RX5) (T := TX5) (N := 3) hx hb hts uX7_copy_X5 hown hK hP 8 rfl rfl 0 (by decide) (hts _ kX7_copy_4) (fun _ h9 => h9) rfl dX7_copy_119 ?_
                            refine lv_iload hx hb dX7_copy_122 (lv_at hl 6 rfl) ?_
                            refine lv_iload hx hb dX7_copy_124 (lv_at hl 7 rfl) ?_
                            refine yk_cpy (sp := pf.toNatClampNeg) (dp := po.toNatClampNeg) (n := pn.toNatClampNeg) hx hb (hml.trans hl.1.symm) hown (hts _ kX7_copy_5) (hts _ kX7_copy_6) (hts _ kX7_copy_7) (hts _ kX7_copy_8) hK hP hD hS 9 9 rfl rfl rfl rfl (⟨by omega, by omega⟩) (by omega) (by omega) (by rw [hRf]; exact Nat.le_of_ble_eq_true rfl) (by rw [hRl]; exact Nat.le_of_ble_eq_true rfl) dX7_copy_126 (fun H locs hP9 hD9 hS9 => ?_)
                            replace hP : va_P D vwCl [(ta, .inr (7, [.ref a_flow, .ref a_draft, .ref a_fence, .ref a_past, .ref a_slots, .ref a_slotKinds, .ref ha, .ref a_speedX, .ref a_speedY, .ref a_leftward, .ref a_change, .ref a_table, .int fi])), (ha, .inl (cy 4, 4, .inr (.inr (.inr (.inr (yk_refs [ha0, ha1, ha2, ha3])))))), (ha0, .inr (5, [.ref ha0n, .int b0, .int (nI n0)])), (ha0n, .inl (cy 0, 16, .inl h0)), (ha1, .inr (5, [.ref ha1n, .int b1, .int (nI n1)])), (ha1n, .inl (cy 0, 16, .inl h1)), (ha2, .inr (5, [.ref ha2n, .int b2, .int (nI n2)])), (ha2n, .inl (cy 0, 16, .inl h2)), (ha3, .inr (5, [.ref ha3n, .int b3, .int (nI n3)])), (ha3n, .inl (cy 0, 16, .inl (va_cpy h3 h3 pf.toNatClampNeg po.toNatClampNeg pn.toNatClampNeg)))] H := hP9
                            replace hD : va_D A [(ta, .inr (7, [.ref a_flow, .ref a_draft, .ref a_fence, .ref a_past, .ref a_slots, .ref a_slotKinds, .ref ha, .ref a_speedX, .ref a_speedY, .ref a_leftward, .ref a_change, .ref a_table, .int fi])), (ha, .inl (cy 4, 4, .inr (.inr (.inr (.inr (yk_refs [ha0, ha1, ha2, ha3])))))), (ha0, .inr (5, [.ref ha0n, .int b0, .int (nI n0)])), (ha0n, .inl (cy 0, 16, .inl h0)), (ha1, .inr (5, [.ref ha1n, .int b1, .int (nI n1)])), (ha1n, .inl (cy 0, 16, .inl h1)), (ha2, .inr (5, [.ref ha2n, .int b2, .int (nI n2)])), (ha2n, .inl (cy 0, 16, .inl h2)), (ha3, .inr (5, [.ref ha3n, .int b3, .int (nI n3)])), (ha3n, .inl (cy 0, 16, .inl (va_cpy h3 h3 pf.toNatClampNeg po.toNatClampNeg pn.toNatClampNeg)))] := hD9
                            replace hS := hS9
                            clear hP9 hD9 hS9
                            refine lv_iload hx hb dX7_copy_129 (lv_at hl 7 rfl) ?_
                            have hF : f_X7_copy h0 b0 n0 h1 b1 n1 h2 b2 n2 h3 b3 n3 fi px pf py po pn = ((nI pn.toNatClampNeg), fi, h0, h1, h2, (va_cpy h3 h3 pf.toNatClampNeg po.toNatClampNeg pn.toNatClampNeg)) := hF
                            have hf0 := yk_fst hF
                            have hg0 := yk_snd hF
                            have hf1 := yk_fst hg0
                            have hg1 := yk_snd hg0
                            have hf2 := yk_fst hg1
                            have hg2 := yk_snd hg1
                            have hf3 := yk_fst hg2
                            have hg3 := yk_snd hg2
                            have hf4 := yk_fst hg3
                            have hg4 := yk_snd hg3
                            rw [hf0, hf1, hf2, hf3, hf4, hg4] at hQ
                            exact hQ _ _ _ _ dX7_copy_131 hP hS
                          · replace hF := hF.trans (if_pos hc144)
                            refine lv_aload_n hx hb dX7_copy_104 rfl (lv_at hl 2 rfl) ?_
                            refine lv_ldc (v := (-1000001)) hx hb hown (hts _ kX7_copy_0) dX7_copy_105 ?_
                            refine yk_i [0] (va_runV (As := [.int (-1000001)]) (rest := []) ⟨hx, hb, hml, hown, hts⟩ (c_X7_finding l D cy ta a_flow a_draft a_fence a_past a_slots a_slotKinds ha a_speedX a_speedY a_leftward a_change a_table fi (-1000001) H.size) (cwV 1 hts gX7_copy_X7_finding rfl rfl rfl hv_X7_finding (yk_room hRf hRl rfl rfl)) (yk_pv (q := (RX7, TX7, 13)) hG hA hS hK hP hD [0] (by decide +kernel) rfl rfl rfl) rfl rfl hl.1 rfl (lv_room (Nat.le_of_ble_eq_true rfl)) dX7_copy_107 ⟨Nat.zero_le _, Nat.zero_le _⟩) hP hD hS hA rfl (Eq.trans (b := [ta]) rfl rfl) (fun H locs hP9 hD9 hS9 => ?_)
                            replace hP : va_P D vwCl [(ta, .inr (7, [.ref a_flow, .ref a_draft, .ref a_fence, .ref a_past, .ref a_slots, .ref a_slotKinds, .ref ha, .ref a_speedX, .ref a_speedY, .ref a_leftward, .ref a_change, .ref a_table, .int ((f_X7_finding fi (-1000001)).2)])), (ha, .inl (cy 4, 4, .inr (.inr (.inr (.inr (yk_refs [ha0, ha1, ha2, ha3])))))), (ha0, .inr (5, [.ref ha0n, .int b0, .int (nI n0)])), (ha0n, .inl (cy 0, 16, .inl h0)), (ha1, .inr (5, [.ref ha1n, .int b1, .int (nI n1)])), (ha1n, .inl (cy 0, 16, .inl h1)), (ha2, .inr (5, [.ref ha2n, .int b2, .int (nI n2)])), (ha2n, .inl (cy 0, 16, .inl h2)), (ha3, .inr (5, [.ref ha3n, .int b3, .int (nI n3)])), (ha3n, .inl (cy 0, 16, .inl h3))] H := hP9
                            replace hD : va_D A [(ta, .inr (7, [.ref a_flow, .ref a_draft, .ref a_fence, .ref a_past, .ref a_slots, .ref a_slotKinds, .ref ha, .ref a_speedX, .ref a_speedY, .ref a_leftward, .ref a_change, .ref a_table, .int ((f_X7_finding fi (-1000001)).2)])), (ha, .inl (cy 4, 4, .inr (.inr (.inr (.inr (yk_refs [ha0, ha1, ha2, ha3])))))), (ha0, .inr (5, [.ref ha0n, .int b0, .int (nI n0)])), (ha0n, .inl (cy 0, 16, .inl h0)), (ha1, .inr (5, [.ref ha1n, .int b1, .int (nI n1)])), (ha1n, .inl (cy 0, 16, .inl h1)), (ha2, .inr (5, [.ref ha2n, .int b2, .int (nI n2)])), (ha2n, .inl (cy 0, 16, .inl h2)), (ha3, .inr (5, [.ref ha3n, .int b3, .int (nI n3)])), (ha3n, .inl (cy 0, 16, .inl h3))] := hD9
                            replace hS := hS9
                            clear hP9 hD9 hS9
                            have hF : f_X7_copy h0 b0 n0 h1 b1 n1 h2 b2 n2 h3 b3 n3 fi px pf py po pn = (((f_X7_finding fi (-1000001)).1), ((f_X7_finding fi (-1000001)).2), h0, h1, h2, h3) := hF
                            have hf0 := yk_fst hF
                            have hg0 := yk_snd hF
                            have hf1 := yk_fst hg0
                            have hg1 := yk_snd hg0
                            have hf2 := yk_fst hg1
                            have hg2 := yk_snd hg1
                            have hf3 := yk_fst hg2
                            have hg3 := yk_snd hg2
                            have hf4 := yk_fst hg3
                            have hg4 := yk_snd hg3
                            rw [hf0, hf1, hf2, hf3, hf4, hg4] at hQ
                            exact hQ _ _ _ _ dX7_copy_110 hP hS
                      · replace hF := hF.trans (if_neg hc142)
                        refine lv_aload_n hx hb dX7_copy_74 rfl (lv_at hl 2 rfl) ?_
                        refine lv_ldc (v := (-1000004)) hx hb hown (hts _ kX7_copy_9) dX7_copy_75 ?_
                        refine yk_i [0] (va_runV (As := [.int (-1000004)]) (rest := []) ⟨hx, hb, hml, hown, hts⟩ (c_X7_finding l D cy ta a_flow a_draft a_fence a_past a_slots a_slotKinds ha a_speedX a_speedY a_leftward a_change a_table fi (-1000004) H.size) (cwV 1 hts gX7_copy_X7_finding rfl rfl rfl hv_X7_finding (yk_room hRf hRl rfl rfl)) (yk_pv (q := (RX7, TX7, 13)) hG hA hS hK hP hD [0] (by decide +kernel) rfl rfl rfl) rfl rfl hl.1 rfl (lv_room (Nat.le_of_ble_eq_true rfl)) dX7_copy_77 ⟨Nat.zero_le _, Nat.zero_le _⟩) hP hD hS hA rfl (Eq.trans (b := [ta]) rfl rfl) (fun H locs hP9 hD9 hS9 => ?_)
                        replace hP : va_P D vwCl [(ta, .inr (7, [.ref a_flow, .ref a_draft, .ref a_fence, .ref a_past, .ref a_slots, .ref a_slotKinds, .ref ha, .ref a_speedX, .ref a_speedY, .ref a_leftward, .ref a_change, .ref a_table, .int ((f_X7_finding fi (-1000004)).2)])), (ha, .inl (cy 4, 4, .inr (.inr (.inr (.inr (yk_refs [ha0, ha1, ha2, ha3])))))), (ha0, .inr (5, [.ref ha0n, .int b0, .int (nI n0)])), (ha0n, .inl (cy 0, 16, .inl h0)), (ha1, .inr (5, [.ref ha1n, .int b1, .int (nI n1)])), (ha1n, .inl (cy 0, 16, .inl h1)), (ha2, .inr (5, [.ref ha2n, .int b2, .int (nI n2)])), (ha2n, .inl (cy 0, 16, .inl h2)), (ha3, .inr (5, [.ref ha3n, .int b3, .int (nI n3)])), (ha3n, .inl (cy 0, 16, .inl h3))] H := hP9
                        replace hD : va_D A [(ta, .inr (7, [.ref a_flow, .ref a_draft, .ref a_fence, .ref a_past, .ref a_slots, .ref a_slotKinds, .ref ha, .ref a_speedX, .ref a_speedY, .ref a_leftward, .ref a_change, .ref a_table, .int ((f_X7_finding fi (-1000004)).2)])), (ha, .inl (cy 4, 4, .inr (.inr (.inr (.inr (yk_refs [ha0, ha1, ha2, ha3])))))), (ha0, .inr (5, [.ref ha0n, .int b0, .int (nI n0)])), (ha0n, .inl (cy 0, 16, .inl h0)), (ha1, .inr (5, [.ref ha1n, .int b1, .int (nI n1)])), (ha1n, .inl (cy 0, 16, .inl h1)), (ha2, .inr (5, [.ref ha2n, .int b2, .int (nI n2)])), (ha2n, .inl (cy 0, 16, .inl h2)), (ha3, .inr (5, [.ref ha3n, .int b3, .int (nI n3)])), (ha3n, .inl (cy 0, 16, .inl h3))] := hD9
                        replace hS := hS9
                        clear hP9 hD9 hS9
                        have hF : f_X7_copy h0 b0 n0 h1 b1 n1 h2 b2 n2 h3 b3 n3 fi px pf py po pn = (((f_X7_finding fi (-1000004)).1), ((f_X7_finding fi (-1000004)).2), h0, h1, h2, h3) := hF
                        have hf0 := yk_fst hF
                        have hg0 := yk_snd hF
                        have hf1 := yk_fst hg0
                        have hg1 := yk_snd hg0
                        have hf2 := yk_fst hg1
                        have hg2 := yk_snd hg1
                        have hf3 := yk_fst hg2
                        have hg3 := yk_snd hg2
                        have hf4 := yk_fst hg3
                        have hg4 := yk_snd hg3
                        rw [hf0, hf1, hf2, hf3, hf4, hg4] at hQ
                        exact hQ _ _ _ _ dX7_copy_80 hP hS
                    · replace hF := hF.trans (if_neg hc141)
                      refine lv_aload_n hx hb dX7_copy_53 rfl (lv_at hl 2 rfl) ?_
                      refine lv_ldcw (v := (-1000002)) hx hb hown (hts _ kX7_copy_2) dX7_copy_54 ?_
                      refine yk_i [0] (va_runV (As := [.int (-1000002)]) (rest := []) ⟨hx, hb, hml, hown, hts⟩ (c_X7_finding l D cy ta a_flow a_draft a_fence a_past a_slots a_slotKinds ha a_speedX a_speedY a_leftward a_change a_table fi (-1000002) H.size) (cwV 1 hts gX7_copy_X7_finding rfl rfl rfl hv_X7_finding (yk_room hRf hRl rfl rfl)) (yk_pv (q := (RX7, TX7, 13)) hG hA hS hK hP hD [0] (by decide +kernel) rfl rfl rfl) rfl rfl hl.1 rfl (lv_room (Nat.le_of_ble_eq_true rfl)) dX7_copy_57 ⟨Nat.zero_le _, Nat.zero_le _⟩) hP hD hS hA rfl (Eq.trans (b := [ta]) rfl rfl) (fun H locs hP9 hD9 hS9 => ?_)
                      replace hP : va_P D vwCl [(ta, .inr (7, [.ref a_flow, .ref a_draft, .ref a_fence, .ref a_past, .ref a_slots, .ref a_slotKinds, .ref ha, .ref a_speedX, .ref a_speedY, .ref a_leftward, .ref a_change, .ref a_table, .int ((f_X7_finding fi (-1000002)).2)])), (ha, .inl (cy 4, 4, .inr (.inr (.inr (.inr (yk_refs [ha0, ha1, ha2, ha3])))))), (ha0, .inr (5, [.ref ha0n, .int b0, .int (nI n0)])), (ha0n, .inl (cy 0, 16, .inl h0)), (ha1, .inr (5, [.ref ha1n, .int b1, .int (nI n1)])), (ha1n, .inl (cy 0, 16, .inl h1)), (ha2, .inr (5, [.ref ha2n, .int b2, .int (nI n2)])), (ha2n, .inl (cy 0, 16, .inl h2)), (ha3, .inr (5, [.ref ha3n, .int b3, .int (nI n3)])), (ha3n, .inl (cy 0, 16, .inl h3))] H := hP9
                      replace hD : va_D A [(ta, .inr (7, [.ref a_flow, .ref a_draft, .ref a_fence, .ref a_past, .ref a_slots, .ref a_slotKinds, .ref ha, .ref a_speedX, .ref a_speedY, .ref a_leftward, .ref a_change, .ref a_table, .int ((f_X7_finding fi (-1000002)).2)])), (ha, .inl (cy 4, 4, .inr (.inr (.inr (.inr (yk_refs [ha0, ha1, ha2, ha3])))))), (ha0, .inr (5, [.ref ha0n, .int b0, .int (nI n0)])), (ha0n, .inl (cy 0, 16, .inl h0)), (ha1, .inr (5, [.ref ha1n, .int b1, .int (nI n1)])), (ha1n, .inl (cy 0, 16, .inl h1)), (ha2, .inr (5, [.ref ha2n, .int b2, .int (nI n2)])), (ha2n, .inl (cy 0, 16, .inl h2)), (ha3, .inr (5, [.ref ha3n, .int b3, .int (nI n3)])), (ha3n, .inl (cy 0, 16, .inl h3))] := hD9
                      replace hS := hS9
                      clear hP9 hD9 hS9
                      have hF : f_X7_copy h0 b0 n0 h1 b1 n1 h2 b2 n2 h3 b3 n3 fi px pf py po pn = (((f_X7_finding fi (-1000002)).1), ((f_X7_finding fi (-1000002)).2), h0, h1, h2, h3) := hF
                      have hf0 := yk_fst hF
                      have hg0 := yk_snd hF
                      have hf1 := yk_fst hg0
                      have hg1 := yk_snd hg0
                      have hf2 := yk_fst hg1
                      have hg2 := yk_snd hg1
                      have hf3 := yk_fst hg2
                      have hg3 := yk_snd hg2
                      have hf4 := yk_fst hg3
                      have hg4 := yk_snd hg3
                      rw [hf0, hf1, hf2, hf3, hf4, hg4] at hQ
                      exact hQ _ _ _ _ dX7_copy_60 hP hS
    · replace hF := hF.trans (if_pos hc2)
      refine lv_aload_n hx hb dX7_copy_14 rfl (lv_at hl 0 rfl) ?_
      refine lv_ldc (v := (-1000001)) hx hb hown (hts _ kX7_copy_0) dX7_copy_15 ?_
      refine yk_i [0] (va_runV (As := [.int (-1000001)]) (rest := []) ⟨hx, hb, hml, hown, hts⟩ (c_X7_finding l D cy ta a_flow a_draft a_fence a_past a_slots a_slotKinds ha a_speedX a_speedY a_leftward a_change a_table fi (-1000001) H.size) (cwV 1 hts gX7_copy_X7_finding rfl rfl rfl hv_X7_finding (yk_room hRf hRl rfl rfl)) (yk_pv (q := (RX7, TX7, 13)) hG hA hS hK hP hD [0] (by decide +kernel) rfl rfl rfl) rfl rfl hl.1 rfl (lv_room (Nat.le_of_ble_eq_true rfl)) dX7_copy_17 ⟨Nat.zero_le _, Nat.zero_le _⟩) hP hD hS hA rfl (Eq.trans (b := [ta]) rfl rfl) (fun H locs hP9 hD9 hS9 => ?_)
      replace hP : va_P D vwCl [(ta, .inr (7, [.ref a_flow, .ref a_draft, .ref a_fence, .ref a_past, .ref a_slots, .ref a_slotKinds, .ref ha, .ref a_speedX, .ref a_speedY, .ref a_leftward, .ref a_change, .ref a_table, .int ((f_X7_finding fi (-1000001)).2)])), (ha, .inl (cy 4, 4, .inr (.inr (.inr (.inr (yk_refs [ha0, ha1, ha2, ha3])))))), (ha0, .inr (5, [.ref ha0n, .int b0, .int (nI n0)])), (ha0n, .inl (cy 0, 16, .inl h0)), (ha1, .inr (5, [.ref ha1n, .int b1, .int (nI n1)])), (ha1n, .inl (cy 0, 16, .inl h1)), (ha2, .inr (5, [.ref ha2n, .int b2, .int (nI n2)])), (ha2n, .inl (cy 0, 16, .inl h2)), (ha3, .inr (5, [.ref ha3n, .int b3, .int (nI n3)])), (ha3n, .inl (cy 0, 16, .inl h3))] H := hP9
      replace hD : va_D A [(ta, .inr (7, [.ref a_flow, .ref a_draft, .ref a_fence, .ref a_past, .ref a_slots, .ref a_slotKinds, .ref ha, .ref a_speedX, .ref a_speedY, .ref a_leftward, .ref a_change, .ref a_table, .int ((f_X7_finding fi (-1000001)).2)])), (ha, .inl (cy 4, 4, .inr (.inr (.inr (.inr (yk_refs [ha0, ha1, ha2, ha3])))))), (ha0, .inr (5, [.ref ha0n, .int b0, .int (nI n0)])), (ha0n, .inl (cy 0, 16, .inl h0)), (ha1, .inr (5, [.ref ha1n, .int b1, .int (nI n1)])), (ha1n, .inl (cy 0, 16, .inl h1)), (ha2, .inr (5, [.ref ha2n, .int b2, .int (nI n2)])), (ha2n, .inl (cy 0, 16, .inl h2)), (ha3, .inr (5, [.ref ha3n, .int b3, .int (nI n3)])), (ha3n, .inl (cy 0, 16, .inl h3))] := hD9
      replace hS := hS9
      clear hP9 hD9 hS9
      have hF : f_X7_copy h0 b0 n0 h1 b1 n1 h2 b2 n2 h3 b3 n3 fi px pf py po pn = (((f_X7_finding fi (-1000001)).1), ((f_X7_finding fi (-1000001)).2), h0, h1, h2, h3) := hF
      have hf0 := yk_fst hF
      have hg0 := yk_snd hF
      have hf1 := yk_fst hg0
      have hg1 := yk_snd hg0
      have hf2 := yk_fst hg1
      have hg2 := yk_snd hg1
      have hf3 := yk_fst hg2
      have hg3 := yk_snd hg2
      have hf4 := yk_fst hg3
      have hg4 := yk_snd hg3
      rw [hf0, hf1, hf2, hf3, hf4, hg4] at hQ
      exact hQ _ _ _ _ dX7_copy_20 hP hS
