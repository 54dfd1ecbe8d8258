/-! calls and entries in one row: a method's world keeps its order over a call -/
/-- a world with some places laid anew -/
def yk_rep : va_W → List Nat → va_W → va_W
  | ws, i :: is, x :: xs => yk_rep (ws.set i x) is xs
  | ws, [], _ => ws
  | ws, _ :: _, [] => ws
theorem yk_repP {D : va_G} {cl : List vw_C} {H1 : Heap} : ∀ (is : List Nat) (w1 ws : va_W), is.length = w1.length → (∀ (k : Nat) (q : Nat × va_E), ws[k]? = some q → k ∉ is → va_at D cl q H1) → va_P D cl w1 H1 → va_P D cl (yk_rep ws is w1) H1
  | [], [], ws, _, h, _ => fun k q hq => h k q hq (List.not_mem_nil)
  | i :: is, x :: xs, ws, hl, h, hP => by
    refine yk_repP is xs (ws.set i x) (Nat.succ.inj hl) (fun k q hq hk => ?_) (fun k q hq => hP (k + 1) q hq)
    by_cases e : k = i
    · subst e
      have hlt : k < ws.length := by
        rcases Nat.lt_or_ge k ws.length with h9 | h9
        · exact h9
        · rw [List.getElem?_eq_none (by rw [List.length_set]; exact h9)] at hq; cases hq
      rw [List.getElem?_set_self hlt] at hq
      cases hq
      exact hP 0 _ rfl
    · rw [List.getElem?_set_ne (Ne.symm e)] at hq
      exact h k q hq (fun hm => (List.mem_cons.mp hm).elim e hk)
  | [], _ :: _, _, hl, _, _ => by cases hl
  | _ :: _, [], _, hl, _, _ => by cases hl
theorem yk_repD {A : Nat → Prop} : ∀ (is : List Nat) (w1 ws : va_W), is.map (fun i => (ws[i]?).map (fun x => x.1)) = w1.map (fun x => some x.1) → va_D A ws → va_D A (yk_rep ws is w1)
  | [], [], _, _, h => h
  | i :: is, x :: xs, ws, hl, h => by
    rw [List.map_cons, List.map_cons] at hl
    have h1 := (List.cons.inj hl).1
    have h2 := (List.cons.inj hl).2
    cases hi : ws[i]? with
    | none => rw [hi] at h1; cases h1
    | some y =>
      rw [hi] at h1
      have e1 : y.1 = x.1 := Option.some.inj h1
      have hlt : i < ws.length := (List.getElem?_eq_some_iff.mp hi).1
      refine yk_repD is xs (ws.set i x) ?_ ?_
      · rw [← h2]
        refine List.map_congr_left (fun j _ => ?_)
        by_cases e : j = i
        · subst e
          rw [List.getElem?_set_self hlt, hi]
          show some x.1 = some y.1
          rw [e1]
        · rw [List.getElem?_set_ne (Ne.symm e)]
      · obtain ⟨ya, ye⟩ := y
        obtain ⟨xa, xe⟩ := x
        dsimp only at e1
        subst e1
        exact h.set hi
  | [], _ :: _, _, _, h => h
  | _ :: _, [], _, hl, _ => by cases hl
/-- behind a call: the caller's world, the callee's places laid anew -/
theorem yk_back {A0 : Nat → Prop} {D : va_G} {cl : List vw_C} {ws wc w1 : va_W} {H H1 : Heap} (hP : va_P D cl ws H) (hD : va_D A0 ws) (isC : List Nat) (hC : isC.map (fun i => ws[i]?) = wc.map some) (hw : w1.map (fun x => x.1) = wc.map (fun x => x.1))
    (hk : ∀ q : Nat, q < H.size → ¬ va_A wc H.size q → H1[q]? = H[q]?) (hP1 : va_P D cl w1 H1) : va_P D cl (yk_rep ws isC w1) H1 ∧ va_D A0 (yk_rep ws isC w1) := by
  have hlen : isC.length = w1.length := by
    have h1 := congrArg List.length hC
    have h2 := congrArg List.length hw
    simp only [List.length_map] at h1 h2
    omega
  refine ⟨yk_repP isC w1 ws hlen (fun k q hq hn => ?_) hP1, yk_repD isC w1 ws ?_ hD⟩
  · refine (hP k q hq).kept (hk q.1 ((hP k q hq).lt) (fun h => ?_))
    rcases h with ⟨k2, e, h⟩ | h
    · have h1 : (isC.map (fun i => ws[i]?))[k2]? = some (some (q.1, e)) := by rw [hC, List.getElem?_map, h]; rfl
      rw [List.getElem?_map] at h1
      cases hi : isC[k2]? with
      | none => rw [hi] at h1; cases h1
      | some i =>
        rw [hi] at h1
        have h4 := Option.some.inj h1
        have hij := hD.1 k i q (q.1, e) hq h4 rfl
        subst hij
        exact hn (List.mem_of_getElem? hi)
    · have := (hP k q hq).lt
      omega
  · have h1 : isC.map (fun i => (ws[i]?).map (fun x => x.1)) = (isC.map (fun i => ws[i]?)).map (fun o => o.map (fun x => x.1)) := by
      rw [List.map_map]
      rfl
    have h2 : w1.map (fun x => some x.1) = (w1.map (fun x => x.1)).map some := by
      rw [List.map_map]
      rfl
    rw [h1, hC, List.map_map, h2, hw, List.map_map]
    rfl
/-- what holds outside every world: the three static tables, and the one link between nest mates that an ordinary method uses -/
def yk_tab (t : List Int32) : Nat → Value := fun j => .int (t.getD j 0)
def yk_Z (n : String) (N : Nat) (t : List Int32) (A : Nat → Prop) (U : State) (H : Heap) : Prop := ∃ q : Nat, va_Z "FlowPlane" n "[I" (.ref q) A U H ∧ va_T .int q N (yk_tab t) A U H
def yk_G (A : Nat → Prop) (U : State) (H : Heap) : Prop := yk_Z "TIMES_X" 6 [1, 3, 4, 6, 7, 8] A U H ∧ yk_Z "TIMES_Y" 6 [2, 4, 5, 7, 8, 9] A U H ∧ yk_Z "ABOVE" 4 [-1, 0, 1, 0] A U H ∧ va_Nw (.methodLinkNest RX3 19 yX7_isWithin "FlowPlane") U
theorem yk_Z.moved {n : String} {N : Nat} {t : List Int32} {A : Nat → Prop} {u U : State} {H : Heap} (hvm : u.vm.Alike U.vm) (h : yk_Z n N t A u H) : yk_Z n N t A U H := by
  obtain ⟨q, h1, h2⟩ := h
  exact ⟨q, h1.moved hvm, h2.moved hvm⟩
theorem yk_Z.kept {n : String} {N : Nat} {t : List Int32} {A : Nat → Prop} {U : State} {H H1 : Heap} (h : yk_Z n N t A U H) (hq : ∀ a : Nat, a < H.size → ¬ A a → H1[a]? = H[a]?) : yk_Z n N t A U H1 := by
  obtain ⟨q, h1, h2⟩ := h
  exact ⟨q, h1.kept hq, h2.kept hq⟩
theorem yk_Z.narrow {n : String} {N : Nat} {t : List Int32} {A B : Nat → Prop} {U : State} {H : Heap} (h : yk_Z n N t A U H) (hAB : ∀ q, B q → A q) : yk_Z n N t B U H := by
  obtain ⟨q, h1, h2⟩ := h
  exact ⟨q, h1.narrow hAB, h2.narrow hAB⟩
theorem yk_G.step {A B : Nat → Prop} {s U : State} {H H1 : Heap} (h : yk_G A s H) (hW : s.WarmedH U.vm) (hq : ∀ a : Nat, a < H.size → ¬ A a → H1[a]? = H[a]?) (hAB : ∀ q, B q → A q) : yk_G B U H1 := by
  obtain ⟨h1, h2, h3, h4⟩ := h
  exact ⟨((h1.kept hq).narrow hAB).moved hW.alike, ((h2.kept hq).narrow hAB).moved hW.alike, ((h3.kept hq).narrow hAB).moved hW.alike, va_Nw.warmM hW h4⟩
theorem yk_G.same {A : Nat → Prop} {u U : State} {H : Heap} (h : yk_G A u H) (e : u.vm = U.vm) : yk_G A U H := by
  have hvm : u.vm.Alike U.vm := by rw [e]; exact Vm.Alike.refl _
  obtain ⟨h1, h2, h3, h4⟩ := h
  exact ⟨h1.moved hvm, h2.moved hvm, h3.moved hvm, va_Nw.same rfl e h4⟩
/-- a method's start: its world, and nothing else -/
def yk_Pre (D : va_G) (cl : List vw_C) (tys : List (ClassId × FieldType)) (W0 : va_W) (sz : Nat) : State → Prop := fun U => U.heap.size = sz ∧ va_P D cl W0 U.heap ∧ va_K D cl tys U ∧ va_D (fun _ => True) W0 ∧ yk_G (va_A W0 sz) U U.heap
/-- its end: the world behind it, at the same addresses -/
def yk_Po (D : va_G) (cl : List vw_C) (tys : List (ClassId × FieldType)) (W1 : va_W) (t : State) : Prop := va_P D cl W1 t.heap ∧ va_K D cl tys t
theorem yk_blind {D : va_G} {cl : List vw_C} {tys : List (ClassId × FieldType)} {W0 : va_W} {sz : Nat} {av : List Value} : FrameBlind (va_Pc av (yk_Pre D cl tys W0 sz)) := fun a U g mk q => by
  obtain ⟨q0, q1, qP, qK, qD, qG⟩ := q
  exact ⟨q0, q1, qP, va_K.moved (u := U) (U := U.calling g mk a) (Vm.Alike.refl U.vm) qK, qD, yk_G.same (u := U) (U := U.calling g mk a) qG rfl⟩
/-- contracts of methods that make nothing: the answer r, the world W1 -/
def yk_Ci (l : Launch) (D : va_G) (cl : List vw_C) (tys : List (ClassId × FieldType)) (y : MethodName) (ws : List Cond) (fr lo : Nat) (av : List Value) (W0 : va_W) (r : Int32) (W1 : va_W) : Prop :=
  ∀ sz : Nat, Met l y ws { frames := fr, cells := 0, slots := 0, locals := lo } (va_Pc av (yk_Pre D cl tys W0 sz)) (va_Qi (fun x (_ : Unit) => x = r) (fun _ t => yk_Po D cl tys W1 t) (va_A W0 sz)) 0 0 (va_A W0 sz)
def yk_Cl (l : Launch) (D : va_G) (cl : List vw_C) (tys : List (ClassId × FieldType)) (y : MethodName) (ws : List Cond) (fr lo : Nat) (av : List Value) (W0 : va_W) (r : Int64) (W1 : va_W) : Prop :=
  ∀ sz : Nat, Met l y ws { frames := fr, cells := 0, slots := 0, locals := lo } (va_Pc av (yk_Pre D cl tys W0 sz)) (va_Ql (fun x (_ : Unit) => x = r) (fun _ t => yk_Po D cl tys W1 t) (va_A W0 sz)) 0 0 (va_A W0 sz)
def yk_Cv (l : Launch) (D : va_G) (cl : List vw_C) (tys : List (ClassId × FieldType)) (y : MethodName) (ws : List Cond) (fr lo : Nat) (av : List Value) (W0 : va_W) (W1 : va_W) : Prop :=
  ∀ sz : Nat, Met l y ws { frames := fr, cells := 0, slots := 0, locals := lo } (va_Pc av (yk_Pre D cl tys W0 sz)) (va_Qv (fun (_ : Unit) => True) (fun _ t => yk_Po D cl tys W1 t) (va_A W0 sz)) 0 0 (va_A W0 sz)
def yk_Cr (l : Launch) (D : va_G) (cl : List vw_C) (tys : List (ClassId × FieldType)) (y : MethodName) (ws : List Cond) (fr lo : Nat) (av : List Value) (W0 : va_W) (r : Nat) (W1 : va_W) : Prop :=
  ∀ sz : Nat, Met l y ws { frames := fr, cells := 0, slots := 0, locals := lo } (va_Pc av (yk_Pre D cl tys W0 sz)) (va_Qr (fun (_ : Unit) => True) (fun _ a t => a = r ∧ yk_Po D cl tys W1 t) (va_A W0 sz)) 0 0 (va_A W0 sz)
section YK
variable {p : Program} {l : Launch} {e : Env} {R : Room} {s : State} {m : MethodId} {args : Array Value} {below : List Frame} {meth : Method} {c : Code} {H : Heap} {locs : List Loc} {Q : State → Prop}
variable {cc : ByteArray} {pc : Nat} {ls : Array Slot} {rest st0 : List Value} {D : va_G} {cl : List vw_C} {A : Nat → Prop} {tys : List (ClassId × FieldType)} {ws wc w1 : va_W} {H0 : Heap} {a : Array Value} {cells slots : Nat}
theorem yk_i {r : Int32} (isC : List Nat) (hr : va_Run p l e R s m args below meth c H locs cells slots 0 0 (F0 m pc ls st0) rest (va_Qi (fun x (_ : Unit) => x = r) (fun _ t => yk_Po D cl tys w1 t) (va_A wc H.size) a) (va_A wc H.size)) (hP : va_P D cl ws H) (hD : va_D A ws) (hS : va_S A H0 H locs) (hA : ∀ q, H0.size ≤ q → A q) (hC : isC.map (fun i => ws[i]?) = wc.map some) (hw : w1.map (fun x => x.1) = wc.map (fun x => x.1))
    (kk : ∀ (H1 : Heap) (locs1 : List Loc), va_P D cl (yk_rep ws isC w1) H1 → va_D A (yk_rep ws isC w1) → va_S A H0 H1 locs1 → W p l e R s m args below meth c H1 locs1 cells slots Q (F0 m (pc + 3) ls (.int r :: rest))) : W p l e R s m args below meth c H locs cells slots Q (F0 m pc ls st0) := by
  have hF := va_free (wc := wc) hD hS hA isC hC
  refine va_calli hr hS (fun q _ h => hF q h) hF (fun r u t H1 locs1 ht hvm hw1 hB hz1 hk1 hS1 => ?_)
  subst hw1
  obtain ⟨hP1, hK1⟩ := hB
  rw [ht] at hP1
  obtain ⟨hP2, hD2⟩ := yk_back hP hD isC hC hw hk1 hP1
  exact kk H1 locs1 hP2 hD2 hS1
theorem yk_l {r : Int64} (isC : List Nat) (hr : va_Run p l e R s m args below meth c H locs cells slots 0 0 (F0 m pc ls st0) rest (va_Ql (fun x (_ : Unit) => x = r) (fun _ t => yk_Po D cl tys w1 t) (va_A wc H.size) a) (va_A wc H.size)) (hP : va_P D cl ws H) (hD : va_D A ws) (hS : va_S A H0 H locs) (hA : ∀ q, H0.size ≤ q → A q) (hC : isC.map (fun i => ws[i]?) = wc.map some) (hw : w1.map (fun x => x.1) = wc.map (fun x => x.1))
    (kk : ∀ (H1 : Heap) (locs1 : List Loc), va_P D cl (yk_rep ws isC w1) H1 → va_D A (yk_rep ws isC w1) → va_S A H0 H1 locs1 → W p l e R s m args below meth c H1 locs1 cells slots Q (F0 m (pc + 3) ls (.long r :: rest))) : W p l e R s m args below meth c H locs cells slots Q (F0 m pc ls st0) := by
  have hF := va_free (wc := wc) hD hS hA isC hC
  refine va_calll hr hS (fun q _ h => hF q h) hF (fun r u t H1 locs1 ht hvm hw1 hB hz1 hk1 hS1 => ?_)
  subst hw1
  obtain ⟨hP1, hK1⟩ := hB
  rw [ht] at hP1
  obtain ⟨hP2, hD2⟩ := yk_back hP hD isC hC hw hk1 hP1
  exact kk H1 locs1 hP2 hD2 hS1
theorem yk_v (isC : List Nat) (hr : va_Run p l e R s m args below meth c H locs cells slots 0 0 (F0 m pc ls st0) rest (va_Qv (fun (_ : Unit) => True) (fun _ t => yk_Po D cl tys w1 t) (va_A wc H.size) a) (va_A wc H.size)) (hP : va_P D cl ws H) (hD : va_D A ws) (hS : va_S A H0 H locs) (hA : ∀ q, H0.size ≤ q → A q) (hC : isC.map (fun i => ws[i]?) = wc.map some) (hw : w1.map (fun x => x.1) = wc.map (fun x => x.1))
    (kk : ∀ (H1 : Heap) (locs1 : List Loc), va_P D cl (yk_rep ws isC w1) H1 → va_D A (yk_rep ws isC w1) → va_S A H0 H1 locs1 → W p l e R s m args below meth c H1 locs1 cells slots Q (F0 m (pc + 3) ls rest)) : W p l e R s m args below meth c H locs cells slots Q (F0 m pc ls st0) := by
  have hF := va_free (wc := wc) hD hS hA isC hC
  refine va_callv hr hS (fun q _ h => hF q h) hF (fun u t H1 locs1 ht hvm hw1 hB hz1 hk1 hS1 => ?_)
  obtain ⟨hP1, hK1⟩ := hB
  rw [ht] at hP1
  obtain ⟨hP2, hD2⟩ := yk_back hP hD isC hC hw hk1 hP1
  exact kk H1 locs1 hP2 hD2 hS1
theorem yk_r {r : Nat} (isC : List Nat) (hr : va_Run p l e R s m args below meth c H locs cells slots 0 0 (F0 m pc ls st0) rest (va_Qr (fun (_ : Unit) => True) (fun _ a t => a = r ∧ yk_Po D cl tys w1 t) (va_A wc H.size) a) (va_A wc H.size)) (hP : va_P D cl ws H) (hD : va_D A ws) (hS : va_S A H0 H locs) (hA : ∀ q, H0.size ≤ q → A q) (hC : isC.map (fun i => ws[i]?) = wc.map some) (hw : w1.map (fun x => x.1) = wc.map (fun x => x.1))
    (kk : ∀ (H1 : Heap) (locs1 : List Loc), va_P D cl (yk_rep ws isC w1) H1 → va_D A (yk_rep ws isC w1) → va_S A H0 H1 locs1 → W p l e R s m args below meth c H1 locs1 cells slots Q (F0 m (pc + 3) ls (.ref r :: rest))) : W p l e R s m args below meth c H locs cells slots Q (F0 m pc ls st0) := by
  have hF := va_free (wc := wc) hD hS hA isC hC
  refine va_callr hr hS (fun q _ h => hF q h) hF (fun u ra t H1 locs1 ht hvm hw1 hB hz1 hk1 hS1 => ?_)
  obtain ⟨e1, hP1, hK1⟩ := hB
  subst e1
  rw [ht] at hP1
  obtain ⟨hP2, hD2⟩ := yk_back hP hD isC hC hw hk1 hP1
  exact kk H1 locs1 hP2 hD2 hS1
/-- what a callee is given: its cells out of the caller's -/
theorem yk_ps {As : List Value} (hG : yk_G A s s.heap) (hA : ∀ q, s.heap.size ≤ q → A q) (hS : va_S A s.heap H locs) (hK : va_K D cl tys s) (hP : va_P D cl ws H) (hD : va_D A ws) (isC : List Nat) (hn : va_nd isC = true) (hC : isC.map (fun i => ws[i]?) = wc.map some) : PreS s H (va_Pc As (yk_Pre D cl tys wc H.size)) As := by
  have hPc : va_P D cl wc H := by
    intro k q hq
    have h1 : (isC.map (fun i => ws[i]?))[k]? = some (some q) := by rw [hC, List.getElem?_map, hq]; rfl
    rw [List.getElem?_map] at h1
    cases hi : isC[k]? with
    | none => rw [hi] at h1; cases h1
    | some i => rw [hi] at h1; exact hP i q (Option.some.inj h1)
  have hDc := hD.sub isC hn hC
  exact ⟨yk_blind, fun U hU hW => ⟨rfl, by rw [hU], by rw [hU]; exact hPc, va_K.moved hW.alike hK, hDc.weaken (fun _ _ _ _ => trivial), by rw [hU]; exact hG.step hW hS.2.1 (va_free hD hS hA isC hC)⟩⟩
theorem yk_pv {As : List Value} {b ci : Nat} {fs : List Value} {q : vw_C} (hG : yk_G A s s.heap) (hA : ∀ q, s.heap.size ≤ q → A q) (hS : va_S A s.heap H locs) (hK : va_K D cl tys s) (hP : va_P D cl ws H) (hD : va_D A ws) (isC : List Nat) (hn : va_nd isC = true) (hC : isC.map (fun i => ws[i]?) = wc.map some) (h0 : wc[0]? = some (b, .inr (ci, fs))) (hq : cl[ci]? = some q) : PreV s H q.1 b (va_Pc (.ref b :: As) (yk_Pre D cl tys wc H.size)) As := by
  obtain ⟨h1, h2⟩ := yk_ps (As := .ref b :: As) hG hA hS hK hP hD isC hn hC
  have hPc : va_P D cl wc H := by
    intro k q hq
    have h1 : (isC.map (fun i => ws[i]?))[k]? = some (some q) := by rw [hC, List.getElem?_map, hq]; rfl
    rw [List.getElem?_map] at h1
    cases hi : isC[k]? with
    | none => rw [hi] at h1; cases h1
    | some i => rw [hi] at h1; exact hP i q (Option.some.inj h1)
  exact ⟨h1, va_recv hK hPc (ci := ci) (q0 := 0) hq h0, h2⟩
end YK
theorem yk_room {R : Room} {fr lo a b : Nat} (h1 : R.frames = fr) (h2 : R.locals = lo) (h3 : Nat.ble a fr = true) (h4 : Nat.ble b lo = true) : a ≤ R.frames ∧ b ≤ R.locals := ⟨by rw [h1]; exact Nat.le_of_ble_eq_true h3, by rw [h2]; exact Nat.le_of_ble_eq_true h4⟩
section YE
variable {l : Launch} {y : MethodName} {ws ws' : List Cond} {fr lo maxL : Nat} {cc : ByteArray} {av : List Value} {D : va_G} {cl : List vw_C} {tys : List (ClassId × FieldType)} {W0 W1 : va_W}
theorem yk_eI {ty : FieldType} {r : Int32} (hy : plainName y.cls = true) (hw : ws = Cond.code y cc maxL (some ty) :: ws') (hlen : (lg_sl av).length ≤ maxL) (hn : narrow ty (.int r) = .int r)
    (body : ∀ (p : Program) (e : Env) (R : Room) (s : State) (m : MethodId) (args : Array Value) (below : List Frame) (meth : Method) (c : Code) (A : Nat → Prop) (Q : State → Prop) (ls : Array Slot) (H : Heap) (locs : List Loc), p.tables.exec = Jvm.exec → c.code = cc → c.maxLocals = maxL → s.vm.findClass y.cls = some m.cls → (∀ w ∈ ws, w.before args s = true) → R.frames = fr → R.locals = lo → (∀ q, s.heap.size ≤ q → A q) → va_K D cl tys s → yk_G A s s.heap → va_P D cl W0 H → va_D A W0 → va_S A s.heap H locs → lv_has ls maxL (lv_args 0 av) →
      (∀ (pc : Nat) (ls : Array Slot) (H : Heap) (locs : List Loc), decode cc pc = .ok (.ireturn, 1) → va_P D cl W1 H → va_S A s.heap H locs → W p l e R s m args below meth c H locs 0 0 Q (F0 m pc ls [.int r])) →
      W p l e R s m args below meth c H locs 0 0 Q (F0 m 0 ls [])) : yk_Ci l D cl tys y ws fr lo av W0 r W1 := by
  intro sz
  refine Met.ofW (cc := cc) (maxL := maxL) (ret := some ty) hy hw ?_
  intro p e s m args below meth c s₁ B hml hv
  obtain ⟨rfl, hsz, hP, hK, hD0, hG⟩ := hv
  have hx := B.exec
  have hb := B.bytes
  have hr := B.returns
  have hts := atoms_spec (ws := ws) B.pre
  have hown : s.vm.findClass y.cls = some m.cls := findClass_of_methodNamed B.named
  have hlocks := B.notSynchronized
  subst hsz
  have hD := hD0.self (sz := s.heap.size)
  have hl := lv_entry av (n := maxL) hlen
  rw [lg_entry_eq]
  exact body p e _ s m _ below meth c _ _ _ _ _ hx hb hml hown hts rfl rfl (fun q h => Or.inr h) hK hG hP hD va_S.rf hl (fun pc ls H locs hd hP1 hS1 => W.zret hx hb hr hn (fun t ht hW => ⟨⟨r, (), rfl, rfl, by rw [ht]; exact hP1, va_K.moved hW.alike hK⟩, hS1.F ht⟩) hS1.2.2 hd)
theorem yk_eL {r : Int64} (hy : plainName y.cls = true) (hw : ws = Cond.code y cc maxL (some .long) :: ws') (hlen : (lg_sl av).length ≤ maxL)
    (body : ∀ (p : Program) (e : Env) (R : Room) (s : State) (m : MethodId) (args : Array Value) (below : List Frame) (meth : Method) (c : Code) (A : Nat → Prop) (Q : State → Prop) (ls : Array Slot) (H : Heap) (locs : List Loc), p.tables.exec = Jvm.exec → c.code = cc → c.maxLocals = maxL → s.vm.findClass y.cls = some m.cls → (∀ w ∈ ws, w.before args s = true) → R.frames = fr → R.locals = lo → (∀ q, s.heap.size ≤ q → A q) → va_K D cl tys s → yk_G A s s.heap → va_P D cl W0 H → va_D A W0 → va_S A s.heap H locs → lv_has ls maxL (lv_args 0 av) →
      (∀ (pc : Nat) (ls : Array Slot) (H : Heap) (locs : List Loc), decode cc pc = .ok (.lreturn, 1) → va_P D cl W1 H → va_S A s.heap H locs → W p l e R s m args below meth c H locs 0 0 Q (F0 m pc ls [.long r])) →
      W p l e R s m args below meth c H locs 0 0 Q (F0 m 0 ls [])) : yk_Cl l D cl tys y ws fr lo av W0 r W1 := by
  intro sz
  refine Met.ofW (cc := cc) (maxL := maxL) (ret := some .long) hy hw ?_
  intro p e s m args below meth c s₁ B hml hv
  obtain ⟨rfl, hsz, hP, hK, hD0, hG⟩ := hv
  have hx := B.exec
  have hb := B.bytes
  have hr := B.returns
  have hts := atoms_spec (ws := ws) B.pre
  have hown : s.vm.findClass y.cls = some m.cls := findClass_of_methodNamed B.named
  have hlocks := B.notSynchronized
  subst hsz
  have hD := hD0.self (sz := s.heap.size)
  have hl := lv_entry av (n := maxL) hlen
  rw [lg_entry_eq]
  exact body p e _ s m _ below meth c _ _ _ _ _ hx hb hml hown hts rfl rfl (fun q h => Or.inr h) hK hG hP hD va_S.rf hl (fun pc ls H locs hd hP1 hS1 => W.lret hx hb hr (fun t ht hW => ⟨⟨r, (), rfl, rfl, by rw [ht]; exact hP1, va_K.moved hW.alike hK⟩, hS1.F ht⟩) hS1.2.2 hd)
theorem yk_eV (hy : plainName y.cls = true) (hw : ws = Cond.code y cc maxL none :: ws') (hlen : (lg_sl av).length ≤ maxL)
    (body : ∀ (p : Program) (e : Env) (R : Room) (s : State) (m : MethodId) (args : Array Value) (below : List Frame) (meth : Method) (c : Code) (A : Nat → Prop) (Q : State → Prop) (ls : Array Slot) (H : Heap) (locs : List Loc), p.tables.exec = Jvm.exec → c.code = cc → c.maxLocals = maxL → s.vm.findClass y.cls = some m.cls → (∀ w ∈ ws, w.before args s = true) → R.frames = fr → R.locals = lo → (∀ q, s.heap.size ≤ q → A q) → va_K D cl tys s → yk_G A s s.heap → va_P D cl W0 H → va_D A W0 → va_S A s.heap H locs → lv_has ls maxL (lv_args 0 av) →
      (∀ (pc : Nat) (ls : Array Slot) (H : Heap) (locs : List Loc), decode cc pc = .ok (.return_, 1) → va_P D cl W1 H → va_S A s.heap H locs → W p l e R s m args below meth c H locs 0 0 Q (F0 m pc ls [])) →
      W p l e R s m args below meth c H locs 0 0 Q (F0 m 0 ls [])) : yk_Cv l D cl tys y ws fr lo av W0 W1 := by
  intro sz
  refine Met.ofW (cc := cc) (maxL := maxL) (ret := none) hy hw ?_
  intro p e s m args below meth c s₁ B hml hv
  obtain ⟨rfl, hsz, hP, hK, hD0, hG⟩ := hv
  have hx := B.exec
  have hb := B.bytes
  have hr := B.returns
  have hts := atoms_spec (ws := ws) B.pre
  have hown : s.vm.findClass y.cls = some m.cls := findClass_of_methodNamed B.named
  have hlocks := B.notSynchronized
  subst hsz
  have hD := hD0.self (sz := s.heap.size)
  have hl := lv_entry av (n := maxL) hlen
  rw [lg_entry_eq]
  exact body p e _ s m _ below meth c _ _ _ _ _ hx hb hml hown hts rfl rfl (fun q h => Or.inr h) hK hG hP hD va_S.rf hl (fun pc ls H locs hd hP1 hS1 => W.vret hx hb hr (fun t ht hW => ⟨⟨(), rfl, trivial, by rw [ht]; exact hP1, va_K.moved hW.alike hK⟩, hS1.F ht⟩) hS1.2.2 hd)
theorem yk_eR {rt : FieldType} {r : Nat} (hrt : (∃ n, rt = .object n) ∨ ∃ t, rt = .array t) (hy : plainName y.cls = true) (hw : ws = Cond.code y cc maxL (some rt) :: ws') (hlen : (lg_sl av).length ≤ maxL)
    (body : ∀ (p : Program) (e : Env) (R : Room) (s : State) (m : MethodId) (args : Array Value) (below : List Frame) (meth : Method) (c : Code) (A : Nat → Prop) (Q : State → Prop) (ls : Array Slot) (H : Heap) (locs : List Loc), p.tables.exec = Jvm.exec → c.code = cc → c.maxLocals = maxL → s.vm.findClass y.cls = some m.cls → (∀ w ∈ ws, w.before args s = true) → R.frames = fr → R.locals = lo → (∀ q, s.heap.size ≤ q → A q) → va_K D cl tys s → yk_G A s s.heap → va_P D cl W0 H → va_D A W0 → va_S A s.heap H locs → lv_has ls maxL (lv_args 0 av) →
      (∀ (pc : Nat) (ls : Array Slot) (H : Heap) (locs : List Loc), decode cc pc = .ok (.areturn, 1) → va_P D cl W1 H → va_S A s.heap H locs → W p l e R s m args below meth c H locs 0 0 Q (F0 m pc ls [.ref r])) →
      W p l e R s m args below meth c H locs 0 0 Q (F0 m 0 ls [])) : yk_Cr l D cl tys y ws fr lo av W0 r W1 := by
  intro sz
  refine Met.ofW (cc := cc) (maxL := maxL) (ret := some rt) hy hw ?_
  intro p e s m args below meth c s₁ B hml hv
  obtain ⟨rfl, hsz, hP, hK, hD0, hG⟩ := hv
  have hx := B.exec
  have hb := B.bytes
  have hr := B.returns
  have hts := atoms_spec (ws := ws) B.pre
  have hown : s.vm.findClass y.cls = some m.cls := findClass_of_methodNamed B.named
  have hlocks := B.notSynchronized
  subst hsz
  have hD := hD0.self (sz := s.heap.size)
  have hl := lv_entry av (n := maxL) hlen
  rw [lg_entry_eq]
  exact body p e _ s m _ below meth c _ _ _ _ _ hx hb hml hown hts rfl rfl (fun q h => Or.inr h) hK hG hP hD va_S.rf hl (fun pc ls H locs hd hP1 hS1 => W.aret hx hb hr hrt (Or.inr ⟨_, rfl⟩) (fun t ht hW => ⟨⟨(), r, rfl, trivial, rfl, by rw [ht]; exact hP1, va_K.moved hW.alike hK⟩, hS1.F ht⟩) hS1.2.2 hd)
end YE
/-- the rows of a table: N cells, at r 0 .. -/
def yk_fam (N : Nat) (r : Nat → Nat) (F : Nat → va_E) : va_W := (List.range N).map (fun i => (r i, F i))
def yk_upr {α : Type} (g : Nat → α) (i : Nat) (x : α) : Nat → α := fun j => if j = i then x else g j
theorem yk_fg (X : va_W) {N : Nat} {r : Nat → Nat} {F : Nat → va_E} {i : Nat} (h : i < N) : (X ++ yk_fam N r F)[X.length + i]? = some (r i, F i) := by
  rw [List.getElem?_append_right (Nat.le_add_right _ _), Nat.add_sub_cancel_left]
  unfold yk_fam
  rw [List.getElem?_map, List.getElem?_range h]
  rfl
theorem yk_fs (X : va_W) {N : Nat} {r : Nat → Nat} {F : Nat → va_E} {i : Nat} {e : va_E} (h : i < N) : (X ++ yk_fam N r F).set (X.length + i) (r i, e) = X ++ yk_fam N r (fun j => if j = i then e else F j) := by
  rw [List.set_append_right _ _ (Nat.le_add_right _ _), Nat.add_sub_cancel_left]
  congr 1
  apply List.ext_getElem?
  intro k
  unfold yk_fam
  by_cases hk : k = i
  · subst hk
    rw [List.getElem?_set_self (by rw [List.length_map, List.length_range]; exact h), List.getElem?_map, List.getElem?_range h]
    simp
  · rw [List.getElem?_set_ne (Ne.symm hk), List.getElem?_map, List.getElem?_map]
    by_cases hN : k < N
    · rw [List.getElem?_range hN]
      simp [hk]
    · rw [List.getElem?_eq_none (by rw [List.length_range]; omega)]
      rfl
theorem yk_fsi (X : va_W) {N n : Nat} {r : Nat → Nat} {cA : ClassId} {g : Nat → Nat → Int32} {i : Nat} {f : Nat → Int32} (h : i < N) : (X ++ yk_fam N r (fun i => .inl (cA, n, .inl (g i)))).set (X.length + i) (r i, .inl (cA, n, .inl f)) = X ++ yk_fam N r (fun j => .inl (cA, n, .inl (yk_upr g i f j))) := by
  rw [yk_fs X h]
  congr 2
  funext j
  unfold yk_upr
  split <;> rfl
theorem yk_fsl (X : va_W) {N n : Nat} {r : Nat → Nat} {cA : ClassId} {g : Nat → Nat → Int64} {i : Nat} {f : Nat → Int64} (h : i < N) : (X ++ yk_fam N r (fun i => .inl (cA, n, .inr (.inl (g i))))).set (X.length + i) (r i, .inl (cA, n, .inr (.inl f))) = X ++ yk_fam N r (fun j => .inl (cA, n, .inr (.inl (yk_upr g i f j)))) := by
  rw [yk_fs X h]
  congr 2
  funext j
  unfold yk_upr
  split <;> rfl
theorem yk_fPi {D : va_G} {cl : List vw_C} {H : Heap} (X : va_W) {N n : Nat} {r : Nat → Nat} {cA : ClassId} {g : Nat → Nat → Int32} {i : Nat} {f : Nat → Int32} (h : i < N) (hP : va_P D cl ((X ++ yk_fam N r (fun i => .inl (cA, n, .inl (g i)))).set (X.length + i) (r i, .inl (cA, n, .inl f))) H) : va_P D cl (X ++ yk_fam N r (fun j => .inl (cA, n, .inl (yk_upr g i f j)))) H := by rw [← yk_fsi X h]; exact hP
theorem yk_fDi {A : Nat → Prop} (X : va_W) {N n : Nat} {r : Nat → Nat} {cA : ClassId} {g : Nat → Nat → Int32} {i : Nat} {f : Nat → Int32} (h : i < N) (hD : va_D A ((X ++ yk_fam N r (fun i => .inl (cA, n, .inl (g i)))).set (X.length + i) (r i, .inl (cA, n, .inl f)))) : va_D A (X ++ yk_fam N r (fun j => .inl (cA, n, .inl (yk_upr g i f j)))) := by rw [← yk_fsi X h]; exact hD
theorem yk_fPl {D : va_G} {cl : List vw_C} {H : Heap} (X : va_W) {N n : Nat} {r : Nat → Nat} {cA : ClassId} {g : Nat → Nat → Int64} {i : Nat} {f : Nat → Int64} (h : i < N) (hP : va_P D cl ((X ++ yk_fam N r (fun i => .inl (cA, n, .inr (.inl (g i))))).set (X.length + i) (r i, .inl (cA, n, .inr (.inl f)))) H) : va_P D cl (X ++ yk_fam N r (fun j => .inl (cA, n, .inr (.inl (yk_upr g i f j))))) H := by rw [← yk_fsl X h]; exact hP
theorem yk_fDl {A : Nat → Prop} (X : va_W) {N n : Nat} {r : Nat → Nat} {cA : ClassId} {g : Nat → Nat → Int64} {i : Nat} {f : Nat → Int64} (h : i < N) (hD : va_D A ((X ++ yk_fam N r (fun i => .inl (cA, n, .inr (.inl (g i))))).set (X.length + i) (r i, .inl (cA, n, .inr (.inl f))))) : va_D A (X ++ yk_fam N r (fun j => .inl (cA, n, .inr (.inl (yk_upr g i f j))))) := by rw [← yk_fsl X h]; exact hD
theorem yk_ite {c : Prop} [Decidable c] (a b : Nat) : (if c then nI a else nI b) = nI (if c then a else b) := by split <;> rfl
theorem yk_wrap {la : Nat} (h : la < 25) : (if 25 ≤ nI (la + 1) then 0 else la + 1) < 25 := by
  split
  · decide
  · rename_i hc
    rcases Nat.lt_or_ge (la + 1) 25 with q | q
    · exact q
    · exact absurd (nI_le (a := 25) q (by omega)) hc
section YL
variable {p : Program} {l : Launch} {e : Env} {R : Room} {s : State} {m : MethodId} {args : Array Value} {below : List Frame} {meth : Method} {c : Code} {H : Heap} {locs : List Loc} {cells slots : Nat} {Q : State → Prop}
variable {cc : ByteArray} {pc : Nat} {ls : Array Slot} {rest : List Value} {D : va_G} {cl : List vw_C} {A : Nat → Prop} {a : Nat} {tys : List (ClassId × FieldType)} {ws : va_W} {H0 : Heap}
theorem yk_ti {x y : Int32} (h : x = y) (k : W p l e R s m args below meth c H locs cells slots Q (F0 m pc ls (.int y :: rest))) : W p l e R s m args below meth c H locs cells slots Q (F0 m pc ls (.int x :: rest)) := h ▸ k
theorem yk_tl {x y : Int64} (h : x = y) (k : W p l e R s m args below meth c H locs cells slots Q (F0 m pc ls (.long y :: rest))) : W p l e R s m args below meth c H locs cells slots Q (F0 m pc ls (.long x :: rest)) := h ▸ k
theorem yk_ild (hexec : p.tables.exec = Jvm.exec) (hb : c.code = cc) (hK : va_K D cl tys s) (hP : va_P D cl ws H) (q0 t0 : Nat) {cA : ClassId} {n : Nat} {f : Nat → Int32} (ha : ws[q0]? = some (a, .inl (cA, n, .inl f))) (ht : tys[t0]? = some (cA, .int)) (k : Nat) (hk : k < n) (hn : n < 2 ^ 31) (hdg : decode cc pc = .ok (.iaload, 1))
    (kk : W p l e R s m args below meth c H locs cells slots Q (F0 m (pc + 1) ls (.int (f k) :: rest))) : W p l e R s m args below meth c H locs cells slots Q (F0 m pc ls (.int (nI k) :: .ref a :: rest)) := by
  refine va_iald hexec hb hK hP q0 t0 ha ht (vp_in_nI hk hn) hdg ?_
  rw [nI_clamp (by omega)]
  exact kk
theorem yk_zld (hexec : p.tables.exec = Jvm.exec) (hb : c.code = cc) (hK : va_K D cl tys s) (hP : va_P D cl ws H) (q0 t0 : Nat) {cA : ClassId} {n : Nat} {f : Nat → Int32} (ha : ws[q0]? = some (a, .inl (cA, n, .inl f))) (ht : tys[t0]? = some (cA, .boolean)) (k : Nat) (hk : k < n) (hn : n < 2 ^ 31) (hdg : decode cc pc = .ok (.baload, 1))
    (kk : W p l e R s m args below meth c H locs cells slots Q (F0 m (pc + 1) ls (.int (f k) :: rest))) : W p l e R s m args below meth c H locs cells slots Q (F0 m pc ls (.int (nI k) :: .ref a :: rest)) := by
  refine va_zald hexec hb hK hP q0 t0 ha ht (vp_in_nI hk hn) hdg ?_
  rw [nI_clamp (by omega)]
  exact kk
theorem yk_lld (hexec : p.tables.exec = Jvm.exec) (hb : c.code = cc) (hK : va_K D cl tys s) (hP : va_P D cl ws H) (q0 t0 : Nat) {cA : ClassId} {n : Nat} {f : Nat → Int64} (ha : ws[q0]? = some (a, .inl (cA, n, .inr (.inl f)))) (ht : tys[t0]? = some (cA, .long)) (k : Nat) (hk : k < n) (hn : n < 2 ^ 31) (hdg : decode cc pc = .ok (.laload, 1))
    (kk : W p l e R s m args below meth c H locs cells slots Q (F0 m (pc + 1) ls (.long (f k) :: rest))) : W p l e R s m args below meth c H locs cells slots Q (F0 m pc ls (.int (nI k) :: .ref a :: rest)) := by
  refine va_lald hexec hb hK hP q0 t0 ha ht (vp_in_nI hk hn) hdg ?_
  rw [nI_clamp (by omega)]
  exact kk
theorem yk_ist (hexec : p.tables.exec = Jvm.exec) (hb : c.code = cc) (hK : va_K D cl tys s) (hP : va_P D cl ws H) (hD : va_D A ws) (hS : va_S A H0 H locs) (q0 t0 : Nat) {cA : ClassId} {n : Nat} {f : Nat → Int32} (ha : ws[q0]? = some (a, .inl (cA, n, .inl f))) (ht : tys[t0]? = some (cA, .int)) (k : Nat) {x : Int32} (hk : k < n) (hn : n < 2 ^ 31) (hdg : decode cc pc = .ok (.iastore, 1))
    (kk : ∀ (H1 : Heap) (locs1 : List Loc), va_P D cl (ws.set q0 (a, .inl (cA, n, .inl (upd f k x)))) H1 → va_D A (ws.set q0 (a, .inl (cA, n, .inl (upd f k x)))) → va_S A H0 H1 locs1 → W p l e R s m args below meth c H1 locs1 cells slots Q (F0 m (pc + 1) ls rest)) : W p l e R s m args below meth c H locs cells slots Q (F0 m pc ls (.int x :: .int (nI k) :: .ref a :: rest)) := by
  refine va_iast hexec hb hK hP hD hS q0 t0 ha ht (vp_in_nI hk hn) hdg ?_
  rw [nI_clamp (by omega)]
  exact kk
theorem yk_lst (hexec : p.tables.exec = Jvm.exec) (hb : c.code = cc) (hK : va_K D cl tys s) (hP : va_P D cl ws H) (hD : va_D A ws) (hS : va_S A H0 H locs) (q0 t0 : Nat) {cA : ClassId} {n : Nat} {f : Nat → Int64} (ha : ws[q0]? = some (a, .inl (cA, n, .inr (.inl f)))) (ht : tys[t0]? = some (cA, .long)) (k : Nat) {x : Int64} (hk : k < n) (hn : n < 2 ^ 31) (hdg : decode cc pc = .ok (.lastore, 1))
    (kk : ∀ (H1 : Heap) (locs1 : List Loc), va_P D cl (ws.set q0 (a, .inl (cA, n, .inr (.inl (vp_updL f k x))))) H1 → va_D A (ws.set q0 (a, .inl (cA, n, .inr (.inl (vp_updL f k x))))) → va_S A H0 H1 locs1 → W p l e R s m args below meth c H1 locs1 cells slots Q (F0 m (pc + 1) ls rest)) : W p l e R s m args below meth c H locs cells slots Q (F0 m pc ls (.long x :: .int (nI k) :: .ref a :: rest)) := by
  refine va_last hexec hb hK hP hD hS q0 t0 ha ht (vp_in_nI hk hn) hdg ?_
  rw [nI_clamp (by omega)]
  exact kk
theorem yk_aldq (hexec : p.tables.exec = Jvm.exec) (hb : c.code = cc) (hK : va_K D cl tys s) (hP : va_P D cl ws H) (q0 t0 : Nat) {cA : ClassId} {C : String} {n b : Nat} {f : Nat → Option Nat} (ha : ws[q0]? = some (a, .inl (cA, n, .inr (.inr (.inr (.inr f)))))) (ht : tys[t0]? = some (cA, .object C)) (k : Nat) (hk : k < n) (hn : n < 2 ^ 31) (hv : f k = some b) (hdg : decode cc pc = .ok (.aaload, 1))
    (kk : W p l e R s m args below meth c H locs cells slots Q (F0 m (pc + 1) ls (.ref b :: rest))) : W p l e R s m args below meth c H locs cells slots Q (F0 m pc ls (.int (nI k) :: .ref a :: rest)) := by
  refine va_aldq hexec hb hK hP q0 t0 ha ht (vp_in_nI hk hn) hdg ?_
  rw [nI_clamp (by omega), hv]
  exact kk
theorem yk_alda (hexec : p.tables.exec = Jvm.exec) (hb : c.code = cc) (hK : va_K D cl tys s) (hP : va_P D cl ws H) (q0 t0 : Nat) {cA : ClassId} {ty : FieldType} {n : Nat} {r : Nat → Nat} (ha : ws[q0]? = some (a, .inl (cA, n, .inr (.inr (.inr (.inr (fun i => if i < n then some (r i) else none))))))) (ht : tys[t0]? = some (cA, .array ty)) (k : Nat) (hk : k < n) (hn : n < 2 ^ 31) (hdg : decode cc pc = .ok (.aaload, 1))
    (kk : W p l e R s m args below meth c H locs cells slots Q (F0 m (pc + 1) ls (.ref (r k) :: rest))) : W p l e R s m args below meth c H locs cells slots Q (F0 m pc ls (.int (nI k) :: .ref a :: rest)) := by
  have hin : vp_in (nI k) n := vp_in_nI hk hn
  have hlt : (nI k).toNatClampNeg < n := Nat.not_le.mp fun q => hin (Or.inr q)
  refine W.aald (v := .ref (r k)) (ty := .array ty) hexec hb (hP q0 _ ha) ((hK.2 t0 _ ht).1 n (fun j => va_rf (if j < n then some (r j) else none))) rfl (fun q => by cases q) (by show ¬ (nI k < 0 ∨ (arrV _ _ _).slots.size ≤ _); rw [arrV_size]; exact hin) (by show (arrV _ _ _).slots[_]? = _; rw [arrV_read _ _ hlt, nI_clamp (by omega)]; show some (va_rf (if k < n then some (r k) else none)) = _; rw [if_pos hk]; rfl) rfl rfl hdg kk
theorem yk_cpy (hexec : p.tables.exec = Jvm.exec) (hb : c.code = cc) (hml : c.maxLocals = ls.size) {own : String} {index : Nat} (hown : s.vm.findClass own = some m.cls) (hlink : (Cond.methodLink own index arraycopyName).before args s = true) (hnat : (Cond.native arraycopyName).before args s = true) (hstat : (Cond.static arraycopyName).before args s = true) (hini : (Cond.initialized "java/lang/System").before args s = true)
    (hK : va_K D cl tys s) (hP : va_P D cl ws H) (hD : va_D A ws) (hS : va_S A H0 H locs) (q0 q1 : Nat) {a0 : Nat} {c0 : ClassId} {n0 n1 : Nat} {f g : Nat → Int32} (ha0 : ws[q0]? = some (a0, .inl (c0, n0, .inl f))) (ha1 : ws[q1]? = some (a, .inl (c0, n1, .inl g))) (ht0 : tys[0]? = some (c0, .int)) (_hh : True = True)
    {sp dp n : Nat} (h4 : sp + n ≤ n0 ∧ dp + n ≤ n1) (b1 : n0 < 2 ^ 31) (b2 : n1 < 2 ^ 31)
    (hframes : 1 ≤ R.frames) (hlocals : (rest.map fun v => v.category).sum + (nativeFrameWords "java/lang/System" "arraycopy" 5 + 11) ≤ R.locals) (hdg : decode cc pc = .ok (.invokestatic index, 3))
    (kk : ∀ (H1 : Heap) (locs1 : List Loc), va_P D cl (ws.set q1 (a, .inl (c0, n1, .inl (va_cpy f g sp dp n)))) H1 → va_D A (ws.set q1 (a, .inl (c0, n1, .inl (va_cpy f g sp dp n)))) → va_S A H0 H1 locs1 → W p l e R s m args below meth c H1 locs1 cells slots Q (F0 m (pc + 3) ls rest)) : W p l e R s m args below meth c H locs cells slots Q (F0 m pc ls (.int (nI n) :: .int (nI dp) :: .ref a :: .int (nI sp) :: .ref a0 :: rest)) := by
  have e1 : (nI sp).toNatClampNeg = sp := nI_clamp (by omega)
  have e2 : (nI dp).toNatClampNeg = dp := nI_clamp (by omega)
  have e3 : (nI n).toNatClampNeg = n := nI_clamp (by omega)
  refine va_copyi hexec hb hml hown hlink hnat hstat hini hK hP hD hS q0 q1 0 0 ha0 ha1 ht0 ht0 rfl (nI_pos (by omega)) (nI_pos (by omega)) (nI_pos (by omega)) (by rw [e1, e3]; exact h4.1) (by rw [e2, e3]; exact h4.2) (fun _ _ => rfl) hframes hlocals hdg ?_
  rw [e1, e2, e3]
  exact kk
end YL
abbrev vwCl : List vw_C := [(RX0, TX0, 3), (RX1, TX1, 2), (RX2, TX2, 3), (RX3, TX3, 1), (RX4, TX4, 3), (RX5, TX5, 3), (RX6, TX6, 1), (RX7, TX7, 13), (RX8, TX8, 23)]
/-- the classes of the arrays, by number -/
abbrev yk_ty (cy : Nat → ClassId) : List (ClassId × FieldType) := [(cy 0, .int), (cy 1, .long), (cy 2, .boolean), (cy 3, .object "FlowPlane$Flow"), (cy 4, .object "FlowPlane$Sheet"), (cy 5, .array .int), (cy 6, .array .long)]
theorem yk_nb {r : Int32} (h : r = 0 ∨ r = 1) : narrow .boolean (.int r) = .int r := by rcases h with rfl | rfl <;> rfl
theorem yk_inc (k : Nat) : nI k + Int32.ofInt 1 = nI (k + 1) := nI_1 k
theorem yk_incg (x : Int32) : x + Int32.ofInt 1 = x + 1 := rfl
theorem yk_decg (x : Int32) : x + Int32.ofInt (-1) = x - 1 := by
  rw [Int32.sub_eq_add_neg]
  rfl
theorem yk_lt {k n N : Nat} (hk : k + n = N) (hN : N < 2 ^ 31) (h : ¬ nI N ≤ nI k) : k < N := by
  rcases Nat.lt_or_ge k N with q | q
  · exact q
  · exact absurd (nI_le q (by omega)) h
/-- what an array of references holds -/
def yk_refs (l : List Nat) : Nat → Option Nat := fun i => l[i]?
theorem yk_pos {n : Nat} (h : ¬ nI n ≤ 0) : 1 ≤ n := by
  rcases Nat.eq_zero_or_pos n with q | q
  · subst q; exact absurd (by decide) h
  · exact q
theorem yk_off (k : Nat) (d : Int32) : nI k - d + 1 = nI (k + 1) - d := by
  rw [nI_succ, Int32.sub_eq_add_neg, Int32.sub_eq_add_neg, Int32.add_assoc, Int32.add_comm (-d) 1, ← Int32.add_assoc]
theorem yk_6 {k : Nat} (h : k < 2 ^ 30) : (nI k - 6).toInt = (k : Int) - 6 := pk_sub_toInt (b := 6) h (by decide)
theorem yk_lt6 {k n : Nat} (hk : k + n = 13) (h : ¬ (6 : Int32) < nI k - 6) : k < 13 := by
  rcases Nat.lt_or_ge k 13 with q | q
  · exact q
  · have : k = 13 := by omega
    subst this
    exact absurd (by decide) h
/-! static tables -/
def yk_TX (j : Nat) : Nat := [1, 3, 4, 6, 7, 8].getD j 0
def yk_TY (j : Nat) : Nat := [2, 4, 5, 7, 8, 9].getD j 0
def yk_AB (j : Nat) : Int32 := [-1, 0, 1, 0].getD j 0
theorem yk_tx {j : Nat} (h : j < 6) : yk_tab [1, 3, 4, 6, 7, 8] j = .int (nI (yk_TX j)) :=
  match j, h with
  | 0, _ => rfl
  | 1, _ => rfl
  | 2, _ => rfl
  | 3, _ => rfl
  | 4, _ => rfl
  | 5, _ => rfl
theorem yk_ty' {j : Nat} (h : j < 6) : yk_tab [2, 4, 5, 7, 8, 9] j = .int (nI (yk_TY j)) :=
  match j, h with
  | 0, _ => rfl
  | 1, _ => rfl
  | 2, _ => rfl
  | 3, _ => rfl
  | 4, _ => rfl
  | 5, _ => rfl
theorem yk_txb {j : Nat} (h : j < 6) : yk_TX j < 10 :=
  match j, h with
  | 0, _ => by decide
  | 1, _ => by decide
  | 2, _ => by decide
  | 3, _ => by decide
  | 4, _ => by decide
  | 5, _ => by decide
theorem yk_tyb {j : Nat} (h : j < 6) : yk_TY j < 10 :=
  match j, h with
  | 0, _ => by decide
  | 1, _ => by decide
  | 2, _ => by decide
  | 3, _ => by decide
  | 4, _ => by decide
  | 5, _ => by decide
theorem yk_ab (j : Nat) : yk_tab [-1, 0, 1, 0] j = .int (yk_AB j) := rfl
section YT
variable {p : Program} {l : Launch} {e : Env} {R : Room} {s : State} {m : MethodId} {args : Array Value} {below : List Frame} {meth : Method} {c : Code} {H : Heap} {locs : List Loc} {cells slots : Nat} {Q : State → Prop}
variable {cc : ByteArray} {pc : Nat} {ls : Array Slot} {rest : List Value} {A : Nat → Prop}
theorem yk_tld (hexec : p.tables.exec = Jvm.exec) (hb : c.code = cc) {t N : Nat} {f : Nat → Value} (hT : va_T .int t N f A s s.heap) (hS : va_S A s.heap H locs) (k : Nat) (hk : k < N) (hN : N < 2 ^ 31) {v : Int32} (hv : f k = .int v) (hdg : decode cc pc = .ok (.iaload, 1))
    (kk : W p l e R s m args below meth c H locs cells slots Q (F0 m (pc + 1) ls (.int v :: rest))) : W p l e R s m args below meth c H locs cells slots Q (F0 m pc ls (.int (nI k) :: .ref t :: rest)) := by
  refine va_ti hexec hb hT hS (vp_in_nI hk hN) (v := .int v) ?_ hdg kk
  rw [nI_clamp (by omega)]
  exact hv
end YT
