/-! calls over a world with a tail (a table's rows) that goes along whole -/
theorem yk_repL : ∀ (is : List Nat) (w1 X Y : va_W), (∀ i ∈ is, i < X.length) → yk_rep (X ++ Y) is w1 = yk_rep X is w1 ++ Y
  | [], _, X, Y, _ => by unfold yk_rep; rfl
  | i :: is, [], X, Y, _ => by unfold yk_rep; rfl
  | i :: is, x :: xs, X, Y, h => by
    unfold yk_rep
    rw [List.set_append_left _ _ (h i List.mem_cons_self)]
    exact yk_repL is xs (X.set i x) Y (fun j hj => by rw [List.length_set]; exact h j (List.mem_cons_of_mem _ hj))
theorem yk_in {X Xc : va_W} {isC : List Nat} (hC : isC.map (fun i => X[i]?) = Xc.map some) : ∀ i ∈ isC, i < X.length := by
  intro i hi
  have h1 : X[i]? ∈ isC.map (fun i => X[i]?) := List.mem_map_of_mem hi
  rw [hC] at h1
  obtain ⟨q, -, hq⟩ := List.mem_map.mp h1
  exact (List.getElem?_eq_some_iff.mp hq.symm).1
/-- a callee's cells, out of the caller's, by place -/
theorem yk_outT {X Y Xc : va_W} {isC : List Nat} (hC : isC.map (fun i => X[i]?) = Xc.map some) {k : Nat} {q : Nat × va_E} (hq : (Xc ++ Y)[k]? = some q) : ∃ i : Nat, (X ++ Y)[i]? = some q ∧ ((k < Xc.length ∧ isC[k]? = some i) ∨ (Xc.length ≤ k ∧ i = X.length + (k - Xc.length))) := by
  by_cases hk : k < Xc.length
  · rw [List.getElem?_append_left hk] at hq
    have h1 : (isC.map (fun i => X[i]?))[k]? = some (some q) := by rw [hC, List.getElem?_map, hq]; rfl
    rw [List.getElem?_map] at h1
    cases hi : isC[k]? with
    | none => rw [hi] at h1; cases h1
    | some i =>
      rw [hi] at h1
      have h2 : X[i]? = some q := Option.some.inj h1
      have h3 := (List.getElem?_eq_some_iff.mp h2).1
      exact ⟨i, by rw [List.getElem?_append_left h3]; exact h2, Or.inl ⟨hk, rfl⟩⟩
  · rw [List.getElem?_append_right (by omega)] at hq
    exact ⟨X.length + (k - Xc.length), by rw [List.getElem?_append_right (by omega), Nat.add_sub_cancel_left]; exact hq, Or.inr ⟨by omega, rfl⟩⟩
theorem yk_subPT {D : va_G} {cl : List vw_C} {H : Heap} {X Y Xc : va_W} {isC : List Nat} (hC : isC.map (fun i => X[i]?) = Xc.map some) (hP : va_P D cl (X ++ Y) H) : va_P D cl (Xc ++ Y) H := by
  intro k q hq
  obtain ⟨i, hi, -⟩ := yk_outT hC hq
  exact hP i q hi
theorem yk_subDT {A : Nat → Prop} {X Y Xc : va_W} {isC : List Nat} (hn : va_nd isC = true) (hC : isC.map (fun i => X[i]?) = Xc.map some) (hD : va_D A (X ++ Y)) : va_D A (Xc ++ Y) := by
  refine ⟨fun i j p q hi hj hpq => ?_, fun k q hq => ?_⟩
  · obtain ⟨i', hi', ci⟩ := yk_outT hC hi
    obtain ⟨j', hj', cj⟩ := yk_outT hC hj
    have hij := hD.1 i' j' p q hi' hj' hpq
    subst hij
    have hlt : ∀ k9 i9 : Nat, isC[k9]? = some i9 → i9 < X.length := fun k9 i9 h9 => yk_in hC i9 (List.mem_of_getElem? h9)
    rcases ci with ⟨ci1, ci2⟩ | ⟨ci1, ci2⟩ <;> rcases cj with ⟨cj1, cj2⟩ | ⟨cj1, cj2⟩
    · exact va_nd_inj isC hn i j i' ci2 cj2
    · have := hlt _ _ ci2; omega
    · have := hlt _ _ cj2; omega
    · omega
  · obtain ⟨i, hi, -⟩ := yk_outT hC hq
    exact hD.2 i q hi
theorem yk_freeT {A0 : Nat → Prop} {X Y Xc : va_W} {H0 H : Heap} {locs : List Loc} (hD : va_D A0 (X ++ Y)) (hS : va_S A0 H0 H locs) (hA : ∀ q, H0.size ≤ q → A0 q) {isC : List Nat} (hC : isC.map (fun i => X[i]?) = Xc.map some) : ∀ q, va_A (Xc ++ Y) H.size q → A0 q := by
  intro q h
  rcases h with ⟨k, e, h⟩ | h
  · obtain ⟨i, hi, -⟩ := yk_outT hC h
    exact hD.2 i (q, e) hi
  · exact hA q (Nat.le_trans hS.1 h)
theorem yk_backT {A0 : Nat → Prop} {D : va_G} {cl : List vw_C} {X Y Xc X1 Y1 : va_W} {H H1 : Heap} (hP : va_P D cl (X ++ Y) H) (hD : va_D A0 (X ++ Y)) (isC : List Nat) (hC : isC.map (fun i => X[i]?) = Xc.map some) (hw : X1.map (fun x => x.1) = Xc.map (fun x => x.1)) (hy : Y1.map (fun x => x.1) = Y.map (fun x => x.1))
    (hk : ∀ q : Nat, q < H.size → ¬ va_A (Xc ++ Y) H.size q → H1[q]? = H[q]?) (hP1 : va_P D cl (X1 ++ Y1) H1) : va_P D cl (yk_rep X isC X1 ++ Y1) H1 ∧ va_D A0 (yk_rep X isC X1 ++ Y1) := by
  have hlen : isC.length = X1.length := by
    have h1 := congrArg List.length hC
    have h2 := congrArg List.length hw
    simp only [List.length_map] at h1 h2
    omega
  have hX1 : va_P D cl X1 H1 := fun k q hq => hP1 k q (by rw [List.getElem?_append_left ((List.getElem?_eq_some_iff.mp hq).1)]; exact hq)
  have hY1 : va_P D cl Y1 H1 := fun k q hq => hP1 (X1.length + k) q (by rw [List.getElem?_append_right (by omega), Nat.add_sub_cancel_left]; exact hq)
  have hPX : va_P D cl (yk_rep X isC X1) H1 := by
    refine yk_repP isC X1 X hlen (fun k q hq hn => ?_) hX1
    have hq2 : (X ++ Y)[k]? = some q := by rw [List.getElem?_append_left ((List.getElem?_eq_some_iff.mp hq).1)]; exact hq
    refine (hP k q hq2).kept (hk q.1 ((hP k q hq2).lt) (fun h => ?_))
    rcases h with ⟨k2, e, h⟩ | h
    · obtain ⟨i, hi, ci⟩ := yk_outT hC h
      have hij := hD.1 k i q (q.1, e) hq2 hi rfl
      subst hij
      rcases ci with ⟨-, c2⟩ | ⟨c1, c2⟩
      · exact hn (List.mem_of_getElem? c2)
      · have := (List.getElem?_eq_some_iff.mp hq).1
        omega
    · have := (hP k q hq2).lt
      omega
  refine ⟨hPX.app hY1, ?_⟩
  -- the addresses are as before
  have hDX : va_D A0 X := ⟨fun i j p q hi hj hpq => hD.1 i j p q (by rw [List.getElem?_append_left ((List.getElem?_eq_some_iff.mp hi).1)]; exact hi) (by rw [List.getElem?_append_left ((List.getElem?_eq_some_iff.mp hj).1)]; exact hj) hpq, fun k q hq => hD.2 k q (by rw [List.getElem?_append_left ((List.getElem?_eq_some_iff.mp hq).1)]; exact hq)⟩
  have hDR : va_D A0 (yk_rep X isC X1) := by
    refine yk_repD isC X1 X ?_ hDX
    have h1 : isC.map (fun i => (X[i]?).map (fun x => x.1)) = (isC.map (fun i => X[i]?)).map (fun o => o.map (fun x => x.1)) := by
      rw [List.map_map]
      rfl
    have h2 : X1.map (fun x => some x.1) = (X1.map (fun x => x.1)).map some := by
      rw [List.map_map]
      rfl
    rw [h1, hC, List.map_map, h2, hw, List.map_map]
    rfl
  have hfstX : ∀ (is : List Nat) (w X : va_W), is.map (fun i => (X[i]?).map (fun x => x.1)) = w.map (fun x => some x.1) → (yk_rep X is w).map (fun x => x.1) = X.map (fun x => x.1) := by
    intro is
    induction is with
    | nil => intro w X _; unfold yk_rep; rfl
    | cons i is ih =>
      intro w X h
      cases w with
      | nil => cases h
      | cons x xs =>
        unfold yk_rep
        rw [List.map_cons, List.map_cons] at h
        have e1 := (List.cons.inj h).1
        have e2 := (List.cons.inj h).2
        cases hi : X[i]? with
        | none => rw [hi] at e1; cases e1
        | some y =>
          rw [hi] at e1
          have e3 : y.1 = x.1 := Option.some.inj e1
          have hlt := (List.getElem?_eq_some_iff.mp hi).1
          have hset : (X.set i x).map (fun x => x.1) = X.map (fun x => x.1) := by
            rw [List.map_set, ← e3]
            apply List.ext_getElem?
            intro k
            by_cases hk : k = i
            · subst hk
              rw [List.getElem?_set_self (by rw [List.length_map]; exact hlt), List.getElem?_map, hi]
              rfl
            · rw [List.getElem?_set_ne (Ne.symm hk)]
          rw [ih xs (X.set i x) ?_, hset]
          rw [← e2]
          refine List.map_congr_left (fun j _ => ?_)
          have h9 : ((X.set i x).map (fun x => x.1))[j]? = (X.map (fun x => x.1))[j]? := by rw [hset]
          rw [List.getElem?_map, List.getElem?_map] at h9
          exact h9
  have hfX : (yk_rep X isC X1).map (fun x => x.1) = X.map (fun x => x.1) := by
    refine hfstX isC X1 X ?_
    have h1 : isC.map (fun i => (X[i]?).map (fun x => x.1)) = (isC.map (fun i => X[i]?)).map (fun o => o.map (fun x => x.1)) := by
      rw [List.map_map]
      rfl
    have h2 : X1.map (fun x => some x.1) = (X1.map (fun x => x.1)).map some := by
      rw [List.map_map]
      rfl
    rw [h1, hC, List.map_map, h2, hw, List.map_map]
    rfl
  have hall : (yk_rep X isC X1 ++ Y1).map (fun x => x.1) = (X ++ Y).map (fun x => x.1) := by rw [List.map_append, List.map_append, hfX, hy]
  have hget : ∀ (k : Nat) (q : Nat × va_E), (yk_rep X isC X1 ++ Y1)[k]? = some q → ∃ q', (X ++ Y)[k]? = some q' ∧ q'.1 = q.1 := by
    intro k q hq
    have h1 : ((yk_rep X isC X1 ++ Y1).map (fun x => x.1))[k]? = some q.1 := by rw [List.getElem?_map, hq]; rfl
    rw [hall, List.getElem?_map] at h1
    cases hz : (X ++ Y)[k]? with
    | none => rw [hz] at h1; cases h1
    | some z => rw [hz] at h1; exact ⟨z, rfl, Option.some.inj h1⟩
  refine ⟨fun i j p q hi hj hpq => ?_, fun k q hq => ?_⟩
  · obtain ⟨p', hp', ep⟩ := hget i p hi
    obtain ⟨q', hq', eq⟩ := hget j q hj
    exact hD.1 i j p' q' hp' hq' (by rw [ep, eq]; exact hpq)
  · obtain ⟨q', hq', eq⟩ := hget k q hq
    rw [← eq]
    exact hD.2 k q' hq'
theorem yk_ff (N : Nat) (r : Nat → Nat) (F G : Nat → va_E) : (yk_fam N r F).map (fun x => x.1) = (yk_fam N r G).map (fun x => x.1) := by
  unfold yk_fam
  rw [List.map_map, List.map_map]
  rfl
section YKT
variable {p : Program} {l : Launch} {e : Env} {R : Room} {s : State} {m : MethodId} {args : Array Value} {below : List Frame} {meth : Method} {c : Code} {H : Heap} {locs : List Loc} {Q : State → Prop}
variable {cc : ByteArray} {pc : Nat} {ls : Array Slot} {rest st0 : List Value} {D : va_G} {cl : List vw_C} {A : Nat → Prop} {tys : List (ClassId × FieldType)} {X Y Xc X1 Y1 : va_W} {H0 : Heap} {a : Array Value} {cells slots : Nat}
theorem yk_iT {r : Int32} (isC : List Nat) (hr : va_Run p l e R s m args below meth c H locs cells slots 0 0 (F0 m pc ls st0) rest (va_Qi (fun x (_ : Unit) => x = r) (fun _ t => yk_Po D cl tys (X1 ++ Y1) t) (va_A (Xc ++ Y) H.size) a) (va_A (Xc ++ Y) H.size)) (hP : va_P D cl (X ++ Y) H) (hD : va_D A (X ++ Y)) (hS : va_S A H0 H locs) (hA : ∀ q, H0.size ≤ q → A q) (hC : isC.map (fun i => X[i]?) = Xc.map some) (hw : X1.map (fun x => x.1) = Xc.map (fun x => x.1)) (hy : Y1.map (fun x => x.1) = Y.map (fun x => x.1))
    (kk : ∀ (H1 : Heap) (locs1 : List Loc), va_P D cl (yk_rep X isC X1 ++ Y1) H1 → va_D A (yk_rep X isC X1 ++ Y1) → va_S A H0 H1 locs1 → W p l e R s m args below meth c H1 locs1 cells slots Q (F0 m (pc + 3) ls (.int r :: rest))) : W p l e R s m args below meth c H locs cells slots Q (F0 m pc ls st0) := by
  have hF := yk_freeT (Xc := Xc) hD hS hA hC
  refine va_calli hr hS (fun q _ h => hF q h) hF (fun r u t H1 locs1 ht hvm hw1 hB hz1 hk1 hS1 => ?_)
  subst hw1
  obtain ⟨hP1, hK1⟩ := hB
  rw [ht] at hP1
  obtain ⟨hP2, hD2⟩ := yk_backT hP hD isC hC hw hy hk1 hP1
  exact kk H1 locs1 hP2 hD2 hS1
theorem yk_vT (isC : List Nat) (hr : va_Run p l e R s m args below meth c H locs cells slots 0 0 (F0 m pc ls st0) rest (va_Qv (fun (_ : Unit) => True) (fun _ t => yk_Po D cl tys (X1 ++ Y1) t) (va_A (Xc ++ Y) H.size) a) (va_A (Xc ++ Y) H.size)) (hP : va_P D cl (X ++ Y) H) (hD : va_D A (X ++ Y)) (hS : va_S A H0 H locs) (hA : ∀ q, H0.size ≤ q → A q) (hC : isC.map (fun i => X[i]?) = Xc.map some) (hw : X1.map (fun x => x.1) = Xc.map (fun x => x.1)) (hy : Y1.map (fun x => x.1) = Y.map (fun x => x.1))
    (kk : ∀ (H1 : Heap) (locs1 : List Loc), va_P D cl (yk_rep X isC X1 ++ Y1) H1 → va_D A (yk_rep X isC X1 ++ Y1) → va_S A H0 H1 locs1 → W p l e R s m args below meth c H1 locs1 cells slots Q (F0 m (pc + 3) ls rest)) : W p l e R s m args below meth c H locs cells slots Q (F0 m pc ls st0) := by
  have hF := yk_freeT (Xc := Xc) hD hS hA hC
  refine va_callv hr hS (fun q _ h => hF q h) hF (fun u t H1 locs1 ht hvm hw1 hB hz1 hk1 hS1 => ?_)
  obtain ⟨hP1, hK1⟩ := hB
  rw [ht] at hP1
  obtain ⟨hP2, hD2⟩ := yk_backT hP hD isC hC hw hy hk1 hP1
  exact kk H1 locs1 hP2 hD2 hS1
theorem yk_psT {As : List Value} (hG : yk_G A s s.heap) (hA : ∀ q, s.heap.size ≤ q → A q) (hS : va_S A s.heap H locs) (hK : va_K D cl tys s) (hP : va_P D cl (X ++ Y) H) (hD : va_D A (X ++ Y)) (isC : List Nat) (hn : va_nd isC = true) (hC : isC.map (fun i => X[i]?) = Xc.map some) : PreS s H (va_Pc As (yk_Pre D cl tys (Xc ++ Y) H.size)) As := by
  have hPc := yk_subPT hC hP
  have hDc := yk_subDT hn hC hD
  exact ⟨yk_blind, fun U hU hW => ⟨rfl, by rw [hU], by rw [hU]; exact hPc, va_K.moved hW.alike hK, hDc.weaken (fun _ _ _ _ => trivial), by rw [hU]; exact hG.step hW hS.2.1 (yk_freeT hD hS hA hC)⟩⟩
theorem yk_pvT {As : List Value} {b ci : Nat} {fs : List Value} {q : vw_C} (hG : yk_G A s s.heap) (hA : ∀ q, s.heap.size ≤ q → A q) (hS : va_S A s.heap H locs) (hK : va_K D cl tys s) (hP : va_P D cl (X ++ Y) H) (hD : va_D A (X ++ Y)) (isC : List Nat) (hn : va_nd isC = true) (hC : isC.map (fun i => X[i]?) = Xc.map some) (h0 : (Xc ++ Y)[0]? = some (b, .inr (ci, fs))) (hq : cl[ci]? = some q) : PreV s H q.1 b (va_Pc (.ref b :: As) (yk_Pre D cl tys (Xc ++ Y) H.size)) As := by
  obtain ⟨h1, h2⟩ := yk_psT (As := .ref b :: As) hG hA hS hK hP hD isC hn hC
  exact ⟨h1, va_recv hK (yk_subPT hC hP) (ci := ci) (q0 := 0) hq h0, h2⟩
end YKT
