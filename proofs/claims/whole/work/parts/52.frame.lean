/-! a contract in a larger world -/
theorem yk_cons {l : Launch} {y : MethodName} {ws : List Cond} {rm : Room} {Pc Pc' : Array Value → State → Prop} {Qc Qc' : Array Value → State → Outcome → State → Prop} {mc ms : Nat} {free free' : Addr → Prop} (hM : Met l y ws rm Pc Qc mc ms free) (hp : ∀ a s, Pc' a s → Pc a s) (hq : ∀ a s o t, Pc' a s → Qc a s o t → Qc' a s o t) (hf : ∀ q, free q → free' q) : Met l y ws rm Pc' Qc' mc ms free' := by
  intro p e h1 h2 h3 s m args below h4 h5 h6 h7
  obtain ⟨n, o, a1, a2, a3, a4, L, a5, a6⟩ := hM p e h1 h2 h3 s m args below h4 h5 (hp _ _ h6) h7
  exact ⟨n, o, a1, a2, a3, hq _ _ _ _ h6 a4, L, a5, fun q h => hf _ (a6 q h)⟩
theorem yk_subP {D : va_G} {cl : List vw_C} {H : Heap} {ws wc : va_W} {isC : List Nat} (hC : isC.map (fun i => ws[i]?) = wc.map some) (hP : va_P D cl ws H) : va_P D cl wc H := by
  intro k q hq
  have h1 : (isC.map (fun i => ws[i]?))[k]? = some (some q) := by rw [hC, List.getElem?_map, hq]; rfl
  rw [List.getElem?_map] at h1
  cases hi : isC[k]? with
  | none => rw [hi] at h1; cases h1
  | some i => rw [hi] at h1; exact hP i q (Option.some.inj h1)
theorem yk_subA {ws wc : va_W} {sz : Nat} {isC : List Nat} (hC : isC.map (fun i => ws[i]?) = wc.map some) : ∀ q, va_A wc sz q → va_A ws sz q := by
  intro q h
  rcases h with ⟨k, e, h⟩ | h
  · have h1 : (isC.map (fun i => ws[i]?))[k]? = some (some (q, e)) := by rw [hC, List.getElem?_map, h]; rfl
    rw [List.getElem?_map] at h1
    cases hi : isC[k]? with
    | none => rw [hi] at h1; cases h1
    | some i => rw [hi] at h1; exact Or.inl ⟨i, e, Option.some.inj h1⟩
  · exact Or.inr h
section YFR
variable {l : Launch} {D : va_G} {cl : List vw_C} {tys : List (ClassId × FieldType)} {y : MethodName} {ws : List Cond} {fr lo : Nat} {av : List Value} {W0 wc w1 X Y X1 Y1 : va_W} {r : Int32}
theorem yk_frI (h : yk_Ci l D cl tys y ws fr lo av wc r w1) (isC : List Nat) (hn : va_nd isC = true) (hC : isC.map (fun i => W0[i]?) = wc.map some) (hw : w1.map (fun x => x.1) = wc.map (fun x => x.1)) : yk_Ci l D cl tys y ws fr lo av W0 r (yk_rep W0 isC w1) := by
  intro sz
  refine yk_cons (h sz) ?_ ?_ (yk_subA hC)
  · intro a s hp
    obtain ⟨p0, p1, p2, p3, p4, p5⟩ := hp
    exact ⟨p0, p1, yk_subP hC p2, p3, p4.sub isC hn hC, p5.step (State.WarmedH.refl s) (fun _ _ _ => rfl) (yk_subA hC)⟩
  · intro a s o t hp hq
    obtain ⟨p0, p1, p2, p3, p4, p5⟩ := hp
    obtain ⟨⟨x, u, q1, q2, q3, q4⟩, q5, q6⟩ := hq
    refine ⟨⟨x, u, q1, q2, ?_, q4⟩, q5, fun q g1 g2 => q6 q g1 (fun g3 => g2 (yk_subA hC q g3))⟩
    subst p1
    exact (yk_back p2 p4 isC hC hw q6 q3).1
/-- the world X, Y behind it -/
theorem yk_frL (h : yk_Ci l D cl tys y ws fr lo av X r X1) (hw : X1.map (fun x => x.1) = X.map (fun x => x.1)) : yk_Ci l D cl tys y ws fr lo av (X ++ Y) r (X1 ++ Y) := by
  have hA : ∀ sz q, va_A X sz q → va_A (X ++ Y) sz q := by
    intro sz q h
    rcases h with ⟨k, e, h⟩ | h
    · exact Or.inl ⟨k, e, by rw [List.getElem?_append_left ((List.getElem?_eq_some_iff.mp h).1)]; exact h⟩
    · exact Or.inr h
  intro sz
  refine yk_cons (h sz) ?_ ?_ (hA sz)
  · intro a s hp
    obtain ⟨p0, p1, p2, p3, p4, p5⟩ := hp
    refine ⟨p0, p1, fun k q hq => p2 k q (by rw [List.getElem?_append_left ((List.getElem?_eq_some_iff.mp hq).1)]; exact hq), p3, ⟨fun i j p q hi hj hpq => p4.1 i j p q (by rw [List.getElem?_append_left ((List.getElem?_eq_some_iff.mp hi).1)]; exact hi) (by rw [List.getElem?_append_left ((List.getElem?_eq_some_iff.mp hj).1)]; exact hj) hpq, fun _ _ _ => trivial⟩, p5.step (State.WarmedH.refl s) (fun _ _ _ => rfl) (hA sz)⟩
  · intro a s o t hp hq
    obtain ⟨p0, p1, p2, p3, p4, p5⟩ := hp
    obtain ⟨⟨x, u, q1, q2, q3, q4⟩, q5, q6⟩ := hq
    refine ⟨⟨x, u, q1, q2, ?_, q4⟩, q5, fun q g1 g2 => q6 q g1 (fun g3 => g2 (hA sz q g3))⟩
    subst p1
    refine va_P.app q3 (fun k q hk => ?_)
    have hk2 : (X ++ Y)[X.length + k]? = some q := by rw [List.getElem?_append_right (by omega), Nat.add_sub_cancel_left]; exact hk
    refine (p2 _ q hk2).kept (q6 q.1 ((p2 _ q hk2).lt) (fun g => ?_))
    rcases g with ⟨k3, e, g⟩ | g
    · have hl := (List.getElem?_eq_some_iff.mp g).1
      have := p4.1 (X.length + k) k3 q (q.1, e) hk2 (by rw [List.getElem?_append_left hl]; exact g) rfl
      omega
    · have := (p2 _ q hk2).lt
      omega
theorem yk_frR (h : yk_Ci l D cl tys y ws fr lo av Y r Y1) (hw : Y1.map (fun x => x.1) = Y.map (fun x => x.1)) : yk_Ci l D cl tys y ws fr lo av (X ++ Y) r (X ++ Y1) := by
  have hg : ∀ {k : Nat} {q : Nat × va_E}, Y[k]? = some q → (X ++ Y)[X.length + k]? = some q := fun h => by rw [List.getElem?_append_right (by omega), Nat.add_sub_cancel_left]; exact h
  have hA : ∀ sz q, va_A Y sz q → va_A (X ++ Y) sz q := by
    intro sz q h
    rcases h with ⟨k, e, h⟩ | h
    · exact Or.inl ⟨_, e, hg h⟩
    · exact Or.inr h
  intro sz
  refine yk_cons (h sz) ?_ ?_ (hA sz)
  · intro a s hp
    obtain ⟨p0, p1, p2, p3, p4, p5⟩ := hp
    refine ⟨p0, p1, fun k q hq => p2 _ q (hg hq), p3, ⟨fun i j p q hi hj hpq => ?_, fun _ _ _ => trivial⟩, p5.step (State.WarmedH.refl s) (fun _ _ _ => rfl) (hA sz)⟩
    have := p4.1 _ _ p q (hg hi) (hg hj) hpq
    omega
  · intro a s o t hp hq
    obtain ⟨p0, p1, p2, p3, p4, p5⟩ := hp
    obtain ⟨⟨x, u, q1, q2, q3, q4⟩, q5, q6⟩ := hq
    refine ⟨⟨x, u, q1, q2, ?_, q4⟩, q5, fun q g1 g2 => q6 q g1 (fun g3 => g2 (hA sz q g3))⟩
    subst p1
    refine va_P.app (fun k q hk => ?_) q3
    have hkl := (List.getElem?_eq_some_iff.mp hk).1
    have hk2 : (X ++ Y)[k]? = some q := by rw [List.getElem?_append_left hkl]; exact hk
    refine (p2 _ q hk2).kept (q6 q.1 ((p2 _ q hk2).lt) (fun g => ?_))
    rcases g with ⟨k3, e, g⟩ | g
    · have := p4.1 k (X.length + k3) q (q.1, e) hk2 (hg g) rfl
      omega
    · have := (p2 _ q hk2).lt
      omega
theorem yk_frT (h : yk_Ci l D cl tys y ws fr lo av (wc ++ Y) r (w1 ++ Y1)) (isC : List Nat) (hn : va_nd isC = true) (hC : isC.map (fun i => X[i]?) = wc.map some) (hw : w1.map (fun x => x.1) = wc.map (fun x => x.1)) (hy : Y1.map (fun x => x.1) = Y.map (fun x => x.1)) : yk_Ci l D cl tys y ws fr lo av (X ++ Y) r (yk_rep X isC w1 ++ Y1) := by
  intro sz
  have hA : ∀ q, va_A (wc ++ Y) sz q → va_A (X ++ Y) sz q := by
    intro q h
    rcases h with ⟨k, e, h⟩ | h
    · obtain ⟨i, hi, -⟩ := yk_outT hC h
      exact Or.inl ⟨i, e, hi⟩
    · exact Or.inr h
  refine yk_cons (h sz) ?_ ?_ hA
  · intro a s hp
    obtain ⟨p0, p1, p2, p3, p4, p5⟩ := hp
    exact ⟨p0, p1, yk_subPT hC p2, p3, yk_subDT hn hC p4, p5.step (State.WarmedH.refl s) (fun _ _ _ => rfl) hA⟩
  · intro a s o t hp hq
    obtain ⟨p0, p1, p2, p3, p4, p5⟩ := hp
    obtain ⟨⟨x, u, q1, q2, q3, q4⟩, q5, q6⟩ := hq
    refine ⟨⟨x, u, q1, q2, ?_, q4⟩, q5, fun q g1 g2 => q6 q g1 (fun g3 => g2 (hA q g3))⟩
    subst p1
    exact (yk_backT p2 p4 isC hC hw hy q6 q3).1
end YFR
