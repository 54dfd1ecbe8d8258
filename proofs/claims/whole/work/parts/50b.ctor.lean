/-! what constructors lean on: links between nest mates, array classes; contracts of methods that make cells -/
def yk_N (U : State) : Prop := va_Nw (.methodLinkNest RX7 9 yX1_init "FlowPlane") U ∧ va_Nw (.methodLinkNest RX1 11 yX3_init "FlowPlane") U ∧ va_Nw (.methodLinkNest RX7 21 yX0_init "FlowPlane") U ∧ va_Nw (.methodLinkNest RX7 28 yX2_init "FlowPlane") U ∧ va_Nw (.methodLinkNest RX7 47 yX5_init "FlowPlane") U ∧ va_Nw (.methodLinkNest RX7 50 yX4_init "FlowPlane") U ∧ va_Nw (.methodLinkNest RX7 66 yX6_init "FlowPlane") U ∧ va_AO "FlowPlane$Flow" U ∧ va_AO "FlowPlane$Sheet" U ∧ va_AOA .int U ∧ va_AOA .long U
theorem yk_N.warm {s U : State} (hW : s.WarmedH U.vm) (h : yk_N s) : yk_N U := by
  obtain ⟨h1, h2, h3, h4, h5, h6, h7, h8, h9, h10, h11⟩ := h
  exact ⟨va_Nw.warmM hW h1, va_Nw.warmM hW h2, va_Nw.warmM hW h3, va_Nw.warmM hW h4, va_Nw.warmM hW h5, va_Nw.warmM hW h6, va_Nw.warmM hW h7, h8.moved hW.alike, h9.moved hW.alike, h10.moved hW.alike, h11.moved hW.alike⟩
theorem yk_N.same {u U : State} (h : yk_N u) (e : u.vm = U.vm) : yk_N U := by
  have hvm : u.vm.Alike U.vm := by rw [e]; exact Vm.Alike.refl _
  obtain ⟨h1, h2, h3, h4, h5, h6, h7, h8, h9, h10, h11⟩ := h
  exact ⟨va_Nw.same rfl e h1, va_Nw.same rfl e h2, va_Nw.same rfl e h3, va_Nw.same rfl e h4, va_Nw.same rfl e h5, va_Nw.same rfl e h6, va_Nw.same rfl e h7, h8.moved hvm, h9.moved hvm, h10.moved hvm, h11.moved hvm⟩
def yk_PreN (D : va_G) (cl : List vw_C) (tys : List (ClassId × FieldType)) (W0 : va_W) (sz : Nat) : State → Prop := fun U => yk_Pre D cl tys W0 sz U ∧ yk_N U
theorem yk_blindN {D : va_G} {cl : List vw_C} {tys : List (ClassId × FieldType)} {W0 : va_W} {sz : Nat} {av : List Value} : FrameBlind (va_Pc av (yk_PreN D cl tys W0 sz)) := fun a U g mk q => by
  obtain ⟨q0, q1, q2⟩ := q
  exact ⟨q0, (yk_blind (av := av) a U g mk ⟨q0, q1⟩).2, yk_N.same (u := U) (U := U.calling g mk a) q2 rfl⟩
def yk_Cn (l : Launch) (D : va_G) (cl : List vw_C) (tys : List (ClassId × FieldType)) (y : MethodName) (ws : List Cond) (fr lo mc ms : Nat) (av : List Value) (W0 : va_W) (W1 : (Nat → Nat) → va_W) : Prop :=
  ∀ sz : Nat, Met l y ws { frames := fr, cells := mc, slots := ms, locals := lo } (va_Pc av (yk_PreN D cl tys W0 sz)) (va_Qv (fun (_ : Nat → Nat) => True) (fun u t => yk_Po D cl tys (W1 u) t ∧ va_D (va_A W0 sz) (W1 u)) (va_A W0 sz)) mc ms (va_A W0 sz)
section YN
variable {p : Program} {l : Launch} {e : Env} {R : Room} {s : State} {m : MethodId} {args : Array Value} {below : List Frame} {meth : Method} {c : Code} {H : Heap} {locs : List Loc} {Q : State → Prop}
variable {cc : ByteArray} {pc : Nat} {ls : Array Slot} {rest st0 : List Value} {D : va_G} {cl : List vw_C} {A : Nat → Prop} {tys : List (ClassId × FieldType)} {ws wc w1 : va_W} {H0 : Heap} {a : Array Value} {cells slots : Nat}
theorem yk_psN {As : List Value} {x : Nat × va_E} {X : va_W} (hN : yk_N s) (hG : yk_G A s s.heap) (hA : ∀ q, s.heap.size ≤ q → A q) (hS : va_S A s.heap H locs) (hK : va_K D cl tys s) (hP : va_P D cl (X ++ [x]) H) (hD : va_D A (X ++ [x])) : PreS s H (va_Pc As (yk_PreN D cl tys [x] H.size)) As := by
  have hx : (X ++ [x])[X.length]? = some x := by
    rw [List.getElem?_append_right (Nat.le_refl _), Nat.sub_self]
    rfl
  obtain ⟨h1, h2⟩ := yk_ps (wc := [x]) (As := As) hG hA hS hK hP hD [X.length] rfl (by rw [List.map_cons, hx]; rfl)
  refine ⟨yk_blindN, fun U hU hW => ⟨(h2 U hU hW).1, (h2 U hU hW).2, hN.warm hW⟩⟩
/-- behind a constructor: its object's cell and the cells that it made stand last -/
theorem yk_n {X : va_W} {x : Nat × va_E} {mc ms cells' slots' : Nat} {W1 : (Nat → Nat) → va_W} (hr : va_Run p l e R s m args below meth c H locs cells slots mc ms (F0 m pc ls st0) rest (va_Qv (fun (_ : Nat → Nat) => True) (fun u t => yk_Po D cl tys (W1 u) t ∧ va_D (va_A [x] H.size) (W1 u)) (va_A [x] H.size) a) (va_A [x] H.size)) (hP : va_P D cl (X ++ [x]) H) (hD : va_D A (X ++ [x])) (hS : va_S A H0 H locs) (hA : ∀ q, H0.size ≤ q → A q) (hc : cells + mc = cells') (hs : slots + ms = slots')
    (kk : ∀ (u : Nat → Nat) (H1 : Heap) (locs1 : List Loc), va_P D cl (X ++ W1 u) H1 → va_D A (X ++ W1 u) → va_S A H0 H1 locs1 → W p l e R s m args below meth c H1 locs1 cells' slots' Q (F0 m (pc + 3) ls rest)) : W p l e R s m args below meth c H locs cells slots Q (F0 m pc ls st0) := by
  subst hc
  subst hs
  have hx : (X ++ [x])[X.length]? = some x := by
    rw [List.getElem?_append_right (Nat.le_refl _), Nat.sub_self]
    rfl
  have hF : ∀ q, va_A [x] H.size q → A q := va_free (wc := [x]) hD hS hA [X.length] (by rw [List.map_cons, hx]; rfl)
  refine va_callv hr hS (fun q _ h => hF q h) hF (fun u t H1 locs1 ht hvm hw1 hB hz1 hk1 hS1 => ?_)
  obtain ⟨⟨hP1, hK1⟩, hD1⟩ := hB
  rw [ht] at hP1
  have apart : ∀ (k : Nat) (q : Nat × va_E), X[k]? = some q → q.1 < H.size ∧ ¬ va_A [x] H.size q.1 := by
    intro k q hq
    have hkl : k < X.length := (List.getElem?_eq_some_iff.mp hq).1
    have hq' : (X ++ [x])[k]? = some q := by rw [List.getElem?_append_left hkl]; exact hq
    have hl := (hP k q hq').lt
    refine ⟨hl, fun h => ?_⟩
    rcases h with ⟨k2, e2, h⟩ | h
    · have h0 : k2 < 1 := (List.getElem?_eq_some_iff.mp h).1
      rw [show k2 = 0 by omega] at h
      have hxe : x = (q.1, e2) := Option.some.inj h
      have := hD.1 k X.length q x hq' hx (by rw [hxe])
      omega
    · omega
  refine kk u H1 locs1 (va_P.app (fun k q hq => ?_) hP1) (va_D.app ?_ (hD1.weaken (fun k q _ h => hF q.1 h)) (fun i j x9 y9 hx9 hy9 hxy => ?_)) hS1
  · have hkl : k < X.length := (List.getElem?_eq_some_iff.mp hq).1
    obtain ⟨g1, g2⟩ := apart k q hq
    exact (hP k q (by rw [List.getElem?_append_left hkl]; exact hq)).kept (hk1 q.1 g1 g2)
  · refine ⟨fun i j p9 q9 hi hj hpq => ?_, fun k q hq => ?_⟩
    · exact hD.1 i j p9 q9 (by rw [List.getElem?_append_left (List.getElem?_eq_some_iff.mp hi).1]; exact hi) (by rw [List.getElem?_append_left (List.getElem?_eq_some_iff.mp hj).1]; exact hj) hpq
    · exact hD.2 k q (by rw [List.getElem?_append_left (List.getElem?_eq_some_iff.mp hq).1]; exact hq)
  · exact (apart i x9 hx9).2 (by rw [hxy]; exact hD1.2 j y9 hy9)
/-- new int[], long[], boolean[] -/
theorem yk_newA {atype : ArrayType} {cells' slots' t0 : Nat} {cA : ClassId} {ty : FieldType} (hexec : p.tables.exec = Jvm.exec) (hb : c.code = cc) (harr : (Cond.arrayClass (newarray.typeOf atype)).before args s = true) (hty : newarray.typeOf atype = ty) (hra : ∀ c9, va_RA s c9 ty → s.vm.findClass ("[" ++ ty.toString) = some c9) (hK : va_K D cl tys s) (ht : tys[t0]? = some (cA, ty)) (hP : va_P D cl ws H) (hD : va_D A ws) (hS : va_S A H0 H locs) (hA : ∀ q, H0.size ≤ q → A q)
    {n : Int32} {N' : Nat} {a0 : vp_A} (ha : ∀ cA : ClassId, vp_cell cA a0 = arrV cA N' (fun _ => defaultValue ty)) (hn : ¬ n < 0) (hN : n.toNatClampNeg = N') (hbytes : N' * componentBytes ty ≤ 536870912) (hcells : cells + 1 ≤ R.cells) (hslots : slots + N' ≤ R.slots) (hc : cells + 1 = cells') (hs : slots + N' = slots') (hdg : decode cc pc = .ok (.newarray atype, 2))
    (kk : ∀ (q : Nat) (H1 : Heap), va_P D cl (ws ++ [(q, .inl (cA, a0))]) H1 → va_D A (ws ++ [(q, .inl (cA, a0))]) → va_S A H0 H1 locs →
      W p l e R s m args below meth c H1 locs cells' slots' Q (F0 m (pc + 2) ls (.ref q :: rest))) : W p l e R s m args below meth c H locs cells slots Q (F0 m pc ls (.int n :: rest)) := by
  subst hc
  subst hs
  refine va_newa hexec hb harr hty hK hP hD hS hA ha hn hN hbytes hcells hslots hdg (fun q cA1 H1 hK1 hP1 hD1 hS1 => ?_)
  have e1 := hra _ (hK1.2 tys.length (cA1, ty) (by rw [List.getElem?_append_right (Nat.le_refl _), Nat.sub_self]; rfl)).2
  have e2 := hra _ (hK.2 t0 _ ht).2
  have e3 : cA1 = cA := Option.some.inj (e1.symm.trans e2)
  subst e3
  exact kk q H1 hP1 hD1 hS1
/-- new T[n] -/
theorem yk_newQ {own C : String} {index cells' slots' t0 : Nat} {cA : ClassId} (hexec : p.tables.exec = Jvm.exec) (hb : c.code = cc) (hown : s.vm.findClass own = some m.cls) (hclink : (Cond.classLink own index C).before args s = true) (hover : va_AO C s) (hK : va_K D cl tys s) (ht : tys[t0]? = some (cA, .object C)) (hP : va_P D cl ws H) (hD : va_D A ws) (hS : va_S A H0 H locs) (hA : ∀ q, H0.size ≤ q → A q)
    {n : Int32} {N' : Nat} (hn : ¬ n < 0) (hN : n.toNatClampNeg = N') (hbytes : N' * 4 ≤ 536870912) (hcells : cells + 1 ≤ R.cells) (hslots : slots + N' ≤ R.slots) (hc : cells + 1 = cells') (hs : slots + N' = slots') (hdg : decode cc pc = .ok (.anewarray index, 3))
    (kk : ∀ (q : Nat) (H1 : Heap), va_P D cl (ws ++ [(q, .inl (cA, N', .inr (.inr (.inr (.inr (fun _ => none))))))]) H1 → va_D A (ws ++ [(q, .inl (cA, N', .inr (.inr (.inr (.inr (fun _ => none))))))]) → va_S A H0 H1 locs →
      W p l e R s m args below meth c H1 locs cells' slots' Q (F0 m (pc + 3) ls (.ref q :: rest))) : W p l e R s m args below meth c H locs cells slots Q (F0 m pc ls (.int n :: rest)) := by
  subst hc
  subst hs
  refine va_newq hexec hb hown hclink hover hK hP hD hS hA hn hN hbytes hcells hslots hdg (fun q cA1 H1 hK1 hP1 hD1 hS1 => ?_)
  obtain ⟨-, -, -, -, -, e1⟩ := (hK1.2 tys.length (cA1, .object C) (by rw [List.getElem?_append_right (Nat.le_refl _), Nat.sub_self]; rfl)).2
  obtain ⟨-, -, -, -, -, e2⟩ := (hK.2 t0 _ ht).2
  have e3 : cA1 = cA := Option.some.inj (e1.symm.trans e2)
  subst e3
  exact kk q H1 hP1 hD1 hS1
/-- new T() -/
theorem yk_newO {c0 : Code} {cells' slots' : Nat} (hexec : p.tables.exec = Jvm.exec) (hb : c0.code = cc) {own C : String} {T : u_T} {N ci index : Nat} {Ts : List Cond} (hts : ∀ w ∈ Ts, w.before args s = true) (hin : ∀ w ∈ u_ws C T N, w ∈ Ts) (ty : Nat → FieldType) (hty : ∀ k, k < N → parseFieldDescriptor (T k).2.2.1 = some (ty k)) (hown : s.vm.findClass own = some m.cls) (hcl : (Cond.classLink own index C).before args s = true) (hinst : (Cond.instantiable C N).before args s = true) (hini : (Cond.initialized C).before args s = true)
    (hK : va_K D cl tys s) (hP : va_P D cl ws H) (hD : va_D A ws) (hS : va_S A H0 H locs) (hA : ∀ q, H0.size ≤ q → A q) (hc : cl[ci]? = some (C, T, N)) {fs : List Value} (hfs : ∀ j, j < N → defaultValue (ty j) = vp_V fs j) (hcells : cells + 1 ≤ R.cells) (hslots : slots + N ≤ R.slots) (hcc : cells + 1 = cells') (hss : slots + N = slots') (hdg : decode cc pc = .ok (.new index, 3))
    (kk : ∀ (q : Nat) (H1 : Heap), va_P D cl (ws ++ [(q, .inr (ci, fs))]) H1 → va_D A (ws ++ [(q, .inr (ci, fs))]) → va_S A H0 H1 locs →
      W p l e R s m args below meth c0 H1 locs cells' slots' Q (F0 m (pc + 3) ls (.ref q :: rest))) : W p l e R s m args below meth c0 H locs cells slots Q (F0 m pc ls rest) := by
  subst hcc
  subst hss
  exact va_new hexec hb hts hin ty hty hown hcl hinst hini hK hP hD hS hA hc hfs hcells hslots hdg kk
/-- new T[n][m] -/
theorem yk_mna {cells' slots' t0 t1 : Nat} {cA cB : ClassId} {own : String} {index : Nat} {ty : FieldType} (hexec : p.tables.exec = Jvm.exec) (hb : c.code = cc) (hown : s.vm.findClass own = some m.cls) (hclink : (Cond.classLink own index ("[" ++ (FieldType.array ty).toString)).before args s = true) (hover : va_AOA ty s) (harr : (Cond.arrayClass ty).before args s = true)
    (hra : ∀ c9, va_RA s c9 ty → s.vm.findClass (FieldType.array ty).toString = some c9) (hK : va_K D cl tys s) (ht : tys[t0]? = some (cA, .array ty)) (ht1 : tys[t1]? = some (cB, ty)) (hP : va_P D cl ws H) (hD : va_D A ws) (hS : va_S A H0 H locs) (hA : ∀ q, H0.size ≤ q → A q) {n k : Int32} {N' K' : Nat} {z : vp_A} (hn : ¬ n < 0) (hk : ¬ k < 0) (hN : n.toNatClampNeg = N') (hM : k.toNatClampNeg = K')
    (hb1 : N' * 4 ≤ 536870912) (hb2 : K' * componentBytes ty ≤ 536870912) (hb3 : K' ≤ 536870912) (hdf : fits ty (defaultValue ty) = true) (hdd : (defaultValue ty).isDefault = true) (hcells : cells + (1 + N') ≤ R.cells) (hslots : slots + (N' + N' * K') ≤ R.slots) (hcc : cells + 1 + N' = cells') (hss : slots + N' + N' * K' = slots') (hz : ∀ c : ClassId, Jvm.Free.Multi.innerC c K' (defaultValue ty) = vp_cell c z) (hdg : decode cc pc = .ok (.multianewarray index 2, 4))
    (kk : ∀ (q : Nat) (r : Nat → Nat) (H1 : Heap), va_P D cl ((ws ++ [(q, .inl (cA, N', .inr (.inr (.inr (.inr (fun i => if i < N' then some (r i) else none))))))]) ++ yk_fam N' r (fun _ => .inl (cB, z))) H1 → va_D A ((ws ++ [(q, .inl (cA, N', .inr (.inr (.inr (.inr (fun i => if i < N' then some (r i) else none))))))]) ++ yk_fam N' r (fun _ => .inl (cB, z))) → va_S A H0 H1 locs →
      W p l e R s m args below meth c H1 locs cells' slots' Q (F0 m (pc + 4) ls (.ref q :: rest))) : W p l e R s m args below meth c H locs cells slots Q (F0 m pc ls (.int k :: .int n :: rest)) := by
  subst hcc
  subst hss
  have hcy := hra _ (hK.2 t1 _ ht1).2
  have e0 : ws ++ va_pl [] (fun _ => .inl (cB, z)) = ws := List.append_nil ws
  refine va_mna (X := ws) (L := []) (f := fun _ => .inl (cB, z)) (z := z) hexec hb hown hclink hover harr hcy hK (by rw [e0]; exact hP) (by rw [e0]; exact hD) hS hA hn hk hN hM hb1 hb2 hb3 hdf hdd hcells hslots hz hdg (fun q r cA1 H1 hr1 hr2 hK1 hP1 hD1 hS1 => ?_)
  have e1 : s.vm.findClass ("[" ++ (FieldType.array ty).toString) = some cA1 := (hK1.2 tys.length (cA1, .array ty) (by rw [List.getElem?_append_right (Nat.le_refl _), Nat.sub_self]; rfl)).2
  have e2 : s.vm.findClass ("[" ++ (FieldType.array ty).toString) = some cA := (hK.2 t0 _ ht).2
  have e3 : cA1 = cA := Option.some.inj (e1.symm.trans e2)
  subst e3
  have e4 : va_pl ([] ++ (List.range N').map r) (vr_up (fun _ => (.inl (cB, z) : va_E)) ((List.range N').map r) (.inl (cB, z))) = yk_fam N' r (fun _ => .inl (cB, z)) := by
    unfold va_pl yk_fam
    rw [List.nil_append, List.map_map]
    refine List.map_congr_left (fun i _ => ?_)
    show (r i, vr_up _ _ _ (r i)) = _
    unfold vr_up
    split <;> rfl
  rw [e4] at hP1 hD1
  exact kk q r H1 hP1 hD1 hS1
end YN
section YEN
variable {l : Launch} {y : MethodName} {ws ws' : List Cond} {fr lo mc ms maxL : Nat} {cc : ByteArray} {av : List Value} {D : va_G} {cl : List vw_C} {tys : List (ClassId × FieldType)} {W0 : va_W} {W1 : (Nat → Nat) → va_W}
theorem yk_eN (hy : plainName y.cls = true) (hi : y.name = "<init>") (hw : ws = Cond.code y cc maxL none :: ws') (hlen : (lg_sl av).length ≤ maxL)
    (body : ∀ (p : Program) (e : Env) (R : Room) (s : State) (m : MethodId) (args : Array Value) (below : List Frame) (meth : Method) (c : Code) (A : Nat → Prop) (Q : State → Prop) (ls : Array Slot) (H : Heap) (locs : List Loc), p.tables.exec = Jvm.exec → c.code = cc → c.maxLocals = maxL → s.vm.findClass y.cls = some m.cls → meth.name = "<init>" → (∀ w ∈ ws, w.before args s = true) → R.frames = fr → R.locals = lo → R.cells = mc → R.slots = ms → (∀ q, s.heap.size ≤ q → A q) → va_K D cl tys s → yk_G A s s.heap → yk_N s → va_P D cl W0 H → va_D A W0 → va_S A s.heap H locs → lv_has ls maxL (lv_args 0 av) →
      (∀ (pc : Nat) (ls : Array Slot) (H : Heap) (locs : List Loc) (u : Nat → Nat), decode cc pc = .ok (.return_, 1) → va_P D cl (W1 u) H → va_D A (W1 u) → va_S A s.heap H locs → W p l e R s m args below meth c H locs mc ms Q (F0 m pc ls [])) →
      W p l e R s m args below meth c H locs 0 0 Q (F0 m 0 ls [])) : yk_Cn l D cl tys y ws fr lo mc ms av W0 W1 := by
  intro sz
  refine Met.ofW (cc := cc) (maxL := maxL) (ret := none) hy hw ?_
  intro p e s m args below meth c s₁ B hml hv
  obtain ⟨rfl, ⟨hsz, hP, hK, hD0, hG⟩, hN⟩ := hv
  have hx := B.exec
  have hb := B.bytes
  have hr := B.returns
  have hts := atoms_spec (ws := ws) B.pre
  have hown : s.vm.findClass y.cls = some m.cls := findClass_of_methodNamed B.named
  have hin : meth.name = "<init>" := (name_of_methodNamed B.named B.method).1.trans hi
  have hlocks := B.notSynchronized
  subst hsz
  have hD := hD0.self (sz := s.heap.size)
  have hl := lv_entry av (n := maxL) hlen
  rw [lg_entry_eq]
  exact body p e _ s m _ below meth c _ _ _ _ _ hx hb hml hown hin hts rfl rfl rfl rfl (fun q h => Or.inr h) hK hG hN hP hD va_S.rf hl (fun pc ls H locs u hd hP1 hD1 hS1 => W.vret hx hb hr (fun t ht hW => ⟨⟨u, rfl, trivial, ⟨by rw [ht]; exact hP1, va_K.moved hW.alike hK⟩, hD1⟩, hS1.F ht⟩) hS1.2.2 hd)
end YEN
theorem yk_refs4 (a b c d : Nat) : va_up (va_up (va_up (va_up (fun _ => (none : Option Nat)) 0 (some a)) 1 (some b)) 2 (some c)) 3 (some d) = yk_refs [a, b, c, d] := by
  funext i
  match i with
  | 0 => rfl
  | 1 => rfl
  | 2 => rfl
  | 3 => rfl
  | n + 4 =>
    show _ = ([a, b, c, d] : List Nat)[n + 4]?
    rw [List.getElem?_eq_none (by simp)]
    simp [va_up]
theorem yk_zi (cA : ClassId) (N : Nat) : vp_cell cA (N, .inl (fun _ => 0)) = arrV cA N (fun _ => defaultValue .int) := rfl
theorem yk_zl (cA : ClassId) (N : Nat) : vp_cell cA (N, .inr (.inl (fun _ => 0))) = arrV cA N (fun _ => defaultValue .long) := rfl
theorem yk_zz (cA : ClassId) (N : Nat) : vp_cell cA (N, .inl (fun _ => 0)) = arrV cA N (fun _ => defaultValue .boolean) := rfl
theorem yk_mi (c : ClassId) (K : Nat) : Jvm.Free.Multi.innerC c K (defaultValue .int) = vp_cell c (K, .inl (fun _ => 0)) := by
  rw [yk_zi, ← arrV_new]
  rfl
theorem yk_mj (c : ClassId) (K : Nat) : Jvm.Free.Multi.innerC c K (defaultValue .long) = vp_cell c (K, .inr (.inl (fun _ => 0))) := by
  rw [yk_zl, ← arrV_new]
  rfl
