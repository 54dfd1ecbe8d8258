/-! slots and sheets of both -/
def upa {α : Type} (f : Nat → α) (j : Nat) (x : α) : Nat → α := fun i => if i = j then x else f i
theorem upa_s {α : Type} {f : Nat → α} {j : Nat} {x : α} : upa f j x j = x := if_pos rfl
theorem upa_n {α : Type} {f : Nat → α} {j i : Nat} {x : α} (h : i ≠ j) : upa f j x i = f i := if_neg h
theorem upa_id {α : Type} (f : Nat → α) (j : Nat) : upa f j (f j) = f := by
  funext i
  by_cases h : i = j
  · rw [h, upa_s]
  · rw [upa_n h]
/-- one slot -/
def RS1 (su sv : Nat → Int32) (k : Int32) (sl : Nat → Int32) (i : Nat) (mk hs : Int32) : Prop := (hs = 0 ∧ k = -1) ∨ (¬ hs = 0 ∧ k = mk ∧ (mk = 0 ∨ mk = 1 ∨ mk = 2 ∨ mk = 3) ∧ ∀ j, j < 6 → sl (12 * i + j) = su j ∧ sl (12 * i + (6 + j)) = sv j ∧ bd (su j) 4 ∧ bd (sv j) 4)
def RS (su sv : Nat → Nat → Int32) (sk sl mk hs : Nat → Int32) : Prop := ∀ i, i < 4 → RS1 (su i) (sv i) (sk i) sl i (mk i) (hs i)
section SLOTS
variable {fu fv xs ys : Nat → Int32} {n : Nat} {nw : Nat → Int32} {rw : Nat → Nat → Int32} {co la : Nat} {un : Nat → Int32} {u : Nat} {du dv : Nat → Int32} {su sv : Nat → Nat → Int32} {sk sl mk hs : Nat → Int32} {j : Nat}
theorem inc_v (fu gu : Nat → Int32) (x : Int32) {k : Nat} (hk : k < 6) : f_X3_increase fu gu x k = fu k + x * gu k := by
  have := lp0 (L := l_X3_increase_2 fu gu x) (N := 6) (o := 0) (g := fun k => fu k + x * gu k) (z0 := fu) (fun f k z hk hz => by
    show (if (6 : Int32) ≤ nI k then z else l_X3_increase_2 fu gu x f (k + 1) (upd z k (z k + x * gu k))) = _
    rw [if_neg (show ¬ (6 : Int32) ≤ nI k from nI_ge (b := 6) hk (by decide)), Nat.zero_add, hz k (by omega)]) (fun f z => by
    show (if (6 : Int32) ≤ nI 6 then z else _) = z
    rw [if_pos (by decide)])
  have q := this.1 k hk
  rw [Nat.zero_add] at q
  exact q
theorem ad_v (nw un sl hs : Nat → Int32) (u : Nat) (fi : Int32) (fr : Nat → Int32) (px py : Int32) {k : Nat} (hk : k < 12) : l_X8_add_44 nw un sl hs u fi fr px py 13 0 fr k = nw k + py * sl (12 * px.toNatClampNeg + k) := by
  have := lp0 (L := l_X8_add_44 nw un sl hs u fi fr px py) (N := 12) (o := 0) (g := fun k => nw k + py * sl (12 * px.toNatClampNeg + k)) (z0 := fr) (fun f k z hk hz => by
    show (if (12 : Int32) ≤ nI k then z else l_X8_add_44 nw un sl hs u fi fr px py f (k + 1) (upd z k (nw k + py * sl (12 * px.toNatClampNeg + k)))) = _
    rw [if_neg (show ¬ (12 : Int32) ≤ nI k from nI_ge (b := 12) hk (by decide)), Nat.zero_add]) (fun f z => by
    show (if (12 : Int32) ≤ nI 12 then z else _) = z
    rw [if_pos (by decide)])
  have q := this.1 k hk
  rw [Nat.zero_add] at q
  exact q
theorem mk_n {k : Int32} (h : k = 0 ∨ k = 1 ∨ k = 2 ∨ k = 3) : ¬ k = -1 := by
  rcases h with e | e | e | e <;> subst e <;> decide
theorem e_add (h : RA fu fv xs ys n nw) (hp : RP rw co la un u) (hS : RS su sv sk sl mk hs) (fr : Nat → Int32) (fi px py : Int32) (hj : ¬ f_X7_isSlot px = 0 → px.toNatClampNeg = j) : (f_X7_add fu fv du dv xs ys n rw co la (su j) (sv j) sk fi px py).1 = (f_X8_add nw un sl hs u fi fr px py).1 ∧ (f_X7_add fu fv du dv xs ys n rw co la (su j) (sv j) sk fi px py).2.1 = (f_X8_add nw un sl hs u fi fr px py).2.2.1 ∧ RA (f_X7_add fu fv du dv xs ys n rw co la (su j) (sv j) sk fi px py).2.2.1 (f_X7_add fu fv du dv xs ys n rw co la (su j) (sv j) sk fi px py).2.2.2.1 xs ys n (f_X8_add nw un sl hs u fi fr px py).2.2.2.1 ∧ RP (f_X7_add fu fv du dv xs ys n rw co la (su j) (sv j) sk fi px py).2.2.2.2.2.2.2.2 (f_X7_add fu fv du dv xs ys n rw co la (su j) (sv j) sk fi px py).2.2.2.2.2.2.1 (f_X7_add fu fv du dv xs ys n rw co la (su j) (sv j) sk fi px py).2.2.2.2.2.2.2.1 (f_X8_add nw un sl hs u fi fr px py).2.2.2.2.1 (f_X8_add nw un sl hs u fi fr px py).2.1 := by
  unfold f_X7_add f_X8_add
  rw [e_slt]
  by_cases g1 : f_X7_isSlot px = 0
  · rw [if_pos g1, if_pos g1]; exact ⟨rfl, rfl, h, hp⟩
  rw [if_neg g1, if_neg g1]
  have e4 : f_X8_in py (-4) 4 = f_X7_isWithin py 4 := rfl
  by_cases g2 : f_X7_isWithin py 4 = 0
  · rw [if_pos g2, e4, if_pos g2]; exact ⟨rfl, rfl, h, hp⟩
  rw [if_neg g2, e4, if_neg g2, hj g1]
  have hj4 : j < 4 := by rw [← hj g1]; exact (ix_slot g1).2
  rcases hS j hj4 with ⟨a, b⟩ | ⟨a, b, c, d⟩
  · rw [if_pos a, if_pos b]; exact ⟨rfl, rfl, h, hp⟩
  · rw [if_neg a, if_neg (show ¬ sk j = -1 by rw [b]; exact mk_n c)]
    have hf : ∀ k, k < 6 → l_X8_add_44 nw un sl hs u fi fr px py (12 + 1) 0 fr k = f_X3_increase (f_X1_become du dv fu fv).1 (su j) py k ∧ l_X8_add_44 nw un sl hs u fi fr px py (12 + 1) 0 fr (6 + k) = f_X3_increase (f_X1_become du dv fu fv).2 (sv j) py k := by
      intro k hk
      rw [ad_v _ _ _ _ _ _ _ _ _ (show k < 12 by omega), ad_v _ _ _ _ _ _ _ _ _ (show 6 + k < 12 by omega), inc_v _ _ _ hk, inc_v _ _ _ hk, hj g1, (d k hk).1, (d k hk).2.1, (h.1 k hk).1, (h.1 k hk).2.1]
      constructor
      · show _ = f_X3_become du fu k + _
        rw [bec hk]
      · show _ = f_X3_become dv fv k + _
        rw [bec hk]
    rcases e_tdf h hp fi hf with ⟨a, b⟩ | ⟨a, b, c, d, e⟩
    · rw [if_pos a, b]; exact ⟨rfl, rfl, h, hp⟩
    · rw [if_neg a]; exact ⟨by dsimp only; exact b, by dsimp only; exact c, by dsimp only; exact d, by dsimp only; exact e⟩
theorem kf_v (nw : Nat → Int32) : (l_X8_kindOf_33 nw 4 3 1 = 0) ↔ ¬ (nw 3 = 0 ∧ nw 9 = 0 ∧ nw 4 = 0 ∧ nw 10 = 0 ∧ nw 5 = 0 ∧ nw 11 = 0) := by
  have e : l_X8_kindOf_33 nw 4 3 1 = (if ((if ((if (1 : Int32) = 0 then 0 else (if nw 3 = 0 then (if nw 9 = 0 then 1 else 0) else 0)) : Int32) = 0 then 0 else (if nw 4 = 0 then (if nw 10 = 0 then 1 else 0) else 0)) : Int32) = 0 then 0 else (if nw 5 = 0 then (if nw 11 = 0 then 1 else 0) else 0)) := rfl
  rw [e]
  by_cases a : nw 3 = 0 <;> by_cases b : nw 9 = 0 <;> by_cases c : nw 4 = 0 <;> by_cases d : nw 10 = 0 <;> by_cases f : nw 5 = 0 <;> by_cases g : nw 11 = 0 <;> simp [a, b, c, d, f, g]
theorem e_kind (h : RA fu fv xs ys n nw) : f_X8_kindOf nw = f_X1_lastKind fu fv ∧ (f_X1_lastKind fu fv = 0 ∨ f_X1_lastKind fu fv = 1 ∨ f_X1_lastKind fu fv = 2 ∨ f_X1_lastKind fu fv = 3) := by
  have N : ∀ j, j < 6 → nw j = fu j ∧ nw (6 + j) = fv j ∧ bd (fu j) 4 ∧ bd (fv j) 4 := h.1
  have k3 := kf_v nw
  rw [(N 3 (by decide)).1, (N 4 (by decide)).1, (N 5 (by decide)).1, show nw 9 = fv 3 from (N 3 (by decide)).2.1, show nw 10 = fv 4 from (N 4 (by decide)).2.1, show nw 11 = fv 5 from (N 5 (by decide)).2.1] at k3
  unfold f_X8_kindOf f_X1_lastKind f_X1_isFree f_X3_hasSquares
  rw [e_spread h, e_spread h, e_spread h, e_get0, e_get1, (N 0 (by decide)).1, show nw (6 + 0) = fv 0 from (N 0 (by decide)).2.1]
  show (if _ then (if _ then (if _ then _ else (if l_X8_kindOf_33 nw 4 3 1 = 0 then _ else _)) else (if l_X8_kindOf_33 nw 4 3 1 = 0 then _ else _)) else (if l_X8_kindOf_33 nw 4 3 1 = 0 then _ else _)) = _ ∧ _
  generalize l_X8_kindOf_33 nw 4 3 1 = L at *
  generalize f_X1_spreadAt fu fv 0 0 = s0
  generalize f_X1_spreadAt fu fv 1 0 = s1
  generalize f_X1_spreadAt fu fv 0 1 = s2
  generalize fu 0 = u0
  generalize fv 0 = v0
  have key : (L = 0) ↔ ¬ (((if fu 3 = 0 then (if fu 4 = 0 then (if fu 5 = 0 then 0 else 1) else 1) else 1) : Int32) = 0 ∧ ((if fv 3 = 0 then (if fv 4 = 0 then (if fv 5 = 0 then 0 else 1) else 1) else 1) : Int32) = 0) := by
    rw [k3]
    by_cases a : fu 3 = 0 <;> by_cases b : fv 3 = 0 <;> by_cases c : fu 4 = 0 <;> by_cases d : fv 4 = 0 <;> by_cases f : fu 5 = 0 <;> by_cases g : fv 5 = 0 <;> simp [a, b, c, d, f, g]
  generalize ((if fu 3 = 0 then (if fu 4 = 0 then (if fu 5 = 0 then 0 else 1) else 1) else 1) : Int32) = A at *
  generalize ((if fv 3 = 0 then (if fv 4 = 0 then (if fv 5 = 0 then 0 else 1) else 1) else 1) : Int32) = B at *
  by_cases hA : A = 0 <;> by_cases hB : B = 0 <;> by_cases hL : L = 0 <;> simp only [hA, hB, hL, true_iff, false_iff, not_true, not_false_eq_true, and_self, and_true, and_false, false_and, true_and] at key
  all_goals (try exact absurd key (by decide))
  all_goals (by_cases a : s0 = 0 <;> by_cases b : s1 = 0 <;> by_cases c : s2 = 0 <;> by_cases d : u0 = 0 <;> by_cases f : v0 = 0 <;> simp [hA, hB, hL, a, b, c, d, f])
theorem kp_v (nw sl sk hs : Nat → Int32) (fi px : Int32) : (∀ k, k < 12 → l_X8_keep_16 nw sl sk hs fi px 13 0 sl (12 * px.toNatClampNeg + k) = nw k) ∧ ∀ k, k < 12 * px.toNatClampNeg ∨ 12 * px.toNatClampNeg + 12 ≤ k → l_X8_keep_16 nw sl sk hs fi px 13 0 sl k = sl k :=
  lp0 (L := l_X8_keep_16 nw sl sk hs fi px) (N := 12) (o := 12 * px.toNatClampNeg) (g := nw) (z0 := sl) (fun f k z hk hz => by
    show (if (12 : Int32) ≤ nI k then z else l_X8_keep_16 nw sl sk hs fi px f (k + 1) (upd z (12 * px.toNatClampNeg + k) (nw k))) = _
    rw [if_neg (show ¬ (12 : Int32) ≤ nI k from nI_ge (b := 12) hk (by decide))]) (fun f z => by
    show (if (12 : Int32) ≤ nI 12 then z else _) = z
    rw [if_pos (by decide)])
theorem e_keep (h : RA fu fv xs ys n nw) (hS : RS su sv sk sl mk hs) (fi px : Int32) (hj : ¬ f_X7_isSlot px = 0 → px.toNatClampNeg = j) : (f_X7_keep fu fv (su j) (sv j) sk fi px).1 = (f_X8_keep nw sl mk hs fi px).1 ∧ (f_X7_keep fu fv (su j) (sv j) sk fi px).2.1 = (f_X8_keep nw sl mk hs fi px).2.1 ∧ RS (upa su j (f_X7_keep fu fv (su j) (sv j) sk fi px).2.2.1) (upa sv j (f_X7_keep fu fv (su j) (sv j) sk fi px).2.2.2.1) (f_X7_keep fu fv (su j) (sv j) sk fi px).2.2.2.2 (f_X8_keep nw sl mk hs fi px).2.2.1 (f_X8_keep nw sl mk hs fi px).2.2.2.1 (f_X8_keep nw sl mk hs fi px).2.2.2.2 := by
  unfold f_X7_keep f_X8_keep f_X8_isSlot
  rw [e_slt]
  by_cases g1 : f_X7_isSlot px = 0
  · rw [if_pos g1, if_pos g1]
    refine ⟨rfl, rfl, ?_⟩
    show RS (upa su j (su j)) (upa sv j (sv j)) sk sl mk hs
    rw [upa_id, upa_id]; exact hS
  rw [if_neg g1, if_neg g1, hj g1]
  have hj4 : j < 4 := by rw [← hj g1]; exact (ix_slot g1).2
  have kv := kp_v nw sl mk hs fi px
  rw [hj g1] at kv
  have ek := e_kind h
  refine ⟨?_, rfl, fun i hi => ?_⟩
  · show upd sk j _ j = upd mk j _ j
    rw [pk_us, pk_us, ek.1]
  · show RS1 (upa su j (f_X3_become (su j) fu) i) (upa sv j (f_X3_become (sv j) fv) i) (upd sk j (f_X1_lastKind fu fv) i) (l_X8_keep_16 nw sl mk hs fi px 13 0 sl) i (upd mk j (f_X8_kindOf nw) i) (upd hs j 1 i)
    by_cases e : i = j
    · subst e
      rw [upa_s, upa_s, pk_us, pk_us, pk_us, ek.1]
      refine Or.inr ⟨by decide, rfl, ek.2, fun k hk => ?_⟩
      rw [kv.1 k (by omega), kv.1 (6 + k) (by omega), bec hk, bec hk]
      exact h.1 k hk
    · rw [upa_n e, upa_n e, pk_un e, pk_un e, pk_un e]
      rcases hS i hi with ⟨a, b⟩ | ⟨a, b, c, d⟩
      · exact Or.inl ⟨a, b⟩
      · refine Or.inr ⟨a, b, c, fun k hk => ?_⟩
        rw [kv.2 (12 * i + k) (by omega), kv.2 (12 * i + (6 + k)) (by omega)]
        exact d k hk
theorem br_v (nw un sl sk hs : Nat → Int32) (u : Nat) (fi px : Int32) : (∀ k, k < 12 → l_X8_bring_36 nw un sl sk hs u fi px 13 0 nw k = sl (12 * px.toNatClampNeg + k)) ∧ ∀ k, 12 ≤ k → l_X8_bring_36 nw un sl sk hs u fi px 13 0 nw k = nw k := by
  have := lp0 (L := l_X8_bring_36 nw un sl sk hs u fi px) (N := 12) (o := 0) (g := fun k => sl (12 * px.toNatClampNeg + k)) (z0 := nw) (fun f k z hk hz => by
    show (if (12 : Int32) ≤ nI k then z else l_X8_bring_36 nw un sl sk hs u fi px f (k + 1) (upd z k (sl (12 * px.toNatClampNeg + k)))) = _
    rw [if_neg (show ¬ (12 : Int32) ≤ nI k from nI_ge (b := 12) hk (by decide)), Nat.zero_add]) (fun f z => by
    show (if (12 : Int32) ≤ nI 12 then z else _) = z
    rw [if_pos (by decide)])
  refine ⟨fun k hk => ?_, fun k hk => this.2 k (Or.inr (by omega))⟩
  have q := this.1 k hk
  rw [Nat.zero_add] at q
  exact q
theorem e_bring (h : RA fu fv xs ys n nw) (hp : RP rw co la un u) (hS : RS su sv sk sl mk hs) (fi px : Int32) (hj : ¬ f_X7_isSlot px = 0 → px.toNatClampNeg = j) : (f_X7_bring fu fv du dv xs ys n rw co la (su j) (sv j) sk fi px).1 = (f_X8_bring nw un sl mk hs u fi px).1 ∧ (f_X7_bring fu fv du dv xs ys n rw co la (su j) (sv j) sk fi px).2.1 = (f_X8_bring nw un sl mk hs u fi px).2.2.1 ∧ RA (f_X7_bring fu fv du dv xs ys n rw co la (su j) (sv j) sk fi px).2.2.1 (f_X7_bring fu fv du dv xs ys n rw co la (su j) (sv j) sk fi px).2.2.2.1 xs ys n (f_X8_bring nw un sl mk hs u fi px).2.2.2.1 ∧ RP (f_X7_bring fu fv du dv xs ys n rw co la (su j) (sv j) sk fi px).2.2.2.2.2.2.2.2 (f_X7_bring fu fv du dv xs ys n rw co la (su j) (sv j) sk fi px).2.2.2.2.2.2.1 (f_X7_bring fu fv du dv xs ys n rw co la (su j) (sv j) sk fi px).2.2.2.2.2.2.2.1 (f_X8_bring nw un sl mk hs u fi px).2.2.2.2 (f_X8_bring nw un sl mk hs u fi px).2.1 := by
  unfold f_X7_bring f_X8_bring f_X8_isSlot
  rw [e_slt]
  by_cases g1 : f_X7_isSlot px = 0
  · rw [if_pos g1, if_pos g1]; exact ⟨rfl, rfl, h, hp⟩
  rw [if_neg g1, if_neg g1, hj g1]
  have hj4 : j < 4 := by rw [← hj g1]; exact (ix_slot g1).2
  have v := br_v nw un sl mk hs u fi px
  rw [hj g1] at v
  rcases hS j hj4 with ⟨a, b⟩ | ⟨a, b, c, d⟩
  · rw [if_pos a, if_pos b]; exact ⟨rfl, rfl, h, hp⟩
  · rw [if_neg a, if_neg (show ¬ sk j = -1 by rw [b]; exact mk_n c)]
    refine ⟨b, rfl, RA_act (du := f_X3_become du (su j)) (dv := f_X3_become dv (sv j)) h (fun k hk => ?_) (fun k hk => v.2 k hk), e_rem h hp⟩
    show l_X8_bring_36 nw un sl mk hs u fi px 13 0 nw k = _ ∧ l_X8_bring_36 nw un sl mk hs u fi px 13 0 nw (6 + k) = _ ∧ _
    rw [v.1 k (by omega), v.1 (6 + k) (by omega), bec hk, bec hk]
    exact d k hk
/-- numbers that are not 0 -/
def cnt (g : Nat → Int32) : Nat → Int32
  | 0 => 0
  | k + 1 => cnt g k + (if g k = 0 then 0 else 1)
theorem cn_3 (fu : Nat → Int32) : ∀ (f ki : Nat), ki ≤ 6 → 6 - ki + 1 ≤ f → l_X3_countNotZero_4 fu f ki (cnt fu ki) = cnt fu 6 := by
  intro f
  induction f with
  | zero => intro ki _ h; omega
  | succ f ih =>
    intro ki h1 h2
    unfold l_X3_countNotZero_4
    rcases Nat.lt_or_ge ki 6 with q | q
    · rw [if_neg (show ¬ (6 : Int32) ≤ nI ki from nI_ge (b := 6) q (by decide)), ← ih (ki + 1) (by omega) (by omega)]
      congr 1
      show _ = cnt fu ki + (if fu ki = 0 then 0 else 1)
      split
      · exact (Int32.add_zero _).symm
      · rfl
    · have : ki = 6 := by omega
      subst this
      rw [if_pos (by decide)]
theorem cn_t (nw hs : Nat → Int32) (fi px : Int32) : ∀ (f ki : Nat), ki ≤ 12 → 12 - ki + 1 ≤ f → l_X8_told_39 nw hs fi px f ki (cnt nw ki) = cnt nw 12 := by
  intro f
  induction f with
  | zero => intro ki _ h; omega
  | succ f ih =>
    intro ki h1 h2
    unfold l_X8_told_39
    rcases Nat.lt_or_ge ki 12 with q | q
    · rw [if_neg (show ¬ (12 : Int32) ≤ nI ki from nI_ge (b := 12) q (by decide)), ← ih (ki + 1) (by omega) (by omega)]
      rfl
    · have : ki = 12 := by omega
      subst this
      rw [if_pos (by decide)]
theorem cn_a (sl mk hs : Nat → Int32) (fi px py : Int32) : ∀ (f ki : Nat), ki ≤ 12 → 12 - ki + 1 ≤ f → l_X8_as_78 sl mk hs fi px py f ki (cnt (fun k => sl (12 * px.toNatClampNeg + k)) ki) = cnt (fun k => sl (12 * px.toNatClampNeg + k)) 12 := by
  intro f
  induction f with
  | zero => intro ki _ h; omega
  | succ f ih =>
    intro ki h1 h2
    unfold l_X8_as_78
    rcases Nat.lt_or_ge ki 12 with q | q
    · rw [if_neg (show ¬ (12 : Int32) ≤ nI ki from nI_ge (b := 12) q (by decide)), ← ih (ki + 1) (by omega) (by omega)]
      rfl
    · have : ki = 12 := by omega
      subst this
      rw [if_pos (by decide)]
theorem cn_e {g a b : Nat → Int32} (h : ∀ k, k < 6 → g k = a k ∧ g (6 + k) = b k) : cnt g 12 = f_X1_countNotZero a b := by
  have e1 : f_X3_countNotZero a = cnt a 6 := cn_3 a 7 0 (by decide) (by decide)
  have e2 : f_X3_countNotZero b = cnt b 6 := cn_3 b 7 0 (by decide) (by decide)
  unfold f_X1_countNotZero
  rw [e1, e2]
  have e3 : ∀ k, k ≤ 6 → cnt g k = cnt a k := by
    intro k
    induction k with
    | zero => intro _; rfl
    | succ k ih =>
      intro hk
      show cnt g k + (if g k = 0 then 0 else 1) = cnt a k + (if a k = 0 then 0 else 1)
      rw [ih (by omega), (h k (by omega)).1]
  have e4 : ∀ k, k ≤ 6 → cnt g (6 + k) = cnt a 6 + cnt b k := by
    intro k
    induction k with
    | zero => intro _; rw [show cnt b 0 = 0 from rfl, Int32.add_zero]; exact e3 6 (by decide)
    | succ k ih =>
      intro hk
      show cnt g (6 + k) + (if g (6 + k) = 0 then 0 else 1) = cnt a 6 + (cnt b k + (if b k = 0 then 0 else 1))
      rw [ih (by omega), (h k (by omega)).2, Int32.add_assoc]
  exact e4 6 (by decide)
theorem fs_4 (hS : RS su sv sk sl mk hs) (nw : Nat → Int32) (fi px : Int32) : ∀ (f ki : Nat) (z : Int32), ki ≤ 4 → 4 - ki + 1 ≤ f → l_X7_countFilledSlots_4 sk f ki z = l_X8_told_72 nw hs fi px f ki z := by
  intro f
  induction f with
  | zero => intro ki _ _ h; omega
  | succ f ih =>
    intro ki z h1 h2
    unfold l_X7_countFilledSlots_4 l_X8_told_72
    rcases Nat.lt_or_ge ki 4 with q | q
    · rw [if_neg (show ¬ (4 : Int32) ≤ nI ki from nI_ge (b := 4) q (by decide)), if_neg (show ¬ (4 : Int32) ≤ nI ki from nI_ge (b := 4) q (by decide)), ih _ _ (by omega) (by omega)]
      congr 1
      rcases hS ki q with ⟨a, b⟩ | ⟨a, b, c, d⟩
      · rw [if_pos a, if_pos b, Int32.add_zero]
      · rw [if_neg a, if_neg (show ¬ sk ki = -1 by rw [b]; exact mk_n c)]
    · have : ki = 4 := by omega
      subst this
      rw [if_pos (by decide), if_pos (by decide)]
theorem e_told (h : RA fu fv xs ys n nw) (hS : RS su sv sk sl mk hs) (fi px : Int32) : f_X7_told fu fv n sk fi px = f_X8_told nw hs fi px := by
  have c : l_X8_told_39 nw hs fi px (12 + 1) 0 0 = f_X1_countNotZero fu fv := (cn_t nw hs fi px 13 0 (by decide) (by decide)).trans (cn_e (fun k hk => ⟨(h.1 k hk).1, (h.1 k hk).2.1⟩))
  have d : l_X8_told_72 nw hs fi px (4 + 1) 0 0 = f_X7_countFilledSlots sk := (fs_4 hS nw fi px 5 0 0 (by decide) (by decide)).symm
  unfold f_X7_told f_X8_told
  rw [c, d, show f_X8_corners nw = nI n from h.2.1]
  rfl
theorem und {k p : Int32} (hk : k = 0 ∨ k = 1 ∨ k = 2 ∨ k = 3) (hp : p = 0 ∨ p = 1 ∨ p = 2 ∨ p = 3) : (f_X7_isUnder k p = 0) ↔ ¬ (p = 0 ∨ p = k ∨ (p = 1 ∧ k = 2)) := by
  rcases hk with e | e | e | e <;> rcases hp with g | g | g | g <;> subst e <;> subst g <;> decide
theorem e_as (hS : RS su sv sk sl mk hs) (fi px py : Int32) (hj : ¬ f_X7_isSlot px = 0 → px.toNatClampNeg = j) : f_X7_as (su j) (sv j) sk fi px py = f_X8_as sl mk hs fi px py := by
  unfold f_X7_as f_X8_as f_X8_isSlot
  rw [e_slt]
  by_cases g1 : f_X7_isSlot px = 0
  · rw [if_pos g1, if_pos g1]; rfl
  rw [if_neg g1, if_neg g1, e_slt]
  have hj4 : j < 4 := by rw [← hj g1]; exact (ix_slot g1).2
  by_cases g2 : py < 0
  · have : f_X7_isSlot py = 0 := by unfold f_X7_isSlot; rw [if_pos g2]
    rw [if_pos g2, if_pos this]; rfl
  rw [if_neg g2]
  by_cases g3 : py ≤ 3
  · have hp := pw4 g2 g3
    have : ¬ f_X7_isSlot py = 0 := by rcases hp with e | e | e | e <;> subst e <;> decide
    rw [if_pos g3, if_neg this, hj g1]
    rcases hS j hj4 with ⟨a, b⟩ | ⟨a, b, c, d⟩
    · rw [if_pos a, if_pos b]; rfl
    · rw [if_neg a, if_neg (show ¬ sk j = -1 by rw [b]; exact mk_n c), b]
      have w : fb_X8_as_b72 sl mk hs fi px py = (f_X1_countNotZero (su j) (sv j), fi) := by
        unfold fb_X8_as_b72
        rw [show l_X8_as_78 sl mk hs fi px py (12 + 1) 0 0 = f_X1_countNotZero (su j) (sv j) from (cn_a sl mk hs fi px py 13 0 (by decide) (by decide)).trans (cn_e (fun k hk => by rw [hj g1]; exact ⟨(d k hk).1, (d k hk).2.1⟩))]
      rw [w]
      have u := und c hp
      by_cases k1 : py = 0
      · rw [if_pos k1, if_neg (fun q => (u.mp q) (Or.inl k1))]
      · rw [if_neg k1]
        by_cases k2 : py = mk j
        · rw [if_pos k2, if_neg (fun q => (u.mp q) (Or.inr (Or.inl k2)))]
        · rw [if_neg k2]
          by_cases k3 : py = 1
          · rw [if_pos k3]
            by_cases k4 : mk j = 2
            · rw [if_pos k4, if_neg (fun q => (u.mp q) (Or.inr (Or.inr ⟨k3, k4⟩)))]
            · rw [if_neg k4, if_pos (u.mpr (fun q => by rcases q with q | q | q; exact k1 q; exact k2 q; exact k4 q.2))]; rfl
          · rw [if_neg k3, if_pos (u.mpr (fun q => by rcases q with q | q | q; exact k1 q; exact k2 q; exact k3 q.1))]; rfl
  · have : f_X7_isSlot py = 0 := by
      unfold f_X7_isSlot
      rw [if_neg g2]
      have : (4 : Int32) ≤ py := by
        have := Int32.not_le.mp g3
        rw [Int32.lt_iff_toInt_lt, show (3 : Int32).toInt = 3 from rfl] at this
        rw [Int32.le_iff_toInt_le, show (4 : Int32).toInt = 4 from rfl]; omega
      rw [if_pos this]
    rw [if_neg g3, if_pos this]; rfl
end SLOTS
