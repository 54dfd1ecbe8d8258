section TURN
variable {fu fv xs ys : Nat → Int32} {n : Nat} {nw : Nat → Int32} {rw : Nat → Nat → Int32} {co la : Nat} {un : Nat → Int32} {u : Nat} {du dv : Nat → Int32}
theorem bd_m1 {v : Int32} (h : bd v 4) : bd ((-1) * v) 4 := by
  have := (mulI (⟨rfl, ⟨by decide, by decide⟩⟩ : (-1 : Int32).toInt = -1 ∧ bd (-1) 1) (⟨rfl, h⟩ : v.toInt = v.toInt ∧ bd v 4) (by decide)).2
  exact bd_mono this (by decide)
theorem bd_p1 {v : Int32} (h : bd v 4) : bd (1 * v) 4 := by
  have := (mulI (⟨rfl, ⟨by decide, by decide⟩⟩ : (1 : Int32).toInt = 1 ∧ bd 1 1) (⟨rfl, h⟩ : v.toInt = v.toInt ∧ bd v 4) (by decide)).2
  exact bd_mono this (by decide)
theorem bd_pm {s v : Int32} (hs : s = 1 ∨ s = -1) (h : bd v 4) : bd (s * v) 4 ∧ bd ((-s) * v) 4 := by
  rcases hs with e | e <;> subst e
  · exact ⟨bd_p1 h, bd_m1 h⟩
  · exact ⟨bd_m1 h, bd_p1 h⟩
theorem k6 {k : Nat} (h : k < 6) : k = 0 ∨ k = 1 ∨ k = 2 ∨ k = 3 ∨ k = 4 ∨ k = 5 := by omega
theorem mi_v (nw un : Nat → Int32) (u : Nat) : (∀ k, k < 12 → l_X8_mirror_6 nw un u 13 0 nw k = (if (nI (k % 6)) = 1 then ((-(if 6 ≤ (nI k) then 1 else (-1))) * (nw k)) else (if (nI (k % 6)) = 4 then ((-(if 6 ≤ (nI k) then 1 else (-1))) * (nw k)) else ((if 6 ≤ (nI k) then 1 else (-1)) * (nw k))))) ∧ ∀ k, 12 ≤ k → l_X8_mirror_6 nw un u 13 0 nw k = nw k := by
  have := lp0 (L := l_X8_mirror_6 nw un u) (N := 12) (o := 0) (g := fun k => (if (nI (k % 6)) = 1 then ((-(if 6 ≤ (nI k) then 1 else (-1))) * (nw k)) else (if (nI (k % 6)) = 4 then ((-(if 6 ≤ (nI k) then 1 else (-1))) * (nw k)) else ((if 6 ≤ (nI k) then 1 else (-1)) * (nw k))))) (z0 := nw) (fun f k z hk hz => by
    show (if (12 : Int32) ≤ nI k then z else _) = _
    rw [if_neg (show ¬ (12 : Int32) ≤ nI k from nI_ge (b := 12) hk (by decide)), Nat.zero_add, hz k (by omega)]) (fun f z => by
    show (if (12 : Int32) ≤ nI 12 then z else _) = z
    rw [if_pos (by decide)])
  refine ⟨fun k hk => ?_, fun k hk => this.2 k (Or.inr (by omega))⟩
  have q := this.1 k hk
  rw [Nat.zero_add] at q
  exact q
theorem e_mirror (h : RA fu fv xs ys n nw) (hp : RP rw co la un u) : (f_X7_mirror fu fv du dv xs ys n rw co la).1 = (f_X8_mirror nw un u).1 ∧ RA (f_X7_mirror fu fv du dv xs ys n rw co la).2.1 (f_X7_mirror fu fv du dv xs ys n rw co la).2.2.1 xs ys n (f_X8_mirror nw un u).2.2.1 ∧ RP (f_X7_mirror fu fv du dv xs ys n rw co la).2.2.2.2.2.2.2 (f_X7_mirror fu fv du dv xs ys n rw co la).2.2.2.2.2.1 (f_X7_mirror fu fv du dv xs ys n rw co la).2.2.2.2.2.2.1 (f_X8_mirror nw un u).2.2.2 (f_X8_mirror nw un u).2.1 := by
  have v := mi_v nw un u
  refine ⟨rfl, RA_act h (fun k hk => ?_) (fun k hk => v.2 k hk), e_rem h hp⟩
  show l_X8_mirror_6 nw un u 13 0 nw k = f_X3_mirroredFrom du fu (-1) k ∧ l_X8_mirror_6 nw un u 13 0 nw (6 + k) = f_X3_mirroredFrom dv fv 1 k ∧ bd (f_X3_mirroredFrom du fu (-1) k) 4 ∧ bd (f_X3_mirroredFrom dv fv 1 k) 4
  have hu := (h.1 k hk).2.2.1
  have hv := (h.1 k hk).2.2.2
  have m1 := bd_pm (Or.inr rfl) hu
  have m2 := bd_pm (Or.inl rfl) hv
  rw [v.1 k (by omega), v.1 (6 + k) (by omega), (h.1 k hk).1, (h.1 k hk).2.1]
  rcases k6 hk with e | e | e | e | e | e <;> subst e
  · exact ⟨rfl, rfl, m1.1, m2.1⟩
  · exact ⟨rfl, rfl, m1.2, m2.2⟩
  · exact ⟨rfl, rfl, m1.1, m2.1⟩
  · exact ⟨rfl, rfl, m1.1, m2.1⟩
  · exact ⟨rfl, rfl, m1.2, m2.2⟩
  · exact ⟨rfl, rfl, m1.1, m2.1⟩
theorem qu_v (nw un : Nat → Int32) (u : Nat) (fr : Nat → Int32) : l_X8_quarter_6 nw un u fr 3 0 fr = upd (upd (upd (upd (upd (upd (upd (upd (upd (upd (upd (upd fr 0 ((-1) * nw 6)) 1 ((-(-1)) * nw 8)) 2 ((-1) * nw 7)) 3 ((-1) * nw 11)) 4 ((-(-1)) * nw 10)) 5 ((-1) * nw 9)) 6 (1 * nw 0)) 7 ((-1) * nw 2)) 8 (1 * nw 1)) 9 (1 * nw 5)) 10 ((-1) * nw 4)) 11 (1 * nw 3) := by
  unfold l_X8_quarter_6
  rw [if_neg (by decide)]
  unfold l_X8_quarter_6
  rw [if_neg (by decide)]
  unfold l_X8_quarter_6
  rw [if_pos (by decide)]
  rfl
theorem e_quarter (h : RA fu fv xs ys n nw) (hp : RP rw co la un u) (fr : Nat → Int32) : (f_X7_quarter fu fv du dv xs ys n rw co la).1 = (f_X8_quarter nw un u fr).1 ∧ RA (f_X7_quarter fu fv du dv xs ys n rw co la).2.1 (f_X7_quarter fu fv du dv xs ys n rw co la).2.2.1 xs ys n (f_X8_quarter nw un u fr).2.2.1 ∧ RP (f_X7_quarter fu fv du dv xs ys n rw co la).2.2.2.2.2.2.2 (f_X7_quarter fu fv du dv xs ys n rw co la).2.2.2.2.2.1 (f_X7_quarter fu fv du dv xs ys n rw co la).2.2.2.2.2.2.1 (f_X8_quarter nw un u fr).2.2.2.1 (f_X8_quarter nw un u fr).2.1 := by
  have t := take_v nw (l_X8_quarter_6 nw un u fr 3 0 fr)
  refine ⟨rfl, RA_act h (fun k hk => ?_) (fun k hk => t.2 k hk), e_rem h hp⟩
  show f_X8_take nw (l_X8_quarter_6 nw un u fr 3 0 fr) k = f_X3_turnedFrom du fv (-1) k ∧ f_X8_take nw (l_X8_quarter_6 nw un u fr 3 0 fr) (6 + k) = f_X3_turnedFrom dv fu 1 k ∧ bd (f_X3_turnedFrom du fv (-1) k) 4 ∧ bd (f_X3_turnedFrom dv fu 1 k) 4
  rw [t.1 k (by omega), t.1 (6 + k) (by omega), qu_v]
  have N : ∀ j, j < 6 → nw j = fu j ∧ nw (6 + j) = fv j ∧ bd (fu j) 4 ∧ bd (fv j) 4 := h.1
  have mu := fun j hj => bd_pm (Or.inl rfl) (N j hj).2.2.1
  have mv := fun j hj => bd_pm (Or.inr rfl) (N j hj).2.2.2
  rcases k6 hk with e | e | e | e | e | e <;> subst e
  · exact ⟨congrArg ((-1) * ·) (N 0 (by decide)).2.1, congrArg (1 * ·) (N 0 (by decide)).1, (mv 0 (by decide)).1, (mu 0 (by decide)).1⟩
  · exact ⟨congrArg ((-(-1)) * ·) (N 2 (by decide)).2.1, congrArg ((-1) * ·) (N 2 (by decide)).1, (mv 2 (by decide)).2, (mu 2 (by decide)).2⟩
  · exact ⟨congrArg ((-1) * ·) (N 1 (by decide)).2.1, congrArg (1 * ·) (N 1 (by decide)).1, (mv 1 (by decide)).1, (mu 1 (by decide)).1⟩
  · exact ⟨congrArg ((-1) * ·) (N 5 (by decide)).2.1, congrArg (1 * ·) (N 5 (by decide)).1, (mv 5 (by decide)).1, (mu 5 (by decide)).1⟩
  · exact ⟨congrArg ((-(-1)) * ·) (N 4 (by decide)).2.1, congrArg ((-1) * ·) (N 4 (by decide)).1, (mv 4 (by decide)).2, (mu 4 (by decide)).2⟩
  · exact ⟨congrArg ((-1) * ·) (N 3 (by decide)).2.1, congrArg (1 * ·) (N 3 (by decide)).1, (mv 3 (by decide)).1, (mu 3 (by decide)).1⟩
theorem mv_v (nw un : Nat → Int32) (u : Nat) (fi : Int32) (fr : Nat → Int32) (px py : Int32) : ∀ k, k < 6 → l_X8_move_17 nw un u fi fr px py 3 0 fr k = f_X3_movedFrom du (fun j => f_X8_get nw 0 j) px py k ∧ l_X8_move_17 nw un u fi fr px py 3 0 fr (6 + k) = f_X3_movedFrom dv (fun j => f_X8_get nw 1 j) px py k := by
  have in0 : ∀ (ki : Nat) (s z : Nat → Int32), l_X8_move_37 nw un u fi fr px py ki s 4 3 z = upd (upd (upd z (6 * ki + 3) (f_X8_get nw (if (nI ki) = 1 then 1 else 0) 3)) (6 * ki + 4) (f_X8_get nw (if (nI ki) = 1 then 1 else 0) 4)) (6 * ki + 5) (f_X8_get nw (if (nI ki) = 1 then 1 else 0) 5) := by
    intro ki s z
    unfold l_X8_move_37
    rw [if_neg (by decide)]
    unfold l_X8_move_37
    rw [if_neg (by decide)]
    unfold l_X8_move_37
    rw [if_neg (by decide)]
    unfold l_X8_move_37
    rw [if_pos (by decide)]
  have e : l_X8_move_17 nw un u fi fr px py 3 0 fr = upd (upd (upd (upd (upd (upd (upd (upd (upd (upd (upd (upd fr 3 (f_X8_get nw 0 3)) 4 (f_X8_get nw 0 4)) 5 (f_X8_get nw 0 5)) 0 (f_X8_speedAt nw px py 0)) 1 (f_X8_slopeAt nw px py 0 0)) 2 (f_X8_slopeAt nw px py 0 1)) 9 (f_X8_get nw 1 3)) 10 (f_X8_get nw 1 4)) 11 (f_X8_get nw 1 5)) 6 (f_X8_speedAt nw px py 1)) 7 (f_X8_slopeAt nw px py 1 0)) 8 (f_X8_slopeAt nw px py 1 1) := by
    unfold l_X8_move_17
    rw [if_neg (by decide), in0]
    unfold l_X8_move_17
    rw [if_neg (by decide), in0]
    unfold l_X8_move_17
    rw [if_pos (by decide)]
    rfl
  intro k hk
  rw [e]
  have r0 : ra_s (fun j => f_X8_get nw 0 j) nw 0 := fun _ _ => rfl
  have r1 : ra_s (fun j => f_X8_get nw 1 j) nw 1 := fun _ _ => rfl
  rcases k6 hk with e | e | e | e | e | e <;> subst e
  · exact ⟨e_at r0 px py, e_at r1 px py⟩
  · exact ⟨e_byX r0 px py, e_byX r1 px py⟩
  · exact ⟨e_byY r0 px py, e_byY r1 px py⟩
  · exact ⟨rfl, rfl⟩
  · exact ⟨rfl, rfl⟩
  · exact ⟨rfl, rfl⟩
end TURN
