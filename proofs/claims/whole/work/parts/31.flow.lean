/-! the flow and the fence of both -/
def RA (fu fv xs ys : Nat → Int32) (n : Nat) (nw : Nat → Int32) : Prop :=
  (∀ k, k < 6 → nw k = fu k ∧ nw (6 + k) = fv k ∧ bd (fu k) 4 ∧ bd (fv k) 4) ∧ nw 12 = nI n ∧ n ≤ 8 ∧ (∀ j, j < n → nw (13 + j) = xs j ∧ nw (21 + j) = ys j ∧ bd (xs j) 6 ∧ bd (ys j) 6) ∧ (0 < n → xs n = xs 0 ∧ ys n = ys 0)
theorem e_get0 (nw : Nat → Int32) (k : Nat) : f_X8_get nw 0 k = nw k := by unfold f_X8_get; rw [if_pos rfl]
theorem e_get1 (nw : Nat → Int32) (k : Nat) : f_X8_get nw 1 k = nw (6 + k) := by unfold f_X8_get; rw [if_neg (by decide)]
theorem e_getn (nw : Nat → Int32) (k : Nat) {b : Int32} (h : ¬ b = 0) : f_X8_get nw b k = nw (6 + k) := by unfold f_X8_get; rw [if_neg h]
/-- the six numbers of P, or of Q -/
def ra_s (gu nw : Nat → Int32) (b : Int32) : Prop := ∀ k, k < 6 → f_X8_get nw b k = gu k
theorem ra_0 {fu fv xs ys : Nat → Int32} {n : Nat} {nw : Nat → Int32} (h : RA fu fv xs ys n nw) : ra_s fu nw 0 := fun k hk => by rw [e_get0]; exact (h.1 k hk).1
theorem ra_1 {fu fv xs ys : Nat → Int32} {n : Nat} {nw : Nat → Int32} (h : RA fu fv xs ys n nw) : ra_s fv nw 1 := fun k hk => by rw [e_get1]; exact (h.1 k hk).2.1
theorem ra_n {fu fv xs ys : Nat → Int32} {n : Nat} {nw : Nat → Int32} (h : RA fu fv xs ys n nw) {b : Int32} (hb : ¬ b = 0) : ra_s fv nw b := fun k hk => by rw [e_getn _ _ hb]; exact (h.1 k hk).2.1
theorem e_at {gu nw : Nat → Int32} {b : Int32} (h : ra_s gu nw b) (x y : Int32) : f_X8_speedAt nw x y b = f_X3_at gu x y := by
  unfold f_X8_speedAt f_X3_at f_X3_squaresAt
  rw [h 0 (by decide), h 1 (by decide), h 2 (by decide), h 3 (by decide), h 4 (by decide), h 5 (by decide)]
  simp only [Int32.add_assoc]
theorem e_byX {gu nw : Nat → Int32} {b : Int32} (h : ra_s gu nw b) (x y : Int32) : f_X8_slopeAt nw x y b 0 = f_X3_byX gu x y := by
  unfold f_X8_slopeAt f_X3_byX
  rw [if_pos rfl, h 1 (by decide), h 3 (by decide), h 4 (by decide)]
theorem e_byY {gu nw : Nat → Int32} {b : Int32} (h : ra_s gu nw b) (x y : Int32) : f_X8_slopeAt nw x y b 1 = f_X3_byY gu x y := by
  unfold f_X8_slopeAt f_X3_byY
  rw [if_neg (by decide), h 2 (by decide), h 4 (by decide), h 5 (by decide)]
theorem e_rest {fu fv xs ys : Nat → Int32} {n : Nat} {nw : Nat → Int32} (h : RA fu fv xs ys n nw) (x y : Int32) : f_X8_isRest nw x y = f_X1_isRest fu fv x y := by
  unfold f_X8_isRest f_X1_isRest
  rw [e_at (ra_0 h), e_at (ra_1 h)]
theorem e_spread {fu fv xs ys : Nat → Int32} {n : Nat} {nw : Nat → Int32} (h : RA fu fv xs ys n nw) (x y : Int32) : f_X8_spreadAt nw x y = f_X1_spreadAt fu fv x y := by
  unfold f_X8_spreadAt f_X1_spreadAt
  rw [e_byX (ra_0 h), e_byY (ra_1 h)]
/-! loops over the places -/
theorem e_rests {fu fv xs ys : Nat → Int32} {n : Nat} {nw : Nat → Int32} (h : RA fu fv xs ys n nw) : f_X8_rests nw = f_X7_rests fu fv := by
  have h1 : ∀ (fu1 k z z1 z2 ki : Nat) (a b c : Int32), True := fun _ _ _ _ _ _ _ _ _ => trivial
  have hin : ∀ (f ki kj : Nat) (z y1 y2 : Int32), l_X8_rests_14 nw ki y1 f kj z = l_X7_rests_14 fu fv ki y2 f kj z := by
    intro f
    induction f with
    | zero => intro ki kj z y1 y2; rfl
    | succ f ih =>
      intro ki kj z y1 y2
      unfold l_X8_rests_14 l_X7_rests_14
      by_cases hc : (6 : Int32) < nI kj - 6
      · rw [if_pos hc, if_pos hc]
      · rw [if_neg hc, if_neg hc, ih _ _ _ y1 y2, e_rest h]
        congr 1
        split
        · exact Int32.add_zero _
        · rfl
  have hout : ∀ (f ki : Nat) (z : Int32), l_X8_rests_5 nw f ki z = l_X7_rests_5 fu fv f ki z := by
    intro f
    induction f with
    | zero => intro ki z; rfl
    | succ f ih =>
      intro ki z
      unfold l_X8_rests_5 l_X7_rests_5
      by_cases hc : (6 : Int32) < nI ki - 6
      · rw [if_pos hc, if_pos hc]
      · rw [if_neg hc, if_neg hc, ih, hin _ _ _ _ z z]
  exact hout _ _ _
