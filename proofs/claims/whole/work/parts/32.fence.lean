/-! the fence: both tell the same pieces -/
theorem ex_x {fu fv xs ys : Nat → Int32} {n : Nat} {nw : Nat → Int32} (h : RA fu fv xs ys n nw) (hn : 0 < n) (k : Nat) : f_X8_xOf nw k n = xs (k % n) ∧ f_X8_yOf nw k n = ys (k % n) := by
  have hm := Nat.mod_lt k hn
  unfold f_X8_xOf f_X8_yOf
  exact ⟨(h.2.2.2.1 _ hm).1, (h.2.2.2.1 _ hm).2.1⟩
theorem ex_x1 {fu fv xs ys : Nat → Int32} {n : Nat} {nw : Nat → Int32} (h : RA fu fv xs ys n nw) (hn : 0 < n) (k : Nat) : f_X8_xOf nw (k + 1) n = xs (k % n + 1) ∧ f_X8_yOf nw (k + 1) n = ys (k % n + 1) := by
  have hm := Nat.mod_lt k hn
  obtain ⟨e1, e2⟩ := ex_x h hn (k + 1)
  rw [e1, e2]
  rcases Nat.lt_or_ge (k % n + 1) n with q | q
  · have : (k + 1) % n = k % n + 1 := by
      rw [Nat.add_mod, Nat.mod_eq_of_lt (show 1 < n by omega), Nat.mod_eq_of_lt q]
    rw [this]
    exact ⟨rfl, rfl⟩
  · have hq : k % n + 1 = n := by omega
    have : (k + 1) % n = 0 := by
      rw [Nat.add_mod]
      rcases Nat.lt_or_ge 1 n with q1 | q1
      · rw [Nat.mod_eq_of_lt q1, hq, Nat.mod_self]
      · have : n = 1 := by omega
        subst this
        exact Nat.mod_one _
    rw [this, hq]
    exact ⟨(h.2.2.2.2 hn).1.symm, (h.2.2.2.2 hn).2.symm⟩
theorem ex_x0 {fu fv xs ys : Nat → Int32} {n : Nat} {nw : Nat → Int32} (h : RA fu fv xs ys n nw) {k : Nat} (hk : k ≤ n) (hn : 0 < n) : f_X8_xOf nw k n = xs k ∧ f_X8_yOf nw k n = ys k := by
  rcases Nat.lt_or_ge k n with q | q
  · obtain ⟨e1, e2⟩ := ex_x h hn k
    rw [Nat.mod_eq_of_lt q] at e1 e2
    exact ⟨e1, e2⟩
  · have : k = n := by omega
    subst this
    obtain ⟨e1, e2⟩ := ex_x h hn k
    rw [Nat.mod_self] at e1 e2
    rw [e1, e2]
    exact ⟨(h.2.2.2.2 hn).1.symm, (h.2.2.2.2 hn).2.symm⟩
def sg32 (v : Int32) : Int32 := if v ≤ 0 then (if 0 ≤ v then 0 else (-1)) else 1
theorem sg_tri (v : Int32) : (sg32 v = 0 ∧ v = 0) ∨ (sg32 v = 1 ∧ 0 < v) ∨ (sg32 v = -1 ∧ v < 0) := by
  unfold sg32
  by_cases h1 : v ≤ 0
  · rw [if_pos h1]
    by_cases h2 : 0 ≤ v
    · rw [if_pos h2]
      exact Or.inl ⟨rfl, Int32.le_antisymm h1 h2⟩
    · rw [if_neg h2]
      exact Or.inr (Or.inr ⟨rfl, Int32.not_le.mp h2⟩)
  · rw [if_neg h1]
    exact Or.inr (Or.inl ⟨rfl, Int32.not_le.mp h1⟩)
theorem sg_0 (v : Int32) : sg32 v = 0 ↔ v = 0 := by
  rcases sg_tri v with ⟨a, b⟩ | ⟨a, b⟩ | ⟨a, b⟩
  · exact ⟨fun _ => b, fun _ => a⟩
  · rw [a]; exact ⟨fun h => absurd h (by decide), fun h => by rw [h] at b; exact absurd b (by decide)⟩
  · rw [a]; exact ⟨fun h => absurd h (by decide), fun h => by rw [h] at b; exact absurd b (by decide)⟩
theorem e_turn {fu fv xs ys : Nat → Int32} {n : Nat} {nw : Nat → Int32} (h : RA fu fv xs ys n nw) (hn : 0 < n) (k : Nat) (x y : Int32) : f_X8_turn (f_X8_xOf nw k n) (f_X8_yOf nw k n) (f_X8_xOf nw (k + 1) n) (f_X8_yOf nw (k + 1) n) x y = sg32 (f_X0_leftOf xs ys (k % n) x y) := by
  obtain ⟨e1, e2⟩ := ex_x h hn k
  obtain ⟨e3, e4⟩ := ex_x1 h hn k
  rw [e1, e2, e3, e4]
  rfl
theorem mn_eq (a b : Int32) : (if b ≤ a then b else a) = (if b < a then b else a) := by
  by_cases h : b < a
  · rw [if_pos h, if_pos (Int32.le_of_lt h)]
  · rw [if_neg h]
    split
    · rename_i h2; exact Int32.le_antisymm h2 (Int32.not_lt.mp h)
    · rfl
theorem mx_eq (a b : Int32) : (if a ≤ b then b else a) = (if a < b then b else a) := by
  by_cases h : a < b
  · rw [if_pos h, if_pos (Int32.le_of_lt h)]
  · rw [if_neg h]
    split
    · rename_i h2; exact Int32.le_antisymm (Int32.not_lt.mp h) h2
    · rfl
theorem e_isOn {fu fv xs ys : Nat → Int32} {n : Nat} {nw : Nat → Int32} (h : RA fu fv xs ys n nw) (hn : 0 < n) (k : Nat) (x y : Int32) : f_X8_isOn nw k x y n = f_X0_isOn xs ys (k % n) x y := by
  unfold f_X8_isOn f_X0_isOn
  rw [e_turn h hn]
  obtain ⟨e1, e2⟩ := ex_x h hn k
  obtain ⟨e3, e4⟩ := ex_x1 h hn k
  rw [e1, e2, e3, e4, mn_eq (xs (k % n)) (xs (k % n + 1)), mx_eq (xs (k % n)) (xs (k % n + 1)), mn_eq (ys (k % n)) (ys (k % n + 1)), mx_eq (ys (k % n)) (ys (k % n + 1))]
  by_cases hc : f_X0_leftOf xs ys (k % n) x y = 0
  · rw [if_pos hc, if_pos ((sg_0 _).mpr hc)]
  · rw [if_neg hc, if_neg (fun q => hc ((sg_0 _).mp q))]
theorem e_area {fu fv xs ys : Nat → Int32} {n : Nat} {nw : Nat → Int32} (h : RA fu fv xs ys n nw) : f_X8_areaOf nw n = f_X0_doubleArea xs ys n := by
  unfold f_X8_areaOf f_X0_doubleArea
  have hl : ∀ (f ki : Nat) (z : Int32), ki ≤ n → l_X8_areaOf_4 nw n f ki z = l_X0_doubleArea_4 xs ys n f ki z := by
    intro f
    induction f with
    | zero => intro ki z _; rfl
    | succ f ih =>
      intro ki z hki
      unfold l_X8_areaOf_4 l_X0_doubleArea_4
      by_cases hc : nI n ≤ nI ki
      · rw [if_pos hc, if_pos hc]
      · have hk : ki < n := yk_lt (n := n - ki) (by omega) (by have := h.2.2.1; omega) hc
        rw [if_neg hc, if_neg hc, ih _ _ (by omega)]
        rw [(ex_x0 h (Nat.le_of_lt hk) (by omega)).1, (ex_x0 h (Nat.le_of_lt hk) (by omega)).2, (ex_x0 h (show ki + 1 ≤ n by omega) (by omega)).1, (ex_x0 h (show ki + 1 ≤ n by omega) (by omega)).2]
  exact hl _ _ _ (Nat.zero_le _)
