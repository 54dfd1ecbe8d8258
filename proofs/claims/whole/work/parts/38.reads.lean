section READS
variable {fu fv xs ys : Nat → Int32} {n : Nat} {nw : Nat → Int32}
theorem e_plc (x y : Int32) : f_X8_isPlace x y = f_X7_isPlace x y := rfl
theorem e_numb (h : RA fu fv xs ys n nw) (fi bq pm : Int32) : f_X7_number fu fv fi bq pm = f_X8_number nw fi bq pm := by
  unfold f_X7_number f_X8_number
  rw [e_num]
  by_cases g1 : f_X7_isNumberIndex pm = 0
  · rw [if_pos g1, if_pos g1, if_pos g1]; rfl
  · rw [if_neg g1, if_neg g1, if_neg g1]
    obtain ⟨-, hj⟩ := ix_num g1
    by_cases g3 : bq = 0
    · rw [if_pos g3, g3, e_get0, (h.1 _ hj).1]
    · rw [if_neg g3, e_getn _ _ g3, (h.1 _ hj).2.1]
theorem ra_b (h : RA fu fv xs ys n nw) (bq : Int32) : ra_s (if bq = 0 then fu else fv) nw bq := by
  by_cases g3 : bq = 0
  · rw [if_pos g3, g3]; exact ra_0 h
  · rw [if_neg g3]; exact ra_n h g3
theorem e_speed (h : RA fu fv xs ys n nw) (fi px py bq : Int32) : f_X7_speed fu fv fi px py bq = f_X8_speed nw fi px py bq := by
  unfold f_X7_speed f_X8_speed
  rw [e_plc, e_at (ra_b h bq)]
  by_cases g1 : f_X7_isPlace px py = 0
  · rw [if_pos g1, if_pos g1, if_pos g1]; rfl
  · rw [if_neg g1, if_neg g1, if_neg g1]
    by_cases g3 : bq = 0
    · rw [if_pos g3, if_pos g3]
    · rw [if_neg g3, if_neg g3]
theorem pw4 {pw : Int32} (h0 : ¬ pw < 0) (h1 : pw ≤ 3) : pw = 0 ∨ pw = 1 ∨ pw = 2 ∨ pw = 3 := by
  obtain ⟨j, hj, rfl⟩ := nI_of h0
  have : j ≤ 3 := (nI_leI (b := 3) hj (by decide)).mp h1
  have : j = 0 ∨ j = 1 ∨ j = 2 ∨ j = 3 := by omega
  rcases this with e | e | e | e <;> subst e
  · exact Or.inl rfl
  · exact Or.inr (Or.inl rfl)
  · exact Or.inr (Or.inr (Or.inl rfl))
  · exact Or.inr (Or.inr (Or.inr rfl))
theorem e_slope (h : RA fu fv xs ys n nw) (fi px py pw : Int32) : f_X7_slope fu fv fi px py pw = f_X8_slope nw fi px py pw := by
  unfold f_X7_slope f_X8_slope
  rw [e_plc, e_slt]
  by_cases g1 : f_X7_isPlace px py = 0
  · rw [if_pos g1, if_pos g1, if_pos g1]; rfl
  rw [if_neg g1, if_neg g1, if_neg g1]
  by_cases g2 : pw < 0
  · have : f_X7_isSlot pw = 0 := by unfold f_X7_isSlot; rw [if_pos g2]
    rw [if_pos g2, if_pos this, if_pos this]; rfl
  by_cases g3 : pw ≤ 3
  · rw [if_neg g2, if_pos g3]
    rcases pw4 g2 g3 with e | e | e | e <;> subst e
    · rw [if_pos (show ((if (0 : Int32) < 2 then 0 else 1) : Int32) = 0 by decide), if_pos (show (0 : Int32) - 0 / 2 * 2 = 0 by decide), if_neg (show ¬ f_X7_isSlot 0 = 0 by decide), if_neg (show ¬ f_X7_isSlot 0 = 0 by decide), show ((if (0 : Int32) ≤ 1 then 0 else 1) : Int32) = 0 by decide, show ((if ((0 : Int32) - 0 / 2 * 2) = 1 then 1 else 0) : Int32) = 0 by decide, e_byX (ra_0 h)]
    · rw [if_pos (show ((if (1 : Int32) < 2 then 0 else 1) : Int32) = 0 by decide), if_neg (show ¬ (1 : Int32) - 1 / 2 * 2 = 0 by decide), if_neg (show ¬ f_X7_isSlot 1 = 0 by decide), if_neg (show ¬ f_X7_isSlot 1 = 0 by decide), show ((if (1 : Int32) ≤ 1 then 0 else 1) : Int32) = 0 by decide, show ((if ((1 : Int32) - 1 / 2 * 2) = 1 then 1 else 0) : Int32) = 1 by decide, e_byY (ra_0 h)]
    · rw [if_neg (show ¬ ((if (2 : Int32) < 2 then 0 else 1) : Int32) = 0 by decide), if_pos (show (2 : Int32) - 2 / 2 * 2 = 0 by decide), if_neg (show ¬ f_X7_isSlot 2 = 0 by decide), if_neg (show ¬ f_X7_isSlot 2 = 0 by decide), show ((if (2 : Int32) ≤ 1 then 0 else 1) : Int32) = 1 by decide, show ((if ((2 : Int32) - 2 / 2 * 2) = 1 then 1 else 0) : Int32) = 0 by decide, e_byX (ra_1 h)]
    · rw [if_neg (show ¬ ((if (3 : Int32) < 2 then 0 else 1) : Int32) = 0 by decide), if_neg (show ¬ (3 : Int32) - 3 / 2 * 2 = 0 by decide), if_neg (show ¬ f_X7_isSlot 3 = 0 by decide), if_neg (show ¬ f_X7_isSlot 3 = 0 by decide), show ((if (3 : Int32) ≤ 1 then 0 else 1) : Int32) = 1 by decide, show ((if ((3 : Int32) - 3 / 2 * 2) = 1 then 1 else 0) : Int32) = 1 by decide, e_byY (ra_1 h)]
  · have : f_X7_isSlot pw = 0 := by
      unfold f_X7_isSlot
      rw [if_neg g2]
      have : (4 : Int32) ≤ pw := by
        have := Int32.not_le.mp g3
        rw [Int32.lt_iff_toInt_lt, show (3 : Int32).toInt = 3 from rfl] at this
        rw [Int32.le_iff_toInt_le, show (4 : Int32).toInt = 4 from rfl]; omega
      rw [if_pos this]
    rw [if_neg g2, if_neg g3, if_pos this, if_pos this]; rfl
theorem e_sortAt (h : RA fu fv xs ys n nw) {x y : Int32} (hx : bd x 6) (hy : bd y 6) : f_X8_sortAt nw x y = f_X1_sortAt fu fv x y := by
  unfold f_X8_sortAt f_X1_sortAt
  rw [e_byX (ra_0 h), e_byX (ra_1 h), e_byY (ra_0 h), e_byY (ra_1 h)]
  have a := byX_b (ra_p h) hx hy
  have b := byY_b (ra_p h) hx hy
  have c := byX_b (ra_q h) hx hy
  have d := byY_b (ra_q h) hx hy
  have hD := (subI (mulI (⟨rfl, a.2⟩ : (f_X3_byX fu x y).toInt = _ ∧ _) ⟨rfl, d.2⟩ (by decide)) (mulI (⟨rfl, b.2⟩ : (f_X3_byY fu x y).toInt = _ ∧ _) ⟨rfl, c.2⟩ (by decide)) (by decide))
  have hT := addI (⟨rfl, a.2⟩ : (f_X3_byX fu x y).toInt = _ ∧ _) (⟨rfl, d.2⟩ : (f_X3_byY fv x y).toInt = _ ∧ _) (by decide)
  have hTT := mulI (⟨rfl, hT.2⟩ : (f_X3_byX fu x y + f_X3_byY fv x y).toInt = _ ∧ _) ⟨rfl, hT.2⟩ (by decide)
  have h4 : (4 : Int32).toInt = 4 ∧ bd 4 4 := ⟨rfl, ⟨by decide, by decide⟩⟩
  have hD4 := mulI h4 (⟨rfl, hD.2⟩ : (f_X3_byX fu x y * f_X3_byY fv x y - f_X3_byY fu x y * f_X3_byX fv x y).toInt = _ ∧ _) (by decide)
  generalize f_X3_byX fu x y * f_X3_byY fv x y - f_X3_byY fu x y * f_X3_byX fv x y = D at *
  generalize f_X3_byX fu x y + f_X3_byY fv x y = T at *
  have z : (0 : Int32).toInt = 0 := rfl
  by_cases g1 : D = 0
  · subst g1
    rw [if_pos (by decide), if_pos rfl, if_pos rfl]
  · rw [if_neg g1]
    by_cases g2 : 0 ≤ D
    · rw [if_pos g2, if_neg g1, if_pos g2]
      by_cases g3 : T = 0
      · subst g3
        have : (0 : Int32) * 0 < 4 * D := by
          rw [Int32.lt_iff_toInt_lt, hD4.1]
          have : (0 : Int32).toInt ≤ D.toInt := Int32.le_iff_toInt_le.mp g2
          have : D.toInt ≠ 0 := fun q => g1 (Int32.toInt_inj.mp (by rw [q]; rfl))
          show (0 : Int) < _
          omega
        rw [if_pos rfl, if_pos this, if_pos rfl]
      · rw [if_neg g3]
        by_cases g4 : T * T < 4 * D
        · rw [if_pos g4, if_pos g4, if_neg g3]
        · rw [if_neg g4, if_neg g4]
    · rw [if_neg g2, if_neg g2, if_neg g1]
theorem bd_ofk {k : Nat} (h : ¬ (6 : Int32) < nI k - 6) (hk : k ≤ 13) : bd (nI k - 6) 6 := by
  have e : (nI k - 6).toInt = (k : Int) - 6 := yk_6 (by omega)
  have := Int32.not_lt.mp h
  rw [Int32.le_iff_toInt_le, e, show (6 : Int32).toInt = 6 from rfl] at this
  exact ⟨by rw [e]; omega, by rw [e]; omega⟩
theorem bd_plc {x y : Int32} (h : ¬ f_X7_isPlace x y = 0) : bd x 6 ∧ bd y 6 := by
  unfold f_X7_isPlace at h
  by_cases h1 : f_X7_isWithin x 6 = 0
  · exact absurd (if_pos h1) h
  rw [if_neg h1] at h
  by_cases h2 : f_X7_isWithin y 6 = 0
  · exact absurd (if_pos h2) h
  have w : ∀ {z : Int32}, ¬ f_X7_isWithin z 6 = 0 → bd z 6 := by
    intro z h
    unfold f_X7_isWithin at h
    by_cases h1 : z < -6
    · exact absurd (if_pos h1) h
    rw [if_neg h1] at h
    by_cases h2 : 6 < z
    · exact absurd (if_pos h2) h
    exact ⟨Int32.le_iff_toInt_le.mp (Int32.not_lt.mp h1), Int32.le_iff_toInt_le.mp (Int32.not_lt.mp h2)⟩
  exact ⟨w h1, w h2⟩
theorem e_sort (h : RA fu fv xs ys n nw) (fi px py : Int32) : f_X7_sort fu fv fi px py = f_X8_sort nw fi px py := by
  unfold f_X7_sort f_X8_sort
  rw [e_plc, e_rest h]
  by_cases g1 : f_X7_isPlace px py = 0
  · rw [if_pos g1, if_pos g1]; rfl
  · rw [if_neg g1, if_neg g1, e_sortAt h (bd_plc g1).1 (bd_plc g1).2]
    by_cases g2 : f_X1_isRest fu fv px py = 0
    · rw [if_pos g2, if_pos g2, if_pos g2]; rfl
    · rw [if_neg g2, if_neg g2, if_neg g2]
theorem rest_in (h : RA fu fv xs ys n nw) (fi bq px : Int32) (ki : Nat) (kc kd : Nat → Int32 → Int32 × Int32) (hk : ∀ k w, kc k w = kd k (px - w)) : ∀ (f kj : Nat) (w s t : Int32), l_X7_rest_17 fu fv fi px bq ki s kc f kj w = l_X8_rest_17 nw fi px bq ki t kd f kj (px - w) := by
  intro f
  induction f with
  | zero => intro kj w s t; rfl
  | succ f ih =>
    intro kj w s t
    unfold l_X7_rest_17 l_X8_rest_17
    by_cases hc : (6 : Int32) < nI kj - 6
    · rw [if_pos hc, if_pos hc, hk]
    · rw [if_neg hc, if_neg hc, e_rest h]
      by_cases g : f_X1_isRest fu fv (nI ki - 6) (nI kj - 6) = 0
      · rw [if_pos g, if_pos g, ih]
      · rw [if_neg g, if_neg g]
        have q : (w = px) ↔ (px - w = 0) := ⟨fun e => by rw [e, Int32.sub_self], fun e => by rw [Int32.sub_eq_iff_eq_add, Int32.zero_add] at e; exact e.symm⟩
        by_cases g2 : w = px
        · rw [if_pos g2, if_pos (q.mp g2)]
        · rw [if_neg g2, if_neg (fun e => g2 (q.mpr e)), ih _ _ s t]
          congr 1
          grind
theorem rest_out (h : RA fu fv xs ys n nw) (fi bq px : Int32) : ∀ (f ki : Nat) (w : Int32), l_X7_rest_6 fu fv fi px bq f ki w = l_X8_rest_6 nw fi px bq f ki (px - w) := by
  intro f
  induction f with
  | zero => intro ki w; rfl
  | succ f ih =>
    intro ki w
    unfold l_X7_rest_6 l_X8_rest_6
    by_cases hc : (6 : Int32) < nI ki - 6
    · rw [if_pos hc, if_pos hc]; rfl
    · rw [if_neg hc, if_neg hc]
      exact rest_in h fi bq px ki _ _ (fun k w => ih k w) _ _ _ _ _
theorem e_restm (h : RA fu fv xs ys n nw) (fi px bq : Int32) : f_X7_rest fu fv fi px bq = f_X8_rest nw fi px bq := by
  unfold f_X7_rest f_X8_rest
  rw [rest_out h, Int32.sub_zero]
theorem e_in15 (x : Int32) : (f_X8_in x 1 5 = 0 ∧ (x < 1 ∨ ¬ x ≤ 5)) ∨ (f_X8_in x 1 5 = 1 ∧ ¬ x < 1 ∧ x ≤ 5) := by
  unfold f_X8_in
  by_cases h0 : x < 1
  · rw [if_pos h0]; exact Or.inl ⟨rfl, Or.inl h0⟩
  · rw [if_neg h0]
    by_cases h1 : 5 < x
    · rw [if_pos h1]; exact Or.inl ⟨rfl, Or.inr (Int32.not_le.mpr h1)⟩
    · rw [if_neg h1]; exact Or.inr ⟨rfl, h0, Int32.not_lt.mp h1⟩
theorem sorts_in (h : RA fu fv xs ys n nw) (fi px : Int32) {ki : Nat} (hki : ¬ (6 : Int32) < nI ki - 6) (hk13 : ki ≤ 13) : ∀ (f kj : Nat) (z s t : Int32), kj + f ≤ 14 → l_X7_sorts_32 fu fv fi px ki s f kj z = l_X8_sorts_31 nw fi px ki t f kj z := by
  intro f
  induction f with
  | zero => intro kj z s t _; rfl
  | succ f ih =>
    intro kj z s t hf
    unfold l_X7_sorts_32 l_X8_sorts_31
    by_cases hc : (6 : Int32) < nI kj - 6
    · rw [if_pos hc, if_pos hc]
    · rw [if_neg hc, if_neg hc, e_rest h, e_sortAt h (bd_ofk hki hk13) (bd_ofk hc (by omega)), ih _ _ s t (by omega)]
      congr 1
      by_cases g : f_X1_isRest fu fv (nI ki - 6) (nI kj - 6) = 0
      · rw [if_pos g, if_pos g, Int32.add_zero]
      · rw [if_neg g, if_neg g]
        by_cases g2 : f_X1_sortAt fu fv (nI ki - 6) (nI kj - 6) = px
        · rw [if_pos g2, if_pos g2]
        · rw [if_neg g2, if_neg g2, Int32.add_zero]
theorem sorts_out (h : RA fu fv xs ys n nw) (fi px : Int32) : ∀ (f ki : Nat) (z : Int32), ki + f ≤ 14 → l_X7_sorts_22 fu fv fi px f ki z = l_X8_sorts_21 nw fi px f ki z := by
  intro f
  induction f with
  | zero => intro ki z _; rfl
  | succ f ih =>
    intro ki z hf
    unfold l_X7_sorts_22 l_X8_sorts_21
    by_cases hc : (6 : Int32) < nI ki - 6
    · rw [if_pos hc, if_pos hc]
    · rw [if_neg hc, if_neg hc, sorts_in h fi px hc (by omega) _ _ _ z z (by decide), ih _ _ (by omega)]
theorem e_sorts (h : RA fu fv xs ys n nw) (fi px : Int32) : f_X7_sorts fu fv fi px = f_X8_sorts nw fi px := by
  unfold f_X7_sorts f_X8_sorts
  rcases e_in15 px with ⟨a, b⟩ | ⟨a, b, c⟩
  · rw [if_pos a]
    by_cases g : px < 1
    · rw [if_pos g]; rfl
    · rw [if_neg g, if_neg (b.resolve_left g)]; rfl
  · rw [if_neg b, if_pos c, if_neg (by rw [a]; decide), sorts_out h fi px _ _ _ (by decide)]
theorem e_smp (h : RA fu fv xs ys n nw) (bq : Int32) : f_X7_simple xs ys n bq = f_X8_simple nw bq n := by
  unfold f_X7_simple f_X8_simple f_X0_isLeft
  rw [e_simple h, e_area h]
  by_cases g : bq = 0 <;> by_cases g2 : f_X0_doubleArea xs ys n ≤ 0 <;> rcases b_X0_isSimple xs ys n with b | b <;> simp [b, g, g2]
theorem e_within (h : RA fu fv xs ys n nw) (fi px py : Int32) : f_X7_within xs ys n fi px py = f_X8_within nw fi px py n := by
  unfold f_X7_within f_X8_within
  rw [e_plc, e_simple h, e_where h]
  by_cases g1 : f_X7_isPlace px py = 0
  · rw [if_pos g1, if_pos g1]; rfl
  · rw [if_neg g1, if_neg g1]
    by_cases g2 : f_X0_isSimple xs ys n = 0
    · rw [if_pos g2, if_pos g2, if_pos g2]; rfl
    · rw [if_neg g2, if_neg g2, if_neg g2]
theorem idx_in (h : RA fu fv xs ys n nw) (fi : Int32) {ki : Nat} (hki : ¬ (6 : Int32) < nI ki - 6) (hk13 : ki ≤ 13) (kc kd : Nat → Int32 → Int32 × Int32) (hk : ∀ w, kc (ki + 1) w = kd (ki + 1) w) : ∀ (f kj : Nat) (z s t : Int32), kj + f ≤ 14 → l_X7_indexes_31 fu fv xs ys n fi ki s kc f kj z = l_X8_indexes_28 nw fi n ki t kd f kj z := by
  intro f
  induction f with
  | zero => intro kj z s t _; rfl
  | succ f ih =>
    intro kj z s t hf
    unfold l_X7_indexes_31 l_X8_indexes_28
    by_cases hc : (6 : Int32) < nI kj - 6
    · rw [if_pos hc, if_pos hc, hk]
    · rw [if_neg hc, if_neg hc, e_rest h, e_where h, e_sortAt h (bd_ofk hki hk13) (bd_ofk hc (by omega)), ih _ _ s t (by omega), ih _ _ s t (by omega)]
      rfl
theorem idx_out (h : RA fu fv xs ys n nw) (fi : Int32) : ∀ (f ki : Nat) (z : Int32), ki + f ≤ 14 → l_X7_indexes_22 fu fv xs ys n fi f ki z = l_X8_indexes_19 nw fi n f ki z := by
  intro f
  induction f with
  | zero => intro ki z _; rfl
  | succ f ih =>
    intro ki z hf
    unfold l_X7_indexes_22 l_X8_indexes_19
    by_cases hc : (6 : Int32) < nI ki - 6
    · rw [if_pos hc, if_pos hc]
    · rw [if_neg hc, if_neg hc]
      exact idx_in h fi hc (by omega) _ _ (fun w => ih _ w (by omega)) _ _ _ _ _ (by decide)
theorem e_indexes (h : RA fu fv xs ys n nw) (fi : Int32) : f_X7_indexes fu fv xs ys n fi = f_X8_indexes nw fi n := by
  unfold f_X7_indexes f_X8_indexes
  rw [e_simple h]
  by_cases g : f_X0_isSimple xs ys n = 0
  · rw [if_pos g, if_pos g]; rfl
  · rw [if_neg g, if_neg g, idx_out h fi _ _ _ (by decide)]
theorem e_falls (h : RA fu fv xs ys n nw) (fi pa pb pc_ pd pe px py : Int32) : f_X7_falls fu fv fi pa pb pc_ pd pe px py = f_X8_falls nw fi pa pb pc_ pd pe px py := by
  unfold f_X7_falls f_X8_falls
  rw [e_plc, e_at (ra_0 h), e_at (ra_1 h)]
  rfl
theorem e_none4 (h : RA fu fv xs ys n nw) (fi pa pb pc_ pd : Int32) : l_X8_none_44 nw fi pa pb pc_ pd (4 + 1) 0 0 0 = ((((0 + (if f_X1_spreadAt fu fv pa pb ≤ 0 then 0 else 1)) + (if f_X1_spreadAt fu fv pc_ pb ≤ 0 then 0 else 1)) + (if f_X1_spreadAt fu fv pa pd ≤ 0 then 0 else 1)) + (if f_X1_spreadAt fu fv pc_ pd ≤ 0 then 0 else 1), (((0 + (if 0 ≤ f_X1_spreadAt fu fv pa pb then 0 else 1)) + (if 0 ≤ f_X1_spreadAt fu fv pc_ pb then 0 else 1)) + (if 0 ≤ f_X1_spreadAt fu fv pa pd then 0 else 1)) + (if 0 ≤ f_X1_spreadAt fu fv pc_ pd then 0 else 1)) := by
  rw [← e_spread h, ← e_spread h, ← e_spread h, ← e_spread h]
  rfl
theorem tri32 (v : Int32) : (v < 0 ∧ v ≤ 0 ∧ ¬ 0 ≤ v) ∨ (v = 0) ∨ (0 < v ∧ ¬ v ≤ 0 ∧ 0 ≤ v ∧ ¬ v < 0) := by
  by_cases h : v < 0
  · exact Or.inl ⟨h, Int32.le_of_lt h, Int32.not_le.mpr h⟩
  · by_cases h2 : 0 < v
    · exact Or.inr (Or.inr ⟨h2, Int32.not_le.mpr h2, Int32.le_of_lt h2, h⟩)
    · exact Or.inr (Or.inl (Int32.le_antisymm (Int32.not_lt.mp h2) (Int32.not_lt.mp h)))
end READS
