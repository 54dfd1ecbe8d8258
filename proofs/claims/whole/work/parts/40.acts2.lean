section ACTS2
variable {fu fv xs ys : Nat → Int32} {n : Nat} {nw : Nat → Int32} {rw : Nat → Nat → Int32} {co la : Nat} {un : Nat → Int32} {u : Nat} {du dv : Nat → Int32}
/-- a draft that is looked at before it is taken -/
theorem e_tdf (h : RA fu fv xs ys n nw) (hp : RP rw co la un u) (fi : Int32) {gu gv fr : Nat → Int32} (hf : ∀ k, k < 6 → fr k = gu k ∧ fr (6 + k) = gv k) : (f_X8_isSmall fr = 0 ∧ f_X7_takeDraftIfItFits fu fv gu gv xs ys n rw co la fi = (-1000003, fi + 1, fu, fv, co, la, rw)) ∨ (¬ f_X8_isSmall fr = 0 ∧ (f_X7_takeDraftIfItFits fu fv gu gv xs ys n rw co la fi).1 = 1 ∧ (f_X7_takeDraftIfItFits fu fv gu gv xs ys n rw co la fi).2.1 = fi ∧ RA (f_X7_takeDraftIfItFits fu fv gu gv xs ys n rw co la fi).2.2.1 (f_X7_takeDraftIfItFits fu fv gu gv xs ys n rw co la fi).2.2.2.1 xs ys n (f_X8_take nw fr) ∧ RP (f_X7_takeDraftIfItFits fu fv gu gv xs ys n rw co la fi).2.2.2.2.2.2 (f_X7_takeDraftIfItFits fu fv gu gv xs ys n rw co la fi).2.2.2.2.1 (f_X7_takeDraftIfItFits fu fv gu gv xs ys n rw co la fi).2.2.2.2.2.1 (f_X8_remember nw un u).2 (f_X8_remember nw un u).1) := by
  unfold f_X7_takeDraftIfItFits
  rcases fit_eq hf with ⟨a, b⟩ | ⟨a, b, c⟩
  · left
    rw [b]
    exact ⟨a, rfl⟩
  · right
    rw [b]
    have t := take_v nw fr
    refine ⟨by rw [a]; decide, rfl, rfl, RA_act h (fun k hk => ?_) (fun k hk => t.2 k hk), e_rem h hp⟩
    rw [t.1 k (by omega), t.1 (6 + k) (by omega), (hf k hk).1, (hf k hk).2]
    exact ⟨rfl, rfl, c k hk⟩
theorem e_move (h : RA fu fv xs ys n nw) (hp : RP rw co la un u) (fr : Nat → Int32) (fi px py : Int32) : (f_X7_move fu fv du dv xs ys n rw co la fi px py).1 = (f_X8_move nw un u fi fr px py).1 ∧ (f_X7_move fu fv du dv xs ys n rw co la fi px py).2.1 = (f_X8_move nw un u fi fr px py).2.2.1 ∧ RA (f_X7_move fu fv du dv xs ys n rw co la fi px py).2.2.1 (f_X7_move fu fv du dv xs ys n rw co la fi px py).2.2.2.1 xs ys n (f_X8_move nw un u fi fr px py).2.2.2.1 ∧ RP (f_X7_move fu fv du dv xs ys n rw co la fi px py).2.2.2.2.2.2.2.2 (f_X7_move fu fv du dv xs ys n rw co la fi px py).2.2.2.2.2.2.1 (f_X7_move fu fv du dv xs ys n rw co la fi px py).2.2.2.2.2.2.2.1 (f_X8_move nw un u fi fr px py).2.2.2.2.1 (f_X8_move nw un u fi fr px py).2.1 := by
  have mvc : ∀ {d g g2 : Nat → Int32} {x y : Int32}, (∀ k, k < 6 → g2 k = g k) → ∀ k, k < 6 → f_X3_movedFrom d g2 x y k = f_X3_movedFrom d g x y k := by
    intro d g g2 x y hg k hk
    have e1 : f_X3_at g2 x y = f_X3_at g x y := by unfold f_X3_at f_X3_squaresAt; rw [hg 0 (by decide), hg 1 (by decide), hg 2 (by decide), hg 3 (by decide), hg 4 (by decide), hg 5 (by decide)]
    have e2 : f_X3_byX g2 x y = f_X3_byX g x y := by unfold f_X3_byX; rw [hg 1 (by decide), hg 3 (by decide), hg 4 (by decide)]
    have e3 : f_X3_byY g2 x y = f_X3_byY g x y := by unfold f_X3_byY; rw [hg 2 (by decide), hg 4 (by decide), hg 5 (by decide)]
    unfold f_X3_movedFrom
    rw [e1, e2, e3]
    have w : ∀ j, upd (upd (upd (f_X3_become d g2) 0 (f_X3_at g x y)) 1 (f_X3_byX g x y)) 2 (f_X3_byY g x y) j = if j = 2 then f_X3_byY g x y else if j = 1 then f_X3_byX g x y else if j = 0 then f_X3_at g x y else f_X3_become d g2 j := fun _ => rfl
    have w2 : ∀ j, upd (upd (upd (f_X3_become d g) 0 (f_X3_at g x y)) 1 (f_X3_byX g x y)) 2 (f_X3_byY g x y) j = if j = 2 then f_X3_byY g x y else if j = 1 then f_X3_byX g x y else if j = 0 then f_X3_at g x y else f_X3_become d g j := fun _ => rfl
    rw [w, w2, bec hk, bec hk, hg k hk]
  unfold f_X7_move f_X8_move
  rw [e_plc]
  by_cases g1 : f_X7_isPlace px py = 0
  · rw [if_pos g1, if_pos g1]; exact ⟨rfl, rfl, h, hp⟩
  · rw [if_neg g1, if_neg g1]
    have hv := mv_v (du := du) (dv := dv) nw un u fi fr px py
    have hf : ∀ k, k < 6 → l_X8_move_17 nw un u fi fr px py (2 + 1) 0 fr k = f_X3_movedFrom du fu px py k ∧ l_X8_move_17 nw un u fi fr px py (2 + 1) 0 fr (6 + k) = f_X3_movedFrom dv fv px py k := fun k hk =>
      ⟨(hv k hk).1.trans (mvc (fun j hj => ra_0 h j hj) k hk), (hv k hk).2.trans (mvc (fun j hj => ra_1 h j hj) k hk)⟩
    rcases e_tdf h hp fi hf with ⟨a, b⟩ | ⟨a, b, c, d, e⟩
    · rw [if_pos a, b]; exact ⟨rfl, rfl, h, hp⟩
    · rw [if_neg a]; exact ⟨by dsimp only; exact b, by dsimp only; exact c, by dsimp only; exact d, by dsimp only; exact e⟩
theorem e_open (h : RA fu fv xs ys n nw) (hp : RP rw co la un u) : (f_X7_open fu fv xs ys n rw co la).1 = (f_X8_open nw un u).1 ∧ RA fu fv xs ys (f_X7_open fu fv xs ys n rw co la).2.1 (f_X8_open nw un u).2.2.1 ∧ RP (f_X7_open fu fv xs ys n rw co la).2.2.2.2 (f_X7_open fu fv xs ys n rw co la).2.2.1 (f_X7_open fu fv xs ys n rw co la).2.2.2.1 (f_X8_open nw un u).2.2.2 (f_X8_open nw un u).2.1 := by
  refine ⟨h.2.1.symm, ⟨fun k hk => ?_, rfl, Nat.zero_le _, fun j hj => absurd hj (Nat.not_lt_zero _), fun hj => absurd hj (Nat.lt_irrefl _)⟩, e_rem h hp⟩
  show upd nw 12 0 k = fu k ∧ upd nw 12 0 (6 + k) = fv k ∧ _
  rw [pk_un (by omega), pk_un (by omega)]
  exact h.1 k hk
theorem crn (h : RA fu fv xs ys n nw) (hn : n < 8) {px py : Int32} (hb : bd px 6 ∧ bd py 6) : RA fu fv (upd (upd xs n px) (n + 1) ((upd xs n px) 0)) (upd (upd ys n py) (n + 1) ((upd ys n py) 0)) (n + 1) (upd (upd (upd nw (13 + n) px) (21 + n) py) 12 (nI (n + 1))) := by
  obtain ⟨h1, h2, h3, h4, h5⟩ := h
  refine ⟨fun k hk => ?_, pk_us, by omega, fun j hj => ?_, fun _ => ?_⟩
  · rw [pk_un (by omega), pk_un (by omega), pk_un (by omega), pk_un (by omega), pk_un (by omega), pk_un (by omega)]; exact h1 k hk
  · rw [pk_un (show 13 + j ≠ 12 by omega), pk_un (show 21 + j ≠ 12 by omega), pk_un (show 13 + j ≠ 21 + n by omega), pk_un (show j ≠ n + 1 by omega), pk_un (show j ≠ n + 1 by omega)]
    by_cases e : j = n
    · subst e
      rw [pk_us, pk_us, pk_us, pk_us]; exact ⟨rfl, rfl, hb⟩
    · rw [pk_un (show 13 + j ≠ 13 + n by omega), pk_un (show 21 + j ≠ 21 + n by omega), pk_un (show 21 + j ≠ 13 + n by omega), pk_un e, pk_un e]; exact h4 j (by omega)
  · rw [pk_us, pk_us, pk_un (show 0 ≠ n + 1 by omega), pk_un (show 0 ≠ n + 1 by omega)]; exact ⟨rfl, rfl⟩
theorem latest_0 (h : RA fu fv xs ys n nw) (px py : Int32) : (f_X0_isLatest xs ys n px py = 0 ∧ (n = 0 ∨ ¬ (f_X8_xOf nw (n - 1) n = px ∧ f_X8_yOf nw (n - 1) n = py))) ∨ (f_X0_isLatest xs ys n px py = 1 ∧ 0 < n ∧ f_X8_xOf nw (n - 1) n = px ∧ f_X8_yOf nw (n - 1) n = py) := by
  have hn8 := h.2.2.1
  unfold f_X0_isLatest
  by_cases h0 : nI n ≤ 0
  · have : n ≤ 0 := (nI_leI (b := 0) (by omega) (by decide)).mp h0
    rw [if_pos h0]; exact Or.inl ⟨rfl, Or.inl (by omega)⟩
  · have hn : 1 ≤ n := yk_pos h0
    have X := ex_x0 h (show n - 1 ≤ n by omega) hn
    rw [if_neg h0, X.1, X.2]
    by_cases h1 : xs (n - 1) = px
    · rw [if_pos h1]
      by_cases h2 : ys (n - 1) = py
      · rw [if_pos h2]; exact Or.inr ⟨rfl, hn, h1, h2⟩
      · rw [if_neg h2]; exact Or.inl ⟨rfl, Or.inr (fun q => h2 q.2)⟩
    · rw [if_neg h1]; exact Or.inl ⟨rfl, Or.inr (fun q => h1 q.1)⟩
theorem e_corner (h : RA fu fv xs ys n nw) (hp : RP rw co la un u) (fi px py : Int32) : (f_X7_corner fu fv xs ys n rw co la fi px py).1 = (f_X8_corner nw un u fi px py n).1 ∧ (f_X7_corner fu fv xs ys n rw co la fi px py).2.1 = (f_X8_corner nw un u fi px py n).2.2.1 ∧ RA fu fv (f_X7_corner fu fv xs ys n rw co la fi px py).2.2.2.1 (f_X7_corner fu fv xs ys n rw co la fi px py).2.2.2.2.1 (f_X7_corner fu fv xs ys n rw co la fi px py).2.2.1 (f_X8_corner nw un u fi px py n).2.2.2.1 ∧ RP (f_X7_corner fu fv xs ys n rw co la fi px py).2.2.2.2.2.2.2 (f_X7_corner fu fv xs ys n rw co la fi px py).2.2.2.2.2.1 (f_X7_corner fu fv xs ys n rw co la fi px py).2.2.2.2.2.2.1 (f_X8_corner nw un u fi px py n).2.2.2.2 (f_X8_corner nw un u fi px py n).2.1 := by
  have hn8 := h.2.2.1
  have c8 : (nI n = 8) ↔ n = 8 := nI_eq (b := 8) (by omega) (by decide)
  have l8 : (nI n < 8) ↔ n < 8 := nI_ltI (b := 8) (by omega) (by decide)
  have g8 : ((8 : Int32) ≤ nI n) ↔ 8 ≤ n := nI_leI (a := 8) (by decide) (by omega)
  have z0 : (nI n ≤ 0) ↔ n ≤ 0 := nI_leI (b := 0) (by omega) (by decide)
  unfold f_X7_corner f_X8_corner
  rw [e_plc]
  by_cases g1 : f_X7_isPlace px py = 0
  · rw [if_pos g1, if_pos g1]; exact ⟨rfl, rfl, h, hp⟩
  rw [if_neg g1, if_neg g1]
  have hb := bd_plc g1
  have hr := e_rem h hp
  have main : n < 8 → (nI ((f_X0_append xs ys n px py).1) = nI (n + 1) ∧ fi = fi ∧ RA fu fv (f_X0_append xs ys n px py).2.1 (f_X0_append xs ys n px py).2.2 (f_X0_append xs ys n px py).1 (upd (upd (upd nw (13 + n) px) (21 + n) py) 12 (nI (n + 1))) ∧ RP (f_X2_remember rw co la fu fv xs ys n).2.2 (f_X2_remember rw co la fu fv xs ys n).1 (f_X2_remember rw co la fu fv xs ys n).2.1 (f_X8_remember nw un u).2 (f_X8_remember nw un u).1) := by
    intro hn
    have ng : ¬ (8 : Int32) ≤ nI n := fun q => by have := g8.mp q; omega
    unfold f_X0_append
    rw [if_neg ng, if_neg ng, if_neg ng]
    exact ⟨rfl, rfl, crn h hn hb, hr⟩
  rcases latest_0 h px py with ⟨a, b⟩ | ⟨a, b, c, d⟩
  · rw [if_pos a]
    by_cases hn : n < 8
    · have n8 : ¬ nI n = 8 := fun q => by have := c8.mp q; omega
      rw [if_pos (l8.mpr hn)]
      by_cases g2 : nI n ≤ 0
      · rw [if_pos g2, if_neg n8]; exact main hn
      · rw [if_neg g2]
        have b2 := b.resolve_left (fun q => g2 (z0.mpr (by omega)))
        by_cases g3 : f_X8_xOf nw (n - 1) n = px
        · rw [if_pos g3, if_neg (fun q => b2 ⟨g3, q⟩), if_neg n8]; exact main hn
        · rw [if_neg g3, if_neg n8]; exact main hn
    · have n8 : nI n = 8 := c8.mpr (by omega)
      rw [if_neg (fun q => hn (l8.mp q))]
      have g2 : ¬ nI n ≤ 0 := fun q => by have := z0.mp q; omega
      rw [if_neg g2]
      have b2 := b.resolve_left (by omega)
      by_cases g3 : f_X8_xOf nw (n - 1) n = px
      · rw [if_pos g3, if_neg (fun q => b2 ⟨g3, q⟩), if_pos n8]; exact ⟨rfl, rfl, h, hp⟩
      · rw [if_neg g3, if_pos n8]; exact ⟨rfl, rfl, h, hp⟩
  · have g2 : ¬ nI n ≤ 0 := fun q => by have := z0.mp q; omega
    rw [if_neg (by rw [a]; decide), if_neg g2, if_pos c, if_pos d]; exact ⟨rfl, rfl, h, hp⟩
end ACTS2
