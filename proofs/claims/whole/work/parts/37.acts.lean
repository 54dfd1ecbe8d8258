/-! loops that fill a stretch of a row -/
theorem lp {L : Nat → Nat → (Nat → Int32) → (Nat → Int32)} {N o : Nat} {g z0 : Nat → Int32} (h : ∀ f k z, k < N → (∀ j, o + k ≤ j → z j = z0 j) → L (f + 1) k z = L f (k + 1) (upd z (o + k) (g k))) (he : ∀ f z, L (f + 1) N z = z) : ∀ (f k : Nat) (z : Nat → Int32), k ≤ N → N - k + 1 ≤ f → (∀ j, j < k → z (o + j) = g j) → (∀ j, j < o ∨ o + k ≤ j → z j = z0 j) → (∀ j, j < N → L f k z (o + j) = g j) ∧ (∀ j, j < o ∨ o + N ≤ j → L f k z j = z0 j) := by
  intro f
  induction f with
  | zero => intro k z _ h1; omega
  | succ f ih =>
    intro k z h1 h2 h3 h4
    rcases Nat.lt_or_ge k N with q | q
    · rw [h f k z q (fun j hj => h4 j (Or.inr hj))]
      refine ih (k + 1) _ (by omega) (by omega) (fun j hj => ?_) (fun j hj => ?_)
      · by_cases e : j = k
        · rw [e, pk_us]
        · rw [pk_un (by omega)]; exact h3 j (by omega)
      · rw [pk_un (by omega)]; exact h4 j (by omega)
    · have : k = N := by omega
      subst this
      rw [he]
      exact ⟨h3, h4⟩
/-- the same, from the beginning -/
theorem lp0 {L : Nat → Nat → (Nat → Int32) → (Nat → Int32)} {N o : Nat} {g z0 : Nat → Int32} (h : ∀ f k z, k < N → (∀ j, o + k ≤ j → z j = z0 j) → L (f + 1) k z = L f (k + 1) (upd z (o + k) (g k))) (he : ∀ f z, L (f + 1) N z = z) : (∀ j, j < N → L (N + 1) 0 z0 (o + j) = g j) ∧ (∀ j, j < o ∨ o + N ≤ j → L (N + 1) 0 z0 j = z0 j) := lp h he (N + 1) 0 z0 (Nat.zero_le _) (by omega) (fun j hj => absurd hj (Nat.not_lt_zero _)) (fun _ _ => rfl)
theorem bd_of_in {x : Int32} (h : ¬ f_X8_in x (-4) 4 = 0) : bd x 4 := by
  unfold f_X8_in at h
  by_cases h1 : x < -4
  · exact absurd (if_pos h1) h
  rw [if_neg h1] at h
  by_cases h2 : 4 < x
  · exact absurd (if_pos h2) h
  have a := Int32.not_lt.mp h1
  have b := Int32.not_lt.mp h2
  rw [Int32.le_iff_toInt_le] at a b
  exact ⟨a, b⟩
theorem in_of_bd {x : Int32} (h : bd x 4) : ¬ f_X8_in x (-4) 4 = 0 := by
  have a : (-4 : Int32) ≤ x := Int32.le_iff_toInt_le.mpr h.1
  have b : x ≤ 4 := Int32.le_iff_toInt_le.mpr h.2
  unfold f_X8_in
  rw [if_neg (Int32.not_lt.mpr a), if_neg (Int32.not_lt.mpr b)]
  decide
theorem fits_0 (fu : Nat → Int32) : ∀ (f ki : Nat), ki ≤ 6 → 6 - ki + 1 ≤ f → (l_X3_fits_2 fu f ki = 1 ↔ ∀ k, ki ≤ k → k < 6 → bd (fu k) 4) := by
  intro f
  induction f with
  | zero => intro ki _ h; omega
  | succ f ih =>
    intro ki h1 h2
    unfold l_X3_fits_2
    by_cases hc : (6 : Int32) ≤ nI ki
    · rw [if_pos hc]
      have := (nI_leI (a := 6) (by omega) (by omega)).mp hc
      exact ⟨fun _ k g1 g2 => by omega, fun _ => rfl⟩
    · rw [if_neg hc]
      have hk : ki < 6 := by
        rcases Nat.lt_or_ge ki 6 with q | q
        · exact q
        · exact absurd (nI_le q (by omega)) hc
      by_cases hA : f_X7_isWithin (fu ki) 4 = 0
      · rw [if_pos hA]
        exact ⟨fun h => absurd h (by decide), fun h => absurd hA (in_of_bd (h ki (Nat.le_refl _) hk))⟩
      · rw [if_neg hA, ih (ki + 1) (by omega) (by omega)]
        refine ⟨fun h k g1 g2 => ?_, fun h k g1 g2 => h k (by omega) g2⟩
        rcases Nat.eq_or_lt_of_le g1 with q | q
        · subst q; exact bd_of_in hA
        · exact h k q g2
theorem small_0 (fu : Nat → Int32) : ∀ (f ki : Nat), ki ≤ 12 → 12 - ki + 1 ≤ f → (l_X8_isSmall_2 fu f ki = 1 ↔ ∀ k, ki ≤ k → k < 12 → bd (fu k) 4) := by
  intro f
  induction f with
  | zero => intro ki _ h; omega
  | succ f ih =>
    intro ki h1 h2
    unfold l_X8_isSmall_2
    by_cases hc : (12 : Int32) ≤ nI ki
    · rw [if_pos hc]
      have := (nI_leI (a := 12) (by omega) (by omega)).mp hc
      exact ⟨fun _ k g1 g2 => by omega, fun _ => rfl⟩
    · rw [if_neg hc]
      have hk : ki < 12 := by
        rcases Nat.lt_or_ge ki 12 with q | q
        · exact q
        · exact absurd (nI_le q (by omega)) hc
      by_cases hA : f_X8_in (fu ki) (-4) 4 = 0
      · rw [if_pos hA]
        exact ⟨fun h => absurd h (by decide), fun h => absurd hA (in_of_bd (h ki (Nat.le_refl _) hk))⟩
      · rw [if_neg hA, ih (ki + 1) (by omega) (by omega)]
        refine ⟨fun h k g1 g2 => ?_, fun h k g1 g2 => h k (by omega) g2⟩
        rcases Nat.eq_or_lt_of_le g1 with q | q
        · subst q; exact bd_of_in hA
        · exact h k q g2
/-- a draft and the model's fresh numbers: the same, and small alike -/
theorem fit_eq {du dv fr : Nat → Int32} (h : ∀ k, k < 6 → fr k = du k ∧ fr (6 + k) = dv k) : (f_X8_isSmall fr = 0 ∧ f_X1_fits du dv = 0) ∨ (f_X8_isSmall fr = 1 ∧ f_X1_fits du dv = 1 ∧ ∀ k, k < 6 → bd (du k) 4 ∧ bd (dv k) 4) := by
  have s := small_0 fr 13 0 (by decide) (by decide)
  have p := fits_0 du 7 0 (by decide) (by decide)
  have q := fits_0 dv 7 0 (by decide) (by decide)
  have b0 := b_X8_isSmall fr
  have b1 := b_X3_fits du
  have b2 := b_X3_fits dv
  have e0 : f_X8_isSmall fr = l_X8_isSmall_2 fr 13 0 := rfl
  have e1 : f_X3_fits du = l_X3_fits_2 du 7 0 := rfl
  have e2 : f_X3_fits dv = l_X3_fits_2 dv 7 0 := rfl
  rw [← e0] at s; rw [← e1] at p; rw [← e2] at q
  have all : (∀ k, 0 ≤ k → k < 12 → bd (fr k) 4) ↔ ((∀ k, 0 ≤ k → k < 6 → bd (du k) 4) ∧ (∀ k, 0 ≤ k → k < 6 → bd (dv k) 4)) := by
    constructor
    · intro g
      exact ⟨fun k _ hk => by rw [← (h k hk).1]; exact g k (Nat.zero_le _) (by omega), fun k _ hk => by rw [← (h k hk).2]; exact g (6 + k) (Nat.zero_le _) (by omega)⟩
    · intro g k _ hk
      rcases Nat.lt_or_ge k 6 with w | w
      · rw [(h k w).1]; exact g.1 k (Nat.zero_le _) w
      · have := (h (k - 6) (by omega)).2
        rw [show 6 + (k - 6) = k from by omega] at this
        rw [this]; exact g.2 (k - 6) (Nat.zero_le _) (by omega)
  unfold f_X1_fits
  rcases b1 with b1 | b1
  · left
    rw [if_pos b1]
    refine ⟨?_, rfl⟩
    rcases b0 with b0 | b0
    · exact b0
    · have := p.mpr (all.mp (s.mp b0)).1
      rw [b1] at this; exact absurd this (by decide)
  · rw [if_neg (by rw [b1]; decide)]
    rcases b2 with b2 | b2
    · left
      rw [if_pos b2]
      refine ⟨?_, rfl⟩
      rcases b0 with b0 | b0
      · exact b0
      · have := q.mpr (all.mp (s.mp b0)).2
        rw [b2] at this; exact absurd this (by decide)
    · right
      rw [if_neg (by rw [b2]; decide)]
      have g1 := p.mp b1
      have g2 := q.mp b2
      exact ⟨s.mpr (all.mpr ⟨g1, g2⟩), rfl, fun k hk => ⟨g1 k (Nat.zero_le _) hk, g2 k (Nat.zero_le _) hk⟩⟩
section ACTS
variable {fu fv xs ys : Nat → Int32} {n : Nat} {nw : Nat → Int32} {rw : Nat → Nat → Int32} {co la : Nat} {un : Nat → Int32} {u : Nat} {du dv : Nat → Int32} {mw : Nat → Int32}
theorem bec {fu du : Nat → Int32} {k : Nat} (h : k < 6) : f_X3_become fu du k = du k := by
  unfold f_X3_become
  rw [pk_cpy_in (by omega) (by omega), Nat.zero_add, Nat.sub_zero]
theorem RA_act (h : RA fu fv xs ys n nw) (hd : ∀ k, k < 6 → mw k = du k ∧ mw (6 + k) = dv k ∧ bd (du k) 4 ∧ bd (dv k) 4) (hm : ∀ k, 12 ≤ k → mw k = nw k) : RA (f_X3_become fu du) (f_X3_become fv dv) xs ys n mw := by
  obtain ⟨h1, h2, h3, h4, h5⟩ := h
  refine ⟨fun k hk => ?_, by rw [hm 12 (by decide)]; exact h2, h3, fun j hj => ?_, h5⟩
  · rw [bec hk, bec hk]; exact hd k hk
  · rw [hm (13 + j) (by omega), hm (21 + j) (by omega)]; exact h4 j hj
theorem take_v (nw fr : Nat → Int32) : (∀ k, k < 12 → f_X8_take nw fr k = fr k) ∧ ∀ k, 12 ≤ k → f_X8_take nw fr k = nw k := by
  have := lp0 (L := l_X8_take_2 nw fr) (N := 12) (o := 0) (g := fr) (z0 := nw) (fun f k z hk _ => by
    show (if (12 : Int32) ≤ nI k then z else l_X8_take_2 nw fr f (k + 1) (upd z k (fr k))) = _
    rw [if_neg (show ¬ (12 : Int32) ≤ nI k from nI_ge (b := 12) hk (by decide)), Nat.zero_add]) (fun f z => by
    show (if (12 : Int32) ≤ nI 12 then z else _) = z
    rw [if_pos (by decide)])
  refine ⟨fun k hk => ?_, fun k hk => this.2 k (Or.inr (by omega))⟩
  have q := this.1 k hk
  rw [Nat.zero_add] at q
  exact q
theorem e_num (x : Int32) : f_X8_in x 0 5 = f_X7_isNumberIndex x := by
  unfold f_X8_in f_X7_isNumberIndex
  by_cases h0 : x < 0
  · rw [if_pos h0, if_pos h0]
  · rw [if_neg h0, if_neg h0]
    have : (5 : Int32) < x ↔ (6 : Int32) ≤ x := by
      rw [Int32.lt_iff_toInt_lt, Int32.le_iff_toInt_le, show (5 : Int32).toInt = 5 from rfl, show (6 : Int32).toInt = 6 from rfl]; omega
    by_cases h1 : (6 : Int32) ≤ x
    · rw [if_pos h1, if_pos (this.mpr h1)]
    · rw [if_neg h1, if_neg (fun q => h1 (this.mp q))]
theorem e_slt (x : Int32) : f_X8_in x 0 3 = f_X7_isSlot x := by
  unfold f_X8_in f_X7_isSlot
  by_cases h0 : x < 0
  · rw [if_pos h0, if_pos h0]
  · rw [if_neg h0, if_neg h0]
    have : (3 : Int32) < x ↔ (4 : Int32) ≤ x := by
      rw [Int32.lt_iff_toInt_lt, Int32.le_iff_toInt_le, show (3 : Int32).toInt = 3 from rfl, show (4 : Int32).toInt = 4 from rfl]; omega
    by_cases h1 : (4 : Int32) ≤ x
    · rw [if_pos h1, if_pos (this.mpr h1)]
    · rw [if_neg h1, if_neg (fun q => h1 (this.mp q))]
theorem e_put (h : RA fu fv xs ys n nw) (hp : RP rw co la un u) (fi bq pm pv : Int32) : (f_X7_put fu fv du dv xs ys n rw co la fi bq pm pv).1 = (f_X8_put nw un u fi bq pm pv).1 ∧ (f_X7_put fu fv du dv xs ys n rw co la fi bq pm pv).2.1 = (f_X8_put nw un u fi bq pm pv).2.2.1 ∧ RA (f_X7_put fu fv du dv xs ys n rw co la fi bq pm pv).2.2.1 (f_X7_put fu fv du dv xs ys n rw co la fi bq pm pv).2.2.2.1 xs ys n (f_X8_put nw un u fi bq pm pv).2.2.2.1 ∧ RP (f_X7_put fu fv du dv xs ys n rw co la fi bq pm pv).2.2.2.2.2.2.2.2 (f_X7_put fu fv du dv xs ys n rw co la fi bq pm pv).2.2.2.2.2.2.1 (f_X7_put fu fv du dv xs ys n rw co la fi bq pm pv).2.2.2.2.2.2.2.1 (f_X8_put nw un u fi bq pm pv).2.2.2.2 (f_X8_put nw un u fi bq pm pv).2.1 := by
  unfold f_X7_put f_X8_put
  rw [e_num]
  by_cases g1 : f_X7_isNumberIndex pm = 0
  · rw [if_pos g1, if_pos g1]; exact ⟨rfl, rfl, h, hp⟩
  rw [if_neg g1, if_neg g1]
  have e4 : f_X8_in pv (-4) 4 = f_X7_isWithin pv 4 := rfl
  by_cases g2 : f_X7_isWithin pv 4 = 0
  · rw [if_pos g2, e4, if_pos g2]; exact ⟨rfl, rfl, h, hp⟩
  rw [if_neg g2, e4, if_neg g2]
  have hpv : bd pv 4 := bd_of_in g2
  obtain ⟨-, hj⟩ := ix_num g1
  generalize pm.toNatClampNeg = j at *
  have hr := e_rem h hp
  obtain ⟨h1, h2⟩ := h
  by_cases g3 : bq = 0
  · rw [if_pos g3, if_pos g3]
    refine ⟨?_, rfl, RA_act ⟨h1, h2⟩ (fun k hk => ?_) (fun k hk => ?_), hr⟩
    · show f_X3_become du fu j = f_X8_get nw bq j
      rw [g3, e_get0, bec hj, (h1 j hj).1]
    · show upd nw j pv k = upd (f_X3_become du fu) j pv k ∧ upd nw j pv (6 + k) = f_X3_become dv fv k ∧ bd (upd (f_X3_become du fu) j pv k) 4 ∧ bd (f_X3_become dv fv k) 4
      rw [bec hk, pk_un (show 6 + k ≠ j by omega), (h1 k hk).2.1]
      refine ⟨?_, rfl, ?_, (h1 k hk).2.2.2⟩
      · by_cases e : k = j
        · rw [e, pk_us, pk_us]
        · rw [pk_un e, pk_un e, bec hk, (h1 k hk).1]
      · by_cases e : k = j
        · rw [e, pk_us]; exact hpv
        · rw [pk_un e, bec hk]; exact (h1 k hk).2.2.1
    · show upd nw j pv k = nw k
      rw [pk_un (by omega)]
  · rw [if_neg g3, if_neg g3]
    refine ⟨?_, rfl, RA_act ⟨h1, h2⟩ (fun k hk => ?_) (fun k hk => ?_), hr⟩
    · show f_X3_become dv fv j = f_X8_get nw bq j
      rw [e_getn _ _ g3, bec hj, (h1 j hj).2.1]
    · show upd nw (6 + j) pv k = f_X3_become du fu k ∧ upd nw (6 + j) pv (6 + k) = upd (f_X3_become dv fv) j pv k ∧ bd (f_X3_become du fu k) 4 ∧ bd (upd (f_X3_become dv fv) j pv k) 4
      rw [bec hk, pk_un (show k ≠ 6 + j by omega), (h1 k hk).1]
      refine ⟨rfl, ?_, (h1 k hk).2.2.1, ?_⟩
      · by_cases e : k = j
        · rw [e, pk_us, pk_us]
        · rw [pk_un (by omega), pk_un e, bec hk, (h1 k hk).2.1]
      · by_cases e : k = j
        · rw [e, pk_us]; exact hpv
        · rw [pk_un e, bec hk]; exact (h1 k hk).2.2.2
    · show upd nw (6 + j) pv k = nw k
      rw [pk_un (by omega)]
theorem neg_v (du fu : Nat → Int32) {k : Nat} (hk : k < 6) : f_X3_negatedFrom du fu k = -(fu k) := by
  have := lp0 (L := l_X3_negatedFrom_2 du fu) (N := 6) (o := 0) (g := fun k => -(fu k)) (z0 := du) (fun f k z hk _ => by
    show (if (6 : Int32) ≤ nI k then z else l_X3_negatedFrom_2 du fu f (k + 1) (upd z k (-(fu k)))) = _
    rw [if_neg (show ¬ (6 : Int32) ≤ nI k from nI_ge (b := 6) hk (by decide)), Nat.zero_add]) (fun f z => by
    show (if (6 : Int32) ≤ nI 6 then z else _) = z
    rw [if_pos (by decide)])
  have q := this.1 k hk
  rw [Nat.zero_add] at q
  exact q
theorem bk_v (nw un : Nat → Int32) (u : Nat) : (∀ k, k < 12 → l_X8_back_6 nw un u 13 0 nw k = -(nw k)) ∧ ∀ k, 12 ≤ k → l_X8_back_6 nw un u 13 0 nw k = nw k := by
  have := lp0 (L := l_X8_back_6 nw un u) (N := 12) (o := 0) (g := fun k => -(nw k)) (z0 := nw) (fun f k z hk hz => by
    show (if (12 : Int32) ≤ nI k then z else l_X8_back_6 nw un u f (k + 1) (upd z k (-(z k)))) = _
    rw [if_neg (show ¬ (12 : Int32) ≤ nI k from nI_ge (b := 12) hk (by decide)), Nat.zero_add, hz k (by omega)]) (fun f z => by
    show (if (12 : Int32) ≤ nI 12 then z else _) = z
    rw [if_pos (by decide)])
  refine ⟨fun k hk => ?_, fun k hk => this.2 k (Or.inr (by omega))⟩
  have q := this.1 k hk
  rw [Nat.zero_add] at q
  exact q
theorem e_back (h : RA fu fv xs ys n nw) (hp : RP rw co la un u) : (f_X7_back fu fv du dv xs ys n rw co la).1 = (f_X8_back nw un u).1 ∧ RA (f_X7_back fu fv du dv xs ys n rw co la).2.1 (f_X7_back fu fv du dv xs ys n rw co la).2.2.1 xs ys n (f_X8_back nw un u).2.2.1 ∧ RP (f_X7_back fu fv du dv xs ys n rw co la).2.2.2.2.2.2.2 (f_X7_back fu fv du dv xs ys n rw co la).2.2.2.2.2.1 (f_X7_back fu fv du dv xs ys n rw co la).2.2.2.2.2.2.1 (f_X8_back nw un u).2.2.2 (f_X8_back nw un u).2.1 := by
  have v := bk_v nw un u
  refine ⟨rfl, RA_act h (fun k hk => ?_) (fun k hk => v.2 k hk), e_rem h hp⟩
  show l_X8_back_6 nw un u 13 0 nw k = f_X3_negatedFrom du fu k ∧ l_X8_back_6 nw un u 13 0 nw (6 + k) = f_X3_negatedFrom dv fv k ∧ bd (f_X3_negatedFrom du fu k) 4 ∧ bd (f_X3_negatedFrom dv fv k) 4
  rw [v.1 k (by omega), v.1 (6 + k) (by omega), neg_v du fu hk, neg_v dv fv hk, (h.1 k hk).1, (h.1 k hk).2.1]
  exact ⟨rfl, rfl, (ng (h.1 k hk).2.2.1 (by decide)).2, (ng (h.1 k hk).2.2.2 (by decide)).2⟩
end ACTS
