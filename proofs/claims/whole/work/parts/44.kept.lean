/-! sums along the flow -/
section KEPT
variable {fu fv xs ys : Nat → Int32} {n : Nat} {nw : Nat → Int32}
theorem wadd {x y : Int32} {M N : Int} (hx : bd x M) (hy : bd y N) (h : M + N < 2147483648) : x.toInt64 + y.toInt64 = (x + y).toInt64 ∧ bd (x + y) (M + N) := by
  have a := addI (⟨rfl, hx⟩ : x.toInt = x.toInt ∧ bd x M) (⟨rfl, hy⟩ : y.toInt = y.toInt ∧ bd y N) h
  have b := addL (wideI (⟨rfl, hx⟩ : x.toInt = x.toInt ∧ bd x M)) (wideI (⟨rfl, hy⟩ : y.toInt = y.toInt ∧ bd y N)) (by omega)
  exact ⟨Int64.toInt_inj.mp (by rw [b.1, Int32.toInt_toInt64, a.1]), a.2⟩
theorem cc_v (ch : Nat → Int32) {t : Nat} (ht : t < 10) : f_X7_clearChange ch t = 0 := by
  have := lp0 (L := l_X7_clearChange_2 ch) (N := 10) (o := 0) (g := fun _ => 0) (z0 := ch) (fun f k z hk hz => by
    show (if (10 : Int32) ≤ nI k then z else l_X7_clearChange_2 ch f (k + 1) (upd z k 0)) = _
    rw [if_neg (show ¬ (10 : Int32) ≤ nI k from nI_ge (b := 10) hk (by decide)), Nat.zero_add]) (fun f z => by
    show (if (10 : Int32) ≤ nI 10 then z else _) = z
    rw [if_pos (by decide)])
  have q := this.1 t ht
  rw [Nat.zero_add] at q
  exact q
theorem cc8_v (nw : Nat → Int32) (ch : Nat → Int64) (pa pb pc_ pd pe : Int32) : ∀ (f ki : Nat) (z : Nat → Int64), ki ≤ 10 → 10 - ki + 1 ≤ f → (∀ t, t < ki → z t = 0) → ∀ t, t < 10 → l_X8_changes_3 nw ch pa pb pc_ pd pe f ki z t = 0 := by
  intro f
  induction f with
  | zero => intro ki z _ h; omega
  | succ f ih =>
    intro ki z h1 h2 h3 t ht
    unfold l_X8_changes_3
    rcases Nat.lt_or_ge ki 10 with q | q
    · rw [if_neg (show ¬ (10 : Int32) ≤ nI ki from nI_ge (b := 10) q (by decide))]
      refine ih (ki + 1) _ (by omega) (by omega) (fun j hj => ?_) t ht
      by_cases e : j = ki
      · rw [e, pk_uLs]
      · rw [pk_uLn e]; exact h3 j (by omega)
    · have : ki = 10 := by omega
      subst this
      rw [if_pos (by decide)]
      exact h3 t ht
/-- the ten numbers that a polynomial, times (k + kx x + ky y), is added to -/
theorem ac_v (z gu : Nat → Int32) (k kx ky : Int32) : f_X7_addChange z gu k kx ky 0 = z 0 + k * gu 0 ∧ f_X7_addChange z gu k kx ky 1 = z 1 + kx * gu 0 + k * gu 1 ∧ f_X7_addChange z gu k kx ky 2 = z 2 + ky * gu 0 + k * gu 2 ∧ f_X7_addChange z gu k kx ky 3 = z 3 + kx * gu 1 + k * gu 3 ∧ f_X7_addChange z gu k kx ky 4 = z 4 + ky * gu 1 + kx * gu 2 + k * gu 4 ∧ f_X7_addChange z gu k kx ky 5 = z 5 + ky * gu 2 + k * gu 5 ∧ f_X7_addChange z gu k kx ky 6 = z 6 + kx * gu 3 ∧ f_X7_addChange z gu k kx ky 7 = z 7 + ky * gu 3 + kx * gu 4 ∧ f_X7_addChange z gu k kx ky 8 = z 8 + ky * gu 4 + kx * gu 5 ∧ f_X7_addChange z gu k kx ky 9 = z 9 + ky * gu 5 := ⟨rfl, rfl, rfl, rfl, rfl, rfl, rfl, rfl, rfl, rfl⟩
theorem ac8_v (nw : Nat → Int32) (ch z : Nat → Int64) (pa pb pc_ pd pe : Int32) (M X Y : Nat → Int64) (hM : ∀ k, (((pa * (f_X8_get nw 0 k)) + (pb * (f_X8_get nw 1 k)))).toInt64 = M k) (hX : ∀ k, ((((2 * pc_) * (f_X8_get nw 0 k)) + (pd * (f_X8_get nw 1 k)))).toInt64 = X k) (hY : ∀ k, ((pd * (f_X8_get nw 0 k)) + ((2 * pe) * (f_X8_get nw 1 k))).toInt64 = Y k) : l_X8_changes_27 nw ch pa pb pc_ pd pe 7 0 z 0 = z 0 + M 0 ∧ l_X8_changes_27 nw ch pa pb pc_ pd pe 7 0 z 1 = z 1 + X 0 + M 1 ∧ l_X8_changes_27 nw ch pa pb pc_ pd pe 7 0 z 2 = z 2 + Y 0 + M 2 ∧ l_X8_changes_27 nw ch pa pb pc_ pd pe 7 0 z 3 = z 3 + X 1 + M 3 ∧ l_X8_changes_27 nw ch pa pb pc_ pd pe 7 0 z 4 = z 4 + Y 1 + X 2 + M 4 ∧ l_X8_changes_27 nw ch pa pb pc_ pd pe 7 0 z 5 = z 5 + Y 2 + M 5 ∧ l_X8_changes_27 nw ch pa pb pc_ pd pe 7 0 z 6 = z 6 + X 3 ∧ l_X8_changes_27 nw ch pa pb pc_ pd pe 7 0 z 7 = z 7 + Y 3 + X 4 ∧ l_X8_changes_27 nw ch pa pb pc_ pd pe 7 0 z 8 = z 8 + Y 4 + X 5 ∧ l_X8_changes_27 nw ch pa pb pc_ pd pe 7 0 z 9 = z 9 + Y 5 := by
  simp only [← hM, ← hX, ← hY]
  exact ⟨rfl, rfl, rfl, rfl, rfl, rfl, rfl, rfl, rfl, rfl⟩
theorem t10 {P : Nat → Prop} (h0 : P 0) (h1 : P 1) (h2 : P 2) (h3 : P 3) (h4 : P 4) (h5 : P 5) (h6 : P 6) (h7 : P 7) (h8 : P 8) (h9 : P 9) : ∀ t, t < 10 → P t := by
  intro t ht
  have : t = 0 ∨ t = 1 ∨ t = 2 ∨ t = 3 ∨ t = 4 ∨ t = 5 ∨ t = 6 ∨ t = 7 ∨ t = 8 ∨ t = 9 := by omega
  rcases this with e | e | e | e | e | e | e | e | e | e <;> subst e <;> assumption
/-- what a sum changes by: the same for both, the model's wide -/
theorem e_chg (h : RA fu fv xs ys n nw) (ch : Nat → Int32) (c8 : Nat → Int64) {pa pb pc_ pd pe : Int32} (ba : bd pa 9) (bb : bd pb 9) (bc : bd pc_ 9) (bdd : bd pd 9) (be : bd pe 9) : ∀ t, t < 10 → f_X8_changes nw c8 pa pb pc_ pd pe t = (f_X7_addChange (f_X7_addChange (f_X7_clearChange ch) fu pa (2 * pc_) pd) fv pb pd (2 * pe) t).toInt64 := by
  have i2 : bd (2 : Int32) 2 := ⟨by decide, by decide⟩
  have p6 := ra_p h
  have q6 := ra_q h
  have b1 : ∀ k, k < 6 → bd (pa * fu k + pb * fv k) 72 := fun k hk => (ad (ml ba (p6 k hk) (by decide)).2 (ml bb (q6 k hk) (by decide)).2 (by decide)).2
  have b2 : ∀ k, k < 6 → bd ((2 * pc_) * fu k + pd * fv k) 108 := fun k hk => (ad (ml (ml i2 bc (by decide)).2 (p6 k hk) (by decide)).2 (ml bdd (q6 k hk) (by decide)).2 (by decide)).2
  have b3 : ∀ k, k < 6 → bd (pd * fu k + (2 * pe) * fv k) 108 := fun k hk => (ad (ml bdd (p6 k hk) (by decide)).2 (ml (ml i2 be (by decide)).2 (q6 k hk) (by decide)).2 (by decide)).2
  obtain ⟨r0, r1, r2, r3, r4, r5, r6, r7, r8, r9⟩ := ac8_v nw c8 (l_X8_changes_3 nw c8 pa pb pc_ pd pe 11 0 c8) pa pb pc_ pd pe _ _ _ (fun _ => rfl) (fun _ => rfl) (fun _ => rfl)
  have z8 := cc8_v nw c8 pa pb pc_ pd pe 11 0 c8 (by decide) (by decide) (fun t q => absurd q (Nat.not_lt_zero _))
  have g0 : ∀ k, k < 6 → f_X8_get nw 0 k = fu k := fun k hk => ra_0 h k hk
  have g1 : ∀ k, k < 6 → f_X8_get nw 1 k = fv k := fun k hk => ra_1 h k hk
  obtain ⟨a0, a1, a2, a3, a4, a5, a6, a7, a8, a9⟩ := ac_v (f_X7_clearChange ch) fu pa (2 * pc_) pd
  obtain ⟨d0, d1, d2, d3, d4, d5, d6, d7, d8, d9⟩ := ac_v (f_X7_addChange (f_X7_clearChange ch) fu pa (2 * pc_) pd) fv pb pd (2 * pe)
  have ef : f_X8_changes nw c8 pa pb pc_ pd pe = l_X8_changes_27 nw c8 pa pb pc_ pd pe 7 0 (l_X8_changes_3 nw c8 pa pb pc_ pd pe 11 0 c8) := rfl
  rw [ef]
  refine t10 ?_ ?_ ?_ ?_ ?_ ?_ ?_ ?_ ?_ ?_
  · rw [r0, d0, a0, z8 0 (by decide), cc_v ch (by decide), g0 0 (by decide), g1 0 (by decide), Int64.zero_add]
    congr 1; grind
  · rw [r1, d1, a1, z8 1 (by decide), cc_v ch (by decide), g0 0 (by decide), g1 0 (by decide), g0 1 (by decide), g1 1 (by decide), Int64.zero_add, (wadd (b2 0 (by decide)) (b1 1 (by decide)) (by decide)).1]
    congr 1; grind
  · rw [r2, d2, a2, z8 2 (by decide), cc_v ch (by decide), g0 0 (by decide), g1 0 (by decide), g0 2 (by decide), g1 2 (by decide), Int64.zero_add, (wadd (b3 0 (by decide)) (b1 2 (by decide)) (by decide)).1]
    congr 1; grind
  · rw [r3, d3, a3, z8 3 (by decide), cc_v ch (by decide), g0 1 (by decide), g1 1 (by decide), g0 3 (by decide), g1 3 (by decide), Int64.zero_add, (wadd (b2 1 (by decide)) (b1 3 (by decide)) (by decide)).1]
    congr 1; grind
  · rw [r4, d4, a4, z8 4 (by decide), cc_v ch (by decide), g0 1 (by decide), g1 1 (by decide), g0 2 (by decide), g1 2 (by decide), g0 4 (by decide), g1 4 (by decide), Int64.zero_add, (wadd (b3 1 (by decide)) (b2 2 (by decide)) (by decide)).1, (wadd (wadd (b3 1 (by decide)) (b2 2 (by decide)) (by decide)).2 (b1 4 (by decide)) (by decide)).1]
    congr 1; grind
  · rw [r5, d5, a5, z8 5 (by decide), cc_v ch (by decide), g0 2 (by decide), g1 2 (by decide), g0 5 (by decide), g1 5 (by decide), Int64.zero_add, (wadd (b3 2 (by decide)) (b1 5 (by decide)) (by decide)).1]
    congr 1; grind
  · rw [r6, d6, a6, z8 6 (by decide), cc_v ch (by decide), g0 3 (by decide), g1 3 (by decide), Int64.zero_add]
    congr 1; grind
  · rw [r7, d7, a7, z8 7 (by decide), cc_v ch (by decide), g0 3 (by decide), g1 3 (by decide), g0 4 (by decide), g1 4 (by decide), Int64.zero_add, (wadd (b3 3 (by decide)) (b2 4 (by decide)) (by decide)).1]
    congr 1; grind
  · rw [r8, d8, a8, z8 8 (by decide), cc_v ch (by decide), g0 4 (by decide), g1 4 (by decide), g0 5 (by decide), g1 5 (by decide), Int64.zero_add, (wadd (b3 4 (by decide)) (b2 5 (by decide)) (by decide)).1]
    congr 1; grind
  · rw [r9, d9, a9, z8 9 (by decide), cc_v ch (by decide), g0 5 (by decide), g1 5 (by decide), Int64.zero_add]
    congr 1; grind
theorem bd_w9 {x : Int32} (h : ¬ f_X7_isWithin x 9 = 0) : bd x 9 := by
  unfold f_X7_isWithin at h
  by_cases h1 : x < -9
  · exact absurd (if_pos h1) h
  rw [if_neg h1] at h
  by_cases h2 : 9 < x
  · exact absurd (if_pos h2) h
  exact ⟨Int32.le_iff_toInt_le.mp (Int32.not_lt.mp h1), Int32.le_iff_toInt_le.mp (Int32.not_lt.mp h2)⟩
theorem bd_sum {a b c d e : Int32} (h : ¬ f_X7_isSum a b c d e = 0) : bd a 9 ∧ bd b 9 ∧ bd c 9 ∧ bd d 9 ∧ bd e 9 := by
  unfold f_X7_isSum at h
  by_cases h1 : f_X7_isWithin a 9 = 0
  · exact absurd (if_pos h1) h
  rw [if_neg h1] at h
  by_cases h2 : f_X7_isWithin b 9 = 0
  · exact absurd (if_pos h2) h
  rw [if_neg h2] at h
  by_cases h3 : f_X7_isWithin c 9 = 0
  · exact absurd (if_pos h3) h
  rw [if_neg h3] at h
  by_cases h4 : f_X7_isWithin d 9 = 0
  · exact absurd (if_pos h4) h
  rw [if_neg h4] at h
  by_cases h5 : f_X7_isWithin e 9 = 0
  · exact absurd (if_pos h5) h
  exact ⟨bd_w9 h1, bd_w9 h2, bd_w9 h3, bd_w9 h4, bd_w9 h5⟩
theorem in_09 (x : Int32) : (f_X8_in x 0 9 = 0) ↔ (x < 0 ∨ ¬ x < 10) := by
  unfold f_X8_in
  by_cases h : x < 0
  · rw [if_pos h]; exact ⟨fun _ => Or.inl h, fun _ => rfl⟩
  · rw [if_neg h]
    have q : ((9 : Int32) < x) ↔ ¬ x < 10 := by
      rw [Int32.lt_iff_toInt_lt, Int32.lt_iff_toInt_lt, show (9 : Int32).toInt = 9 from rfl, show (10 : Int32).toInt = 10 from rfl]; omega
    by_cases h2 : 9 < x
    · rw [if_pos h2]; exact ⟨fun _ => Or.inr (q.mp h2), fun _ => rfl⟩
    · rw [if_neg h2]; exact ⟨fun w => absurd w (by decide), fun w => absurd (q.mpr (w.resolve_left h)) h2⟩
theorem e_along (h : RA fu fv xs ys n nw) (ch : Nat → Int32) (c8 : Nat → Int64) (fi pa pb pc_ pd pe pm : Int32) : (f_X7_along fu fv ch fi pa pb pc_ pd pe pm).1 = (f_X8_along nw fi c8 pa pb pc_ pd pe pm).1 ∧ (f_X7_along fu fv ch fi pa pb pc_ pd pe pm).2.1 = (f_X8_along nw fi c8 pa pb pc_ pd pe pm).2.1 := by
  unfold f_X7_along f_X8_along
  rw [show f_X8_areSmall pa pb pc_ pd pe = f_X7_isSum pa pb pc_ pd pe from rfl]
  by_cases g1 : f_X7_isSum pa pb pc_ pd pe = 0
  · rw [if_pos g1, if_pos g1]; exact ⟨rfl, rfl⟩
  rw [if_neg g1, if_neg g1]
  obtain ⟨b1, b2, b3, b4, b5⟩ := bd_sum g1
  have im := in_09 pm
  by_cases g3 : pm < 0
  · rw [if_pos g3, if_pos (im.mpr (Or.inl g3))]; exact ⟨rfl, rfl⟩
  rw [if_neg g3]
  by_cases g4 : pm < 10
  · rw [if_pos g4, if_neg (fun q => by rcases im.mp q with w | w; exact g3 w; exact w g4)]
    have hk : pm.toNatClampNeg < 10 := by
      obtain ⟨m, hm, rfl⟩ := nI_of g3
      have := (nI_ltI (b := 10) hm (by decide)).mp g4
      rw [nI_clamp hm]; omega
    refine ⟨?_, rfl⟩
    show _ = (f_X8_changes nw c8 pa pb pc_ pd pe pm.toNatClampNeg).toInt32
    rw [e_chg h ch c8 b1 b2 b3 b4 b5 _ hk, Int32.toInt32_toInt64]
  · rw [if_neg g4, if_pos (im.mpr (Or.inr g4))]; exact ⟨rfl, rfl⟩
/-! the table -/
theorem upr_s {α : Type} {f : Nat → α} {j : Nat} {x : α} : yk_upr f j x j = x := if_pos rfl
theorem upr_n {α : Type} {f : Nat → α} {j i : Nat} {x : α} (h : i ≠ j) : yk_upr f j x i = f i := if_neg h
theorem fr_v (tb : Nat → Nat → Int64) (k : Nat) (g : Nat → Int32) : ∀ (f ki : Nat) (z : Nat → Nat → Int64), ki ≤ 10 → 10 - ki + 1 ≤ f → (∀ m, m < ki → z k m = (g m).toInt64) → (∀ m, m < 10 → l_X6_fillRow_2 tb k g f ki z k m = (g m).toInt64) ∧ ∀ i, i ≠ k → l_X6_fillRow_2 tb k g f ki z i = z i := by
  intro f
  induction f with
  | zero => intro ki z _ h; omega
  | succ f ih =>
    intro ki z h1 h2 h3
    unfold l_X6_fillRow_2
    rcases Nat.lt_or_ge ki 10 with q | q
    · rw [if_neg (show ¬ (10 : Int32) ≤ nI ki from nI_ge (b := 10) q (by decide))]
      obtain ⟨r1, r2⟩ := ih (ki + 1) (yk_upr z k (vp_updL (z k) ki (g ki).toInt64)) (by omega) (by omega) (fun m hm => by
        rw [upr_s]
        by_cases e : m = ki
        · rw [e, pk_uLs]
        · rw [pk_uLn e]; exact h3 m (by omega))
      exact ⟨r1, fun i hi => by rw [r2 i hi, upr_n hi]⟩
    · have : ki = 10 := by omega
      subst this
      rw [if_pos (by decide)]
      exact ⟨h3, fun _ _ => rfl⟩
theorem k62 (nw : Nat → Int32) (ch tb : Nat → Int64) (ka : Nat) (zc zt : Nat → Int64) : ∀ (f kb : Nat) (z : Nat → Int64), kb ≤ 10 → 10 - kb + 1 ≤ f → (∀ m, m < kb → z (10 * ka + m) = f_X8_changes nw zc (if nI ka = 0 then 1 else 0) (if nI ka = 1 then 1 else 0) (if nI ka = 2 then 1 else 0) (if nI ka = 3 then 1 else 0) (if nI ka = 4 then 1 else 0) m) → (∀ m, m < 10 → l_X8_kept_62 nw ch tb ka zc zt f kb z (10 * ka + m) = f_X8_changes nw zc (if nI ka = 0 then 1 else 0) (if nI ka = 1 then 1 else 0) (if nI ka = 2 then 1 else 0) (if nI ka = 3 then 1 else 0) (if nI ka = 4 then 1 else 0) m) ∧ ∀ i, i < 10 * ka → l_X8_kept_62 nw ch tb ka zc zt f kb z i = z i := by
  intro f
  induction f with
  | zero => intro kb z _ h; omega
  | succ f ih =>
    intro kb z h1 h2 h3
    unfold l_X8_kept_62
    rcases Nat.lt_or_ge kb 10 with q | q
    · rw [if_neg (show ¬ (10 : Int32) ≤ nI kb from nI_ge (b := 10) q (by decide))]
      obtain ⟨r1, r2⟩ := ih (kb + 1) (vp_updL z (10 * ka + kb) (f_X8_changes nw zc (if nI ka = 0 then 1 else 0) (if nI ka = 1 then 1 else 0) (if nI ka = 2 then 1 else 0) (if nI ka = 3 then 1 else 0) (if nI ka = 4 then 1 else 0) kb)) (by omega) (by omega) (fun m hm => by
        by_cases e : m = kb
        · rw [e, pk_uLs]
        · rw [pk_uLn (by omega)]; exact h3 m (by omega))
      exact ⟨r1, fun i hi => by rw [r2 i hi, pk_uLn (by omega)]⟩
    · have : kb = 10 := by omega
      subst this
      rw [if_pos (by decide)]
      exact ⟨h3, fun _ _ => rfl⟩
theorem one_b (p : Prop) [Decidable p] : bd (if p then 1 else 0 : Int32) 9 := by
  split
  · exact ⟨by decide, by decide⟩
  · exact ⟨by decide, by decide⟩
theorem one_e (p : Prop) [Decidable p] : f_X7_oneIf (if p then 1 else 0) = (if p then 1 else 0) := by
  split <;> decide
theorem k2_v (h : RA fu fv xs ys n nw) (ch : Nat → Int32) (tb : Nat → Nat → Int64) (c8 t8 : Nat → Int64) : ∀ (f ki : Nat) (zc : Nat → Int32) (z : Nat → Nat → Int64) (yc y : Nat → Int64), ki ≤ 5 → 5 - ki + 1 ≤ f → (∀ i, i < ki → ∀ m, m < 10 → z i m = y (10 * i + m)) → ∀ i, i < 5 → ∀ m, m < 10 → (l_X7_kept_2 fu fv ch tb f ki zc z).2 i m = (l_X8_kept_2 nw c8 t8 f ki yc y).2 (10 * i + m) := by
  intro f
  induction f with
  | zero => intro ki zc z yc y _ h; omega
  | succ f ih =>
    intro ki zc z yc y h1 h2 h3
    unfold l_X7_kept_2 l_X8_kept_2
    rcases Nat.lt_or_ge ki 5 with q | q
    · rw [if_neg (show ¬ (5 : Int32) ≤ nI ki from nI_ge (b := 5) q (by decide)), if_neg (show ¬ (5 : Int32) ≤ nI ki from nI_ge (b := 5) q (by decide))]
      refine ih (ki + 1) _ _ _ _ (by omega) (by omega) (fun i hi m hm => ?_)
      have e := e_chg h zc yc (one_b (nI ki = 0)) (one_b (nI ki = 1)) (one_b (nI ki = 2)) (one_b (nI ki = 3)) (one_b (nI ki = 4))
      simp only [one_e]
      have a := fr_v z ki (f_X7_addChange (f_X7_addChange (f_X7_clearChange zc) fu (if nI ki = 0 then 1 else 0) (2 * (if nI ki = 2 then 1 else 0)) (if nI ki = 3 then 1 else 0)) fv (if nI ki = 1 then 1 else 0) (if nI ki = 3 then 1 else 0) (2 * (if nI ki = 4 then 1 else 0))) 11 0 z (by decide) (by decide) (fun m hm => absurd hm (Nat.not_lt_zero _))
      have b := k62 nw c8 t8 ki yc y 11 0 y (by decide) (by decide) (fun m hm => absurd hm (Nat.not_lt_zero _))
      show l_X6_fillRow_2 z ki _ 11 0 z i m = l_X8_kept_62 nw c8 t8 ki yc y 11 0 y (10 * i + m)
      by_cases w : i = ki
      · subst w
        rw [a.1 m hm, b.1 m hm, e m hm]
      · rw [a.2 i w, b.2 _ (by omega)]
        exact h3 i (by omega) m hm
    · have : ki = 5 := by omega
      subst this
      rw [if_pos (by decide), if_pos (by decide)]
      exact h3
/-- rows change places -/
theorem sw_v (tb : Nat → Nat → Int64) (j k : Nat) : ∀ (f ki : Nat) (z : Nat → Nat → Int64), ki ≤ 10 → 10 - ki + 1 ≤ f → (∀ i m, m < ki → z i m = tb (if i = j then k else if i = k then j else i) m) → (∀ i m, ki ≤ m → z i m = tb i m) → ∀ i m, m < 10 → l_X6_swapRows_2 tb j k f ki z i m = tb (if i = j then k else if i = k then j else i) m := by
  intro f
  induction f with
  | zero => intro ki z _ h; omega
  | succ f ih =>
    intro ki z h1 h2 h3 h4 i m hm
    unfold l_X6_swapRows_2
    rcases Nat.lt_or_ge ki 10 with q | q
    · rw [if_neg (show ¬ (10 : Int32) ≤ nI ki from nI_ge (b := 10) q (by decide))]
      refine ih (ki + 1) _ (by omega) (by omega) (fun a b hb => ?_) (fun a b hb => ?_) i m hm
      · by_cases e : b = ki
        · subst e
          by_cases ek : a = k
          · subst ek
            rw [upr_s, pk_uLs, h4 j b (Nat.le_refl _)]
            by_cases ej : a = j
            · rw [if_pos ej, ej]
            · rw [if_neg ej, if_pos rfl]
          · rw [upr_n ek]
            by_cases ej : a = j
            · subst ej
              rw [upr_s, pk_uLs, if_pos rfl, h4 k b (Nat.le_refl _)]
            · rw [upr_n ej, if_neg ej, if_neg ek, h4 a b (Nat.le_refl _)]
        · have hb2 := h3 a b (by omega)
          by_cases ek : a = k
          · subst ek
            rw [upr_s, pk_uLn e]
            by_cases ej : a = j
            · subst ej
              rw [upr_s, pk_uLn e]; exact hb2
            · rw [upr_n ej]; exact hb2
          · rw [upr_n ek]
            by_cases ej : a = j
            · subst ej
              rw [upr_s, pk_uLn e]; exact hb2
            · rw [upr_n ej]; exact hb2
      · have hb2 := h4 a b (by omega)
        have e : b ≠ ki := by omega
        by_cases ek : a = k
        · subst ek
          rw [upr_s, pk_uLn e]
          by_cases ej : a = j
          · subst ej
            rw [upr_s, pk_uLn e]; exact hb2
          · rw [upr_n ej]; exact hb2
        · rw [upr_n ek]
          by_cases ej : a = j
          · subst ej
            rw [upr_s, pk_uLn e]; exact hb2
          · rw [upr_n ej]; exact hb2
    · have : ki = 10 := by omega
      subst this
      rw [if_pos (by decide)]
      exact h3 i m hm
end KEPT
