section RANK
variable {fu fv xs ys : Nat → Int32} {n : Nat} {nw : Nat → Int32}
/-- both tables, from a column on -/
def RT (c : Nat) (t : Nat → Nat → Int64) (w : Nat → Int64) : Prop := ∀ i, i < 5 → ∀ m, c ≤ m → m < 10 → t i m = w (10 * i + m)
theorem sw8_v (nw : Nat → Int32) (ch tb : Nat → Int64) (c : Nat) (zt : Nat → Int64) (rk : Nat) (z2 : Int64) {B : Nat} (hB : l_X8_kept_119 nw ch tb c zt rk z2 (5 - rk + 1) rk = B) (hB5 : B < 5) (hr : rk < 5) : ∀ (f ke : Nat) (z : Nat → Int64), ke ≤ 10 → 10 - ke + 1 ≤ f → (∀ i, i < 5 → ∀ m, m < ke → z (10 * i + m) = zt (10 * (if i = B then rk else if i = rk then B else i) + m)) → (∀ i, i < 5 → ∀ m, ke ≤ m → m < 10 → z (10 * i + m) = zt (10 * i + m)) → ∀ i, i < 5 → ∀ m, m < 10 → l_X8_kept_161 nw ch tb c zt rk z2 f ke z (10 * i + m) = zt (10 * (if i = B then rk else if i = rk then B else i) + m) := by
  intro f
  induction f with
  | zero => intro ke z _ h; omega
  | succ f ih =>
    intro ke z h1 h2 h3 h4 i hi m hm
    unfold l_X8_kept_161
    rcases Nat.lt_or_ge ke 10 with q | q
    · rw [if_neg (show ¬ (10 : Int32) ≤ nI ke from nI_ge (b := 10) q (by decide)), hB]
      refine ih (ke + 1) _ (by omega) (by omega) (fun a ha b hb => ?_) (fun a ha b hb hb2 => ?_) i hi m hm
      · by_cases e : b = ke
        · subst e
          by_cases ek : a = rk
          · rw [ek, pk_uLs, h4 B hB5 b (Nat.le_refl _) q]
            by_cases ej : rk = B
            · rw [if_pos ej, ej]
            · rw [if_neg ej, if_pos rfl]
          · rw [pk_uLn (by omega)]
            by_cases ej : a = B
            · rw [ej, pk_uLs, if_pos rfl, h4 rk hr b (Nat.le_refl _) q]
            · rw [pk_uLn (by omega), if_neg ej, if_neg ek, h4 a ha b (Nat.le_refl _) q]
        · rw [pk_uLn (by omega), pk_uLn (by omega)]; exact h3 a ha b (by omega)
      · rw [pk_uLn (by omega), pk_uLn (by omega)]; exact h4 a ha b (by omega) hb2
    · have : ke = 10 := by omega
      subst this
      rw [if_pos (by decide)]
      exact h3 i hi m hm
/-- the row in which a column is not 0 -/
theorem pv_v (nw : Nat → Int32) (ch tb : Nat → Int64) {c rk : Nat} (hc : c < 10) {z7 : Nat → Nat → Int64} {z8 : Nat → Int64} (z2 : Int64) (hR : RT c z7 z8) : ∀ (f ki : Nat), ki ≤ 5 → 5 - ki + 1 ≤ f → (l_X8_kept_119 nw ch tb c z8 rk z2 f ki = 5 ∧ l_X6_raisePivot_2 z7 rk c f ki = (0, z7)) ∨ (∃ B, B < 5 ∧ l_X8_kept_119 nw ch tb c z8 rk z2 f ki = B ∧ l_X6_raisePivot_2 z7 rk c f ki = (1, f_X6_swapRows z7 B rk) ∧ ¬ lg_cmp (z7 B c) 0 = 0) := by
  intro f
  induction f with
  | zero => intro ki _ h; omega
  | succ f ih =>
    intro ki h1 h2
    unfold l_X8_kept_119 l_X6_raisePivot_2
    rcases Nat.lt_or_ge ki 5 with q | q
    · rw [if_neg (show ¬ (5 : Int32) ≤ nI ki from nI_ge (b := 5) q (by decide)), if_neg (show ¬ (5 : Int32) ≤ nI ki from nI_ge (b := 5) q (by decide)), ← hR ki q c (Nat.le_refl _) hc]
      by_cases g : lg_cmp (z7 ki c) 0 = 0
      · rw [if_pos g, if_pos g]; exact ih (ki + 1) (by omega) (by omega)
      · rw [if_neg g, if_neg g]; exact Or.inr ⟨ki, q, rfl, rfl, g⟩
    · have : ki = 5 := by omega
      subst this
      rw [if_pos (by decide), if_pos (by decide)]
      exact Or.inl ⟨rfl, rfl⟩
theorem r35 (tb : Nat → Nat → Int64) (j k : Nat) (z : Int64) (hz : ¬ lg_cmp z 0 = 0) (ki : Nat) (hij : ki ≠ j) (zr : Nat → Nat → Int64) : ∀ (f kj : Nat) (w : Nat → Nat → Int64), kj ≤ 10 → k ≤ kj → 10 - kj + 1 ≤ f → (∀ i, i ≠ ki → w i = zr i) → (∀ m, k ≤ m → m < kj → w ki m = ((zr ki m) * (tb j k) - (zr ki k) * (zr j m)) / z) → (∀ m, kj ≤ m → w ki m = zr ki m) → (∀ i, i ≠ ki → l_X6_clearBelow_35 tb j k z ki zr f kj w i = zr i) ∧ ∀ m, k ≤ m → m < 10 → l_X6_clearBelow_35 tb j k z ki zr f kj w ki m = ((zr ki m) * (tb j k) - (zr ki k) * (zr j m)) / z := by
  intro f
  induction f with
  | zero => intro kj w _ _ h; omega
  | succ f ih =>
    intro kj w h1 h2 h3 h4 h5 h6
    unfold l_X6_clearBelow_35
    rcases Nat.lt_or_ge kj 10 with q | q
    · rw [if_neg (show ¬ (10 : Int32) ≤ nI kj from nI_ge (b := 10) q (by decide)), if_neg hz]
      refine ih (kj + 1) _ (by omega) (by omega) (by omega) (fun i hi => ?_) (fun m a b => ?_) (fun m a => ?_)
      · rw [upr_n hi]; exact h4 i hi
      · rw [upr_s]
        by_cases e : m = kj
        · rw [e, pk_uLs, h6 kj (Nat.le_refl _), h4 j (fun w => hij w.symm)]
        · rw [pk_uLn e]; exact h5 m a (by omega)
      · rw [upr_s, pk_uLn (by omega)]; exact h6 m (by omega)
    · have : kj = 10 := by omega
      subst this
      rw [if_pos (by decide)]
      exact ⟨h4, h5⟩
theorem r271 (nw : Nat → Int32) (ch tb : Nat → Int64) (c : Nat) (zt : Nat → Int64) (rk : Nat) (z2 : Int64) (kf : Nat) (hf : kf ≠ rk) (zr : Nat → Int64) : ∀ (f kg : Nat) (w : Nat → Int64), kg ≤ 10 → 10 - kg + 1 ≤ f → (∀ i, i ≠ kf → ∀ m, m < 10 → w (10 * i + m) = zr (10 * i + m)) → (∀ m, m < kg → w (10 * kf + m) = ((zr (10 * kf + m)) * ((l_X8_kept_161 nw ch tb c zt rk z2 (10 + 1) 0 zt) ((10 * rk) + c)) - (zr (10 * rk + m)) * (zr (10 * kf + c))) / z2) → (∀ m, kg ≤ m → m < 10 → w (10 * kf + m) = zr (10 * kf + m)) → (∀ i, i ≠ kf → ∀ m, m < 10 → l_X8_kept_271 nw ch tb c zt rk z2 kf zr f kg w (10 * i + m) = zr (10 * i + m)) ∧ ∀ m, m < 10 → l_X8_kept_271 nw ch tb c zt rk z2 kf zr f kg w (10 * kf + m) = ((zr (10 * kf + m)) * ((l_X8_kept_161 nw ch tb c zt rk z2 (10 + 1) 0 zt) ((10 * rk) + c)) - (zr (10 * rk + m)) * (zr (10 * kf + c))) / z2 := by
  intro f
  induction f with
  | zero => intro kg w _ h; omega
  | succ f ih =>
    intro kg w h1 h3 h4 h5 h6
    unfold l_X8_kept_271
    rcases Nat.lt_or_ge kg 10 with q | q
    · rw [if_neg (show ¬ (10 : Int32) ≤ nI kg from nI_ge (b := 10) q (by decide))]
      refine ih (kg + 1) _ (by omega) (by omega) (fun i hi m hm => ?_) (fun m a => ?_) (fun m a b => ?_)
      · rw [pk_uLn (by omega)]; exact h4 i hi m hm
      · by_cases e : m = kg
        · rw [e, pk_uLs, h6 kg (Nat.le_refl _) q, h4 rk (fun w => hf w.symm) kg q]
        · rw [pk_uLn (by omega)]; exact h5 m (by omega)
      · rw [pk_uLn (by omega)]; exact h6 m (by omega) b
    · have : kg = 10 := by omega
      subst this
      rw [if_pos (by decide)]
      exact ⟨h4, h5⟩
theorem r15 (nw : Nat → Int32) (ch tb8 : Nat → Int64) {c rk : Nat} (hc : c < 10) (hrk : rk < 5) (zt : Nat → Int64) (z2 : Int64) (hz : ¬ lg_cmp z2 0 = 0) (tb : Nat → Nat → Int64) (hp : tb rk c = (l_X8_kept_161 nw ch tb8 c zt rk z2 (10 + 1) 0 zt) ((10 * rk) + c)) : ∀ (f ki : Nat) (w7 : Nat → Nat → Int64) (w8 : Nat → Int64), rk < ki → ki ≤ 5 → 5 - ki + 1 ≤ f → RT c w7 w8 → RT c (l_X6_clearBelow_15 tb rk c z2 f ki w7) (l_X8_kept_247 nw ch tb8 c zt rk z2 f ki w8) ∧ l_X6_clearBelow_15 tb rk c z2 f ki w7 rk = w7 rk := by
  intro f
  induction f with
  | zero => intro ki w7 w8 _ _ h; omega
  | succ f ih =>
    intro ki w7 w8 h1 h2 h3 h4
    unfold l_X6_clearBelow_15 l_X8_kept_247
    rcases Nat.lt_or_ge ki 5 with q | q
    · rw [if_neg (show ¬ (5 : Int32) ≤ nI ki from nI_ge (b := 5) q (by decide)), if_neg (show ¬ (5 : Int32) ≤ nI ki from nI_ge (b := 5) q (by decide))]
      obtain ⟨a1, a2⟩ := r35 tb rk c z2 hz ki (by omega) w7 (10 - c + 1) c w7 (by omega) (Nat.le_refl _) (Nat.le_refl _) (fun _ _ => rfl) (fun m x y => by omega) (fun _ _ => rfl)
      obtain ⟨b1, b2⟩ := r271 nw ch tb8 c zt rk z2 ki (by omega) w8 11 0 w8 (by decide) (by decide) (fun _ _ _ _ => rfl) (fun m x => absurd x (Nat.not_lt_zero _)) (fun _ _ _ => rfl)
      have hR : RT c (l_X6_clearBelow_35 tb rk c z2 ki w7 (10 - c + 1) c w7) (l_X8_kept_271 nw ch tb8 c zt rk z2 ki w8 (10 + 1) 0 w8) := by
        intro i hi m x y
        by_cases e : i = ki
        · rw [e, a2 m x y, b2 m y, hp, h4 ki q m x y, h4 ki q c (Nat.le_refl _) hc, h4 rk hrk m x y, Int64.mul_comm (w8 (10 * rk + m))]
        · rw [a1 i e, b1 i e m y]; exact h4 i hi m x y
      obtain ⟨r1, r2⟩ := ih (ki + 1) _ _ (by omega) (by omega) (by omega) hR
      exact ⟨r1, by rw [r2]; exact a1 rk (by omega)⟩
    · have : ki = 5 := by omega
      subst this
      rw [if_pos (by decide), if_pos (by decide)]
      exact ⟨h4, rfl⟩
theorem rk_v (nw : Nat → Int32) (ch tb8 : Nat → Int64) (tb : Nat → Nat → Int64) : ∀ (f ki rk : Nat) (z2 : Int64) (w7 : Nat → Nat → Int64) (w8 : Nat → Int64), ki ≤ 10 → rk ≤ 5 → ¬ lg_cmp z2 0 = 0 → RT ki w7 w8 → (l_X6_rank_7 tb f ki rk z2 w7).1 = (l_X8_kept_104 nw ch tb8 f ki w8 rk z2).2.1 := by
  intro f
  induction f with
  | zero => intro ki rk z2 w7 w8 _ _ _ _; rfl
  | succ f ih =>
    intro ki rk z2 w7 w8 h1 h2 h3 h4
    unfold l_X6_rank_7 l_X8_kept_104
    rcases Nat.lt_or_ge ki 10 with q | q
    · rw [if_neg (show ¬ (10 : Int32) ≤ nI ki from nI_ge (b := 10) q (by decide)), if_neg (show ¬ (10 : Int32) ≤ nI ki from nI_ge (b := 10) q (by decide))]
      rcases Nat.lt_or_ge rk 5 with p | p
      · rw [if_neg (show ¬ (5 : Int32) ≤ nI rk from nI_ge (b := 5) p (by decide)), if_neg (show ¬ (5 : Int32) ≤ nI rk from nI_ge (b := 5) p (by decide))]
        have er : f_X6_raisePivot w7 rk ki = l_X6_raisePivot_2 w7 rk ki (5 - rk + 1) rk := rfl
        rcases pv_v nw ch tb8 (rk := rk) q z2 h4 (5 - rk + 1) rk h2 (Nat.le_refl _) with ⟨a, b⟩ | ⟨B, hB, a, b, c⟩
        · rw [er, b, a, if_pos rfl, if_pos rfl, if_pos rfl, if_pos (show nI 5 = 5 from rfl), if_pos (show nI 5 = 5 from rfl), if_pos (show nI 5 = 5 from rfl)]
          exact ih (ki + 1) rk z2 w7 w8 (by omega) h2 h3 (fun i hi m x y => h4 i hi m (by omega) y)
        · have nB : ¬ nI B = 5 := fun w => by have := (nI_eq (b := 5) (by omega) (by decide)).mp w; omega
          rw [er, b, a, if_neg (show ¬ (1 : Int32) = 0 by decide), if_neg (show ¬ (1 : Int32) = 0 by decide), if_neg (show ¬ (1 : Int32) = 0 by decide), if_neg nB, if_neg nB, if_neg nB]
          have s7 : ∀ i m, m < 10 → f_X6_swapRows w7 B rk i m = w7 (if i = B then rk else if i = rk then B else i) m := sw_v w7 B rk 11 0 w7 (by decide) (by decide) (fun i m x => absurd x (Nat.not_lt_zero _)) (fun _ _ _ => rfl)
          have s8 := sw8_v nw ch tb8 ki w8 rk z2 a hB p 11 0 w8 (by decide) (by decide) (fun i _ m x => absurd x (Nat.not_lt_zero _)) (fun _ _ _ _ _ => rfl)
          have hR : RT ki (f_X6_swapRows w7 B rk) (l_X8_kept_161 nw ch tb8 ki w8 rk z2 (10 + 1) 0 w8) := by
            intro i hi m x y
            rw [s7 i m y, s8 i hi m y]
            refine h4 _ ?_ m x y
            split
            · exact p
            · split
              · exact hB
              · exact hi
          have hp := hR rk p ki (Nat.le_refl _) q
          obtain ⟨r1, r2⟩ := r15 nw ch tb8 q p w8 z2 h3 (f_X6_swapRows w7 B rk) hp (5 - (rk + 1) + 1) (rk + 1) (f_X6_swapRows w7 B rk) _ (by omega) (by omega) (Nat.le_refl _) hR
          have ep : (f_X6_clearBelow (f_X6_swapRows w7 B rk) rk ki z2) rk ki = (l_X8_kept_161 nw ch tb8 ki w8 rk z2 (10 + 1) 0 w8) (10 * rk + ki) := by
            show l_X6_clearBelow_15 (f_X6_swapRows w7 B rk) rk ki z2 (5 - (rk + 1) + 1) (rk + 1) (f_X6_swapRows w7 B rk) rk ki = _
            rw [r2, hp]
          have nz : ¬ lg_cmp ((l_X8_kept_161 nw ch tb8 ki w8 rk z2 (10 + 1) 0 w8) (10 * rk + ki)) 0 = 0 := by
            rw [← hp, s7 rk ki q]
            by_cases e : rk = B
            · rw [if_pos e, e]; exact c
            · rw [if_neg e, if_pos rfl]; exact c
          dsimp only
          rw [ep]
          exact ih (ki + 1) (rk + 1) _ _ _ (by omega) (by omega) nz (fun i hi m x y => r1 i hi m (by omega) y)
      · have p1 : rk = 5 := by omega
        subst p1
        rw [if_pos (by decide), if_pos (by decide)]
    · have : ki = 10 := by omega
      subst this
      rw [if_pos (by decide), if_pos (by decide)]
theorem e_kept (h : RA fu fv xs ys n nw) (ch : Nat → Int32) (tb : Nat → Nat → Int64) (c8 t8 : Nat → Int64) : (f_X7_kept fu fv ch tb).1 = (f_X8_kept nw c8 t8).1 := by
  have k := k2_v h ch tb c8 t8 6 0 ch tb c8 t8 (by decide) (by decide) (fun i hi => absurd hi (Nat.not_lt_zero _))
  have r := rk_v nw c8 t8 ((l_X7_kept_2 fu fv ch tb (5 + 1) 0 ch tb).2) 11 0 0 1 ((l_X7_kept_2 fu fv ch tb (5 + 1) 0 ch tb).2) ((l_X8_kept_2 nw c8 t8 (5 + 1) 0 c8 t8).2) (by decide) (by decide) (by decide) (fun i hi m _ hm => k i hi m hm)
  show 5 - nI _ = 5 - nI _
  rw [r]
end RANK
