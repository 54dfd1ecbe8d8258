/-! the fence: simple -/
theorem sg_0le (s e : Int32) : (0 ≤ sg32 s * sg32 e) ↔ ¬ ((s < 0 ∧ 0 < e) ∨ (0 < s ∧ e < 0)) := by
  have q1 : ∀ {x : Int32}, x < 0 → ¬ 0 < x := fun h h2 => Int32.lt_irrefl (Int32.lt_trans h h2)
  have q0 : ¬ (0 : Int32) < 0 := by decide
  rcases sg_tri s with ⟨a, b⟩ | ⟨a, b⟩ | ⟨a, b⟩ <;> rcases sg_tri e with ⟨c, d⟩ | ⟨c, d⟩ | ⟨c, d⟩ <;> rw [a, c]
  · subst b; exact ⟨fun _ h => by rcases h with h | h <;> exact q0 h.1, fun _ => by decide⟩
  · subst b; exact ⟨fun _ h => by rcases h with h | h <;> exact q0 h.1, fun _ => by decide⟩
  · subst b; exact ⟨fun _ h => by rcases h with h | h <;> exact q0 h.1, fun _ => by decide⟩
  · subst d; exact ⟨fun _ h => by rcases h with h | h <;> exact q0 h.2, fun _ => by decide⟩
  · exact ⟨fun _ h => h.elim (fun h => q1 h.1 b) (fun h => q1 h.2 d), fun _ => by decide⟩
  · exact ⟨fun h => absurd h (by decide), fun h => absurd (Or.inr ⟨b, d⟩) h⟩
  · subst d; exact ⟨fun _ h => by rcases h with h | h <;> exact q0 h.2, fun _ => by decide⟩
  · exact ⟨fun h => absurd h (by decide), fun h => absurd (Or.inl ⟨b, d⟩) h⟩
  · exact ⟨fun _ h => h.elim (fun h => q1 d h.2) (fun h => q1 b h.1), fun _ => by decide⟩
theorem parts_0 (xs ys : Nat → Int32) (j k : Nat) : f_X0_parts xs ys j k = 0 ↔ 0 ≤ sg32 (f_X0_leftOf xs ys j (xs k) (ys k)) * sg32 (f_X0_leftOf xs ys j (xs (k + 1)) (ys (k + 1))) := by
  rw [sg_0le]
  unfold f_X0_parts
  generalize f_X0_leftOf xs ys j (xs k) (ys k) = s
  generalize f_X0_leftOf xs ys j (xs (k + 1)) (ys (k + 1)) = e
  have q : ∀ {x y : Int32}, x ≤ y → ¬ y < x := fun h => Int32.not_lt.mpr h
  by_cases h1 : 0 ≤ s
  · rw [if_pos h1]
    by_cases h2 : s ≤ 0
    · rw [if_pos h2]
      exact ⟨fun _ h => h.elim (fun h => q h1 h.1) (fun h => q h2 h.1), fun _ => rfl⟩
    · rw [if_neg h2]
      by_cases h3 : 0 ≤ e
      · rw [if_pos h3]
        exact ⟨fun _ h => h.elim (fun h => q h1 h.1) (fun h => q h3 h.2), fun _ => rfl⟩
      · rw [if_neg h3]
        exact ⟨fun h => absurd h (by decide), fun h => absurd (Or.inr ⟨Int32.not_le.mp h2, Int32.not_le.mp h3⟩) h⟩
  · rw [if_neg h1]
    by_cases h2 : 0 < e
    · rw [if_pos h2]
      exact ⟨fun h => absurd h (by decide), fun h => absurd (Or.inl ⟨Int32.not_le.mp h1, h2⟩) h⟩
    · have h4 : s ≤ 0 := Int32.le_of_lt (Int32.not_le.mp h1)
      rw [if_neg h2, if_pos h4]
      exact ⟨fun _ h => h.elim (fun h => h2 h.2) (fun h => q h4 h.1), fun _ => rfl⟩
theorem n01 {x : Int32} (h : x = 0 ∨ x = 1) : ¬ x = 0 ↔ x = 1 := by
  rcases h with rfl | rfl <;> decide
theorem sA_in (xs ys : Nat → Int32) (n : Nat) (hn : n ≤ 8) (ki : Nat) (kc : Nat → Int32) : ∀ (f kj : Nat), kj ≤ n → n - kj + 1 ≤ f → (l_X0_isSimple_24 xs ys n ki kc f kj = 1 ↔ (∀ k, kj ≤ k → k < n → f_X0_areAlike xs ys ki k = 0 ∧ f_X0_clash xs ys n ki k = 0) ∧ kc (ki + 1) = 1) := by
  intro f
  induction f with
  | zero => intro kj h1 h2; omega
  | succ f ih =>
    intro kj h1 h2
    unfold l_X0_isSimple_24
    by_cases hc : nI n ≤ nI kj
    · rw [if_pos hc]
      have := (nI_leI (by omega) (by omega)).mp hc
      exact ⟨fun h => ⟨fun k g1 g2 => by omega, h⟩, fun h => h.2⟩
    · rw [if_neg hc]
      have hk : kj < n := by
        rcases Nat.lt_or_ge kj n with q | q
        · exact q
        · exact absurd (nI_le q (by omega)) hc
      by_cases hA : f_X0_areAlike xs ys ki kj = 0
      · rw [if_pos hA]
        by_cases hB : f_X0_clash xs ys n ki kj = 0
        · rw [if_pos hB, ih (kj + 1) (by omega) (by omega)]
          refine ⟨fun h => ⟨fun k g1 g2 => ?_, h.2⟩, fun h => ⟨fun k g1 g2 => h.1 k (by omega) g2, h.2⟩⟩
          rcases Nat.eq_or_lt_of_le g1 with q | q
          · subst q; exact ⟨hA, hB⟩
          · exact h.1 k q g2
        · rw [if_neg hB]
          exact ⟨fun h => absurd h (by decide), fun h => absurd (h.1 kj (Nat.le_refl _) hk).2 hB⟩
      · rw [if_neg hA]
        exact ⟨fun h => absurd h (by decide), fun h => absurd (h.1 kj (Nat.le_refl _) hk).1 hA⟩
theorem sA_out (xs ys : Nat → Int32) (n : Nat) (hn : n ≤ 8) : ∀ (f ki : Nat), ki ≤ n → n - ki + 1 ≤ f → (l_X0_isSimple_12 xs ys n f ki = 1 ↔ ∀ i, ki ≤ i → i < n → ∀ k, i + 1 ≤ k → k < n → f_X0_areAlike xs ys i k = 0 ∧ f_X0_clash xs ys n i k = 0) := by
  intro f
  induction f with
  | zero => intro ki h1 h2; omega
  | succ f ih =>
    intro ki h1 h2
    unfold l_X0_isSimple_12
    by_cases hc : nI n ≤ nI ki
    · rw [if_pos hc]
      have := (nI_leI (by omega) (by omega)).mp hc
      exact ⟨fun _ i g1 g2 => by omega, fun _ => rfl⟩
    · rw [if_neg hc]
      have hk : ki < n := by
        rcases Nat.lt_or_ge ki n with q | q
        · exact q
        · exact absurd (nI_le q (by omega)) hc
      rw [sA_in xs ys n hn ki _ _ _ (by omega) (Nat.le_refl _)]
      rw [ih (ki + 1) (by omega) (by omega)]
      refine ⟨fun h i g1 g2 => ?_, fun h => ⟨h ki (Nat.le_refl _) hk, fun i g1 => h i (by omega)⟩⟩
      rcases Nat.eq_or_lt_of_le g1 with q | q
      · subst q; exact h.1
      · exact h.2 i q g2
theorem sM_129 (nw : Nat → Int32) (n ki : Nat) (hk8 : ki ≤ 8) (kc : Nat → Int32) : ∀ (f kj : Nat), kj ≤ ki → ki - kj + 1 ≤ f → (l_X8_isSimple_129 nw n ki kc f kj = 1 ↔ (∀ m, kj ≤ m → m < ki → ((if ((nI ki) - (nI m)) = 1 then 1 else (if ((nI ki) - (nI m)) = ((nI n) - 1) then 1 else 0)) : Int32) = 0 → f_X8_doMeet nw ki m n = 0) ∧ kc (ki + 1) = 1) := by
  intro f
  induction f with
  | zero => intro kj h1 h2; omega
  | succ f ih =>
    intro kj h1 h2
    unfold l_X8_isSimple_129
    by_cases hc : nI ki ≤ nI kj
    · rw [if_pos hc]
      have := (nI_leI (by omega) (by omega)).mp hc
      exact ⟨fun h => ⟨fun k g1 g2 => by omega, h⟩, fun h => h.2⟩
    · rw [if_neg hc]
      have hk : kj < ki := by
        rcases Nat.lt_or_ge kj ki with q | q
        · exact q
        · exact absurd (nI_le q (by omega)) hc
      by_cases hA : ((if ((nI ki) - (nI kj)) = 1 then 1 else (if ((nI ki) - (nI kj)) = ((nI n) - 1) then 1 else 0)) : Int32) = 0
      · rw [if_pos hA]
        by_cases hB : f_X8_doMeet nw ki kj n = 0
        · rw [if_pos hB, ih (kj + 1) (by omega) (by omega)]
          refine ⟨fun h => ⟨fun k g1 g2 g3 => ?_, h.2⟩, fun h => ⟨fun k g1 g2 => h.1 k (by omega) g2, h.2⟩⟩
          rcases Nat.eq_or_lt_of_le g1 with q | q
          · subst q; exact hB
          · exact h.1 k q g2 g3
        · rw [if_neg hB]
          exact ⟨fun h => absurd h (by decide), fun h => absurd (h.1 kj (Nat.le_refl _) hk hA) hB⟩
      · rw [if_neg hA, ih (kj + 1) (by omega) (by omega)]
        refine ⟨fun h => ⟨fun k g1 g2 g3 => ?_, h.2⟩, fun h => ⟨fun k g1 g2 => h.1 k (by omega) g2, h.2⟩⟩
        rcases Nat.eq_or_lt_of_le g1 with q | q
        · subst q; exact absurd g3 hA
        · exact h.1 k q g2 g3
theorem sM_68 (nw : Nat → Int32) (n : Nat) (hn : n ≤ 8) : ∀ (f ki : Nat), ki ≤ n → n - ki + 1 ≤ f → (l_X8_isSimple_68 nw n f ki = 1 ↔ ∀ k, ki ≤ k → k < n → (f_X8_isOn nw (k + n - 1) (f_X8_xOf nw (k + 1) n) (f_X8_yOf nw (k + 1) n) n = 0 ∧ f_X8_isOn nw k (f_X8_xOf nw (k + n - 1) n) (f_X8_yOf nw (k + n - 1) n) n = 0) ∧ ∀ m, m < k → ((if ((nI k) - (nI m)) = 1 then 1 else (if ((nI k) - (nI m)) = ((nI n) - 1) then 1 else 0)) : Int32) = 0 → f_X8_doMeet nw k m n = 0) := by
  intro f
  induction f with
  | zero => intro ki h1 h2; omega
  | succ f ih =>
    intro ki h1 h2
    unfold l_X8_isSimple_68
    by_cases hc : nI n ≤ nI ki
    · rw [if_pos hc]
      have := (nI_leI (by omega) (by omega)).mp hc
      exact ⟨fun _ i g1 g2 => by omega, fun _ => rfl⟩
    · rw [if_neg hc]
      have hk : ki < n := by
        rcases Nat.lt_or_ge ki n with q | q
        · exact q
        · exact absurd (nI_le q (by omega)) hc
      by_cases hA : f_X8_isOn nw (ki + n - 1) (f_X8_xOf nw (ki + 1) n) (f_X8_yOf nw (ki + 1) n) n = 0
      · rw [if_pos hA]
        by_cases hB : f_X8_isOn nw ki (f_X8_xOf nw (ki + n - 1) n) (f_X8_yOf nw (ki + n - 1) n) n = 0
        · rw [if_pos hB, sM_129 nw n ki (by omega) _ _ _ (Nat.zero_le _) (by omega), ih (ki + 1) (by omega) (by omega)]
          refine ⟨fun h i g1 g2 => ?_, fun h => ⟨fun m g1 g2 => (h ki (Nat.le_refl _) hk).2 m g2, fun i g1 => h i (by omega)⟩⟩
          rcases Nat.eq_or_lt_of_le g1 with q | q
          · subst q; exact ⟨⟨hA, hB⟩, fun m g2 => h.1 m (Nat.zero_le _) g2⟩
          · exact h.2 i q g2
        · rw [if_neg hB]
          exact ⟨fun h => absurd h (by decide), fun h => absurd (h ki (Nat.le_refl _) hk).1.2 hB⟩
      · rw [if_neg hA]
        exact ⟨fun h => absurd h (by decide), fun h => absurd (h ki (Nat.le_refl _) hk).1.1 hA⟩
theorem sM_21 (nw : Nat → Int32) (n ki : Nat) (hk8 : ki ≤ 8) (kc : Nat → Int32) : ∀ (f kj : Nat), kj ≤ ki → ki - kj + 1 ≤ f → (l_X8_isSimple_21 nw n ki kc f kj = 1 ↔ (∀ m, kj ≤ m → m < ki → ¬ (f_X8_xOf nw ki n = f_X8_xOf nw m n ∧ f_X8_yOf nw ki n = f_X8_yOf nw m n)) ∧ kc (ki + 1) = 1) := by
  intro f
  induction f with
  | zero => intro kj h1 h2; omega
  | succ f ih =>
    intro kj h1 h2
    unfold l_X8_isSimple_21
    by_cases hc : nI ki ≤ nI kj
    · rw [if_pos hc]
      have := (nI_leI (by omega) (by omega)).mp hc
      exact ⟨fun h => ⟨fun k g1 g2 => by omega, h⟩, fun h => h.2⟩
    · rw [if_neg hc]
      have hk : kj < ki := by
        rcases Nat.lt_or_ge kj ki with q | q
        · exact q
        · exact absurd (nI_le q (by omega)) hc
      have next : ¬ (f_X8_xOf nw ki n = f_X8_xOf nw kj n ∧ f_X8_yOf nw ki n = f_X8_yOf nw kj n) → (l_X8_isSimple_21 nw n ki kc f (kj + 1) = 1 ↔ (∀ m, kj ≤ m → m < ki → ¬ (f_X8_xOf nw ki n = f_X8_xOf nw m n ∧ f_X8_yOf nw ki n = f_X8_yOf nw m n)) ∧ kc (ki + 1) = 1) := by
        intro hx
        rw [ih (kj + 1) (by omega) (by omega)]
        refine ⟨fun h => ⟨fun k g1 g2 => ?_, h.2⟩, fun h => ⟨fun k g1 g2 => h.1 k (by omega) g2, h.2⟩⟩
        rcases Nat.eq_or_lt_of_le g1 with q | q
        · subst q; exact hx
        · exact h.1 k q g2
      by_cases hA : f_X8_xOf nw ki n = f_X8_xOf nw kj n
      · rw [if_pos hA]
        by_cases hB : f_X8_yOf nw ki n = f_X8_yOf nw kj n
        · rw [if_pos hB]
          exact ⟨fun h => absurd h (by decide), fun h => absurd ⟨hA, hB⟩ (h.1 kj (Nat.le_refl _) hk)⟩
        · rw [if_neg hB]
          exact next (fun h => hB h.2)
      · rw [if_neg hA]
        exact next (fun h => hA h.1)
theorem sM_14 (nw : Nat → Int32) (n : Nat) (hn : n ≤ 8) : ∀ (f ki : Nat), ki ≤ n → n - ki + 1 ≤ f → (l_X8_isSimple_14 nw n f ki = 1 ↔ (∀ k, ki ≤ k → k < n → ∀ m, m < k → ¬ (f_X8_xOf nw k n = f_X8_xOf nw m n ∧ f_X8_yOf nw k n = f_X8_yOf nw m n)) ∧ l_X8_isSimple_68 nw n (n + 1) 0 = 1) := by
  intro f
  induction f with
  | zero => intro ki h1 h2; omega
  | succ f ih =>
    intro ki h1 h2
    unfold l_X8_isSimple_14
    by_cases hc : nI n ≤ nI ki
    · rw [if_pos hc]
      have := (nI_leI (by omega) (by omega)).mp hc
      exact ⟨fun h => ⟨fun i g1 g2 => by omega, h⟩, fun h => h.2⟩
    · rw [if_neg hc]
      have hk : ki < n := by
        rcases Nat.lt_or_ge ki n with q | q
        · exact q
        · exact absurd (nI_le q (by omega)) hc
      rw [sM_21 nw n ki (by omega) _ _ _ (Nat.zero_le _) (by omega), ih (ki + 1) (by omega) (by omega)]
      refine ⟨fun h => ⟨fun i g1 g2 => ?_, h.2.2⟩, fun h => ⟨fun m _ g2 => h.1 ki (Nat.le_refl _) hk m g2, fun i g1 => h.1 i (by omega), h.2⟩⟩
      rcases Nat.eq_or_lt_of_le g1 with q | q
      · subst q; exact fun m g => h.1 m (Nat.zero_le _) g
      · exact h.2.1 i q g2
