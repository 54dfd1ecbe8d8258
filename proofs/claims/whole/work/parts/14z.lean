
theorem yk_ni (x : Int32) : narrow .int (.int x) = .int x := rfl
theorem yk_nl (x : Int64) : narrow .long (.long x) = .long x := rfl
theorem yk_fi (x : Int32) : fits .int (.int x) = true := rfl
theorem yk_fl (x : Int64) : fits .long (.long x) = true := rfl
theorem yk_fst {α β : Type} {p : α × β} {a : α} {b : β} (h : p = (a, b)) : p.1 = a := by subst h; rfl
theorem yk_snd {α β : Type} {p : α × β} {a : α} {b : β} (h : p = (a, b)) : p.2 = b := by subst h; rfl
theorem yk_ix {x : Int32} {N : Nat} (hN : N < 2 ^ 31) (h0 : ¬ x < 0) (h1 : ¬ nI N ≤ x) : x = nI x.toNatClampNeg ∧ x.toNatClampNeg < N := by
  obtain ⟨j, hj, rfl⟩ := nI_of h0
  rw [nI_clamp hj]
  refine ⟨rfl, ?_⟩
  rcases Nat.lt_or_ge j N with q | q
  · exact q
  · exact absurd (nI_le q hj) h1
theorem yk_ltn {n : Nat} (hn : n ≤ 8) (h : nI n < (8 : Int32)) : n < 8 := by
  rcases Nat.lt_or_ge n 8 with q | q
  · exact q
  · exact absurd h (nI_nlt (b := 8) q (by omega))
theorem ix_pc {x : Int32} {n : Nat} (hn : n ≤ 8) (h0 : ¬ x < 0) (h1 : x < nI n) : x = nI x.toNatClampNeg ∧ x.toNatClampNeg < n := yk_ix (by omega) h0 (fun h2 => absurd h1 (Int32.not_lt.mpr h2))
theorem ix_num {x : Int32} (h : ¬ f_X7_isNumberIndex x = 0) : x = nI x.toNatClampNeg ∧ x.toNatClampNeg < 6 := by
  unfold f_X7_isNumberIndex at h
  by_cases h0 : x < 0
  · exact absurd (if_pos h0) h
  · rw [if_neg h0] at h
    by_cases h1 : (6 : Int32) ≤ x
    · exact absurd (if_pos h1) h
    · exact yk_ix (N := 6) (by decide) h0 h1
theorem ix_slot {x : Int32} (h : ¬ f_X7_isSlot x = 0) : x = nI x.toNatClampNeg ∧ x.toNatClampNeg < 4 := by
  unfold f_X7_isSlot at h
  by_cases h0 : x < 0
  · exact absurd (if_pos h0) h
  · rw [if_neg h0] at h
    by_cases h1 : (4 : Int32) ≤ x
    · exact absurd (if_pos h1) h
    · exact yk_ix (N := 4) (by decide) h0 h1
theorem ix_sheet {x : Int32} (h : ¬ f_X7_isSheet x = 0) : x = nI x.toNatClampNeg ∧ x.toNatClampNeg < 4 := by
  unfold f_X7_isSheet at h
  by_cases h0 : x < 0
  · exact absurd (if_pos h0) h
  · rw [if_neg h0] at h
    by_cases h1 : (4 : Int32) ≤ x
    · exact absurd (if_pos h1) h
    · exact yk_ix (N := 4) (by decide) h0 h1

theorem ix_size {x : Int32} (h0 : 0 ≤ x) (h1 : x ≤ 16) : x = nI x.toNatClampNeg ∧ x.toNatClampNeg < 17 := by
  refine yk_ix (N := 17) (by decide) (Int32.not_lt.mpr h0) (fun h2 => ?_)
  have h3 : (17 : Int32) ≤ 16 := Int32.le_trans h2 h1
  exact absurd h3 (by decide)
theorem hr_ok {n : Nat} {x y : Int32} (hn : n ≤ 16) (h : ¬ f_X5_hasRange n x y = 0) : (x = nI x.toNatClampNeg ∧ x.toNatClampNeg < 17) ∧ (y = nI y.toNatClampNeg ∧ y.toNatClampNeg < 17) ∧ x.toNatClampNeg + y.toNatClampNeg ≤ n := by
  unfold f_X5_hasRange at h
  by_cases h0 : x < 0
  · exact absurd (if_pos h0) h
  rw [if_neg h0] at h
  by_cases h1 : y < 0
  · exact absurd (if_pos h1) h
  rw [if_neg h1] at h
  by_cases h2 : nI n < y
  · exact absurd (if_pos h2) h
  rw [if_neg h2] at h
  by_cases h3 : nI n - y < x
  · exact absurd (if_pos h3) h
  obtain ⟨i, hi, rfl⟩ := nI_of h0
  obtain ⟨j, hj, rfl⟩ := nI_of h1
  rw [nI_clamp hi, nI_clamp hj]
  have hjn : j ≤ n := by
    rcases Nat.lt_or_ge n j with q | q
    · exact absurd (nI_lt q hj) h2
    · exact q
  rw [pk_sub hjn] at h3
  have hin : i ≤ n - j := by
    rcases Nat.lt_or_ge (n - j) i with q | q
    · exact absurd (nI_lt q hi) h3
    · exact q
  exact ⟨⟨rfl, by omega⟩, ⟨rfl, by omega⟩, by omega⟩
theorem yk_swo {x : Int32} (h0 : ¬ x = 0) (h1 : ¬ x = 1) (h2 : ¬ x = 2) (h3 : ¬ x = 3) : x.toInt < 0 ∨ 3 < x.toInt := by
  rcases Int.lt_or_le x.toInt 0 with q | q
  · exact Or.inl q
  · refine Or.inr ?_
    have e0 := lv_neT h0 (a := 0) rfl
    have e1 := lv_neT h1 (a := 1) rfl
    have e2 := lv_neT h2 (a := 2) rfl
    have e3 := lv_neT h3 (a := 3) rfl
    omega
