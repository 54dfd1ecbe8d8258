/-! numbers in bounds: sums and products as in the whole numbers -/
def bd (x : Int32) (M : Int) : Prop := -M ≤ x.toInt ∧ x.toInt ≤ M
def bl (x : Int64) (M : Int) : Prop := -M ≤ x.toInt ∧ x.toInt ≤ M
theorem bmod32 {z : Int} (h1 : -2147483648 ≤ z) (h2 : z < 2147483648) : z.bmod (2 ^ 32) = z := by
  apply Int.bmod_eq_of_le <;> omega
theorem bmod64 {z : Int} (h1 : -9223372036854775808 ≤ z) (h2 : z < 9223372036854775808) : z.bmod (2 ^ 64) = z := by
  apply Int.bmod_eq_of_le <;> omega
theorem mulb {A B M N : Int} (hA : -M ≤ A ∧ A ≤ M) (hB : -N ≤ B ∧ B ≤ N) : -(M * N) ≤ A * B ∧ A * B ≤ M * N := by
  obtain ⟨a1, a2⟩ := hA
  obtain ⟨b1, b2⟩ := hB
  have hM : 0 ≤ M := by omega
  have hN : 0 ≤ N := by omega
  have h1 : 0 ≤ (M - A) * (N + B) := Int.mul_nonneg (by omega) (by omega)
  have h2 : 0 ≤ (M + A) * (N - B) := Int.mul_nonneg (by omega) (by omega)
  have h3 : 0 ≤ (M - A) * (N - B) := Int.mul_nonneg (by omega) (by omega)
  have h4 : 0 ≤ (M + A) * (N + B) := Int.mul_nonneg (by omega) (by omega)
  have e1 : (M - A) * (N + B) = M * N + M * B - A * N - A * B := by rw [Int.sub_mul, Int.mul_add, Int.mul_add]; omega
  have e2 : (M + A) * (N - B) = M * N - M * B + A * N - A * B := by rw [Int.add_mul, Int.mul_sub, Int.mul_sub]; omega
  have e3 : (M - A) * (N - B) = M * N - M * B - A * N + A * B := by rw [Int.sub_mul, Int.mul_sub, Int.mul_sub]; omega
  have e4 : (M + A) * (N + B) = M * N + M * B + A * N + A * B := by rw [Int.add_mul, Int.mul_add, Int.mul_add]; omega
  constructor <;> omega
theorem ad {x y : Int32} {M N : Int} (hx : bd x M) (hy : bd y N) (h : M + N < 2147483648) : (x + y).toInt = x.toInt + y.toInt ∧ bd (x + y) (M + N) := by
  obtain ⟨x1, x2⟩ := hx
  obtain ⟨y1, y2⟩ := hy
  have e : (x + y).toInt = x.toInt + y.toInt := by rw [Int32.toInt_add]; exact bmod32 (by omega) (by omega)
  exact ⟨e, by unfold bd; rw [e]; omega⟩
theorem sb {x y : Int32} {M N : Int} (hx : bd x M) (hy : bd y N) (h : M + N < 2147483648) : (x - y).toInt = x.toInt - y.toInt ∧ bd (x - y) (M + N) := by
  obtain ⟨x1, x2⟩ := hx
  obtain ⟨y1, y2⟩ := hy
  have e : (x - y).toInt = x.toInt - y.toInt := by rw [Int32.toInt_sub]; exact bmod32 (by omega) (by omega)
  exact ⟨e, by unfold bd; rw [e]; omega⟩
theorem ng {x : Int32} {M : Int} (hx : bd x M) (h : M < 2147483648) : (-x).toInt = -x.toInt ∧ bd (-x) M := by
  obtain ⟨x1, x2⟩ := hx
  have e : (-x).toInt = -x.toInt := by rw [Int32.toInt_neg]; exact bmod32 (by omega) (by omega)
  exact ⟨e, by unfold bd; rw [e]; omega⟩
theorem ml {x y : Int32} {M N : Int} (hx : bd x M) (hy : bd y N) (h : M * N < 2147483648) : (x * y).toInt = x.toInt * y.toInt ∧ bd (x * y) (M * N) := by
  have hb := mulb hx hy
  have e : (x * y).toInt = x.toInt * y.toInt := by rw [Int32.toInt_mul]; exact bmod32 (by omega) (by omega)
  exact ⟨e, by unfold bd; rw [e]; exact hb⟩
theorem adl {x y : Int64} {M N : Int} (hx : bl x M) (hy : bl y N) (h : M + N < 9223372036854775808) : (x + y).toInt = x.toInt + y.toInt ∧ bl (x + y) (M + N) := by
  obtain ⟨x1, x2⟩ := hx
  obtain ⟨y1, y2⟩ := hy
  have e : (x + y).toInt = x.toInt + y.toInt := by rw [Int64.toInt_add]; exact bmod64 (by omega) (by omega)
  exact ⟨e, by unfold bl; rw [e]; omega⟩
theorem sbl {x y : Int64} {M N : Int} (hx : bl x M) (hy : bl y N) (h : M + N < 9223372036854775808) : (x - y).toInt = x.toInt - y.toInt ∧ bl (x - y) (M + N) := by
  obtain ⟨x1, x2⟩ := hx
  obtain ⟨y1, y2⟩ := hy
  have e : (x - y).toInt = x.toInt - y.toInt := by rw [Int64.toInt_sub]; exact bmod64 (by omega) (by omega)
  exact ⟨e, by unfold bl; rw [e]; omega⟩
theorem ngl {x : Int64} {M : Int} (hx : bl x M) (h : M < 9223372036854775808) : (-x).toInt = -x.toInt ∧ bl (-x) M := by
  obtain ⟨x1, x2⟩ := hx
  have e : (-x).toInt = -x.toInt := by rw [Int64.toInt_neg]; exact bmod64 (by omega) (by omega)
  exact ⟨e, by unfold bl; rw [e]; omega⟩
theorem mll {x y : Int64} {M N : Int} (hx : bl x M) (hy : bl y N) (h : M * N < 9223372036854775808) : (x * y).toInt = x.toInt * y.toInt ∧ bl (x * y) (M * N) := by
  have hb := mulb hx hy
  have e : (x * y).toInt = x.toInt * y.toInt := by rw [Int64.toInt_mul]; exact bmod64 (by omega) (by omega)
  exact ⟨e, by unfold bl; rw [e]; exact hb⟩
theorem bd_mono {x : Int32} {M N : Int} (h : bd x M) (hn : M ≤ N) : bd x N := ⟨by have := h.1; omega, by have := h.2; omega⟩
theorem bl_mono {x : Int64} {M N : Int} (h : bl x M) (hn : M ≤ N) : bl x N := ⟨by have := h.1; omega, by have := h.2; omega⟩
theorem bd_l {x : Int32} {M : Int} (h : bd x M) : x.toInt64.toInt = x.toInt ∧ bl x.toInt64 M := by
  have e : x.toInt64.toInt = x.toInt := Int32.toInt_toInt64 x
  exact ⟨e, by unfold bl; rw [e]; exact h⟩
/-! signs -/
def sgI (z : Int) : Int32 := if z < 0 then -1 else if z = 0 then 0 else 1
theorem sgI_tri (z : Int) : (z < 0 ∧ sgI z = -1) ∨ (z = 0 ∧ sgI z = 0) ∨ (0 < z ∧ sgI z = 1) := by
  unfold sgI
  by_cases h1 : z < 0
  · exact Or.inl ⟨h1, if_pos h1⟩
  · rw [if_neg h1]
    by_cases h2 : z = 0
    · exact Or.inr (Or.inl ⟨h2, if_pos h2⟩)
    · exact Or.inr (Or.inr ⟨by omega, if_neg h2⟩)
theorem sgI_n {z : Int} (h : z < 0) : sgI z = -1 := if_pos h
theorem sgI_z {z : Int} (h : z = 0) : sgI z = 0 := by subst h; rfl
theorem sgI_p {z : Int} (h : 0 < z) : sgI z = 1 := by unfold sgI; rw [if_neg (by omega), if_neg (by omega)]
theorem sgI_neg (z : Int) : sgI (-z) = -(sgI z) := by
  rcases sgI_tri z with ⟨h, e⟩ | ⟨h, e⟩ | ⟨h, e⟩
  · rw [e, sgI_p (by omega)]; rfl
  · rw [e, sgI_z (by omega)]; rfl
  · rw [e, sgI_n (by omega)]
theorem sgI_mul (x y : Int) : sgI (x * y) = sgI x * sgI y := by
  rcases sgI_tri x with ⟨h, e⟩ | ⟨h, e⟩ | ⟨h, e⟩ <;> rcases sgI_tri y with ⟨h2, e2⟩ | ⟨h2, e2⟩ | ⟨h2, e2⟩ <;> rw [e, e2]
  · exact sgI_p (Int.mul_pos_of_neg_of_neg h h2)
  · exact sgI_z (by rw [h2, Int.mul_zero])
  · exact sgI_n (Int.mul_neg_of_neg_of_pos h h2)
  · exact sgI_z (by rw [h, Int.zero_mul])
  · exact sgI_z (by rw [h, Int.zero_mul])
  · exact sgI_z (by rw [h, Int.zero_mul])
  · exact sgI_n (Int.mul_neg_of_pos_of_neg h h2)
  · exact sgI_z (by rw [h2, Int.mul_zero])
  · exact sgI_p (Int.mul_pos h h2)
theorem lc_tri (x : Int64) : (x.toInt < 0 ∧ lg_cmp x 0 = -1) ∨ (x.toInt = 0 ∧ lg_cmp x 0 = 0) ∨ (0 < x.toInt ∧ lg_cmp x 0 = 1) := by
  have z : (0 : Int64).toInt = 0 := rfl
  unfold lg_cmp
  by_cases h1 : x > 0
  · refine Or.inr (Or.inr ⟨?_, if_pos h1⟩)
    have := Int64.lt_iff_toInt_lt.mp h1
    omega
  · rw [if_neg h1]
    by_cases h2 : x = 0
    · exact Or.inr (Or.inl ⟨by rw [h2]; rfl, if_pos h2⟩)
    · refine Or.inl ⟨?_, if_neg h2⟩
      have h3 : ¬ (0 : Int64).toInt < x.toInt := fun q => h1 (Int64.lt_iff_toInt_lt.mpr q)
      have h4 : x.toInt ≠ 0 := fun q => h2 (Int64.toInt_inj.mp (by rw [q]; rfl))
      omega
theorem lc_0 (x : Int64) : lg_cmp x 0 = sgI x.toInt := by
  rcases lc_tri x with ⟨h, e⟩ | ⟨h, e⟩ | ⟨h, e⟩
  · rw [e, sgI_n h]
  · rw [e, sgI_z h]
  · rw [e, sgI_p h]
theorem sign_sg (x : Int64) : f_X8_sign x = sgI x.toInt := by
  unfold f_X8_sign
  rcases lc_tri x with ⟨h, e⟩ | ⟨h, e⟩ | ⟨h, e⟩
  · rw [e, sgI_n h]; decide
  · rw [e, sgI_z h]; decide
  · rw [e, sgI_p h]; decide
theorem s63 (x : Int64) : (x >>> ((63 : Int32).toInt64 &&& 63)).toInt = x.toInt / 9223372036854775808 := by
  show (x.toBitVec.sshiftRight' (((63 : Int32).toInt64 &&& 63).toBitVec.smod 64)).toInt = _
  rw [BitVec.toInt_sshiftRight', show (((63 : Int32).toInt64 &&& 63).toBitVec.smod 64).toNat = 63 from by decide, Int.shiftRight_eq_div_pow]
  rfl
theorem u63 (x : Int64) : ((x.toUInt64 >>> ((63 : Int32).toInt64.toUInt64 &&& Int64.toUInt64 63)).toNat) = x.toBitVec.toNat / 9223372036854775808 := by
  rw [UInt64.toNat_shiftRight, show ((63 : Int32).toInt64.toUInt64 &&& Int64.toUInt64 63).toNat % 64 = 63 from by decide, Nat.shiftRight_eq_div_pow]
  rfl
theorem signum_sg (x : Int64) : f_J13_signum_95d88 x = sgI x.toInt := by
  unfold f_J13_signum_95d88
  have hr1 : -9223372036854775808 ≤ x.toInt := Int64.le_toInt x
  have hr2 : x.toInt < 9223372036854775808 := Int64.toInt_lt x
  rcases sgI_tri x.toInt with ⟨h, e⟩ | ⟨h, e⟩ | ⟨h, e⟩
  · have h1 : x >>> ((63 : Int32).toInt64 &&& 63) = -1 := Int64.toInt_inj.mp (by rw [s63, show (-1 : Int64).toInt = -1 from rfl]; omega)
    rw [h1, e]
    have h2 : ∀ z : Int64, (-1 : Int64) ||| z = -1 := fun z => by simp
    rw [h2]
    rfl
  · have h0 : x = 0 := Int64.toInt_inj.mp (by rw [h]; rfl)
    rw [e, h0]
    decide
  · have h1 : x >>> ((63 : Int32).toInt64 &&& 63) = 0 := Int64.toInt_inj.mp (by rw [s63, show (0 : Int64).toInt = 0 from rfl]; omega)
    have h2 : (((-x).toUInt64 >>> ((63 : Int32).toInt64.toUInt64 &&& Int64.toUInt64 63))) = 1 := by
      apply UInt64.toNat_inj.mp
      rw [u63]
      have hx : (x.toBitVec.toNat : Int) = x.toInt := by
        have : x.toInt = x.toBitVec.toInt := rfl
        rw [this, BitVec.toInt_eq_toNat_cond]
        split
        · rfl
        · rename_i q
          exfalso
          rw [this, BitVec.toInt_eq_toNat_cond, if_neg q] at h
          have := x.toBitVec.isLt
          omega
      have hn : (-x).toBitVec.toNat = (18446744073709551616 - x.toBitVec.toNat) % 18446744073709551616 := by
        show (-(x.toBitVec)).toNat = _
        rw [BitVec.toNat_neg]
      rw [hn, show (1 : UInt64).toNat = 1 from rfl]
      omega
    rw [h1, h2, e]
    decide
