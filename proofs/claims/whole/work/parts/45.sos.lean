/-! the sign of m + n times the square root of d, as the model tells it -/
theorem sosI {p q D w : Int} (hp : 0 ≤ p) (hq : 0 < q) (hw : 0 ≤ w) (h1 : w * q ≤ p) (h2 : p < (w + 1) * q) : (D < w * w → 0 < p * p - q * q * D) ∧ ((w + 1) * (w + 1) ≤ D → p * p - q * q * D < 0) := by
  have c : 0 < q * q := Int.mul_pos hq hq
  constructor
  · intro h
    have a : (w * q) * (w * q) ≤ p * p := Int.mul_le_mul h1 h1 (Int.mul_nonneg hw (Int.le_of_lt hq)) hp
    have d : q * q * D < q * q * (w * w) := Int.mul_lt_mul_of_pos_left h c
    have e : (w * q) * (w * q) = q * q * (w * w) := by grind
    omega
  · intro h
    have a : p * p ≤ p * ((w + 1) * q) := Int.mul_le_mul_of_nonneg_left (Int.le_of_lt h2) hp
    have b : p * ((w + 1) * q) < ((w + 1) * q) * ((w + 1) * q) := Int.mul_lt_mul_of_pos_right h2 (by omega)
    have e : ((w + 1) * q) * ((w + 1) * q) = q * q * ((w + 1) * (w + 1)) := by grind
    have f : q * q * ((w + 1) * (w + 1)) ≤ q * q * D := Int.mul_le_mul_of_nonneg_left h (Int.le_of_lt c)
    omega
def abL (x : Int64) : Int64 := if 0 ≤ lg_cmp x 0 then x else -x
theorem abL_b {x : Int64} {X M : Int} (hx : x.toInt = X ∧ bl x M) (h : M < 9223372036854775808) : ∃ A, A = X.natAbs ∧ (abL x).toInt = (A : Int) ∧ bl (abL x) M := by
  refine ⟨X.natAbs, rfl, ?_⟩
  have hb := hx.2
  unfold bl at hb
  rw [hx.1] at hb
  unfold abL
  rw [lc_0, hx.1]
  rcases sgI_tri X with ⟨a, b⟩ | ⟨a, b⟩ | ⟨a, b⟩ <;> rw [b]
  · rw [if_neg (by decide)]
    have n := negL hx h
    exact ⟨by rw [n.1]; omega, n.2⟩
  · rw [if_pos (by decide)]
    exact ⟨by rw [hx.1]; omega, hx.2⟩
  · rw [if_pos (by decide)]
    exact ⟨by rw [hx.1]; omega, hx.2⟩
def moreL (P Q W z : Int64) : Int32 := if lg_cmp (W * W) z ≤ 0 then (if 0 < lg_cmp ((W + 1) * (W + 1)) z then f_X8_sign ((((P - W * Q) * (P - W * Q)) + (((2 * W) * Q) * (P - W * Q))) - (((z - (W * W)) * Q) * Q)) else -1) else 1
def sosL (x y : Int32) (T more : Int32) : Int32 := if x = 0 then (if x = 0 then T else x) else (if T = 0 then (if x = 0 then T else x) else (if x = T then (if x = 0 then T else x) else (if more ≤ 0 then (if 0 ≤ more then 0 else T) else x)))
theorem sosL_eq (x y z : Int64) : f_X8_signOfSum x y z = sosL (f_X8_sign x) 0 (if lg_cmp z 0 = 0 then 0 else f_X8_sign y) (moreL (abL x) (abL y) (abL x / abL y) z) := rfl
theorem lgc_gt (x y : Int64) : (0 < lg_cmp x y) ↔ y.toInt < x.toInt := by
  have := lgc_le x y
  constructor
  · intro h
    have n : ¬ x.toInt ≤ y.toInt := fun q => (Int32.not_le.mpr h) (this.mpr q)
    omega
  · intro h
    exact Int32.not_le.mp (fun q => by have := this.mp q; omega)
theorem more_eq {P Q z : Int64} {p q D : Int} (hP : P.toInt = p ∧ bl P 20000000000) (hQ : Q.toInt = q ∧ bl Q 6400000) (hz : z.toInt = D ∧ bl z 6800000) (p0 : 0 ≤ p) (q0 : 0 < q) (hw : p ≤ 3000000000 * q) : moreL P Q (P / Q) z = sgI (p * p - q * q * D) := by
  have hb := hP.2
  have hq6 := hQ.2
  have hD6 := hz.2
  unfold bl at hb hq6 hD6
  rw [hP.1] at hb
  rw [hQ.1] at hq6
  rw [hz.1] at hD6
  have w0 : 0 ≤ p / q := Int.ediv_nonneg p0 (Int.le_of_lt q0)
  have w1 : p / q ≤ 3000000000 := by
    have : p / q < 3000000000 + 1 := Int.ediv_lt_of_lt_mul q0 (by omega)
    omega
  have e1 : (P / Q).toInt = p / q := by
    rw [Int64.toInt_div, hP.1, hQ.1, Int.tdiv_eq_ediv_of_nonneg p0]
    exact bmod64 (by omega) (by omega)
  have hW : (P / Q).toInt = p / q ∧ bl (P / Q) 3000000000 := ⟨e1, by unfold bl; rw [e1]; omega⟩
  have m1 : p / q * q ≤ p := Int.ediv_mul_le p (by omega)
  have m2 : p < (p / q + 1) * q := Int.lt_ediv_add_one_mul_self p q0
  generalize P / Q = W at *
  generalize p / q = w at *
  obtain ⟨s1, s2⟩ := sosI (D := D) p0 q0 w0 m1 m2
  have hWW := mulL hW hW (by decide)
  have hW1 := addL hW (lc (M := 1) 1 (c := 1) rfl (by decide) (by decide)) (by decide)
  have hW2 := mulL hW1 hW1 (by decide)
  unfold moreL
  by_cases g1 : lg_cmp (W * W) z ≤ 0
  · rw [if_pos g1]
    rw [lgc_le, hWW.1, hz.1] at g1
    by_cases g2 : 0 < lg_cmp ((W + 1) * (W + 1)) z
    · rw [if_pos g2]
      rw [lgc_gt, hW2.1, hz.1] at g2
      have w2 : w ≤ 2608 := by
        rcases (show 2608 < w ∨ w ≤ 2608 by omega) with a | a
        · have : 2609 * 2609 ≤ w * w := Int.mul_le_mul (by omega) (by omega) (by decide) w0
          omega
        · exact a
      have hW3 : W.toInt = w ∧ bl W 2608 := ⟨hW.1, by unfold bl; rw [hW.1]; omega⟩
      have eWW : (w + 1) * (w + 1) = w * w + 2 * w + 1 := by grind
      have hWQ := mulL hW3 hQ (by decide)
      have hRe := subL hP hWQ (by decide)
      have hR : (P - W * Q).toInt = p - w * q ∧ bl (P - W * Q) 6400000 := by
        refine ⟨hRe.1, ?_⟩
        unfold bl
        rw [hRe.1]
        have : (w + 1) * q = w * q + q := by grind
        omega
      have hDd : (z - W * W).toInt = D - w * w ∧ bl (z - W * W) 5216 := by
        have t := subL hz (mulL hW3 hW3 (by decide)) (by decide)
        refine ⟨t.1, ?_⟩
        unfold bl
        rw [t.1]
        omega
      have hV := subL (addL (mulL hR hR (by decide)) (mulL (mulL (mulL (l2 (M := 2) (by decide)) hW3 (by decide)) hQ (by decide)) hR (by decide)) (by decide)) (mulL (mulL hDd hQ (by decide)) hQ (by decide)) (by decide)
      rw [sign_sg, hV.1]
      congr 1
      grind
    · rw [if_neg g2]
      rw [lgc_gt, hW2.1, hz.1] at g2
      exact (sgI_n (s2 (by omega))).symm
  · rw [if_neg g1]
    rw [lgc_le, hWW.1, hz.1] at g1
    exact (sgI_p (s1 (by omega))).symm
theorem natAbs_sq (X : Int) : (X.natAbs : Int) * (X.natAbs : Int) = X * X := by
  rcases Int.natAbs_eq X with h | h
  · rw [← h]
  · generalize (X.natAbs : Int) = a at *
    rw [h]; grind
theorem sos_eq {m k d : Int64} {M K D : Int} (hm : m.toInt = M ∧ bl m 20000000000) (hk : k.toInt = K ∧ bl k 6400000) (hd : d.toInt = D ∧ bl d 6800000) (hw : K ≠ 0 → (M.natAbs : Int) ≤ 3000000000 * K.natAbs) : f_X8_signOfSum m k d = cmb (sgI M) (if sgI D = 0 then 0 else sgI K) (sgI (M * M - K * K * D)) := by
  rw [sosL_eq, sign_sg, sign_sg, lc_0, hm.1, hk.1, hd.1]
  obtain ⟨A, ea, ha⟩ := abL_b hm (by decide)
  obtain ⟨B, eb, hb⟩ := abL_b hk (by decide)
  have key : K ≠ 0 → moreL (abL m) (abL k) (abL m / abL k) d = sgI (M * M - K * K * D) := by
    intro hK
    rw [more_eq ha hb hd (by omega) (by omega) (by rw [ea, eb]; exact hw hK), ea, eb, natAbs_sq, natAbs_sq]
  unfold sosL cmb
  by_cases hD : sgI D = 0
  · rw [if_pos hD]
    rcases sgI_tri M with ⟨_, e⟩ | ⟨_, e⟩ | ⟨_, e⟩ <;> rw [e] <;> rfl
  · rw [if_neg hD]
    rcases sgI_tri K with ⟨k1, ek⟩ | ⟨k1, ek⟩ | ⟨k1, ek⟩
    · rw [key (by omega), ek]
      generalize M * M - K * K * D = R
      rcases sgI_tri M with ⟨_, e⟩ | ⟨_, e⟩ | ⟨_, e⟩ <;> rw [e] <;> rcases sgI_tri R with ⟨_, f⟩ | ⟨_, f⟩ | ⟨_, f⟩ <;> rw [f] <;> decide
    · rw [ek]
      rcases sgI_tri M with ⟨_, e⟩ | ⟨_, e⟩ | ⟨_, e⟩ <;> rw [e] <;> rfl
    · rw [key (by omega), ek]
      generalize M * M - K * K * D = R
      rcases sgI_tri M with ⟨_, e⟩ | ⟨_, e⟩ | ⟨_, e⟩ <;> rw [e] <;> rcases sgI_tri R with ⟨_, f⟩ | ⟨_, f⟩ | ⟨_, f⟩ <;> rw [f] <;> decide
/-- the exact sign of m + z -/
theorem cmb_x {m z R c : Int} (hc : 0 < c) (h : m * m - z * z = c * R) : cmb (sgI m) (sgI z) (sgI R) = sgI (m + z) := by
  have hf : m * m - z * z = (m - z) * (m + z) := by grind
  have hs : sgI R = sgI (m - z) * sgI (m + z) := by
    rw [← sgI_mul, ← hf, h, sgI_mul, sgI_p hc, Int32.one_mul]
  rw [hs]
  unfold cmb
  rcases sgI_tri m with ⟨a, e⟩ | ⟨a, e⟩ | ⟨a, e⟩ <;> rcases sgI_tri z with ⟨b, f⟩ | ⟨b, f⟩ | ⟨b, f⟩ <;> rcases sgI_tri (m - z) with ⟨u, p⟩ | ⟨u, p⟩ | ⟨u, p⟩ <;> rcases sgI_tri (m + z) with ⟨v, q⟩ | ⟨v, q⟩ | ⟨v, q⟩ <;> first | (exfalso; omega) | (rw [e, f, p, q]; decide)
