/-! the past: the ring of the class, the long row of the model -/
theorem RA_cg {fu fv xs ys gu gv as bs : Nat → Int32} {n : Nat} {nw mw : Nat → Int32} (h : RA fu fv xs ys n nw) (hu : ∀ k, k < 6 → gu k = fu k) (hv : ∀ k, k < 6 → gv k = fv k) (hx : ∀ k, k < 9 → as k = xs k) (hy : ∀ k, k < 9 → bs k = ys k) (hw : ∀ k, k < 29 → mw k = nw k) : RA gu gv as bs n mw := by
  obtain ⟨h1, h2, h3, h4, h5⟩ := h
  refine ⟨fun k hk => ?_, by rw [hw 12 (by decide)]; exact h2, h3, fun j hj => ?_, fun hn => ?_⟩
  · rw [hu k hk, hv k hk, hw k (by omega), hw (6 + k) (by omega)]; exact h1 k hk
  · rw [hx j (by omega), hy j (by omega), hw (13 + j) (by omega), hw (21 + j) (by omega)]; exact h4 j hj
  · rw [hx n (by omega), hy n (by omega), hx 0 (by omega), hy 0 (by omega)]; exact h5 hn
def RX (row blk : Nat → Int32) : Prop := ∃ m, row 12 = nI m ∧ RA row (fun k => row (6 + k)) (fun j => row (13 + j)) (fun j => row (22 + j)) m blk
theorem RX_cg {row blk row2 blk2 : Nat → Int32} (h : RX row blk) (h1 : ∀ k, k < 31 → row2 k = row k) (h2 : ∀ k, k < 29 → blk2 k = blk k) : RX row2 blk2 := by
  obtain ⟨m, e, hR⟩ := h
  exact ⟨m, by rw [h1 12 (by decide)]; exact e, RA_cg hR (fun k hk => h1 k (by omega)) (fun k hk => h1 _ (by omega)) (fun k hk => h1 _ (by omega)) (fun k hk => h1 _ (by omega)) h2⟩
def RP (rw : Nat → Nat → Int32) (co la : Nat) (un : Nat → Int32) (u : Nat) : Prop := u = co ∧ co ≤ 25 ∧ la < 25 ∧ ∀ i, i < co → RX (rw ((la + 25 - i) % 25)) (fun k => un (29 * (co - 1 - i) + k))
def nxt (la : Nat) : Nat := if 25 ≤ (nI (la + 1)) then 0 else (la + 1)
theorem nxt_eq {la : Nat} (h : la < 25) : nxt la = (la + 1) % 25 := by
  unfold nxt
  by_cases h1 : 25 ≤ nI (la + 1)
  · rw [if_pos h1]
    have := (nI_leI (a := 25) (by omega) (by omega)).mp h1
    have : la = 24 := by omega
    subst this; rfl
  · rw [if_neg h1]
    rcases Nat.lt_or_ge (la + 1) 25 with q | q
    · exact (Nat.mod_eq_of_lt q).symm
    · exact absurd (nI_le q (by omega)) h1
section PAST
variable {fu fv xs ys : Nat → Int32} {n : Nat} {nw : Nat → Int32} {rw : Nat → Nat → Int32} {co la : Nat} {un : Nat → Int32} {u : Nat}
theorem rem_row (rw : Nat → Nat → Int32) (co la : Nat) (fu fv xs ys : Nat → Int32) (n : Nat) : (f_X2_remember rw co la fu fv xs ys n).2.2 = yk_upr rw (nxt la) (va_cpy ys (va_cpy xs (upd (va_cpy fv (va_cpy fu (rw (nxt la)) 0 0 6) 0 6 6) 12 (nI n)) 0 13 9) 0 22 9) := by
  unfold f_X2_remember
  show yk_upr _ (nxt la) _ = _
  funext i
  have e : (if 25 ≤ (nI (la + 1)) then 0 else (la + 1)) = nxt la := rfl
  simp only [e, yk_upr, if_true]
  by_cases hi : i = nxt la
  · rw [if_pos hi, if_pos hi]
  · rw [if_neg hi, if_neg hi, if_neg hi, if_neg hi, if_neg hi, if_neg hi]
theorem new_row (h : RA fu fv xs ys n nw) (r : Nat → Int32) : RX (va_cpy ys (va_cpy xs (upd (va_cpy fv (va_cpy fu r 0 0 6) 0 6 6) 12 (nI n)) 0 13 9) 0 22 9) nw := by
  have hn8 := h.2.2.1
  refine ⟨n, ?_, RA_cg h (fun k hk => ?_) (fun k hk => ?_) (fun k hk => ?_) (fun k hk => ?_) (fun _ _ => rfl)⟩
  · rw [pk_cpy_out (by omega), pk_cpy_out (by omega), pk_us]
  · rw [pk_cpy_out (by omega), pk_cpy_out (by omega), pk_un (by omega), pk_cpy_out (by omega), pk_cpy_in (by omega) (by omega), Nat.zero_add, Nat.sub_zero]
  · rw [pk_cpy_out (by omega), pk_cpy_out (by omega), pk_un (by omega), pk_cpy_in (by omega) (by omega), Nat.zero_add, Nat.add_sub_cancel_left]
  · rw [pk_cpy_out (by omega), pk_cpy_in (by omega) (by omega), Nat.zero_add, Nat.add_sub_cancel_left]
  · rw [pk_cpy_in (by omega) (by omega), Nat.zero_add, Nat.add_sub_cancel_left]
theorem sh_12 (nw un : Nat → Int32) (u : Nat) : ∀ (f ki : Nat) (z : Nat → Int32), 29 ≤ ki → ki ≤ 725 → 725 - ki + 1 ≤ f → (∀ i, i + 29 < ki → z i = un (i + 29)) → (∀ i, ki ≤ i + 29 → z i = un i) → ∀ i, i < 696 → l_X8_remember_12 nw un u f ki z i = un (i + 29) := by
  intro f
  induction f with
  | zero => intro ki z _ _ h; omega
  | succ f ih =>
    intro ki z g0 g1 g2 g3 g4 i hi
    unfold l_X8_remember_12
    by_cases hc : 725 ≤ nI ki
    · rw [if_pos hc]
      have := (nI_leI (a := 725) (by omega) (by omega)).mp hc
      exact g3 i (by omega)
    · rw [if_neg hc]
      have hk : ki < 725 := by
        rcases Nat.lt_or_ge ki 725 with q | q
        · exact q
        · exact absurd (nI_le q (by omega)) hc
      refine ih (ki + 1) _ (by omega) (by omega) (by omega) (fun j hj => ?_) (fun j hj => ?_) i hi
      · by_cases e : j = ki - 29
        · rw [e, pk_us, g4 ki (by omega)]
          congr 1; omega
        · rw [pk_un e]; exact g3 j (by omega)
      · rw [pk_un (by omega)]; exact g4 j (by omega)
theorem sh_52 (nw un : Nat → Int32) (u : Nat) (v : Nat) (hv : (if (nI u) = 25 then u - 1 else u) = v) : ∀ (f kj : Nat) (z : Nat → Int32), kj ≤ 29 → 29 - kj + 1 ≤ f → (∀ k, k < kj → z (29 * v + k) = nw k) → (∀ k, k < 29 → l_X8_remember_52 nw un u f kj z (29 * v + k) = nw k) ∧ ∀ i, i < 29 * v → l_X8_remember_52 nw un u f kj z i = z i := by
  intro f
  induction f with
  | zero => intro kj z _ h; omega
  | succ f ih =>
    intro kj z g1 g2 g3
    unfold l_X8_remember_52
    by_cases hc : 29 ≤ nI kj
    · rw [if_pos hc]
      have := (nI_leI (a := 29) (by omega) (by omega)).mp hc
      exact ⟨fun k hk => g3 k (by omega), fun _ _ => rfl⟩
    · rw [if_neg hc, hv]
      have hk : kj < 29 := by
        rcases Nat.lt_or_ge kj 29 with q | q
        · exact q
        · exact absurd (nI_le q (by omega)) hc
      obtain ⟨r1, r2⟩ := ih (kj + 1) (upd z (29 * v + kj) (nw kj)) (by omega) (by omega) (fun k hk2 => by
        by_cases e : k = kj
        · rw [e, pk_us]
        · rw [pk_un (by omega)]; exact g3 k (by omega))
      exact ⟨r1, fun i hi => by rw [r2 i hi, pk_un (by omega)]⟩
/-- an act is remembered by both -/
theorem e_rem (h : RA fu fv xs ys n nw) (hp : RP rw co la un u) : RP (f_X2_remember rw co la fu fv xs ys n).2.2 (f_X2_remember rw co la fu fv xs ys n).1 (f_X2_remember rw co la fu fv xs ys n).2.1 (f_X8_remember nw un u).2 (f_X8_remember nw un u).1 := by
  obtain ⟨p1, p2, p3, p4⟩ := hp
  subst p1
  rw [rem_row]
  have hl : (f_X2_remember rw u la fu fv xs ys n).2.1 = (la + 1) % 25 := nxt_eq p3
  have hl2 := nxt_eq p3
  rw [hl, hl2]
  have h25 : (nI u = 25) ↔ u = 25 := nI_eq (b := 25) (by omega) (by decide)
  have hm := Nat.mod_lt (la + 1) (show 0 < 25 by decide)
  by_cases hu : u = 25
  · have hv : (if (nI u) = 25 then u - 1 else u) = 24 := by rw [if_pos (h25.mpr hu), hu]
    have hc : (f_X2_remember rw u la fu fv xs ys n).1 = 25 := by
      show (if 25 < nI (u + 1) then 25 else (u + 1)) = 25
      rw [if_pos (show (25 : Int32) < nI (u + 1) from nI_lt (a := 25) (b := u + 1) (by omega) (by omega))]
    have hc8 : (f_X8_remember nw un u).1 = 25 := by show (if (nI u) = 25 then u - 1 else u) + 1 = 25; rw [hv]
    have hun : (f_X8_remember nw un u).2 = l_X8_remember_52 nw un u 30 0 (l_X8_remember_12 nw un u 697 29 un) := by
      show l_X8_remember_52 nw un u (29 + 1) 0 (if (nI u) = 25 then (l_X8_remember_12 nw un u (725 - 29 + 1) 29 un) else un) = _
      rw [if_pos (h25.mpr hu)]
    obtain ⟨r1, r2⟩ := sh_52 nw un u 24 hv 30 0 (l_X8_remember_12 nw un u 697 29 un) (by decide) (by decide) (fun k hk => absurd hk (Nat.not_lt_zero _))
    have r3 := sh_12 nw un u 697 29 un (by decide) (by decide) (by decide) (fun i hi => by omega) (fun i _ => rfl)
    rw [hc, hc8, hun]
    refine ⟨rfl, by decide, hm, fun i hi => ?_⟩
    rcases Nat.eq_zero_or_pos i with h0 | h0
    · subst h0
      have e : ((la + 1) % 25 + 25 - 0) % 25 = (la + 1) % 25 := by omega
      rw [e, yk_upr, if_pos rfl]
      exact RX_cg (new_row h _) (fun _ _ => rfl) (fun k hk => r1 k hk)
    · have e : ((la + 1) % 25 + 25 - i) % 25 = (la + 25 - (i - 1)) % 25 := by omega
      have ne : ¬ (la + 25 - (i - 1)) % 25 = (la + 1) % 25 := by omega
      rw [e, yk_upr, if_neg ne]
      refine RX_cg (p4 (i - 1) (by omega)) (fun _ _ => rfl) (fun k hk => ?_)
      show l_X8_remember_52 nw un u 30 0 (l_X8_remember_12 nw un u 697 29 un) (29 * (25 - 1 - i) + k) = un (29 * (u - 1 - (i - 1)) + k)
      rw [r2 _ (by omega), r3 _ (by omega)]
      congr 1; omega
  · have hv : (if (nI u) = 25 then u - 1 else u) = u := if_neg (fun q => hu (h25.mp q))
    have hc : (f_X2_remember rw u la fu fv xs ys n).1 = u + 1 := by
      show (if 25 < nI (u + 1) then 25 else (u + 1)) = u + 1
      rw [if_neg (show ¬ (25 : Int32) < nI (u + 1) from nI_nlt (a := 25) (b := u + 1) (by omega) (by omega))]
    have hc8 : (f_X8_remember nw un u).1 = u + 1 := by show (if (nI u) = 25 then u - 1 else u) + 1 = u + 1; rw [hv]
    have hun : (f_X8_remember nw un u).2 = l_X8_remember_52 nw un u 30 0 un := by
      show l_X8_remember_52 nw un u (29 + 1) 0 (if (nI u) = 25 then (l_X8_remember_12 nw un u (725 - 29 + 1) 29 un) else un) = _
      rw [if_neg (fun q => hu (h25.mp q))]
    obtain ⟨r1, r2⟩ := sh_52 nw un u u hv 30 0 un (by decide) (by decide) (fun k hk => absurd hk (Nat.not_lt_zero _))
    rw [hc, hc8, hun]
    refine ⟨rfl, by omega, hm, fun i hi => ?_⟩
    rcases Nat.eq_zero_or_pos i with h0 | h0
    · subst h0
      have e : ((la + 1) % 25 + 25 - 0) % 25 = (la + 1) % 25 := by omega
      rw [e, yk_upr, if_pos rfl]
      exact RX_cg (new_row h _) (fun _ _ => rfl) (fun k hk => r1 k hk)
    · have e : ((la + 1) % 25 + 25 - i) % 25 = (la + 25 - (i - 1)) % 25 := by omega
      have ne : ¬ (la + 25 - (i - 1)) % 25 = (la + 1) % 25 := by omega
      rw [e, yk_upr, if_neg ne]
      refine RX_cg (p4 (i - 1) (by omega)) (fun _ _ => rfl) (fun k hk => ?_)
      show l_X8_remember_52 nw un u 30 0 un (29 * (u + 1 - 1 - i) + k) = un (29 * (u - 1 - (i - 1)) + k)
      rw [r2 _ (by omega)]
      congr 2; omega
theorem ud_26 (nw un : Nat → Int32) (u : Nat) (fi : Int32) : ∀ (f ki : Nat) (z : Nat → Int32), ki ≤ 29 → 29 - ki + 1 ≤ f → (∀ k, k < ki → z k = un (29 * (u - 1) + k)) → ∀ k, k < 29 → l_X8_undo_26 nw un u fi f ki z k = un (29 * (u - 1) + k) := by
  intro f
  induction f with
  | zero => intro ki z _ h; omega
  | succ f ih =>
    intro ki z g1 g2 g3 k hk
    unfold l_X8_undo_26
    by_cases hc : 29 ≤ nI ki
    · rw [if_pos hc]
      have := (nI_leI (a := 29) (by omega) (by omega)).mp hc
      exact g3 k (by omega)
    · rw [if_neg hc]
      have hk2 : ki < 29 := by
        rcases Nat.lt_or_ge ki 29 with q | q
        · exact q
        · exact absurd (nI_le q (by omega)) hc
      refine ih (ki + 1) _ (by omega) (by omega) (fun j hj => ?_) k hk
      by_cases e : j = ki
      · rw [e, pk_us]
      · rw [pk_un e]; exact g3 j (by omega)
/-- what undo needs of the past -/
theorem e_n2 (hp : RP rw co la un u) : ∃ n2, 0 < co → rw la 12 = nI n2 ∧ n2 ≤ 8 := by
  obtain ⟨p1, p2, p3, p4⟩ := hp
  rcases Nat.eq_zero_or_pos co with h | h
  · exact ⟨0, fun g => by omega⟩
  · obtain ⟨m, e1, e2⟩ := p4 0 h
    rw [show (la + 25 - 0) % 25 = la from by omega] at e1
    exact ⟨m, fun _ => ⟨e1, e2.2.2.1⟩⟩
theorem e_undo (h : RA fu fv xs ys n nw) (hp : RP rw co la un u) (fi : Int32) {n2 : Nat} (h2 : 0 < co → rw la 12 = nI n2 ∧ n2 ≤ 8) : (f_X7_undo fu fv xs ys n rw co la fi n2).1 = (f_X8_undo nw un u fi).1 ∧ (f_X7_undo fu fv xs ys n rw co la fi n2).2.1 = (f_X8_undo nw un u fi).2.2.1 ∧ RA (f_X7_undo fu fv xs ys n rw co la fi n2).2.2.1 (f_X7_undo fu fv xs ys n rw co la fi n2).2.2.2.1 (f_X7_undo fu fv xs ys n rw co la fi n2).2.2.2.2.2.1 (f_X7_undo fu fv xs ys n rw co la fi n2).2.2.2.2.2.2.1 (f_X7_undo fu fv xs ys n rw co la fi n2).2.2.2.2.1 (f_X8_undo nw un u fi).2.2.2 ∧ RP rw (f_X7_undo fu fv xs ys n rw co la fi n2).2.2.2.2.2.2.2.1 (f_X7_undo fu fv xs ys n rw co la fi n2).2.2.2.2.2.2.2.2 un (f_X8_undo nw un u fi).2.1 := by
  have hp0 := hp
  obtain ⟨p1, p2, p3, p4⟩ := hp
  subst p1
  unfold f_X7_undo f_X8_undo
  have h0 : (nI u = 0) ↔ u = 0 := nI_eq (b := 0) (by omega) (by decide)
  by_cases hu : nI u = 0
  · rw [if_pos hu, if_pos hu]
    exact ⟨rfl, rfl, h, hp0⟩
  · rw [if_neg hu, if_neg hu]
    have hpos : 0 < u := Nat.pos_of_ne_zero (fun q => hu (h0.mpr q))
    obtain ⟨m, e1, e2⟩ := p4 0 hpos
    rw [show (la + 25 - 0) % 25 = la from by omega] at e1 e2
    have hm : m = n2 := (nI_eq (by have := e2.2.2.1; omega) (by have := (h2 hpos).2; omega)).mp (e1.symm.trans (h2 hpos).1)
    subst hm
    refine ⟨rfl, rfl, ?_, ?_⟩
    · refine RA_cg e2 (fun k hk => ?_) (fun k hk => ?_) (fun k hk => ?_) (fun k hk => ?_) (fun k hk => ?_)
      · show va_cpy (rw la) fu 0 0 6 k = _
        rw [pk_cpy_in (by omega) (by omega), Nat.zero_add, Nat.sub_zero]
      · show va_cpy (rw la) fv 6 0 6 k = _
        rw [pk_cpy_in (by omega) (by omega), Nat.sub_zero]
      · show va_cpy (rw la) xs 13 0 9 k = _
        rw [pk_cpy_in (by omega) (by omega), Nat.sub_zero]
      · show va_cpy (rw la) ys 22 0 9 k = _
        rw [pk_cpy_in (by omega) (by omega), Nat.sub_zero]
      · exact ud_26 nw un u fi 30 0 nw (by decide) (by decide) (fun k hk => absurd hk (Nat.not_lt_zero _)) k hk
    · have hl : (if (nI la) ≤ 0 then 24 else la - 1) = (la + 24) % 25 := by
        by_cases q : nI la ≤ 0
        · rw [if_pos q]
          have := (nI_leI (b := 0) (by omega) (by decide)).mp q
          have : la = 0 := by omega
          subst this; rfl
        · rw [if_neg q]
          have : 1 ≤ la := yk_pos q
          omega
      show RP rw (u - 1) (if (nI la) ≤ 0 then 24 else la - 1) un (u - 1)
      rw [hl]
      refine ⟨rfl, by omega, Nat.mod_lt _ (by decide), fun i hi => ?_⟩
      have := p4 (i + 1) (by omega)
      rw [show ((la + 24) % 25 + 25 - i) % 25 = (la + 25 - (i + 1)) % 25 from by omega, show u - 1 - 1 - i = u - 1 - (i + 1) from by omega]
      exact this
end PAST
