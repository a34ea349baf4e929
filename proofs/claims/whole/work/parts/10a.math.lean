theorem bg1_end {n : Nat} {t : Nat → Int} (ht : tx_ok n t) : bg1 t n = false := by
  cases h : bg1 t n with
  | false => rfl
  | true => exact absurd (bg1_lt ht h) (Nat.lt_irrefl _)
theorem bg_end {n : Nat} {t : Nat → Int} {m : Int} (ht : tx_ok n t) (hm : ¬ m = 2) : bg m n t n = false := by
  unfold bg
  split
  · simp
  · split
    · exact bg1_end ht
    · unfold bg3
      rw [bg1_end ht]
      rfl
theorem bg1_sec {t : Nat → Int} {p : Nat} (h : (u_hi (t_pre t p) && u_lo (t p)) = true) : bg1 t p = false := by
  unfold bg1
  rw [h]
  simp
theorem bg1_one {n : Nat} {t : Nat → Int} {p : Nat} (ht : tx_ok n t) (hp : p < n) (h : (u_hi (t_pre t p) && u_lo (t p)) = false) : bg1 t p = true := by
  unfold bg1
  rw [h]
  have := ht.1 p hp
  simp
  omega
theorem bg_sec {n : Nat} {t : Nat → Int} {p : Nat} {m : Int} (h : (u_hi (t_pre t p) && u_lo (t p)) = true) (h0 : ¬ m = 0) (h2 : ¬ m = 2) : bg m n t p = false := by
  unfold bg
  rw [if_neg h0]
  split
  · exact bg1_sec h
  · unfold bg3
    rw [bg1_sec h]
    rfl
theorem bg_zero {n : Nat} {t : Nat → Int} {m : Int} (ht : tx_ok n t) (h : 0 < n ∨ m = 2) : bg m n t 0 = true := by
  unfold bg
  by_cases h2 : m = 2
  · subst h2
    simp [bg2]
  · have hn : 0 < n := by
      rcases h with h | h
      · exact h
      · exact absurd h h2
    have h1 : bg1 t 0 = true := bg1_one ht hn (by simp [t_pre, u_hi])
    split
    · simpa using hn
    · split
      · exact h1
      · unfold bg3
        rw [h1]
        simp [wk]
/-- the place of the k-th -/
def nthp (B : Nat → Bool) : Nat → Nat → Int
  | 0, _ => -1
  | p + 1, k => if B p = true ∧ cnt B p = k then (p : Int) else nthp B p k
theorem sel_nth {B : Nat → Bool} {p : Nat} {f : Nat → Int} (h : sel B p f) {k : Nat} (hk : k < cnt B p) : f k = nthp B p k := by
  induction p with
  | zero => simp [cnt] at hk
  | succ p ih =>
    unfold nthp
    by_cases hb : B p = true ∧ cnt B p = k
    · rw [if_pos hb, ← hb.2]
      exact h p (by omega) hb.1
    · rw [if_neg hb]
      refine ih (fun q hq => h q (by omega)) ?_
      cases hp : B p with
      | true =>
        rw [cnt_t hp] at hk
        rcases Nat.lt_or_ge k (cnt B p) with h1 | h1
        · exact h1
        · exact absurd ⟨hp, by omega⟩ hb
      | false =>
        rwa [cnt_f hp] at hk
theorem sel_gt {B : Nat → Bool} {p c : Nat} {f : Nat → Int} (h : sel B c f) {k : Nat} (hk : k < cnt B c) : (p : Int) < f k ↔ cnt B (p + 1) ≤ k := by
  obtain ⟨q, q1, q2, q3⟩ := cnt_at hk
  have h1 := h q q1 q2
  rw [q3] at h1
  rw [h1]
  constructor
  · intro h2
    have := cnt_mono (B := B) (show p + 1 ≤ q by omega)
    omega
  · intro h2
    rcases Nat.lt_or_ge p q with h3 | h3
    · omega
    · have := cnt_lt (q := p + 1) q2 (by omega)
      omega
theorem sel_rg {B : Nat → Bool} {c : Nat} {f : Nat → Int} (h : sel B c f) {k : Nat} (hk : k < cnt B c) : 0 ≤ f k ∧ f k < c := by
  obtain ⟨q, q1, q2, q3⟩ := cnt_at hk
  have h1 := h q q1 q2
  rw [q3] at h1
  omega
theorem sel_in {B : Nat → Bool} {p c : Nat} {f : Nat → Int} (h : sel B c f) (hp : p < c) (h0 : B 0 = true) : f (cnt B (p + 1) - 1) = (p : Int) ↔ B p = true := by
  constructor
  · intro h1
    cases hb : B p with
    | true => rfl
    | false =>
      rw [cnt_f hb] at h1
      have h2 : 0 < cnt B p := by
        rcases Nat.eq_zero_or_pos p with h3 | h3
        · rw [h3] at hb
          rw [h0] at hb
          cases hb
        · have := cnt_lt h0 h3
          omega
      obtain ⟨q, q1, q2, q3⟩ := cnt_at (show cnt B p - 1 < cnt B p by omega)
      have h4 := h q (by omega) q2
      rw [q3, h1] at h4
      omega
  · intro hb
    rw [cnt_t hb]
    exact h p hp hb
theorem cnt_pos {B : Nat → Bool} (h0 : B 0 = true) (p : Nat) : 0 < cnt B (p + 1) := by
  have := cnt_lt h0 (show 0 < p + 1 by omega)
  omega
theorem tat_s (t : Nat → Int) (p : Nat) : tat t ((p : Int) + 1) = t (p + 1) := by
  rw [show ((p : Nat) : Int) + 1 = ((p + 1 : Nat) : Int) by omega]
  exact tat_n t (p + 1)
