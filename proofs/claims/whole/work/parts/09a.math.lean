/-! booleans as ints -/
def b2z (b : Bool) : Int := if b = true then 1 else 0
theorem b2z_t {b : Bool} (h : b = true) : b2z b = 1 := if_pos h
theorem b2z_f {b : Bool} (h : b = false) : b2z b = 0 := if_neg (by rw [h]; decide)
theorem b2z_eq {b : Bool} (h : b2z b = 0) : b = false := by
  cases b with
  | true => rw [b2z_t rfl] at h; omega
  | false => rfl
theorem b2z_ne {b : Bool} (h : ¬ b2z b = 0) : b = true := by
  cases b with
  | true => rfl
  | false => exact absurd (b2z_f rfl) h
theorem b2z_rg (b : Bool) : 0 ≤ b2z b ∧ b2z b ≤ 1 := by
  cases b with
  | true => rw [b2z_t rfl]; omega
  | false => rw [b2z_f rfl]; omega
theorem b2z_nar (b : Bool) : narrow .boolean (vI (b2z b)) = vI (b2z b) := by
  cases b with
  | true => rfl
  | false => rfl
theorem tat_pre {t : Nat → Int} (p : Nat) : tat t ((p : Int) - 1) = t_pre t p := by
  cases p with
  | zero => rfl
  | succ p =>
    rw [show ((p + 1 : Nat) : Int) - 1 = (p : Int) by omega, tat_n]
    rfl
theorem t_pre_rg {n : Nat} {t : Nat → Int} (ht : tx_ok n t) (p : Nat) : -1 ≤ t_pre t p ∧ t_pre t p < 65536 := by
  cases p with
  | zero => exact ⟨Int.le_refl _, (by decide : (-1 : Int) < 65536)⟩
  | succ p => exact tx_ge ht p
theorem u_hi_iff {x : Int} : u_hi x = true ↔ 55296 ≤ x ∧ x ≤ 56319 := by simp [u_hi]
theorem u_lo_iff {x : Int} : u_lo x = true ↔ 56320 ≤ x ∧ x ≤ 57343 := by simp [u_lo]
theorem cod_rg {n : Nat} {t : Nat → Int} (ht : tx_ok n t) {p : Nat} (hp : p < n) : 0 ≤ cod t p ∧ cod t p < 1114112 := by
  unfold cod
  have h1 := ht.1 p hp
  split
  · rename_i h
    simp only [Bool.and_eq_true] at h
    have h2 := u_hi_iff.mp h.1
    have h3 := u_lo_iff.mp h.2
    omega
  · omega
theorem bg1_lt {n : Nat} {t : Nat → Int} (ht : tx_ok n t) {p : Nat} (h : bg1 t p = true) : p < n := by
  unfold bg1 at h
  simp only [Bool.and_eq_true, decide_eq_true_eq] at h
  rcases Nat.lt_or_ge p n with h1 | h1
  · exact h1
  · exact absurd (ht.2 p h1) h.1
theorem wk_rg {n : Nat} {t : Nat → Int} (ht : tx_ok n t) (p : Nat) : (-1 ≤ (wk t p).1 ∧ (wk t p).1 < 1114112) ∧ (-1 ≤ (wk t p).2.1 ∧ (wk t p).2.1 < 1114112) ∧ (wk t p).2.2 ≤ p := by
  induction p with
  | zero => simp [wk]
  | succ p ih =>
    unfold wk
    split
    · rename_i h
      have h1 := cod_rg ht (bg1_lt ht h)
      refine ⟨by omega, ?_, ?_⟩
      · dsimp only
        split <;> omega
      · dsimp only
        split <;> omega
    · omega
/-- what the class's walk does at a point -/
theorem wk_t {t : Nat → Int} {p : Nat} (h : bg1 t p = true) : wk t (p + 1) = (cod t p, if is_mark (wk t p).1 then (wk t p).2.1 else (wk t p).1, if is_flag (wk t p).1 then (wk t p).2.2 + 1 else 0) := by
  rw [wk, if_pos h]
theorem wk_f {t : Nat → Int} {p : Nat} (h : bg1 t p = false) : wk t (p + 1) = wk t p := by
  rw [wk, if_neg (by rw [h]; decide)]
theorem bg_0 {n : Nat} {t : Nat → Int} {p : Nat} : bg 0 n t p = decide (p < n) := if_pos rfl
theorem bg_1 {n : Nat} {t : Nat → Int} {p : Nat} : bg 1 n t p = bg1 t p := by simp [bg]
theorem bg_2 {n : Nat} {t : Nat → Int} {p : Nat} : bg 2 n t p = bg2 n t p := by simp [bg]
theorem bg_3 {n : Nat} {t : Nat → Int} {p : Nat} : bg 3 n t p = bg3 t p := by simp [bg]
theorem b2z_r (b : Bool) : -2147483648 ≤ b2z b ∧ b2z b < 2147483648 := by
  have := b2z_rg b
  omega
