/-! the reference's own way to the clusters -/
def ld (c : Nat → Int) : Nat → Int
  | 0 => -1
  | k + 1 => if is_mark (c k) then ld c k else c k
def fr (c : Nat → Int) : Nat → Nat
  | 0 => 0
  | k + 1 => if is_flag (c k) then fr c k + 1 else 0
def mbn (a lead : Int) (fl : Nat) (b : Int) : Bool := if (decide (a = 13) && decide (b = 10)) || (decide (31 < a) && (is_mark b || decide (b = 8205))) then true else if decide (a = 8205) && is_pic b then is_pic lead else is_flag a && (is_flag b && decide (fl % 2 = 0))
theorem is_mark_iff {x : Int} : is_mark x = true ↔ 768 ≤ x ∧ x ≤ 879 := by simp [is_mark]
theorem is_pic_iff {x : Int} : is_pic x = true ↔ 127744 ≤ x ∧ x ≤ 129791 := by simp [is_pic]
theorem is_flag_iff {x : Int} : is_flag x = true ↔ 127462 ≤ x ∧ x ≤ 127487 := by simp [is_flag]
theorem mbn_jn (a lead : Int) (fl : Nat) (b : Int) : mbn a lead fl b = jn a lead fl b := by
  unfold mbn jn
  have h1 := @is_mark_iff b
  have h2 := @is_pic_iff b
  have h3 := @is_flag_iff b
  cases hm : is_mark b <;> cases hp : is_pic b <;> cases hf : is_flag b <;> rw [hm] at h1 <;> rw [hp] at h2 <;> rw [hf] at h3 <;> by_cases h8 : b = 8205 <;> by_cases h9 : b = 10 <;> by_cases ha : a = 13 <;> by_cases hj : a = 8205 <;> by_cases h31 : 31 < a <;> simp [h8, h9, ha, hj, h31] at h1 h2 h3 ⊢ <;> omega
theorem wk_codes {n : Nat} {t c : Nat → Int} (ht : tx_ok n t) (q : Nat) (hc : ∀ r, r < q → bg1 t r = true → c (cnt (bg1 t) r) = cod t r) : wk t q = if cnt (bg1 t) q = 0 then (-1, -1, 0) else (c (cnt (bg1 t) q - 1), ld c (cnt (bg1 t) q - 1), fr c (cnt (bg1 t) q - 1)) := by
  induction q with
  | zero => rfl
  | succ q ih =>
    have h1 := ih (fun r hr => hc r (by omega))
    cases hb : bg1 t q with
    | false => rw [wk_f hb, cnt_f hb, h1]
    | true =>
      have e0 : ¬ (cnt (bg1 t) q + 1 = 0) := by omega
      rw [wk_t hb, cnt_t hb, if_neg e0, Nat.add_sub_cancel, hc q (by omega) hb, h1]
      by_cases h0 : cnt (bg1 t) q = 0
      · rw [if_pos h0, h0]
        rfl
      · rw [if_neg h0]
        dsimp only
        obtain ⟨k, hk⟩ : ∃ k, cnt (bg1 t) q = k + 1 := ⟨cnt (bg1 t) q - 1, by omega⟩
        rw [hk, Nat.add_sub_cancel]
        rfl
theorem cnt_eq_no {B : Nat → Bool} {r q : Nat} (h : r ≤ q) (he : cnt B r = cnt B q) : ∀ x, r ≤ x → x < q → B x = false := by
  intro x h1 h2
  cases hb : B x with
  | false => rfl
  | true =>
    have a1 := cnt_mono (B := B) h1
    have a2 := cnt_lt hb h2
    omega
theorem cnt_no {B : Nat → Bool} {r q : Nat} (h : r ≤ q) (hn : ∀ x, r ≤ x → x < q → B x = false) : cnt B q = cnt B r := by
  induction q with
  | zero =>
    have : r = 0 := by omega
    rw [this]
  | succ q ih =>
    rcases Nat.lt_or_ge r (q + 1) with h1 | h1
    · rw [cnt_f (hn q (by omega) (by omega))]
      exact ih (by omega) (fun x a b => hn x a (by omega))
    · have : r = q + 1 := by omega
      rw [this]
theorem sel_no {B : Nat → Bool} {r q : Nat} {f : Nat → Int} (hs : sel B r f) (hn : ∀ x, r ≤ x → x < q → B x = false) : sel B q f := by
  intro x hx hb
  rcases Nat.lt_or_ge x r with h1 | h1
  · exact hs x h1 hb
  · rw [hn x h1 hx] at hb
    cases hb
theorem bg_sub {m : Int} {n : Nat} {t : Nat → Int} (hm : m = 1 ∨ m = 3) {x : Nat} (h : bg1 t x = false) : bg m n t x = false := by
  rcases hm with rfl | rfl
  · rw [bg_1, h]
  · rw [bg_3, bg3, h]
    rfl
/-- whether one of the first k of f is a -/
def anyb (f : Nat → Int) (a : Int) : Nat → Bool
  | 0 => false
  | k + 1 => anyb f a k || decide (f k = a)
theorem anyb_iff {f : Nat → Int} {a : Int} {k : Nat} : anyb f a k = true ↔ ∃ j, j < k ∧ f j = a := by
  induction k with
  | zero => simp [anyb]
  | succ k ih =>
    simp only [anyb, Bool.or_eq_true, decide_eq_true_eq, ih]
    constructor
    · rintro (⟨j, h1, h2⟩ | h)
      · exact ⟨j, by omega, h2⟩
      · exact ⟨k, by omega, h⟩
    · rintro ⟨j, h1, h2⟩
      rcases Nat.lt_or_ge j k with h3 | h3
      · exact Or.inl ⟨j, h3, h2⟩
      · rw [show j = k by omega] at h2
        exact Or.inr h2
theorem lets_fre {g : Int} {n : Nat} {t f : Nat → Int} {a : Nat} (ht : tx_ok n t) (ha : a ≤ n) (hs : sel (bg g n t) (n + 1) f) (hf : f (cnt (bg g n t) (n + 1)) = (n : Int)) : (decide (g = 0) || anyb f ((a : Nat) : Int) (cnt (bg g n t) (n + 1) + 1)) = fre g n t ((a : Nat) : Int) := by
  have e1 : fre g n t ((a : Nat) : Int) = !(decide (a < n) && !bg g n t a) := by
    unfold fre
    rw [show ((a : Nat) : Int).toNat = a from rfl, decide_eq_decide.mpr (show ((a : Nat) : Int) < ((n : Nat) : Int) ↔ a < n by omega)]
  rw [e1]
  by_cases hg : g = 0
  · subst hg
    rw [bg_0]
    cases decide (a < n) <;> rfl
  · rw [decide_eq_false hg, Bool.false_or]
    rcases Nat.lt_or_ge a n with h1 | h1
    · rw [decide_eq_true h1, Bool.true_and, Bool.not_not]
      cases hb : bg g n t a with
      | true => exact anyb_iff.mpr ⟨cnt (bg g n t) a, by have := cnt_lt (q := n + 1) hb (by omega); omega, hs a (by omega) hb⟩
      | false =>
        refine Bool.eq_false_iff.mpr (fun h => ?_)
        obtain ⟨j, j1, j2⟩ := anyb_iff.mp h
        rcases Nat.lt_or_ge j (cnt (bg g n t) (n + 1)) with h3 | h3
        · obtain ⟨q, q1, q2, q3⟩ := cnt_at h3
          have := hs q q1 q2
          rw [q3, j2] at this
          rw [show q = a by omega, hb] at q2
          cases q2
        · rw [show j = cnt (bg g n t) (n + 1) by omega, hf] at j2
          omega
    · rw [decide_eq_false (by omega), Bool.false_and, Bool.not_false]
      exact anyb_iff.mpr ⟨_, Nat.lt_succ_self _, by rw [hf]; omega⟩
