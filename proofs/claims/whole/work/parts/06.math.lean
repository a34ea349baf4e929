/-! WHAT A TEXT IS: n units t 0 .. t (n - 1); behind them t is -1 -/
def tx_ok (n : Nat) (t : Nat → Int) : Prop := (∀ i, i < n → 0 ≤ t i ∧ t i < 65536) ∧ ∀ i, n ≤ i → t i = -1
theorem tx_ge {n : Nat} {t : Nat → Int} (h : tx_ok n t) (i : Nat) : -1 ≤ t i ∧ t i < 65536 := by
  rcases Nat.lt_or_ge i n with h1 | h1
  · have := h.1 i h1
    omega
  · have := h.2 i h1
    omega
theorem tx_none {n : Nat} {t : Nat → Int} (h : tx_ok n t) (i : Nat) : t i = -1 ↔ n ≤ i := by
  constructor
  · intro h1
    rcases Nat.lt_or_ge i n with h2 | h2
    · have := h.1 i h2
      omega
    · exact h2
  · exact h.2 i
/-- the first n units of a row -/
def tx_of (n : Nat) (u : Nat → Int) : Nat → Int := fun i => if i < n then u i else -1
theorem tx_of_lt {n i : Nat} {u : Nat → Int} (h : i < n) : tx_of n u i = u i := if_pos h
theorem tx_of_ge {n i : Nat} {u : Nat → Int} (h : n ≤ i) : tx_of n u i = -1 := if_neg (Nat.not_lt.mpr h)
theorem tx_of_ok {n : Nat} {u : Nat → Int} (h : ∀ i, i < n → 0 ≤ u i ∧ u i < 65536) : tx_ok n (tx_of n u) := ⟨fun i hi => by rw [tx_of_lt hi]; exact h i hi, fun i hi => tx_of_ge hi⟩
theorem tx_of_eq {n : Nat} {u t : Nat → Int} (ht : tx_ok n t) (h : ∀ i, i < n → u i = t i) : tx_of n u = t := by
  funext i
  rcases Nat.lt_or_ge i n with h1 | h1
  · rw [tx_of_lt h1, h i h1]
  · rw [tx_of_ge h1, ht.2 i h1]
theorem tx_ext {n : Nat} {t t' : Nat → Int} (ht : tx_ok n t) (ht' : tx_ok n t') (h : ∀ i, i < n → t i = t' i) : t = t' := by
  funext i
  rcases Nat.lt_or_ge i n with h1 | h1
  · exact h i h1
  · rw [ht.2 i h1, ht'.2 i h1]
/-- units a .. b - 1 go, and c units of p come in at a -/
def tx_ed (t : Nat → Int) (a b c : Nat) (p : Nat → Int) : Nat → Int := fun i => if i < a then t i else if i < a + c then p (i - a) else t (i - (a + c) + b)
theorem tx_ed_ok {n : Nat} {t p : Nat → Int} {a b c : Nat} (h : tx_ok n t) (hab : a ≤ b) (hb : b ≤ n) (hp : ∀ i, i < c → 0 ≤ p i ∧ p i < 65536) : tx_ok (n - (b - a) + c) (tx_ed t a b c p) := by
  refine ⟨fun i hi => ?_, fun i hi => ?_⟩
  · unfold tx_ed
    split
    · exact h.1 i (by omega)
    · split
      · exact hp _ (by omega)
      · exact h.1 _ (by omega)
  · unfold tx_ed
    rw [if_neg (by omega), if_neg (by omega)]
    exact h.2 _ (by omega)
/-! HOW MANY, AND WHERE -/
def cnt (B : Nat → Bool) : Nat → Nat
  | 0 => 0
  | p + 1 => if B p then cnt B p + 1 else cnt B p
theorem cnt_t {B : Nat → Bool} {p : Nat} (h : B p = true) : cnt B (p + 1) = cnt B p + 1 := by simp [cnt, h]
theorem cnt_f {B : Nat → Bool} {p : Nat} (h : B p = false) : cnt B (p + 1) = cnt B p := by simp [cnt, h]
theorem cnt_mono {B : Nat → Bool} {p q : Nat} (h : p ≤ q) : cnt B p ≤ cnt B q := by
  induction q with
  | zero =>
    have : p = 0 := by omega
    subst this
    exact Nat.le_refl _
  | succ q ih =>
    rcases Nat.lt_or_ge p (q + 1) with h1 | h1
    · have h2 := ih (by omega)
      cases hb : B q with
      | true => rw [cnt_t hb]; omega
      | false => rw [cnt_f hb]; omega
    · have : p = q + 1 := by omega
      subst this
      exact Nat.le_refl _
theorem cnt_le {B : Nat → Bool} (p : Nat) : cnt B p ≤ p := by
  induction p with
  | zero => exact Nat.le_refl _
  | succ p ih =>
    cases hb : B p with
    | true => rw [cnt_t hb]; omega
    | false => rw [cnt_f hb]; omega
theorem cnt_lt {B : Nat → Bool} {p q : Nat} (hp : B p = true) (h : p < q) : cnt B p < cnt B q := by
  have h1 := cnt_mono (B := B) (show p + 1 ≤ q by omega)
  rw [cnt_t hp] at h1
  omega
/-- every number below the count is the count at a place that has B -/
theorem cnt_at {B : Nat → Bool} {p j : Nat} (h : j < cnt B p) : ∃ q, q < p ∧ B q = true ∧ cnt B q = j := by
  induction p with
  | zero => simp [cnt] at h
  | succ p ih =>
    cases hb : B p with
    | true =>
      rw [cnt_t hb] at h
      rcases Nat.lt_or_ge j (cnt B p) with h1 | h1
      · obtain ⟨q, q1, q2, q3⟩ := ih h1
        exact ⟨q, by omega, q2, q3⟩
      · exact ⟨p, by omega, hb, by omega⟩
    | false =>
      rw [cnt_f hb] at h
      obtain ⟨q, q1, q2, q3⟩ := ih h
      exact ⟨q, by omega, q2, q3⟩
theorem cnt_congr {B B' : Nat → Bool} {p : Nat} (h : ∀ q, q < p → B q = B' q) : cnt B p = cnt B' p := by
  induction p with
  | zero => rfl
  | succ p ih =>
    have h1 := ih (fun q hq => h q (by omega))
    have h2 := h p (by omega)
    cases hb : B p with
    | true => rw [cnt_t hb, cnt_t (by rw [← h2]; exact hb), h1]
    | false => rw [cnt_f hb, cnt_f (by rw [← h2]; exact hb), h1]
/-- f holds, in order, the places below p that have B -/
def sel (B : Nat → Bool) (p : Nat) (f : Nat → Int) : Prop := ∀ q, q < p → B q = true → f (cnt B q) = (q : Int)
theorem sel_t {B : Nat → Bool} {p : Nat} {f : Nat → Int} (h : sel B p f) (hb : B p = true) : sel B (p + 1) (zup f (cnt B p) (p : Int)) := by
  intro q hq hbq
  rcases Nat.lt_or_ge q p with h1 | h1
  · rw [zup_ne (by have := cnt_lt hbq h1; omega)]
    exact h q h1 hbq
  · have : q = p := by omega
    subst this
    exact zup_eq _ _ _
theorem sel_f {B : Nat → Bool} {p : Nat} {f : Nat → Int} (h : sel B p f) (hb : B p = false) : sel B (p + 1) f := by
  intro q hq hbq
  rcases Nat.lt_or_ge q p with h1 | h1
  · exact h q h1 hbq
  · have : q = p := by omega
    subst this
    rw [hb] at hbq
    cases hbq
/-! POINTS, LINES, CLUSTERS: where an item begins -/
def u_hi (x : Int) : Bool := decide (55296 ≤ x ∧ x ≤ 56319)
def u_lo (x : Int) : Bool := decide (56320 ≤ x ∧ x ≤ 57343)
def is_mark (x : Int) : Bool := decide (768 ≤ x ∧ x ≤ 879)
def is_pic (x : Int) : Bool := decide (127744 ≤ x ∧ x ≤ 129791)
def is_flag (x : Int) : Bool := decide (127462 ≤ x ∧ x ≤ 127487)
/-- the unit before place p -/
def t_pre (t : Nat → Int) : Nat → Int
  | 0 => -1
  | p + 1 => t p
def bg1 (t : Nat → Int) (p : Nat) : Bool := decide (t p ≠ -1) && !(u_hi (t_pre t p) && u_lo (t p))
def bg2 (n : Nat) (t : Nat → Int) (p : Nat) : Bool := decide (p ≤ n) && (decide (p = 0) || decide (t_pre t p = 10) || (decide (t_pre t p = 13) && decide (t p ≠ 10)))
def cod (t : Nat → Int) (p : Nat) : Int := if u_hi (t p) && u_lo (t (p + 1)) then 65536 + 1024 * (t p - 55296) + t (p + 1) - 56320 else t p
/-- whether the point x is joined to what the walk has come to: the last point, the latest before it that is no mark, the flags before it -/
def jn (last lead : Int) (fl : Nat) (x : Int) : Bool :=
  if is_mark x || decide (x = 8205) then decide (31 < last)
  else if is_pic x then decide (last = 8205) && is_pic lead
  else if is_flag x then is_flag last && decide (fl % 2 = 0)
  else decide (last = 13) && decide (x = 10)
/-- the walk over the points before place p -/
def wk (t : Nat → Int) : Nat → Int × Int × Nat
  | 0 => (-1, -1, 0)
  | p + 1 => if bg1 t p then (cod t p, if is_mark (wk t p).1 then (wk t p).2.1 else (wk t p).1, if is_flag (wk t p).1 then (wk t p).2.2 + 1 else 0) else wk t p
def bg3 (t : Nat → Int) (p : Nat) : Bool := bg1 t p && (decide ((wk t p).1 = -1) || !jn (wk t p).1 (wk t p).2.1 (wk t p).2.2 (cod t p))
def bg (m : Int) (n : Nat) (t : Nat → Int) (p : Nat) : Bool :=
  if m = 0 then decide (p < n) else if m = 1 then bg1 t p else if m = 2 then bg2 n t p else bg3 t p
/-! rows that hold texts -/
def tat (t : Nat → Int) (a : Int) : Int := if a < 0 then -1 else t a.toNat
theorem tat_neg {t : Nat → Int} {a : Int} (h : a < 0) : tat t a = -1 := if_pos h
theorem tat_n (t : Nat → Int) (j : Nat) : tat t (j : Int) = t j := by
  unfold tat
  rw [if_neg (by omega)]
  rfl
theorem tat_ge {n : Nat} {t : Nat → Int} {a : Int} (ht : tx_ok n t) (h : (n : Int) ≤ a) : tat t a = -1 := by
  unfold tat
  rw [if_neg (by omega)]
  exact ht.2 _ (by omega)
theorem tat_rg {n : Nat} {t : Nat → Int} (ht : tx_ok n t) (a : Int) : -1 ≤ tat t a ∧ tat t a < 65536 := by
  unfold tat
  split
  · omega
  · exact tx_ge ht _
def ch (x : Int) : Prop := 0 ≤ x ∧ x < 65536
theorem zcp_in {u v : Nat → Int} {sp dp n k : Nat} (h : dp ≤ k ∧ k < dp + n) : zcp u v sp dp n k = u (sp + (k - dp)) := if_pos h
theorem zcp_out {u v : Nat → Int} {sp dp n k : Nat} (h : ¬ (dp ≤ k ∧ k < dp + n)) : zcp u v sp dp n k = v k := if_neg h
theorem zcp_ch {u v : Nat → Int} {sp dp n n0 n1 : Nat} (hu : ∀ k, k < n0 → 0 ≤ u k ∧ u k < 65536) (hv : ∀ k, k < n1 → 0 ≤ v k ∧ v k < 65536) (hs : sp + n ≤ n0) : ∀ k, k < n1 → 0 ≤ zcp u v sp dp n k ∧ zcp u v sp dp n k < 65536 := by
  intro k hk
  by_cases h : dp ≤ k ∧ k < dp + n
  · rw [zcp_in h]
    exact hu _ (by omega)
  · rw [zcp_out h]
    exact hv k hk
theorem tx_zup {n : Nat} {t : Nat → Int} {c : Int} (h : tx_ok n t) (hc : 0 ≤ c ∧ c < 65536) : tx_ok (n + 1) (zup t n c) := by
  refine ⟨fun i hi => ?_, fun i hi => ?_⟩
  · by_cases h1 : i = n
    · rw [h1, zup_eq]; exact hc
    · rw [zup_ne h1]; exact h.1 i (by omega)
  · rw [zup_ne (by omega)]; exact h.2 i (by omega)
/-- the cut of a row -/
theorem row_cut {u t p : Nat → Int} {n a b : Nat} (hut : ∀ k, k < n → u k = t k) (hab : a ≤ b) (hb : b ≤ n) : ∀ k, k < n - (b - a) → zcp u u b a (n - b) k = tx_ed t a b 0 p k := by
  intro k hk
  unfold tx_ed
  by_cases h : k < a
  · rw [if_pos h, zcp_out (by omega)]
    exact hut k (by omega)
  · rw [if_neg h, if_neg (by omega), zcp_in (by omega), hut _ (by omega)]
    congr 1
    omega
/-- what comes in at a place of a row: its rest moves, then the clip is laid -/
theorem row_put {u v t p : Nat → Int} {n a c : Nat} (hut : ∀ k, k < n → u k = t k) (ha : a ≤ n) (h1 : ∀ k, a ≤ k → k < a + c → v k = p (k - a)) (h2 : ∀ k, ¬ (a ≤ k ∧ k < a + c) → v k = zcp u u a (a + c) (n - a) k) : ∀ k, k < n + c → v k = tx_ed t a a c p k := by
  intro k hk
  unfold tx_ed
  by_cases h : k < a
  · rw [if_pos h, h2 k (by omega), zcp_out (by omega)]
    exact hut k (by omega)
  · rw [if_neg h]
    by_cases h3 : k < a + c
    · rw [if_pos h3]
      exact h1 k (by omega) h3
    · rw [if_neg h3, h2 k (by omega), zcp_in (by omega), hut _ (by omega)]
      congr 1
      omega
theorem tx_ed_ed {t p q : Nat → Int} {a b c : Nat} (hab : a ≤ b) : tx_ed (tx_ed t a b 0 q) a a c p = tx_ed t a b c p := by
  funext k
  unfold tx_ed
  by_cases h : k < a
  · simp [h]
  · by_cases h3 : k < a + c
    · simp [h, h3]
    · rw [if_neg h, if_neg h3, if_neg (by omega), if_neg (by omega), if_neg h, if_neg h3]
      congr 1
      omega
theorem zup_ch {u : Nat → Int} {n cap : Nat} {x : Int} (hu : ∀ k, k < cap → 0 ≤ u k ∧ u k < 65536) (hx : 0 ≤ x ∧ x < 65536) : ∀ k, k < cap → 0 ≤ zup u n x k ∧ zup u n x k < 65536 := by
  intro k hk
  by_cases h9 : k = n
  · rw [h9, zup_eq]; exact hx
  · rw [zup_ne h9]; exact hu k hk
theorem zup_ag {u t : Nat → Int} {n : Nat} {x : Int} (h : ∀ k, k < n → u k = t k) : ∀ k, k < n + 1 → zup u n x k = zup t n x k := by
  intro k hk
  by_cases h9 : k = n
  · rw [h9, zup_eq, zup_eq]
  · rw [zup_ne h9, zup_ne h9]; exact h k (by omega)
/-! a row with a gap: units before gs, and from ge on; g = ge - gs -/
theorem gap_l {u t : Nat → Int} {n gs g a : Nat} (h1 : ∀ k, k < gs → u k = t k) (h2 : ∀ k, gs ≤ k → k < n → u (k + g) = t k) (ha : a < gs) : (∀ k, k < a → zcp u u a (a + g) (gs - a) k = t k) ∧ ∀ k, a ≤ k → k < n → zcp u u a (a + g) (gs - a) (k + g) = t k := by
  refine ⟨fun k hk => ?_, fun k hk hn => ?_⟩
  · rw [zcp_out (by omega)]
    exact h1 k (by omega)
  · by_cases h : k < gs
    · rw [zcp_in (by omega), show a + (k + g - (a + g)) = k by omega]
      exact h1 k h
    · rw [zcp_out (by omega)]
      exact h2 k (by omega) hn
theorem gap_r {u t : Nat → Int} {n gs g a : Nat} (h1 : ∀ k, k < gs → u k = t k) (h2 : ∀ k, gs ≤ k → k < n → u (k + g) = t k) (ha : gs ≤ a) (hn : a ≤ n) : (∀ k, k < a → zcp u u (gs + g) gs (a - gs) k = t k) ∧ ∀ k, a ≤ k → k < n → zcp u u (gs + g) gs (a - gs) (k + g) = t k := by
  refine ⟨fun k hk => ?_, fun k hk hkn => ?_⟩
  · by_cases h : k < gs
    · rw [zcp_out (by omega)]
      exact h1 k h
    · rw [zcp_in (by omega), show gs + g + (k - gs) = k + g by omega]
      exact h2 k (by omega) (by omega)
  · rw [zcp_out (by omega)]
    exact h2 k (by omega) hkn
theorem gap_cut {u t p : Nat → Int} {n g a b : Nat} (h1 : ∀ k, k < a → u k = t k) (h2 : ∀ k, a ≤ k → k < n → u (k + g) = t k) (hab : a ≤ b) (hb : b ≤ n) : (∀ k, k < a → u k = tx_ed t a b 0 p k) ∧ ∀ k, a ≤ k → k < n - (b - a) → u (k + (g + (b - a))) = tx_ed t a b 0 p k := by
  refine ⟨fun k hk => ?_, fun k hk hkn => ?_⟩
  · unfold tx_ed
    rw [if_pos hk]
    exact h1 k hk
  · unfold tx_ed
    rw [if_neg (by omega), if_neg (by omega), show k + (g + (b - a)) = (k - (a + 0) + b) + g by omega]
    exact h2 _ (by omega) (by omega)
theorem gap_put {u v t p : Nat → Int} {n g a c : Nat} (h1 : ∀ k, k < a → u k = t k) (h2 : ∀ k, a ≤ k → k < n → u (k + g) = t k) (hc : c ≤ g) (hv1 : ∀ k, a ≤ k → k < a + c → v k = p (k - a)) (hv2 : ∀ k, ¬ (a ≤ k ∧ k < a + c) → v k = u k) : (∀ k, k < a + c → v k = tx_ed t a a c p k) ∧ ∀ k, a + c ≤ k → k < n + c → v (k + (g - c)) = tx_ed t a a c p k := by
  refine ⟨fun k hk => ?_, fun k hk hkn => ?_⟩
  · unfold tx_ed
    by_cases h : k < a
    · rw [if_pos h, hv2 k (by omega)]
      exact h1 k h
    · rw [if_neg h, if_pos hk]
      exact hv1 k (by omega) hk
  · unfold tx_ed
    rw [if_neg (by omega), if_neg (by omega), hv2 _ (by omega), show k + (g - c) = (k - (a + c) + a) + g by omega]
    exact h2 _ (by omega) (by omega)
