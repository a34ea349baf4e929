/-! PATTERNS: unit 42 is the star -/
def nsc (p : Nat → Int) (i : Nat) : Bool := decide (¬ p i = 42)
def patb (p : Nat → Int) : Nat → Bool
  | 0 => true
  | i + 1 => patb p i && (decide (¬ p i = 42) || (decide (0 < i) && decide (¬ p (i - 1) = 42)))
def pat (c : Nat) (p : Nat → Int) : Bool := decide (0 < c) && patb p c
def pat_ar (p : Nat → Int) (i : Nat) (w s : Nat → Int) : Prop := ∀ k, k < i → nsc p k = true → w (cnt (nsc p) k) = p k ∧ s (cnt (nsc p) k) = b2z (decide (k + 1 < i ∧ p (k + 1) = 42))
theorem patb_k {p : Nat → Int} {i : Nat} (h : patb p i = true) {k : Nat} (hk : k < i) (h4 : p k = 42) : 0 < k ∧ ¬ p (k - 1) = 42 := by
  induction i with
  | zero => omega
  | succ i ih =>
    simp only [patb, Bool.and_eq_true] at h
    rcases Nat.lt_or_ge k i with h1 | h1
    · exact ih h.1 h1
    · have : k = i := by omega
      subst this
      have h2 := h.2
      simp [h4] at h2
      exact h2
theorem nsc_t {p : Nat → Int} {i : Nat} (h : ¬ p i = 42) : nsc p i = true := decide_eq_true h
theorem nsc_f {p : Nat → Int} {i : Nat} (h : p i = 42) : nsc p i = false := decide_eq_false (fun q => q h)
theorem nsc_n {p : Nat → Int} {i : Nat} (h : nsc p i = true) : ¬ p i = 42 := of_decide_eq_true h
theorem pat_pos {p : Nat → Int} {i : Nat} (h : patb p i = true) : cnt (nsc p) i = 0 ↔ i = 0 := by
  constructor
  · intro h1
    rcases Nat.eq_zero_or_pos i with h2 | h2
    · exact h2
    · have h3 : nsc p 0 = true := nsc_t (fun q => absurd (patb_k h h2 q).1 (Nat.lt_irrefl _))
      have := cnt_lt h3 h2
      omega
  · intro h1
    rw [h1]
    rfl
theorem pat_one {p : Nat → Int} {i : Nat} {w s : Nat → Int} (ha : pat_ar p i w s) (h : ¬ p i = 42) : pat_ar p (i + 1) (zup w (cnt (nsc p) i) (p i)) (zup s (cnt (nsc p) i) 0) := by
  intro k hk hn
  rcases Nat.lt_or_ge k i with h1 | h1
  · have h2 := cnt_lt hn h1
    obtain ⟨h3, h4⟩ := ha k h1 hn
    rw [zup_ne (by omega), zup_ne (by omega)]
    refine ⟨h3, h4.trans ?_⟩
    congr 1
    by_cases h5 : k + 1 = i
    · rw [decide_eq_false (by omega), decide_eq_false (by rw [h5]; exact fun q => h q.2)]
    · exact decide_eq_decide.mpr ⟨fun q => ⟨by omega, q.2⟩, fun q => ⟨by omega, q.2⟩⟩
  · have : k = i := by omega
    subst this
    rw [zup_eq, zup_eq]
    exact ⟨rfl, (b2z_f (decide_eq_false (by omega))).symm⟩
theorem pat_star {p : Nat → Int} {i : Nat} {w s : Nat → Int} (ha : pat_ar p i w s) (h : p i = 42) (hi : 0 < i) (h1 : ¬ p (i - 1) = 42) : pat_ar p (i + 1) w (zup s (cnt (nsc p) i - 1) 1) ∧ 0 < cnt (nsc p) i := by
  have hc : cnt (nsc p) i = cnt (nsc p) (i - 1) + 1 := by
    have := cnt_t (nsc_t h1)
    rwa [Nat.sub_add_cancel hi] at this
  refine ⟨fun k hk hn => ?_, by omega⟩
  have hki : k < i := by
    rcases Nat.lt_or_ge k i with h2 | h2
    · exact h2
    · have : k = i := by omega
      rw [this, nsc_f h] at hn
      cases hn
  obtain ⟨h3, h4⟩ := ha k hki hn
  refine ⟨h3, ?_⟩
  by_cases h5 : k = i - 1
  · subst h5
    rw [show cnt (nsc p) i - 1 = cnt (nsc p) (i - 1) by omega, zup_eq, Nat.sub_add_cancel hi]
    exact (b2z_t (decide_eq_true ⟨by omega, h⟩)).symm
  · have h6 := cnt_lt (q := i - 1) hn (by omega)
    rw [zup_ne (by omega)]
    refine h4.trans ?_
    congr 1
    exact decide_eq_decide.mpr ⟨fun q => ⟨by omega, q.2⟩, fun q => ⟨by omega, q.2⟩⟩
theorem pat_prev {p : Nat → Int} {i : Nat} {w s : Nat → Int} (h : patb p i = true) (ha : pat_ar p i w s) (hi : 0 < i) : s (cnt (nsc p) i - 1) = b2z (decide (p (i - 1) = 42)) := by
  by_cases h1 : p (i - 1) = 42
  · obtain ⟨h2, h3⟩ := patb_k h (show i - 1 < i by omega) h1
    have e1 : cnt (nsc p) i = cnt (nsc p) (i - 1) := by
      have := cnt_f (nsc_f h1)
      rwa [Nat.sub_add_cancel hi] at this
    have e2 : cnt (nsc p) (i - 1) = cnt (nsc p) (i - 1 - 1) + 1 := by
      have := cnt_t (nsc_t h3)
      rwa [Nat.sub_add_cancel h2] at this
    have h4 := (ha (i - 1 - 1) (by omega) (nsc_t h3)).2
    rw [show cnt (nsc p) i - 1 = cnt (nsc p) (i - 1 - 1) by omega, h4]
    congr 1
    rw [Nat.sub_add_cancel h2]
    exact decide_eq_decide.mpr ⟨fun q => q.2, fun q => ⟨by omega, q⟩⟩
  · have e1 : cnt (nsc p) i = cnt (nsc p) (i - 1) + 1 := by
      have := cnt_t (nsc_t h1)
      rwa [Nat.sub_add_cancel hi] at this
    have h4 := (ha (i - 1) (by omega) (nsc_t h1)).2
    rw [show cnt (nsc p) i - 1 = cnt (nsc p) (i - 1) by omega, h4, decide_eq_false (by omega), decide_eq_false h1]
theorem patb_one {p : Nat → Int} {i : Nat} (h : patb p i = true) (h4 : ¬ p i = 42) : patb p (i + 1) = true := by simp [patb, h, h4]
theorem patb_star {p : Nat → Int} {i : Nat} (h : patb p i = true) (hi : 0 < i) (h1 : ¬ p (i - 1) = 42) : patb p (i + 1) = true := by simp [patb, h, hi, h1]
theorem patb_bad {p : Nat → Int} {i : Nat} (h4 : p i = 42) (h : i = 0 ∨ p (i - 1) = 42) : patb p (i + 1) = false := by
  rcases h with h | h
  · subst h
    simp [patb, h4]
  · simp [patb, h4, h]
theorem patb_mono {p : Nat → Int} {i : Nat} (h : patb p i = false) : ∀ c, i ≤ c → patb p c = false := by
  intro c hc
  induction c with
  | zero =>
    have : i = 0 := by omega
    rwa [this] at h
  | succ c ih =>
    rcases Nat.lt_or_ge i (c + 1) with h1 | h1
    · simp [patb, ih (by omega)]
    · have : i = c + 1 := by omega
      rwa [this] at h
/-! WHERE A PATTERN MATCHES TO: rrow is the row for a place P with the unit u, over the row of the next place -/
def stn (w u : Int) : Bool := if w = 46 then decide (¬ u = -1) && (decide (¬ u = 10) && decide (¬ u = 13)) else decide (u = w)
def rrow (E : Nat) (w : Nat → Int) (s : Nat → Bool) (P u : Int) (prev : Nat → Int) : Nat → Int
  | 0 => P
  | m + 1 => if s (E - (m + 1)) then max (if stn (w (E - (m + 1))) u then prev (m + 1) else -1) (rrow E w s P u prev m) else if stn (w (E - (m + 1))) u then prev m else -1
def rmt (E : Nat) (w : Nat → Int) (s : Nat → Bool) (n : Nat) (t : Nat → Int) : Nat → Nat → Int
  | 0 => rrow E w s (n : Int) (t n) (fun _ => -1)
  | d + 1 => rrow E w s ((n - (d + 1) : Nat) : Int) (t (n - (d + 1))) (rmt E w s n t d)
theorem stn_none {w : Int} (h : 0 ≤ w) : stn w (-1) = false := by
  unfold stn
  split
  · simp
  · simp; omega
theorem rrow_congr {E : Nat} {w w' : Nat → Int} {s s' : Nat → Bool} {P u : Int} {prev prev' : Nat → Int} (hw : ∀ e, e < E → w e = w' e) (hs : ∀ e, e < E → s e = s' e) : ∀ m, m ≤ E → (∀ e, e < E → stn (w e) u = true → ∀ m, m ≤ E → prev m = prev' m) → rrow E w s P u prev m = rrow E w' s' P u prev' m := by
  intro m hm hp
  induction m with
  | zero => rfl
  | succ m ih =>
    unfold rrow
    rw [ih (by omega), ← hs _ (show E - (m + 1) < E by omega), ← hw _ (show E - (m + 1) < E by omega)]
    by_cases hk : stn (w (E - (m + 1))) u = true
    · rw [hp _ (by omega) hk (m + 1) hm, hp _ (by omega) hk m (by omega)]
    · simp [hk]
theorem rrow_rg {E : Nat} {w : Nat → Int} {s : Nat → Bool} {P u : Int} {prev : Nat → Int} (hP : 0 ≤ P ∧ P ≤ 160) (hp : ∀ e, e < E → stn (w e) u = true → ∀ m, m ≤ E → -1 ≤ prev m ∧ prev m ≤ 160) : ∀ m, m ≤ E → -1 ≤ rrow E w s P u prev m ∧ rrow E w s P u prev m ≤ 160 := by
  intro m hm
  induction m with
  | zero => unfold rrow; omega
  | succ m ih =>
    have h1 := ih (by omega)
    unfold rrow
    by_cases hk : stn (w (E - (m + 1))) u = true
    · have h2 := hp _ (by omega) hk (m + 1) hm
      have h3 := hp _ (by omega) hk m (by omega)
      simp only [hk, if_true]
      split <;> omega
    · simp only [hk]
      split
      · simp; omega
      · simp
theorem rmt_rg {E : Nat} {w : Nat → Int} {s : Nat → Bool} {n : Nat} {t : Nat → Int} (hn : n ≤ 160) : ∀ d m, m ≤ E → -1 ≤ rmt E w s n t d m ∧ rmt E w s n t d m ≤ 160 := by
  intro d
  induction d with
  | zero =>
    intro m hm
    unfold rmt
    exact rrow_rg (by omega) (fun _ _ _ _ _ => by omega) m hm
  | succ d ih =>
    intro m hm
    unfold rmt
    exact rrow_rg (by omega) (fun _ _ _ m hm => ih m hm) m hm
theorem rmt_congr {E : Nat} {w w' : Nat → Int} {s s' : Nat → Bool} {n : Nat} {t : Nat → Int} (hw : ∀ e, e < E → w e = w' e) (hs : ∀ e, e < E → s e = s' e) : ∀ d m, m ≤ E → rmt E w s n t d m = rmt E w' s' n t d m := by
  intro d
  induction d with
  | zero =>
    intro m hm
    unfold rmt
    exact rrow_congr hw hs m hm (fun _ _ _ _ _ => rfl)
  | succ d ih =>
    intro m hm
    unfold rmt
    exact rrow_congr hw hs m hm (fun _ _ _ m hm => ih m hm)
/-- the first place, going on from the text's end, and where the match from it goes to -/
def ffd (E : Nat) (w : Nat → Int) (s : Nat → Bool) (n : Nat) (t : Nat → Int) (e0 : Int) : Nat → Int × Int
  | 0 => (-1, e0)
  | d + 1 => if rmt E w s n t d E = -1 then ffd E w s n t e0 d else (((n - d : Nat) : Int), rmt E w s n t d E)
theorem ffd_congr {E : Nat} {w w' : Nat → Int} {s s' : Nat → Bool} {n : Nat} {t : Nat → Int} {e0 : Int} (hw : ∀ e, e < E → w e = w' e) (hs : ∀ e, e < E → s e = s' e) (d : Nat) : ffd E w s n t e0 d = ffd E w' s' n t e0 d := by
  induction d with
  | zero => rfl
  | succ d ih =>
    unfold ffd
    rw [rmt_congr hw hs d E (Nat.le_refl _), ih]
/-- the elements of a pattern of c units -/
def el_w (c : Nat) (p : Nat → Int) (e : Nat) : Int := p (nthp (nsc p) c e).toNat
def el_s (c : Nat) (p : Nat → Int) (e : Nat) : Bool := decide (p ((nthp (nsc p) c e).toNat + 1) = 42)
theorem pat_el {c : Nat} {p w s : Nat → Int} (hp : tx_ok c p) (ha : pat_ar p c w s) {e : Nat} (he : e < cnt (nsc p) c) : w e = el_w c p e ∧ s e = b2z (el_s c p e) := by
  obtain ⟨k, k1, k2, k3⟩ := cnt_at he
  have h1 : nthp (nsc p) c e = (k : Int) := by
    have h2 : ∀ q f, sel (nsc p) q f → k < q → f (cnt (nsc p) k) = (k : Int) := fun q f hf hq => hf k hq k2
    have hs : sel (nsc p) c (fun j => nthp (nsc p) c j) := by
      intro q hq hb
      have h3 : ∀ r, q < r → nthp (nsc p) r (cnt (nsc p) q) = (q : Int) := by
        intro r hr
        induction r with
        | zero => omega
        | succ r ih =>
          unfold nthp
          by_cases h4 : q = r
          · rw [← h4, if_pos ⟨hb, rfl⟩]
          · rw [if_neg (fun z => by have := cnt_lt hb (show q < r by omega); omega)]
            exact ih (by omega)
      exact h3 c hq
    rw [← k3]
    exact h2 c _ hs k1
  obtain ⟨h5, h6⟩ := ha k k1 k2
  rw [k3] at h5 h6
  unfold el_w el_s
  rw [h1]
  refine ⟨h5, h6.trans ?_⟩
  congr 1
  refine decide_eq_decide.mpr ⟨fun q => q.2, fun q => ⟨?_, q⟩⟩
  rcases Nat.lt_or_ge (k + 1) c with h7 | h7
  · exact h7
  · have := hp.2 (k + 1) h7
    have q' : p (k + 1) = 42 := q
    omega
/-- what find answers, and what end answers behind it -/
def fd (c : Nat) (p : Nat → Int) (n : Nat) (t : Nat → Int) (e0 : Int) (a : Nat) : Int × Int := if pat c p then ffd (cnt (nsc p) c) (el_w c p) (el_s c p) n t e0 (n - a + 1) else (-1, e0)
