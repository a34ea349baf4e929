/-! the reference's way to a match: the places that the first e elements reach from a -/
def stc (f : Nat → Bool) (w : Int) (t : Nat → Int) (a : Nat) : Nat → Bool
  | 0 => f 0
  | q + 1 => f (q + 1) || (decide (a ≤ q) && (stc f w t a q && stn w (t q)))
def sht (f : Nat → Bool) (w : Int) (t : Nat → Int) (a : Nat) : Nat → Bool
  | 0 => false
  | q + 1 => decide (a ≤ q) && (f q && stn w (t q))
def Fw (w : Nat → Int) (s : Nat → Bool) (t : Nat → Int) (a : Nat) : Nat → Nat → Bool
  | 0 => fun q => decide (q = a)
  | e + 1 => if s e then stc (Fw w s t a e) (w e) t a else sht (Fw w s t a e) (w e) t a
theorem stc_ge {f : Nat → Bool} {w : Int} {t : Nat → Int} {a : Nat} (hf : ∀ q, f q = true → a ≤ q) : ∀ q, stc f w t a q = true → a ≤ q := by
  intro q h
  cases q with
  | zero => exact hf 0 h
  | succ q =>
    simp only [stc, Bool.or_eq_true, Bool.and_eq_true, decide_eq_true_eq] at h
    rcases h with h | h
    · exact hf _ h
    · omega
theorem Fw_ge {w : Nat → Int} {s : Nat → Bool} {t : Nat → Int} {a : Nat} : ∀ e q, Fw w s t a e q = true → a ≤ q := by
  intro e
  induction e with
  | zero =>
    intro q h
    have : q = a := of_decide_eq_true h
    omega
  | succ e ih =>
    intro q h
    unfold Fw at h
    split at h
    · exact stc_ge ih q h
    · cases q with
      | zero => simp [sht] at h
      | succ q =>
        simp only [sht, Bool.and_eq_true, decide_eq_true_eq] at h
        omega
section RM
variable {E n : Nat} {w : Nat → Int} {s : Nat → Bool} {t : Nat → Int}
theorem rmt_0 {q : Nat} (hq : q ≤ n) : rmt E w s n t (n - q) 0 = (q : Int) := by
  rcases Nat.lt_or_ge q n with h | h
  · obtain ⟨d, hd⟩ : ∃ d, n - q = d + 1 := ⟨n - q - 1, by omega⟩
    rw [hd]
    show ((n - (d + 1) : Nat) : Int) = _
    omega
  · rw [show n - q = 0 by omega]
    show (n : Int) = _
    omega
theorem rmt_step (ht : tx_ok n t) (hw : ∀ e, e < E → 0 ≤ w e) {q e : Nat} (hq : q ≤ n) (he : e < E) : rmt E w s n t (n - q) (E - e) = if s e then max (if q < n ∧ stn (w e) (t q) = true then rmt E w s n t (n - (q + 1)) (E - e) else -1) (rmt E w s n t (n - q) (E - (e + 1))) else if q < n ∧ stn (w e) (t q) = true then rmt E w s n t (n - (q + 1)) (E - (e + 1)) else -1 := by
  obtain ⟨m, hm⟩ : ∃ m, E - e = m + 1 := ⟨E - e - 1, by omega⟩
  have hm1 : E - (e + 1) = m := by omega
  have hm2 : E - (m + 1) = e := by omega
  rw [hm, hm1]
  rcases Nat.lt_or_ge q n with h | h
  · obtain ⟨d, hd⟩ : ∃ d, n - q = d + 1 := ⟨n - q - 1, by omega⟩
    rw [hd, show n - (q + 1) = d by omega]
    rw [rmt, rrow, hm2, show n - (d + 1) = q by omega]
    simp [h]
  · have hqn : q = n := by omega
    subst hqn
    rw [Nat.sub_self, show q - (q + 1) = 0 by omega]
    rw [rmt, rrow, hm2, ht.2 q (Nat.le_refl _), stn_none (hw e he)]
    simp
theorem le_star (ht : tx_ok n t) (hw : ∀ e, e < E → 0 ≤ w e) {q e : Nat} (hq : q ≤ n) (he : e < E) (hs : s e = true) {v : Int} (hv : 0 ≤ v) : v ≤ rmt E w s n t (n - q) (E - e) ↔ v ≤ rmt E w s n t (n - q) (E - (e + 1)) ∨ (q < n ∧ stn (w e) (t q) = true ∧ v ≤ rmt E w s n t (n - (q + 1)) (E - e)) := by
  have h := rmt_step (s := s) ht hw hq he
  rw [hs, if_pos rfl] at h
  by_cases hc : q < n ∧ stn (w e) (t q) = true
  · rw [if_pos hc] at h
    constructor
    · intro h1
      rw [h] at h1
      have : v ≤ rmt E w s n t (n - (q + 1)) (E - e) ∨ v ≤ rmt E w s n t (n - q) (E - (e + 1)) := by omega
      rcases this with h2 | h2
      · exact Or.inr ⟨hc.1, hc.2, h2⟩
      · exact Or.inl h2
    · intro h1
      rw [h]
      rcases h1 with h2 | ⟨-, -, h2⟩ <;> omega
  · rw [if_neg hc] at h
    constructor
    · intro h1
      rw [h] at h1
      exact Or.inl (by omega)
    · intro h1
      rw [h]
      rcases h1 with h2 | ⟨h3, h4, -⟩
      · omega
      · exact absurd ⟨h3, h4⟩ hc
theorem le_one (ht : tx_ok n t) (hw : ∀ e, e < E → 0 ≤ w e) {q e : Nat} (hq : q ≤ n) (he : e < E) (hs : s e = false) {v : Int} (hv : 0 ≤ v) : v ≤ rmt E w s n t (n - q) (E - e) ↔ (q < n ∧ stn (w e) (t q) = true ∧ v ≤ rmt E w s n t (n - (q + 1)) (E - (e + 1))) := by
  have h := rmt_step (s := s) ht hw hq he
  rw [hs, if_neg (by decide)] at h
  by_cases hc : q < n ∧ stn (w e) (t q) = true
  · rw [if_pos hc] at h
    rw [h]
    exact ⟨fun h1 => ⟨hc.1, hc.2, h1⟩, fun h1 => h1.2.2⟩
  · rw [if_neg hc] at h
    rw [h]
    exact ⟨fun h1 => by omega, fun h1 => absurd ⟨h1.1, h1.2.1⟩ hc⟩
/-- the greatest place reached stays the same from element to element -/
theorem S_step (ht : tx_ok n t) (hw : ∀ e, e < E → 0 ≤ w e) {a e : Nat} (he : e < E) {v : Int} (hv : 0 ≤ v) : (∃ q, q ≤ n ∧ Fw w s t a e q = true ∧ v ≤ rmt E w s n t (n - q) (E - e)) ↔ ∃ q, q ≤ n ∧ Fw w s t a (e + 1) q = true ∧ v ≤ rmt E w s n t (n - q) (E - (e + 1)) := by
  cases hs : s e with
  | false =>
    have hF : Fw w s t a (e + 1) = sht (Fw w s t a e) (w e) t a := by
      rw [Fw, hs]
      rfl
    rw [hF]
    constructor
    · rintro ⟨q, q1, q2, q3⟩
      obtain ⟨r1, r2, r3⟩ := (le_one ht hw q1 he hs hv).mp q3
      refine ⟨q + 1, by omega, ?_, r3⟩
      simp only [sht, Bool.and_eq_true, decide_eq_true_eq]
      exact ⟨Fw_ge e q q2, q2, r2⟩
    · rintro ⟨q, q1, q2, q3⟩
      cases q with
      | zero => simp [sht] at q2
      | succ q =>
        simp only [sht, Bool.and_eq_true, decide_eq_true_eq] at q2
        exact ⟨q, by omega, q2.2.1, (le_one ht hw (by omega) he hs hv).mpr ⟨by omega, q2.2.2, q3⟩⟩
  | true =>
    have hF : Fw w s t a (e + 1) = stc (Fw w s t a e) (w e) t a := by
      rw [Fw, hs]
      rfl
    rw [hF]
    constructor
    · rintro ⟨q, q1, q2, q3⟩
      have key : ∀ d q, n - q ≤ d → q ≤ n → stc (Fw w s t a e) (w e) t a q = true → v ≤ rmt E w s n t (n - q) (E - e) → ∃ q, q ≤ n ∧ stc (Fw w s t a e) (w e) t a q = true ∧ v ≤ rmt E w s n t (n - q) (E - (e + 1)) := by
        intro d
        induction d with
        | zero =>
          intro q h1 h2 h3 h4
          rcases (le_star ht hw h2 he hs hv).mp h4 with h5 | ⟨h5, -, -⟩
          · exact ⟨q, h2, h3, h5⟩
          · omega
        | succ d ih =>
          intro q h1 h2 h3 h4
          rcases (le_star ht hw h2 he hs hv).mp h4 with h5 | ⟨h5, h6, h7⟩
          · exact ⟨q, h2, h3, h5⟩
          · refine ih (q + 1) (by omega) (by omega) ?_ h7
            have := stc_ge (Fw_ge e) q h3
            simp only [stc, Bool.or_eq_true, Bool.and_eq_true, decide_eq_true_eq]
            exact Or.inr ⟨this, h3, h6⟩
      refine key (n - q) q (Nat.le_refl _) q1 ?_ q3
      cases q with
      | zero => exact q2
      | succ q =>
        simp only [stc, Bool.or_eq_true]
        exact Or.inl q2
    · rintro ⟨q, q1, q2, q3⟩
      have key : ∀ q, q ≤ n → stc (Fw w s t a e) (w e) t a q = true → v ≤ rmt E w s n t (n - q) (E - e) → ∃ q, q ≤ n ∧ Fw w s t a e q = true ∧ v ≤ rmt E w s n t (n - q) (E - e) := by
        intro q
        induction q with
        | zero => exact fun h1 h2 h3 => ⟨0, h1, h2, h3⟩
        | succ q ih =>
          intro h1 h2 h3
          simp only [stc, Bool.or_eq_true, Bool.and_eq_true, decide_eq_true_eq] at h2
          rcases h2 with h2 | ⟨h4, h5, h6⟩
          · exact ⟨q + 1, h1, h2, h3⟩
          · exact ih (by omega) h5 ((le_star ht hw (by omega) he hs hv).mpr (Or.inr ⟨by omega, h6, h3⟩))
      exact key q q1 q2 ((le_star ht hw q1 he hs hv).mpr (Or.inl q3))
theorem S_all (ht : tx_ok n t) (hw : ∀ e, e < E → 0 ≤ w e) {a : Nat} (ha : a ≤ n) {v : Int} (hv : 0 ≤ v) : v ≤ rmt E w s n t (n - a) E ↔ ∃ q, q ≤ n ∧ Fw w s t a E q = true ∧ v ≤ (q : Int) := by
  have h0 : ∀ e, e ≤ E → (v ≤ rmt E w s n t (n - a) E ↔ ∃ q, q ≤ n ∧ Fw w s t a e q = true ∧ v ≤ rmt E w s n t (n - q) (E - e)) := by
    intro e
    induction e with
    | zero =>
      intro _
      constructor
      · exact fun h => ⟨a, ha, decide_eq_true rfl, h⟩
      · rintro ⟨q, q1, q2, q3⟩
        have : q = a := of_decide_eq_true q2
        rwa [this] at q3
    | succ e ih =>
      intro he
      exact (ih (by omega)).trans (S_step ht hw (by omega) hv)
  rw [h0 E (Nat.le_refl _), Nat.sub_self]
  constructor
  · rintro ⟨q, q1, q2, q3⟩
    rw [rmt_0 q1] at q3
    exact ⟨q, q1, q2, q3⟩
  · rintro ⟨q, q1, q2, q3⟩
    exact ⟨q, q1, q2, by rw [rmt_0 q1]; exact q3⟩
/-- the reference's end: the greatest place reached, or -1 -/
theorem end_some (hn : n ≤ 160) (ht : tx_ok n t) (hw : ∀ e, e < E → 0 ≤ w e) {a q : Nat} (ha : a ≤ n) (hq : q ≤ n) (h : Fw w s t a E q = true) (hg : ∀ x, q < x → x ≤ n → Fw w s t a E x = false) : (q : Int) = rmt E w s n t (n - a) E := by
  have h1 := (S_all (s := s) ht hw ha (show (0 : Int) ≤ (q : Int) by omega)).mpr ⟨q, hq, h, Int.le_refl _⟩
  obtain ⟨x, x1, x2, x3⟩ := (S_all (s := s) ht hw ha (show (0 : Int) ≤ rmt E w s n t (n - a) E by omega)).mp (Int.le_refl _)
  rcases Nat.lt_or_ge q x with h2 | h2
  · rw [hg x h2 x1] at x2
    cases x2
  · omega
theorem end_none (hn : n ≤ 160) (ht : tx_ok n t) (hw : ∀ e, e < E → 0 ≤ w e) {a : Nat} (ha : a ≤ n) (hg : ∀ x, a ≤ x → x ≤ n → Fw w s t a E x = false) : (-1 : Int) = rmt E w s n t (n - a) E := by
  have h1 := (rmt_rg (w := w) (s := s) (t := t) (E := E) hn (n - a) E (Nat.le_refl _)).1
  rcases Int.lt_or_le (rmt E w s n t (n - a) E) 0 with h2 | h2
  · omega
  · obtain ⟨x, x1, x2, x3⟩ := (S_all (s := s) ht hw ha h2).mp (Int.le_refl _)
    rw [hg x (Fw_ge E x x2) x1] at x2
    cases x2
end RM
theorem nthp_at {B : Nat → Bool} {c k : Nat} (hk : k < c) (hb : B k = true) : nthp B c (cnt B k) = (k : Int) := by
  induction c with
  | zero => omega
  | succ c ih =>
    unfold nthp
    by_cases h4 : k = c
    · rw [← h4, if_pos ⟨hb, rfl⟩]
    · rw [if_neg (fun z => by have := cnt_lt hb (show k < c by omega); omega)]
      exact ih (by omega)
theorem el_at {c k : Nat} {p : Nat → Int} (hk : k < c) (h : ¬ p k = 42) : el_w c p (cnt (nsc p) k) = p k ∧ el_s c p (cnt (nsc p) k) = decide (p (k + 1) = 42) := by
  unfold el_w el_s
  rw [nthp_at hk (nsc_t h)]
  exact ⟨rfl, rfl⟩
theorem el_pos {c : Nat} {p : Nat → Int} (hp : tx_ok c p) : ∀ e, e < cnt (nsc p) c → 0 ≤ el_w c p e := by
  intro e he
  obtain ⟨k, k1, k2, k3⟩ := cnt_at he
  rw [← k3, (el_at k1 (nsc_n k2)).1]
  exact (hp.1 k k1).1
