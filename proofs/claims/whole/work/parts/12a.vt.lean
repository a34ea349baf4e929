/-! VersionedText: its cell 0; the text 1, the clip 3, versions 5, kept 6, the snapshots 7 .. 14, History 15, Items 35, Search 38: 42 cells -/
def vix (j : Nat) : Nat := if j = 0 then 1 else 5 + 2 * j
def vfun (G : lx_G) : Nat → Option Nat := fun j => some (ad (g_b G) (vix j))
def VT (G : lx_G) (h : Nat → va_E) (n : Nat) (t : Nat → Int) (now last : Nat) (T : Nat → tx_T) (c : Nat) (p : Nat → Int) (kp : Nat → Bool) (V : Nat → tx_T) (g o en : Int) : Prop :=
  h 0 = ob ci_VT [.ref (ad (g_b G) 1), .ref (ad (g_b G) 3), .ref (ad (g_b G) 5), .ref (ad (g_b G) 6), .ref (ad (g_b G) 15), .ref (ad (g_b G) 35), .ref (ad (g_b G) 38), vI g, vI o] ∧ Tx G h 1 n t ∧ Rw G h 3 24 c p ∧ h 5 = cT G 5 (vfun G) ∧ (∃ ku : Nat → Int, h 6 = rZ G 5 ku ∧ ku 0 = 1 ∧ ∀ j, 1 ≤ j → j ≤ 4 → ku j = b2z (kp j)) ∧ (∀ j, 1 ≤ j → j ≤ 4 → kp j = true → Rw G h (5 + 2 * j) 160 (V j).1 (V j).2) ∧ (∀ j, 1 ≤ j → j ≤ 4 → ∃ n t, Rw G h (5 + 2 * j) 160 n t) ∧ Hist G h 15 now last T ∧ Its G h 35 ∧ Sea G h 38 en ∧ (g = 0 ∨ g = 1 ∨ g = 3) ∧ (-1 ≤ o ∧ o ≤ 161)
theorem VT.fr {G : lx_G} {h h' : Nat → va_E} {n : Nat} {t : Nat → Int} {now last : Nat} {T : Nat → tx_T} {c : Nat} {p : Nat → Int} {kp : Nat → Bool} {V : Nat → tx_T} {g o en : Int} (hV : VT G h n t now last T c p kp V g o en)  (hf : ∀ q, q < 42 → h' q = h q) : VT G h' n t now last T c p kp V g o en := by
  obtain ⟨h0, h1, h2, h3, h4, h5, h6, h7, h8, h9, h10, h11⟩ := hV
  exact ⟨(hf 0 (by omega)).trans h0, h1.fr (hf _ (by omega)) (hf _ (by omega)), h2.fr (hf _ (by omega)) (hf _ (by omega)), (hf 5 (by omega)).trans h3, (by obtain ⟨ku, k1, k2⟩ := h4; exact ⟨ku, (hf 6 (by omega)).trans k1, k2⟩), fun j j1 j2 j3 => (h5 j j1 j2 j3).fr (hf _ (by omega)) (hf _ (by omega)), fun j j1 j2 => (by obtain ⟨n9, t9, h9⟩ := h6 j j1 j2; exact ⟨n9, t9, h9.fr (hf _ (by omega)) (hf _ (by omega))⟩), h7.fr (fun q q1 q2 => hf q (by omega)), h8.fr (fun q q1 q2 => hf q (by omega)), h9.fr (fun q q1 q2 => hf q (by omega)), h10, h11⟩
theorem VT.items {G : lx_G} {h h' : Nat → va_E} {n : Nat} {t : Nat → Int} {now last : Nat} {T : Nat → tx_T} {c : Nat} {p : Nat → Int} {kp : Nat → Bool} {V : Nat → tx_T} {g o en : Int} (hV : VT G h n t now last T c p kp V g o en) (hN : Its G h' 35) (hf : ∀ q, (q < 35 ∨ 38 ≤ q) → h' q = h q) : VT G h' n t now last T c p kp V g o en := by
  obtain ⟨h0, h1, h2, h3, h4, h5, h6, h7, h8, h9, h10, h11⟩ := hV
  exact ⟨(hf 0 (by omega)).trans h0, h1.fr (hf _ (by omega)) (hf _ (by omega)), h2.fr (hf _ (by omega)) (hf _ (by omega)), (hf 5 (by omega)).trans h3, (by obtain ⟨ku, k1, k2⟩ := h4; exact ⟨ku, (hf 6 (by omega)).trans k1, k2⟩), fun j j1 j2 j3 => (h5 j j1 j2 j3).fr (hf _ (by omega)) (hf _ (by omega)), fun j j1 j2 => (by obtain ⟨n9, t9, h9⟩ := h6 j j1 j2; exact ⟨n9, t9, h9.fr (hf _ (by omega)) (hf _ (by omega))⟩), h7.fr (fun q q1 q2 => hf q (by omega)), hN, h9.fr (fun q q1 q2 => hf q (by omega)), h10, h11⟩
theorem VT.sea {G : lx_G} {h h' : Nat → va_E} {n : Nat} {t : Nat → Int} {now last : Nat} {T : Nat → tx_T} {c : Nat} {p : Nat → Int} {kp : Nat → Bool} {V : Nat → tx_T} {g o en : Int} (hV : VT G h n t now last T c p kp V g o en) {en' : Int} (hN : Sea G h' 38 en') (hf : ∀ q, (q < 38 ∨ 42 ≤ q) → h' q = h q) : VT G h' n t now last T c p kp V g o en' := by
  obtain ⟨h0, h1, h2, h3, h4, h5, h6, h7, h8, h9, h10, h11⟩ := hV
  exact ⟨(hf 0 (by omega)).trans h0, h1.fr (hf _ (by omega)) (hf _ (by omega)), h2.fr (hf _ (by omega)) (hf _ (by omega)), (hf 5 (by omega)).trans h3, (by obtain ⟨ku, k1, k2⟩ := h4; exact ⟨ku, (hf 6 (by omega)).trans k1, k2⟩), fun j j1 j2 j3 => (h5 j j1 j2 j3).fr (hf _ (by omega)) (hf _ (by omega)), fun j j1 j2 => (by obtain ⟨n9, t9, h9⟩ := h6 j j1 j2; exact ⟨n9, t9, h9.fr (hf _ (by omega)) (hf _ (by omega))⟩), h7.fr (fun q q1 q2 => hf q (by omega)), h8.fr (fun q q1 q2 => hf q (by omega)), hN, h10, h11⟩
theorem VT.clip {G : lx_G} {h h' : Nat → va_E} {n : Nat} {t : Nat → Int} {now last : Nat} {T : Nat → tx_T} {c : Nat} {p : Nat → Int} {kp : Nat → Bool} {V : Nat → tx_T} {g o en : Int} (hV : VT G h n t now last T c p kp V g o en) {c' : Nat} {p' : Nat → Int} (hN : Rw G h' 3 24 c' p') (hf : ∀ q, (q < 3 ∨ 5 ≤ q) → h' q = h q) : VT G h' n t now last T c' p' kp V g o en := by
  obtain ⟨h0, h1, h2, h3, h4, h5, h6, h7, h8, h9, h10, h11⟩ := hV
  exact ⟨(hf 0 (by omega)).trans h0, h1.fr (hf _ (by omega)) (hf _ (by omega)), hN, (hf 5 (by omega)).trans h3, (by obtain ⟨ku, k1, k2⟩ := h4; exact ⟨ku, (hf 6 (by omega)).trans k1, k2⟩), fun j j1 j2 j3 => (h5 j j1 j2 j3).fr (hf _ (by omega)) (hf _ (by omega)), fun j j1 j2 => (by obtain ⟨n9, t9, h9⟩ := h6 j j1 j2; exact ⟨n9, t9, h9.fr (hf _ (by omega)) (hf _ (by omega))⟩), h7.fr (fun q q1 q2 => hf q (by omega)), h8.fr (fun q q1 q2 => hf q (by omega)), h9.fr (fun q q1 q2 => hf q (by omega)), h10, h11⟩
theorem VT.text {G : lx_G} {h h' : Nat → va_E} {n : Nat} {t : Nat → Int} {now last : Nat} {T : Nat → tx_T} {c : Nat} {p : Nat → Int} {kp : Nat → Bool} {V : Nat → tx_T} {g o en : Int} (hV : VT G h n t now last T c p kp V g o en) {n' : Nat} {t' : Nat → Int} (hN : Tx G h' 1 n' t') (hf : ∀ q, (q < 1 ∨ 3 ≤ q) → h' q = h q) : VT G h' n' t' now last T c p kp V g o en := by
  obtain ⟨h0, h1, h2, h3, h4, h5, h6, h7, h8, h9, h10, h11⟩ := hV
  exact ⟨(hf 0 (by omega)).trans h0, hN, h2.fr (hf _ (by omega)) (hf _ (by omega)), (hf 5 (by omega)).trans h3, (by obtain ⟨ku, k1, k2⟩ := h4; exact ⟨ku, (hf 6 (by omega)).trans k1, k2⟩), fun j j1 j2 j3 => (h5 j j1 j2 j3).fr (hf _ (by omega)) (hf _ (by omega)), fun j j1 j2 => (by obtain ⟨n9, t9, h9⟩ := h6 j j1 j2; exact ⟨n9, t9, h9.fr (hf _ (by omega)) (hf _ (by omega))⟩), h7.fr (fun q q1 q2 => hf q (by omega)), h8.fr (fun q q1 q2 => hf q (by omega)), h9.fr (fun q q1 q2 => hf q (by omega)), h10, h11⟩
theorem VT.hist {G : lx_G} {h h' : Nat → va_E} {n : Nat} {t : Nat → Int} {now last : Nat} {T : Nat → tx_T} {c : Nat} {p : Nat → Int} {kp : Nat → Bool} {V : Nat → tx_T} {g o en : Int} (hV : VT G h n t now last T c p kp V g o en) {now' last' : Nat} {T' : Nat → tx_T} (hN : Hist G h' 15 now' last' T') (hf : ∀ q, (q < 15 ∨ 35 ≤ q) → h' q = h q) : VT G h' n t now' last' T' c p kp V g o en := by
  obtain ⟨h0, h1, h2, h3, h4, h5, h6, h7, h8, h9, h10, h11⟩ := hV
  exact ⟨(hf 0 (by omega)).trans h0, h1.fr (hf _ (by omega)) (hf _ (by omega)), h2.fr (hf _ (by omega)) (hf _ (by omega)), (hf 5 (by omega)).trans h3, (by obtain ⟨ku, k1, k2⟩ := h4; exact ⟨ku, (hf 6 (by omega)).trans k1, k2⟩), fun j j1 j2 j3 => (h5 j j1 j2 j3).fr (hf _ (by omega)) (hf _ (by omega)), fun j j1 j2 => (by obtain ⟨n9, t9, h9⟩ := h6 j j1 j2; exact ⟨n9, t9, h9.fr (hf _ (by omega)) (hf _ (by omega))⟩), hN, h8.fr (fun q q1 q2 => hf q (by omega)), h9.fr (fun q q1 q2 => hf q (by omega)), h10, h11⟩
theorem VT.both {G : lx_G} {h h' : Nat → va_E} {n : Nat} {t : Nat → Int} {now last : Nat} {T : Nat → tx_T} {c : Nat} {p : Nat → Int} {kp : Nat → Bool} {V : Nat → tx_T} {g o en : Int} (hV : VT G h n t now last T c p kp V g o en) {n' : Nat} {t' : Nat → Int} {now' last' : Nat} {T' : Nat → tx_T} (hN1 : Tx G h' 1 n' t') (hN : Hist G h' 15 now' last' T') (hf : ∀ q, ((q < 1 ∨ 3 ≤ q) ∧ (q < 15 ∨ 35 ≤ q)) → h' q = h q) : VT G h' n' t' now' last' T' c p kp V g o en := by
  obtain ⟨h0, h1, h2, h3, h4, h5, h6, h7, h8, h9, h10, h11⟩ := hV
  exact ⟨(hf 0 (by omega)).trans h0, hN1, h2.fr (hf _ (by omega)) (hf _ (by omega)), (hf 5 (by omega)).trans h3, (by obtain ⟨ku, k1, k2⟩ := h4; exact ⟨ku, (hf 6 (by omega)).trans k1, k2⟩), fun j j1 j2 j3 => (h5 j j1 j2 j3).fr (hf _ (by omega)) (hf _ (by omega)), fun j j1 j2 => (by obtain ⟨n9, t9, h9⟩ := h6 j j1 j2; exact ⟨n9, t9, h9.fr (hf _ (by omega)) (hf _ (by omega))⟩), hN, h8.fr (fun q q1 q2 => hf q (by omega)), h9.fr (fun q q1 q2 => hf q (by omega)), h10, h11⟩
theorem VT.obj {G : lx_G} {h h' : Nat → va_E} {n : Nat} {t : Nat → Int} {now last : Nat} {T : Nat → tx_T} {c : Nat} {p : Nat → Int} {kp : Nat → Bool} {V : Nat → tx_T} {g o en : Int} (hV : VT G h n t now last T c p kp V g o en) {g' o' : Int} (hN : h' 0 = ob ci_VT [.ref (ad (g_b G) 1), .ref (ad (g_b G) 3), .ref (ad (g_b G) 5), .ref (ad (g_b G) 6), .ref (ad (g_b G) 15), .ref (ad (g_b G) 35), .ref (ad (g_b G) 38), vI g', vI o']) (hg : g' = 0 ∨ g' = 1 ∨ g' = 3) (ho : -1 ≤ o' ∧ o' ≤ 161) (hf : ∀ q, ¬ q = 0 → h' q = h q) : VT G h' n t now last T c p kp V g' o' en := by
  obtain ⟨h0, h1, h2, h3, h4, h5, h6, h7, h8, h9, h10, h11⟩ := hV
  exact ⟨hN, h1.fr (hf _ (by omega)) (hf _ (by omega)), h2.fr (hf _ (by omega)) (hf _ (by omega)), (hf 5 (by omega)).trans h3, (by obtain ⟨ku, k1, k2⟩ := h4; exact ⟨ku, (hf 6 (by omega)).trans k1, k2⟩), fun j j1 j2 j3 => (h5 j j1 j2 j3).fr (hf _ (by omega)) (hf _ (by omega)), fun j j1 j2 => (by obtain ⟨n9, t9, h9⟩ := h6 j j1 j2; exact ⟨n9, t9, h9.fr (hf _ (by omega)) (hf _ (by omega))⟩), h7.fr (fun q q1 q2 => hf q (by omega)), h8.fr (fun q q1 q2 => hf q (by omega)), h9.fr (fun q q1 q2 => hf q (by omega)), hg, ho⟩
theorem VT.rel {G : lx_G} {h h' : Nat → va_E} {n : Nat} {t : Nat → Int} {now last : Nat} {T : Nat → tx_T} {c : Nat} {p : Nat → Int} {kp : Nat → Bool} {V : Nat → tx_T} {g o en : Int} (hV : VT G h n t now last T c p kp V g o en) {v : Nat} (hv : 1 ≤ v ∧ v ≤ 4) {ku : Nat → Int} (k2 : ku 0 = 1) (k3 : ∀ j, 1 ≤ j → j ≤ 4 → ku j = b2z (kp j)) (k1 : h' 6 = rZ G 5 (zup ku v 0)) (hf : ∀ q, q ≠ 6 → h' q = h q) : VT G h' n t now last T c p (fun j => if j = v then false else kp j) V g o en := by
  obtain ⟨h0, h1, h2, h3, -, h5, h6, h7, h8, h9, h10, h11⟩ := hV
  refine ⟨(hf 0 (by omega)).trans h0, h1.fr (hf _ (by omega)) (hf _ (by omega)), h2.fr (hf _ (by omega)) (hf _ (by omega)), (hf 5 (by omega)).trans h3, ⟨_, k1, ?_, fun j j1 j2 => ?_⟩, fun j j1 j2 j3 => ?_, fun j j1 j2 => ?_, h7.fr (fun q q1 q2 => hf q (by omega)), h8.fr (fun q q1 q2 => hf q (by omega)), h9.fr (fun q q1 q2 => hf q (by omega)), h10, h11⟩
  · rw [zup_ne (by omega)]; exact k2
  · dsimp only
    by_cases e : j = v
    · rw [e, zup_eq, if_pos rfl]; rfl
    · rw [zup_ne e, if_neg e]; exact k3 j j1 j2
  · dsimp only at j3
    by_cases e : j = v
    · rw [if_pos e] at j3; cases j3
    · rw [if_neg e] at j3
      exact (h5 j j1 j2 j3).fr (hf _ (by omega)) (hf _ (by omega))
  · obtain ⟨n9, t9, e9⟩ := h6 j j1 j2
    exact ⟨n9, t9, e9.fr (hf _ (by omega)) (hf _ (by omega))⟩
theorem VT.snap {G : lx_G} {h h' : Nat → va_E} {n : Nat} {t : Nat → Int} {now last : Nat} {T : Nat → tx_T} {c : Nat} {p : Nat → Int} {kp : Nat → Bool} {V : Nat → tx_T} {g o en : Int} (hV : VT G h n t now last T c p kp V g o en) {v : Nat} (hv : 1 ≤ v ∧ v ≤ 4) {ku : Nat → Int} (k2 : ku 0 = 1) (k3 : ∀ j, 1 ≤ j → j ≤ 4 → ku j = b2z (kp j)) (k1 : h' 6 = rZ G 5 (zup ku v 1)) (hR : Rw G h' (5 + 2 * v) 160 n t) (hf : ∀ q, q ≠ 6 → q ≠ 5 + 2 * v → q ≠ 5 + 2 * v + 1 → h' q = h q) : VT G h' n t now last T c p (fun j => if j = v then true else kp j) (fun j => if j = v then (n, t) else V j) g o en := by
  obtain ⟨h0, h1, h2, h3, -, h5, h6, h7, h8, h9, h10, h11⟩ := hV
  refine ⟨(hf 0 (by omega) (by omega) (by omega)).trans h0, h1.fr (hf _ (by omega) (by omega) (by omega)) (hf _ (by omega) (by omega) (by omega)), h2.fr (hf _ (by omega) (by omega) (by omega)) (hf _ (by omega) (by omega) (by omega)), (hf 5 (by omega) (by omega) (by omega)).trans h3, ⟨_, k1, ?_, fun j j1 j2 => ?_⟩, fun j j1 j2 j3 => ?_, fun j j1 j2 => ?_, h7.fr (fun q q1 q2 => hf q (by omega) (by omega) (by omega)), h8.fr (fun q q1 q2 => hf q (by omega) (by omega) (by omega)), h9.fr (fun q q1 q2 => hf q (by omega) (by omega) (by omega)), h10, h11⟩
  · rw [zup_ne (by omega)]; exact k2
  · dsimp only
    by_cases e : j = v
    · rw [e, zup_eq, if_pos rfl]; rfl
    · rw [zup_ne e, if_neg e]; exact k3 j j1 j2
  · dsimp only at j3 ⊢
    by_cases e : j = v
    · rw [if_pos e, e]; exact hR
    · rw [if_neg e] at j3 ⊢
      exact (h5 j j1 j2 j3).fr (hf _ (by omega) (by omega) (by omega)) (hf _ (by omega) (by omega) (by omega))
  · by_cases e : j = v
    · rw [e]; exact ⟨_, _, hR⟩
    · obtain ⟨n9, t9, e9⟩ := h6 j j1 j2
      exact ⟨n9, t9, e9.fr (hf _ (by omega) (by omega) (by omega)) (hf _ (by omega) (by omega) (by omega))⟩
/-- versions -/
def isv (kp : Nat → Bool) (v : Int) : Bool := decide (v = 0) || (decide (1 ≤ v ∧ v ≤ 4) && kp v.toNat)
def vtx (n : Nat) (t : Nat → Int) (V : Nat → tx_T) (j : Nat) : tx_T := if j = 0 then (n, t) else V j
theorem VT.ver {G : lx_G} {h : Nat → va_E} {n : Nat} {t : Nat → Int} {now last : Nat} {T : Nat → tx_T} {c : Nat} {p : Nat → Int} {kp : Nat → Bool} {V : Nat → tx_T} {g o en : Int} (hV : VT G h n t now last T c p kp V g o en) {v : Int} (hv : isv kp v = true) : ∃ j : Nat, v = (j : Int) ∧ j ≤ 4 ∧ (vix j = 1 ∨ (7 ≤ vix j ∧ vix j + 1 ≤ 14)) ∧ Tx G h (vix j) (vtx n t V j).1 (vtx n t V j).2 := by
  simp only [isv, Bool.or_eq_true, Bool.and_eq_true, decide_eq_true_eq] at hv
  rcases hv with hv | ⟨⟨h1, h2⟩, h3⟩
  · refine ⟨0, by omega, by omega, Or.inl rfl, ?_⟩
    exact hV.2.1
  · obtain ⟨j, rfl⟩ : ∃ j : Nat, v = (j : Int) := ⟨v.toNat, by omega⟩
    have e1 : vix j = 5 + 2 * j := if_neg (by omega)
    have e2 : vtx n t V j = V j := if_neg (by omega)
    refine ⟨j, rfl, by omega, Or.inr (by omega), ?_⟩
    rw [e1, e2]
    exact Or.inl (hV.2.2.2.2.2.1 j (by omega) (by omega) h3)

