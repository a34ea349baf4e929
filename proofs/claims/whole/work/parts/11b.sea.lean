theorem LR.clear {ls : Array Slot} {nL : Nat} {L : List (Option Value)} (h : LR ls nL L) (j : Nat) : LR ls nL (L.set j none) := by
  refine ⟨h.1, h.2.1, fun i v hi => ?_⟩
  by_cases hij : i = j
  · subst hij
    have hl : i < L.length := by
      have := (List.getElem?_eq_some_iff.mp hi).1
      rwa [List.length_set] at this
    rw [List.getElem?_set_self hl] at hi
    cases hi
  · rw [List.getElem?_set_ne (Ne.symm hij)] at hi
    exact h.2.2 i v hi
theorem e_clear {k : lx_K} {G : lx_G} {nL N cells slots pc : Nat} {h : Nat → va_E} {L : List (Option Value)} {st : List Value} (j : Nat) (kk : Ev k G nL N cells slots h pc (L.set j none) st) : Ev k G nL N cells slots h pc L st := fun H locs ls hH hS hL => kk H locs ls hH hS (hL.clear j)
theorem zup_hi {g F : Nat → Int} {E j : Nat} {v : Int} (h : ∀ e, j ≤ e → e ≤ E → g e = F e) (hj : 0 < j) (hv : v = F (j - 1)) : ∀ e, j - 1 ≤ e → e ≤ E → zup g (j - 1) v e = F e := by
  intro e h8 h9
  by_cases h7 : e = j - 1
  · rw [h7, zup_eq]; exact hv
  · rw [zup_ne h7]; exact h e (by omega) h9
theorem rrow_step {E : Nat} {w : Nat → Int} {s : Nat → Bool} {P u : Int} {prev : Nat → Int} {j : Nat} (h1 : 0 < j) (h2 : j ≤ E) : rrow E w s P u prev (E - (j - 1)) = if s (j - 1) then max (if stn (w (j - 1)) u then prev (E - (j - 1)) else -1) (rrow E w s P u prev (E - j)) else if stn (w (j - 1)) u then prev (E - j) else -1 := by
  rw [show E - (j - 1) = (E - j) + 1 by omega]
  rw [rrow, show E - (E - j + 1) = j - 1 by omega]
/-- the cells of a Search: it, wanted, starred, reached -/
def SeC (G : lx_G) (h : Nat → va_E) (S : Nat) (E en : Int) (w z f : Nat → Int) : Prop := h S = ob ci_Sea [.ref (ad (g_b G) (S + 1)), .ref (ad (g_b G) (S + 2)), .ref (ad (g_b G) (S + 3)), vI E, vI en] ∧ h (S + 1) = rI G 24 w ∧ h (S + 2) = rZ G 24 z ∧ h (S + 3) = rI G 25 f
def Sea (G : lx_G) (h : Nat → va_E) (S : Nat) (en : Int) : Prop := (-1 ≤ en ∧ en ≤ 160) ∧ ∃ (E : Int) (w z f : Nat → Int), SeC G h S E en w z f
theorem Sea.fr {G : lx_G} {h h' : Nat → va_E} {S : Nat} {en : Int} (hT : Sea G h S en) (e : ∀ q, S ≤ q → q < S + 4 → h' q = h q) : Sea G h' S en := by
  obtain ⟨h9, E, w, z, f, h0, h1, h2, h3⟩ := hT
  exact ⟨h9, E, w, z, f, (e S (by omega) (by omega)).trans h0, (e _ (by omega) (by omega)).trans h1, (e _ (by omega) (by omega)).trans h2, (e _ (by omega) (by omega)).trans h3⟩

set_option maxRecDepth 100000 in
set_option maxHeartbeats 4000000 in
theorem c_Sea_matchEnd {l : Launch} {G : lx_G} {N : Nat} {h : Nat → va_E} {S : Nat} {en : Int} (hS : Sea G h S en) (hN : S + 3 < N) : CtI l G m_Sea_matchEnd N [.ref (ad (g_b G) S)] h (fun z h' => z = en ∧ h' = h) := by
  obtain ⟨h9, E, w, z, f, hc0, hc1, hc2, hc3⟩ := hS
  refine zI_of (by decide) rfl rfl ?_
  intro k X Q
  have X : Cx k G R_Sea b_Sea_matchEnd 1 rm_Sea_matchEnd := X
  have Q : Rt k G (some (.int)) N 0 0 (pI (fun z h' => z = en ∧ h' = h)) := Q
  show Ev k G 1 N 0 0 h 0 [some (.ref (ad (g_b G) S))] []
  refine e_aload_n X d_Sea_matchEnd_0 rfl ?_
  refine e_get X d_Sea_matchEnd_1 fl_Sea_26 hc0 (by omega) rfl ?_
  exact z_ireturn X Q d_Sea_matchEnd_4 rfl ⟨rfl, rfl⟩

set_option maxRecDepth 100000 in
set_option maxHeartbeats 4000000 in
theorem c_Sea_standsFor {l : Launch} {G : lx_G} {N : Nat} {h : Nat → va_E} {S e : Nat} {E en u : Int} {w z f : Nat → Int} (hS : SeC G h S E en w z f) (hN : S + 3 < N) (he : e < 24) (hw : 0 ≤ w e ∧ w e < 65536) (hu : -1 ≤ u ∧ u < 65536) : CtI l G m_Sea_standsFor N [.ref (ad (g_b G) S), vI ((e : Nat) : Int), vI (u)] h (fun z h' => z = b2z (stn (w e) u) ∧ h' = h) := by
  obtain ⟨hc0, hc1, hc2, hc3⟩ := hS
  refine zI_of (by decide) rfl rfl ?_
  intro k X Q
  have X : Cx k G R_Sea b_Sea_standsFor 3 rm_Sea_standsFor := X
  have Q : Rt k G (some (.boolean)) N 0 0 (pI (fun z h' => z = b2z (stn (w e) u) ∧ h' = h)) := Q
  show Ev k G 3 N 0 0 h 0 [some (.ref (ad (g_b G) S)), some (vI ((e : Nat) : Int)), some (vI (u))] []
  refine e_aload_n X d_Sea_standsFor_0 rfl ?_
  refine e_get X d_Sea_standsFor_1 fl_Sea_9 hc0 (by omega) rfl ?_
  refine z_iload_n X d_Sea_standsFor_4 rfl ?_
  refine z_iald X d_Sea_standsFor_5 (j := e) hc1 (by omega) (by omega) (by omega) ?_
  refine z_bipush X d_Sea_standsFor_6 (by decide) ?_
  refine z_icmp_ne (tgt := 34) X d_Sea_standsFor_8 (by decide) (by omega) (fun q1 => ?_) (fun q1 => ?_)
  · have g2 : decide (w e = 46) = false := decide_eq_false (by omega)
    refine z_iload_n X d_Sea_standsFor_34 rfl ?_
    refine e_aload_n X d_Sea_standsFor_35 rfl ?_
    refine e_get X d_Sea_standsFor_36 fl_Sea_9 hc0 (by omega) rfl ?_
    refine z_iload_n X d_Sea_standsFor_39 rfl ?_
    refine z_iald X d_Sea_standsFor_40 (j := e) hc1 (by omega) (by omega) (by omega) ?_
    refine z_icmp_ne (tgt := 48) X d_Sea_standsFor_41 (by decide) (by omega) (fun q4 => ?_) (fun q4 => ?_)
    · have g5 : decide (u = w e) = false := decide_eq_false (by omega)
      refine z_iconst X d_Sea_standsFor_48 ?_
      exact z_ireturn X Q d_Sea_standsFor_49 rfl ⟨by simp [stn, b2z, g2, g5], rfl⟩
    · have g6 : decide (u = w e) = true := decide_eq_true (by omega)
      refine z_iconst X d_Sea_standsFor_44 ?_
      refine e_goto (tgt := 49) X d_Sea_standsFor_45 (by decide) ?_
      exact z_ireturn X Q d_Sea_standsFor_49 rfl ⟨by simp [stn, b2z, g2, g6], rfl⟩
  · have g3 : decide (w e = 46) = true := decide_eq_true (by omega)
    refine z_iload_n X d_Sea_standsFor_11 rfl ?_
    refine z_iconst X d_Sea_standsFor_12 ?_
    refine z_icmp_eq (tgt := 32) X d_Sea_standsFor_13 (by decide) (by omega) (fun q7 => ?_) (fun q7 => ?_)
    · have g8 : decide (u = -1) = true := decide_eq_true (by omega)
      refine z_iconst X d_Sea_standsFor_32 ?_
      exact z_ireturn X Q d_Sea_standsFor_33 rfl ⟨by simp [stn, b2z, g3, g8], rfl⟩
    · have g9 : decide (u = -1) = false := decide_eq_false (by omega)
      refine z_iload_n X d_Sea_standsFor_16 rfl ?_
      refine z_bipush X d_Sea_standsFor_17 (by decide) ?_
      refine z_icmp_eq (tgt := 32) X d_Sea_standsFor_19 (by decide) (by omega) (fun q10 => ?_) (fun q10 => ?_)
      · have g11 : decide (u = 10) = true := decide_eq_true (by omega)
        refine z_iconst X d_Sea_standsFor_32 ?_
        exact z_ireturn X Q d_Sea_standsFor_33 rfl ⟨by simp [stn, b2z, g3, g9, g11], rfl⟩
      · have g12 : decide (u = 10) = false := decide_eq_false (by omega)
        refine z_iload_n X d_Sea_standsFor_22 rfl ?_
        refine z_bipush X d_Sea_standsFor_23 (by decide) ?_
        refine z_icmp_eq (tgt := 32) X d_Sea_standsFor_25 (by decide) (by omega) (fun q13 => ?_) (fun q13 => ?_)
        · have g14 : decide (u = 13) = true := decide_eq_true (by omega)
          refine z_iconst X d_Sea_standsFor_32 ?_
          exact z_ireturn X Q d_Sea_standsFor_33 rfl ⟨by simp [stn, b2z, g3, g9, g12, g14], rfl⟩
        · have g15 : decide (u = 13) = false := decide_eq_false (by omega)
          refine z_iconst X d_Sea_standsFor_28 ?_
          refine e_goto (tgt := 33) X d_Sea_standsFor_29 (by decide) ?_
          exact z_ireturn X Q d_Sea_standsFor_33 rfl ⟨by simp [stn, b2z, g3, g9, g12, g15], rfl⟩

set_option maxRecDepth 100000 in
set_option maxHeartbeats 4000000 in
theorem c_Sea_reachFrom {l : Launch} {G : lx_G} {N : Nat} {h : Nat → va_E} {S E P : Nat} {en u : Int} {w z f : Nat → Int} {s : Nat → Bool} (hS : SeC G h S (E : Int) en w z f) (hN : S + 3 < N) (hE : E ≤ 24) (hw : ∀ e, e < E → 0 ≤ w e ∧ w e < 65536) (hz : ∀ e, e < E → z e = b2z (s e)) (hP : P ≤ 160) (hu : -1 ≤ u ∧ u < 65536) (hprev : ∀ e, e < E → stn (w e) u = true → ∀ m, m ≤ E → -1 ≤ (fun m => f (E - m)) m ∧ (fun m => f (E - m)) m ≤ 160) : CtV l G m_Sea_reachFrom N [.ref (ad (g_b G) S), vI ((P : Nat) : Int), vI (u)] h (fun h' => ∃ f', h' (S + 3) = rI G 25 f' ∧ (∀ e, e ≤ E → f' e = rrow E w s ((P : Nat) : Int) u (fun m => f (E - m)) (E - e)) ∧ ∀ q, q ≠ S + 3 → h' q = h q) := by
  have hS9 := hS
  obtain ⟨hc0, hc1, hc2, hc3⟩ := hS
  refine zV_of (by decide) rfl rfl ?_
  intro k X Q
  have X : Cx k G R_Sea b_Sea_reachFrom 8 rm_Sea_reachFrom := X
  have Q : Rt k G none N 0 0 (pV (fun h' => ∃ f', h' (S + 3) = rI G 25 f' ∧ (∀ e, e ≤ E → f' e = rrow E w s ((P : Nat) : Int) u (fun m => f (E - m)) (E - e)) ∧ ∀ q, q ≠ S + 3 → h' q = h q)) := Q
  show Ev k G 8 N 0 0 h 0 [some (.ref (ad (g_b G) S)), some (vI ((P : Nat) : Int)), some (vI (u)), none, none, none, none, none] []
  refine e_aload_n X d_Sea_reachFrom_0 rfl ?_
  refine e_get X d_Sea_reachFrom_1 fl_Sea_19 hc0 (by omega) rfl ?_
  refine e_aload_n X d_Sea_reachFrom_4 rfl ?_
  refine e_get X d_Sea_reachFrom_5 fl_Sea_22 hc0 (by omega) rfl ?_
  refine z_iald X d_Sea_reachFrom_8 (j := E) hc3 (by omega) (by omega) (by omega) ?_
  refine e_istore_n X d_Sea_reachFrom_9 (by decide) ?_
  refine e_aload_n X d_Sea_reachFrom_10 rfl ?_
  refine e_get X d_Sea_reachFrom_11 fl_Sea_19 hc0 (by omega) rfl ?_
  refine e_aload_n X d_Sea_reachFrom_14 rfl ?_
  refine e_get X d_Sea_reachFrom_15 fl_Sea_22 hc0 (by omega) rfl ?_
  refine z_iload_n X d_Sea_reachFrom_18 rfl ?_
  refine z_iast X d_Sea_reachFrom_19 (j := E) hc3 (by omega) (by omega) (by omega) (fun h1 c2 fr3 => ?_)
  have c4 := (fr3 S (by omega)).trans hc0
  have c5 := (fr3 (S + 1) (by omega)).trans hc1
  have c6 := (fr3 (S + 2) (by omega)).trans hc2
  refine e_aload_n X d_Sea_reachFrom_20 rfl ?_
  refine e_get X d_Sea_reachFrom_21 fl_Sea_22 c4 (by omega) rfl ?_
  refine z_iconst X d_Sea_reachFrom_24 ?_
  refine z_isub X d_Sea_reachFrom_25 ?_
  refine e_istore X d_Sea_reachFrom_26 (by decide) ?_
  have loop : ∀ (d9 : Nat) (j : Nat) (g : Nat → Int) (h2 : Nat → va_E), j < d9 → j ≤ E → h2 (S + 3) = rI G 25 g → (∀ e, j ≤ e → e ≤ E → g e = rrow E w s ((P : Nat) : Int) u (fun m => f (E - m)) (E - e)) → (∀ e, e < j → g e = f e) → (∀ q, q ≠ S + 3 → h2 q = h q) → Ev k G 8 N 0 0 h2 28 [some (.ref (ad (g_b G) S)), some (vI ((P : Nat) : Int)), some (vI (u)), some (vI (f j)), some (vI (((j : Nat) : Int) - 1)), none, none, none] [] := by
    intro d9
    induction d9 with
    | zero =>
      intro j g h2 hm9
      exact absurd hm9 (Nat.not_lt_zero _)
    | succ d9 ih =>
      intro j g h2 hm9 hj e3 hg1 hg2 hf
      have e0 := (hf S (by omega)).trans hc0
      have e1 := (hf (S + 1) (by omega)).trans hc1
      have e2 := (hf (S + 2) (by omega)).trans hc2
      refine z_iload X d_Sea_reachFrom_28 rfl ?_
      refine z_if_lt (tgt := 124) X d_Sea_reachFrom_30 (by decide) (by omega) (fun q1 => ?_) (fun q1 => ?_)
      · have hj0 : j = 0 := by omega
        subst hj0
        exact z_return X Q d_Sea_reachFrom_124 ⟨g, e3, fun e h9 => hg1 e (Nat.zero_le _) h9, hf⟩
      · have hj1 : 0 < j := by omega
        rw [show ((j : Nat) : Int) - 1 = ((j - 1 : Nat) : Int) by omega]
        refine e_aload_n X d_Sea_reachFrom_33 rfl ?_
        refine e_get X d_Sea_reachFrom_34 fl_Sea_19 e0 (by omega) rfl ?_
        refine z_iload X d_Sea_reachFrom_37 rfl ?_
        refine z_iald X d_Sea_reachFrom_39 (j := (j - 1)) e3 (by omega) (by omega) (by omega) ?_
        refine z_top (show _ = (f (j - 1)) from hg2 (j - 1) (by omega)) ?_
        refine e_istore X d_Sea_reachFrom_40 (by decide) ?_
        refine e_aload_n X d_Sea_reachFrom_42 rfl ?_
        refine z_iload X d_Sea_reachFrom_43 rfl ?_
        refine z_iload_n X d_Sea_reachFrom_45 rfl ?_
        refine z_callV_I X d_Sea_reachFrom_46 cv_Sea_47 (c_Sea_standsFor ⟨e0, e1, e2, e3⟩ hN (by omega) (hw _ (by omega)) hu) e0 (by omega) rfl rfl ⟨rfl, rfl⟩ rfl (fun z9 h7 hp8 => ?_)
        obtain ⟨rfl, hh10⟩ := hp8
        rw [hh10]
        refine e_istore X d_Sea_reachFrom_49 (by decide) ?_
        refine e_aload_n X d_Sea_reachFrom_51 rfl ?_
        refine e_get X d_Sea_reachFrom_52 fl_Sea_15 e0 (by omega) rfl ?_
        refine z_iload X d_Sea_reachFrom_55 rfl ?_
        refine z_zald X d_Sea_reachFrom_57 (j := (j - 1)) e2 (by omega) (by omega) (by omega) ?_
        refine z_top (show _ = (b2z (s (j - 1))) from hz (j - 1) (by omega)) ?_
        have hst := rrow_step (w := w) (s := s) (P := ((P : Nat) : Int)) (u := u) (prev := fun m => f (E - m)) hj1 hj
        have hgj : g j = rrow E w s ((P : Nat) : Int) u (fun m => f (E - m)) (E - j) := hg1 j (Nat.le_refl _) hj
        have hrj := rrow_rg (w := w) (s := s) (P := ((P : Nat) : Int)) (u := u) (prev := fun m => f (E - m)) (by omega) hprev (E - j) (by omega)
        rw [show E - (E - (j - 1)) = j - 1 by omega, show E - (E - j) = j by omega] at hst
        refine z_if_eq (tgt := 98) X d_Sea_reachFrom_58 (by decide) (b2z_r _) (fun q2 => ?_) (fun q2 => ?_)
        · have hs1 : s (j - 1) = false := b2z_eq q2
          refine e_aload_n X d_Sea_reachFrom_98 rfl ?_
          refine e_get X d_Sea_reachFrom_99 fl_Sea_19 e0 (by omega) rfl ?_
          refine z_iload X d_Sea_reachFrom_102 rfl ?_
          refine z_iload X d_Sea_reachFrom_104 rfl ?_
          refine z_if_eq (tgt := 113) X d_Sea_reachFrom_106 (by decide) (b2z_r _) (fun q3 => ?_) (fun q3 => ?_)
          · have ht1 : stn (w (j - 1)) u = false := b2z_eq q3
            refine z_iconst X d_Sea_reachFrom_113 ?_
            have hval : (-1) = rrow E w s ((P : Nat) : Int) u (fun m => f (E - m)) (E - (j - 1)) := by rw [hst, hs1, ht1]; simp
            refine z_iast X d_Sea_reachFrom_114 (j := (j - 1)) e3 (by omega) (by omega) (by omega) (fun h11 c12 fr13 => ?_)
            have c14 := (fr13 S (by omega)).trans e0
            have c15 := (fr13 (S + 1) (by omega)).trans e1
            have c16 := (fr13 (S + 2) (by omega)).trans e2
            refine z_iload X d_Sea_reachFrom_115 rfl ?_
            refine e_istore_n X d_Sea_reachFrom_117 (by decide) ?_
            refine z_iinc X d_Sea_reachFrom_118 rfl (by decide) ?_
            refine e_goto (tgt := 28) X d_Sea_reachFrom_121 (by decide) ?_
            refine e_clear 5 ?_
            refine e_clear 6 ?_
            refine e_clear 7 ?_
            rw [show ((j - 1 : Nat) : Int) + (-1) = ((j - 1 : Nat) : Int) - 1 by omega]
            exact ih (j - 1) _ _ (by omega) (by omega) c12 (zup_hi hg1 hj1 hval) (fun e h9 => by rw [zup_ne (by omega)]; exact hg2 e (by omega)) (fun q q9 => (fr13 q q9).trans (hf q q9))
          · have ht1 : stn (w (j - 1)) u = true := b2z_ne q3
            have hpr := hprev (j - 1) (by omega) ht1
            have hpr1 := hpr (E - (j - 1)) (by omega)
            have hpr2 := hpr (E - j) (by omega)
            dsimp only at hpr1 hpr2
            rw [show E - (E - (j - 1)) = j - 1 by omega] at hpr1
            rw [show E - (E - j) = j by omega] at hpr2
            refine z_iload_n X d_Sea_reachFrom_109 rfl ?_
            refine e_goto (tgt := 114) X d_Sea_reachFrom_110 (by decide) ?_
            have hval : (f j) = rrow E w s ((P : Nat) : Int) u (fun m => f (E - m)) (E - (j - 1)) := by rw [hst, hs1, ht1]; simp
            refine z_iast X d_Sea_reachFrom_114 (j := (j - 1)) e3 (by omega) (by omega) (by omega) (fun h17 c18 fr19 => ?_)
            have c20 := (fr19 S (by omega)).trans e0
            have c21 := (fr19 (S + 1) (by omega)).trans e1
            have c22 := (fr19 (S + 2) (by omega)).trans e2
            refine z_iload X d_Sea_reachFrom_115 rfl ?_
            refine e_istore_n X d_Sea_reachFrom_117 (by decide) ?_
            refine z_iinc X d_Sea_reachFrom_118 rfl (by decide) ?_
            refine e_goto (tgt := 28) X d_Sea_reachFrom_121 (by decide) ?_
            refine e_clear 5 ?_
            refine e_clear 6 ?_
            refine e_clear 7 ?_
            rw [show ((j - 1 : Nat) : Int) + (-1) = ((j - 1 : Nat) : Int) - 1 by omega]
            exact ih (j - 1) _ _ (by omega) (by omega) c18 (zup_hi hg1 hj1 hval) (fun e h9 => by rw [zup_ne (by omega)]; exact hg2 e (by omega)) (fun q q9 => (fr19 q q9).trans (hf q q9))
        · have hs1 : s (j - 1) = true := b2z_ne q2
          refine z_iload X d_Sea_reachFrom_61 rfl ?_
          refine z_if_eq (tgt := 71) X d_Sea_reachFrom_63 (by decide) (b2z_r _) (fun q3 => ?_) (fun q3 => ?_)
          · have ht1 : stn (w (j - 1)) u = false := b2z_eq q3
            refine z_iconst X d_Sea_reachFrom_71 ?_
            refine e_istore X d_Sea_reachFrom_72 (by decide) ?_
            refine e_aload_n X d_Sea_reachFrom_74 rfl ?_
            refine e_get X d_Sea_reachFrom_75 fl_Sea_19 e0 (by omega) rfl ?_
            refine z_iload X d_Sea_reachFrom_78 rfl ?_
            refine z_iload X d_Sea_reachFrom_80 rfl ?_
            refine e_aload_n X d_Sea_reachFrom_82 rfl ?_
            refine e_get X d_Sea_reachFrom_83 fl_Sea_19 e0 (by omega) rfl ?_
            refine z_iload X d_Sea_reachFrom_86 rfl ?_
            refine z_iconst X d_Sea_reachFrom_88 ?_
            refine z_iadd X d_Sea_reachFrom_89 ?_
            refine z_iald X d_Sea_reachFrom_90 (j := ((j - 1) + 1)) e3 (by omega) (by omega) (by omega) ?_
            refine z_top (show _ = (g j) from (by rw [show j - 1 + 1 = j by omega])) ?_
            have hval : max (-1) (g j) = rrow E w s ((P : Nat) : Int) u (fun m => f (E - m)) (E - (j - 1)) := by rw [hst, hs1, ht1, hgj]; simp
            refine z_mmax X d_Sea_reachFrom_91 mx_Sea ⟨Nat.le_of_ble_eq_true rfl, Nat.le_of_ble_eq_true rfl, Nat.zero_le _, Nat.zero_le _⟩ (by omega) ?_
            refine z_iast X d_Sea_reachFrom_94 (j := (j - 1)) e3 (by omega) (by omega) (by omega) (fun h23 c24 fr25 => ?_)
            have c26 := (fr25 S (by omega)).trans e0
            have c27 := (fr25 (S + 1) (by omega)).trans e1
            have c28 := (fr25 (S + 2) (by omega)).trans e2
            refine e_goto (tgt := 115) X d_Sea_reachFrom_95 (by decide) ?_
            refine z_iload X d_Sea_reachFrom_115 rfl ?_
            refine e_istore_n X d_Sea_reachFrom_117 (by decide) ?_
            refine z_iinc X d_Sea_reachFrom_118 rfl (by decide) ?_
            refine e_goto (tgt := 28) X d_Sea_reachFrom_121 (by decide) ?_
            refine e_clear 5 ?_
            refine e_clear 6 ?_
            refine e_clear 7 ?_
            rw [show ((j - 1 : Nat) : Int) + (-1) = ((j - 1 : Nat) : Int) - 1 by omega]
            exact ih (j - 1) _ _ (by omega) (by omega) c24 (zup_hi hg1 hj1 hval) (fun e h9 => by rw [zup_ne (by omega)]; exact hg2 e (by omega)) (fun q q9 => (fr25 q q9).trans (hf q q9))
          · have ht1 : stn (w (j - 1)) u = true := b2z_ne q3
            have hpr := hprev (j - 1) (by omega) ht1
            have hpr1 := hpr (E - (j - 1)) (by omega)
            have hpr2 := hpr (E - j) (by omega)
            dsimp only at hpr1 hpr2
            rw [show E - (E - (j - 1)) = j - 1 by omega] at hpr1
            rw [show E - (E - j) = j by omega] at hpr2
            refine z_iload X d_Sea_reachFrom_66 rfl ?_
            refine e_goto (tgt := 72) X d_Sea_reachFrom_68 (by decide) ?_
            refine e_istore X d_Sea_reachFrom_72 (by decide) ?_
            refine e_aload_n X d_Sea_reachFrom_74 rfl ?_
            refine e_get X d_Sea_reachFrom_75 fl_Sea_19 e0 (by omega) rfl ?_
            refine z_iload X d_Sea_reachFrom_78 rfl ?_
            refine z_iload X d_Sea_reachFrom_80 rfl ?_
            refine e_aload_n X d_Sea_reachFrom_82 rfl ?_
            refine e_get X d_Sea_reachFrom_83 fl_Sea_19 e0 (by omega) rfl ?_
            refine z_iload X d_Sea_reachFrom_86 rfl ?_
            refine z_iconst X d_Sea_reachFrom_88 ?_
            refine z_iadd X d_Sea_reachFrom_89 ?_
            refine z_iald X d_Sea_reachFrom_90 (j := ((j - 1) + 1)) e3 (by omega) (by omega) (by omega) ?_
            refine z_top (show _ = (g j) from (by rw [show j - 1 + 1 = j by omega])) ?_
            have hval : max (f (j - 1)) (g j) = rrow E w s ((P : Nat) : Int) u (fun m => f (E - m)) (E - (j - 1)) := by rw [hst, hs1, ht1, hgj]; simp
            refine z_mmax X d_Sea_reachFrom_91 mx_Sea ⟨Nat.le_of_ble_eq_true rfl, Nat.le_of_ble_eq_true rfl, Nat.zero_le _, Nat.zero_le _⟩ (by omega) ?_
            refine z_iast X d_Sea_reachFrom_94 (j := (j - 1)) e3 (by omega) (by omega) (by omega) (fun h29 c30 fr31 => ?_)
            have c32 := (fr31 S (by omega)).trans e0
            have c33 := (fr31 (S + 1) (by omega)).trans e1
            have c34 := (fr31 (S + 2) (by omega)).trans e2
            refine e_goto (tgt := 115) X d_Sea_reachFrom_95 (by decide) ?_
            refine z_iload X d_Sea_reachFrom_115 rfl ?_
            refine e_istore_n X d_Sea_reachFrom_117 (by decide) ?_
            refine z_iinc X d_Sea_reachFrom_118 rfl (by decide) ?_
            refine e_goto (tgt := 28) X d_Sea_reachFrom_121 (by decide) ?_
            refine e_clear 5 ?_
            refine e_clear 6 ?_
            refine e_clear 7 ?_
            rw [show ((j - 1 : Nat) : Int) + (-1) = ((j - 1 : Nat) : Int) - 1 by omega]
            exact ih (j - 1) _ _ (by omega) (by omega) c30 (zup_hi hg1 hj1 hval) (fun e h9 => by rw [zup_ne (by omega)]; exact hg2 e (by omega)) (fun q q9 => (fr31 q q9).trans (hf q q9))
  have hb9 : ∀ e, E ≤ e → e ≤ E → zup f E ((P : Nat) : Int) e = rrow E w s ((P : Nat) : Int) u (fun m => f (E - m)) (E - e) := by
    intro e h8 h9
    have h7 : e = E := by omega
    rw [h7, zup_eq, Nat.sub_self]
    rfl
  exact loop _ E _ _ (Nat.lt_succ_self _) (Nat.le_refl _) c2 hb9 (fun e h9 => zup_ne (by omega)) (fun q q9 => fr3 q q9)

