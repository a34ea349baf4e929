/-! History: its cell H, the row of texts H + 1, text r of the ring at H + 2 + 2 * r -/
def hfun (G : lx_G) (H : Nat) : Nat → Option Nat := fun j => some (ad (g_b G) (H + 2 + 2 * j))
abbrev tx_T : Type := Nat × (Nat → Int)
def Hist (G : lx_G) (h : Nat → va_E) (H now last : Nat) (T : Nat → tx_T) : Prop := ∃ old : Nat, h H = ob ci_His [.ref (ad (g_b G) (H + 1)), vI (old : Int), vI (now : Int), vI ((last - now : Nat) : Int)] ∧ h (H + 1) = cR G 9 (hfun G H) ∧ old < 9 ∧ now ≤ last ∧ last ≤ 8 ∧ (∀ j, j ≤ last → Rw G h (H + 2 + 2 * ((old + j) % 9)) 160 (T j).1 (T j).2) ∧ ∀ r, r < 9 → ∃ n t, Rw G h (H + 2 + 2 * r) 160 n t
theorem Hist.fr {G : lx_G} {h h' : Nat → va_E} {H now last : Nat} {T : Nat → tx_T} (hT : Hist G h H now last T) (e : ∀ q, H ≤ q → q < H + 20 → h' q = h q) : Hist G h' H now last T := by
  obtain ⟨old, h0, h1, h2, h3, h4, h5, h6⟩ := hT
  refine ⟨old, (e H (by omega) (by omega)).trans h0, (e (H + 1) (by omega) (by omega)).trans h1, h2, h3, h4, fun j hj => (h5 j hj).fr (e _ (by omega) (by omega)) (e _ (by omega) (by omega)), fun r hr => ?_⟩
  obtain ⟨n, t, h9⟩ := h6 r hr
  exact ⟨n, t, h9.fr (e _ (by omega) (by omega)) (e _ (by omega) (by omega))⟩
def hp_now (now : Nat) : Nat := if now < 8 then now + 1 else 8
def hp_T (now : Nat) (T : Nat → tx_T) (x : tx_T) : Nat → tx_T := fun j => if now < 8 then (if j = now + 1 then x else T j) else (if j = 8 then x else T (j + 1))

set_option maxRecDepth 100000 in
set_option maxHeartbeats 4000000 in
theorem c_His_undoable {l : Launch} {G : lx_G} {N : Nat} {h : Nat → va_E} {H now last : Nat} {T : Nat → tx_T} (hT : Hist G h H now last T) (hN : H + 19 < N) : CtI l G m_His_undoable N [.ref (ad (g_b G) H)] h (fun z h' => z = ((now : Nat) : Int) ∧ h' = h) := by
  obtain ⟨old, hc0, hc1, hold, hnl, hl8, hrows, hall⟩ := hT
  refine zI_of (by decide) rfl rfl ?_
  intro k X Q
  have X : Cx k G R_His b_His_undoable 1 rm_His_undoable := X
  have Q : Rt k G (some (.int)) N 0 0 (pI (fun z h' => z = ((now : Nat) : Int) ∧ h' = h)) := Q
  show Ev k G 1 N 0 0 h 0 [some (.ref (ad (g_b G) H))] []
  refine e_aload_n X d_His_undoable_0 rfl ?_
  refine e_get X d_His_undoable_1 fl_His_24 hc0 (by omega) rfl ?_
  exact z_ireturn X Q d_His_undoable_4 rfl ⟨rfl, rfl⟩

set_option maxRecDepth 100000 in
set_option maxHeartbeats 4000000 in
theorem c_His_redoable {l : Launch} {G : lx_G} {N : Nat} {h : Nat → va_E} {H now last : Nat} {T : Nat → tx_T} (hT : Hist G h H now last T) (hN : H + 19 < N) : CtI l G m_His_redoable N [.ref (ad (g_b G) H)] h (fun z h' => z = ((last - now : Nat) : Int) ∧ h' = h) := by
  obtain ⟨old, hc0, hc1, hold, hnl, hl8, hrows, hall⟩ := hT
  refine zI_of (by decide) rfl rfl ?_
  intro k X Q
  have X : Cx k G R_His b_His_redoable 1 rm_His_redoable := X
  have Q : Rt k G (some (.int)) N 0 0 (pI (fun z h' => z = ((last - now : Nat) : Int) ∧ h' = h)) := Q
  show Ev k G 1 N 0 0 h 0 [some (.ref (ad (g_b G) H))] []
  refine e_aload_n X d_His_redoable_0 rfl ?_
  refine e_get X d_His_redoable_1 fl_His_27 hc0 (by omega) rfl ?_
  exact z_ireturn X Q d_His_redoable_4 rfl ⟨rfl, rfl⟩

set_option maxRecDepth 100000 in
set_option maxHeartbeats 4000000 in
theorem c_His_latest {l : Launch} {G : lx_G} {N : Nat} {h : Nat → va_E} {H old dn : Nat} {un : Int} (hc0 : h H = ob ci_His [.ref (ad (g_b G) (H + 1)), vI (old : Int), vI (dn : Int), vI un]) (hc1 : h (H + 1) = cR G 9 (hfun G H)) (hold : old < 9) (hdn : dn ≤ 8) (hN : H + 1 < N) : CtR l G m_His_latest N [.ref (ad (g_b G) H)] h (fun i h' => i = H + 2 + 2 * ((old + dn) % 9) ∧ h' = h) := by
  refine zR_of (by decide) rfl rfl ?_
  intro k X Q
  have X : Cx k G R_His b_His_latest 1 rm_His_latest := X
  have Q : Rt k G (some (.object "VersionedText$RowText")) N 0 0 (pR G (fun i h' => i = H + 2 + 2 * ((old + dn) % 9) ∧ h' = h)) := Q
  show Ev k G 1 N 0 0 h 0 [some (.ref (ad (g_b G) H))] []
  refine e_aload_n X d_His_latest_0 rfl ?_
  refine e_get X d_His_latest_1 fl_His_13 hc0 (by omega) rfl ?_
  refine e_aload_n X d_His_latest_4 rfl ?_
  refine e_get X d_His_latest_5 fl_His_20 hc0 (by omega) rfl ?_
  refine e_aload_n X d_His_latest_8 rfl ?_
  refine e_get X d_His_latest_9 fl_His_24 hc0 (by omega) rfl ?_
  refine z_iadd X d_His_latest_12 ?_
  refine z_bipush X d_His_latest_13 (by decide) ?_
  refine z_irem X d_His_latest_15 (by omega) (by omega) ?_
  refine z_rald X d_His_latest_16 (j := (((old + dn) % 9))) hc1 (by omega) (by omega) (by omega) rfl ?_
  exact z_areturn X Q d_His_latest_17 ⟨rfl, rfl⟩

set_option maxRecDepth 100000 in
set_option maxHeartbeats 4000000 in
theorem c_His_addStep {l : Launch} {G : lx_G} {N : Nat} {h : Nat → va_E} {H now last : Nat} {T : Nat → tx_T} {e m : Nat} {s : Nat → Int} (hT : Hist G h H now last T) (hN : H + 19 < N) (hE : Tx G h e m s) (heN : e + 1 < N) (hne : e + 1 < H ∨ H + 20 ≤ e) : CtV l G m_His_addStep N [.ref (ad (g_b G) H), .ref (ad (g_b G) e)] h (fun h' => Hist G h' H (hp_now now) (hp_now now) (hp_T now T (m, s)) ∧ ∀ q, (q < H ∨ H + 20 ≤ q) → h' q = h q) := by
  obtain ⟨old, hc0, hc1, hold, hnl, hl8, hrows, hall⟩ := hT
  refine zV_of (by decide) rfl rfl ?_
  intro k X Q
  have X : Cx k G R_His b_His_addStep 2 rm_His_addStep := X
  have Q : Rt k G none N 0 0 (pV (fun h' => Hist G h' H (hp_now now) (hp_now now) (hp_T now T (m, s)) ∧ ∀ q, (q < H ∨ H + 20 ≤ q) → h' q = h q)) := Q
  show Ev k G 2 N 0 0 h 0 [some (.ref (ad (g_b G) H)), some (.ref (ad (g_b G) e))] []
  refine e_aload_n X d_His_addStep_0 rfl ?_
  refine z_iconst X d_His_addStep_1 ?_
  refine z_put X d_His_addStep_2 fl_His_27 hc0 (by omega) (Nat.le_of_ble_eq_true rfl) rfl rfl (fun h1 c2 fr3 => ?_)
  have c2 : h1 H = ob ci_His [.ref (ad (g_b G) (H + 1)), vI ((old : Nat) : Int), vI ((now : Nat) : Int), vI 0] := c2
  have c4 := (fr3 (H + 1) (by omega)).trans hc1
  refine e_aload_n X d_His_addStep_5 rfl ?_
  refine e_get X d_His_addStep_6 fl_His_24 c2 (by omega) rfl ?_
  refine z_bipush X d_His_addStep_9 (by decide) ?_
  refine z_icmp_ge (tgt := 27) X d_His_addStep_11 (by decide) (by omega) (fun q1 => ?_) (fun q1 => ?_)
  · have hn8 : now = 8 := by omega
    subst hn8
    have hl9 : last = 8 := by omega
    subst hl9
    refine e_aload_n X d_His_addStep_27 rfl ?_
    refine e_aload_n X d_His_addStep_28 rfl ?_
    refine e_get X d_His_addStep_29 fl_His_20 c2 (by omega) rfl ?_
    refine z_iconst X d_His_addStep_32 ?_
    refine z_iadd X d_His_addStep_33 ?_
    refine z_bipush X d_His_addStep_34 (by decide) ?_
    refine z_irem X d_His_addStep_36 (by omega) (by omega) ?_
    refine z_top (show _ = (((old + 1) % 9 : Nat) : Int) by omega) ?_
    refine z_put X d_His_addStep_37 fl_His_20 c2 (by omega) (Nat.le_of_ble_eq_true rfl) rfl rfl (fun h16 c17 fr18 => ?_)
    have c17 : h16 H = ob ci_His [.ref (ad (g_b G) (H + 1)), vI (((old + 1) % 9 : Nat) : Int), vI ((8 : Nat) : Int), vI 0] := c17
    have c19 := (fr18 (H + 1) (by omega)).trans c4
    refine e_aload_n X d_His_addStep_40 rfl ?_
    have hfr : ∀ q, q ≠ H → h16 q = h q := fun q q1 => (fr18 q q1).trans (fr3 q q1)
    have hE1 : Tx G h16 e m s := hE.fr (hfr _ (by omega)) (hfr _ (by omega))
    refine z_callV_R X d_His_addStep_41 cv_His_30 (c_His_latest c17 c19 (by omega) (by omega) (by omega)) c17 (by omega) rfl rfl ⟨rfl, rfl⟩ rfl (fun z22 h20 hp21 => ?_)
    obtain ⟨rfl, hh23⟩ := hp21
    rw [hh23]
    obtain ⟨n9, t9, hR9⟩ := hall ((((old + 1) % 9) + 8) % 9) (by omega)
    have hR8 : Rw G h16 (H + 2 + 2 * ((((old + 1) % 9) + 8) % 9)) 160 n9 t9 := hR9.fr (hfr _ (by omega)) (hfr _ (by omega))
    obtain ⟨u9, hr0, -⟩ := id hR8
    refine e_aload_n X d_His_addStep_44 rfl ?_
    refine z_callV_V X d_His_addStep_45 cv_His_34 (c_Row_become hR8 (by omega) hE1 (by omega) (by omega) hE1.le) hr0 (by omega) rfl rfl ⟨rfl, rfl⟩ rfl (fun h24 hp25 => ?_)
    obtain ⟨hB, hBf⟩ := hp25
    have e0 := (hBf H (by omega) (by omega)).trans c17
    have e1 := (hBf (H + 1) (by omega) (by omega)).trans c19
    have hn9 : hp_now 8 = 8 := if_neg (by omega)
    rw [← show ((8 - 8 : Nat) : Int) = 0 by omega] at e0
    have hrw : ∀ j, j ≤ 8 → Rw G h24 (H + 2 + 2 * (((old + 1) % 9 + j) % 9)) 160 (hp_T 8 T (m, s) j).1 (hp_T 8 T (m, s) j).2 := by
      intro j hj
      unfold hp_T
      rw [if_neg (show ¬ 8 < 8 by omega)]
      by_cases h9 : j = 8
      · rw [if_pos h9, h9]; exact hB
      · rw [if_neg h9]
        have h7 := hrows (j + 1) (by omega)
        rw [show (old + (j + 1)) % 9 = ((old + 1) % 9 + j) % 9 by omega] at h7
        exact (h7.fr (hfr _ (by omega)) (hfr _ (by omega))).fr (hBf _ (by omega) (by omega)) (hBf _ (by omega) (by omega))
    have hal : ∀ r, r < 9 → ∃ n t, Rw G h24 (H + 2 + 2 * r) 160 n t := by
      intro r hr
      by_cases h9 : r = ((old + 1) % 9 + 8) % 9
      · rw [h9]; exact ⟨_, _, hB⟩
      · obtain ⟨n8, t8, h8⟩ := hall r hr
        exact ⟨n8, t8, (h8.fr (hfr _ (by omega)) (hfr _ (by omega))).fr (hBf _ (by omega) (by omega)) (hBf _ (by omega) (by omega))⟩
    exact z_return X Q d_His_addStep_48 (by rw [hn9]; exact ⟨⟨(old + 1) % 9, e0, e1, by omega, Nat.le_refl _, by omega, hrw, hal⟩, fun q hq => (hBf q (by omega) (by omega)).trans (hfr q (by omega))⟩)
  · refine e_aload_n X d_His_addStep_14 rfl ?_
    refine e_dup X d_His_addStep_15 rfl ?_
    refine e_get X d_His_addStep_16 fl_His_24 c2 (by omega) rfl ?_
    refine z_iconst X d_His_addStep_19 ?_
    refine z_iadd X d_His_addStep_20 ?_
    refine z_top (show _ = ((now + 1 : Nat) : Int) by omega) ?_
    refine z_put X d_His_addStep_21 fl_His_24 c2 (by omega) (Nat.le_of_ble_eq_true rfl) rfl rfl (fun h5 c6 fr7 => ?_)
    have c6 : h5 H = ob ci_His [.ref (ad (g_b G) (H + 1)), vI ((old : Nat) : Int), vI ((now + 1 : Nat) : Int), vI 0] := c6
    have c8 := (fr7 (H + 1) (by omega)).trans c4
    refine e_goto (tgt := 40) X d_His_addStep_24 (by decide) ?_
    have hfr : ∀ q, q ≠ H → h5 q = h q := fun q q1 => (fr7 q q1).trans (fr3 q q1)
    have hE1 : Tx G h5 e m s := hE.fr (hfr _ (by omega)) (hfr _ (by omega))
    refine e_aload_n X d_His_addStep_40 rfl ?_
    refine z_callV_R X d_His_addStep_41 cv_His_30 (c_His_latest c6 c8 (by omega) (by omega) (by omega)) c6 (by omega) rfl rfl ⟨rfl, rfl⟩ rfl (fun z11 h9 hp10 => ?_)
    obtain ⟨rfl, hh12⟩ := hp10
    rw [hh12]
    obtain ⟨n9, t9, hR9⟩ := hall ((old + (now + 1)) % 9) (by omega)
    have hR8 : Rw G h5 (H + 2 + 2 * ((old + (now + 1)) % 9)) 160 n9 t9 := hR9.fr (hfr _ (by omega)) (hfr _ (by omega))
    obtain ⟨u9, hr0, -⟩ := id hR8
    refine e_aload_n X d_His_addStep_44 rfl ?_
    refine z_callV_V X d_His_addStep_45 cv_His_34 (c_Row_become hR8 (by omega) hE1 (by omega) (by omega) hE1.le) hr0 (by omega) rfl rfl ⟨rfl, rfl⟩ rfl (fun h13 hp14 => ?_)
    obtain ⟨hB, hBf⟩ := hp14
    have e0 := (hBf H (by omega) (by omega)).trans c6
    have e1 := (hBf (H + 1) (by omega) (by omega)).trans c8
    have hn9 : hp_now now = now + 1 := if_pos (by omega)
    rw [← show ((now + 1 - (now + 1) : Nat) : Int) = 0 by omega] at e0
    have hrw : ∀ j, j ≤ now + 1 → Rw G h13 (H + 2 + 2 * ((old + j) % 9)) 160 (hp_T now T (m, s) j).1 (hp_T now T (m, s) j).2 := by
      intro j hj
      unfold hp_T
      rw [if_pos (show now < 8 by omega)]
      by_cases h9 : j = now + 1
      · rw [if_pos h9, h9]; exact hB
      · rw [if_neg h9]
        exact ((hrows j (by omega)).fr (hfr _ (by omega)) (hfr _ (by omega))).fr (hBf _ (by omega) (by omega)) (hBf _ (by omega) (by omega))
    have hal : ∀ r, r < 9 → ∃ n t, Rw G h13 (H + 2 + 2 * r) 160 n t := by
      intro r hr
      by_cases h9 : r = (old + (now + 1)) % 9
      · rw [h9]; exact ⟨_, _, hB⟩
      · obtain ⟨n8, t8, h8⟩ := hall r hr
        exact ⟨n8, t8, (h8.fr (hfr _ (by omega)) (hfr _ (by omega))).fr (hBf _ (by omega) (by omega)) (hBf _ (by omega) (by omega))⟩
    exact z_return X Q d_His_addStep_48 (by rw [hn9]; exact ⟨⟨old, e0, e1, hold, Nat.le_refl _, by omega, hrw, hal⟩, fun q hq => (hBf q (by omega) (by omega)).trans (hfr q (by omega))⟩)

set_option maxRecDepth 100000 in
set_option maxHeartbeats 4000000 in
theorem c_His_extendStep {l : Launch} {G : lx_G} {N : Nat} {h : Nat → va_E} {H now last : Nat} {T : Nat → tx_T} {e m : Nat} {s : Nat → Int} (hT : Hist G h H now last T) (hN : H + 19 < N) (hE : Tx G h e m s) (heN : e + 1 < N) (hne : e + 1 < H ∨ H + 20 ≤ e) : CtV l G m_His_extendStep N [.ref (ad (g_b G) H), .ref (ad (g_b G) e)] h (fun h' => Hist G h' H now last (fun j => if j = now then (m, s) else T j) ∧ ∀ q, (q < H ∨ H + 20 ≤ q) → h' q = h q) := by
  obtain ⟨old, hc0, hc1, hold, hnl, hl8, hrows, hall⟩ := hT
  refine zV_of (by decide) rfl rfl ?_
  intro k X Q
  have X : Cx k G R_His b_His_extendStep 2 rm_His_extendStep := X
  have Q : Rt k G none N 0 0 (pV (fun h' => Hist G h' H now last (fun j => if j = now then (m, s) else T j) ∧ ∀ q, (q < H ∨ H + 20 ≤ q) → h' q = h q)) := Q
  show Ev k G 2 N 0 0 h 0 [some (.ref (ad (g_b G) H)), some (.ref (ad (g_b G) e))] []
  refine e_aload_n X d_His_extendStep_0 rfl ?_
  refine z_callV_R X d_His_extendStep_1 cv_His_30 (c_His_latest hc0 hc1 (by omega) (by omega) (by omega)) hc0 (by omega) rfl rfl ⟨rfl, rfl⟩ rfl (fun z3 h1 hp2 => ?_)
  obtain ⟨rfl, hh4⟩ := hp2
  rw [hh4]
  have hR8 := hrows now hnl
  obtain ⟨u9, hr0, -⟩ := id hR8
  refine e_aload_n X d_His_extendStep_4 rfl ?_
  refine z_callV_V X d_His_extendStep_5 cv_His_34 (c_Row_become hR8 (by omega) hE (by omega) (by omega) hE.le) hr0 (by omega) rfl rfl ⟨rfl, rfl⟩ rfl (fun h5 hp6 => ?_)
  obtain ⟨hB, hBf⟩ := hp6
  have hrw : ∀ j, j ≤ last → Rw G h5 (H + 2 + 2 * ((old + j) % 9)) 160 (if j = now then (m, s) else T j).1 (if j = now then (m, s) else T j).2 := by
    intro j hj
    by_cases h9 : j = now
    · rw [if_pos h9, h9]; exact hB
    · rw [if_neg h9]; exact (hrows j hj).fr (hBf _ (by omega) (by omega)) (hBf _ (by omega) (by omega))
  have hal : ∀ r, r < 9 → ∃ n t, Rw G h5 (H + 2 + 2 * r) 160 n t := by
    intro r hr
    by_cases h9 : r = (old + now) % 9
    · rw [h9]; exact ⟨_, _, hB⟩
    · obtain ⟨n8, t8, h8⟩ := hall r hr
      exact ⟨n8, t8, h8.fr (hBf _ (by omega) (by omega)) (hBf _ (by omega) (by omega))⟩
  exact z_return X Q d_His_extendStep_8 ⟨⟨old, (hBf H (by omega) (by omega)).trans hc0, (hBf (H + 1) (by omega) (by omega)).trans hc1, hold, hnl, hl8, hrw, hal⟩, fun q hq => hBf q (by omega) (by omega)⟩

set_option maxRecDepth 100000 in
set_option maxHeartbeats 4000000 in
theorem c_His_goBack {l : Launch} {G : lx_G} {N : Nat} {h : Nat → va_E} {H now last : Nat} {T : Nat → tx_T} {e m : Nat} {s : Nat → Int} (hT : Hist G h H now last T) (hN : H + 19 < N) (hE : Tx G h e m s) (heN : e + 1 < N) (hne : e + 1 < H ∨ H + 20 ≤ e) (hgo : 0 < now) : CtV l G m_His_goBack N [.ref (ad (g_b G) H), .ref (ad (g_b G) e)] h (fun h' => Hist G h' H (now - 1) last T ∧ Tx G h' e (T (now - 1)).1 (T (now - 1)).2 ∧ ∀ q, (q < H ∨ H + 20 ≤ q) → (q ≠ e ∧ q ≠ e + 1) → h' q = h q) := by
  obtain ⟨old, hc0, hc1, hold, hnl, hl8, hrows, hall⟩ := hT
  refine zV_of (by decide) rfl rfl ?_
  intro k X Q
  have X : Cx k G R_His b_His_goBack 2 rm_His_goBack := X
  have Q : Rt k G none N 0 0 (pV (fun h' => Hist G h' H (now - 1) last T ∧ Tx G h' e (T (now - 1)).1 (T (now - 1)).2 ∧ ∀ q, (q < H ∨ H + 20 ≤ q) → (q ≠ e ∧ q ≠ e + 1) → h' q = h q)) := Q
  show Ev k G 2 N 0 0 h 0 [some (.ref (ad (g_b G) H)), some (.ref (ad (g_b G) e))] []
  refine e_aload_n X d_His_goBack_0 rfl ?_
  refine e_dup X d_His_goBack_1 rfl ?_
  refine e_get X d_His_goBack_2 fl_His_24 hc0 (by omega) rfl ?_
  refine z_iconst X d_His_goBack_5 ?_
  refine z_isub X d_His_goBack_6 ?_
  refine z_top (show _ = ((now - 1 : Nat) : Int) by omega) ?_
  refine z_put X d_His_goBack_7 fl_His_24 hc0 (by omega) (Nat.le_of_ble_eq_true rfl) rfl rfl (fun h1 c2 fr3 => ?_)
  have c2 : h1 H = ob ci_His [.ref (ad (g_b G) (H + 1)), vI ((old : Nat) : Int), vI ((now - 1 : Nat) : Int), vI ((last - now : Nat) : Int)] := c2
  have c4 := (fr3 (H + 1) (by omega)).trans hc1
  refine e_aload_n X d_His_goBack_10 rfl ?_
  refine e_dup X d_His_goBack_11 rfl ?_
  refine e_get X d_His_goBack_12 fl_His_27 c2 (by omega) rfl ?_
  refine z_iconst X d_His_goBack_15 ?_
  refine z_iadd X d_His_goBack_16 ?_
  refine z_top (show _ = ((last - (now - 1) : Nat) : Int) by omega) ?_
  refine z_put X d_His_goBack_17 fl_His_27 c2 (by omega) (Nat.le_of_ble_eq_true rfl) rfl rfl (fun h5 c6 fr7 => ?_)
  have c6 : h5 H = ob ci_His [.ref (ad (g_b G) (H + 1)), vI ((old : Nat) : Int), vI ((now - 1 : Nat) : Int), vI ((last - (now - 1) : Nat) : Int)] := c6
  have c8 := (fr7 (H + 1) (by omega)).trans c4
  refine e_aload_n X d_His_goBack_20 rfl ?_
  refine e_aload_n X d_His_goBack_21 rfl ?_
  have hfr : ∀ q, q ≠ H → h5 q = h q := fun q q1 => (fr7 q q1).trans (fr3 q q1)
  have hE1 : Tx G h5 e m s := hE.fr (hfr _ (by omega)) (hfr _ (by omega))
  refine z_callV_R X d_His_goBack_22 cv_His_30 (c_His_latest c6 c8 (by omega) (by omega) (by omega)) c6 (by omega) rfl rfl ⟨rfl, rfl⟩ rfl (fun z11 h9 hp10 => ?_)
  obtain ⟨rfl, hh12⟩ := hp10
  rw [hh12]
  have hR8 : Rw G h5 (H + 2 + 2 * ((old + (now - 1)) % 9)) 160 (T (now - 1)).1 (T (now - 1)).2 := (hrows (now - 1) (by omega)).fr (hfr _ (by omega)) (hfr _ (by omega))
  refine z_Tbecome X d_His_goBack_25 cf_His_38_Row cf_His_38_Gap hE1 (by omega) (Or.inl hR8) (by omega) (by omega) rfl (fun h13 hB14 hBf15 => ?_)
  exact z_return X Q d_His_goBack_30 ⟨⟨old, (hBf15 H (by omega) (by omega)).trans c6, (hBf15 (H + 1) (by omega) (by omega)).trans c8, hold, by omega, hl8, fun j hj => ((hrows j hj).fr (hfr _ (by omega)) (hfr _ (by omega))).fr (hBf15 _ (by omega) (by omega)) (hBf15 _ (by omega) (by omega)), fun r hr => (by obtain ⟨n8, t8, h8⟩ := hall r hr; exact ⟨n8, t8, (h8.fr (hfr _ (by omega)) (hfr _ (by omega))).fr (hBf15 _ (by omega) (by omega)) (hBf15 _ (by omega) (by omega))⟩)⟩, hB14, fun q h8 h9 => (hBf15 q (by omega) (by omega)).trans (hfr q (by omega))⟩

set_option maxRecDepth 100000 in
set_option maxHeartbeats 4000000 in
theorem c_His_goForward {l : Launch} {G : lx_G} {N : Nat} {h : Nat → va_E} {H now last : Nat} {T : Nat → tx_T} {e m : Nat} {s : Nat → Int} (hT : Hist G h H now last T) (hN : H + 19 < N) (hE : Tx G h e m s) (heN : e + 1 < N) (hne : e + 1 < H ∨ H + 20 ≤ e) (hgo : now < last) : CtV l G m_His_goForward N [.ref (ad (g_b G) H), .ref (ad (g_b G) e)] h (fun h' => Hist G h' H (now + 1) last T ∧ Tx G h' e (T (now + 1)).1 (T (now + 1)).2 ∧ ∀ q, (q < H ∨ H + 20 ≤ q) → (q ≠ e ∧ q ≠ e + 1) → h' q = h q) := by
  obtain ⟨old, hc0, hc1, hold, hnl, hl8, hrows, hall⟩ := hT
  refine zV_of (by decide) rfl rfl ?_
  intro k X Q
  have X : Cx k G R_His b_His_goForward 2 rm_His_goForward := X
  have Q : Rt k G none N 0 0 (pV (fun h' => Hist G h' H (now + 1) last T ∧ Tx G h' e (T (now + 1)).1 (T (now + 1)).2 ∧ ∀ q, (q < H ∨ H + 20 ≤ q) → (q ≠ e ∧ q ≠ e + 1) → h' q = h q)) := Q
  show Ev k G 2 N 0 0 h 0 [some (.ref (ad (g_b G) H)), some (.ref (ad (g_b G) e))] []
  refine e_aload_n X d_His_goForward_0 rfl ?_
  refine e_dup X d_His_goForward_1 rfl ?_
  refine e_get X d_His_goForward_2 fl_His_24 hc0 (by omega) rfl ?_
  refine z_iconst X d_His_goForward_5 ?_
  refine z_iadd X d_His_goForward_6 ?_
  refine z_top (show _ = ((now + 1 : Nat) : Int) by omega) ?_
  refine z_put X d_His_goForward_7 fl_His_24 hc0 (by omega) (Nat.le_of_ble_eq_true rfl) rfl rfl (fun h1 c2 fr3 => ?_)
  have c2 : h1 H = ob ci_His [.ref (ad (g_b G) (H + 1)), vI ((old : Nat) : Int), vI ((now + 1 : Nat) : Int), vI ((last - now : Nat) : Int)] := c2
  have c4 := (fr3 (H + 1) (by omega)).trans hc1
  refine e_aload_n X d_His_goForward_10 rfl ?_
  refine e_dup X d_His_goForward_11 rfl ?_
  refine e_get X d_His_goForward_12 fl_His_27 c2 (by omega) rfl ?_
  refine z_iconst X d_His_goForward_15 ?_
  refine z_isub X d_His_goForward_16 ?_
  refine z_top (show _ = ((last - (now + 1) : Nat) : Int) by omega) ?_
  refine z_put X d_His_goForward_17 fl_His_27 c2 (by omega) (Nat.le_of_ble_eq_true rfl) rfl rfl (fun h5 c6 fr7 => ?_)
  have c6 : h5 H = ob ci_His [.ref (ad (g_b G) (H + 1)), vI ((old : Nat) : Int), vI ((now + 1 : Nat) : Int), vI ((last - (now + 1) : Nat) : Int)] := c6
  have c8 := (fr7 (H + 1) (by omega)).trans c4
  refine e_aload_n X d_His_goForward_20 rfl ?_
  refine e_aload_n X d_His_goForward_21 rfl ?_
  have hfr : ∀ q, q ≠ H → h5 q = h q := fun q q1 => (fr7 q q1).trans (fr3 q q1)
  have hE1 : Tx G h5 e m s := hE.fr (hfr _ (by omega)) (hfr _ (by omega))
  refine z_callV_R X d_His_goForward_22 cv_His_30 (c_His_latest c6 c8 (by omega) (by omega) (by omega)) c6 (by omega) rfl rfl ⟨rfl, rfl⟩ rfl (fun z11 h9 hp10 => ?_)
  obtain ⟨rfl, hh12⟩ := hp10
  rw [hh12]
  have hR8 : Rw G h5 (H + 2 + 2 * ((old + (now + 1)) % 9)) 160 (T (now + 1)).1 (T (now + 1)).2 := (hrows (now + 1) (by omega)).fr (hfr _ (by omega)) (hfr _ (by omega))
  refine z_Tbecome X d_His_goForward_25 cf_His_38_Row cf_His_38_Gap hE1 (by omega) (Or.inl hR8) (by omega) (by omega) rfl (fun h13 hB14 hBf15 => ?_)
  exact z_return X Q d_His_goForward_30 ⟨⟨old, (hBf15 H (by omega) (by omega)).trans c6, (hBf15 (H + 1) (by omega) (by omega)).trans c8, hold, by omega, hl8, fun j hj => ((hrows j hj).fr (hfr _ (by omega)) (hfr _ (by omega))).fr (hBf15 _ (by omega) (by omega)) (hBf15 _ (by omega) (by omega)), fun r hr => (by obtain ⟨n8, t8, h8⟩ := hall r hr; exact ⟨n8, t8, (h8.fr (hfr _ (by omega)) (hfr _ (by omega))).fr (hBf15 _ (by omega) (by omega)) (hBf15 _ (by omega) (by omega))⟩)⟩, hB14, fun q h8 h9 => (hBf15 q (by omega) (by omega)).trans (hfr q (by omega))⟩

