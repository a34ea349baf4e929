/-! GapText: its cell i, its row i + 1 -/
def Gpx (G : lx_G) (h : Nat → va_E) (i cap n : Nat) (t : Nat → Int) (gs g : Nat) : Prop := ∃ u : Nat → Int, h i = ob ci_Gap [.ref (ad (g_b G) (i + 1)), vI (gs : Int), vI ((gs + g : Nat) : Int)] ∧ h (i + 1) = rC G cap u ∧ cap ≤ 160 ∧ gs ≤ n ∧ n + g = cap ∧ (∀ k, k < cap → 0 ≤ u k ∧ u k < 65536) ∧ (∀ k, k < gs → u k = t k) ∧ (∀ k, gs ≤ k → k < n → u (k + g) = t k) ∧ tx_ok n t
def Gp (G : lx_G) (h : Nat → va_E) (i cap n : Nat) (t : Nat → Int) : Prop := ∃ gs g : Nat, Gpx G h i cap n t gs g
theorem Gp.fr {G : lx_G} {h h' : Nat → va_E} {i cap n : Nat} {t : Nat → Int} (hT : Gp G h i cap n t) (e0 : h' i = h i) (e1 : h' (i + 1) = h (i + 1)) : Gp G h' i cap n t := by
  obtain ⟨gs, g, u, c0, c1, r⟩ := hT
  exact ⟨gs, g, u, e0.trans c0, e1.trans c1, r⟩
theorem Gp.ok {G : lx_G} {h : Nat → va_E} {i cap n : Nat} {t : Nat → Int} (hT : Gp G h i cap n t) : tx_ok n t ∧ n ≤ cap ∧ cap ≤ 160 := by
  obtain ⟨gs, g, u, c0, c1, h1, h2, h3, h4, h5, h6, h7⟩ := hT
  exact ⟨h7, by omega, h1⟩

set_option maxRecDepth 100000 in
set_option maxHeartbeats 4000000 in
theorem c_Gap_length {l : Launch} {G : lx_G} {N : Nat} {h : Nat → va_E} {i cap n : Nat} {t : Nat → Int} (hT : Gp G h i cap n t) (hN : i + 1 < N) : CtI l G m_Gap_length N [.ref (ad (g_b G) i)] h (fun z h' => z = (n : Int) ∧ h' = h) := by
  obtain ⟨gs, g, hT⟩ := hT
  have hTx := hT
  obtain ⟨u, hc0, hc1, hcap2, hgs, hg, hch, hu1, hu2, htx⟩ := hT
  refine zI_of (by decide) rfl rfl ?_
  intro k X Q
  have X : Cx k G R_Gap b_Gap_length 1 rm_Gap_length := X
  have Q : Rt k G (some (.int)) N 0 0 (pI (fun z h' => z = (n : Int) ∧ h' = h)) := Q
  show Ev k G 1 N 0 0 h 0 [some (.ref (ad (g_b G) i))] []
  refine e_aload_n X d_Gap_length_0 rfl ?_
  refine e_get X d_Gap_length_1 fl_Gap_9 hc0 (by omega) rfl ?_
  refine z_clen X d_Gap_length_4 hc1 (by omega) ?_
  refine e_aload_n X d_Gap_length_5 rfl ?_
  refine e_get X d_Gap_length_6 fl_Gap_19 hc0 (by omega) rfl ?_
  refine e_aload_n X d_Gap_length_9 rfl ?_
  refine e_get X d_Gap_length_10 fl_Gap_15 hc0 (by omega) rfl ?_
  refine z_isub X d_Gap_length_13 ?_
  refine z_isub X d_Gap_length_14 ?_
  exact z_ireturn X Q d_Gap_length_15 rfl ⟨by omega, rfl⟩

set_option maxRecDepth 100000 in
set_option maxHeartbeats 4000000 in
theorem c_Gap_at {l : Launch} {G : lx_G} {N : Nat} {h : Nat → va_E} {i cap n : Nat} {t : Nat → Int} {a : Int} (hT : Gp G h i cap n t) (hN : i + 1 < N) (ha : -2147483648 ≤ a ∧ a < 2147483648) : CtI l G m_Gap_at N [.ref (ad (g_b G) i), vI (a)] h (fun z h' => z = tat t a ∧ h' = h) := by
  obtain ⟨gs, g, hT⟩ := hT
  have hTx := hT
  obtain ⟨u, hc0, hc1, hcap2, hgs, hg, hch, hu1, hu2, htx⟩ := hT
  refine zI_of (by decide) rfl rfl ?_
  intro k X Q
  have X : Cx k G R_Gap b_Gap_at 2 rm_Gap_at := X
  have Q : Rt k G (some (.int)) N 0 0 (pI (fun z h' => z = tat t a ∧ h' = h)) := Q
  show Ev k G 2 N 0 0 h 0 [some (.ref (ad (g_b G) i)), some (vI (a))] []
  refine z_iload_n X d_Gap_at_0 rfl ?_
  refine z_if_lt (tgt := 12) X d_Gap_at_1 (by decide) (by omega) (fun q1 => ?_) (fun q1 => ?_)
  · refine z_iconst X d_Gap_at_12 ?_
    exact z_ireturn X Q d_Gap_at_13 rfl ⟨(tat_neg q1).symm, rfl⟩
  · refine z_iload_n X d_Gap_at_4 rfl ?_
    refine e_aload_n X d_Gap_at_5 rfl ?_
    refine z_callV_I X d_Gap_at_6 cv_Gap_22 (c_Gap_length ⟨gs, g, hTx⟩ hN) hc0 (by omega) rfl rfl ⟨rfl, rfl⟩ rfl (fun z3 h1 hp2 => ?_)
    obtain ⟨rfl, hh4⟩ := hp2
    rw [hh4]
    refine z_icmp_lt (tgt := 14) X d_Gap_at_9 (by decide) (by omega) (fun q2 => ?_) (fun q2 => ?_)
    · obtain ⟨j, rfl⟩ : ∃ j : Nat, a = (j : Int) := ⟨a.toNat, by omega⟩
      refine z_iload_n X d_Gap_at_14 rfl ?_
      refine e_aload_n X d_Gap_at_15 rfl ?_
      refine e_get X d_Gap_at_16 fl_Gap_15 hc0 (by omega) rfl ?_
      refine z_icmp_ge (tgt := 31) X d_Gap_at_19 (by decide) (by omega) (fun q3 => ?_) (fun q3 => ?_)
      · refine e_aload_n X d_Gap_at_31 rfl ?_
        refine e_get X d_Gap_at_32 fl_Gap_9 hc0 (by omega) rfl ?_
        refine z_iload_n X d_Gap_at_35 rfl ?_
        refine e_aload_n X d_Gap_at_36 rfl ?_
        refine e_get X d_Gap_at_37 fl_Gap_19 hc0 (by omega) rfl ?_
        refine z_iadd X d_Gap_at_40 ?_
        refine e_aload_n X d_Gap_at_41 rfl ?_
        refine e_get X d_Gap_at_42 fl_Gap_15 hc0 (by omega) rfl ?_
        refine z_isub X d_Gap_at_45 ?_
        refine z_top (show _ = ((j + g : Nat) : Int) by omega) ?_
        refine z_cald X d_Gap_at_46 (j := (j + g)) hc1 (by omega) (by omega) (by omega) ?_
        exact z_ireturn X Q d_Gap_at_47 rfl ⟨(hu2 j (by omega) (by omega)).trans (tat_n t j).symm, rfl⟩
      · refine e_aload_n X d_Gap_at_22 rfl ?_
        refine e_get X d_Gap_at_23 fl_Gap_9 hc0 (by omega) rfl ?_
        refine z_iload_n X d_Gap_at_26 rfl ?_
        refine z_cald X d_Gap_at_27 (j := j) hc1 (by omega) (by omega) (by omega) ?_
        refine e_goto (tgt := 47) X d_Gap_at_28 (by decide) ?_
        exact z_ireturn X Q d_Gap_at_47 rfl ⟨(hu1 j (by omega)).trans (tat_n t j).symm, rfl⟩
    · refine z_iconst X d_Gap_at_12 ?_
      exact z_ireturn X Q d_Gap_at_13 rfl ⟨(tat_ge htx q2).symm, rfl⟩

set_option maxRecDepth 100000 in
set_option maxHeartbeats 4000000 in
theorem c_Gap_moveGap {l : Launch} {G : lx_G} {N : Nat} {h : Nat → va_E} {i cap n gs g a : Nat} {t : Nat → Int} (hT : Gpx G h i cap n t gs g) (hN : i + 1 < N) (ha : a ≤ n) : CtV l G m_Gap_moveGap N [.ref (ad (g_b G) i), vI ((a : Nat) : Int)] h (fun h' => Gpx G h' i cap n t a g ∧ ∀ j, j ≠ i → j ≠ i + 1 → h' j = h j) := by
  obtain ⟨u, hc0, hc1, hcap2, hgs, hg, hch, hu1, hu2, htx⟩ := hT
  refine zV_of (by decide) rfl rfl ?_
  intro k X Q
  have X : Cx k G R_Gap b_Gap_moveGap 3 rm_Gap_moveGap := X
  have Q : Rt k G none N 0 0 (pV (fun h' => Gpx G h' i cap n t a g ∧ ∀ j, j ≠ i → j ≠ i + 1 → h' j = h j)) := Q
  show Ev k G 3 N 0 0 h 0 [some (.ref (ad (g_b G) i)), some (vI ((a : Nat) : Int)), none] []
  refine e_aload_n X d_Gap_moveGap_0 rfl ?_
  refine e_get X d_Gap_moveGap_1 fl_Gap_19 hc0 (by omega) rfl ?_
  refine e_aload_n X d_Gap_moveGap_4 rfl ?_
  refine e_get X d_Gap_moveGap_5 fl_Gap_15 hc0 (by omega) rfl ?_
  refine z_isub X d_Gap_moveGap_8 ?_
  refine z_top (show _ = ((g : Nat) : Int) by omega) ?_
  refine e_istore_n X d_Gap_moveGap_9 (by decide) ?_
  refine z_iload_n X d_Gap_moveGap_10 rfl ?_
  refine e_aload_n X d_Gap_moveGap_11 rfl ?_
  refine e_get X d_Gap_moveGap_12 fl_Gap_15 hc0 (by omega) rfl ?_
  refine z_icmp_ge (tgt := 42) X d_Gap_moveGap_15 (by decide) (by omega) (fun q1 => ?_) (fun q1 => ?_)
  · refine e_aload_n X d_Gap_moveGap_42 rfl ?_
    refine e_get X d_Gap_moveGap_43 fl_Gap_9 hc0 (by omega) rfl ?_
    refine e_aload_n X d_Gap_moveGap_46 rfl ?_
    refine e_get X d_Gap_moveGap_47 fl_Gap_19 hc0 (by omega) rfl ?_
    refine e_aload_n X d_Gap_moveGap_50 rfl ?_
    refine e_get X d_Gap_moveGap_51 fl_Gap_9 hc0 (by omega) rfl ?_
    refine e_aload_n X d_Gap_moveGap_54 rfl ?_
    refine e_get X d_Gap_moveGap_55 fl_Gap_15 hc0 (by omega) rfl ?_
    refine z_iload_n X d_Gap_moveGap_58 rfl ?_
    refine e_aload_n X d_Gap_moveGap_59 rfl ?_
    refine e_get X d_Gap_moveGap_60 fl_Gap_15 hc0 (by omega) rfl ?_
    refine z_isub X d_Gap_moveGap_63 ?_
    refine z_ccopy X d_Gap_moveGap_64 ac_Gap (sp := gs + g) (dp := gs) (n := a - gs) hc1 (by omega) hc1 (by omega) (by omega) (by omega) (fun k9 hk9 => hch _ (by omega)) ⟨Nat.le_of_ble_eq_true rfl, Nat.le_of_ble_eq_true rfl⟩ (fun h1 c2 fr3 => ?_)
    have c4 := (fr3 i (by omega)).trans hc0
    refine e_aload_n X d_Gap_moveGap_67 rfl ?_
    refine z_iload_n X d_Gap_moveGap_68 rfl ?_
    refine z_put X d_Gap_moveGap_69 fl_Gap_15 c4 (by omega) (Nat.le_of_ble_eq_true rfl) rfl rfl (fun h5 c6 fr7 => ?_)
    have c6 : h5 i = ob ci_Gap [.ref (ad (g_b G) (i + 1)), vI ((a : Nat) : Int), vI ((gs + g : Nat) : Int)] := c6
    have c8 := (fr7 (i + 1) (by omega)).trans c2
    refine e_aload_n X d_Gap_moveGap_72 rfl ?_
    refine z_iload_n X d_Gap_moveGap_73 rfl ?_
    refine z_iload_n X d_Gap_moveGap_74 rfl ?_
    refine z_iadd X d_Gap_moveGap_75 ?_
    refine z_top (show _ = ((a + g : Nat) : Int) by omega) ?_
    refine z_put X d_Gap_moveGap_76 fl_Gap_19 c6 (by omega) (Nat.le_of_ble_eq_true rfl) rfl rfl (fun h9 c10 fr11 => ?_)
    have c10 : h9 i = ob ci_Gap [.ref (ad (g_b G) (i + 1)), vI ((a : Nat) : Int), vI ((a + g : Nat) : Int)] := c10
    have c12 := (fr11 (i + 1) (by omega)).trans c8
    have e0 := c10
    have e1 := c12
    exact z_return X Q d_Gap_moveGap_79 ⟨⟨_, e0, e1, hcap2, ha, hg, zcp_ch hch hch (by omega), (gap_r hu1 hu2 (by omega) ha).1, (gap_r hu1 hu2 (by omega) ha).2, htx⟩, fun j q1 q2 => (fr11 j q1).trans ((fr7 j q1).trans (fr3 j q2))⟩
  · refine e_aload_n X d_Gap_moveGap_18 rfl ?_
    refine e_get X d_Gap_moveGap_19 fl_Gap_9 hc0 (by omega) rfl ?_
    refine z_iload_n X d_Gap_moveGap_22 rfl ?_
    refine e_aload_n X d_Gap_moveGap_23 rfl ?_
    refine e_get X d_Gap_moveGap_24 fl_Gap_9 hc0 (by omega) rfl ?_
    refine z_iload_n X d_Gap_moveGap_27 rfl ?_
    refine z_iload_n X d_Gap_moveGap_28 rfl ?_
    refine z_iadd X d_Gap_moveGap_29 ?_
    refine e_aload_n X d_Gap_moveGap_30 rfl ?_
    refine e_get X d_Gap_moveGap_31 fl_Gap_15 hc0 (by omega) rfl ?_
    refine z_iload_n X d_Gap_moveGap_34 rfl ?_
    refine z_isub X d_Gap_moveGap_35 ?_
    refine z_ccopy X d_Gap_moveGap_36 ac_Gap (sp := a) (dp := a + g) (n := gs - a) hc1 (by omega) hc1 (by omega) (by omega) (by omega) (fun k9 hk9 => hch _ (by omega)) ⟨Nat.le_of_ble_eq_true rfl, Nat.le_of_ble_eq_true rfl⟩ (fun h13 c14 fr15 => ?_)
    have c16 := (fr15 i (by omega)).trans hc0
    refine e_goto (tgt := 67) X d_Gap_moveGap_39 (by decide) ?_
    refine e_aload_n X d_Gap_moveGap_67 rfl ?_
    refine z_iload_n X d_Gap_moveGap_68 rfl ?_
    refine z_put X d_Gap_moveGap_69 fl_Gap_15 c16 (by omega) (Nat.le_of_ble_eq_true rfl) rfl rfl (fun h17 c18 fr19 => ?_)
    have c18 : h17 i = ob ci_Gap [.ref (ad (g_b G) (i + 1)), vI ((a : Nat) : Int), vI ((gs + g : Nat) : Int)] := c18
    have c20 := (fr19 (i + 1) (by omega)).trans c14
    refine e_aload_n X d_Gap_moveGap_72 rfl ?_
    refine z_iload_n X d_Gap_moveGap_73 rfl ?_
    refine z_iload_n X d_Gap_moveGap_74 rfl ?_
    refine z_iadd X d_Gap_moveGap_75 ?_
    refine z_top (show _ = ((a + g : Nat) : Int) by omega) ?_
    refine z_put X d_Gap_moveGap_76 fl_Gap_19 c18 (by omega) (Nat.le_of_ble_eq_true rfl) rfl rfl (fun h21 c22 fr23 => ?_)
    have c22 : h21 i = ob ci_Gap [.ref (ad (g_b G) (i + 1)), vI ((a : Nat) : Int), vI ((a + g : Nat) : Int)] := c22
    have c24 := (fr23 (i + 1) (by omega)).trans c20
    have e0 := c22
    have e1 := c24
    exact z_return X Q d_Gap_moveGap_79 ⟨⟨_, e0, e1, hcap2, ha, hg, zcp_ch hch hch (by omega), (gap_l hu1 hu2 (by omega)).1, (gap_l hu1 hu2 (by omega)).2, htx⟩, fun j q1 q2 => (fr23 j q1).trans ((fr19 j q1).trans (fr15 j q2))⟩

set_option maxRecDepth 100000 in
set_option maxHeartbeats 4000000 in
theorem c_Gap_cut {l : Launch} {G : lx_G} {N : Nat} {h : Nat → va_E} {i cap n : Nat} {t : Nat → Int} {a b : Nat} (hT : Gp G h i cap n t) (hN : i + 1 < N) (hab : a ≤ b) (hb : b ≤ n) : CtV l G m_Gap_cut N [.ref (ad (g_b G) i), vI ((a : Nat) : Int), vI ((b : Nat) : Int)] h (fun h' => Gp G h' i cap (n - (b - a)) (tx_ed t a b 0 t) ∧ ∀ j, j ≠ i → j ≠ i + 1 → h' j = h j) := by
  obtain ⟨gs, g, hT⟩ := hT
  have hTx := hT
  obtain ⟨u, hc0, hc1, hcap2, hgs, hg, hch, hu1, hu2, htx⟩ := hT
  refine zV_of (by decide) rfl rfl ?_
  intro k X Q
  have X : Cx k G R_Gap b_Gap_cut 3 rm_Gap_cut := X
  have Q : Rt k G none N 0 0 (pV (fun h' => Gp G h' i cap (n - (b - a)) (tx_ed t a b 0 t) ∧ ∀ j, j ≠ i → j ≠ i + 1 → h' j = h j)) := Q
  show Ev k G 3 N 0 0 h 0 [some (.ref (ad (g_b G) i)), some (vI ((a : Nat) : Int)), some (vI ((b : Nat) : Int))] []
  refine e_aload_n X d_Gap_cut_0 rfl ?_
  refine z_iload_n X d_Gap_cut_1 rfl ?_
  refine z_callV_V X d_Gap_cut_2 cv_Gap_26 (c_Gap_moveGap hTx hN (by omega)) hc0 (by omega) rfl rfl ⟨rfl, rfl⟩ rfl (fun h1 hp2 => ?_)
  obtain ⟨⟨u1, hd0, hd1, -, hags, -, hch1, hv1, hv2, -⟩, hfr⟩ := hp2
  refine e_aload_n X d_Gap_cut_5 rfl ?_
  refine e_dup X d_Gap_cut_6 rfl ?_
  refine e_get X d_Gap_cut_7 fl_Gap_19 hd0 (by omega) rfl ?_
  refine z_iload_n X d_Gap_cut_10 rfl ?_
  refine z_iload_n X d_Gap_cut_11 rfl ?_
  refine z_isub X d_Gap_cut_12 ?_
  refine z_iadd X d_Gap_cut_13 ?_
  refine z_top (show _ = ((a + (g + (b - a)) : Nat) : Int) by omega) ?_
  refine z_put X d_Gap_cut_14 fl_Gap_19 hd0 (by omega) (Nat.le_of_ble_eq_true rfl) rfl rfl (fun h4 c5 fr6 => ?_)
  have c5 : h4 i = ob ci_Gap [.ref (ad (g_b G) (i + 1)), vI ((a : Nat) : Int), vI ((a + (g + (b - a)) : Nat) : Int)] := c5
  have c7 := (fr6 (i + 1) (by omega)).trans hd1
  have e0 := c5
  have e1 := c7
  exact z_return X Q d_Gap_cut_17 ⟨⟨a, g + (b - a), _, e0, e1, hcap2, by omega, by omega, hch1, (gap_cut hv1 hv2 hab hb).1, (gap_cut hv1 hv2 hab hb).2, tx_ed_ok htx hab hb (fun k9 hk9 => absurd hk9 (Nat.not_lt_zero _))⟩, fun j q1 q2 => (fr6 j q1).trans (hfr j q1 q2)⟩

set_option maxRecDepth 100000 in
set_option maxHeartbeats 4000000 in
theorem c_Gap_put {l : Launch} {G : lx_G} {N : Nat} {h : Nat → va_E} {i cap n : Nat} {t : Nat → Int} {o oc c a : Nat} {p : Nat → Int} (hT : Gp G h i cap n t) (hN : i + 1 < N) (hO : Rw G h o oc c p) (hoN : o + 1 < N) (hne : o ≠ i ∧ o ≠ i + 1 ∧ o + 1 ≠ i) (ha : a ≤ n) (hfit : n + c ≤ cap) : CtV l G m_Gap_put N [.ref (ad (g_b G) i), vI ((a : Nat) : Int), .ref (ad (g_b G) o)] h (fun h' => Gp G h' i cap (n + c) (tx_ed t a a c p) ∧ ∀ j, j ≠ i → j ≠ i + 1 → h' j = h j) := by
  obtain ⟨gs, g, hT⟩ := hT
  have hTx := hT
  obtain ⟨u, hc0, hc1, hcap2, hgs, hg, hch, hu1, hu2, htx⟩ := hT
  refine zV_of (by decide) rfl rfl ?_
  intro k X Q
  have X : Cx k G R_Gap b_Gap_put 3 rm_Gap_put := X
  have Q : Rt k G none N 0 0 (pV (fun h' => Gp G h' i cap (n + c) (tx_ed t a a c p) ∧ ∀ j, j ≠ i → j ≠ i + 1 → h' j = h j)) := Q
  show Ev k G 3 N 0 0 h 0 [some (.ref (ad (g_b G) i)), some (vI ((a : Nat) : Int)), some (.ref (ad (g_b G) o))] []
  refine e_aload_n X d_Gap_put_0 rfl ?_
  refine z_iload_n X d_Gap_put_1 rfl ?_
  refine z_callV_V X d_Gap_put_2 cv_Gap_26 (c_Gap_moveGap hTx hN (by omega)) hc0 (by omega) rfl rfl ⟨rfl, rfl⟩ rfl (fun h1 hp2 => ?_)
  obtain ⟨⟨u1, hd0, hd1, -, hags, -, hch1, hv1, hv2, -⟩, hfr⟩ := hp2
  have hO1 : Rw G h1 o oc c p := hO.fr (hfr o (by omega) (by omega)) (hfr (o + 1) (by omega) (by omega))
  have hOl := hO.le
  obtain ⟨ou, ho0, ho1, hoc, hoc2, hoch, hout, hotx⟩ := id hO1
  refine e_aload_n X d_Gap_put_5 rfl ?_
  refine e_aload_n X d_Gap_put_6 rfl ?_
  refine e_get X d_Gap_put_7 fl_Gap_9 hd0 (by omega) rfl ?_
  refine z_iload_n X d_Gap_put_10 rfl ?_
  refine z_callV_V X d_Gap_put_11 cv_Gap_30 (c_Row_copyInto hO1 (by omega) hd1 (by omega) (by omega) hch1) ho0 (by omega) rfl rfl ⟨rfl, rfl⟩ rfl (fun h4 hp5 => ?_)
  obtain ⟨v1, hw1, hwc, hwa, hwb, hwf⟩ := hp5
  have c7 := (hwf i (by omega)).trans hd0
  have c8 := (hwf o (by omega)).trans ho0
  refine e_aload_n X d_Gap_put_14 rfl ?_
  refine e_dup X d_Gap_put_15 rfl ?_
  refine e_get X d_Gap_put_16 fl_Gap_15 c7 (by omega) rfl ?_
  refine e_aload_n X d_Gap_put_19 rfl ?_
  have hO2 : Rw G h4 o oc c p := hO1.fr (hwf o (by omega)) (hwf (o + 1) (by omega))
  refine z_callV_I X d_Gap_put_20 cv_Gap_36 (c_Row_length hO2 (by omega)) c8 (by omega) rfl rfl ⟨rfl, rfl⟩ rfl (fun z11 h9 hp10 => ?_)
  obtain ⟨rfl, hh12⟩ := hp10
  rw [hh12]
  refine z_iadd X d_Gap_put_23 ?_
  refine z_top (show _ = ((a + c : Nat) : Int) by omega) ?_
  refine z_put X d_Gap_put_24 fl_Gap_15 c7 (by omega) (Nat.le_of_ble_eq_true rfl) rfl rfl (fun h13 c14 fr15 => ?_)
  have c14 : h13 i = ob ci_Gap [.ref (ad (g_b G) (i + 1)), vI ((a + c : Nat) : Int), vI ((a + g : Nat) : Int)] := c14
  have c16 := (fr15 (i + 1) (by omega)).trans hw1
  have c17 := (fr15 o (by omega)).trans c8
  have e0 := c14
  have e1 := c16
  rw [show a + g = a + c + (g - c) by omega] at e0
  exact z_return X Q d_Gap_put_27 ⟨⟨a + c, g - c, _, e0, e1, hcap2, by omega, by omega, hwc, (gap_put hv1 hv2 (by omega) hwa hwb).1, (gap_put hv1 hv2 (by omega) hwa hwb).2, by have h9 := tx_ed_ok (c := c) (p := p) htx (Nat.le_refl a) ha hotx.1; rw [Nat.sub_self, Nat.sub_zero] at h9; exact h9⟩, fun j q1 q2 => (fr15 j q1).trans ((hwf j q2).trans (hfr j q1 q2))⟩

