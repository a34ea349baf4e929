/-! RowText: its cell i, its row i + 1 -/
def Rw (G : lx_G) (h : Nat → va_E) (i cap n : Nat) (t : Nat → Int) : Prop := ∃ u : Nat → Int, h i = ob ci_Row [.ref (ad (g_b G) (i + 1)), vI (n : Int)] ∧ h (i + 1) = rC G cap u ∧ n ≤ cap ∧ cap ≤ 160 ∧ (∀ k, k < cap → 0 ≤ u k ∧ u k < 65536) ∧ (∀ k, k < n → u k = t k) ∧ tx_ok n t
theorem Rw.fr {G : lx_G} {h h' : Nat → va_E} {i cap n : Nat} {t : Nat → Int} (hT : Rw G h i cap n t) (e0 : h' i = h i) (e1 : h' (i + 1) = h (i + 1)) : Rw G h' i cap n t := by
  obtain ⟨u, c0, c1, r⟩ := hT
  exact ⟨u, e0.trans c0, e1.trans c1, r⟩
theorem Rw.ok {G : lx_G} {h : Nat → va_E} {i cap n : Nat} {t : Nat → Int} (hT : Rw G h i cap n t) : tx_ok n t := by
  obtain ⟨u, c0, c1, h1, h2, h3, h4, h5⟩ := hT
  exact h5
theorem Rw.le {G : lx_G} {h : Nat → va_E} {i cap n : Nat} {t : Nat → Int} (hT : Rw G h i cap n t) : n ≤ cap ∧ cap ≤ 160 := by
  obtain ⟨u, c0, c1, h1, h2, h3, h4, h5⟩ := hT
  exact ⟨h1, h2⟩

set_option maxRecDepth 100000 in
set_option maxHeartbeats 4000000 in
theorem c_Row_length {l : Launch} {G : lx_G} {N : Nat} {h : Nat → va_E} {i cap n : Nat} {t : Nat → Int} (hT : Rw G h i cap n t) (hN : i + 1 < N) : CtI l G m_Row_length N [.ref (ad (g_b G) i)] h (fun z h' => z = (n : Int) ∧ h' = h) := by
  obtain ⟨u, hc0, hc1, hcap, hcap2, hch, hut, htx⟩ := hT
  refine zI_of (by decide) rfl rfl ?_
  intro k X Q
  have X : Cx k G R_Row b_Row_length 1 rm_Row_length := X
  have Q : Rt k G (some (.int)) N 0 0 (pI (fun z h' => z = (n : Int) ∧ h' = h)) := Q
  show Ev k G 1 N 0 0 h 0 [some (.ref (ad (g_b G) i))] []
  refine e_aload_n X d_Row_length_0 rfl ?_
  refine e_get X d_Row_length_1 fl_Row_15 hc0 (by omega) rfl ?_
  exact z_ireturn X Q d_Row_length_4 rfl ⟨rfl, rfl⟩

set_option maxRecDepth 100000 in
set_option maxHeartbeats 4000000 in
theorem c_Row_at {l : Launch} {G : lx_G} {N : Nat} {h : Nat → va_E} {i cap n : Nat} {t : Nat → Int} {a : Int} (hT : Rw G h i cap n t) (hN : i + 1 < N) (ha : -2147483648 ≤ a ∧ a < 2147483648) : CtI l G m_Row_at N [.ref (ad (g_b G) i), vI (a)] h (fun z h' => z = tat t a ∧ h' = h) := by
  obtain ⟨u, hc0, hc1, hcap, hcap2, hch, hut, htx⟩ := hT
  refine zI_of (by decide) rfl rfl ?_
  intro k X Q
  have X : Cx k G R_Row b_Row_at 2 rm_Row_at := X
  have Q : Rt k G (some (.int)) N 0 0 (pI (fun z h' => z = tat t a ∧ h' = h)) := Q
  show Ev k G 2 N 0 0 h 0 [some (.ref (ad (g_b G) i)), some (vI (a))] []
  refine z_iload_n X d_Row_at_0 rfl ?_
  refine z_if_lt (tgt := 21) X d_Row_at_1 (by decide) (by omega) (fun q1 => ?_) (fun q1 => ?_)
  · refine z_iconst X d_Row_at_21 ?_
    exact z_ireturn X Q d_Row_at_22 rfl ⟨(tat_neg q1).symm, rfl⟩
  · refine z_iload_n X d_Row_at_4 rfl ?_
    refine e_aload_n X d_Row_at_5 rfl ?_
    refine e_get X d_Row_at_6 fl_Row_15 hc0 (by omega) rfl ?_
    refine z_icmp_ge (tgt := 21) X d_Row_at_9 (by decide) (by omega) (fun q2 => ?_) (fun q2 => ?_)
    · refine z_iconst X d_Row_at_21 ?_
      exact z_ireturn X Q d_Row_at_22 rfl ⟨(tat_ge htx q2).symm, rfl⟩
    · obtain ⟨j, rfl⟩ : ∃ j : Nat, a = (j : Int) := ⟨a.toNat, by omega⟩
      refine e_aload_n X d_Row_at_12 rfl ?_
      refine e_get X d_Row_at_13 fl_Row_9 hc0 (by omega) rfl ?_
      refine z_iload_n X d_Row_at_16 rfl ?_
      refine z_cald X d_Row_at_17 (j := j) hc1 (by omega) (by omega) (by omega) ?_
      refine e_goto (tgt := 22) X d_Row_at_18 (by decide) ?_
      exact z_ireturn X Q d_Row_at_22 rfl ⟨(hut j (by omega)).trans (tat_n t j).symm, rfl⟩

set_option maxRecDepth 100000 in
set_option maxHeartbeats 4000000 in
theorem c_Row_cut {l : Launch} {G : lx_G} {N : Nat} {h : Nat → va_E} {i cap n : Nat} {t : Nat → Int} {a b : Nat} (hT : Rw G h i cap n t) (hN : i + 1 < N) (hab : a ≤ b) (hb : b ≤ n) : CtV l G m_Row_cut N [.ref (ad (g_b G) i), vI ((a : Nat) : Int), vI ((b : Nat) : Int)] h (fun h' => Rw G h' i cap (n - (b - a)) (tx_ed t a b 0 t) ∧ ∀ j, j ≠ i → j ≠ i + 1 → h' j = h j) := by
  obtain ⟨u, hc0, hc1, hcap, hcap2, hch, hut, htx⟩ := hT
  refine zV_of (by decide) rfl rfl ?_
  intro k X Q
  have X : Cx k G R_Row b_Row_cut 3 rm_Row_cut := X
  have Q : Rt k G none N 0 0 (pV (fun h' => Rw G h' i cap (n - (b - a)) (tx_ed t a b 0 t) ∧ ∀ j, j ≠ i → j ≠ i + 1 → h' j = h j)) := Q
  show Ev k G 3 N 0 0 h 0 [some (.ref (ad (g_b G) i)), some (vI ((a : Nat) : Int)), some (vI ((b : Nat) : Int))] []
  refine e_aload_n X d_Row_cut_0 rfl ?_
  refine e_get X d_Row_cut_1 fl_Row_9 hc0 (by omega) rfl ?_
  refine z_iload_n X d_Row_cut_4 rfl ?_
  refine e_aload_n X d_Row_cut_5 rfl ?_
  refine e_get X d_Row_cut_6 fl_Row_9 hc0 (by omega) rfl ?_
  refine z_iload_n X d_Row_cut_9 rfl ?_
  refine e_aload_n X d_Row_cut_10 rfl ?_
  refine e_get X d_Row_cut_11 fl_Row_15 hc0 (by omega) rfl ?_
  refine z_iload_n X d_Row_cut_14 rfl ?_
  refine z_isub X d_Row_cut_15 ?_
  refine z_ccopy X d_Row_cut_16 ac_Row (sp := b) (dp := a) (n := n - b) hc1 (by omega) hc1 (by omega) (by omega) (by omega) (fun k9 hk9 => hch _ (by omega)) ⟨Nat.le_of_ble_eq_true rfl, Nat.le_of_ble_eq_true rfl⟩ (fun h1 c2 fr3 => ?_)
  have c4 := (fr3 i (by omega)).trans hc0
  refine e_aload_n X d_Row_cut_19 rfl ?_
  refine e_dup X d_Row_cut_20 rfl ?_
  refine e_get X d_Row_cut_21 fl_Row_15 c4 (by omega) rfl ?_
  refine z_iload_n X d_Row_cut_24 rfl ?_
  refine z_iload_n X d_Row_cut_25 rfl ?_
  refine z_isub X d_Row_cut_26 ?_
  refine z_isub X d_Row_cut_27 ?_
  refine z_top (show _ = ((n - (b - a) : Nat) : Int) by omega) ?_
  refine z_put X d_Row_cut_28 fl_Row_15 c4 (by omega) (Nat.le_of_ble_eq_true rfl) rfl rfl (fun h5 c6 fr7 => ?_)
  have c6 : h5 i = ob ci_Row [.ref (ad (g_b G) (i + 1)), vI ((n - (b - a) : Nat) : Int)] := c6
  have c8 := (fr7 (i + 1) (by omega)).trans c2
  have e0 := c6
  have e1 := c8
  exact z_return X Q d_Row_cut_31 ⟨⟨_, e0, e1, by omega, hcap2, zcp_ch hch hch (by omega), row_cut hut hab hb, tx_ed_ok htx hab hb (fun k9 hk9 => absurd hk9 (Nat.not_lt_zero _))⟩, fun j q1 q2 => (fr7 j q1).trans (fr3 j q2)⟩

set_option maxRecDepth 100000 in
set_option maxHeartbeats 4000000 in
theorem c_Row_copyInto {l : Launch} {G : lx_G} {N : Nat} {h : Nat → va_E} {i cap n : Nat} {t : Nat → Int} {r cr a : Nat} {v : Nat → Int} (hT : Rw G h i cap n t) (hN : i + 1 < N) (hr : h r = rC G cr v) (hrN : r < N ∧ r ≠ i ∧ r ≠ i + 1) (hcr : cr ≤ 160 ∧ a + n ≤ cr) (hv : ∀ k, k < cr → 0 ≤ v k ∧ v k < 65536) : CtV l G m_Row_copyInto N [.ref (ad (g_b G) i), .ref (ad (g_b G) r), vI ((a : Nat) : Int)] h (fun h' => ∃ v', h' r = rC G cr v' ∧ (∀ k, k < cr → 0 ≤ v' k ∧ v' k < 65536) ∧ (∀ k, a ≤ k → k < a + n → v' k = t (k - a)) ∧ (∀ k, ¬ (a ≤ k ∧ k < a + n) → v' k = v k) ∧ ∀ j, j ≠ r → h' j = h j) := by
  obtain ⟨u, hc0, hc1, hcap, hcap2, hch, hut, htx⟩ := hT
  refine zV_of (by decide) rfl rfl ?_
  intro k X Q
  have X : Cx k G R_Row b_Row_copyInto 3 rm_Row_copyInto := X
  have Q : Rt k G none N 0 0 (pV (fun h' => ∃ v', h' r = rC G cr v' ∧ (∀ k, k < cr → 0 ≤ v' k ∧ v' k < 65536) ∧ (∀ k, a ≤ k → k < a + n → v' k = t (k - a)) ∧ (∀ k, ¬ (a ≤ k ∧ k < a + n) → v' k = v k) ∧ ∀ j, j ≠ r → h' j = h j)) := Q
  show Ev k G 3 N 0 0 h 0 [some (.ref (ad (g_b G) i)), some (.ref (ad (g_b G) r)), some (vI ((a : Nat) : Int))] []
  refine e_aload_n X d_Row_copyInto_0 rfl ?_
  refine e_get X d_Row_copyInto_1 fl_Row_9 hc0 (by omega) rfl ?_
  refine z_iconst X d_Row_copyInto_4 ?_
  refine e_aload_n X d_Row_copyInto_5 rfl ?_
  refine z_iload_n X d_Row_copyInto_6 rfl ?_
  refine e_aload_n X d_Row_copyInto_7 rfl ?_
  refine e_get X d_Row_copyInto_8 fl_Row_15 hc0 (by omega) rfl ?_
  refine z_ccopy X d_Row_copyInto_11 ac_Row (sp := 0) (dp := a) (n := n) hc1 (by omega) hr (by omega) (by omega) (by omega) (fun k9 hk9 => hch _ (by omega)) ⟨Nat.le_of_ble_eq_true rfl, Nat.le_of_ble_eq_true rfl⟩ (fun h1 c2 fr3 => ?_)
  have c4 := (fr3 i (by omega)).trans hc0
  have c5 := (fr3 (i + 1) (by omega)).trans hc1
  have e1 := c2
  exact z_return X Q d_Row_copyInto_14 ⟨_, e1, zcp_ch hch hv (by omega), fun k9 h1 h2 => by rw [zcp_in ⟨h1, h2⟩, hut _ (by omega), Nat.zero_add], fun k9 h1 => zcp_out h1, fun j q => fr3 j q⟩

set_option maxRecDepth 100000 in
set_option maxHeartbeats 4000000 in
theorem c_Row_put {l : Launch} {G : lx_G} {N : Nat} {h : Nat → va_E} {i cap n : Nat} {t : Nat → Int} {o oc c a : Nat} {p : Nat → Int} (hT : Rw G h i cap n t) (hN : i + 1 < N) (hO : Rw G h o oc c p) (hoN : o + 1 < N) (hne : o ≠ i ∧ o ≠ i + 1 ∧ o + 1 ≠ i) (ha : a ≤ n) (hfit : n + c ≤ cap) : CtV l G m_Row_put N [.ref (ad (g_b G) i), vI ((a : Nat) : Int), .ref (ad (g_b G) o)] h (fun h' => Rw G h' i cap (n + c) (tx_ed t a a c p) ∧ ∀ j, j ≠ i → j ≠ i + 1 → h' j = h j) := by
  obtain ⟨u, hc0, hc1, hcap, hcap2, hch, hut, htx⟩ := hT
  obtain ⟨ou, ho0, ho1, hoc, hoc2, hoch, hout, hotx⟩ := hO
  refine zV_of (by decide) rfl rfl ?_
  intro k X Q
  have X : Cx k G R_Row b_Row_put 3 rm_Row_put := X
  have Q : Rt k G none N 0 0 (pV (fun h' => Rw G h' i cap (n + c) (tx_ed t a a c p) ∧ ∀ j, j ≠ i → j ≠ i + 1 → h' j = h j)) := Q
  show Ev k G 3 N 0 0 h 0 [some (.ref (ad (g_b G) i)), some (vI ((a : Nat) : Int)), some (.ref (ad (g_b G) o))] []
  refine e_aload_n X d_Row_put_0 rfl ?_
  refine e_get X d_Row_put_1 fl_Row_9 hc0 (by omega) rfl ?_
  refine z_iload_n X d_Row_put_4 rfl ?_
  refine e_aload_n X d_Row_put_5 rfl ?_
  refine e_get X d_Row_put_6 fl_Row_9 hc0 (by omega) rfl ?_
  refine z_iload_n X d_Row_put_9 rfl ?_
  refine e_aload_n X d_Row_put_10 rfl ?_
  refine e_get X d_Row_put_11 fl_Row_15 ho0 (by omega) rfl ?_
  refine z_iadd X d_Row_put_14 ?_
  refine e_aload_n X d_Row_put_15 rfl ?_
  refine e_get X d_Row_put_16 fl_Row_15 hc0 (by omega) rfl ?_
  refine z_iload_n X d_Row_put_19 rfl ?_
  refine z_isub X d_Row_put_20 ?_
  refine z_ccopy X d_Row_put_21 ac_Row (sp := a) (dp := a + c) (n := n - a) hc1 (by omega) hc1 (by omega) (by omega) (by omega) (fun k9 hk9 => hch _ (by omega)) ⟨Nat.le_of_ble_eq_true rfl, Nat.le_of_ble_eq_true rfl⟩ (fun h1 c2 fr3 => ?_)
  have c4 := (fr3 i (by omega)).trans hc0
  have c5 := (fr3 o (by omega)).trans ho0
  have c6 := (fr3 (o + 1) (by omega)).trans ho1
  refine e_aload_n X d_Row_put_24 rfl ?_
  refine e_aload_n X d_Row_put_25 rfl ?_
  refine e_get X d_Row_put_26 fl_Row_9 c4 (by omega) rfl ?_
  refine z_iload_n X d_Row_put_29 rfl ?_
  have hT2 : Rw G h1 o oc c p := ⟨ou, c5, c6, hoc, hoc2, hoch, hout, hotx⟩
  have hch1 := zcp_ch (sp := a) (dp := a + c) (n := n - a) hch hch (by omega)
  refine z_callV_V X d_Row_put_30 cv_Row_25 (c_Row_copyInto hT2 (by omega) c2 (by omega) (by omega) hch1) c5 (by omega) rfl rfl ⟨rfl, rfl⟩ rfl (fun h7 hp8 => ?_)
  obtain ⟨v1, hv1, hvc, hva, hvb, hvf⟩ := hp8
  have c10 := (hvf i (by omega)).trans c4
  have c11 := (hvf o (by omega)).trans c5
  have c12 := (hvf (o + 1) (by omega)).trans c6
  refine e_aload_n X d_Row_put_33 rfl ?_
  refine e_dup X d_Row_put_34 rfl ?_
  refine e_get X d_Row_put_35 fl_Row_15 c10 (by omega) rfl ?_
  refine e_aload_n X d_Row_put_38 rfl ?_
  refine e_get X d_Row_put_39 fl_Row_15 c11 (by omega) rfl ?_
  refine z_iadd X d_Row_put_42 ?_
  refine z_top (show _ = ((n + c : Nat) : Int) by omega) ?_
  refine z_put X d_Row_put_43 fl_Row_15 c10 (by omega) (Nat.le_of_ble_eq_true rfl) rfl rfl (fun h13 c14 fr15 => ?_)
  have c14 : h13 i = ob ci_Row [.ref (ad (g_b G) (i + 1)), vI ((n + c : Nat) : Int)] := c14
  have c16 := (fr15 (i + 1) (by omega)).trans hv1
  have c17 := (fr15 o (by omega)).trans c11
  have c18 := (fr15 (o + 1) (by omega)).trans c12
  have e0 := c14
  have e1 := c16
  exact z_return X Q d_Row_put_46 ⟨⟨_, e0, e1, by omega, hcap2, hvc, row_put hut ha hva hvb, by have h9 := tx_ed_ok (c := c) (p := p) htx (Nat.le_refl a) ha hotx.1; rw [Nat.sub_self, Nat.sub_zero] at h9; exact h9⟩, fun j q1 q2 => (fr15 j q1).trans ((hvf j q2).trans (fr3 j q2))⟩

set_option maxRecDepth 100000 in
set_option maxHeartbeats 4000000 in
theorem c_Row_append {l : Launch} {G : lx_G} {N : Nat} {h : Nat → va_E} {i cap n : Nat} {t : Nat → Int} {x : Int} (hT : Rw G h i cap n t) (hN : i + 1 < N) (hx : 0 ≤ x ∧ x < 65536) : CtI l G m_Row_append N [.ref (ad (g_b G) i), vI (x)] h (fun z h' => (n < cap ∧ z = 1 ∧ Rw G h' i cap (n + 1) (zup t n x) ∧ ∀ j, j ≠ i → j ≠ i + 1 → h' j = h j) ∨ (cap ≤ n ∧ z = 0 ∧ h' = h)) := by
  obtain ⟨u, hc0, hc1, hcap, hcap2, hch, hut, htx⟩ := hT
  refine zI_of (by decide) rfl rfl ?_
  intro k X Q
  have X : Cx k G R_Row b_Row_append 2 rm_Row_append := X
  have Q : Rt k G (some (.boolean)) N 0 0 (pI (fun z h' => (n < cap ∧ z = 1 ∧ Rw G h' i cap (n + 1) (zup t n x) ∧ ∀ j, j ≠ i → j ≠ i + 1 → h' j = h j) ∨ (cap ≤ n ∧ z = 0 ∧ h' = h))) := Q
  show Ev k G 2 N 0 0 h 0 [some (.ref (ad (g_b G) i)), some (vI (x))] []
  refine e_aload_n X d_Row_append_0 rfl ?_
  refine e_get X d_Row_append_1 fl_Row_15 hc0 (by omega) rfl ?_
  refine e_aload_n X d_Row_append_4 rfl ?_
  refine e_get X d_Row_append_5 fl_Row_9 hc0 (by omega) rfl ?_
  refine z_clen X d_Row_append_8 hc1 (by omega) ?_
  refine z_icmp_lt (tgt := 14) X d_Row_append_9 (by decide) (by omega) (fun q1 => ?_) (fun q1 => ?_)
  · refine e_aload_n X d_Row_append_14 rfl ?_
    refine e_get X d_Row_append_15 fl_Row_9 hc0 (by omega) rfl ?_
    refine e_aload_n X d_Row_append_18 rfl ?_
    refine e_get X d_Row_append_19 fl_Row_15 hc0 (by omega) rfl ?_
    refine z_iload_n X d_Row_append_22 rfl ?_
    refine z_cast X d_Row_append_23 (j := n) hc1 (by omega) (by omega) (by omega) (iI_char (by omega)).1 (fun h1 c2 fr3 => ?_)
    have c4 := (fr3 i (by omega)).trans hc0
    refine e_aload_n X d_Row_append_24 rfl ?_
    refine e_dup X d_Row_append_25 rfl ?_
    refine e_get X d_Row_append_26 fl_Row_15 c4 (by omega) rfl ?_
    refine z_iconst X d_Row_append_29 ?_
    refine z_iadd X d_Row_append_30 ?_
    refine z_top (show _ = ((n + 1 : Nat) : Int) by omega) ?_
    refine z_put X d_Row_append_31 fl_Row_15 c4 (by omega) (Nat.le_of_ble_eq_true rfl) rfl rfl (fun h5 c6 fr7 => ?_)
    have c6 : h5 i = ob ci_Row [.ref (ad (g_b G) (i + 1)), vI ((n + 1 : Nat) : Int)] := c6
    have c8 := (fr7 (i + 1) (by omega)).trans c2
    refine z_iconst X d_Row_append_34 ?_
    have e0 := c6
    have e1 := c8
    exact z_ireturn X Q d_Row_append_35 rfl (Or.inl ⟨by omega, rfl, ⟨_, e0, e1, by omega, hcap2, zup_ch hch hx, zup_ag hut, tx_zup htx hx⟩, fun j q1 q2 => (fr7 j q1).trans (fr3 j q2)⟩)
  · refine z_iconst X d_Row_append_12 ?_
    exact z_ireturn X Q d_Row_append_13 rfl (Or.inr ⟨by omega, rfl, rfl⟩)

