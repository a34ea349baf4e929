theorem zup_cp {v s : Nat → Int} {j : Nat} (h : ∀ k, k < j → v k = s k) : ∀ k, k < j + 1 → zup v j (s j) k = s k := by
  intro k hk
  by_cases h8 : k = j
  · rw [h8, zup_eq]
  · rw [zup_ne h8]; exact h k (by omega)
/-! a Text: a RowText or a GapText of 160 -/
def Tx (G : lx_G) (h : Nat → va_E) (i n : Nat) (t : Nat → Int) : Prop := Rw G h i 160 n t ∨ Gp G h i 160 n t
theorem Tx.fr {G : lx_G} {h h' : Nat → va_E} {i n : Nat} {t : Nat → Int} (hT : Tx G h i n t) (e0 : h' i = h i) (e1 : h' (i + 1) = h (i + 1)) : Tx G h' i n t := by
  rcases hT with hT | hT
  · exact Or.inl (hT.fr e0 e1)
  · exact Or.inr (hT.fr e0 e1)
theorem Tx.ok {G : lx_G} {h : Nat → va_E} {i n : Nat} {t : Nat → Int} (hT : Tx G h i n t) : tx_ok n t := by
  rcases hT with hT | hT
  · exact hT.ok
  · exact hT.ok.1
theorem Tx.le {G : lx_G} {h : Nat → va_E} {i n : Nat} {t : Nat → Int} (hT : Tx G h i n t) : n ≤ 160 := by
  rcases hT with hT | hT
  · exact Nat.le_trans hT.le.1 hT.le.2
  · exact hT.ok.2.1
def rOK2 (M M' : lx_M) (R : Room) (cells slots nst : Nat) : Bool := rOKb M R cells slots nst && rOKb M' R cells slots nst
section TX
variable {k : lx_K} {G : lx_G} {own : String} {cc : ByteArray} {nL N cells slots pc : Nat} {R : Room} {h : Nat → va_E} {L : List (Option Value)} {rest : List Value}
theorem z_Tlen (X : Cx k G own cc nL R) {idx cnt i n : Nat} {t : Nat → Int}  (hd : decode cc pc = .ok (.invokeinterface idx cnt, 5)) (hC1 : CFM own idx ci_Row y_Txt_length m_Row_length 0) (hC2 : CFM own idx ci_Gap y_Txt_length m_Gap_length 0) (hT : Tx G h i n t) (hi : i + 1 < N)  (hR : rOK2 m_Row_length m_Gap_length R cells slots (rest.map fun v => v.category).sum = true) (kk : Ev k G nL N cells slots h (pc + 5) L (vI (n : Int) :: rest)) : Ev k G nL N cells slots h pc L (.ref (ad (g_b G) i) :: rest) := by
  simp only [rOK2, Bool.and_eq_true] at hR
  rcases hT with hT | hT
  · obtain ⟨u, hc0, -⟩ := id hT
    refine z_callF_I X hd hC1 (As := []) (c_Row_length hT hi) hc0 (by omega) rfl rfl ⟨rfl, rfl⟩ hR.1 (fun z h1 hp => ?_)
    obtain ⟨rfl, rfl⟩ := hp
    exact kk
  · obtain ⟨gs, g, u, hc0, -⟩ := id hT
    refine z_callF_I X hd hC2 (As := []) (c_Gap_length hT hi) hc0 (by omega) rfl rfl ⟨rfl, rfl⟩ hR.2 (fun z h1 hp => ?_)
    obtain ⟨rfl, rfl⟩ := hp
    exact kk
theorem z_Tat (X : Cx k G own cc nL R) {idx cnt i n : Nat} {t : Nat → Int} {a : Int} (hd : decode cc pc = .ok (.invokeinterface idx cnt, 5)) (hC1 : CFM own idx ci_Row y_Txt_at m_Row_at 1) (hC2 : CFM own idx ci_Gap y_Txt_at m_Gap_at 1) (hT : Tx G h i n t) (hi : i + 1 < N) (ha : -2147483648 ≤ a ∧ a < 2147483648) (hR : rOK2 m_Row_at m_Gap_at R cells slots (rest.map fun v => v.category).sum = true) (kk : Ev k G nL N cells slots h (pc + 5) L (vI (tat t a) :: rest)) : Ev k G nL N cells slots h pc L (vI a :: .ref (ad (g_b G) i) :: rest) := by
  simp only [rOK2, Bool.and_eq_true] at hR
  rcases hT with hT | hT
  · obtain ⟨u, hc0, -⟩ := id hT
    refine z_callF_I X hd hC1 (As := [vI a]) (c_Row_at hT hi ha) hc0 (by omega) rfl rfl ⟨rfl, rfl⟩ hR.1 (fun z h1 hp => ?_)
    obtain ⟨rfl, rfl⟩ := hp
    exact kk
  · obtain ⟨gs, g, u, hc0, -⟩ := id hT
    refine z_callF_I X hd hC2 (As := [vI a]) (c_Gap_at hT hi ha) hc0 (by omega) rfl rfl ⟨rfl, rfl⟩ hR.2 (fun z h1 hp => ?_)
    obtain ⟨rfl, rfl⟩ := hp
    exact kk
end TX
set_option maxRecDepth 100000 in
set_option maxHeartbeats 4000000 in
theorem c_Row_become {l : Launch} {G : lx_G} {N : Nat} {h : Nat → va_E} {i cap n o m : Nat} {t s : Nat → Int} (hT : Rw G h i cap n t) (hN : i + 1 < N) (hO : Tx G h o m s) (hoN : o + 1 < N) (hne : o ≠ i ∧ o ≠ i + 1 ∧ o + 1 ≠ i) (hmc : m ≤ cap) : CtV l G m_Row_become N [.ref (ad (g_b G) i), .ref (ad (g_b G) o)] h (fun h' => Rw G h' i cap m s ∧ ∀ j, j ≠ i → j ≠ i + 1 → h' j = h j) := by
  obtain ⟨u, hc0, hc1, hcap, hcap2, hch, hut, htx⟩ := hT
  refine zV_of (by decide) rfl rfl ?_
  intro k X Q
  have X : Cx k G R_Row b_Row_become 3 rm_Row_become := X
  have Q : Rt k G none N 0 0 (pV (fun h' => Rw G h' i cap m s ∧ ∀ j, j ≠ i → j ≠ i + 1 → h' j = h j)) := Q
  show Ev k G 3 N 0 0 h 0 [some (.ref (ad (g_b G) i)), some (.ref (ad (g_b G) o)), none] []
  refine e_aload_n X d_Row_become_0 rfl ?_
  refine e_aload_n X d_Row_become_1 rfl ?_
  refine z_Tlen X d_Row_become_2 cf_Row_29_Row cf_Row_29_Gap hO (by omega) rfl ?_
  refine z_put X d_Row_become_7 fl_Row_15 hc0 (by omega) (Nat.le_of_ble_eq_true rfl) rfl rfl (fun h1 c2 fr3 => ?_)
  have c2 : h1 i = ob ci_Row [.ref (ad (g_b G) (i + 1)), vI ((m : Nat) : Int)] := c2
  have c4 := (fr3 (i + 1) (by omega)).trans hc1
  refine z_iconst X d_Row_become_10 ?_
  refine e_istore_n X d_Row_become_11 (by decide) ?_
  have loop : ∀ (d9 : Nat) (j : Nat) (v : Nat → Int) (h2 : Nat → va_E), m - j < d9 → j ≤ m → h2 i = ob ci_Row [.ref (ad (g_b G) (i + 1)), vI (m : Int)] → h2 (i + 1) = rC G cap v → (∀ k, k < cap → 0 ≤ v k ∧ v k < 65536) → (∀ k, k < j → v k = s k) → (∀ q, q ≠ i → q ≠ i + 1 → h2 q = h q) → Ev k G 3 N 0 0 h2 12 [some (.ref (ad (g_b G) i)), some (.ref (ad (g_b G) o)), some (vI ((j : Nat) : Int))] [] := by
    intro d9
    induction d9 with
    | zero =>
      intro j v h2 hm9
      exact absurd hm9 (Nat.not_lt_zero _)
    | succ d9 ih =>
      intro j v h2 hm9 hj e0 e1 hv hs hf
      refine z_iload_n X d_Row_become_12 rfl ?_
      refine e_aload_n X d_Row_become_13 rfl ?_
      refine e_get X d_Row_become_14 fl_Row_15 e0 (by omega) rfl ?_
      refine z_icmp_ge (tgt := 40) X d_Row_become_17 (by decide) (by omega) (fun q1 => ?_) (fun q1 => ?_)
      · have hjm : j = m := by omega
        subst hjm
        exact z_return X Q d_Row_become_40 ⟨⟨v, e0, e1, hmc, hcap2, hv, hs, hO.ok⟩, hf⟩
      · refine e_aload_n X d_Row_become_20 rfl ?_
        refine e_get X d_Row_become_21 fl_Row_9 e0 (by omega) rfl ?_
        refine z_iload_n X d_Row_become_24 rfl ?_
        refine e_aload_n X d_Row_become_25 rfl ?_
        refine z_iload_n X d_Row_become_26 rfl ?_
        have hO2 : Tx G h2 o m s := hO.fr (hf o (by omega) (by omega)) (hf (o + 1) (by omega) (by omega))
        have hsj := hO.ok.1 j (by omega)
        refine z_Tat X d_Row_become_27 cf_Row_34_Row cf_Row_34_Gap hO2 (by omega) (by omega) rfl ?_
        refine z_top (tat_n s j) ?_
        refine z_i2c X d_Row_become_32 (by omega) ?_
        refine z_cast X d_Row_become_33 (j := j) e1 (by omega) (by omega) (by omega) (iI_char (by omega)).1 (fun h5 c6 fr7 => ?_)
        have c8 := (fr7 i (by omega)).trans e0
        refine z_iinc X d_Row_become_34 rfl (by decide) ?_
        refine e_goto (tgt := 12) X d_Row_become_37 (by decide) ?_
        exact ih (j + 1) _ _ (by omega) (by omega) c8 c6 (zup_ch hv hsj) (zup_cp hs) (fun q q1 q2 => (fr7 q q2).trans (hf q q1 q2))
  exact loop _ 0 u _ (Nat.lt_succ_self _) (Nat.zero_le _) c2 c4 hch (fun k9 h9 => absurd h9 (Nat.not_lt_zero _)) (fun q q1 q2 => fr3 q q1)

set_option maxRecDepth 100000 in
set_option maxHeartbeats 4000000 in
theorem c_Gap_become {l : Launch} {G : lx_G} {N : Nat} {h : Nat → va_E} {i cap n o m : Nat} {t s : Nat → Int} (hT : Gp G h i cap n t) (hN : i + 1 < N) (hO : Tx G h o m s) (hoN : o + 1 < N) (hne : o ≠ i ∧ o ≠ i + 1 ∧ o + 1 ≠ i) (hmc : m ≤ cap) : CtV l G m_Gap_become N [.ref (ad (g_b G) i), .ref (ad (g_b G) o)] h (fun h' => Gp G h' i cap m s ∧ ∀ j, j ≠ i → j ≠ i + 1 → h' j = h j) := by
  obtain ⟨gs, g, u, hc0, hc1, hcap2, hgs, hg, hch, hu1, hu2, htx⟩ := hT
  refine zV_of (by decide) rfl rfl ?_
  intro k X Q
  have X : Cx k G R_Gap b_Gap_become 3 rm_Gap_become := X
  have Q : Rt k G none N 0 0 (pV (fun h' => Gp G h' i cap m s ∧ ∀ j, j ≠ i → j ≠ i + 1 → h' j = h j)) := Q
  show Ev k G 3 N 0 0 h 0 [some (.ref (ad (g_b G) i)), some (.ref (ad (g_b G) o)), none] []
  refine e_aload_n X d_Gap_become_0 rfl ?_
  refine e_aload_n X d_Gap_become_1 rfl ?_
  refine z_Tlen X d_Gap_become_2 cf_Gap_37_Row cf_Gap_37_Gap hO (by omega) rfl ?_
  refine z_put X d_Gap_become_7 fl_Gap_15 hc0 (by omega) (Nat.le_of_ble_eq_true rfl) rfl rfl (fun h1 c2 fr3 => ?_)
  have c2 : h1 i = ob ci_Gap [.ref (ad (g_b G) (i + 1)), vI ((m : Nat) : Int), vI ((gs + g : Nat) : Int)] := c2
  have c4 := (fr3 (i + 1) (by omega)).trans hc1
  refine e_aload_n X d_Gap_become_10 rfl ?_
  refine e_aload_n X d_Gap_become_11 rfl ?_
  refine e_get X d_Gap_become_12 fl_Gap_9 c2 (by omega) rfl ?_
  refine z_clen X d_Gap_become_15 c4 (by omega) ?_
  refine z_put X d_Gap_become_16 fl_Gap_19 c2 (by omega) (Nat.le_of_ble_eq_true rfl) rfl rfl (fun h5 c6 fr7 => ?_)
  have c6 : h5 i = ob ci_Gap [.ref (ad (g_b G) (i + 1)), vI ((m : Nat) : Int), vI ((cap : Nat) : Int)] := c6
  have c8 := (fr7 (i + 1) (by omega)).trans c4
  refine z_iconst X d_Gap_become_19 ?_
  refine e_istore_n X d_Gap_become_20 (by decide) ?_
  have loop : ∀ (d9 : Nat) (j : Nat) (v : Nat → Int) (h2 : Nat → va_E), m - j < d9 → j ≤ m → h2 i = ob ci_Gap [.ref (ad (g_b G) (i + 1)), vI (m : Int), vI (cap : Int)] → h2 (i + 1) = rC G cap v → (∀ k, k < cap → 0 ≤ v k ∧ v k < 65536) → (∀ k, k < j → v k = s k) → (∀ q, q ≠ i → q ≠ i + 1 → h2 q = h q) → Ev k G 3 N 0 0 h2 21 [some (.ref (ad (g_b G) i)), some (.ref (ad (g_b G) o)), some (vI ((j : Nat) : Int))] [] := by
    intro d9
    induction d9 with
    | zero =>
      intro j v h2 hm9
      exact absurd hm9 (Nat.not_lt_zero _)
    | succ d9 ih =>
      intro j v h2 hm9 hj e0 e1 hv hs hf
      refine z_iload_n X d_Gap_become_21 rfl ?_
      refine e_aload_n X d_Gap_become_22 rfl ?_
      refine e_get X d_Gap_become_23 fl_Gap_15 e0 (by omega) rfl ?_
      refine z_icmp_ge (tgt := 49) X d_Gap_become_26 (by decide) (by omega) (fun q1 => ?_) (fun q1 => ?_)
      · have hjm : j = m := by omega
        subst hjm
        have e0 : h2 i = ob ci_Gap [.ref (ad (g_b G) (i + 1)), vI (j : Int), vI ((j + (cap - j) : Nat) : Int)] := by rw [e0, show j + (cap - j) = cap by omega]
        exact z_return X Q d_Gap_become_49 ⟨⟨j, cap - j, v, e0, e1, hcap2, Nat.le_refl _, by omega, hv, hs, fun k9 h9 h8 => absurd h8 (by omega), hO.ok⟩, hf⟩
      · refine e_aload_n X d_Gap_become_29 rfl ?_
        refine e_get X d_Gap_become_30 fl_Gap_9 e0 (by omega) rfl ?_
        refine z_iload_n X d_Gap_become_33 rfl ?_
        refine e_aload_n X d_Gap_become_34 rfl ?_
        refine z_iload_n X d_Gap_become_35 rfl ?_
        have hO2 : Tx G h2 o m s := hO.fr (hf o (by omega) (by omega)) (hf (o + 1) (by omega) (by omega))
        have hsj := hO.ok.1 j (by omega)
        refine z_Tat X d_Gap_become_36 cf_Gap_40_Row cf_Gap_40_Gap hO2 (by omega) (by omega) rfl ?_
        refine z_top (tat_n s j) ?_
        refine z_i2c X d_Gap_become_41 (by omega) ?_
        refine z_cast X d_Gap_become_42 (j := j) e1 (by omega) (by omega) (by omega) (iI_char (by omega)).1 (fun h9 c10 fr11 => ?_)
        have c12 := (fr11 i (by omega)).trans e0
        refine z_iinc X d_Gap_become_43 rfl (by decide) ?_
        refine e_goto (tgt := 21) X d_Gap_become_46 (by decide) ?_
        exact ih (j + 1) _ _ (by omega) (by omega) c12 c10 (zup_ch hv hsj) (zup_cp hs) (fun q q1 q2 => (fr11 q q2).trans (hf q q1 q2))
  exact loop _ 0 u _ (Nat.lt_succ_self _) (Nat.zero_le _) c6 c8 hch (fun k9 h9 => absurd h9 (Nat.not_lt_zero _)) (fun q q1 q2 => (fr7 q q1).trans (fr3 q q1))

