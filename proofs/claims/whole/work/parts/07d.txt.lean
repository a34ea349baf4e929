section TX2
variable {k : lx_K} {G : lx_G} {own : String} {cc : ByteArray} {nL N cells slots pc : Nat} {R : Room} {h : Nat → va_E} {L : List (Option Value)} {rest : List Value}
theorem z_Tcut (X : Cx k G own cc nL R) {idx cnt i n : Nat} {t : Nat → Int} {a b : Nat} (hd : decode cc pc = .ok (.invokeinterface idx cnt, 5)) (hC1 : CFM own idx ci_Row y_Txt_cut m_Row_cut 2) (hC2 : CFM own idx ci_Gap y_Txt_cut m_Gap_cut 2) (hT : Tx G h i n t) (hi : i + 1 < N) (hab : a ≤ b) (hb : b ≤ n) (hR : rOK2 m_Row_cut m_Gap_cut R cells slots (rest.map fun v => v.category).sum = true) (kk : ∀ h1 : Nat → va_E, Tx G h1 i (n - (b - a)) (tx_ed t a b 0 t) → (∀ j, j ≠ i → j ≠ i + 1 → h1 j = h j) → Ev k G nL N cells slots h1 (pc + 5) L rest) : Ev k G nL N cells slots h pc L (vI (b : Int) :: vI (a : Int) :: .ref (ad (g_b G) i) :: rest) := by
  simp only [rOK2, Bool.and_eq_true] at hR
  rcases hT with hT | hT
  · obtain ⟨u, hc0, -⟩ := id hT
    refine z_callF_V X hd hC1 (As := [vI (a : Int), vI (b : Int)]) (c_Row_cut hT hi hab hb) hc0 (by omega) rfl rfl ⟨rfl, rfl⟩ hR.1 (fun h1 hp => ?_)
    exact kk h1 (Or.inl hp.1) hp.2
  · obtain ⟨gs, g, u, hc0, -⟩ := id hT
    refine z_callF_V X hd hC2 (As := [vI (a : Int), vI (b : Int)]) (c_Gap_cut hT hi hab hb) hc0 (by omega) rfl rfl ⟨rfl, rfl⟩ hR.2 (fun h1 hp => ?_)
    exact kk h1 (Or.inr hp.1) hp.2
theorem z_Tput (X : Cx k G own cc nL R) {idx cnt i n : Nat} {t : Nat → Int} {a o oc c : Nat} {p : Nat → Int} (hd : decode cc pc = .ok (.invokeinterface idx cnt, 5)) (hC1 : CFM own idx ci_Row y_Txt_put m_Row_put 2) (hC2 : CFM own idx ci_Gap y_Txt_put m_Gap_put 2) (hT : Tx G h i n t) (hi : i + 1 < N) (hO : Rw G h o oc c p) (hoN : o + 1 < N) (hne : o ≠ i ∧ o ≠ i + 1 ∧ o + 1 ≠ i) (ha : a ≤ n) (hfit : n + c ≤ 160) (hR : rOK2 m_Row_put m_Gap_put R cells slots (rest.map fun v => v.category).sum = true) (kk : ∀ h1 : Nat → va_E, Tx G h1 i (n + c) (tx_ed t a a c p) → (∀ j, j ≠ i → j ≠ i + 1 → h1 j = h j) → Ev k G nL N cells slots h1 (pc + 5) L rest) : Ev k G nL N cells slots h pc L (.ref (ad (g_b G) o) :: vI (a : Int) :: .ref (ad (g_b G) i) :: rest) := by
  simp only [rOK2, Bool.and_eq_true] at hR
  rcases hT with hT | hT
  · obtain ⟨u, hc0, -⟩ := id hT
    refine z_callF_V X hd hC1 (As := [vI (a : Int), .ref (ad (g_b G) o)]) (c_Row_put hT hi hO hoN hne ha hfit) hc0 (by omega) rfl rfl ⟨rfl, rfl⟩ hR.1 (fun h1 hp => ?_)
    exact kk h1 (Or.inl hp.1) hp.2
  · obtain ⟨gs, g, u, hc0, -⟩ := id hT
    refine z_callF_V X hd hC2 (As := [vI (a : Int), .ref (ad (g_b G) o)]) (c_Gap_put hT hi hO hoN hne ha hfit) hc0 (by omega) rfl rfl ⟨rfl, rfl⟩ hR.2 (fun h1 hp => ?_)
    exact kk h1 (Or.inr hp.1) hp.2
theorem z_Tbecome (X : Cx k G own cc nL R) {idx cnt i n : Nat} {t : Nat → Int} {o m : Nat} {s : Nat → Int} (hd : decode cc pc = .ok (.invokeinterface idx cnt, 5)) (hC1 : CFM own idx ci_Row y_Txt_become m_Row_become 1) (hC2 : CFM own idx ci_Gap y_Txt_become m_Gap_become 1) (hT : Tx G h i n t) (hi : i + 1 < N) (hO : Tx G h o m s) (hoN : o + 1 < N) (hne : o ≠ i ∧ o ≠ i + 1 ∧ o + 1 ≠ i) (hR : rOK2 m_Row_become m_Gap_become R cells slots (rest.map fun v => v.category).sum = true) (kk : ∀ h1 : Nat → va_E, Tx G h1 i m s → (∀ j, j ≠ i → j ≠ i + 1 → h1 j = h j) → Ev k G nL N cells slots h1 (pc + 5) L rest) : Ev k G nL N cells slots h pc L (.ref (ad (g_b G) o) :: .ref (ad (g_b G) i) :: rest) := by
  simp only [rOK2, Bool.and_eq_true] at hR
  rcases hT with hT | hT
  · obtain ⟨u, hc0, -⟩ := id hT
    refine z_callF_V X hd hC1 (As := [.ref (ad (g_b G) o)]) (c_Row_become hT hi hO hoN hne hO.le) hc0 (by omega) rfl rfl ⟨rfl, rfl⟩ hR.1 (fun h1 hp => ?_)
    exact kk h1 (Or.inl hp.1) hp.2
  · obtain ⟨gs, g, u, hc0, -⟩ := id hT
    refine z_callF_V X hd hC2 (As := [.ref (ad (g_b G) o)]) (c_Gap_become hT hi hO hoN hne hO.le) hc0 (by omega) rfl rfl ⟨rfl, rfl⟩ hR.2 (fun h1 hp => ?_)
    exact kk h1 (Or.inr hp.1) hp.2
end TX2
