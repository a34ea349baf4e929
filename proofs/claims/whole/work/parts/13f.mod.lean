set_option maxRecDepth 100000 in
set_option maxHeartbeats 4000000 in
theorem c_Mod_step {l : Launch} {G : lx_G} {N : Nat} {h : Nat → va_E} {U Ls K C : Nat → Int} {nw la : Nat} {cl g o en : Int} {Md : Nat → Int} {pts its : Int} {m9 : Nat} {PP CD PL AT : Nat → Int} {T : Nat → tx_T} {X9 : Nat → Int} (hM : MC G h U Ls K C ((nw : Nat) : Int) ((la : Nat) : Int) cl g o en Md ((m9 : Nat) : Int) pts its PP CD PL AT) (hN : 52 ≤ N) (hnl : nw ≤ la ∧ la ≤ 8) (hsl : ∀ j, j ≤ la → Sl U Ls j (T j)) (hm99 : m9 ≤ 160) (hx : ∀ k, k < m9 → Md k = X9 k) (htx9 : tx_ok m9 X9) : CtV l G m_Mod_step N [.ref (ad (g_b G) 42)] h (fun h' => (∃ U' Ls', MC G h' U' Ls' K C ((hp_now nw : Nat) : Int) ((hp_now nw : Nat) : Int) cl g o en Md ((m9 : Nat) : Int) pts its PP CD PL AT ∧ (∀ j, j ≤ hp_now nw → Sl U' Ls' j (hp_T nw T (m9, X9) j)) ∧ ∀ j, 9 ≤ j → j < 13 → ∀ y, Sl U Ls j y → Sl U' Ls' j y) ∧ ∀ q, (q < 42 ∨ 52 ≤ q) → h' q = h q) := by
  refine zV_of (by decide) rfl rfl ?_
  intro k X Q
  have X : Cx k G R_Mod b_Mod_step 2 rm_Mod_step := X
  have Q : Rt k G none N 0 0 (pV (fun h' => (∃ U' Ls', MC G h' U' Ls' K C ((hp_now nw : Nat) : Int) ((hp_now nw : Nat) : Int) cl g o en Md ((m9 : Nat) : Int) pts its PP CD PL AT ∧ (∀ j, j ≤ hp_now nw → Sl U' Ls' j (hp_T nw T (m9, X9) j)) ∧ ∀ j, 9 ≤ j → j < 13 → ∀ y, Sl U Ls j y → Sl U' Ls' j y) ∧ ∀ q, (q < 42 ∨ 52 ≤ q) → h' q = h q)) := Q
  show Ev k G 2 N 0 0 h 0 [some (.ref (ad (g_b G) 42)), none] []
  obtain ⟨d42, d43, d44, d45, d46, d47, d48, d49, d50, d51⟩ := id hM
  refine e_aload_n X d_Mod_step_0 rfl ?_
  refine e_get X d_Mod_step_1 fl_Mod_48 d42 (by omega) rfl ?_
  refine z_bipush X d_Mod_step_4 (by decide) ?_
  refine z_icmp_ne (tgt := 37) X d_Mod_step_6 (by decide) (by omega) (fun q1 => ?_) (fun q1 => ?_)
  · have hlt : nw < 8 := by omega
    refine e_aload_n X d_Mod_step_37 rfl ?_
    refine e_dup X d_Mod_step_38 rfl ?_
    refine e_get X d_Mod_step_39 fl_Mod_48 d42 (by omega) rfl ?_
    refine z_iconst X d_Mod_step_42 ?_
    refine z_iadd X d_Mod_step_43 ?_
    refine z_top (show _ = ((nw + 1 : Nat) : Int) by omega) ?_
    refine z_put X d_Mod_step_44 fl_Mod_48 d42 (by omega) (Nat.le_of_ble_eq_true rfl) rfl rfl (fun h1 c2 fr3 => ?_)
    have c2 : h1 42 = ob ci_Mod [.ref (ad (g_b G) 43), .ref (ad (g_b G) 44), vI ((nw + 1 : Nat) : Int), vI ((la : Nat) : Int), .ref (ad (g_b G) 45), .ref (ad (g_b G) 46), vI (cl), vI (g), vI (o), .ref (ad (g_b G) 47), vI ((m9 : Nat) : Int), vI (pts), .ref (ad (g_b G) 48), .ref (ad (g_b G) 49), vI (its), .ref (ad (g_b G) 50), .ref (ad (g_b G) 51), vI (en)] := c2
    have c4 := (fr3 43 (by omega)).trans d43
    have c5 := (fr3 44 (by omega)).trans d44
    have c6 := (fr3 45 (by omega)).trans d45
    have c7 := (fr3 46 (by omega)).trans d46
    have c8 := (fr3 47 (by omega)).trans d47
    have c9 := (fr3 48 (by omega)).trans d48
    have c10 := (fr3 49 (by omega)).trans d49
    have c11 := (fr3 50 (by omega)).trans d50
    have c12 := (fr3 51 (by omega)).trans d51
    refine e_aload_n X d_Mod_step_47 rfl ?_
    refine e_aload_n X d_Mod_step_48 rfl ?_
    refine e_get X d_Mod_step_49 fl_Mod_48 c2 (by omega) rfl ?_
    refine z_put X d_Mod_step_52 fl_Mod_102 c2 (by omega) (Nat.le_of_ble_eq_true rfl) rfl rfl (fun h13 c14 fr15 => ?_)
    have c14 : h13 42 = ob ci_Mod [.ref (ad (g_b G) 43), .ref (ad (g_b G) 44), vI ((nw + 1 : Nat) : Int), vI ((nw + 1 : Nat) : Int), .ref (ad (g_b G) 45), .ref (ad (g_b G) 46), vI (cl), vI (g), vI (o), .ref (ad (g_b G) 47), vI ((m9 : Nat) : Int), vI (pts), .ref (ad (g_b G) 48), .ref (ad (g_b G) 49), vI (its), .ref (ad (g_b G) 50), .ref (ad (g_b G) 51), vI (en)] := c14
    have c16 := (fr15 43 (by omega)).trans c4
    have c17 := (fr15 44 (by omega)).trans c5
    have c18 := (fr15 45 (by omega)).trans c6
    have c19 := (fr15 46 (by omega)).trans c7
    have c20 := (fr15 47 (by omega)).trans c8
    have c21 := (fr15 48 (by omega)).trans c9
    have c22 := (fr15 49 (by omega)).trans c10
    have c23 := (fr15 50 (by omega)).trans c11
    have c24 := (fr15 51 (by omega)).trans c12
    refine e_aload_n X d_Mod_step_55 rfl ?_
    refine e_aload_n X d_Mod_step_56 rfl ?_
    refine e_get X d_Mod_step_57 fl_Mod_48 c14 (by omega) rfl ?_
    have hM25 : MC G h13 U Ls K C ((nw + 1 : Nat) : Int) ((nw + 1 : Nat) : Int) cl g o en Md ((m9 : Nat) : Int) pts its PP CD PL AT := ⟨c14, c16, c17, c18, c19, c20, c21, c22, c23, c24⟩
    have hfk : ∀ q, (q < 42 ∨ 52 ≤ q) → h13 q = h q := fun q q1 => (fr15 q (by omega)).trans (fr3 q (by omega))
    refine z_callV_V X d_Mod_step_60 cv_Mod_105 (c_Mod_show hM25 hN (by omega) hm99) c14 (by omega) rfl rfl ⟨rfl, rfl⟩ rfl (fun h26 hp27 => ?_)
    obtain ⟨⟨U2, hM5, hu1, hu2⟩, hf5⟩ := hp27
    have hkp : ∀ j y, ¬ j = nw + 1 → Sl U Ls j y → Sl U2 (zup Ls (nw + 1) ((m9 : Nat) : Int)) j y := fun j y hj hy => hy.keep (fun q q1 q2 => hu2 q (by omega)) (zup_ne hj)
    have hnew : Sl U2 (zup Ls (nw + 1) ((m9 : Nat) : Int)) (nw + 1) (m9, X9) := ⟨zup_eq _ _ _, hm99, fun k hk => (hu1 k hk).trans (hx k hk), htx9⟩
    have hn9 : hp_now nw = nw + 1 := if_pos hlt
    have hall : ∀ j, j ≤ nw + 1 → Sl U2 (zup Ls (nw + 1) ((m9 : Nat) : Int)) j (hp_T nw T (m9, X9) j) := by
      intro j hj
      unfold hp_T
      rw [if_pos hlt]
      by_cases h9 : j = nw + 1
      · rw [if_pos h9, h9]; exact hnew
      · rw [if_neg h9]; exact hkp j _ h9 (hsl j (by omega))
    exact z_return X Q d_Mod_step_63 ⟨⟨U2, _, by rw [hn9]; exact hM5, by rw [hn9]; exact hall, fun j j1 j2 y hy => hkp j y (by omega) hy⟩, fun q q1 => (hf5 q q1).trans (hfk q q1)⟩
  · have hn8 : nw = 8 := by omega
    subst hn8
    have hl8 : la = 8 := by omega
    subst hl8
    refine z_iconst X d_Mod_step_9 ?_
    refine e_istore_n X d_Mod_step_10 (by decide) ?_
    have loop : ∀ (d9 : Nat) (s : Nat) (U1 : Nat → Int) (Ls1 : Nat → Int) (h2 : Nat → va_E), 8 - s < d9 → s ≤ 8 → MC G h2 U1 Ls1 K C ((8 : Nat) : Int) ((8 : Nat) : Int) cl g o en Md ((m9 : Nat) : Int) pts its PP CD PL AT → (∀ j, j < s → Sl U1 Ls1 j (T (j + 1))) → (∀ j, s ≤ j → j ≤ 8 → Sl U1 Ls1 j (T j)) → (∀ j, 9 ≤ j → j < 13 → ∀ y, Sl U Ls j y → Sl U1 Ls1 j y) → (∀ q, (q < 42 ∨ 52 ≤ q) → h2 q = h q) → Ev k G 2 N 0 0 h2 11 [some (.ref (ad (g_b G) 42)), some (vI ((s : Nat) : Int))] [] := by
      intro d9
      induction d9 with
      | zero =>
        intro s U1 Ls1 h2 hm9
        exact absurd hm9 (Nat.not_lt_zero _)
      | succ d9 ih =>
        intro s U1 Ls1 h2 hm9 hs hM2 hlo hhi hup9 hf
        obtain ⟨d42b, d43b, d44b, d45b, d46b, d47b, d48b, d49b, d50b, d51b⟩ := id hM2
        refine z_iload_n X d_Mod_step_11 rfl ?_
        refine z_bipush X d_Mod_step_12 (by decide) ?_
        refine z_icmp_ge (tgt := 31) X d_Mod_step_14 (by decide) (by omega) (fun q2 => ?_) (fun q2 => ?_)
        · have hs8 : s = 8 := by omega
          subst hs8
          refine e_aload_n X d_Mod_step_31 rfl ?_
          refine z_bipush X d_Mod_step_32 (by decide) ?_
          refine z_top (show _ = ((7 : Nat) : Int) by omega) ?_
          refine z_put X d_Mod_step_34 fl_Mod_48 d42b (by omega) (Nat.le_of_ble_eq_true rfl) rfl rfl (fun h29 c30 fr31 => ?_)
          have c30 : h29 42 = ob ci_Mod [.ref (ad (g_b G) 43), .ref (ad (g_b G) 44), vI ((7 : Nat) : Int), vI ((8 : Nat) : Int), .ref (ad (g_b G) 45), .ref (ad (g_b G) 46), vI (cl), vI (g), vI (o), .ref (ad (g_b G) 47), vI ((m9 : Nat) : Int), vI (pts), .ref (ad (g_b G) 48), .ref (ad (g_b G) 49), vI (its), .ref (ad (g_b G) 50), .ref (ad (g_b G) 51), vI (en)] := c30
          have c32 := (fr31 43 (by omega)).trans d43b
          have c33 := (fr31 44 (by omega)).trans d44b
          have c34 := (fr31 45 (by omega)).trans d45b
          have c35 := (fr31 46 (by omega)).trans d46b
          have c36 := (fr31 47 (by omega)).trans d47b
          have c37 := (fr31 48 (by omega)).trans d48b
          have c38 := (fr31 49 (by omega)).trans d49b
          have c39 := (fr31 50 (by omega)).trans d50b
          have c40 := (fr31 51 (by omega)).trans d51b
          refine e_aload_n X d_Mod_step_37 rfl ?_
          refine e_dup X d_Mod_step_38 rfl ?_
          refine e_get X d_Mod_step_39 fl_Mod_48 c30 (by omega) rfl ?_
          refine z_iconst X d_Mod_step_42 ?_
          refine z_iadd X d_Mod_step_43 ?_
          refine z_top (show _ = ((7 + 1 : Nat) : Int) by omega) ?_
          refine z_put X d_Mod_step_44 fl_Mod_48 c30 (by omega) (Nat.le_of_ble_eq_true rfl) rfl rfl (fun h41 c42 fr43 => ?_)
          have c42 : h41 42 = ob ci_Mod [.ref (ad (g_b G) 43), .ref (ad (g_b G) 44), vI ((7 + 1 : Nat) : Int), vI ((8 : Nat) : Int), .ref (ad (g_b G) 45), .ref (ad (g_b G) 46), vI (cl), vI (g), vI (o), .ref (ad (g_b G) 47), vI ((m9 : Nat) : Int), vI (pts), .ref (ad (g_b G) 48), .ref (ad (g_b G) 49), vI (its), .ref (ad (g_b G) 50), .ref (ad (g_b G) 51), vI (en)] := c42
          have c44 := (fr43 43 (by omega)).trans c32
          have c45 := (fr43 44 (by omega)).trans c33
          have c46 := (fr43 45 (by omega)).trans c34
          have c47 := (fr43 46 (by omega)).trans c35
          have c48 := (fr43 47 (by omega)).trans c36
          have c49 := (fr43 48 (by omega)).trans c37
          have c50 := (fr43 49 (by omega)).trans c38
          have c51 := (fr43 50 (by omega)).trans c39
          have c52 := (fr43 51 (by omega)).trans c40
          refine e_aload_n X d_Mod_step_47 rfl ?_
          refine e_aload_n X d_Mod_step_48 rfl ?_
          refine e_get X d_Mod_step_49 fl_Mod_48 c42 (by omega) rfl ?_
          refine z_put X d_Mod_step_52 fl_Mod_102 c42 (by omega) (Nat.le_of_ble_eq_true rfl) rfl rfl (fun h53 c54 fr55 => ?_)
          have c54 : h53 42 = ob ci_Mod [.ref (ad (g_b G) 43), .ref (ad (g_b G) 44), vI ((7 + 1 : Nat) : Int), vI ((7 + 1 : Nat) : Int), .ref (ad (g_b G) 45), .ref (ad (g_b G) 46), vI (cl), vI (g), vI (o), .ref (ad (g_b G) 47), vI ((m9 : Nat) : Int), vI (pts), .ref (ad (g_b G) 48), .ref (ad (g_b G) 49), vI (its), .ref (ad (g_b G) 50), .ref (ad (g_b G) 51), vI (en)] := c54
          have c56 := (fr55 43 (by omega)).trans c44
          have c57 := (fr55 44 (by omega)).trans c45
          have c58 := (fr55 45 (by omega)).trans c46
          have c59 := (fr55 46 (by omega)).trans c47
          have c60 := (fr55 47 (by omega)).trans c48
          have c61 := (fr55 48 (by omega)).trans c49
          have c62 := (fr55 49 (by omega)).trans c50
          have c63 := (fr55 50 (by omega)).trans c51
          have c64 := (fr55 51 (by omega)).trans c52
          refine e_aload_n X d_Mod_step_55 rfl ?_
          refine e_aload_n X d_Mod_step_56 rfl ?_
          refine e_get X d_Mod_step_57 fl_Mod_48 c54 (by omega) rfl ?_
          have hM65 : MC G h53 U1 Ls1 K C ((7 + 1 : Nat) : Int) ((7 + 1 : Nat) : Int) cl g o en Md ((m9 : Nat) : Int) pts its PP CD PL AT := ⟨c54, c56, c57, c58, c59, c60, c61, c62, c63, c64⟩
          have hfk : ∀ q, (q < 42 ∨ 52 ≤ q) → h53 q = h q := fun q q1 => ((fr55 q (by omega)).trans ((fr43 q (by omega)).trans (fr31 q (by omega)))).trans (hf q q1)
          refine z_callV_V X d_Mod_step_60 cv_Mod_105 (c_Mod_show hM65 hN (by omega) hm99) c54 (by omega) rfl rfl ⟨rfl, rfl⟩ rfl (fun h66 hp67 => ?_)
          obtain ⟨⟨U2, hM5, hu1, hu2⟩, hf5⟩ := hp67
          have hkp : ∀ j y, ¬ j = 7 + 1 → Sl U1 Ls1 j y → Sl U2 (zup Ls1 (7 + 1) ((m9 : Nat) : Int)) j y := fun j y hj hy => hy.keep (fun q q1 q2 => hu2 q (by omega)) (zup_ne hj)
          have hnew : Sl U2 (zup Ls1 (7 + 1) ((m9 : Nat) : Int)) (7 + 1) (m9, X9) := ⟨zup_eq _ _ _, hm99, fun k hk => (hu1 k hk).trans (hx k hk), htx9⟩
          have hn9 : hp_now 8 = 7 + 1 := if_neg (by omega)
          have hall : ∀ j, j ≤ 7 + 1 → Sl U2 (zup Ls1 (7 + 1) ((m9 : Nat) : Int)) j (hp_T 8 T (m9, X9) j) := by
            intro j hj
            unfold hp_T
            rw [if_neg (show ¬ 8 < 8 by omega)]
            by_cases h9 : j = 8
            · rw [if_pos h9, h9]; exact hnew
            · rw [if_neg h9]; exact hkp j _ (by omega) (hlo j (by omega))
          exact z_return X Q d_Mod_step_63 ⟨⟨U2, _, by rw [hn9]; exact hM5, by rw [hn9]; exact hall, fun j j1 j2 y hy => hkp j y (by omega) (hup9 j j1 j2 y hy)⟩, fun q q1 => (hf5 q q1).trans (hfk q q1)⟩
        · have hsx := hhi (s + 1) (by omega) (by omega)
          refine e_aload_n X d_Mod_step_17 rfl ?_
          refine z_iload_n X d_Mod_step_18 rfl ?_
          refine z_iconst X d_Mod_step_19 ?_
          refine z_iadd X d_Mod_step_20 ?_
          refine z_iload_n X d_Mod_step_21 rfl ?_
          refine z_callV_V X d_Mod_step_22 cv_Mod_99 (c_Mod_copy (a := s + 1) (b := s) hM2 hN (by omega) hsx.1 hsx.2.1) d42b (by omega) rfl rfl ⟨rfl, rfl⟩ rfl (fun h69 hp70 => ?_)
          obtain ⟨⟨U2, hM5, hu1, hu2⟩, hf5⟩ := hp70
          refine z_iinc X d_Mod_step_25 rfl (by decide) ?_
          refine e_goto (tgt := 11) X d_Mod_step_28 (by decide) ?_
          have hkp : ∀ j y, ¬ j = s → Sl U1 Ls1 j y → Sl U2 (zup Ls1 s (((T (s + 1)).1 : Nat) : Int)) j y := fun j y hj hy => hy.keep (fun q q1 q2 => hu2 q (by omega)) (zup_ne hj)
          have hnew : Sl U2 (zup Ls1 s (((T (s + 1)).1 : Nat) : Int)) s (T (s + 1)) := ⟨zup_eq _ _ _, hsx.2.1, fun k hk => (hu1 k hk).trans (hsx.2.2.1 k hk), hsx.2.2.2⟩
          exact ih (s + 1) _ _ _ (by omega) (by omega) hM5 (fun j hj => by rcases Nat.lt_or_ge j s with h9 | h9; exact hkp j _ (by omega) (hlo j h9); rw [show j = s by omega]; exact hnew) (fun j j1 j2 => hkp j _ (by omega) (hhi j (by omega) j2)) (fun j j1 j2 y hy => hkp j y (by omega) (hup9 j j1 j2 y hy)) (fun q q1 => (hf5 q q1).trans (hf q q1))
    exact loop _ 0 U Ls _ (Nat.lt_succ_self _) (Nat.zero_le _) hM (fun j hj => absurd hj (Nat.not_lt_zero _)) (fun j _ j2 => hsl j j2) (fun j _ _ y hy => hy) (fun q _ => rfl)

/-- the reference, by the same words -/
def MD (G : lx_G) (h : Nat → va_E) (now last : Nat) (T : Nat → tx_T) (c : Nat) (p : Nat → Int) (kp : Nat → Bool) (V : Nat → tx_T) (g o en : Int) : Prop :=
  ∃ (U Ls K C Md : Nat → Int) (ml pts its : Int) (PP CD PL AT : Nat → Int), MC G h U Ls K C ((now : Nat) : Int) ((last : Nat) : Int) ((c : Nat) : Int) g o en Md ml pts its PP CD PL AT ∧ (∀ j, j ≤ last → Sl U Ls j (T j)) ∧ (∀ j, 1 ≤ j → j ≤ 4 → kp j = true → Sl U Ls (8 + j) (V j)) ∧ (∀ j, 1 ≤ j → j ≤ 4 → K j = b2z (kp j)) ∧ (∀ k, k < c → C k = p k) ∧ tx_ok c p ∧ c ≤ 24 ∧ (now ≤ last ∧ last ≤ 8) ∧ (g = 0 ∨ g = 1 ∨ g = 3) ∧ (-1 ≤ o ∧ o ≤ 161) ∧ (-1 ≤ en ∧ en ≤ 160)
theorem MD.fr {G : lx_G} {h h' : Nat → va_E} {now last : Nat} {T : Nat → tx_T} {c : Nat} {p : Nat → Int} {kp : Nat → Bool} {V : Nat → tx_T} {g o en : Int} (hM : MD G h now last T c p kp V g o en) (e : ∀ q, 42 ≤ q → q < 52 → h' q = h q) : MD G h' now last T c p kp V g o en := by
  obtain ⟨U, Ls, K, C, Md, ml, pts, its, PP, CD, PL, AT, ⟨m0, m1, m2, m3, m4, m5, m6, m7, m8, m9⟩, r⟩ := hM
  exact ⟨U, Ls, K, C, Md, ml, pts, its, PP, CD, PL, AT, ⟨(e _ (by omega) (by omega)).trans m0, (e _ (by omega) (by omega)).trans m1, (e _ (by omega) (by omega)).trans m2, (e _ (by omega) (by omega)).trans m3, (e _ (by omega) (by omega)).trans m4, (e _ (by omega) (by omega)).trans m5, (e _ (by omega) (by omega)).trans m6, (e _ (by omega) (by omega)).trans m7, (e _ (by omega) (by omega)).trans m8, (e _ (by omega) (by omega)).trans m9⟩, r⟩
set_option maxRecDepth 100000 in
set_option maxHeartbeats 4000000 in
theorem c_Mod_type {l : Launch} {G : lx_G} {N : Nat} {h : Nat → va_E} {now last : Nat} {T : Nat → tx_T} {c : Nat} {p : Nat → Int} {kp : Nat → Bool} {V : Nat → tx_T} {g o en : Int} {x : Int} (hD : MD G h now last T c p kp V g o en) (hN : 52 ≤ N) (hx : 0 ≤ x ∧ x < 65536) : CtI l G m_Mod_type N [.ref (ad (g_b G) 42), vI (x)] h (fun z h' => (c < 24 ∧ z = 1 ∧ MD G h' now last T (c + 1) (zup p c x) kp V g o en ∧ (∀ q, (q < 42 ∨ 52 ≤ q) → h' q = h q)) ∨ (24 ≤ c ∧ z = 0 ∧ MD G h' now last T c p kp V g o en ∧ (∀ q, (q < 42 ∨ 52 ≤ q) → h' q = h q))) := by
  obtain ⟨U, Ls, K, C, Md, ml, pts, its, PP, CD, PL, AT, hM, hsl, hsv, hK, hC, hcx, hc24, hnl, hgg, hoo, hee⟩ := hD
  refine zI_of (by decide) rfl rfl ?_
  intro k X Q
  have X : Cx k G R_Mod b_Mod_type 2 rm_Mod_type := X
  have Q : Rt k G (some (.boolean)) N 0 0 (pI (fun z h' => (c < 24 ∧ z = 1 ∧ MD G h' now last T (c + 1) (zup p c x) kp V g o en ∧ (∀ q, (q < 42 ∨ 52 ≤ q) → h' q = h q)) ∨ (24 ≤ c ∧ z = 0 ∧ MD G h' now last T c p kp V g o en ∧ (∀ q, (q < 42 ∨ 52 ≤ q) → h' q = h q)))) := Q
  show Ev k G 2 N 0 0 h 0 [some (.ref (ad (g_b G) 42)), some (vI (x))] []
  obtain ⟨d42, d43, d44, d45, d46, d47, d48, d49, d50, d51⟩ := id hM
  refine e_aload_n X d_Mod_type_0 rfl ?_
  refine e_get X d_Mod_type_1 fl_Mod_45 d42 (by omega) rfl ?_
  refine z_bipush X d_Mod_type_4 (by decide) ?_
  refine z_icmp_ne (tgt := 11) X d_Mod_type_6 (by decide) (by omega) (fun q1 => ?_) (fun q1 => ?_)
  · refine e_aload_n X d_Mod_type_11 rfl ?_
    refine e_get X d_Mod_type_12 fl_Mod_20 d42 (by omega) rfl ?_
    refine e_aload_n X d_Mod_type_15 rfl ?_
    refine e_get X d_Mod_type_16 fl_Mod_45 d42 (by omega) rfl ?_
    refine z_iload_n X d_Mod_type_19 rfl ?_
    refine z_iast X d_Mod_type_20 (j := c) d46 (by omega) (by omega) (by omega) (fun h1 c2 fr3 => ?_)
    have c4 := (fr3 42 (by omega)).trans d42
    have c5 := (fr3 43 (by omega)).trans d43
    have c6 := (fr3 44 (by omega)).trans d44
    have c7 := (fr3 45 (by omega)).trans d45
    have c8 := (fr3 47 (by omega)).trans d47
    have c9 := (fr3 48 (by omega)).trans d48
    have c10 := (fr3 49 (by omega)).trans d49
    have c11 := (fr3 50 (by omega)).trans d50
    have c12 := (fr3 51 (by omega)).trans d51
    refine e_aload_n X d_Mod_type_21 rfl ?_
    refine e_dup X d_Mod_type_22 rfl ?_
    refine e_get X d_Mod_type_23 fl_Mod_45 c4 (by omega) rfl ?_
    refine z_iconst X d_Mod_type_26 ?_
    refine z_iadd X d_Mod_type_27 ?_
    refine z_top (show _ = ((c + 1 : Nat) : Int) by omega) ?_
    refine z_put X d_Mod_type_28 fl_Mod_45 c4 (by omega) (Nat.le_of_ble_eq_true rfl) rfl rfl (fun h13 c14 fr15 => ?_)
    have c14 : h13 42 = ob ci_Mod [.ref (ad (g_b G) 43), .ref (ad (g_b G) 44), vI ((now : Nat) : Int), vI ((last : Nat) : Int), .ref (ad (g_b G) 45), .ref (ad (g_b G) 46), vI ((c + 1 : Nat) : Int), vI (g), vI (o), .ref (ad (g_b G) 47), vI (ml), vI (pts), .ref (ad (g_b G) 48), .ref (ad (g_b G) 49), vI (its), .ref (ad (g_b G) 50), .ref (ad (g_b G) 51), vI (en)] := c14
    have c16 := (fr15 43 (by omega)).trans c5
    have c17 := (fr15 44 (by omega)).trans c6
    have c18 := (fr15 45 (by omega)).trans c7
    have c19 := (fr15 46 (by omega)).trans c2
    have c20 := (fr15 47 (by omega)).trans c8
    have c21 := (fr15 48 (by omega)).trans c9
    have c22 := (fr15 49 (by omega)).trans c10
    have c23 := (fr15 50 (by omega)).trans c11
    have c24 := (fr15 51 (by omega)).trans c12
    refine z_iconst X d_Mod_type_31 ?_
    exact z_ireturn X Q d_Mod_type_32 rfl (Or.inl ⟨by omega, rfl, ⟨_, _, _, _, _, _, _, _, _, _, _, _, ⟨c14, c16, c17, c18, c19, c20, c21, c22, c23, c24⟩, hsl, hsv, hK, zup_ag hC, tx_zup hcx hx, (by omega), hnl, hgg, hoo, hee⟩, fun q q1 => (fr15 q (by omega)).trans (fr3 q (by omega))⟩)
  · refine z_iconst X d_Mod_type_9 ?_
    exact z_ireturn X Q d_Mod_type_10 rfl (Or.inr ⟨by omega, rfl, ⟨_, _, _, _, _, _, _, _, _, _, _, _, hM, hsl, hsv, hK, hC, hcx, hc24, hnl, hgg, hoo, hee⟩, fun q _ => rfl⟩)

set_option maxRecDepth 100000 in
set_option maxHeartbeats 4000000 in
theorem c_Mod_scrap {l : Launch} {G : lx_G} {N : Nat} {h : Nat → va_E} {now last : Nat} {T : Nat → tx_T} {c : Nat} {p : Nat → Int} {kp : Nat → Bool} {V : Nat → tx_T} {g o en : Int} (hD : MD G h now last T c p kp V g o en) (hN : 52 ≤ N) : CtV l G m_Mod_scrap N [.ref (ad (g_b G) 42)] h (fun h' => MD G h' now last T 0 (fun _ => -1) kp V g o en ∧ (∀ q, (q < 42 ∨ 52 ≤ q) → h' q = h q)) := by
  obtain ⟨U, Ls, K, C, Md, ml, pts, its, PP, CD, PL, AT, hM, hsl, hsv, hK, hC, hcx, hc24, hnl, hgg, hoo, hee⟩ := hD
  refine zV_of (by decide) rfl rfl ?_
  intro k X Q
  have X : Cx k G R_Mod b_Mod_scrap 1 rm_Mod_scrap := X
  have Q : Rt k G none N 0 0 (pV (fun h' => MD G h' now last T 0 (fun _ => -1) kp V g o en ∧ (∀ q, (q < 42 ∨ 52 ≤ q) → h' q = h q))) := Q
  show Ev k G 1 N 0 0 h 0 [some (.ref (ad (g_b G) 42))] []
  obtain ⟨d42, d43, d44, d45, d46, d47, d48, d49, d50, d51⟩ := id hM
  refine e_aload_n X d_Mod_scrap_0 rfl ?_
  refine z_iconst X d_Mod_scrap_1 ?_
  refine z_top (show _ = ((0 : Nat) : Int) by omega) ?_
  refine z_put X d_Mod_scrap_2 fl_Mod_45 d42 (by omega) (Nat.le_of_ble_eq_true rfl) rfl rfl (fun h1 c2 fr3 => ?_)
  have c2 : h1 42 = ob ci_Mod [.ref (ad (g_b G) 43), .ref (ad (g_b G) 44), vI ((now : Nat) : Int), vI ((last : Nat) : Int), .ref (ad (g_b G) 45), .ref (ad (g_b G) 46), vI ((0 : Nat) : Int), vI (g), vI (o), .ref (ad (g_b G) 47), vI (ml), vI (pts), .ref (ad (g_b G) 48), .ref (ad (g_b G) 49), vI (its), .ref (ad (g_b G) 50), .ref (ad (g_b G) 51), vI (en)] := c2
  have c4 := (fr3 43 (by omega)).trans d43
  have c5 := (fr3 44 (by omega)).trans d44
  have c6 := (fr3 45 (by omega)).trans d45
  have c7 := (fr3 46 (by omega)).trans d46
  have c8 := (fr3 47 (by omega)).trans d47
  have c9 := (fr3 48 (by omega)).trans d48
  have c10 := (fr3 49 (by omega)).trans d49
  have c11 := (fr3 50 (by omega)).trans d50
  have c12 := (fr3 51 (by omega)).trans d51
  exact z_return X Q d_Mod_scrap_5 ⟨⟨_, _, _, _, _, _, _, _, _, _, _, _, ⟨c2, c4, c5, c6, c7, c8, c9, c10, c11, c12⟩, hsl, hsv, hK, fun k hk => absurd hk (Nat.not_lt_zero _), ⟨fun i hi => absurd hi (Nat.not_lt_zero _), fun _ _ => rfl⟩, (by omega), hnl, hgg, hoo, hee⟩, fun q q1 => fr3 q (by omega)⟩

set_option maxRecDepth 100000 in
set_option maxHeartbeats 4000000 in
theorem c_Mod_undo {l : Launch} {G : lx_G} {N : Nat} {h : Nat → va_E} {now last : Nat} {T : Nat → tx_T} {c : Nat} {p : Nat → Int} {kp : Nat → Bool} {V : Nat → tx_T} {g o en : Int} (hD : MD G h now last T c p kp V g o en) (hN : 52 ≤ N) : CtI l G m_Mod_undo N [.ref (ad (g_b G) 42)] h (fun z h' => (0 < now ∧ z = 1 ∧ MD G h' (now - 1) last T c p kp V g (-1) en ∧ (∀ q, (q < 42 ∨ 52 ≤ q) → h' q = h q)) ∨ (now = 0 ∧ z = 0 ∧ MD G h' now last T c p kp V g o en ∧ (∀ q, (q < 42 ∨ 52 ≤ q) → h' q = h q))) := by
  obtain ⟨U, Ls, K, C, Md, ml, pts, its, PP, CD, PL, AT, hM, hsl, hsv, hK, hC, hcx, hc24, hnl, hgg, hoo, hee⟩ := hD
  refine zI_of (by decide) rfl rfl ?_
  intro k X Q
  have X : Cx k G R_Mod b_Mod_undo 1 rm_Mod_undo := X
  have Q : Rt k G (some (.boolean)) N 0 0 (pI (fun z h' => (0 < now ∧ z = 1 ∧ MD G h' (now - 1) last T c p kp V g (-1) en ∧ (∀ q, (q < 42 ∨ 52 ≤ q) → h' q = h q)) ∨ (now = 0 ∧ z = 0 ∧ MD G h' now last T c p kp V g o en ∧ (∀ q, (q < 42 ∨ 52 ≤ q) → h' q = h q)))) := Q
  show Ev k G 1 N 0 0 h 0 [some (.ref (ad (g_b G) 42))] []
  obtain ⟨d42, d43, d44, d45, d46, d47, d48, d49, d50, d51⟩ := id hM
  refine e_aload_n X d_Mod_undo_0 rfl ?_
  refine e_get X d_Mod_undo_1 fl_Mod_48 d42 (by omega) rfl ?_
  refine z_if_ne (tgt := 9) X d_Mod_undo_4 (by decide) (by omega) (fun q1 => ?_) (fun q1 => ?_)
  · refine e_aload_n X d_Mod_undo_9 rfl ?_
    refine e_dup X d_Mod_undo_10 rfl ?_
    refine e_get X d_Mod_undo_11 fl_Mod_48 d42 (by omega) rfl ?_
    refine z_iconst X d_Mod_undo_14 ?_
    refine z_isub X d_Mod_undo_15 ?_
    refine z_top (show _ = ((now - 1 : Nat) : Int) by omega) ?_
    refine z_put X d_Mod_undo_16 fl_Mod_48 d42 (by omega) (Nat.le_of_ble_eq_true rfl) rfl rfl (fun h1 c2 fr3 => ?_)
    have c2 : h1 42 = ob ci_Mod [.ref (ad (g_b G) 43), .ref (ad (g_b G) 44), vI ((now - 1 : Nat) : Int), vI ((last : Nat) : Int), .ref (ad (g_b G) 45), .ref (ad (g_b G) 46), vI ((c : Nat) : Int), vI (g), vI (o), .ref (ad (g_b G) 47), vI (ml), vI (pts), .ref (ad (g_b G) 48), .ref (ad (g_b G) 49), vI (its), .ref (ad (g_b G) 50), .ref (ad (g_b G) 51), vI (en)] := c2
    have c4 := (fr3 43 (by omega)).trans d43
    have c5 := (fr3 44 (by omega)).trans d44
    have c6 := (fr3 45 (by omega)).trans d45
    have c7 := (fr3 46 (by omega)).trans d46
    have c8 := (fr3 47 (by omega)).trans d47
    have c9 := (fr3 48 (by omega)).trans d48
    have c10 := (fr3 49 (by omega)).trans d49
    have c11 := (fr3 50 (by omega)).trans d50
    have c12 := (fr3 51 (by omega)).trans d51
    refine e_aload_n X d_Mod_undo_19 rfl ?_
    refine z_iconst X d_Mod_undo_20 ?_
    refine z_put X d_Mod_undo_21 fl_Mod_23 c2 (by omega) (Nat.le_of_ble_eq_true rfl) rfl rfl (fun h13 c14 fr15 => ?_)
    have c14 : h13 42 = ob ci_Mod [.ref (ad (g_b G) 43), .ref (ad (g_b G) 44), vI ((now - 1 : Nat) : Int), vI ((last : Nat) : Int), .ref (ad (g_b G) 45), .ref (ad (g_b G) 46), vI ((c : Nat) : Int), vI (g), vI (-1), .ref (ad (g_b G) 47), vI (ml), vI (pts), .ref (ad (g_b G) 48), .ref (ad (g_b G) 49), vI (its), .ref (ad (g_b G) 50), .ref (ad (g_b G) 51), vI (en)] := c14
    have c16 := (fr15 43 (by omega)).trans c4
    have c17 := (fr15 44 (by omega)).trans c5
    have c18 := (fr15 45 (by omega)).trans c6
    have c19 := (fr15 46 (by omega)).trans c7
    have c20 := (fr15 47 (by omega)).trans c8
    have c21 := (fr15 48 (by omega)).trans c9
    have c22 := (fr15 49 (by omega)).trans c10
    have c23 := (fr15 50 (by omega)).trans c11
    have c24 := (fr15 51 (by omega)).trans c12
    refine z_iconst X d_Mod_undo_24 ?_
    exact z_ireturn X Q d_Mod_undo_25 rfl (Or.inl ⟨by omega, rfl, ⟨_, _, _, _, _, _, _, _, _, _, _, _, ⟨c14, c16, c17, c18, c19, c20, c21, c22, c23, c24⟩, hsl, hsv, hK, hC, hcx, hc24, (by omega), hgg, (by omega), hee⟩, fun q q1 => (fr15 q (by omega)).trans (fr3 q (by omega))⟩)
  · refine z_iconst X d_Mod_undo_7 ?_
    exact z_ireturn X Q d_Mod_undo_8 rfl (Or.inr ⟨by omega, rfl, ⟨_, _, _, _, _, _, _, _, _, _, _, _, hM, hsl, hsv, hK, hC, hcx, hc24, hnl, hgg, hoo, hee⟩, fun q _ => rfl⟩)

set_option maxRecDepth 100000 in
set_option maxHeartbeats 4000000 in
theorem c_Mod_redo {l : Launch} {G : lx_G} {N : Nat} {h : Nat → va_E} {now last : Nat} {T : Nat → tx_T} {c : Nat} {p : Nat → Int} {kp : Nat → Bool} {V : Nat → tx_T} {g o en : Int} (hD : MD G h now last T c p kp V g o en) (hN : 52 ≤ N) : CtI l G m_Mod_redo N [.ref (ad (g_b G) 42)] h (fun z h' => (now < last ∧ z = 1 ∧ MD G h' (now + 1) last T c p kp V g (-1) en ∧ (∀ q, (q < 42 ∨ 52 ≤ q) → h' q = h q)) ∨ (last ≤ now ∧ z = 0 ∧ MD G h' now last T c p kp V g o en ∧ (∀ q, (q < 42 ∨ 52 ≤ q) → h' q = h q))) := by
  obtain ⟨U, Ls, K, C, Md, ml, pts, its, PP, CD, PL, AT, hM, hsl, hsv, hK, hC, hcx, hc24, hnl, hgg, hoo, hee⟩ := hD
  refine zI_of (by decide) rfl rfl ?_
  intro k X Q
  have X : Cx k G R_Mod b_Mod_redo 1 rm_Mod_redo := X
  have Q : Rt k G (some (.boolean)) N 0 0 (pI (fun z h' => (now < last ∧ z = 1 ∧ MD G h' (now + 1) last T c p kp V g (-1) en ∧ (∀ q, (q < 42 ∨ 52 ≤ q) → h' q = h q)) ∨ (last ≤ now ∧ z = 0 ∧ MD G h' now last T c p kp V g o en ∧ (∀ q, (q < 42 ∨ 52 ≤ q) → h' q = h q)))) := Q
  show Ev k G 1 N 0 0 h 0 [some (.ref (ad (g_b G) 42))] []
  obtain ⟨d42, d43, d44, d45, d46, d47, d48, d49, d50, d51⟩ := id hM
  refine e_aload_n X d_Mod_redo_0 rfl ?_
  refine e_get X d_Mod_redo_1 fl_Mod_48 d42 (by omega) rfl ?_
  refine e_aload_n X d_Mod_redo_4 rfl ?_
  refine e_get X d_Mod_redo_5 fl_Mod_102 d42 (by omega) rfl ?_
  refine z_icmp_ne (tgt := 13) X d_Mod_redo_8 (by decide) (by omega) (fun q1 => ?_) (fun q1 => ?_)
  · refine e_aload_n X d_Mod_redo_13 rfl ?_
    refine e_dup X d_Mod_redo_14 rfl ?_
    refine e_get X d_Mod_redo_15 fl_Mod_48 d42 (by omega) rfl ?_
    refine z_iconst X d_Mod_redo_18 ?_
    refine z_iadd X d_Mod_redo_19 ?_
    refine z_top (show _ = ((now + 1 : Nat) : Int) by omega) ?_
    refine z_put X d_Mod_redo_20 fl_Mod_48 d42 (by omega) (Nat.le_of_ble_eq_true rfl) rfl rfl (fun h1 c2 fr3 => ?_)
    have c2 : h1 42 = ob ci_Mod [.ref (ad (g_b G) 43), .ref (ad (g_b G) 44), vI ((now + 1 : Nat) : Int), vI ((last : Nat) : Int), .ref (ad (g_b G) 45), .ref (ad (g_b G) 46), vI ((c : Nat) : Int), vI (g), vI (o), .ref (ad (g_b G) 47), vI (ml), vI (pts), .ref (ad (g_b G) 48), .ref (ad (g_b G) 49), vI (its), .ref (ad (g_b G) 50), .ref (ad (g_b G) 51), vI (en)] := c2
    have c4 := (fr3 43 (by omega)).trans d43
    have c5 := (fr3 44 (by omega)).trans d44
    have c6 := (fr3 45 (by omega)).trans d45
    have c7 := (fr3 46 (by omega)).trans d46
    have c8 := (fr3 47 (by omega)).trans d47
    have c9 := (fr3 48 (by omega)).trans d48
    have c10 := (fr3 49 (by omega)).trans d49
    have c11 := (fr3 50 (by omega)).trans d50
    have c12 := (fr3 51 (by omega)).trans d51
    refine e_aload_n X d_Mod_redo_23 rfl ?_
    refine z_iconst X d_Mod_redo_24 ?_
    refine z_put X d_Mod_redo_25 fl_Mod_23 c2 (by omega) (Nat.le_of_ble_eq_true rfl) rfl rfl (fun h13 c14 fr15 => ?_)
    have c14 : h13 42 = ob ci_Mod [.ref (ad (g_b G) 43), .ref (ad (g_b G) 44), vI ((now + 1 : Nat) : Int), vI ((last : Nat) : Int), .ref (ad (g_b G) 45), .ref (ad (g_b G) 46), vI ((c : Nat) : Int), vI (g), vI (-1), .ref (ad (g_b G) 47), vI (ml), vI (pts), .ref (ad (g_b G) 48), .ref (ad (g_b G) 49), vI (its), .ref (ad (g_b G) 50), .ref (ad (g_b G) 51), vI (en)] := c14
    have c16 := (fr15 43 (by omega)).trans c4
    have c17 := (fr15 44 (by omega)).trans c5
    have c18 := (fr15 45 (by omega)).trans c6
    have c19 := (fr15 46 (by omega)).trans c7
    have c20 := (fr15 47 (by omega)).trans c8
    have c21 := (fr15 48 (by omega)).trans c9
    have c22 := (fr15 49 (by omega)).trans c10
    have c23 := (fr15 50 (by omega)).trans c11
    have c24 := (fr15 51 (by omega)).trans c12
    refine z_iconst X d_Mod_redo_28 ?_
    exact z_ireturn X Q d_Mod_redo_29 rfl (Or.inl ⟨by omega, rfl, ⟨_, _, _, _, _, _, _, _, _, _, _, _, ⟨c14, c16, c17, c18, c19, c20, c21, c22, c23, c24⟩, hsl, hsv, hK, hC, hcx, hc24, (by omega), hgg, (by omega), hee⟩, fun q q1 => (fr15 q (by omega)).trans (fr3 q (by omega))⟩)
  · refine z_iconst X d_Mod_redo_11 ?_
    exact z_ireturn X Q d_Mod_redo_12 rfl (Or.inr ⟨by omega, rfl, ⟨_, _, _, _, _, _, _, _, _, _, _, _, hM, hsl, hsv, hK, hC, hcx, hc24, hnl, hgg, hoo, hee⟩, fun q _ => rfl⟩)

set_option maxRecDepth 100000 in
set_option maxHeartbeats 4000000 in
theorem c_Mod_steps {l : Launch} {G : lx_G} {N : Nat} {h : Nat → va_E} {now last : Nat} {T : Nat → tx_T} {c : Nat} {p : Nat → Int} {kp : Nat → Bool} {V : Nat → tx_T} {g o en : Int} {a : Int} (hD : MD G h now last T c p kp V g o en) (hN : 52 ≤ N) (hr_a : -2147483648 ≤ a ∧ a < 2147483648) : CtI l G m_Mod_steps N [.ref (ad (g_b G) 42), vI (a)] h (fun z h' => z = stp now last a ∧ h' = h) := by
  obtain ⟨U, Ls, K, C, Md, ml, pts, its, PP, CD, PL, AT, hM, hsl, hsv, hK, hC, hcx, hc24, hnl, hgg, hoo, hee⟩ := hD
  refine zI_of (by decide) rfl rfl ?_
  intro k X Q
  have X : Cx k G R_Mod b_Mod_steps 2 rm_Mod_steps := X
  have Q : Rt k G (some (.int)) N 0 0 (pI (fun z h' => z = stp now last a ∧ h' = h)) := Q
  show Ev k G 2 N 0 0 h 0 [some (.ref (ad (g_b G) 42)), some (vI (a))] []
  obtain ⟨d42, d43, d44, d45, d46, d47, d48, d49, d50, d51⟩ := id hM
  refine z_iload_n X d_Mod_steps_0 rfl ?_
  refine z_if_ne (tgt := 11) X d_Mod_steps_1 (by decide) (by omega) (fun q1 => ?_) (fun q1 => ?_)
  · refine z_iload_n X d_Mod_steps_11 rfl ?_
    refine z_iconst X d_Mod_steps_12 ?_
    refine z_icmp_ne (tgt := 28) X d_Mod_steps_13 (by decide) (by omega) (fun q2 => ?_) (fun q2 => ?_)
    · refine z_iconst X d_Mod_steps_28 ?_
      exact z_ireturn X Q d_Mod_steps_29 rfl ⟨by unfold stp; rw [if_neg q1, if_neg q2], rfl⟩
    · refine e_aload_n X d_Mod_steps_16 rfl ?_
      refine e_get X d_Mod_steps_17 fl_Mod_102 d42 (by omega) rfl ?_
      refine e_aload_n X d_Mod_steps_20 rfl ?_
      refine e_get X d_Mod_steps_21 fl_Mod_48 d42 (by omega) rfl ?_
      refine z_isub X d_Mod_steps_24 ?_
      refine e_goto (tgt := 29) X d_Mod_steps_25 (by decide) ?_
      exact z_ireturn X Q d_Mod_steps_29 rfl ⟨by unfold stp; rw [if_neg q1, if_pos q2]; omega, rfl⟩
  · refine e_aload_n X d_Mod_steps_4 rfl ?_
    refine e_get X d_Mod_steps_5 fl_Mod_48 d42 (by omega) rfl ?_
    refine e_goto (tgt := 29) X d_Mod_steps_8 (by decide) ?_
    exact z_ireturn X Q d_Mod_steps_29 rfl ⟨by unfold stp; rw [if_pos q1], rfl⟩

set_option maxRecDepth 100000 in
set_option maxHeartbeats 4000000 in
theorem c_Mod_seal {l : Launch} {G : lx_G} {N : Nat} {h : Nat → va_E} {now last : Nat} {T : Nat → tx_T} {c : Nat} {p : Nat → Int} {kp : Nat → Bool} {V : Nat → tx_T} {g o en : Int} (hD : MD G h now last T c p kp V g o en) (hN : 52 ≤ N) : CtV l G m_Mod_seal N [.ref (ad (g_b G) 42)] h (fun h' => MD G h' now last T c p kp V g (-1) en ∧ (∀ q, (q < 42 ∨ 52 ≤ q) → h' q = h q)) := by
  obtain ⟨U, Ls, K, C, Md, ml, pts, its, PP, CD, PL, AT, hM, hsl, hsv, hK, hC, hcx, hc24, hnl, hgg, hoo, hee⟩ := hD
  refine zV_of (by decide) rfl rfl ?_
  intro k X Q
  have X : Cx k G R_Mod b_Mod_seal 1 rm_Mod_seal := X
  have Q : Rt k G none N 0 0 (pV (fun h' => MD G h' now last T c p kp V g (-1) en ∧ (∀ q, (q < 42 ∨ 52 ≤ q) → h' q = h q))) := Q
  show Ev k G 1 N 0 0 h 0 [some (.ref (ad (g_b G) 42))] []
  obtain ⟨d42, d43, d44, d45, d46, d47, d48, d49, d50, d51⟩ := id hM
  refine e_aload_n X d_Mod_seal_0 rfl ?_
  refine z_iconst X d_Mod_seal_1 ?_
  refine z_put X d_Mod_seal_2 fl_Mod_23 d42 (by omega) (Nat.le_of_ble_eq_true rfl) rfl rfl (fun h1 c2 fr3 => ?_)
  have c2 : h1 42 = ob ci_Mod [.ref (ad (g_b G) 43), .ref (ad (g_b G) 44), vI ((now : Nat) : Int), vI ((last : Nat) : Int), .ref (ad (g_b G) 45), .ref (ad (g_b G) 46), vI ((c : Nat) : Int), vI (g), vI (-1), .ref (ad (g_b G) 47), vI (ml), vI (pts), .ref (ad (g_b G) 48), .ref (ad (g_b G) 49), vI (its), .ref (ad (g_b G) 50), .ref (ad (g_b G) 51), vI (en)] := c2
  have c4 := (fr3 43 (by omega)).trans d43
  have c5 := (fr3 44 (by omega)).trans d44
  have c6 := (fr3 45 (by omega)).trans d45
  have c7 := (fr3 46 (by omega)).trans d46
  have c8 := (fr3 47 (by omega)).trans d47
  have c9 := (fr3 48 (by omega)).trans d48
  have c10 := (fr3 49 (by omega)).trans d49
  have c11 := (fr3 50 (by omega)).trans d50
  have c12 := (fr3 51 (by omega)).trans d51
  exact z_return X Q d_Mod_seal_5 ⟨⟨_, _, _, _, _, _, _, _, _, _, _, _, ⟨c2, c4, c5, c6, c7, c8, c9, c10, c11, c12⟩, hsl, hsv, hK, hC, hcx, hc24, hnl, hgg, (by omega), hee⟩, fun q q1 => fr3 q (by omega)⟩

set_option maxRecDepth 100000 in
set_option maxHeartbeats 4000000 in
theorem c_Mod_guard {l : Launch} {G : lx_G} {N : Nat} {h : Nat → va_E} {now last : Nat} {T : Nat → tx_T} {c : Nat} {p : Nat → Int} {kp : Nat → Bool} {V : Nat → tx_T} {g o en : Int} {a : Int} (hD : MD G h now last T c p kp V g o en) (hN : 52 ≤ N) (hr_a : -2147483648 ≤ a ∧ a < 2147483648) : CtI l G m_Mod_guard N [.ref (ad (g_b G) 42), vI (a)] h (fun z h' => ((a = 0 ∨ a = 1 ∨ a = 3) ∧ z = 1 ∧ MD G h' now last T c p kp V a (-1) en ∧ (∀ q, (q < 42 ∨ 52 ≤ q) → h' q = h q)) ∨ (¬ (a = 0 ∨ a = 1 ∨ a = 3) ∧ z = 0 ∧ MD G h' now last T c p kp V g o en ∧ (∀ q, (q < 42 ∨ 52 ≤ q) → h' q = h q))) := by
  obtain ⟨U, Ls, K, C, Md, ml, pts, its, PP, CD, PL, AT, hM, hsl, hsv, hK, hC, hcx, hc24, hnl, hgg, hoo, hee⟩ := hD
  refine zI_of (by decide) rfl rfl ?_
  intro k X Q
  have X : Cx k G R_Mod b_Mod_guard 2 rm_Mod_guard := X
  have Q : Rt k G (some (.boolean)) N 0 0 (pI (fun z h' => ((a = 0 ∨ a = 1 ∨ a = 3) ∧ z = 1 ∧ MD G h' now last T c p kp V a (-1) en ∧ (∀ q, (q < 42 ∨ 52 ≤ q) → h' q = h q)) ∨ (¬ (a = 0 ∨ a = 1 ∨ a = 3) ∧ z = 0 ∧ MD G h' now last T c p kp V g o en ∧ (∀ q, (q < 42 ∨ 52 ≤ q) → h' q = h q)))) := Q
  show Ev k G 2 N 0 0 h 0 [some (.ref (ad (g_b G) 42)), some (vI (a))] []
  obtain ⟨d42, d43, d44, d45, d46, d47, d48, d49, d50, d51⟩ := id hM
  refine z_iload_n X d_Mod_guard_0 rfl ?_
  refine z_if_eq (tgt := 16) X d_Mod_guard_1 (by decide) (by omega) (fun q1 => ?_) (fun q1 => ?_)
  · refine e_aload_n X d_Mod_guard_16 rfl ?_
    refine z_iload_n X d_Mod_guard_17 rfl ?_
    refine z_put X d_Mod_guard_18 fl_Mod_89 d42 (by omega) (Nat.le_of_ble_eq_true rfl) rfl rfl (fun h2 c3 fr4 => ?_)
    have c3 : h2 42 = ob ci_Mod [.ref (ad (g_b G) 43), .ref (ad (g_b G) 44), vI ((now : Nat) : Int), vI ((last : Nat) : Int), .ref (ad (g_b G) 45), .ref (ad (g_b G) 46), vI ((c : Nat) : Int), vI (a), vI (o), .ref (ad (g_b G) 47), vI (ml), vI (pts), .ref (ad (g_b G) 48), .ref (ad (g_b G) 49), vI (its), .ref (ad (g_b G) 50), .ref (ad (g_b G) 51), vI (en)] := c3
    have c5 := (fr4 43 (by omega)).trans d43
    have c6 := (fr4 44 (by omega)).trans d44
    have c7 := (fr4 45 (by omega)).trans d45
    have c8 := (fr4 46 (by omega)).trans d46
    have c9 := (fr4 47 (by omega)).trans d47
    have c10 := (fr4 48 (by omega)).trans d48
    have c11 := (fr4 49 (by omega)).trans d49
    have c12 := (fr4 50 (by omega)).trans d50
    have c13 := (fr4 51 (by omega)).trans d51
    refine e_aload_n X d_Mod_guard_21 rfl ?_
    refine z_iconst X d_Mod_guard_22 ?_
    refine z_put X d_Mod_guard_23 fl_Mod_23 c3 (by omega) (Nat.le_of_ble_eq_true rfl) rfl rfl (fun h14 c15 fr16 => ?_)
    have c15 : h14 42 = ob ci_Mod [.ref (ad (g_b G) 43), .ref (ad (g_b G) 44), vI ((now : Nat) : Int), vI ((last : Nat) : Int), .ref (ad (g_b G) 45), .ref (ad (g_b G) 46), vI ((c : Nat) : Int), vI (a), vI (-1), .ref (ad (g_b G) 47), vI (ml), vI (pts), .ref (ad (g_b G) 48), .ref (ad (g_b G) 49), vI (its), .ref (ad (g_b G) 50), .ref (ad (g_b G) 51), vI (en)] := c15
    have c17 := (fr16 43 (by omega)).trans c5
    have c18 := (fr16 44 (by omega)).trans c6
    have c19 := (fr16 45 (by omega)).trans c7
    have c20 := (fr16 46 (by omega)).trans c8
    have c21 := (fr16 47 (by omega)).trans c9
    have c22 := (fr16 48 (by omega)).trans c10
    have c23 := (fr16 49 (by omega)).trans c11
    have c24 := (fr16 50 (by omega)).trans c12
    have c25 := (fr16 51 (by omega)).trans c13
    refine z_iconst X d_Mod_guard_26 ?_
    exact z_ireturn X Q d_Mod_guard_27 rfl (Or.inl ⟨by omega, rfl, ⟨_, _, _, _, _, _, _, _, _, _, _, _, ⟨c15, c17, c18, c19, c20, c21, c22, c23, c24, c25⟩, hsl, hsv, hK, hC, hcx, hc24, hnl, (by omega), (by omega), hee⟩, fun q q1 => (fr16 q (by omega)).trans (fr4 q (by omega))⟩)
  · refine z_iload_n X d_Mod_guard_4 rfl ?_
    refine z_iconst X d_Mod_guard_5 ?_
    refine z_icmp_eq (tgt := 16) X d_Mod_guard_6 (by decide) (by omega) (fun q26 => ?_) (fun q26 => ?_)
    · refine e_aload_n X d_Mod_guard_16 rfl ?_
      refine z_iload_n X d_Mod_guard_17 rfl ?_
      refine z_put X d_Mod_guard_18 fl_Mod_89 d42 (by omega) (Nat.le_of_ble_eq_true rfl) rfl rfl (fun h27 c28 fr29 => ?_)
      have c28 : h27 42 = ob ci_Mod [.ref (ad (g_b G) 43), .ref (ad (g_b G) 44), vI ((now : Nat) : Int), vI ((last : Nat) : Int), .ref (ad (g_b G) 45), .ref (ad (g_b G) 46), vI ((c : Nat) : Int), vI (a), vI (o), .ref (ad (g_b G) 47), vI (ml), vI (pts), .ref (ad (g_b G) 48), .ref (ad (g_b G) 49), vI (its), .ref (ad (g_b G) 50), .ref (ad (g_b G) 51), vI (en)] := c28
      have c30 := (fr29 43 (by omega)).trans d43
      have c31 := (fr29 44 (by omega)).trans d44
      have c32 := (fr29 45 (by omega)).trans d45
      have c33 := (fr29 46 (by omega)).trans d46
      have c34 := (fr29 47 (by omega)).trans d47
      have c35 := (fr29 48 (by omega)).trans d48
      have c36 := (fr29 49 (by omega)).trans d49
      have c37 := (fr29 50 (by omega)).trans d50
      have c38 := (fr29 51 (by omega)).trans d51
      refine e_aload_n X d_Mod_guard_21 rfl ?_
      refine z_iconst X d_Mod_guard_22 ?_
      refine z_put X d_Mod_guard_23 fl_Mod_23 c28 (by omega) (Nat.le_of_ble_eq_true rfl) rfl rfl (fun h39 c40 fr41 => ?_)
      have c40 : h39 42 = ob ci_Mod [.ref (ad (g_b G) 43), .ref (ad (g_b G) 44), vI ((now : Nat) : Int), vI ((last : Nat) : Int), .ref (ad (g_b G) 45), .ref (ad (g_b G) 46), vI ((c : Nat) : Int), vI (a), vI (-1), .ref (ad (g_b G) 47), vI (ml), vI (pts), .ref (ad (g_b G) 48), .ref (ad (g_b G) 49), vI (its), .ref (ad (g_b G) 50), .ref (ad (g_b G) 51), vI (en)] := c40
      have c42 := (fr41 43 (by omega)).trans c30
      have c43 := (fr41 44 (by omega)).trans c31
      have c44 := (fr41 45 (by omega)).trans c32
      have c45 := (fr41 46 (by omega)).trans c33
      have c46 := (fr41 47 (by omega)).trans c34
      have c47 := (fr41 48 (by omega)).trans c35
      have c48 := (fr41 49 (by omega)).trans c36
      have c49 := (fr41 50 (by omega)).trans c37
      have c50 := (fr41 51 (by omega)).trans c38
      refine z_iconst X d_Mod_guard_26 ?_
      exact z_ireturn X Q d_Mod_guard_27 rfl (Or.inl ⟨by omega, rfl, ⟨_, _, _, _, _, _, _, _, _, _, _, _, ⟨c40, c42, c43, c44, c45, c46, c47, c48, c49, c50⟩, hsl, hsv, hK, hC, hcx, hc24, hnl, (by omega), (by omega), hee⟩, fun q q1 => (fr41 q (by omega)).trans (fr29 q (by omega))⟩)
    · refine z_iload_n X d_Mod_guard_9 rfl ?_
      refine z_iconst X d_Mod_guard_10 ?_
      refine z_icmp_eq (tgt := 16) X d_Mod_guard_11 (by decide) (by omega) (fun q51 => ?_) (fun q51 => ?_)
      · refine e_aload_n X d_Mod_guard_16 rfl ?_
        refine z_iload_n X d_Mod_guard_17 rfl ?_
        refine z_put X d_Mod_guard_18 fl_Mod_89 d42 (by omega) (Nat.le_of_ble_eq_true rfl) rfl rfl (fun h52 c53 fr54 => ?_)
        have c53 : h52 42 = ob ci_Mod [.ref (ad (g_b G) 43), .ref (ad (g_b G) 44), vI ((now : Nat) : Int), vI ((last : Nat) : Int), .ref (ad (g_b G) 45), .ref (ad (g_b G) 46), vI ((c : Nat) : Int), vI (a), vI (o), .ref (ad (g_b G) 47), vI (ml), vI (pts), .ref (ad (g_b G) 48), .ref (ad (g_b G) 49), vI (its), .ref (ad (g_b G) 50), .ref (ad (g_b G) 51), vI (en)] := c53
        have c55 := (fr54 43 (by omega)).trans d43
        have c56 := (fr54 44 (by omega)).trans d44
        have c57 := (fr54 45 (by omega)).trans d45
        have c58 := (fr54 46 (by omega)).trans d46
        have c59 := (fr54 47 (by omega)).trans d47
        have c60 := (fr54 48 (by omega)).trans d48
        have c61 := (fr54 49 (by omega)).trans d49
        have c62 := (fr54 50 (by omega)).trans d50
        have c63 := (fr54 51 (by omega)).trans d51
        refine e_aload_n X d_Mod_guard_21 rfl ?_
        refine z_iconst X d_Mod_guard_22 ?_
        refine z_put X d_Mod_guard_23 fl_Mod_23 c53 (by omega) (Nat.le_of_ble_eq_true rfl) rfl rfl (fun h64 c65 fr66 => ?_)
        have c65 : h64 42 = ob ci_Mod [.ref (ad (g_b G) 43), .ref (ad (g_b G) 44), vI ((now : Nat) : Int), vI ((last : Nat) : Int), .ref (ad (g_b G) 45), .ref (ad (g_b G) 46), vI ((c : Nat) : Int), vI (a), vI (-1), .ref (ad (g_b G) 47), vI (ml), vI (pts), .ref (ad (g_b G) 48), .ref (ad (g_b G) 49), vI (its), .ref (ad (g_b G) 50), .ref (ad (g_b G) 51), vI (en)] := c65
        have c67 := (fr66 43 (by omega)).trans c55
        have c68 := (fr66 44 (by omega)).trans c56
        have c69 := (fr66 45 (by omega)).trans c57
        have c70 := (fr66 46 (by omega)).trans c58
        have c71 := (fr66 47 (by omega)).trans c59
        have c72 := (fr66 48 (by omega)).trans c60
        have c73 := (fr66 49 (by omega)).trans c61
        have c74 := (fr66 50 (by omega)).trans c62
        have c75 := (fr66 51 (by omega)).trans c63
        refine z_iconst X d_Mod_guard_26 ?_
        exact z_ireturn X Q d_Mod_guard_27 rfl (Or.inl ⟨by omega, rfl, ⟨_, _, _, _, _, _, _, _, _, _, _, _, ⟨c65, c67, c68, c69, c70, c71, c72, c73, c74, c75⟩, hsl, hsv, hK, hC, hcx, hc24, hnl, (by omega), (by omega), hee⟩, fun q q1 => (fr66 q (by omega)).trans (fr54 q (by omega))⟩)
      · refine z_iconst X d_Mod_guard_14 ?_
        exact z_ireturn X Q d_Mod_guard_15 rfl (Or.inr ⟨by omega, rfl, ⟨_, _, _, _, _, _, _, _, _, _, _, _, hM, hsl, hsv, hK, hC, hcx, hc24, hnl, hgg, hoo, hee⟩, fun q _ => rfl⟩)

set_option maxRecDepth 100000 in
set_option maxHeartbeats 4000000 in
theorem c_Mod_end {l : Launch} {G : lx_G} {N : Nat} {h : Nat → va_E} {now last : Nat} {T : Nat → tx_T} {c : Nat} {p : Nat → Int} {kp : Nat → Bool} {V : Nat → tx_T} {g o en : Int} (hD : MD G h now last T c p kp V g o en) (hN : 52 ≤ N) : CtI l G m_Mod_end N [.ref (ad (g_b G) 42)] h (fun z h' => z = en ∧ h' = h) := by
  obtain ⟨U, Ls, K, C, Md, ml, pts, its, PP, CD, PL, AT, hM, hsl, hsv, hK, hC, hcx, hc24, hnl, hgg, hoo, hee⟩ := hD
  refine zI_of (by decide) rfl rfl ?_
  intro k X Q
  have X : Cx k G R_Mod b_Mod_end 1 rm_Mod_end := X
  have Q : Rt k G (some (.int)) N 0 0 (pI (fun z h' => z = en ∧ h' = h)) := Q
  show Ev k G 1 N 0 0 h 0 [some (.ref (ad (g_b G) 42))] []
  obtain ⟨d42, d43, d44, d45, d46, d47, d48, d49, d50, d51⟩ := id hM
  refine e_aload_n X d_Mod_end_0 rfl ?_
  refine e_get X d_Mod_end_1 fl_Mod_42 d42 (by omega) rfl ?_
  exact z_ireturn X Q d_Mod_end_4 rfl ⟨rfl, rfl⟩

set_option maxRecDepth 100000 in
set_option maxHeartbeats 4000000 in
theorem c_Mod_release {l : Launch} {G : lx_G} {N : Nat} {h : Nat → va_E} {now last : Nat} {T : Nat → tx_T} {c : Nat} {p : Nat → Int} {kp : Nat → Bool} {V : Nat → tx_T} {g o en : Int} {a : Int} (hD : MD G h now last T c p kp V g o en) (hN : 52 ≤ N) (hr_a : -2147483648 ≤ a ∧ a < 2147483648) : CtI l G m_Mod_release N [.ref (ad (g_b G) 42), vI (a)] h (fun z h' => ((decide (¬ a = 0) && isv kp a) = true ∧ z = 1 ∧ MD G h' now last T c p (fun i => if i = a.toNat then false else kp i) V g o en ∧ (∀ q, (q < 42 ∨ 52 ≤ q) → h' q = h q)) ∨ ((decide (¬ a = 0) && isv kp a) = false ∧ z = 0 ∧ MD G h' now last T c p kp V g o en ∧ (∀ q, (q < 42 ∨ 52 ≤ q) → h' q = h q))) := by
  obtain ⟨U, Ls, K, C, Md, ml, pts, its, PP, CD, PL, AT, hM, hsl, hsv, hK, hC, hcx, hc24, hnl, hgg, hoo, hee⟩ := hD
  refine zI_of (by decide) rfl rfl ?_
  intro k X Q
  have X : Cx k G R_Mod b_Mod_release 2 rm_Mod_release := X
  have Q : Rt k G (some (.boolean)) N 0 0 (pI (fun z h' => ((decide (¬ a = 0) && isv kp a) = true ∧ z = 1 ∧ MD G h' now last T c p (fun i => if i = a.toNat then false else kp i) V g o en ∧ (∀ q, (q < 42 ∨ 52 ≤ q) → h' q = h q)) ∨ ((decide (¬ a = 0) && isv kp a) = false ∧ z = 0 ∧ MD G h' now last T c p kp V g o en ∧ (∀ q, (q < 42 ∨ 52 ≤ q) → h' q = h q)))) := Q
  show Ev k G 2 N 0 0 h 0 [some (.ref (ad (g_b G) 42)), some (vI (a))] []
  obtain ⟨d42, d43, d44, d45, d46, d47, d48, d49, d50, d51⟩ := id hM
  refine z_iload_n X d_Mod_release_0 rfl ?_
  refine z_iconst X d_Mod_release_1 ?_
  refine z_icmp_lt (tgt := 19) X d_Mod_release_2 (by decide) (by omega) (fun q1 => ?_) (fun q1 => ?_)
  · refine z_iconst X d_Mod_release_19 ?_
    exact z_ireturn X Q d_Mod_release_20 rfl (Or.inr ⟨by unfold isv; by_cases h0 : a = 0; rw [decide_eq_false (show ¬ ¬ a = 0 from fun q9 => q9 h0)]; rfl; rw [decide_eq_false h0, decide_eq_false (show ¬ (1 ≤ a ∧ a ≤ 4) by omega), Bool.false_and, Bool.or_false, Bool.and_false], rfl, ⟨_, _, _, _, _, _, _, _, _, _, _, _, hM, hsl, hsv, hK, hC, hcx, hc24, hnl, hgg, hoo, hee⟩, fun q _ => rfl⟩)
  · refine z_iload_n X d_Mod_release_5 rfl ?_
    refine z_iconst X d_Mod_release_6 ?_
    refine z_icmp_gt (tgt := 19) X d_Mod_release_7 (by decide) (by omega) (fun q2 => ?_) (fun q2 => ?_)
    · refine z_iconst X d_Mod_release_19 ?_
      exact z_ireturn X Q d_Mod_release_20 rfl (Or.inr ⟨by unfold isv; by_cases h0 : a = 0; rw [decide_eq_false (show ¬ ¬ a = 0 from fun q9 => q9 h0)]; rfl; rw [decide_eq_false h0, decide_eq_false (show ¬ (1 ≤ a ∧ a ≤ 4) by omega), Bool.false_and, Bool.or_false, Bool.and_false], rfl, ⟨_, _, _, _, _, _, _, _, _, _, _, _, hM, hsl, hsv, hK, hC, hcx, hc24, hnl, hgg, hoo, hee⟩, fun q _ => rfl⟩)
    · obtain ⟨j, rfl⟩ : ∃ j : Nat, a = (j : Int) := ⟨a.toNat, by omega⟩
      have hrl : (decide (¬ ((j : Nat) : Int) = 0) && isv kp ((j : Nat) : Int)) = kp j := by unfold isv; rw [decide_eq_true (show ¬ ((j : Nat) : Int) = 0 by omega), decide_eq_false (show ¬ ((j : Nat) : Int) = 0 by omega), decide_eq_true (show 1 ≤ ((j : Nat) : Int) ∧ ((j : Nat) : Int) ≤ 4 by omega), Bool.true_and, Bool.false_or, Bool.true_and]; rfl
      refine e_aload_n X d_Mod_release_10 rfl ?_
      refine e_get X d_Mod_release_11 fl_Mod_16 d42 (by omega) rfl ?_
      refine z_iload_n X d_Mod_release_14 rfl ?_
      refine z_zald X d_Mod_release_15 (j := j) d45 (by omega) (by omega) (by omega) ?_
      refine z_top (show _ = (b2z (kp j)) from hK j (by omega) (by omega)) ?_
      refine z_if_ne (tgt := 21) X d_Mod_release_16 (by decide) (b2z_r _) (fun q3 => ?_) (fun q3 => ?_)
      · refine e_aload_n X d_Mod_release_21 rfl ?_
        refine e_get X d_Mod_release_22 fl_Mod_16 d42 (by omega) rfl ?_
        refine z_iload_n X d_Mod_release_25 rfl ?_
        refine z_iconst X d_Mod_release_26 ?_
        refine z_zast X d_Mod_release_27 (j := j) d45 (by omega) (by omega) (by omega) rfl (fun h1 c2 fr3 => ?_)
        have c4 := (fr3 42 (by omega)).trans d42
        have c5 := (fr3 43 (by omega)).trans d43
        have c6 := (fr3 44 (by omega)).trans d44
        have c7 := (fr3 46 (by omega)).trans d46
        have c8 := (fr3 47 (by omega)).trans d47
        have c9 := (fr3 48 (by omega)).trans d48
        have c10 := (fr3 49 (by omega)).trans d49
        have c11 := (fr3 50 (by omega)).trans d50
        have c12 := (fr3 51 (by omega)).trans d51
        refine z_iconst X d_Mod_release_28 ?_
        have hK2 : ∀ i, 1 ≤ i → i ≤ 4 → zup K j 0 i = b2z ((fun i => if i = j then false else kp i) i) := by
          intro i i1 i2
          dsimp only
          by_cases h9 : i = j
          · rw [h9, zup_eq, if_pos rfl]; rfl
          · rw [zup_ne h9, if_neg h9]; exact hK i i1 i2
        have hsv2 : ∀ i, 1 ≤ i → i ≤ 4 → (fun i => if i = j then false else kp i) i = true → Sl U Ls (8 + i) (V i) := by
          intro i i1 i2 i3
          dsimp only at i3
          by_cases h9 : i = j
          · rw [if_pos h9] at i3; cases i3
          · rw [if_neg h9] at i3; exact hsv i i1 i2 i3
        exact z_ireturn X Q d_Mod_release_29 rfl (Or.inl ⟨by rw [hrl]; exact b2z_ne q3, rfl, ⟨_, _, _, _, _, _, _, _, _, _, _, _, ⟨c4, c5, c6, c2, c7, c8, c9, c10, c11, c12⟩, hsl, hsv2, hK2, hC, hcx, hc24, hnl, hgg, hoo, hee⟩, fun q q1 => fr3 q (by omega)⟩)
      · refine z_iconst X d_Mod_release_19 ?_
        exact z_ireturn X Q d_Mod_release_20 rfl (Or.inr ⟨by rw [hrl]; exact b2z_eq q3, rfl, ⟨_, _, _, _, _, _, _, _, _, _, _, _, hM, hsl, hsv, hK, hC, hcx, hc24, hnl, hgg, hoo, hee⟩, fun q _ => rfl⟩)

set_option maxRecDepth 100000 in
set_option maxHeartbeats 4000000 in
theorem c_Mod_snapshot {l : Launch} {G : lx_G} {N : Nat} {h : Nat → va_E} {now last : Nat} {T : Nat → tx_T} {c : Nat} {p : Nat → Int} {kp : Nat → Bool} {V : Nat → tx_T} {g o en : Int} {n : Nat} {t : Nat → Int} (hD : MD G h now last T c p kp V g o en) (hN : 52 ≤ N) (hnt : T now = (n, t)) : CtI l G m_Mod_snapshot N [.ref (ad (g_b G) 42)] h (fun z h' => (∃ v : Nat, (1 ≤ v ∧ v ≤ 4) ∧ z = ((v : Nat) : Int) ∧ kp v = false ∧ (∀ j, 1 ≤ j → j < v → kp j = true) ∧ MD G h' now last T c p (fun j => if j = v then true else kp j) (fun j => if j = v then (n, t) else V j) g o en ∧ (∀ q, (q < 42 ∨ 52 ≤ q) → h' q = h q)) ∨ (z = -1 ∧ (∀ j, 1 ≤ j → j ≤ 4 → kp j = true) ∧ MD G h' now last T c p kp V g o en ∧ (∀ q, (q < 42 ∨ 52 ≤ q) → h' q = h q))) := by
  obtain ⟨U, Ls, K, C, Md, ml, pts, its, PP, CD, PL, AT, hM, hsl, hsv, hK, hC, hcx, hc24, hnl, hgg, hoo, hee⟩ := hD
  have hS := hsl now hnl.1
  rw [hnt] at hS
  have hl1 := hS.2.1
  have htx := hS.2.2.2
  dsimp only at hl1 htx
  refine zI_of (by decide) rfl rfl ?_
  intro k X Q
  have X : Cx k G R_Mod b_Mod_snapshot 2 rm_Mod_snapshot := X
  have Q : Rt k G (some (.int)) N 0 0 (pI (fun z h' => (∃ v : Nat, (1 ≤ v ∧ v ≤ 4) ∧ z = ((v : Nat) : Int) ∧ kp v = false ∧ (∀ j, 1 ≤ j → j < v → kp j = true) ∧ MD G h' now last T c p (fun j => if j = v then true else kp j) (fun j => if j = v then (n, t) else V j) g o en ∧ (∀ q, (q < 42 ∨ 52 ≤ q) → h' q = h q)) ∨ (z = -1 ∧ (∀ j, 1 ≤ j → j ≤ 4 → kp j = true) ∧ MD G h' now last T c p kp V g o en ∧ (∀ q, (q < 42 ∨ 52 ≤ q) → h' q = h q)))) := Q
  show Ev k G 2 N 0 0 h 0 [some (.ref (ad (g_b G) 42)), none] []
  obtain ⟨d42, d43, d44, d45, d46, d47, d48, d49, d50, d51⟩ := id hM
  refine z_iconst X d_Mod_snapshot_0 ?_
  refine e_istore_n X d_Mod_snapshot_1 (by decide) ?_
  have loop : ∀ (d9 : Nat) (v : Nat), 5 - v < d9 → 1 ≤ v ∧ v ≤ 5 → (∀ j, 1 ≤ j → j < v → kp j = true) → Ev k G 2 N 0 0 h 2 [some (.ref (ad (g_b G) 42)), some (vI ((v : Nat) : Int))] [] := by
    intro d9
    induction d9 with
    | zero =>
      intro v hm9
      exact absurd hm9 (Nat.not_lt_zero _)
    | succ d9 ih =>
      intro v hm9 hv hk
      refine z_iload_n X d_Mod_snapshot_2 rfl ?_
      refine z_iconst X d_Mod_snapshot_3 ?_
      refine z_icmp_gt (tgt := 22) X d_Mod_snapshot_4 (by decide) (by omega) (fun q1 => ?_) (fun q1 => ?_)
      · refine z_iload_n X d_Mod_snapshot_22 rfl ?_
        refine z_iconst X d_Mod_snapshot_23 ?_
        refine z_icmp_le (tgt := 29) X d_Mod_snapshot_24 (by decide) (by omega) (fun q2 => ?_) (fun q2 => ?_)
        · omega
        · refine z_iconst X d_Mod_snapshot_27 ?_
          exact z_ireturn X Q d_Mod_snapshot_28 rfl (Or.inr ⟨rfl, fun j j1 j2 => hk j j1 (by omega), ⟨_, _, _, _, _, _, _, _, _, _, _, _, hM, hsl, hsv, hK, hC, hcx, hc24, hnl, hgg, hoo, hee⟩, fun q _ => rfl⟩)
      · refine e_aload_n X d_Mod_snapshot_7 rfl ?_
        refine e_get X d_Mod_snapshot_8 fl_Mod_16 d42 (by omega) rfl ?_
        refine z_iload_n X d_Mod_snapshot_11 rfl ?_
        refine z_zald X d_Mod_snapshot_12 (j := v) d45 (by omega) (by omega) (by omega) ?_
        refine z_top (show _ = (b2z (kp v)) from hK v (by omega) (by omega)) ?_
        refine z_if_eq (tgt := 22) X d_Mod_snapshot_13 (by decide) (b2z_r _) (fun q3 => ?_) (fun q3 => ?_)
        · refine z_iload_n X d_Mod_snapshot_22 rfl ?_
          refine z_iconst X d_Mod_snapshot_23 ?_
          refine z_icmp_le (tgt := 29) X d_Mod_snapshot_24 (by decide) (by omega) (fun q4 => ?_) (fun q4 => ?_)
          · refine e_aload_n X d_Mod_snapshot_29 rfl ?_
            refine e_get X d_Mod_snapshot_30 fl_Mod_16 d42 (by omega) rfl ?_
            refine z_iload_n X d_Mod_snapshot_33 rfl ?_
            refine z_iconst X d_Mod_snapshot_34 ?_
            refine z_zast X d_Mod_snapshot_35 (j := v) d45 (by omega) (by omega) (by omega) rfl (fun h1 c2 fr3 => ?_)
            have c4 := (fr3 42 (by omega)).trans d42
            have c5 := (fr3 43 (by omega)).trans d43
            have c6 := (fr3 44 (by omega)).trans d44
            have c7 := (fr3 46 (by omega)).trans d46
            have c8 := (fr3 47 (by omega)).trans d47
            have c9 := (fr3 48 (by omega)).trans d48
            have c10 := (fr3 49 (by omega)).trans d49
            have c11 := (fr3 50 (by omega)).trans d50
            have c12 := (fr3 51 (by omega)).trans d51
            refine e_aload_n X d_Mod_snapshot_36 rfl ?_
            refine e_aload_n X d_Mod_snapshot_37 rfl ?_
            refine e_get X d_Mod_snapshot_38 fl_Mod_48 c4 (by omega) rfl ?_
            refine z_bipush X d_Mod_snapshot_41 (by decide) ?_
            refine z_iload_n X d_Mod_snapshot_43 rfl ?_
            refine z_iadd X d_Mod_snapshot_44 ?_
            refine z_top (show _ = ((8 + v : Nat) : Int) by omega) ?_
            have hM1 : MC G h1 U Ls (zup K v 1) C ((now : Nat) : Int) ((last : Nat) : Int) ((c : Nat) : Int) g o en Md ml pts its PP CD PL AT := ⟨c4, c5, c6, c2, c7, c8, c9, c10, c11, c12⟩
            refine z_callV_V X d_Mod_snapshot_45 cv_Mod_99 (c_Mod_copy (a := now) (b := 8 + v) hM1 hN (by omega) hS.1 hS.2.1) c4 (by omega) rfl rfl ⟨rfl, rfl⟩ rfl (fun h13 hp14 => ?_)
            obtain ⟨⟨U2, hM5, hu1, hu2⟩, hf5⟩ := hp14
            refine z_iload_n X d_Mod_snapshot_48 rfl ?_
            have hkp : ∀ j y, ¬ j = 8 + v → Sl U Ls j y → Sl U2 (zup Ls (8 + v) ((n : Nat) : Int)) j y := fun j y hj hy => hy.keep (fun q q1 q2 => hu2 q (by omega)) (zup_ne hj)
            have hnew : Sl U2 (zup Ls (8 + v) ((n : Nat) : Int)) (8 + v) (n, t) := ⟨zup_eq _ _ _, hl1, fun k hk => (hu1 k hk).trans (hS.2.2.1 k hk), htx⟩
            have hK2 : ∀ i, 1 ≤ i → i ≤ 4 → zup K v 1 i = b2z ((fun i => if i = v then true else kp i) i) := by
              intro i i1 i2
              dsimp only
              by_cases h9 : i = v
              · rw [h9, zup_eq, if_pos rfl]; rfl
              · rw [zup_ne h9, if_neg h9]; exact hK i i1 i2
            have hsv2 : ∀ i, 1 ≤ i → i ≤ 4 → (fun i => if i = v then true else kp i) i = true → Sl U2 (zup Ls (8 + v) ((n : Nat) : Int)) (8 + i) ((fun i => if i = v then (n, t) else V i) i) := by
              intro i i1 i2 i3
              dsimp only at i3 ⊢
              by_cases h9 : i = v
              · rw [if_pos h9, h9]; exact hnew
              · rw [if_neg h9] at i3 ⊢; exact hkp _ _ (by omega) (hsv i i1 i2 i3)
            exact z_ireturn X Q d_Mod_snapshot_49 rfl (Or.inl ⟨v, by omega, rfl, b2z_eq q3, hk, ⟨_, _, _, _, _, _, _, _, _, _, _, _, hM5, fun j hj => hkp j _ (by omega) (hsl j hj), hsv2, hK2, hC, hcx, hc24, hnl, hgg, hoo, hee⟩, fun q q1 => (hf5 q q1).trans (fr3 q (by omega))⟩)
          · omega
        · refine z_iinc X d_Mod_snapshot_16 rfl (by decide) ?_
          refine e_goto (tgt := 2) X d_Mod_snapshot_19 (by decide) ?_
          exact ih (v + 1) (by omega) (by omega) (fun j j1 j2 => by rcases Nat.lt_or_ge j v with h8 | h8; exact hk j j1 h8; rw [show j = v by omega]; exact b2z_ne q3)
  exact loop _ 1 (Nat.lt_succ_self _) (by omega) (fun j j1 j2 => absurd j2 (by omega))

