set_option maxRecDepth 100000 in
set_option maxHeartbeats 4000000 in
theorem c_Mod_remove {l : Launch} {G : lx_G} {N : Nat} {h : Nat → va_E} {now last : Nat} {T : Nat → tx_T} {c : Nat} {p : Nat → Int} {kp : Nat → Bool} {V : Nat → tx_T} {g o en : Int} {n : Nat} {t : Nat → Int} {a b : Int} (hD : MD G h now last T c p kp V g o en) (hN : 52 ≤ N) (hnt : T now = (n, t)) (hr_a : -2147483648 ≤ a ∧ a < 2147483648) (hr_b : -2147483648 ≤ b ∧ b < 2147483648) : CtI l G m_Mod_remove N [.ref (ad (g_b G) 42), vI (a), vI (b)] h (fun z h' => ((decide (¬ a = b) && ced g n t a b) = true ∧ z = 1 ∧ MD G h' (hp_now now) (hp_now now) (hp_T now T ((n - (b.toNat - a.toNat)), tx_ed t a.toNat b.toNat 0 t)) c p kp V g (-1) en ∧ (∀ q, (q < 42 ∨ 52 ≤ q) → h' q = h q)) ∨ ((decide (¬ a = b) && ced g n t a b) = false ∧ z = 0 ∧ MD G h' now last T c p kp V g o en ∧ (∀ q, (q < 42 ∨ 52 ≤ q) → h' q = h q))) := by
  obtain ⟨U, Ls, K, C, Md, ml, pts, its, PP, CD, PL, AT, hM, hsl, hsv, hK, hC, hcx, hc24, hnl, hgg, hoo, hee⟩ := hD
  have hS := hsl now hnl.1
  rw [hnt] at hS
  have hl1 := hS.2.1
  have htx := hS.2.2.2
  dsimp only at hl1 htx
  refine zI_of (by decide) rfl rfl ?_
  intro k X Q
  have X : Cx k G R_Mod b_Mod_remove 3 rm_Mod_remove := X
  have Q : Rt k G (some (.boolean)) N 0 0 (pI (fun z h' => ((decide (¬ a = b) && ced g n t a b) = true ∧ z = 1 ∧ MD G h' (hp_now now) (hp_now now) (hp_T now T ((n - (b.toNat - a.toNat)), tx_ed t a.toNat b.toNat 0 t)) c p kp V g (-1) en ∧ (∀ q, (q < 42 ∨ 52 ≤ q) → h' q = h q)) ∨ ((decide (¬ a = b) && ced g n t a b) = false ∧ z = 0 ∧ MD G h' now last T c p kp V g o en ∧ (∀ q, (q < 42 ∨ 52 ≤ q) → h' q = h q)))) := Q
  show Ev k G 3 N 0 0 h 0 [some (.ref (ad (g_b G) 42)), some (vI (a)), some (vI (b))] []
  obtain ⟨d42, d43, d44, d45, d46, d47, d48, d49, d50, d51⟩ := id hM
  refine e_aload_n X d_Mod_remove_0 rfl ?_
  refine z_iload_n X d_Mod_remove_1 rfl ?_
  refine z_callV_I X d_Mod_remove_2 cv_Mod_108 (c_Mod_isPlace hM hN (by omega) hS hr_a) d42 (by omega) rfl rfl ⟨rfl, rfl⟩ rfl (fun z3 h1 hp2 => ?_)
  obtain ⟨rfl, hh4⟩ := hp2
  rw [hh4]
  refine z_if_eq (tgt := 37) X d_Mod_remove_5 (by decide) (b2z_r _) (fun q1 => ?_) (fun q1 => ?_)
  · have g1 := b2z_eq q1
    simp at g1
    refine z_iconst X d_Mod_remove_37 ?_
    exact z_ireturn X Q d_Mod_remove_38 rfl (Or.inr ⟨by unfold ced; rw [decide_eq_false (show ¬ (0 ≤ a ∧ a ≤ b ∧ b ≤ ((n : Nat) : Int)) by omega)]; simp, rfl, ⟨_, _, _, _, _, _, _, _, _, _, _, _, hM, hsl, hsv, hK, hC, hcx, hc24, hnl, hgg, hoo, hee⟩, fun q _ => rfl⟩)
  · have g1 := b2z_ne q1
    simp only [Bool.and_eq_true, decide_eq_true_eq] at g1
    refine e_aload_n X d_Mod_remove_8 rfl ?_
    refine z_iload_n X d_Mod_remove_9 rfl ?_
    refine z_callV_I X d_Mod_remove_10 cv_Mod_108 (c_Mod_isPlace hM hN (by omega) hS hr_b) d42 (by omega) rfl rfl ⟨rfl, rfl⟩ rfl (fun z7 h5 hp6 => ?_)
    obtain ⟨rfl, hh8⟩ := hp6
    rw [hh8]
    refine z_if_eq (tgt := 37) X d_Mod_remove_13 (by decide) (b2z_r _) (fun q2 => ?_) (fun q2 => ?_)
    · have g2 := b2z_eq q2
      simp at g2
      refine z_iconst X d_Mod_remove_37 ?_
      exact z_ireturn X Q d_Mod_remove_38 rfl (Or.inr ⟨by unfold ced; rw [decide_eq_false (show ¬ (0 ≤ a ∧ a ≤ b ∧ b ≤ ((n : Nat) : Int)) by omega)]; simp, rfl, ⟨_, _, _, _, _, _, _, _, _, _, _, _, hM, hsl, hsv, hK, hC, hcx, hc24, hnl, hgg, hoo, hee⟩, fun q _ => rfl⟩)
    · have g2 := b2z_ne q2
      simp only [Bool.and_eq_true, decide_eq_true_eq] at g2
      refine z_iload_n X d_Mod_remove_16 rfl ?_
      refine z_iload_n X d_Mod_remove_17 rfl ?_
      refine z_icmp_ge (tgt := 37) X d_Mod_remove_18 (by decide) (by omega) (fun q3 => ?_) (fun q3 => ?_)
      · refine z_iconst X d_Mod_remove_37 ?_
        exact z_ireturn X Q d_Mod_remove_38 rfl (Or.inr ⟨by by_cases h0 : a = b; rw [decide_eq_false (show ¬ ¬ a = b from fun q9 => q9 h0)]; rfl; unfold ced; rw [decide_eq_false (show ¬ (0 ≤ a ∧ a ≤ b ∧ b ≤ ((n : Nat) : Int)) by omega)]; simp, rfl, ⟨_, _, _, _, _, _, _, _, _, _, _, _, hM, hsl, hsv, hK, hC, hcx, hc24, hnl, hgg, hoo, hee⟩, fun q _ => rfl⟩)
      · obtain ⟨i, rfl⟩ : ∃ i : Nat, a = (i : Int) := ⟨a.toNat, by omega⟩
        obtain ⟨j, rfl⟩ : ∃ j : Nat, b = (j : Int) := ⟨b.toNat, by omega⟩
        refine e_aload_n X d_Mod_remove_21 rfl ?_
        refine z_iload_n X d_Mod_remove_22 rfl ?_
        refine z_callV_I X d_Mod_remove_23 cv_Mod_111 (c_Mod_lets hM hN (by omega) hS hgg (by omega)) d42 (by omega) rfl rfl ⟨rfl, rfl⟩ rfl (fun z11 h9 hp10 => ?_)
        obtain ⟨rfl, ⟨ptl, itl, PPl, CDl, PLl, hMl⟩, hfl⟩ := hp10
        obtain ⟨d42l, d43l, d44l, d45l, d46l, d47l, d48l, d49l, d50l, d51l⟩ := id hMl
        have hgl : ∀ q, (q < 42 ∨ 52 ≤ q) → h9 q = h q := fun q q1 => hfl q q1
        refine z_if_eq (tgt := 37) X d_Mod_remove_26 (by decide) (b2z_r _) (fun q6 => ?_) (fun q6 => ?_)
        · refine z_iconst X d_Mod_remove_37 ?_
          exact z_ireturn X Q d_Mod_remove_38 rfl (Or.inr ⟨by unfold ced; rw [b2z_eq q6]; simp, rfl, ⟨_, _, _, _, _, _, _, _, _, _, _, _, hMl, hsl, hsv, hK, hC, hcx, hc24, hnl, hgg, hoo, hee⟩, hgl⟩)
        · refine e_aload_n X d_Mod_remove_29 rfl ?_
          refine z_iload_n X d_Mod_remove_30 rfl ?_
          refine z_callV_I X d_Mod_remove_31 cv_Mod_111 (c_Mod_lets hMl hN (by omega) hS hgg (by omega)) d42l (by omega) rfl rfl ⟨rfl, rfl⟩ rfl (fun z14 h12 hp13 => ?_)
          obtain ⟨rfl, ⟨ptk, itk, PPk, CDk, PLk, hMk⟩, hfk⟩ := hp13
          obtain ⟨d42k, d43k, d44k, d45k, d46k, d47k, d48k, d49k, d50k, d51k⟩ := id hMk
          have hgk : ∀ q, (q < 42 ∨ 52 ≤ q) → h12 q = h q := fun q q1 => (hfk q q1).trans (hgl q q1)
          refine z_if_ne (tgt := 39) X d_Mod_remove_34 (by decide) (b2z_r _) (fun q7 => ?_) (fun q7 => ?_)
          · have hck : (decide (¬ ((i : Nat) : Int) = ((j : Nat) : Int)) && ced g n t ((i : Nat) : Int) ((j : Nat) : Int)) = true := by unfold ced; rw [b2z_ne q6, b2z_ne q7, decide_eq_true (show ¬ ((i : Nat) : Int) = ((j : Nat) : Int) by omega), decide_eq_true (show (0 ≤ ((i : Nat) : Int) ∧ ((i : Nat) : Int) ≤ ((j : Nat) : Int) ∧ ((j : Nat) : Int) ≤ ((n : Nat) : Int)) by omega)]; rfl
            refine e_aload_n X d_Mod_remove_39 rfl ?_
            refine z_iload_n X d_Mod_remove_40 rfl ?_
            refine z_iload_n X d_Mod_remove_41 rfl ?_
            refine z_iconst X d_Mod_remove_42 ?_
            refine z_top (show _ = ((0 : Nat) : Int) from rfl) ?_
            refine z_callV_V X d_Mod_remove_43 cv_Mod_114 (c_Mod_make (a := i) (b := j) (cc := 0) (p := t) hMk hN (by omega) hS (by omega) (by omega) (fun k hk => absurd hk (Nat.not_lt_zero _)) (by omega)) d42k (by omega) rfl rfl ⟨rfl, rfl⟩ rfl (fun h15 hp16 => ?_)
            obtain ⟨⟨Md1, hM1, hx1⟩, hf1⟩ := hp16
            obtain ⟨d42m, d43m, d44m, d45m, d46m, d47m, d48m, d49m, d50m, d51m⟩ := id hM1
            have htx1 : tx_ok (n - (j - i) + 0) (tx_ed t i j 0 t) := tx_ed_ok htx (by omega) (by omega) (fun k hk => absurd hk (Nat.not_lt_zero _))
            refine e_aload_n X d_Mod_remove_46 rfl ?_
            refine z_callV_V X d_Mod_remove_47 cv_Mod_118 (c_Mod_step (T := T) (X9 := (tx_ed t i j 0 t)) hM1 hN hnl hsl (by omega) hx1 htx1) d42m (by omega) rfl rfl ⟨rfl, rfl⟩ rfl (fun h18 hp19 => ?_)
            obtain ⟨⟨U2, Ls2, hM2, hs2, hk2⟩, hf2⟩ := hp19
            obtain ⟨d42s, d43s, d44s, d45s, d46s, d47s, d48s, d49s, d50s, d51s⟩ := id hM2
            have hpn : hp_now now ≤ 8 := by unfold hp_now; split <;> omega
            refine e_aload_n X d_Mod_remove_50 rfl ?_
            refine z_iconst X d_Mod_remove_51 ?_
            refine z_put X d_Mod_remove_52 fl_Mod_23 d42s (by omega) (Nat.le_of_ble_eq_true rfl) rfl rfl (fun h21 c22 fr23 => ?_)
            have c22 : h21 42 = ob ci_Mod [.ref (ad (g_b G) 43), .ref (ad (g_b G) 44), vI ((hp_now now : Nat) : Int), vI ((hp_now now : Nat) : Int), .ref (ad (g_b G) 45), .ref (ad (g_b G) 46), vI ((c : Nat) : Int), vI (g), vI (-1), .ref (ad (g_b G) 47), vI ((n - (j - i) + 0 : Nat) : Int), vI (ptk), .ref (ad (g_b G) 48), .ref (ad (g_b G) 49), vI (itk), .ref (ad (g_b G) 50), .ref (ad (g_b G) 51), vI (en)] := c22
            have c24 := (fr23 43 (by omega)).trans d43s
            have c25 := (fr23 44 (by omega)).trans d44s
            have c26 := (fr23 45 (by omega)).trans d45s
            have c27 := (fr23 46 (by omega)).trans d46s
            have c28 := (fr23 47 (by omega)).trans d47s
            have c29 := (fr23 48 (by omega)).trans d48s
            have c30 := (fr23 49 (by omega)).trans d49s
            have c31 := (fr23 50 (by omega)).trans d50s
            have c32 := (fr23 51 (by omega)).trans d51s
            refine z_iconst X d_Mod_remove_55 ?_
            exact z_ireturn X Q d_Mod_remove_56 rfl (Or.inl ⟨hck, rfl, ⟨_, _, _, _, _, _, _, _, _, _, _, _, ⟨c22, c24, c25, c26, c27, c28, c29, c30, c31, c32⟩, hs2, fun j j1 j2 j3 => hk2 _ (by omega) (by omega) _ (hsv j j1 j2 j3), hK, hC, hcx, hc24, ⟨Nat.le_refl _, hpn⟩, hgg, (by omega), hee⟩, fun q q1 => (fr23 q (by omega)).trans ((hf2 q q1).trans ((hf1 q q1).trans (hgk q q1)))⟩)
          · refine z_iconst X d_Mod_remove_37 ?_
            exact z_ireturn X Q d_Mod_remove_38 rfl (Or.inr ⟨by unfold ced; rw [b2z_eq q7]; simp, rfl, ⟨_, _, _, _, _, _, _, _, _, _, _, _, hMk, hsl, hsv, hK, hC, hcx, hc24, hnl, hgg, hoo, hee⟩, hgk⟩)

set_option maxRecDepth 100000 in
set_option maxHeartbeats 4000000 in
theorem c_Mod_replace {l : Launch} {G : lx_G} {N : Nat} {h : Nat → va_E} {now last : Nat} {T : Nat → tx_T} {c : Nat} {p : Nat → Int} {kp : Nat → Bool} {V : Nat → tx_T} {g o en : Int} {n : Nat} {t : Nat → Int} {a b : Int} (hD : MD G h now last T c p kp V g o en) (hN : 52 ≤ N) (hnt : T now = (n, t)) (hr_a : -2147483648 ≤ a ∧ a < 2147483648) (hr_b : -2147483648 ≤ b ∧ b < 2147483648) : CtI l G m_Mod_replace N [.ref (ad (g_b G) 42), vI (a), vI (b)] h (fun z h' => (ctk g n t c a b = true ∧ z = 1 ∧ MD G h' (hp_now now) (hp_now now) (hp_T now T ((n - (b.toNat - a.toNat) + c), tx_ed t a.toNat b.toNat c p)) c p kp V g (-1) en ∧ (∀ q, (q < 42 ∨ 52 ≤ q) → h' q = h q)) ∨ (ctk g n t c a b = false ∧ z = 0 ∧ MD G h' now last T c p kp V g o en ∧ (∀ q, (q < 42 ∨ 52 ≤ q) → h' q = h q))) := by
  obtain ⟨U, Ls, K, C, Md, ml, pts, its, PP, CD, PL, AT, hM, hsl, hsv, hK, hC, hcx, hc24, hnl, hgg, hoo, hee⟩ := hD
  have hS := hsl now hnl.1
  rw [hnt] at hS
  have hl1 := hS.2.1
  have htx := hS.2.2.2
  dsimp only at hl1 htx
  refine zI_of (by decide) rfl rfl ?_
  intro k X Q
  have X : Cx k G R_Mod b_Mod_replace 3 rm_Mod_replace := X
  have Q : Rt k G (some (.boolean)) N 0 0 (pI (fun z h' => (ctk g n t c a b = true ∧ z = 1 ∧ MD G h' (hp_now now) (hp_now now) (hp_T now T ((n - (b.toNat - a.toNat) + c), tx_ed t a.toNat b.toNat c p)) c p kp V g (-1) en ∧ (∀ q, (q < 42 ∨ 52 ≤ q) → h' q = h q)) ∨ (ctk g n t c a b = false ∧ z = 0 ∧ MD G h' now last T c p kp V g o en ∧ (∀ q, (q < 42 ∨ 52 ≤ q) → h' q = h q)))) := Q
  show Ev k G 3 N 0 0 h 0 [some (.ref (ad (g_b G) 42)), some (vI (a)), some (vI (b))] []
  obtain ⟨d42, d43, d44, d45, d46, d47, d48, d49, d50, d51⟩ := id hM
  refine e_aload_n X d_Mod_replace_0 rfl ?_
  refine z_iload_n X d_Mod_replace_1 rfl ?_
  refine z_callV_I X d_Mod_replace_2 cv_Mod_108 (c_Mod_isPlace hM hN (by omega) hS hr_a) d42 (by omega) rfl rfl ⟨rfl, rfl⟩ rfl (fun z3 h1 hp2 => ?_)
  obtain ⟨rfl, hh4⟩ := hp2
  rw [hh4]
  refine z_if_eq (tgt := 68) X d_Mod_replace_5 (by decide) (b2z_r _) (fun q1 => ?_) (fun q1 => ?_)
  · have g1 := b2z_eq q1
    simp at g1
    refine z_iconst X d_Mod_replace_68 ?_
    exact z_ireturn X Q d_Mod_replace_69 rfl (Or.inr ⟨by unfold ctk ced; rw [decide_eq_false (show ¬ (0 ≤ a ∧ a ≤ b ∧ b ≤ ((n : Nat) : Int)) by omega)]; simp, rfl, ⟨_, _, _, _, _, _, _, _, _, _, _, _, hM, hsl, hsv, hK, hC, hcx, hc24, hnl, hgg, hoo, hee⟩, fun q _ => rfl⟩)
  · have g1 := b2z_ne q1
    simp only [Bool.and_eq_true, decide_eq_true_eq] at g1
    refine e_aload_n X d_Mod_replace_8 rfl ?_
    refine z_iload_n X d_Mod_replace_9 rfl ?_
    refine z_callV_I X d_Mod_replace_10 cv_Mod_108 (c_Mod_isPlace hM hN (by omega) hS hr_b) d42 (by omega) rfl rfl ⟨rfl, rfl⟩ rfl (fun z7 h5 hp6 => ?_)
    obtain ⟨rfl, hh8⟩ := hp6
    rw [hh8]
    refine z_if_eq (tgt := 68) X d_Mod_replace_13 (by decide) (b2z_r _) (fun q2 => ?_) (fun q2 => ?_)
    · have g2 := b2z_eq q2
      simp at g2
      refine z_iconst X d_Mod_replace_68 ?_
      exact z_ireturn X Q d_Mod_replace_69 rfl (Or.inr ⟨by unfold ctk ced; rw [decide_eq_false (show ¬ (0 ≤ a ∧ a ≤ b ∧ b ≤ ((n : Nat) : Int)) by omega)]; simp, rfl, ⟨_, _, _, _, _, _, _, _, _, _, _, _, hM, hsl, hsv, hK, hC, hcx, hc24, hnl, hgg, hoo, hee⟩, fun q _ => rfl⟩)
    · have g2 := b2z_ne q2
      simp only [Bool.and_eq_true, decide_eq_true_eq] at g2
      refine z_iload_n X d_Mod_replace_16 rfl ?_
      refine z_iload_n X d_Mod_replace_17 rfl ?_
      refine z_icmp_gt (tgt := 68) X d_Mod_replace_18 (by decide) (by omega) (fun q3 => ?_) (fun q3 => ?_)
      · refine z_iconst X d_Mod_replace_68 ?_
        exact z_ireturn X Q d_Mod_replace_69 rfl (Or.inr ⟨by unfold ctk ced; rw [decide_eq_false (show ¬ (0 ≤ a ∧ a ≤ b ∧ b ≤ ((n : Nat) : Int)) by omega)]; simp, rfl, ⟨_, _, _, _, _, _, _, _, _, _, _, _, hM, hsl, hsv, hK, hC, hcx, hc24, hnl, hgg, hoo, hee⟩, fun q _ => rfl⟩)
      · refine e_aload_n X d_Mod_replace_21 rfl ?_
        refine e_get X d_Mod_replace_22 fl_Mod_45 d42 (by omega) rfl ?_
        refine z_if_eq (tgt := 68) X d_Mod_replace_25 (by decide) (by omega) (fun q4 => ?_) (fun q4 => ?_)
        · refine z_iconst X d_Mod_replace_68 ?_
          exact z_ireturn X Q d_Mod_replace_69 rfl (Or.inr ⟨by unfold ctk; rw [decide_eq_false (show ¬ 0 < c by omega)]; simp, rfl, ⟨_, _, _, _, _, _, _, _, _, _, _, _, hM, hsl, hsv, hK, hC, hcx, hc24, hnl, hgg, hoo, hee⟩, fun q _ => rfl⟩)
        · refine e_aload_n X d_Mod_replace_28 rfl ?_
          refine e_get X d_Mod_replace_29 fl_Mod_13 d42 (by omega) rfl ?_
          refine e_aload_n X d_Mod_replace_32 rfl ?_
          refine e_get X d_Mod_replace_33 fl_Mod_48 d42 (by omega) rfl ?_
          refine z_iald X d_Mod_replace_36 (j := now) d44 (by omega) (by omega) (by omega) ?_
          refine z_top (show _ = ((n : Nat) : Int) from hS.1) ?_
          refine z_iload_n X d_Mod_replace_37 rfl ?_
          refine z_iload_n X d_Mod_replace_38 rfl ?_
          refine z_isub X d_Mod_replace_39 ?_
          refine z_isub X d_Mod_replace_40 ?_
          refine e_aload_n X d_Mod_replace_41 rfl ?_
          refine e_get X d_Mod_replace_42 fl_Mod_45 d42 (by omega) rfl ?_
          refine z_iadd X d_Mod_replace_45 ?_
          refine z_sipush X d_Mod_replace_46 (by decide) ?_
          refine z_icmp_gt (tgt := 68) X d_Mod_replace_49 (by decide) (by omega) (fun q5 => ?_) (fun q5 => ?_)
          · refine z_iconst X d_Mod_replace_68 ?_
            exact z_ireturn X Q d_Mod_replace_69 rfl (Or.inr ⟨by unfold ctk; rw [decide_eq_false (show ¬ ((n : Nat) : Int) - (b - a) + ((c : Nat) : Int) ≤ 160 by omega)]; simp, rfl, ⟨_, _, _, _, _, _, _, _, _, _, _, _, hM, hsl, hsv, hK, hC, hcx, hc24, hnl, hgg, hoo, hee⟩, fun q _ => rfl⟩)
          · obtain ⟨i, rfl⟩ : ∃ i : Nat, a = (i : Int) := ⟨a.toNat, by omega⟩
            obtain ⟨j, rfl⟩ : ∃ j : Nat, b = (j : Int) := ⟨b.toNat, by omega⟩
            refine e_aload_n X d_Mod_replace_52 rfl ?_
            refine z_iload_n X d_Mod_replace_53 rfl ?_
            refine z_callV_I X d_Mod_replace_54 cv_Mod_111 (c_Mod_lets hM hN (by omega) hS hgg (by omega)) d42 (by omega) rfl rfl ⟨rfl, rfl⟩ rfl (fun z11 h9 hp10 => ?_)
            obtain ⟨rfl, ⟨ptl, itl, PPl, CDl, PLl, hMl⟩, hfl⟩ := hp10
            obtain ⟨d42l, d43l, d44l, d45l, d46l, d47l, d48l, d49l, d50l, d51l⟩ := id hMl
            have hgl : ∀ q, (q < 42 ∨ 52 ≤ q) → h9 q = h q := fun q q1 => hfl q q1
            refine z_if_eq (tgt := 68) X d_Mod_replace_57 (by decide) (b2z_r _) (fun q6 => ?_) (fun q6 => ?_)
            · refine z_iconst X d_Mod_replace_68 ?_
              exact z_ireturn X Q d_Mod_replace_69 rfl (Or.inr ⟨by unfold ctk ced; rw [b2z_eq q6]; simp, rfl, ⟨_, _, _, _, _, _, _, _, _, _, _, _, hMl, hsl, hsv, hK, hC, hcx, hc24, hnl, hgg, hoo, hee⟩, hgl⟩)
            · refine e_aload_n X d_Mod_replace_60 rfl ?_
              refine z_iload_n X d_Mod_replace_61 rfl ?_
              refine z_callV_I X d_Mod_replace_62 cv_Mod_111 (c_Mod_lets hMl hN (by omega) hS hgg (by omega)) d42l (by omega) rfl rfl ⟨rfl, rfl⟩ rfl (fun z14 h12 hp13 => ?_)
              obtain ⟨rfl, ⟨ptk, itk, PPk, CDk, PLk, hMk⟩, hfk⟩ := hp13
              obtain ⟨d42k, d43k, d44k, d45k, d46k, d47k, d48k, d49k, d50k, d51k⟩ := id hMk
              have hgk : ∀ q, (q < 42 ∨ 52 ≤ q) → h12 q = h q := fun q q1 => (hfk q q1).trans (hgl q q1)
              refine z_if_ne (tgt := 70) X d_Mod_replace_65 (by decide) (b2z_r _) (fun q7 => ?_) (fun q7 => ?_)
              · have hck : ctk g n t c ((i : Nat) : Int) ((j : Nat) : Int) = true := by unfold ctk ced; rw [b2z_ne q6, b2z_ne q7, decide_eq_true (show 0 < c by omega), decide_eq_true (show (0 ≤ ((i : Nat) : Int) ∧ ((i : Nat) : Int) ≤ ((j : Nat) : Int) ∧ ((j : Nat) : Int) ≤ ((n : Nat) : Int)) by omega), decide_eq_true (show ((n : Nat) : Int) - (((j : Nat) : Int) - ((i : Nat) : Int)) + ((c : Nat) : Int) ≤ 160 by omega)]; rfl
                refine e_aload_n X d_Mod_replace_70 rfl ?_
                refine z_iload_n X d_Mod_replace_71 rfl ?_
                refine z_iload_n X d_Mod_replace_72 rfl ?_
                refine e_aload_n X d_Mod_replace_73 rfl ?_
                refine e_get X d_Mod_replace_74 fl_Mod_45 d42k (by omega) rfl ?_
                refine z_callV_V X d_Mod_replace_77 cv_Mod_114 (c_Mod_make (a := i) (b := j) (cc := c) (p := p) hMk hN (by omega) hS (by omega) (by omega) hC (by omega)) d42k (by omega) rfl rfl ⟨rfl, rfl⟩ rfl (fun h15 hp16 => ?_)
                obtain ⟨⟨Md1, hM1, hx1⟩, hf1⟩ := hp16
                obtain ⟨d42m, d43m, d44m, d45m, d46m, d47m, d48m, d49m, d50m, d51m⟩ := id hM1
                have htx1 : tx_ok (n - (j - i) + c) (tx_ed t i j c p) := tx_ed_ok htx (by omega) (by omega) hcx.1
                refine e_aload_n X d_Mod_replace_80 rfl ?_
                refine z_callV_V X d_Mod_replace_81 cv_Mod_118 (c_Mod_step (T := T) (X9 := (tx_ed t i j c p)) hM1 hN hnl hsl (by omega) hx1 htx1) d42m (by omega) rfl rfl ⟨rfl, rfl⟩ rfl (fun h18 hp19 => ?_)
                obtain ⟨⟨U2, Ls2, hM2, hs2, hk2⟩, hf2⟩ := hp19
                obtain ⟨d42s, d43s, d44s, d45s, d46s, d47s, d48s, d49s, d50s, d51s⟩ := id hM2
                have hpn : hp_now now ≤ 8 := by unfold hp_now; split <;> omega
                refine e_aload_n X d_Mod_replace_84 rfl ?_
                refine z_iconst X d_Mod_replace_85 ?_
                refine z_put X d_Mod_replace_86 fl_Mod_23 d42s (by omega) (Nat.le_of_ble_eq_true rfl) rfl rfl (fun h21 c22 fr23 => ?_)
                have c22 : h21 42 = ob ci_Mod [.ref (ad (g_b G) 43), .ref (ad (g_b G) 44), vI ((hp_now now : Nat) : Int), vI ((hp_now now : Nat) : Int), .ref (ad (g_b G) 45), .ref (ad (g_b G) 46), vI ((c : Nat) : Int), vI (g), vI (-1), .ref (ad (g_b G) 47), vI ((n - (j - i) + c : Nat) : Int), vI (ptk), .ref (ad (g_b G) 48), .ref (ad (g_b G) 49), vI (itk), .ref (ad (g_b G) 50), .ref (ad (g_b G) 51), vI (en)] := c22
                have c24 := (fr23 43 (by omega)).trans d43s
                have c25 := (fr23 44 (by omega)).trans d44s
                have c26 := (fr23 45 (by omega)).trans d45s
                have c27 := (fr23 46 (by omega)).trans d46s
                have c28 := (fr23 47 (by omega)).trans d47s
                have c29 := (fr23 48 (by omega)).trans d48s
                have c30 := (fr23 49 (by omega)).trans d49s
                have c31 := (fr23 50 (by omega)).trans d50s
                have c32 := (fr23 51 (by omega)).trans d51s
                refine z_iconst X d_Mod_replace_89 ?_
                exact z_ireturn X Q d_Mod_replace_90 rfl (Or.inl ⟨hck, rfl, ⟨_, _, _, _, _, _, _, _, _, _, _, _, ⟨c22, c24, c25, c26, c27, c28, c29, c30, c31, c32⟩, hs2, fun j j1 j2 j3 => hk2 _ (by omega) (by omega) _ (hsv j j1 j2 j3), hK, hC, hcx, hc24, ⟨Nat.le_refl _, hpn⟩, hgg, (by omega), hee⟩, fun q q1 => (fr23 q (by omega)).trans ((hf2 q q1).trans ((hf1 q q1).trans (hgk q q1)))⟩)
              · refine z_iconst X d_Mod_replace_68 ?_
                exact z_ireturn X Q d_Mod_replace_69 rfl (Or.inr ⟨by unfold ctk ced; rw [b2z_eq q7]; simp, rfl, ⟨_, _, _, _, _, _, _, _, _, _, _, _, hMk, hsl, hsv, hK, hC, hcx, hc24, hnl, hgg, hoo, hee⟩, hgk⟩)

def svx (now j : Nat) : Nat := if j = 0 then now else 8 + j
theorem md_ver {U Ls : Nat → Int} {now last : Nat} {T : Nat → tx_T} {kp : Nat → Bool} {V : Nat → tx_T} {n : Nat} {t : Nat → Int} (hnt : T now = (n, t)) (hsl : ∀ j, j ≤ last → Sl U Ls j (T j)) (hsv : ∀ j, 1 ≤ j → j ≤ 4 → kp j = true → Sl U Ls (8 + j) (V j)) (hnl : now ≤ last ∧ last ≤ 8) {v : Int} (hv : isv kp v = true) : ∃ j : Nat, v = (j : Int) ∧ j ≤ 4 ∧ slz now kp v = ((svx now j : Nat) : Int) ∧ svx now j < 13 ∧ Sl U Ls (svx now j) (vtx n t V j) := by
  have h0 := hv
  simp only [isv, Bool.or_eq_true, Bool.and_eq_true, decide_eq_true_eq] at hv
  rcases hv with hv | ⟨⟨h1, h2⟩, h3⟩
  · subst hv
    refine ⟨0, rfl, by omega, ?_, ?_, ?_⟩
    · unfold slz; rw [h0]; rfl
    · show now < 13; omega
    · show Sl U Ls now (n, t); rw [← hnt]; exact hsl now hnl.1
  · obtain ⟨j, rfl⟩ : ∃ j : Nat, v = (j : Int) := ⟨v.toNat, by omega⟩
    have e1 : svx now j = 8 + j := if_neg (by omega)
    have e2 : vtx n t V j = V j := if_neg (by omega)
    refine ⟨j, rfl, by omega, ?_, by omega, ?_⟩
    · unfold slz; rw [h0, if_pos rfl, if_neg (by omega), e1]; omega
    · rw [e1, e2]; exact hsv j (by omega) (by omega) h3
theorem slz_no {now : Nat} {kp : Nat → Bool} {v : Int} (h : isv kp v = false) : slz now kp v = -1 := by
  unfold slz; rw [h]; rfl
set_option maxRecDepth 100000 in
set_option maxHeartbeats 4000000 in
theorem c_Mod_unit {l : Launch} {G : lx_G} {N : Nat} {h : Nat → va_E} {now last : Nat} {T : Nat → tx_T} {c : Nat} {p : Nat → Int} {kp : Nat → Bool} {V : Nat → tx_T} {g o en : Int} {n : Nat} {t : Nat → Int} {v a : Int} (hD : MD G h now last T c p kp V g o en) (hN : 52 ≤ N) (hnt : T now = (n, t)) (hr_v : -2147483648 ≤ v ∧ v < 2147483648) (hr_a : -2147483648 ≤ a ∧ a < 2147483648) : CtI l G m_Mod_unit N [.ref (ad (g_b G) 42), vI (v), vI (a)] h (fun z h' => z = s_unit n t kp V v a ∧ h' = h) := by
  obtain ⟨U, Ls, K, C, Md, ml, pts, its, PP, CD, PL, AT, hM, hsl, hsv, hK, hC, hcx, hc24, hnl, hgg, hoo, hee⟩ := hD
  have hS := hsl now hnl.1
  rw [hnt] at hS
  have hl1 := hS.2.1
  have htx := hS.2.2.2
  dsimp only at hl1 htx
  refine zI_of (by decide) rfl rfl ?_
  intro k X Q
  have X : Cx k G R_Mod b_Mod_unit 4 rm_Mod_unit := X
  have Q : Rt k G (some (.int)) N 0 0 (pI (fun z h' => z = s_unit n t kp V v a ∧ h' = h)) := Q
  show Ev k G 4 N 0 0 h 0 [some (.ref (ad (g_b G) 42)), some (vI (v)), some (vI (a)), none] []
  obtain ⟨d42, d43, d44, d45, d46, d47, d48, d49, d50, d51⟩ := id hM
  refine e_aload_n X d_Mod_unit_0 rfl ?_
  refine z_iload_n X d_Mod_unit_1 rfl ?_
  refine z_callV_I X d_Mod_unit_2 cv_Mod_121 (c_Mod_slot (kp := kp) hM hN hK hr_v) d42 (by omega) rfl rfl ⟨rfl, rfl⟩ rfl (fun z3 h1 hp2 => ?_)
  obtain ⟨rfl, hh4⟩ := hp2
  rw [hh4]
  cases hv_v : isv kp v
  · refine z_top (show _ = -1 from slz_no hv_v) ?_
    refine e_istore_n X d_Mod_unit_5 (by decide) ?_
    refine z_iload_n X d_Mod_unit_6 rfl ?_
    refine z_if_lt (tgt := 24) X d_Mod_unit_7 (by decide) (by omega) (fun q1 => ?_) (fun q1 => ?_)
    · refine z_iconst X d_Mod_unit_24 ?_
      refine e_goto (tgt := 40) X d_Mod_unit_25 (by decide) ?_
      exact z_ireturn X Q d_Mod_unit_40 rfl ⟨by unfold s_unit; rw [hv_v]; rfl, rfl⟩
    · omega
  · obtain ⟨j, rfl, hj4_v, hsz_v, hs13_v, hSv_v⟩ := md_ver hnt hsl hsv hnl hv_v
    refine z_top (show _ = ((svx now j : Nat) : Int) from hsz_v) ?_
    have hl1_v := hSv_v.2.1
    have htx_v := hSv_v.2.2.2
    refine e_istore_n X d_Mod_unit_5 (by decide) ?_
    refine z_iload_n X d_Mod_unit_6 rfl ?_
    refine z_if_lt (tgt := 24) X d_Mod_unit_7 (by decide) (by omega) (fun q1 => ?_) (fun q1 => ?_)
    · omega
    · refine z_iload_n X d_Mod_unit_10 rfl ?_
      refine z_if_lt (tgt := 24) X d_Mod_unit_11 (by decide) (by omega) (fun q2 => ?_) (fun q2 => ?_)
      · refine z_iconst X d_Mod_unit_24 ?_
        refine e_goto (tgt := 40) X d_Mod_unit_25 (by decide) ?_
        exact z_ireturn X Q d_Mod_unit_40 rfl ⟨by unfold s_unit; rw [hv_v, if_pos rfl, show ((j : Nat) : Int).toNat = j from rfl, tat_neg q2], rfl⟩
      · refine z_iload_n X d_Mod_unit_14 rfl ?_
        refine e_aload_n X d_Mod_unit_15 rfl ?_
        refine e_get X d_Mod_unit_16 fl_Mod_13 d42 (by omega) rfl ?_
        refine z_iload_n X d_Mod_unit_19 rfl ?_
        refine z_iald X d_Mod_unit_20 (j := (svx now j)) d44 (by omega) (by omega) (by omega) ?_
        refine z_top (show _ = (((vtx n t V j).1 : Nat) : Int) from hSv_v.1) ?_
        refine z_icmp_lt (tgt := 28) X d_Mod_unit_21 (by decide) (by omega) (fun q3 => ?_) (fun q3 => ?_)
        · obtain ⟨i, rfl⟩ : ∃ i : Nat, a = (i : Int) := ⟨a.toNat, by omega⟩
          refine e_aload_n X d_Mod_unit_28 rfl ?_
          refine e_get X d_Mod_unit_29 fl_Mod_7 d42 (by omega) rfl ?_
          refine z_sipush X d_Mod_unit_32 (by decide) ?_
          refine z_iload_n X d_Mod_unit_35 rfl ?_
          refine z_imul X d_Mod_unit_36 ?_
          refine z_iload_n X d_Mod_unit_37 rfl ?_
          refine z_iadd X d_Mod_unit_38 ?_
          refine z_iald X d_Mod_unit_39 (j := ((160 * (svx now j)) + i)) d43 (by omega) (by omega) (by omega) ?_
          exact z_ireturn X Q d_Mod_unit_40 rfl ⟨by unfold s_unit; rw [hv_v, if_pos rfl, show ((j : Nat) : Int).toNat = j from rfl, tat_n]; exact hSv_v.2.2.1 i (by omega), rfl⟩
        · refine z_iconst X d_Mod_unit_24 ?_
          refine e_goto (tgt := 40) X d_Mod_unit_25 (by decide) ?_
          exact z_ireturn X Q d_Mod_unit_40 rfl ⟨by unfold s_unit; rw [hv_v, if_pos rfl, show ((j : Nat) : Int).toNat = j from rfl, tat_ge htx_v q3], rfl⟩

set_option maxRecDepth 100000 in
set_option maxHeartbeats 4000000 in
theorem c_Mod_looks {l : Launch} {G : lx_G} {N : Nat} {h : Nat → va_E} {U Ls K C : Nat → Int} {now last : Nat} {cl g o en : Int} {Md : Nat → Int} {ml pts its : Int} {PP CD PL AT : Nat → Int} {T : Nat → tx_T} {kp : Nat → Bool} {V : Nat → tx_T} {n : Nat} {t : Nat → Int} {v m : Int} (hM : MC G h U Ls K C ((now : Nat) : Int) ((last : Nat) : Int) cl g o en Md ml pts its PP CD PL AT) (hN : 52 ≤ N) (hnt : T now = (n, t)) (hsl : ∀ j, j ≤ last → Sl U Ls j (T j)) (hsv : ∀ j, 1 ≤ j → j ≤ 4 → kp j = true → Sl U Ls (8 + j) (V j)) (hK : ∀ j, 1 ≤ j → j ≤ 4 → K j = b2z (kp j)) (hnl : now ≤ last ∧ last ≤ 8) (hr_v : -2147483648 ≤ v ∧ v < 2147483648) (hr_m : -2147483648 ≤ m ∧ m < 2147483648) : CtI l G m_Mod_looks N [.ref (ad (g_b G) 42), vI (v), vI (m)] h (fun z h' => ((isv kp v && mok m) = true ∧ z = 1 ∧ (∃ pts' PP' CD' PL', MC G h' U Ls K C ((now : Nat) : Int) ((last : Nat) : Int) cl g o en Md ml pts' ((cnt (bg m (vtx n t V v.toNat).1 (vtx n t V v.toNat).2) ((vtx n t V v.toNat).1 + 1) : Nat) : Int) PP' CD' PL' AT ∧ sel (bg m (vtx n t V v.toNat).1 (vtx n t V v.toNat).2) ((vtx n t V v.toNat).1 + 1) PL' ∧ PL' (cnt (bg m (vtx n t V v.toNat).1 (vtx n t V v.toNat).2) ((vtx n t V v.toNat).1 + 1)) = (((vtx n t V v.toNat).1 : Nat) : Int)) ∧ (vtx n t V v.toNat).1 ≤ 160 ∧ tx_ok (vtx n t V v.toNat).1 (vtx n t V v.toNat).2 ∧ ∀ q, (q < 42 ∨ 52 ≤ q) → h' q = h q) ∨ ((isv kp v && mok m) = false ∧ z = 0 ∧ h' = h)) := by
  refine zI_of (by decide) rfl rfl ?_
  intro k X Q
  have X : Cx k G R_Mod b_Mod_looks 4 rm_Mod_looks := X
  have Q : Rt k G (some (.boolean)) N 0 0 (pI (fun z h' => ((isv kp v && mok m) = true ∧ z = 1 ∧ (∃ pts' PP' CD' PL', MC G h' U Ls K C ((now : Nat) : Int) ((last : Nat) : Int) cl g o en Md ml pts' ((cnt (bg m (vtx n t V v.toNat).1 (vtx n t V v.toNat).2) ((vtx n t V v.toNat).1 + 1) : Nat) : Int) PP' CD' PL' AT ∧ sel (bg m (vtx n t V v.toNat).1 (vtx n t V v.toNat).2) ((vtx n t V v.toNat).1 + 1) PL' ∧ PL' (cnt (bg m (vtx n t V v.toNat).1 (vtx n t V v.toNat).2) ((vtx n t V v.toNat).1 + 1)) = (((vtx n t V v.toNat).1 : Nat) : Int)) ∧ (vtx n t V v.toNat).1 ≤ 160 ∧ tx_ok (vtx n t V v.toNat).1 (vtx n t V v.toNat).2 ∧ ∀ q, (q < 42 ∨ 52 ≤ q) → h' q = h q) ∨ ((isv kp v && mok m) = false ∧ z = 0 ∧ h' = h))) := Q
  show Ev k G 4 N 0 0 h 0 [some (.ref (ad (g_b G) 42)), some (vI (v)), some (vI (m)), none] []
  obtain ⟨d42, d43, d44, d45, d46, d47, d48, d49, d50, d51⟩ := id hM
  refine e_aload_n X d_Mod_looks_0 rfl ?_
  refine z_iload_n X d_Mod_looks_1 rfl ?_
  refine z_callV_I X d_Mod_looks_2 cv_Mod_121 (c_Mod_slot (kp := kp) hM hN hK hr_v) d42 (by omega) rfl rfl ⟨rfl, rfl⟩ rfl (fun z3 h1 hp2 => ?_)
  obtain ⟨rfl, hh4⟩ := hp2
  rw [hh4]
  cases hv_v : isv kp v
  · refine z_top (show _ = -1 from slz_no hv_v) ?_
    refine e_istore_n X d_Mod_looks_5 (by decide) ?_
    refine z_iload_n X d_Mod_looks_6 rfl ?_
    refine z_if_lt (tgt := 19) X d_Mod_looks_7 (by decide) (by omega) (fun q1 => ?_) (fun q1 => ?_)
    · refine z_iconst X d_Mod_looks_19 ?_
      exact z_ireturn X Q d_Mod_looks_20 rfl (Or.inr ⟨by rw [hv_v]; rfl, rfl, rfl⟩)
    · omega
  · obtain ⟨j, rfl, hj4_v, hsz_v, hs13_v, hSv_v⟩ := md_ver hnt hsl hsv hnl hv_v
    refine z_top (show _ = ((svx now j : Nat) : Int) from hsz_v) ?_
    have hl1_v := hSv_v.2.1
    have htx_v := hSv_v.2.2.2
    refine e_istore_n X d_Mod_looks_5 (by decide) ?_
    refine z_iload_n X d_Mod_looks_6 rfl ?_
    refine z_if_lt (tgt := 19) X d_Mod_looks_7 (by decide) (by omega) (fun q1 => ?_) (fun q1 => ?_)
    · omega
    · refine z_iload_n X d_Mod_looks_10 rfl ?_
      refine z_if_lt (tgt := 19) X d_Mod_looks_11 (by decide) (by omega) (fun q2 => ?_) (fun q2 => ?_)
      · refine z_iconst X d_Mod_looks_19 ?_
        exact z_ireturn X Q d_Mod_looks_20 rfl (Or.inr ⟨by rw [show mok m = false by unfold mok; rw [decide_eq_false (show ¬ 0 ≤ m by omega)]; rfl, Bool.and_false], rfl, rfl⟩)
      · refine z_iload_n X d_Mod_looks_14 rfl ?_
        refine z_iconst X d_Mod_looks_15 ?_
        refine z_icmp_le (tgt := 21) X d_Mod_looks_16 (by decide) (by omega) (fun q3 => ?_) (fun q3 => ?_)
        · refine e_aload_n X d_Mod_looks_21 rfl ?_
          refine z_iload_n X d_Mod_looks_22 rfl ?_
          refine z_iload_n X d_Mod_looks_23 rfl ?_
          refine z_callV_V X d_Mod_looks_24 cv_Mod_92 (c_Mod_findItems hM hN hs13_v hSv_v (by omega)) d42 (by omega) rfl rfl ⟨rfl, rfl⟩ rfl (fun h5 hp6 => ?_)
          obtain ⟨⟨pt1, PP1, CD1, PL1, hM1, hs1, hp1⟩, hf1⟩ := hp6
          refine z_iconst X d_Mod_looks_27 ?_
          exact z_ireturn X Q d_Mod_looks_28 rfl (Or.inl ⟨by rw [hv_v, show mok m = true by unfold mok; rw [decide_eq_true q2, decide_eq_true q3]; rfl]; rfl, rfl, ⟨pt1, PP1, CD1, PL1, hM1, hs1, hp1⟩, hl1_v, htx_v, hf1⟩)
        · refine z_iconst X d_Mod_looks_19 ?_
          exact z_ireturn X Q d_Mod_looks_20 rfl (Or.inr ⟨by rw [show mok m = false by unfold mok; rw [decide_eq_false (show ¬ m ≤ 3 by omega), Bool.and_false], Bool.and_false], rfl, rfl⟩)

set_option maxRecDepth 100000 in
set_option maxHeartbeats 4000000 in
theorem c_Mod_count {l : Launch} {G : lx_G} {N : Nat} {h : Nat → va_E} {now last : Nat} {T : Nat → tx_T} {c : Nat} {p : Nat → Int} {kp : Nat → Bool} {V : Nat → tx_T} {g o en : Int} {n : Nat} {t : Nat → Int} {v m : Int} (hD : MD G h now last T c p kp V g o en) (hN : 52 ≤ N) (hnt : T now = (n, t)) (hr_v : -2147483648 ≤ v ∧ v < 2147483648) (hr_m : -2147483648 ≤ m ∧ m < 2147483648) : CtI l G m_Mod_count N [.ref (ad (g_b G) 42), vI (v), vI (m)] h (fun z h' => z = s_count n t kp V v m ∧ MD G h' now last T c p kp V g o en ∧ (∀ q, (q < 42 ∨ 52 ≤ q) → h' q = h q)) := by
  obtain ⟨U, Ls, K, C, Md, ml, pts, its, PP, CD, PL, AT, hM, hsl, hsv, hK, hC, hcx, hc24, hnl, hgg, hoo, hee⟩ := hD
  have hS := hsl now hnl.1
  rw [hnt] at hS
  have hl1 := hS.2.1
  have htx := hS.2.2.2
  dsimp only at hl1 htx
  refine zI_of (by decide) rfl rfl ?_
  intro k X Q
  have X : Cx k G R_Mod b_Mod_count 3 rm_Mod_count := X
  have Q : Rt k G (some (.int)) N 0 0 (pI (fun z h' => z = s_count n t kp V v m ∧ MD G h' now last T c p kp V g o en ∧ (∀ q, (q < 42 ∨ 52 ≤ q) → h' q = h q))) := Q
  show Ev k G 3 N 0 0 h 0 [some (.ref (ad (g_b G) 42)), some (vI (v)), some (vI (m))] []
  obtain ⟨d42, d43, d44, d45, d46, d47, d48, d49, d50, d51⟩ := id hM
  refine e_aload_n X d_Mod_count_0 rfl ?_
  refine z_iload_n X d_Mod_count_1 rfl ?_
  refine z_iload_n X d_Mod_count_2 rfl ?_
  refine z_callV_I X d_Mod_count_3 cv_Mod_125 (c_Mod_looks hM hN hnt hsl hsv hK hnl hr_v hr_m) d42 (by omega) rfl rfl ⟨rfl, rfl⟩ rfl (fun z3 h1 hp2 => ?_)
  rcases hp2 with ⟨hlk, rfl, ⟨pt1, PP1, CD1, PL1, hM1, hs1, hp1⟩, hl9, htx9, hf1⟩ | ⟨hlk, rfl, hh9⟩
  · obtain ⟨d42k, d43k, d44k, d45k, d46k, d47k, d48k, d49k, d50k, d51k⟩ := id hM1
    have hcl := cnt_le (B := (bg m (vtx n t V v.toNat).1 (vtx n t V v.toNat).2)) ((vtx n t V v.toNat).1 + 1)
    refine z_if_eq (tgt := 16) X d_Mod_count_6 (by decide) (by omega) (fun q1 => ?_) (fun q1 => ?_)
    · exact absurd q1 (by decide)
    · refine e_aload_n X d_Mod_count_9 rfl ?_
      refine e_get X d_Mod_count_10 fl_Mod_73 d42k (by omega) rfl ?_
      refine e_goto (tgt := 17) X d_Mod_count_13 (by decide) ?_
      exact z_ireturn X Q d_Mod_count_17 rfl ⟨by unfold s_count; rw [hlk]; rfl, ⟨_, _, _, _, _, _, _, _, _, _, _, _, hM1, hsl, hsv, hK, hC, hcx, hc24, hnl, hgg, hoo, hee⟩, hf1⟩
  · rw [hh9]
    refine z_if_eq (tgt := 16) X d_Mod_count_6 (by decide) (by omega) (fun q1 => ?_) (fun q1 => ?_)
    · refine z_iconst X d_Mod_count_16 ?_
      exact z_ireturn X Q d_Mod_count_17 rfl ⟨by unfold s_count; rw [hlk]; rfl, ⟨_, _, _, _, _, _, _, _, _, _, _, _, hM, hsl, hsv, hK, hC, hcx, hc24, hnl, hgg, hoo, hee⟩, fun q _ => rfl⟩
    · exact absurd rfl q1

set_option maxRecDepth 100000 in
set_option maxHeartbeats 4000000 in
theorem c_Mod_place {l : Launch} {G : lx_G} {N : Nat} {h : Nat → va_E} {now last : Nat} {T : Nat → tx_T} {c : Nat} {p : Nat → Int} {kp : Nat → Bool} {V : Nat → tx_T} {g o en : Int} {n : Nat} {t : Nat → Int} {v m a : Int} (hD : MD G h now last T c p kp V g o en) (hN : 52 ≤ N) (hnt : T now = (n, t)) (hr_v : -2147483648 ≤ v ∧ v < 2147483648) (hr_m : -2147483648 ≤ m ∧ m < 2147483648) (hr_a : -2147483648 ≤ a ∧ a < 2147483648) : CtI l G m_Mod_place N [.ref (ad (g_b G) 42), vI (v), vI (m), vI (a)] h (fun z h' => z = s_place n t kp V v m a ∧ MD G h' now last T c p kp V g o en ∧ (∀ q, (q < 42 ∨ 52 ≤ q) → h' q = h q)) := by
  obtain ⟨U, Ls, K, C, Md, ml, pts, its, PP, CD, PL, AT, hM, hsl, hsv, hK, hC, hcx, hc24, hnl, hgg, hoo, hee⟩ := hD
  have hS := hsl now hnl.1
  rw [hnt] at hS
  have hl1 := hS.2.1
  have htx := hS.2.2.2
  dsimp only at hl1 htx
  refine zI_of (by decide) rfl rfl ?_
  intro k X Q
  have X : Cx k G R_Mod b_Mod_place 4 rm_Mod_place := X
  have Q : Rt k G (some (.int)) N 0 0 (pI (fun z h' => z = s_place n t kp V v m a ∧ MD G h' now last T c p kp V g o en ∧ (∀ q, (q < 42 ∨ 52 ≤ q) → h' q = h q))) := Q
  show Ev k G 4 N 0 0 h 0 [some (.ref (ad (g_b G) 42)), some (vI (v)), some (vI (m)), some (vI (a))] []
  obtain ⟨d42, d43, d44, d45, d46, d47, d48, d49, d50, d51⟩ := id hM
  refine e_aload_n X d_Mod_place_0 rfl ?_
  refine z_iload_n X d_Mod_place_1 rfl ?_
  refine z_iload_n X d_Mod_place_2 rfl ?_
  refine z_callV_I X d_Mod_place_3 cv_Mod_125 (c_Mod_looks hM hN hnt hsl hsv hK hnl hr_v hr_m) d42 (by omega) rfl rfl ⟨rfl, rfl⟩ rfl (fun z3 h1 hp2 => ?_)
  rcases hp2 with ⟨hlk, rfl, ⟨pt1, PP1, CD1, PL1, hM1, hs1, hp1⟩, hl9, htx9, hf1⟩ | ⟨hlk, rfl, hh9⟩
  · obtain ⟨d42k, d43k, d44k, d45k, d46k, d47k, d48k, d49k, d50k, d51k⟩ := id hM1
    have hcl := cnt_le (B := (bg m (vtx n t V v.toNat).1 (vtx n t V v.toNat).2)) ((vtx n t V v.toNat).1 + 1)
    refine z_if_eq (tgt := 30) X d_Mod_place_6 (by decide) (by omega) (fun q1 => ?_) (fun q1 => ?_)
    · exact absurd q1 (by decide)
    · refine z_iload_n X d_Mod_place_9 rfl ?_
      refine z_if_lt (tgt := 30) X d_Mod_place_10 (by decide) (by omega) (fun q2 => ?_) (fun q2 => ?_)
      · refine z_iconst X d_Mod_place_30 ?_
        exact z_ireturn X Q d_Mod_place_31 rfl ⟨by unfold s_place it_place; rw [hlk, if_pos rfl, if_pos (Or.inl q2)], ⟨_, _, _, _, _, _, _, _, _, _, _, _, hM1, hsl, hsv, hK, hC, hcx, hc24, hnl, hgg, hoo, hee⟩, hf1⟩
      · refine z_iload_n X d_Mod_place_13 rfl ?_
        refine e_aload_n X d_Mod_place_14 rfl ?_
        refine e_get X d_Mod_place_15 fl_Mod_73 d42k (by omega) rfl ?_
        refine z_icmp_gt (tgt := 30) X d_Mod_place_18 (by decide) (by omega) (fun q3 => ?_) (fun q3 => ?_)
        · refine z_iconst X d_Mod_place_30 ?_
          exact z_ireturn X Q d_Mod_place_31 rfl ⟨by unfold s_place it_place; rw [hlk, if_pos rfl, if_pos (Or.inr q3)], ⟨_, _, _, _, _, _, _, _, _, _, _, _, hM1, hsl, hsv, hK, hC, hcx, hc24, hnl, hgg, hoo, hee⟩, hf1⟩
        · obtain ⟨i, rfl⟩ : ∃ i : Nat, a = (i : Int) := ⟨a.toNat, by omega⟩
          refine e_aload_n X d_Mod_place_21 rfl ?_
          refine e_get X d_Mod_place_22 fl_Mod_36 d42k (by omega) rfl ?_
          refine z_iload_n X d_Mod_place_25 rfl ?_
          refine z_iald X d_Mod_place_26 (j := i) d50k (by omega) (by omega) (by omega) ?_
          refine e_goto (tgt := 31) X d_Mod_place_27 (by decide) ?_
          have hval : PL1 i = s_place n t kp V v m ((i : Nat) : Int) := by
            unfold s_place it_place; rw [hlk, if_pos rfl, if_neg (by omega)]
            by_cases h9 : ((i : Nat) : Int) = ((cnt (bg m (vtx n t V v.toNat).1 (vtx n t V v.toNat).2) ((vtx n t V v.toNat).1 + 1) : Nat) : Int)
            · rw [if_pos h9, show i = cnt (bg m (vtx n t V v.toNat).1 (vtx n t V v.toNat).2) ((vtx n t V v.toNat).1 + 1) by omega, hp1]
            · rw [if_neg h9]; exact sel_nth hs1 (by omega)
          exact z_ireturn X Q d_Mod_place_31 rfl ⟨hval, ⟨_, _, _, _, _, _, _, _, _, _, _, _, hM1, hsl, hsv, hK, hC, hcx, hc24, hnl, hgg, hoo, hee⟩, hf1⟩
  · rw [hh9]
    refine z_if_eq (tgt := 30) X d_Mod_place_6 (by decide) (by omega) (fun q1 => ?_) (fun q1 => ?_)
    · refine z_iconst X d_Mod_place_30 ?_
      exact z_ireturn X Q d_Mod_place_31 rfl ⟨by unfold s_place; rw [hlk]; rfl, ⟨_, _, _, _, _, _, _, _, _, _, _, _, hM, hsl, hsv, hK, hC, hcx, hc24, hnl, hgg, hoo, hee⟩, fun q _ => rfl⟩
    · exact absurd rfl q1

set_option maxRecDepth 100000 in
set_option maxHeartbeats 4000000 in
theorem c_Mod_item {l : Launch} {G : lx_G} {N : Nat} {h : Nat → va_E} {now last : Nat} {T : Nat → tx_T} {c : Nat} {p : Nat → Int} {kp : Nat → Bool} {V : Nat → tx_T} {g o en : Int} {n : Nat} {t : Nat → Int} {v m a : Int} (hD : MD G h now last T c p kp V g o en) (hN : 52 ≤ N) (hnt : T now = (n, t)) (hr_v : -2147483648 ≤ v ∧ v < 2147483648) (hr_m : -2147483648 ≤ m ∧ m < 2147483648) (hr_a : -2147483648 ≤ a ∧ a < 2147483648) : CtI l G m_Mod_item N [.ref (ad (g_b G) 42), vI (v), vI (m), vI (a)] h (fun z h' => z = s_item n t kp V v m a ∧ MD G h' now last T c p kp V g o en ∧ (∀ q, (q < 42 ∨ 52 ≤ q) → h' q = h q)) := by
  obtain ⟨U, Ls, K, C, Md, ml, pts, its, PP, CD, PL, AT, hM, hsl, hsv, hK, hC, hcx, hc24, hnl, hgg, hoo, hee⟩ := hD
  have hS := hsl now hnl.1
  rw [hnt] at hS
  have hl1 := hS.2.1
  have htx := hS.2.2.2
  dsimp only at hl1 htx
  refine zI_of (by decide) rfl rfl ?_
  intro k X Q
  have X : Cx k G R_Mod b_Mod_item 5 rm_Mod_item := X
  have Q : Rt k G (some (.int)) N 0 0 (pI (fun z h' => z = s_item n t kp V v m a ∧ MD G h' now last T c p kp V g o en ∧ (∀ q, (q < 42 ∨ 52 ≤ q) → h' q = h q))) := Q
  show Ev k G 5 N 0 0 h 0 [some (.ref (ad (g_b G) 42)), some (vI (v)), some (vI (m)), some (vI (a)), none] []
  obtain ⟨d42, d43, d44, d45, d46, d47, d48, d49, d50, d51⟩ := id hM
  refine e_aload_n X d_Mod_item_0 rfl ?_
  refine z_iload_n X d_Mod_item_1 rfl ?_
  refine z_iload_n X d_Mod_item_2 rfl ?_
  refine z_callV_I X d_Mod_item_3 cv_Mod_125 (c_Mod_looks hM hN hnt hsl hsv hK hnl hr_v hr_m) d42 (by omega) rfl rfl ⟨rfl, rfl⟩ rfl (fun z3 h1 hp2 => ?_)
  rcases hp2 with ⟨hlk, rfl, ⟨pt1, PP1, CD1, PL1, hM1, hs1, hp1⟩, hl9, htx9, hf1⟩ | ⟨hlk, rfl, hh9⟩
  · obtain ⟨d42k, d43k, d44k, d45k, d46k, d47k, d48k, d49k, d50k, d51k⟩ := id hM1
    have hcl := cnt_le (B := (bg m (vtx n t V v.toNat).1 (vtx n t V v.toNat).2)) ((vtx n t V v.toNat).1 + 1)
    refine z_if_eq (tgt := 26) X d_Mod_item_6 (by decide) (by omega) (fun q1 => ?_) (fun q1 => ?_)
    · exact absurd q1 (by decide)
    · refine z_iload_n X d_Mod_item_9 rfl ?_
      refine z_if_lt (tgt := 26) X d_Mod_item_10 (by decide) (by omega) (fun q2 => ?_) (fun q2 => ?_)
      · refine z_iconst X d_Mod_item_26 ?_
        exact z_ireturn X Q d_Mod_item_27 rfl ⟨by unfold s_item; rw [← Bool.and_assoc, hlk, Bool.true_and, decide_eq_false (show ¬ 0 ≤ a by omega)]; rfl, ⟨_, _, _, _, _, _, _, _, _, _, _, _, hM1, hsl, hsv, hK, hC, hcx, hc24, hnl, hgg, hoo, hee⟩, hf1⟩
      · refine z_iload_n X d_Mod_item_13 rfl ?_
        refine e_aload_n X d_Mod_item_14 rfl ?_
        refine e_get X d_Mod_item_15 fl_Mod_36 d42k (by omega) rfl ?_
        refine e_aload_n X d_Mod_item_18 rfl ?_
        refine e_get X d_Mod_item_19 fl_Mod_73 d42k (by omega) rfl ?_
        refine z_iald X d_Mod_item_22 (j := (cnt (bg m (vtx n t V v.toNat).1 (vtx n t V v.toNat).2) ((vtx n t V v.toNat).1 + 1))) d50k (by omega) (by omega) (by omega) ?_
        refine z_top (show _ = (((vtx n t V v.toNat).1 : Nat) : Int) from hp1) ?_
        refine z_icmp_le (tgt := 28) X d_Mod_item_23 (by decide) (by omega) (fun q3 => ?_) (fun q3 => ?_)
        · obtain ⟨i, rfl⟩ : ∃ i : Nat, a = (i : Int) := ⟨a.toNat, by omega⟩
          have hit : s_item n t kp V v m ((i : Nat) : Int) = it_item m (vtx n t V v.toNat).1 (vtx n t V v.toNat).2 i := by unfold s_item; rw [← Bool.and_assoc, hlk, Bool.true_and, decide_eq_true (show 0 ≤ ((i : Nat) : Int) by omega), decide_eq_true (show ((i : Nat) : Int) ≤ (((vtx n t V v.toNat).1 : Nat) : Int) by omega)]; rfl
          have hc2 := cnt_mono (B := (bg m (vtx n t V v.toNat).1 (vtx n t V v.toNat).2)) (show i + 1 ≤ (vtx n t V v.toNat).1 + 1 by omega)
          have hmk : 0 ≤ m ∧ m ≤ 3 := by simp only [mok, Bool.and_eq_true, decide_eq_true_eq] at hlk; exact hlk.2
          refine z_iconst X d_Mod_item_28 ?_
          refine e_istore X d_Mod_item_29 (by decide) ?_
          have loop : ∀ (d9 : Nat) (k9 : Nat), cnt (bg m (vtx n t V v.toNat).1 (vtx n t V v.toNat).2) ((vtx n t V v.toNat).1 + 1) - k9 < d9 → k9 ≤ cnt (bg m (vtx n t V v.toNat).1 (vtx n t V v.toNat).2) (i + 1) - 1 → Ev k G 5 N 0 0 h1 31 [some (.ref (ad (g_b G) 42)), some (vI (v)), some (vI (m)), some (vI ((i : Nat) : Int)), some (vI ((k9 : Nat) : Int))] [] := by
            intro d9
            induction d9 with
            | zero =>
              intro k9 hm9
              exact absurd hm9 (Nat.not_lt_zero _)
            | succ d9 ih =>
              intro k9 hm9 hk
              refine z_iload X d_Mod_item_31 rfl ?_
              refine z_iconst X d_Mod_item_33 ?_
              refine z_iadd X d_Mod_item_34 ?_
              refine e_aload_n X d_Mod_item_35 rfl ?_
              refine e_get X d_Mod_item_36 fl_Mod_73 d42k (by omega) rfl ?_
              refine z_icmp_ge (tgt := 61) X d_Mod_item_39 (by decide) (by omega) (fun q4 => ?_) (fun q4 => ?_)
              · refine z_iload_n X d_Mod_item_61 rfl ?_
                refine z_iconst X d_Mod_item_62 ?_
                refine z_icmp_eq (tgt := 86) X d_Mod_item_63 (by decide) (by omega) (fun p1 => ?_) (fun p1 => ?_)
                · refine z_iload X d_Mod_item_86 rfl ?_
                  have h0 := cnt_pos (bg_zero htx9 (Or.inr p1)) i
                  exact z_ireturn X Q d_Mod_item_88 rfl ⟨by rw [hit]; unfold it_item; rw [if_neg (fun q9 => q9.2 p1)]; omega, ⟨_, _, _, _, _, _, _, _, _, _, _, _, hM1, hsl, hsv, hK, hC, hcx, hc24, hnl, hgg, hoo, hee⟩, hf1⟩
                · refine z_iload_n X d_Mod_item_66 rfl ?_
                  refine e_aload_n X d_Mod_item_67 rfl ?_
                  refine e_get X d_Mod_item_68 fl_Mod_36 d42k (by omega) rfl ?_
                  refine e_aload_n X d_Mod_item_71 rfl ?_
                  refine e_get X d_Mod_item_72 fl_Mod_73 d42k (by omega) rfl ?_
                  refine z_iald X d_Mod_item_75 (j := (cnt (bg m (vtx n t V v.toNat).1 (vtx n t V v.toNat).2) ((vtx n t V v.toNat).1 + 1))) d50k (by omega) (by omega) (by omega) ?_
                  refine z_top (show _ = (((vtx n t V v.toNat).1 : Nat) : Int) from hp1) ?_
                  refine z_icmp_ne (tgt := 86) X d_Mod_item_76 (by decide) (by omega) (fun p2 => ?_) (fun p2 => ?_)
                  · refine z_iload X d_Mod_item_86 rfl ?_
                    have h0 := cnt_pos (bg_zero (m := m) htx9 (Or.inl (show 0 < (vtx n t V v.toNat).1 by omega))) i
                    exact z_ireturn X Q d_Mod_item_88 rfl ⟨by rw [hit]; unfold it_item; rw [if_neg (fun q9 => p2 (by omega))]; omega, ⟨_, _, _, _, _, _, _, _, _, _, _, _, hM1, hsl, hsv, hK, hC, hcx, hc24, hnl, hgg, hoo, hee⟩, hf1⟩
                  · refine e_aload_n X d_Mod_item_79 rfl ?_
                    refine e_get X d_Mod_item_80 fl_Mod_73 d42k (by omega) rfl ?_
                    refine e_goto (tgt := 88) X d_Mod_item_83 (by decide) ?_
                    exact z_ireturn X Q d_Mod_item_88 rfl ⟨by rw [hit]; unfold it_item; rw [if_pos ⟨by omega, p1⟩], ⟨_, _, _, _, _, _, _, _, _, _, _, _, hM1, hsl, hsv, hK, hC, hcx, hc24, hnl, hgg, hoo, hee⟩, hf1⟩
              · have hgt := sel_gt (p := i) hs1 (show k9 + 1 < cnt (bg m (vtx n t V v.toNat).1 (vtx n t V v.toNat).2) ((vtx n t V v.toNat).1 + 1) by omega)
                have hrg := sel_rg hs1 (show k9 + 1 < cnt (bg m (vtx n t V v.toNat).1 (vtx n t V v.toNat).2) ((vtx n t V v.toNat).1 + 1) by omega)
                refine e_aload_n X d_Mod_item_42 rfl ?_
                refine e_get X d_Mod_item_43 fl_Mod_36 d42k (by omega) rfl ?_
                refine z_iload X d_Mod_item_46 rfl ?_
                refine z_iconst X d_Mod_item_48 ?_
                refine z_iadd X d_Mod_item_49 ?_
                refine z_iald X d_Mod_item_50 (j := (k9 + 1)) d50k (by omega) (by omega) (by omega) ?_
                refine z_iload_n X d_Mod_item_51 rfl ?_
                refine z_icmp_gt (tgt := 61) X d_Mod_item_52 (by decide) (by omega) (fun q5 => ?_) (fun q5 => ?_)
                · have hk2 := hgt.mp q5
                  refine z_iload_n X d_Mod_item_61 rfl ?_
                  refine z_iconst X d_Mod_item_62 ?_
                  refine z_icmp_eq (tgt := 86) X d_Mod_item_63 (by decide) (by omega) (fun p1 => ?_) (fun p1 => ?_)
                  · refine z_iload X d_Mod_item_86 rfl ?_
                    have h0 := cnt_pos (bg_zero htx9 (Or.inr p1)) i
                    exact z_ireturn X Q d_Mod_item_88 rfl ⟨by rw [hit]; unfold it_item; rw [if_neg (fun q9 => q9.2 p1)]; omega, ⟨_, _, _, _, _, _, _, _, _, _, _, _, hM1, hsl, hsv, hK, hC, hcx, hc24, hnl, hgg, hoo, hee⟩, hf1⟩
                  · refine z_iload_n X d_Mod_item_66 rfl ?_
                    refine e_aload_n X d_Mod_item_67 rfl ?_
                    refine e_get X d_Mod_item_68 fl_Mod_36 d42k (by omega) rfl ?_
                    refine e_aload_n X d_Mod_item_71 rfl ?_
                    refine e_get X d_Mod_item_72 fl_Mod_73 d42k (by omega) rfl ?_
                    refine z_iald X d_Mod_item_75 (j := (cnt (bg m (vtx n t V v.toNat).1 (vtx n t V v.toNat).2) ((vtx n t V v.toNat).1 + 1))) d50k (by omega) (by omega) (by omega) ?_
                    refine z_top (show _ = (((vtx n t V v.toNat).1 : Nat) : Int) from hp1) ?_
                    refine z_icmp_ne (tgt := 86) X d_Mod_item_76 (by decide) (by omega) (fun p2 => ?_) (fun p2 => ?_)
                    · refine z_iload X d_Mod_item_86 rfl ?_
                      have h0 := cnt_pos (bg_zero (m := m) htx9 (Or.inl (show 0 < (vtx n t V v.toNat).1 by omega))) i
                      exact z_ireturn X Q d_Mod_item_88 rfl ⟨by rw [hit]; unfold it_item; rw [if_neg (fun q9 => p2 (by omega))]; omega, ⟨_, _, _, _, _, _, _, _, _, _, _, _, hM1, hsl, hsv, hK, hC, hcx, hc24, hnl, hgg, hoo, hee⟩, hf1⟩
                    · refine e_aload_n X d_Mod_item_79 rfl ?_
                      refine e_get X d_Mod_item_80 fl_Mod_73 d42k (by omega) rfl ?_
                      refine e_goto (tgt := 88) X d_Mod_item_83 (by decide) ?_
                      exact z_ireturn X Q d_Mod_item_88 rfl ⟨by rw [hit]; unfold it_item; rw [if_pos ⟨by omega, p1⟩], ⟨_, _, _, _, _, _, _, _, _, _, _, _, hM1, hsl, hsv, hK, hC, hcx, hc24, hnl, hgg, hoo, hee⟩, hf1⟩
                · have hk2 : ¬ cnt (bg m (vtx n t V v.toNat).1 (vtx n t V v.toNat).2) (i + 1) ≤ k9 + 1 := fun q9 => absurd (hgt.mpr q9) (by omega)
                  refine z_iinc X d_Mod_item_55 rfl (by decide) ?_
                  refine e_goto (tgt := 31) X d_Mod_item_58 (by decide) ?_
                  exact ih (k9 + 1) (by omega) (by omega)
          exact loop _ 0 (Nat.lt_succ_self _) (Nat.zero_le _)
        · refine z_iconst X d_Mod_item_26 ?_
          exact z_ireturn X Q d_Mod_item_27 rfl ⟨by unfold s_item; rw [← Bool.and_assoc, hlk, Bool.true_and, decide_eq_false (show ¬ a ≤ (((vtx n t V v.toNat).1 : Nat) : Int) by omega), Bool.and_false]; rfl, ⟨_, _, _, _, _, _, _, _, _, _, _, _, hM1, hsl, hsv, hK, hC, hcx, hc24, hnl, hgg, hoo, hee⟩, hf1⟩
  · rw [hh9]
    refine z_if_eq (tgt := 26) X d_Mod_item_6 (by decide) (by omega) (fun q1 => ?_) (fun q1 => ?_)
    · refine z_iconst X d_Mod_item_26 ?_
      exact z_ireturn X Q d_Mod_item_27 rfl ⟨by unfold s_item; rw [← Bool.and_assoc, hlk]; rfl, ⟨_, _, _, _, _, _, _, _, _, _, _, _, hM, hsl, hsv, hK, hC, hcx, hc24, hnl, hgg, hoo, hee⟩, fun q _ => rfl⟩
    · exact absurd rfl q1

abbrev eqb (f g : Nat → Int) (k : Nat) : Bool := decide (∀ x, x < k → f x = g x)
set_option maxRecDepth 100000 in
set_option maxHeartbeats 4000000 in
theorem c_Mod_same {l : Launch} {G : lx_G} {N : Nat} {h : Nat → va_E} {now last : Nat} {T : Nat → tx_T} {c : Nat} {p : Nat → Int} {kp : Nat → Bool} {V : Nat → tx_T} {g o en : Int} {n : Nat} {t : Nat → Int} {v a : Int} (hD : MD G h now last T c p kp V g o en) (hN : 52 ≤ N) (hnt : T now = (n, t)) (hr_v : -2147483648 ≤ v ∧ v < 2147483648) (hr_a : -2147483648 ≤ a ∧ a < 2147483648) : CtI l G m_Mod_same N [.ref (ad (g_b G) 42), vI (v), vI (a)] h (fun z h' => z = b2z (s_same n t kp V v a) ∧ h' = h) := by
  obtain ⟨U, Ls, K, C, Md, ml, pts, its, PP, CD, PL, AT, hM, hsl, hsv, hK, hC, hcx, hc24, hnl, hgg, hoo, hee⟩ := hD
  have hS := hsl now hnl.1
  rw [hnt] at hS
  have hl1 := hS.2.1
  have htx := hS.2.2.2
  dsimp only at hl1 htx
  refine zI_of (by decide) rfl rfl ?_
  intro k X Q
  have X : Cx k G R_Mod b_Mod_same 7 rm_Mod_same := X
  have Q : Rt k G (some (.boolean)) N 0 0 (pI (fun z h' => z = b2z (s_same n t kp V v a) ∧ h' = h)) := Q
  show Ev k G 7 N 0 0 h 0 [some (.ref (ad (g_b G) 42)), some (vI (v)), some (vI (a)), none, none, none, none] []
  obtain ⟨d42, d43, d44, d45, d46, d47, d48, d49, d50, d51⟩ := id hM
  refine e_aload_n X d_Mod_same_0 rfl ?_
  refine z_iload_n X d_Mod_same_1 rfl ?_
  refine z_callV_I X d_Mod_same_2 cv_Mod_121 (c_Mod_slot (kp := kp) hM hN hK hr_v) d42 (by omega) rfl rfl ⟨rfl, rfl⟩ rfl (fun z3 h1 hp2 => ?_)
  obtain ⟨rfl, hh4⟩ := hp2
  rw [hh4]
  cases hv_v : isv kp v
  · refine z_top (show _ = -1 from slz_no hv_v) ?_
    refine e_istore_n X d_Mod_same_5 (by decide) ?_
    refine e_aload_n X d_Mod_same_6 rfl ?_
    refine z_iload_n X d_Mod_same_7 rfl ?_
    refine z_callV_I X d_Mod_same_8 cv_Mod_121 (c_Mod_slot (kp := kp) hM hN hK hr_a) d42 (by omega) rfl rfl ⟨rfl, rfl⟩ rfl (fun z7 h5 hp6 => ?_)
    obtain ⟨rfl, hh8⟩ := hp6
    rw [hh8]
    have hsr : -1 ≤ slz now kp a ∧ slz now kp a < 100 := by unfold slz; split; split; omega; (rename_i h8 h9; simp only [isv, Bool.or_eq_true, Bool.and_eq_true, decide_eq_true_eq] at h8; omega); omega
    refine e_istore X d_Mod_same_11 (by decide) ?_
    refine z_iload_n X d_Mod_same_13 rfl ?_
    refine z_if_lt (tgt := 42) X d_Mod_same_14 (by decide) (by omega) (fun p1 => ?_) (fun p1 => ?_)
    · refine z_iconst X d_Mod_same_42 ?_
      refine e_istore X d_Mod_same_43 (by decide) ?_
      refine z_iconst X d_Mod_same_45 ?_
      refine e_istore X d_Mod_same_46 (by decide) ?_
      refine z_iload X d_Mod_same_48 rfl ?_
      refine z_if_eq (tgt := 107) X d_Mod_same_50 (by decide) (by omega) (fun p9 => ?_) (fun p9 => ?_)
      · refine z_iload X d_Mod_same_107 rfl ?_
        exact z_ireturn X Q d_Mod_same_109 rfl ⟨by unfold s_same; rw [hv_v]; rfl, rfl⟩
      · exact absurd rfl p9
    · omega
  · obtain ⟨j, rfl, hj4_v, hsz_v, hs13_v, hSv_v⟩ := md_ver hnt hsl hsv hnl hv_v
    refine z_top (show _ = ((svx now j : Nat) : Int) from hsz_v) ?_
    have hl1_v := hSv_v.2.1
    have htx_v := hSv_v.2.2.2
    refine e_istore_n X d_Mod_same_5 (by decide) ?_
    refine e_aload_n X d_Mod_same_6 rfl ?_
    refine z_iload_n X d_Mod_same_7 rfl ?_
    refine z_callV_I X d_Mod_same_8 cv_Mod_121 (c_Mod_slot (kp := kp) hM hN hK hr_a) d42 (by omega) rfl rfl ⟨rfl, rfl⟩ rfl (fun z11 h9 hp10 => ?_)
    obtain ⟨rfl, hh12⟩ := hp10
    rw [hh12]
    cases hv_a : isv kp a
    · refine z_top (show _ = -1 from slz_no hv_a) ?_
      refine e_istore X d_Mod_same_11 (by decide) ?_
      refine z_iload_n X d_Mod_same_13 rfl ?_
      refine z_if_lt (tgt := 42) X d_Mod_same_14 (by decide) (by omega) (fun p1 => ?_) (fun p1 => ?_)
      · omega
      · refine z_iload X d_Mod_same_17 rfl ?_
        refine z_if_lt (tgt := 42) X d_Mod_same_19 (by decide) (by omega) (fun p2 => ?_) (fun p2 => ?_)
        · refine z_iconst X d_Mod_same_42 ?_
          refine e_istore X d_Mod_same_43 (by decide) ?_
          refine z_iconst X d_Mod_same_45 ?_
          refine e_istore X d_Mod_same_46 (by decide) ?_
          refine z_iload X d_Mod_same_48 rfl ?_
          refine z_if_eq (tgt := 107) X d_Mod_same_50 (by decide) (by omega) (fun p9 => ?_) (fun p9 => ?_)
          · refine z_iload X d_Mod_same_107 rfl ?_
            exact z_ireturn X Q d_Mod_same_109 rfl ⟨by unfold s_same; rw [hv_v, hv_a, Bool.false_and, Bool.and_false]; rfl, rfl⟩
          · exact absurd rfl p9
        · omega
    · obtain ⟨i, rfl, hj4_a, hsz_a, hs13_a, hSv_a⟩ := md_ver hnt hsl hsv hnl hv_a
      refine z_top (show _ = ((svx now i : Nat) : Int) from hsz_a) ?_
      have hl1_a := hSv_a.2.1
      have htx_a := hSv_a.2.2.2
      refine e_istore X d_Mod_same_11 (by decide) ?_
      refine z_iload_n X d_Mod_same_13 rfl ?_
      refine z_if_lt (tgt := 42) X d_Mod_same_14 (by decide) (by omega) (fun p1 => ?_) (fun p1 => ?_)
      · omega
      · refine z_iload X d_Mod_same_17 rfl ?_
        refine z_if_lt (tgt := 42) X d_Mod_same_19 (by decide) (by omega) (fun p2 => ?_) (fun p2 => ?_)
        · omega
        · refine e_aload_n X d_Mod_same_22 rfl ?_
          refine e_get X d_Mod_same_23 fl_Mod_13 d42 (by omega) rfl ?_
          refine z_iload_n X d_Mod_same_26 rfl ?_
          refine z_iald X d_Mod_same_27 (j := (svx now j)) d44 (by omega) (by omega) (by omega) ?_
          refine z_top (show _ = (((vtx n t V j).1 : Nat) : Int) from hSv_v.1) ?_
          refine e_aload_n X d_Mod_same_28 rfl ?_
          refine e_get X d_Mod_same_29 fl_Mod_13 d42 (by omega) rfl ?_
          refine z_iload X d_Mod_same_32 rfl ?_
          refine z_iald X d_Mod_same_34 (j := (svx now i)) d44 (by omega) (by omega) (by omega) ?_
          refine z_top (show _ = (((vtx n t V i).1 : Nat) : Int) from hSv_a.1) ?_
          refine z_icmp_ne (tgt := 42) X d_Mod_same_35 (by decide) (by omega) (fun p3 => ?_) (fun p3 => ?_)
          · refine z_iconst X d_Mod_same_42 ?_
            refine e_istore X d_Mod_same_43 (by decide) ?_
            refine z_iconst X d_Mod_same_45 ?_
            refine e_istore X d_Mod_same_46 (by decide) ?_
            refine z_iload X d_Mod_same_48 rfl ?_
            refine z_if_eq (tgt := 107) X d_Mod_same_50 (by decide) (by omega) (fun p9 => ?_) (fun p9 => ?_)
            · refine z_iload X d_Mod_same_107 rfl ?_
              exact z_ireturn X Q d_Mod_same_109 rfl ⟨(by unfold s_same; rw [hv_v, hv_a, Bool.true_and, Bool.true_and, show ((j : Nat) : Int).toNat = j from rfl, show ((i : Nat) : Int).toNat = i from rfl]; unfold smu; exact (b2z_f (decide_eq_false (fun q9 => p3 (by omega)))).symm), rfl⟩
            · exact absurd rfl p9
          · refine z_iconst X d_Mod_same_38 ?_
            refine e_goto (tgt := 43) X d_Mod_same_39 (by decide) ?_
            refine e_istore X d_Mod_same_43 (by decide) ?_
            refine z_iconst X d_Mod_same_45 ?_
            refine e_istore X d_Mod_same_46 (by decide) ?_
            have loop : ∀ (d9 : Nat) (k9 : Nat), (vtx n t V j).1 + 1 - k9 < d9 → k9 ≤ (vtx n t V j).1 → Ev k G 7 N 0 0 h 48 [some (.ref (ad (g_b G) 42)), some (vI ((j : Nat) : Int)), some (vI ((i : Nat) : Int)), some (vI ((svx now j : Nat) : Int)), some (vI ((svx now i : Nat) : Int)), some (vI (b2z (eqb (vtx n t V j).2 (vtx n t V i).2 k9))), some (vI ((k9 : Nat) : Int))] [] := by
              intro d9
              induction d9 with
              | zero =>
                intro k9 hm9
                exact absurd hm9 (Nat.not_lt_zero _)
              | succ d9 ih =>
                intro k9 hm9 hk
                refine z_iload X d_Mod_same_48 rfl ?_
                refine z_if_eq (tgt := 107) X d_Mod_same_50 (by decide) (b2z_r _) (fun p4 => ?_) (fun p4 => ?_)
                · refine z_iload X d_Mod_same_107 rfl ?_
                  have hno := of_decide_eq_false (b2z_eq p4)
                  exact z_ireturn X Q d_Mod_same_109 (b2z_nar _) ⟨(by unfold s_same; rw [hv_v, hv_a, Bool.true_and, Bool.true_and, show ((j : Nat) : Int).toNat = j from rfl, show ((i : Nat) : Int).toNat = i from rfl]; unfold smu; exact p4.trans (b2z_f (decide_eq_false (fun q9 => hno (fun k hk => q9.2 k (by omega))))).symm), rfl⟩
                · have hyes := of_decide_eq_true (b2z_ne p4)
                  refine z_iload X d_Mod_same_53 rfl ?_
                  refine e_aload_n X d_Mod_same_55 rfl ?_
                  refine e_get X d_Mod_same_56 fl_Mod_13 d42 (by omega) rfl ?_
                  refine z_iload_n X d_Mod_same_59 rfl ?_
                  refine z_iald X d_Mod_same_60 (j := (svx now j)) d44 (by omega) (by omega) (by omega) ?_
                  refine z_top (show _ = (((vtx n t V j).1 : Nat) : Int) from hSv_v.1) ?_
                  refine z_icmp_ge (tgt := 107) X d_Mod_same_61 (by decide) (by omega) (fun p5 => ?_) (fun p5 => ?_)
                  · refine z_iload X d_Mod_same_107 rfl ?_
                    exact z_ireturn X Q d_Mod_same_109 (b2z_nar _) ⟨(by unfold s_same; rw [hv_v, hv_a, Bool.true_and, Bool.true_and, show ((j : Nat) : Int).toNat = j from rfl, show ((i : Nat) : Int).toNat = i from rfl]; unfold smu; rw [decide_eq_true (show (vtx n t V j).1 = (vtx n t V i).1 ∧ ∀ k, k < (vtx n t V j).1 → (vtx n t V j).2 k = (vtx n t V i).2 k from ⟨by omega, fun k hk => hyes k (by omega)⟩)]; exact b2z_t (b2z_ne p4)), rfl⟩
                  · have hr1 := htx_v.1 k9 (by omega)
                    have hr2 := htx_a.1 k9 (by omega)
                    refine e_aload_n X d_Mod_same_64 rfl ?_
                    refine e_get X d_Mod_same_65 fl_Mod_7 d42 (by omega) rfl ?_
                    refine z_sipush X d_Mod_same_68 (by decide) ?_
                    refine z_iload_n X d_Mod_same_71 rfl ?_
                    refine z_imul X d_Mod_same_72 ?_
                    refine z_iload X d_Mod_same_73 rfl ?_
                    refine z_iadd X d_Mod_same_75 ?_
                    refine z_iald X d_Mod_same_76 (j := ((160 * (svx now j)) + k9)) d43 (by omega) (by omega) (by omega) ?_
                    refine z_top (show _ = ((vtx n t V j).2 k9) from hSv_v.2.2.1 k9 (by omega)) ?_
                    refine e_aload_n X d_Mod_same_77 rfl ?_
                    refine e_get X d_Mod_same_78 fl_Mod_7 d42 (by omega) rfl ?_
                    refine z_sipush X d_Mod_same_81 (by decide) ?_
                    refine z_iload X d_Mod_same_84 rfl ?_
                    refine z_imul X d_Mod_same_86 ?_
                    refine z_iload X d_Mod_same_87 rfl ?_
                    refine z_iadd X d_Mod_same_89 ?_
                    refine z_iald X d_Mod_same_90 (j := ((160 * (svx now i)) + k9)) d43 (by omega) (by omega) (by omega) ?_
                    refine z_top (show _ = ((vtx n t V i).2 k9) from hSv_a.2.2.1 k9 (by omega)) ?_
                    refine z_icmp_ne (tgt := 98) X d_Mod_same_91 (by decide) (by omega) (fun p6 => ?_) (fun p6 => ?_)
                    · refine z_iconst X d_Mod_same_98 ?_
                      refine z_top (show _ = (b2z (eqb (vtx n t V j).2 (vtx n t V i).2 (k9 + 1))) from (b2z_f (decide_eq_false (fun q9 => p6 (q9 k9 (by omega))))).symm) ?_
                      refine e_istore X d_Mod_same_99 (by decide) ?_
                      refine z_iinc X d_Mod_same_101 rfl (by decide) ?_
                      refine e_goto (tgt := 48) X d_Mod_same_104 (by decide) ?_
                      exact ih (k9 + 1) (by omega) (by omega)
                    · refine z_iconst X d_Mod_same_94 ?_
                      refine e_goto (tgt := 99) X d_Mod_same_95 (by decide) ?_
                      refine z_top (show _ = (b2z (eqb (vtx n t V j).2 (vtx n t V i).2 (k9 + 1))) from (b2z_t (decide_eq_true (fun k hk => by rcases Nat.lt_or_ge k k9 with h8 | h8; exact hyes k h8; rw [show k = k9 by omega]; exact p6))).symm) ?_
                      refine e_istore X d_Mod_same_99 (by decide) ?_
                      refine z_iinc X d_Mod_same_101 rfl (by decide) ?_
                      refine e_goto (tgt := 48) X d_Mod_same_104 (by decide) ?_
                      exact ih (k9 + 1) (by omega) (by omega)
            rw [show (1 : Int) = b2z (eqb (vtx n t V j).2 (vtx n t V i).2 0) from (b2z_t (decide_eq_true (fun k hk => absurd hk (Nat.not_lt_zero _)))).symm]
            exact loop _ 0 (Nat.lt_succ_self _) (Nat.zero_le _)

